set_option maxHeartbeats 4000000 in
set_option maxRecDepth 100000 in
theorem c_X4_sweep (l : Launch) (D : va_G) (cA : ClassId) (ad : Nat → Nat) (A : Nat → Prop) (hDD : ∀ u, va_D A (cW ad cA u)) (σ : CS) (a mm n0 : Int32) (hI : Inv σ) (hg : sGr σ = 0) (hb9 : sBc σ ≤ 1000000000) : Ct l D cA (cW ad cA) A yX4_sweep cX4_sweep 8 (some .int) 3 66 [.ref (ad 0), .int a, .int mm, .int n0] σ (fun r u => r = (f_sweep σ a mm n0).1 ∧ u = (f_sweep σ a mm n0).2) := by
  refine Ct.of (by decide) (Nat.le_of_ble_eq_true rfl) ?_
  intro p e s m below meth c ls S0 hr hlocks hK hP hS hl
  obtain ⟨hx, hb, hml, hown, hts⟩ := id S0
  have hl : lv_has ls 8 [(0, .ref (ad 0)), (1, .int a), (2, .int mm), (3, .int n0)] := hl
  have hkc := hI.kc
  have hvc := hI.vc
  have hgc := hI.gr
  have htc := hI.tc
  rcases hrw : row σ a mm with _ | q
  · skip
    refine lv_aload_n hx hb dX4_sweep_0 rfl (lv_at hl 0 rfl) ?_
    refine lv_iload_n hx hb dX4_sweep_1 rfl (lv_at hl 1 rfl) ?_
    refine lv_iload_n hx hb dX4_sweep_2 rfl (lv_at hl 2 rfl) ?_
    refine cl_i (rest := []) (c_X4_hasRow l D cA ad A hDD σ a mm hI) ⟨hx, hb, hml, hown, hts⟩ hK hP hS kv_X4_103 ⟨Nat.le_of_ble_eq_true rfl, Nat.le_of_ble_eq_true rfl⟩ ⟨Nat.zero_le _, Nat.zero_le _⟩ 0 rfl rfl rfl hl.1 rfl (Nat.le_of_ble_eq_true rfl) (fun q h => h) dX4_sweep_3 (fun r u H locs hw hP hS _ => ?_)
    rw [hw.2] at hP
    refine tp_i (z := (bz ((row σ a mm).isSome = true))) hw.1 ?_
    refine tp_i (z := 0) (bz_0 (isS_0 hrw)) ?_
    refine lv_if_eq (tgt := 19) hx hb dX4_sweep_6 (by decide) (fun _ => ?_) (fun c9 => absurd (by decide) c9)
    refine lv_bipush (v := (-2)) hx hb dX4_sweep_19 (by decide) ?_
    exact rt_i (v := (-2)) (u := σ) hx hb hr hlocks hS hP (pr2 (sweep_b hrw)) dX4_sweep_21
  · obtain ⟨i, k⟩ := q
    obtain ⟨rfl, rfl, hk1, hk2, hik⟩ := row_f hvc hrw
    refine lv_aload_n hx hb dX4_sweep_0 rfl (lv_at hl 0 rfl) ?_
    refine lv_iload_n hx hb dX4_sweep_1 rfl (lv_at hl 1 rfl) ?_
    refine lv_iload_n hx hb dX4_sweep_2 rfl (lv_at hl 2 rfl) ?_
    refine cl_i (rest := []) (c_X4_hasRow l D cA ad A hDD σ (nI i) (nI k) hI) ⟨hx, hb, hml, hown, hts⟩ hK hP hS kv_X4_103 ⟨Nat.le_of_ble_eq_true rfl, Nat.le_of_ble_eq_true rfl⟩ ⟨Nat.zero_le _, Nat.zero_le _⟩ 0 rfl rfl rfl hl.1 rfl (Nat.le_of_ble_eq_true rfl) (fun q h => h) dX4_sweep_3 (fun r u H locs hw hP hS _ => ?_)
    rw [hw.2] at hP
    refine tp_i (z := (bz ((row σ (nI i) (nI k)).isSome = true))) hw.1 ?_
    refine tp_i (z := 1) (bz_1 (isS_1 hrw)) ?_
    refine lv_if_eq (tgt := 19) hx hb dX4_sweep_6 (by decide) (fun c9 => absurd c9 (by decide)) (fun _ => ?_)
    by_cases hn : 1 ≤ n0 ∧ n0 ≤ 1000000
    · obtain ⟨n, hn1, hn2, rfl⟩ := rng (lo := 1) (hi := 1000000) (by decide) (by decide) hn
      have loop : ∀ (f v w : Nat) (τ : CS) (H : Heap) (locs : List Loc) (ls : Array Slot), v + f = i + k → 1 ≤ w → w ≤ 1000000 → Inv τ → sGr τ = 0 → sVc τ = sVc σ → sBc τ + 4 * f ≤ 1000001000 → sl (nI n) f v (nI w) τ = sl (nI n) k i (nI n) σ → va_P D vwCl (cW ad cA τ) H → va_S A s.heap H locs → lv_has ls 8 [(5, .int (nI v)), (4, .int (nI w)), (0, .ref (ad 0)), (1, .int (nI i)), (2, .int (nI k)), (3, .int (nI n))] → W p l e { frames := 3, cells := 0, slots := 0, locals := 66 } s m ([.ref (ad 0), .int (nI i), .int (nI k), .int (nI n)] : List Value).toArray below meth c H locs 0 0 (MQ below (va_Qi (fun r u => r = (f_sweep σ (nI i) (nI k) (nI n)).1 ∧ u = (f_sweep σ (nI i) (nI k) (nI n)).2) (fun u t => va_P D vwCl (cW ad cA u) t.heap) A) ([.ref (ad 0), .int (nI i), .int (nI k), .int (nI n)] : List Value).toArray s 0 0 A) (F0 m 28 ls []) := by
        intro f
        induction f with
        | zero =>
          intro v w τ H locs ls hvf hw1 hw2 hIt hgt hvt hbt hE hP hS hl
          refine lv_iload hx hb dX4_sweep_28 (lv_at hl 0 rfl) ?_
          refine lv_iload_n hx hb dX4_sweep_30 rfl (lv_at hl 3 rfl) ?_
          refine lv_iload_n hx hb dX4_sweep_31 rfl (lv_at hl 4 rfl) ?_
          refine lv_iadd hx hb dX4_sweep_32 ?_
          refine tp_i (z := (nI (i + k))) (nI_add _ _) ?_
          refine lv_icmp_ge (tgt := 161) hx hb dX4_sweep_33 (by decide) (fun _ => ?_) (fun c9 => absurd (nI_le (by omega) (by omega)) c9)
          refine lv_iload_n hx hb dX4_sweep_161 rfl (lv_at hl 5 rfl) ?_
          refine lv_iload hx hb dX4_sweep_162 (lv_at hl 1 rfl) ?_
          refine lv_isub hx hb dX4_sweep_164 ?_
          exact rt_i (v := ((nI n) - (nI w))) (u := τ) hx hb hr hlocks hS hP ((by rw [sweep_g hrw hn, ← hE]; exact ⟨rfl, rfl⟩)) dX4_sweep_165
        | succ f ih =>
          intro v w τ H locs ls hvf hw1 hw2 hIt hgt hvt hbt hE hP hS hl
          have hv2 : v < sVc τ := by omega
          have hvt12 := hIt.vc
          have s1 := th_st (h := 0) hIt (hIt.lf hv2) (by omega)
          refine lv_iload hx hb dX4_sweep_28 (lv_at hl 0 rfl) ?_
          refine lv_iload_n hx hb dX4_sweep_30 rfl (lv_at hl 3 rfl) ?_
          refine lv_iload_n hx hb dX4_sweep_31 rfl (lv_at hl 4 rfl) ?_
          refine lv_iadd hx hb dX4_sweep_32 ?_
          refine tp_i (z := (nI (i + k))) (nI_add _ _) ?_
          refine lv_icmp_ge (tgt := 161) hx hb dX4_sweep_33 (by decide) (fun c9 => absurd c9 (nI_ge (by omega) (by omega))) (fun _ => ?_)
          refine lv_iload hx hb dX4_sweep_36 (lv_at hl 1 rfl) ?_
          refine lv_if_le (tgt := 161) hx hb dX4_sweep_38 (by decide) (fun c9 => absurd c9 (nI_nle (by omega) (by omega))) (fun _ => ?_)
          refine lv_aload_n hx hb dX4_sweep_41 rfl (lv_at hl 2 rfl) ?_
          refine lv_iload hx hb dX4_sweep_42 (lv_at hl 0 rfl) ?_
          refine lv_iconst (v := 0) hx hb dX4_sweep_44 (by decide) ?_
          refine cl_i (rest := []) (c_X4_turnHand l D cA ad A hDD τ v 0 (sLf τ v) (hd_0 _ _) (hIt.lf hv2) hIt hv2 (by omega) (by omega)) ⟨hx, hb, hml, hown, hts⟩ hK hP hS kv_X4_106 ⟨Nat.le_of_ble_eq_true rfl, Nat.le_of_ble_eq_true rfl⟩ ⟨Nat.zero_le _, Nat.zero_le _⟩ 0 rfl rfl rfl hl.1 rfl (Nat.le_of_ble_eq_true rfl) (fun q h => h) dX4_sweep_45 (fun r u1 H locs hw hP hS _ => ?_)
          have hu1 : u1 = (th τ (sLf τ v) 0).2 := hw.2
          refine tp_i (z := (thc (th τ (sLf τ v) 0).1)) hw.1 ?_
          rcases th_012 τ (sLf τ v) 0 with q | q | q
          · rw [← hu1] at s1
            have b1 := s1.2.2.2.2
            have hv3 : v < sVc u1 := by rw [s1.2.1]; exact hv2
            have hv312 := s1.1.vc
            have g1 : sGr u1 = 1 := by rw [hu1, th_gr0 q, hgt]
            have hX2 : HX (sKc u1) (sRt τ v) := by rw [s1.2.2.2.1]; exact hIt.rt hv2
            have s2 := th_st (h := 1) s1.1 hX2 (by omega)
            refine tp_i (z := 0) (by rw [q]; rfl) ?_
            refine lv_istore (lv' := [(6, .int 0), (5, .int (nI v)), (4, .int (nI w)), (0, .ref (ad 0)), (1, .int (nI i)), (2, .int (nI k)), (3, .int (nI n))]) hx hb dX4_sweep_48 hl (by decide) rfl (fun ls hl => ?_)
            refine lv_iload hx hb dX4_sweep_50 (lv_at hl 0 rfl) ?_
            refine lv_if_ne (tgt := 64) hx hb dX4_sweep_52 (by decide) (fun c9 => absurd (by decide) c9) (fun _ => ?_)
            refine lv_aload_n hx hb dX4_sweep_55 rfl (lv_at hl 3 rfl) ?_
            refine lv_iload hx hb dX4_sweep_56 (lv_at hl 1 rfl) ?_
            refine lv_iconst (v := 1) hx hb dX4_sweep_58 (by decide) ?_
            refine cl_i (rest := []) (c_X4_turnHand l D cA ad A hDD u1 v 1 (sRt τ v) ((hd_1 _ _).trans (th_rtu hu1)) hX2 s1.1 hv3 (by omega) (by omega)) ⟨hx, hb, hml, hown, hts⟩ hK hP hS kv_X4_106 ⟨Nat.le_of_ble_eq_true rfl, Nat.le_of_ble_eq_true rfl⟩ ⟨Nat.zero_le _, Nat.zero_le _⟩ 0 rfl rfl rfl hl.1 rfl (Nat.le_of_ble_eq_true rfl) (fun q h => h) dX4_sweep_59 (fun r u2 H locs hw hP hS _ => ?_)
            have hu2 : u2 = (th u1 (sRt τ v) 1).2 := hw.2
            refine tp_i (z := (thc (th u1 (sRt τ v) 1).1)) hw.1 ?_
            rcases th_012 u1 (sRt τ v) 1 with y | y | y
            · rw [← hu2] at s2
              have b2 := s2.2.2.2.2
              have s3 := s1.tr s2
              have hv4 : v < sVc u2 := by rw [s2.2.1]; exact hv3
              have hv412 := s2.1.vc
              have g2 : sGr u2 = 2 := by rw [hu2, th_gr0 y, g1]
              obtain ⟨z, hz, ez⟩ := swp_w (v := v) s2.1 hw2
              refine tp_i (z := 0) (by rw [y]; rfl) ?_
              refine lv_istore (lv' := [(6, .int 0), (5, .int (nI v)), (4, .int (nI w)), (0, .ref (ad 0)), (1, .int (nI i)), (2, .int (nI k)), (3, .int (nI n))]) hx hb dX4_sweep_62 hl (by decide) rfl (fun ls hl => ?_)
              refine lv_iload hx hb dX4_sweep_64 (lv_at hl 0 rfl) ?_
              refine lv_bipush (v := (-7)) hx hb dX4_sweep_66 (by decide) ?_
              refine lv_icmp_ne (tgt := 78) hx hb dX4_sweep_68 (by decide) (fun _ => ?_) (fun c9 => absurd c9 (by decide))
              refine lv_iload hx hb dX4_sweep_78 (lv_at hl 0 rfl) ?_
              refine lv_iconst (v := 1) hx hb dX4_sweep_80 (by decide) ?_
              refine lv_icmp_ne (tgt := 96) hx hb dX4_sweep_81 (by decide) (fun _ => ?_) (fun c9 => absurd c9 (by decide))
              refine lv_aload_n hx hb dX4_sweep_96 rfl (lv_at hl 3 rfl) ?_
              refine va_get (D := D) (ci := 4) (v := .ref (ad 2)) (C := RX4) (T := TX4) (N := 7) hx hb hts in_X4 hown hK hP 0 rfl rfl 1 (by decide) (hts _ kf_X4_19) (fun _ h9 => h9) rfl dX4_sweep_97 ?_
              refine va_get (D := D) (ci := 3) (v := .ref (ad 11)) (C := RX3) (T := TX3) (N := 6) hx hb hts in_X3 hown hK hP 2 rfl rfl 1 (by decide) (hts _ kf_X4_91) (fun _ h9 => h9) rfl dX4_sweep_100 ?_
              refine lv_iload hx hb dX4_sweep_103 (lv_at hl 1 rfl) ?_
              refine ar_g hx hb hK hP 11 rfl (by omega) (by decide) dX4_sweep_105 ?_
              refine lv_iload hx hb dX4_sweep_106 (lv_at hl 2 rfl) ?_
              refine va_mmin hx hb (by rw [hml]; exact hl.1.symm) hown (hts _ kx_X4_109) (hts _ (tg_in 274 rfl rfl)) (hts _ ki_J9) (hts _ ko_J9_min) (Nat.le_of_ble_eq_true rfl) (Nat.le_of_ble_eq_true rfl) (Nat.zero_le _) (Nat.zero_le _) dX4_sweep_108 ?_
              refine tp_i (z := (mn (sSm u2 v) (nI w))) (mn_c) ?_
              refine lv_istore (lv' := [(7, .int (mn (sSm u2 v) (nI w))), (6, .int 0), (5, .int (nI v)), (4, .int (nI w)), (0, .ref (ad 0)), (1, .int (nI i)), (2, .int (nI k)), (3, .int (nI n))]) hx hb dX4_sweep_111 hl (by decide) rfl (fun ls hl => ?_)
              refine lv_aload_n hx hb dX4_sweep_113 rfl (lv_at hl 4 rfl) ?_
              refine va_get (D := D) (ci := 4) (v := .ref (ad 2)) (C := RX4) (T := TX4) (N := 7) hx hb hts in_X4 hown hK hP 0 rfl rfl 1 (by decide) (hts _ kf_X4_19) (fun _ h9 => h9) rfl dX4_sweep_114 ?_
              refine va_get (D := D) (ci := 3) (v := .ref (ad 11)) (C := RX3) (T := TX3) (N := 6) hx hb hts in_X3 hown hK hP 2 rfl rfl 1 (by decide) (hts _ kf_X4_91) (fun _ h9 => h9) rfl dX4_sweep_117 ?_
              refine lv_iload hx hb dX4_sweep_120 (lv_at hl 2 rfl) ?_
              refine lv_dup2_11 hx hb dX4_sweep_122 rfl rfl ?_
              refine ar_g hx hb hK hP 11 rfl (by omega) (by decide) dX4_sweep_123 ?_
              refine lv_iload hx hb dX4_sweep_124 (lv_at hl 0 rfl) ?_
              refine lv_isub hx hb dX4_sweep_126 ?_
              refine ar_p hx hb hK hP (hDD _) hS 11 rfl (x := ((sSm u2 v) - (mn (sSm u2 v) (nI w)))) (by omega) (by decide) dX4_sweep_127 (fun H locs hP hS => ?_)
              have hP : va_P D vwCl (cW ad cA (u2.1, ((sLim u2), (upd (sSm u2) v ((sSm u2 v) - (mn (sSm u2 v) (nI w)))), (sNx u2), (sLf u2), (sRt u2), (sVc u2)), u2.2.2.1, u2.2.2.2.1, u2.2.2.2.2)) H := hP
              refine lv_iload hx hb dX4_sweep_128 (lv_at hl 3 rfl) ?_
              refine lv_iload hx hb dX4_sweep_130 (lv_at hl 0 rfl) ?_
              refine lv_isub hx hb dX4_sweep_132 ?_
              refine tp_i (z := (nI z)) (ez) ?_
              refine lv_istore (lv' := [(4, .int (nI z)), (7, .int (mn (sSm u2 v) (nI w))), (6, .int 0), (5, .int (nI v)), (0, .ref (ad 0)), (1, .int (nI i)), (2, .int (nI k)), (3, .int (nI n))]) hx hb dX4_sweep_133 hl (by decide) rfl (fun ls hl => ?_)
              refine lv_aload_n hx hb dX4_sweep_135 rfl (lv_at hl 4 rfl) ?_
              refine lv_iload hx hb dX4_sweep_136 (lv_at hl 0 rfl) ?_
              refine lv_if_ne (tgt := 147) hx hb dX4_sweep_138 (by decide) (fun cz => ?_) (fun cz => ?_)
              · refine lv_sipush (v := 200) hx hb dX4_sweep_147 (by decide) ?_
                refine lv_iconst (v := (-1)) hx hb dX4_sweep_150 (by decide) ?_
                refine cl_i (rest := []) (c_X4_letGo l D cA ad A hDD (u2.1, ((sLim u2), (upd (sSm u2) v ((sSm u2 v) - (mn (sSm u2 v) (nI w)))), (sNx u2), (sLf u2), (sRt u2), (sVc u2)), u2.2.2.1, u2.2.2.2.1, u2.2.2.2.2) 200 (-1) (swp_inv s2.1 hv4 hw2) (by show sBc u2 + sGr u2 < 2147483647; omega)) ⟨hx, hb, hml, hown, hts⟩ hK hP hS kv_X4_88 ⟨Nat.le_of_ble_eq_true rfl, Nat.le_of_ble_eq_true rfl⟩ ⟨Nat.zero_le _, Nat.zero_le _⟩ 0 rfl rfl rfl hl.1 rfl (Nat.le_of_ble_eq_true rfl) (fun q h => h) dX4_sweep_151 (fun r u H locs hw hP hS _ => ?_)
                rw [hw.2] at hP
                refine tp_i (z := (-1)) hw.1 ?_
                refine lv_pop hx hb dX4_sweep_154 rfl ?_
                refine lv_iinc (v := (nI (v + 1))) (lv' := [(5, .int (nI (v + 1))), (4, .int (nI z)), (7, .int (mn (sSm u2 v) (nI w))), (6, .int 0), (0, .ref (ad 0)), (1, .int (nI i)), (2, .int (nI k)), (3, .int (nI n))]) hx hb dX4_sweep_155 hl (k := 3) rfl (nI_1 _) (by decide) rfl (fun ls hl => ?_)
                refine lv_goto (tgt := 28) hx hb dX4_sweep_158 (by decide) ?_
                have hz1 : 1 ≤ z := Nat.pos_of_ne_zero fun q9 => cz (by rw [q9]; rfl)
                exact ih (v + 1) z (da 200 (ssm u2 (upd (sSm u2) v (sSm u2 v - mn (sSm u2 v) (nI w))))) _ _ ls (by omega) (by omega) (by omega) (Stq.da (w := 200) (Stq.ssm s3 (swp_inv s2.1 hv4 hw2))).1 rfl ((Stq.da (w := 200) (Stq.ssm s3 (swp_inv s2.1 hv4 hw2))).2.1.trans hvt) (by have h7 := (Stq.da (w := 200) (Stq.ssm s3 (swp_inv s2.1 hv4 hw2))).2.2.2.2; have h8 : sGr (da 200 (ssm u2 (upd (sSm u2) v (sSm u2 v - mn (sSm u2 v) (nI w))))) = 0 := rfl; omega) (((sl_5 hu1 q hu2 y).trans (swp_1 ez cz)).symm.trans hE) hP hS (lv_sub hl [0, 1, 4, 5, 6, 7] rfl)
              · refine lv_sipush (v := 400) hx hb dX4_sweep_141 (by decide) ?_
                refine lv_goto (tgt := 150) hx hb dX4_sweep_144 (by decide) ?_
                refine lv_iconst (v := (-1)) hx hb dX4_sweep_150 (by decide) ?_
                refine cl_i (rest := []) (c_X4_letGo l D cA ad A hDD (u2.1, ((sLim u2), (upd (sSm u2) v ((sSm u2 v) - (mn (sSm u2 v) (nI w)))), (sNx u2), (sLf u2), (sRt u2), (sVc u2)), u2.2.2.1, u2.2.2.2.1, u2.2.2.2.2) 400 (-1) (swp_inv s2.1 hv4 hw2) (by show sBc u2 + sGr u2 < 2147483647; omega)) ⟨hx, hb, hml, hown, hts⟩ hK hP hS kv_X4_88 ⟨Nat.le_of_ble_eq_true rfl, Nat.le_of_ble_eq_true rfl⟩ ⟨Nat.zero_le _, Nat.zero_le _⟩ 0 rfl rfl rfl hl.1 rfl (Nat.le_of_ble_eq_true rfl) (fun q h => h) dX4_sweep_151 (fun r u H locs hw hP hS _ => ?_)
                rw [hw.2] at hP
                refine tp_i (z := (-1)) hw.1 ?_
                refine lv_pop hx hb dX4_sweep_154 rfl ?_
                refine lv_iinc (v := (nI (v + 1))) (lv' := [(5, .int (nI (v + 1))), (4, .int (nI z)), (7, .int (mn (sSm u2 v) (nI w))), (6, .int 0), (0, .ref (ad 0)), (1, .int (nI i)), (2, .int (nI k)), (3, .int (nI n))]) hx hb dX4_sweep_155 hl (k := 3) rfl (nI_1 _) (by decide) rfl (fun ls hl => ?_)
                refine lv_goto (tgt := 28) hx hb dX4_sweep_158 (by decide) ?_
                refine lv_iload hx hb dX4_sweep_28 (lv_at hl 0 rfl) ?_
                refine lv_iload_n hx hb dX4_sweep_30 rfl (lv_at hl 5 rfl) ?_
                refine lv_iload_n hx hb dX4_sweep_31 rfl (lv_at hl 6 rfl) ?_
                refine lv_iadd hx hb dX4_sweep_32 ?_
                refine tp_i (z := (nI (i + k))) (nI_add _ _) ?_
                refine lv_icmp_ge (tgt := 161) hx hb dX4_sweep_33 (by decide) (fun c33 => ?_) (fun c33 => ?_)
                · refine lv_iload_n hx hb dX4_sweep_161 rfl (lv_at hl 7 rfl) ?_
                  refine lv_iload hx hb dX4_sweep_162 (lv_at hl 1 rfl) ?_
                  refine lv_isub hx hb dX4_sweep_164 ?_
                  exact rt_i (v := ((nI n) - (nI z))) (u := (da 400 (u2.1, ((sLim u2), (upd (sSm u2) v ((sSm u2 v) - (mn (sSm u2 v) (nI w)))), (sNx u2), (sLf u2), (sRt u2), (sVc u2)), u2.2.2.1, u2.2.2.2.1, u2.2.2.2.2))) hx hb hr hlocks hS hP ((by rw [sweep_g hrw hn, ← hE, sl_5 hu1 q hu2 y, swp_0 ez cz]; exact ⟨(by rw [cz]; exact Int32.sub_zero _), rfl⟩)) dX4_sweep_165
                · refine lv_iload hx hb dX4_sweep_36 (lv_at hl 1 rfl) ?_
                  refine lv_if_le (tgt := 161) hx hb dX4_sweep_38 (by decide) (fun _ => ?_) (fun c9 => absurd ((by rw [cz]; decide)) c9)
                  refine lv_iload_n hx hb dX4_sweep_161 rfl (lv_at hl 7 rfl) ?_
                  refine lv_iload hx hb dX4_sweep_162 (lv_at hl 1 rfl) ?_
                  refine lv_isub hx hb dX4_sweep_164 ?_
                  exact rt_i (v := ((nI n) - (nI z))) (u := (da 400 (u2.1, ((sLim u2), (upd (sSm u2) v ((sSm u2 v) - (mn (sSm u2 v) (nI w)))), (sNx u2), (sLf u2), (sRt u2), (sVc u2)), u2.2.2.1, u2.2.2.2.1, u2.2.2.2.2))) hx hb hr hlocks hS hP ((by rw [sweep_g hrw hn, ← hE, sl_5 hu1 q hu2 y, swp_0 ez cz]; exact ⟨(by rw [cz]; exact Int32.sub_zero _), rfl⟩)) dX4_sweep_165
            · rw [← hu2] at s2
              have b2 := s2.2.2.2.2
              have s3 := s1.tr s2
              have hv4 : v < sVc u2 := by rw [s2.2.1]; exact hv3
              have hv412 := s2.1.vc
              have g2 : sGr u2 = 1 := by rw [hu2, th_gr1 (by rw [y]; decide), g1]
              refine tp_i (z := 1) (by rw [y]; rfl) ?_
              refine lv_istore (lv' := [(6, .int 1), (5, .int (nI v)), (4, .int (nI w)), (0, .ref (ad 0)), (1, .int (nI i)), (2, .int (nI k)), (3, .int (nI n))]) hx hb dX4_sweep_62 hl (by decide) rfl (fun ls hl => ?_)
              refine lv_iload hx hb dX4_sweep_64 (lv_at hl 0 rfl) ?_
              refine lv_bipush (v := (-7)) hx hb dX4_sweep_66 (by decide) ?_
              refine lv_icmp_ne (tgt := 78) hx hb dX4_sweep_68 (by decide) (fun _ => ?_) (fun c9 => absurd c9 (by decide))
              refine lv_iload hx hb dX4_sweep_78 (lv_at hl 0 rfl) ?_
              refine lv_iconst (v := 1) hx hb dX4_sweep_80 (by decide) ?_
              refine lv_icmp_ne (tgt := 96) hx hb dX4_sweep_81 (by decide) (fun c9 => absurd (by decide) c9) (fun _ => ?_)
              refine lv_aload_n hx hb dX4_sweep_84 rfl (lv_at hl 3 rfl) ?_
              refine lv_sipush (v := 500) hx hb dX4_sweep_85 (by decide) ?_
              refine lv_iconst (v := (-1)) hx hb dX4_sweep_88 (by decide) ?_
              refine cl_i (rest := []) (c_X4_letGo l D cA ad A hDD u2 500 (-1) s2.1 (by omega)) ⟨hx, hb, hml, hown, hts⟩ hK hP hS kv_X4_88 ⟨Nat.le_of_ble_eq_true rfl, Nat.le_of_ble_eq_true rfl⟩ ⟨Nat.zero_le _, Nat.zero_le _⟩ 0 rfl rfl rfl hl.1 rfl (Nat.le_of_ble_eq_true rfl) (fun q h => h) dX4_sweep_89 (fun r u H locs hw hP hS _ => ?_)
              rw [hw.2] at hP
              refine tp_i (z := (-1)) hw.1 ?_
              refine lv_pop hx hb dX4_sweep_92 rfl ?_
              refine lv_goto (tgt := 155) hx hb dX4_sweep_93 (by decide) ?_
              refine lv_iinc (v := (nI (v + 1))) (lv' := [(5, .int (nI (v + 1))), (6, .int 1), (4, .int (nI w)), (0, .ref (ad 0)), (1, .int (nI i)), (2, .int (nI k)), (3, .int (nI n))]) hx hb dX4_sweep_155 hl (k := 1) rfl (nI_1 _) (by decide) rfl (fun ls hl => ?_)
              refine lv_goto (tgt := 28) hx hb dX4_sweep_158 (by decide) ?_
              exact ih (v + 1) w (da 500 u2) _ _ ls (by omega) (by omega) (by omega) (Stq.da (w := 500) s3).1 rfl ((Stq.da (w := 500) s3).2.1.trans hvt) (by have h7 := (Stq.da (w := 500) s3).2.2.2.2; have h8 : sGr (da 500 u2) = 0 := rfl; omega) ((sl_3 hu1 q hu2 y).symm.trans hE) hP hS (lv_sub hl [0, 2, 3, 4, 5, 6] rfl)
            · rw [← hu2] at s2
              have b2 := s2.2.2.2.2
              have s3 := s1.tr s2
              have hv4 : v < sVc u2 := by rw [s2.2.1]; exact hv3
              have hv412 := s2.1.vc
              have g2 : sGr u2 = 1 := by rw [hu2, th_gr1 (by rw [y]; decide), g1]
              refine tp_i (z := (-7)) (by rw [y]; rfl) ?_
              refine lv_istore (lv' := [(6, .int (-7)), (5, .int (nI v)), (4, .int (nI w)), (0, .ref (ad 0)), (1, .int (nI i)), (2, .int (nI k)), (3, .int (nI n))]) hx hb dX4_sweep_62 hl (by decide) rfl (fun ls hl => ?_)
              refine lv_iload hx hb dX4_sweep_64 (lv_at hl 0 rfl) ?_
              refine lv_bipush (v := (-7)) hx hb dX4_sweep_66 (by decide) ?_
              refine lv_icmp_ne (tgt := 78) hx hb dX4_sweep_68 (by decide) (fun c9 => absurd (by decide) c9) (fun _ => ?_)
              refine lv_aload_n hx hb dX4_sweep_71 rfl (lv_at hl 3 rfl) ?_
              refine lv_bipush (v := (-7)) hx hb dX4_sweep_72 (by decide) ?_
              refine cl_i (rest := []) (c_X4_raiseAlarm l D cA ad A hDD u2 (-7) s2.1 (by omega)) ⟨hx, hb, hml, hown, hts⟩ hK hP hS kv_X4_94 ⟨Nat.le_of_ble_eq_true rfl, Nat.le_of_ble_eq_true rfl⟩ ⟨Nat.zero_le _, Nat.zero_le _⟩ 0 rfl rfl rfl hl.1 rfl (Nat.le_of_ble_eq_true rfl) (fun q h => h) dX4_sweep_74 (fun r u H locs hw hP hS _ => ?_)
              rw [hw.2] at hP
              refine tp_i (z := (-7)) hw.1 ?_
              exact rt_i (v := (-7)) (u := (ra u2)) hx hb hr hlocks hS hP ((by rw [sweep_g hrw hn, ← hE, sl_4 hu1 q hu2 y]; exact ⟨rfl, rfl⟩)) dX4_sweep_77
          · rw [← hu1] at s1
            have b1 := s1.2.2.2.2
            have hv3 : v < sVc u1 := by rw [s1.2.1]; exact hv2
            have hv312 := s1.1.vc
            have g1 : sGr u1 = 0 := by rw [hu1, th_gr1 (by rw [q]; decide), hgt]
            refine tp_i (z := 1) (by rw [q]; rfl) ?_
            refine lv_istore (lv' := [(6, .int 1), (5, .int (nI v)), (4, .int (nI w)), (0, .ref (ad 0)), (1, .int (nI i)), (2, .int (nI k)), (3, .int (nI n))]) hx hb dX4_sweep_48 hl (by decide) rfl (fun ls hl => ?_)
            refine lv_iload hx hb dX4_sweep_50 (lv_at hl 0 rfl) ?_
            refine lv_if_ne (tgt := 64) hx hb dX4_sweep_52 (by decide) (fun _ => ?_) (fun c9 => absurd c9 (by decide))
            refine lv_iload hx hb dX4_sweep_64 (lv_at hl 0 rfl) ?_
            refine lv_bipush (v := (-7)) hx hb dX4_sweep_66 (by decide) ?_
            refine lv_icmp_ne (tgt := 78) hx hb dX4_sweep_68 (by decide) (fun _ => ?_) (fun c9 => absurd c9 (by decide))
            refine lv_iload hx hb dX4_sweep_78 (lv_at hl 0 rfl) ?_
            refine lv_iconst (v := 1) hx hb dX4_sweep_80 (by decide) ?_
            refine lv_icmp_ne (tgt := 96) hx hb dX4_sweep_81 (by decide) (fun c9 => absurd (by decide) c9) (fun _ => ?_)
            refine lv_aload_n hx hb dX4_sweep_84 rfl (lv_at hl 3 rfl) ?_
            refine lv_sipush (v := 500) hx hb dX4_sweep_85 (by decide) ?_
            refine lv_iconst (v := (-1)) hx hb dX4_sweep_88 (by decide) ?_
            refine cl_i (rest := []) (c_X4_letGo l D cA ad A hDD u1 500 (-1) s1.1 (by omega)) ⟨hx, hb, hml, hown, hts⟩ hK hP hS kv_X4_88 ⟨Nat.le_of_ble_eq_true rfl, Nat.le_of_ble_eq_true rfl⟩ ⟨Nat.zero_le _, Nat.zero_le _⟩ 0 rfl rfl rfl hl.1 rfl (Nat.le_of_ble_eq_true rfl) (fun q h => h) dX4_sweep_89 (fun r u H locs hw hP hS _ => ?_)
            rw [hw.2] at hP
            refine tp_i (z := (-1)) hw.1 ?_
            refine lv_pop hx hb dX4_sweep_92 rfl ?_
            refine lv_goto (tgt := 155) hx hb dX4_sweep_93 (by decide) ?_
            refine lv_iinc (v := (nI (v + 1))) (lv' := [(5, .int (nI (v + 1))), (6, .int 1), (4, .int (nI w)), (0, .ref (ad 0)), (1, .int (nI i)), (2, .int (nI k)), (3, .int (nI n))]) hx hb dX4_sweep_155 hl (k := 1) rfl (nI_1 _) (by decide) rfl (fun ls hl => ?_)
            refine lv_goto (tgt := 28) hx hb dX4_sweep_158 (by decide) ?_
            exact ih (v + 1) w (da 500 u1) _ _ ls (by omega) (by omega) (by omega) (Stq.da (w := 500) s1).1 rfl ((Stq.da (w := 500) s1).2.1.trans hvt) (by have h7 := (Stq.da (w := 500) s1).2.2.2.2; have h8 : sGr (da 500 u1) = 0 := rfl; omega) ((by rw [da_0 g1]; exact (sl_1 hu1 q).symm.trans hE)) hP hS (lv_sub hl [0, 2, 3, 4, 5, 6] rfl)
          · rw [← hu1] at s1
            have b1 := s1.2.2.2.2
            have hv3 : v < sVc u1 := by rw [s1.2.1]; exact hv2
            have hv312 := s1.1.vc
            have g1 : sGr u1 = 0 := by rw [hu1, th_gr1 (by rw [q]; decide), hgt]
            refine tp_i (z := (-7)) (by rw [q]; rfl) ?_
            refine lv_istore (lv' := [(6, .int (-7)), (5, .int (nI v)), (4, .int (nI w)), (0, .ref (ad 0)), (1, .int (nI i)), (2, .int (nI k)), (3, .int (nI n))]) hx hb dX4_sweep_48 hl (by decide) rfl (fun ls hl => ?_)
            refine lv_iload hx hb dX4_sweep_50 (lv_at hl 0 rfl) ?_
            refine lv_if_ne (tgt := 64) hx hb dX4_sweep_52 (by decide) (fun _ => ?_) (fun c9 => absurd c9 (by decide))
            refine lv_iload hx hb dX4_sweep_64 (lv_at hl 0 rfl) ?_
            refine lv_bipush (v := (-7)) hx hb dX4_sweep_66 (by decide) ?_
            refine lv_icmp_ne (tgt := 78) hx hb dX4_sweep_68 (by decide) (fun c9 => absurd (by decide) c9) (fun _ => ?_)
            refine lv_aload_n hx hb dX4_sweep_71 rfl (lv_at hl 3 rfl) ?_
            refine lv_bipush (v := (-7)) hx hb dX4_sweep_72 (by decide) ?_
            refine cl_i (rest := []) (c_X4_raiseAlarm l D cA ad A hDD u1 (-7) s1.1 (by omega)) ⟨hx, hb, hml, hown, hts⟩ hK hP hS kv_X4_94 ⟨Nat.le_of_ble_eq_true rfl, Nat.le_of_ble_eq_true rfl⟩ ⟨Nat.zero_le _, Nat.zero_le _⟩ 0 rfl rfl rfl hl.1 rfl (Nat.le_of_ble_eq_true rfl) (fun q h => h) dX4_sweep_74 (fun r u H locs hw hP hS _ => ?_)
            rw [hw.2] at hP
            refine tp_i (z := (-7)) hw.1 ?_
            exact rt_i (v := (-7)) (u := (ra u1)) hx hb hr hlocks hS hP ((by rw [sweep_g hrw hn, ← hE, sl_2 hu1 q]; exact ⟨rfl, rfl⟩)) dX4_sweep_77
      refine lv_iload_n hx hb dX4_sweep_9 rfl (lv_at hl 3 rfl) ?_
      refine lv_iconst (v := 1) hx hb dX4_sweep_10 (by decide) ?_
      refine lv_ldc (v := 1000000) hx hb hown (hts _ kc_X4_56) dX4_sweep_11 ?_
      refine cl_s (rest := []) (c_X4_isWithin l D cA ad A hDD σ (nI n) 1 1000000 ) ⟨hx, hb, hml, hown, hts⟩ hK hP hS kv_X4_48 ⟨Nat.le_of_ble_eq_true rfl, Nat.le_of_ble_eq_true rfl⟩ ⟨Nat.zero_le _, Nat.zero_le _⟩ rfl hl.1 rfl (Nat.le_of_ble_eq_true rfl) (fun q h => h) dX4_sweep_13 (fun r u H locs hw hP hS => ?_)
      rw [hw.2] at hP
      refine tp_i (z := (bz (1 ≤ (nI n) ∧ (nI n) ≤ 1000000))) hw.1 ?_
      refine tp_i (z := 1) (bz_1 hn) ?_
      refine lv_if_ne (tgt := 22) hx hb dX4_sweep_16 (by decide) (fun _ => ?_) (fun c9 => absurd c9 (by decide))
      refine lv_iload_n hx hb dX4_sweep_22 rfl (lv_at hl 3 rfl) ?_
      refine lv_istore (lv' := [(4, .int (nI n)), (0, .ref (ad 0)), (1, .int (nI i)), (2, .int (nI k)), (3, .int (nI n))]) hx hb dX4_sweep_23 hl (by decide) rfl (fun ls hl => ?_)
      refine lv_iload_n hx hb dX4_sweep_25 rfl (lv_at hl 2 rfl) ?_
      refine lv_istore (lv' := [(5, .int (nI i)), (4, .int (nI n)), (0, .ref (ad 0)), (1, .int (nI i)), (2, .int (nI k)), (3, .int (nI n))]) hx hb dX4_sweep_26 hl (by decide) rfl (fun ls hl => ?_)
      exact loop k i n σ _ _ ls rfl (by omega) (by omega) hI hg rfl (by omega) rfl hP hS (lv_sub hl [0, 1, 2, 3, 4, 5] rfl)
    · skip
      refine lv_iload_n hx hb dX4_sweep_9 rfl (lv_at hl 3 rfl) ?_
      refine lv_iconst (v := 1) hx hb dX4_sweep_10 (by decide) ?_
      refine lv_ldc (v := 1000000) hx hb hown (hts _ kc_X4_56) dX4_sweep_11 ?_
      refine cl_s (rest := []) (c_X4_isWithin l D cA ad A hDD σ n0 1 1000000 ) ⟨hx, hb, hml, hown, hts⟩ hK hP hS kv_X4_48 ⟨Nat.le_of_ble_eq_true rfl, Nat.le_of_ble_eq_true rfl⟩ ⟨Nat.zero_le _, Nat.zero_le _⟩ rfl hl.1 rfl (Nat.le_of_ble_eq_true rfl) (fun q h => h) dX4_sweep_13 (fun r u H locs hw hP hS => ?_)
      rw [hw.2] at hP
      refine tp_i (z := (bz (1 ≤ n0 ∧ n0 ≤ 1000000))) hw.1 ?_
      refine tp_i (z := 0) (bz_0 hn) ?_
      refine lv_if_ne (tgt := 22) hx hb dX4_sweep_16 (by decide) (fun c9 => absurd (by decide) c9) (fun _ => ?_)
      refine lv_bipush (v := (-2)) hx hb dX4_sweep_19 (by decide) ?_
      exact rt_i (v := (-2)) (u := σ) hx hb hr hlocks hS hP (pr2 (sweep_b2 hrw hn)) dX4_sweep_21
set_option maxHeartbeats 4000000 in
set_option maxRecDepth 100000 in
theorem c_X4_walk (l : Launch) (D : va_G) (cA : ClassId) (ad : Nat → Nat) (A : Nat → Prop) (hDD : ∀ u, va_D A (cW ad cA u)) (σ : CS) (v mm n : Int32) (hI : Inv σ) (hg : sGr σ = 0) (hb9 : sBc σ ≤ 1000000000) : Ct l D cA (cW ad cA) A yX4_walk cX4_walk 8 (some .int) 3 66 [.ref (ad 0), .int v, .int mm, .int n] σ (fun r u => r = (f_walk σ v mm n).1 ∧ u = (f_walk σ v mm n).2) := by
  refine Ct.of (by decide) (Nat.le_of_ble_eq_true rfl) ?_
  intro p e s m below meth c ls S0 hr hlocks hK hP hS hl
  obtain ⟨hx, hb, hml, hown, hts⟩ := id S0
  have hl : lv_has ls 8 [(0, .ref (ad 0)), (1, .int v), (2, .int mm), (3, .int n)] := hl
  have hkc := hI.kc
  have hvc := hI.vc
  have hgc := hI.gr
  have htc := hI.tc
  rcases ix_cases (n := sVc σ) v (by omega) with h0 | ⟨j, hj, rfl⟩
  · refine lv_aload_n hx hb dX4_walk_0 rfl (lv_at hl 0 rfl) ?_
    refine va_get (D := D) (ci := 4) (v := .ref (ad 2)) (C := RX4) (T := TX4) (N := 7) hx hb hts in_X4 hown hK hP 0 rfl rfl 1 (by decide) (hts _ kf_X4_19) (fun _ h9 => h9) rfl dX4_walk_1 ?_
    refine lv_iload_n hx hb dX4_walk_4 rfl (lv_at hl 1 rfl) ?_
    refine cl_i (rest := []) (c_X3_has l D cA ad A hDD σ v ) ⟨hx, hb, hml, hown, hts⟩ hK hP hS kv_X4_75 ⟨Nat.le_of_ble_eq_true rfl, Nat.le_of_ble_eq_true rfl⟩ ⟨Nat.zero_le _, Nat.zero_le _⟩ 2 rfl rfl rfl hl.1 rfl (Nat.le_of_ble_eq_true rfl) (fun q h => h) dX4_walk_5 (fun r u H locs hw hP hS _ => ?_)
    rw [hw.2] at hP
    refine tp_i (z := (hz (sVc σ) v)) hw.1 ?_
    refine tp_i (z := 0) (hz_0 h0) ?_
    refine lv_if_eq (tgt := 25) hx hb dX4_walk_8 (by decide) (fun _ => ?_) (fun c9 => absurd (by decide) c9)
    refine lv_bipush (v := (-2)) hx hb dX4_walk_25 (by decide) ?_
    exact rt_i (v := (-2)) (u := σ) hx hb hr hlocks hS hP (pr2 (walk_b (fun q => ix_none_s h0 q.1))) dX4_walk_27
  · have h0 := ix_nI hj (n := sVc σ) (by omega)
    refine lv_aload_n hx hb dX4_walk_0 rfl (lv_at hl 0 rfl) ?_
    refine va_get (D := D) (ci := 4) (v := .ref (ad 2)) (C := RX4) (T := TX4) (N := 7) hx hb hts in_X4 hown hK hP 0 rfl rfl 1 (by decide) (hts _ kf_X4_19) (fun _ h9 => h9) rfl dX4_walk_1 ?_
    refine lv_iload_n hx hb dX4_walk_4 rfl (lv_at hl 1 rfl) ?_
    refine cl_i (rest := []) (c_X3_has l D cA ad A hDD σ (nI j) ) ⟨hx, hb, hml, hown, hts⟩ hK hP hS kv_X4_75 ⟨Nat.le_of_ble_eq_true rfl, Nat.le_of_ble_eq_true rfl⟩ ⟨Nat.zero_le _, Nat.zero_le _⟩ 2 rfl rfl rfl hl.1 rfl (Nat.le_of_ble_eq_true rfl) (fun q h => h) dX4_walk_5 (fun r u H locs hw hP hS _ => ?_)
    rw [hw.2] at hP
    refine tp_i (z := (hz (sVc σ) (nI j))) hw.1 ?_
    refine tp_i (z := 1) (hz_1 h0) ?_
    refine lv_if_eq (tgt := 25) hx hb dX4_walk_8 (by decide) (fun c9 => absurd c9 (by decide)) (fun _ => ?_)
    by_cases hm : 1 ≤ mm ∧ mm ≤ 60
    · obtain ⟨k, hk1, hk2, rfl⟩ := rng (lo := 1) (hi := 60) (by decide) (by decide) hm
      by_cases hn : 0 ≤ n
      · have loop : ∀ (f c0 : Nat) (x t : Int32) (τ : CS) (H : Heap) (locs : List Loc) (ls : Array Slot), c0 + f = k → HX (sVc σ) x → Inv τ → sGr τ ≤ c0 → sVc τ = sVc σ → sBc τ + sGr τ + 2 * f ≤ 1000001000 → wl n f x t τ = wl n k (nI j) 0 σ → va_P D vwCl (cW ad cA τ) H → va_S A s.heap H locs → lv_has ls 8 [(5, .int x), (4, .int t), (6, .int (nI c0)), (0, .ref (ad 0)), (1, .int (nI j)), (2, .int (nI k)), (3, .int n)] → W p l e { frames := 3, cells := 0, slots := 0, locals := 66 } s m ([.ref (ad 0), .int (nI j), .int (nI k), .int n] : List Value).toArray below meth c H locs 0 0 (MQ below (va_Qi (fun r u => r = (f_walk σ (nI j) (nI k) n).1 ∧ u = (f_walk σ (nI j) (nI k) n).2) (fun u t => va_P D vwCl (cW ad cA u) t.heap) A) ([.ref (ad 0), .int (nI j), .int (nI k), .int n] : List Value).toArray s 0 0 A) (F0 m 37 ls []) := by
          intro f
          induction f with
          | zero =>
            intro c0 x t τ H locs ls hcf hX hIt hgt hvt hbt hE hP hS hl
            refine lv_iload hx hb dX4_walk_37 (lv_at hl 2 rfl) ?_
            refine lv_iload_n hx hb dX4_walk_39 rfl (lv_at hl 5 rfl) ?_
            refine lv_icmp_ge (tgt := 133) hx hb dX4_walk_40 (by decide) (fun _ => ?_) (fun c9 => absurd (nI_le (by omega) (by omega)) c9)
            refine lv_aload_n hx hb dX4_walk_133 rfl (lv_at hl 3 rfl) ?_
            refine lv_sipush (v := 200) hx hb dX4_walk_134 (by decide) ?_
            refine lv_iload hx hb dX4_walk_137 (lv_at hl 1 rfl) ?_
            refine cl_i (rest := []) (c_X4_letGo l D cA ad A hDD τ 200 t hIt (by omega)) ⟨hx, hb, hml, hown, hts⟩ hK hP hS kv_X4_88 ⟨Nat.le_of_ble_eq_true rfl, Nat.le_of_ble_eq_true rfl⟩ ⟨Nat.zero_le _, Nat.zero_le _⟩ 0 rfl rfl rfl hl.1 rfl (Nat.le_of_ble_eq_true rfl) (fun q h => h) dX4_walk_139 (fun r u H locs hw hP hS _ => ?_)
            rw [hw.2] at hP
            refine tp_i (z := t) hw.1 ?_
            exact rt_i (v := t) (u := (da 200 τ)) hx hb hr hlocks hS hP ((by rw [walk_g h0 hk1 hk2 hn, ← hE]; exact ⟨rfl, rfl⟩)) dX4_walk_142
          | succ f ih =>
            intro c0 x t τ H locs ls hcf hX hIt hgt hvt hbt hE hP hS hl
            refine lv_iload hx hb dX4_walk_37 (lv_at hl 2 rfl) ?_
            refine lv_iload_n hx hb dX4_walk_39 rfl (lv_at hl 5 rfl) ?_
            refine lv_icmp_ge (tgt := 133) hx hb dX4_walk_40 (by decide) (fun c9 => absurd c9 (nI_ge (by omega) (by omega))) (fun _ => ?_)
            rcases hX with rfl | ⟨g, hg1, rfl⟩
            · skip
              refine lv_aload_n hx hb dX4_walk_43 rfl (lv_at hl 3 rfl) ?_
              refine va_get (D := D) (ci := 4) (v := .ref (ad 2)) (C := RX4) (T := TX4) (N := 7) hx hb hts in_X4 hown hK hP 0 rfl rfl 1 (by decide) (hts _ kf_X4_19) (fun _ h9 => h9) rfl dX4_walk_44 ?_
              refine lv_iload hx hb dX4_walk_47 (lv_at hl 0 rfl) ?_
              refine cl_i (rest := []) (c_X3_has l D cA ad A hDD τ (-1) ) ⟨hx, hb, hml, hown, hts⟩ hK hP hS kv_X4_75 ⟨Nat.le_of_ble_eq_true rfl, Nat.le_of_ble_eq_true rfl⟩ ⟨Nat.zero_le _, Nat.zero_le _⟩ 2 rfl rfl rfl hl.1 rfl (Nat.le_of_ble_eq_true rfl) (fun q h => h) dX4_walk_49 (fun r u H locs hw hP hS _ => ?_)
              rw [hw.2] at hP
              refine tp_i (z := (hz (sVc τ) (-1))) hw.1 ?_
              refine tp_i (z := 0) (hz_0 (ix_lt0 (by decide))) ?_
              refine lv_if_eq (tgt := 133) hx hb dX4_walk_52 (by decide) (fun _ => ?_) (fun c9 => absurd (by decide) c9)
              refine lv_aload_n hx hb dX4_walk_133 rfl (lv_at hl 3 rfl) ?_
              refine lv_sipush (v := 200) hx hb dX4_walk_134 (by decide) ?_
              refine lv_iload hx hb dX4_walk_137 (lv_at hl 1 rfl) ?_
              refine cl_i (rest := []) (c_X4_letGo l D cA ad A hDD τ 200 t hIt (by omega)) ⟨hx, hb, hml, hown, hts⟩ hK hP hS kv_X4_88 ⟨Nat.le_of_ble_eq_true rfl, Nat.le_of_ble_eq_true rfl⟩ ⟨Nat.zero_le _, Nat.zero_le _⟩ 0 rfl rfl rfl hl.1 rfl (Nat.le_of_ble_eq_true rfl) (fun q h => h) dX4_walk_139 (fun r u H locs hw hP hS _ => ?_)
              rw [hw.2] at hP
              refine tp_i (z := t) hw.1 ?_
              exact rt_i (v := t) (u := (da 200 τ)) hx hb hr hlocks hS hP ((by rw [walk_g h0 hk1 hk2 hn, ← hE, wl_n]; exact ⟨rfl, rfl⟩)) dX4_walk_142
            · have hg2 : g < sVc τ := by rw [hvt]; exact hg1
              have hvt12 := hIt.vc
              have s1 := th_st (h := 0) hIt (hIt.lf hg2) (by omega)
              have gr1 := th_gr (σ := τ) (x := sLf τ g) (h := 0)
              refine lv_aload_n hx hb dX4_walk_43 rfl (lv_at hl 3 rfl) ?_
              refine va_get (D := D) (ci := 4) (v := .ref (ad 2)) (C := RX4) (T := TX4) (N := 7) hx hb hts in_X4 hown hK hP 0 rfl rfl 1 (by decide) (hts _ kf_X4_19) (fun _ h9 => h9) rfl dX4_walk_44 ?_
              refine lv_iload hx hb dX4_walk_47 (lv_at hl 0 rfl) ?_
              refine cl_i (rest := []) (c_X3_has l D cA ad A hDD τ (nI g) ) ⟨hx, hb, hml, hown, hts⟩ hK hP hS kv_X4_75 ⟨Nat.le_of_ble_eq_true rfl, Nat.le_of_ble_eq_true rfl⟩ ⟨Nat.zero_le _, Nat.zero_le _⟩ 2 rfl rfl rfl hl.1 rfl (Nat.le_of_ble_eq_true rfl) (fun q h => h) dX4_walk_49 (fun r u H locs hw hP hS _ => ?_)
              rw [hw.2] at hP
              refine tp_i (z := (hz (sVc τ) (nI g))) hw.1 ?_
              refine tp_i (z := 1) (hz_1 (ix_nI hg2 (by omega))) ?_
              refine lv_if_eq (tgt := 133) hx hb dX4_walk_52 (by decide) (fun c9 => absurd c9 (by decide)) (fun _ => ?_)
              refine lv_aload_n hx hb dX4_walk_55 rfl (lv_at hl 3 rfl) ?_
              refine lv_iload hx hb dX4_walk_56 (lv_at hl 0 rfl) ?_
              refine lv_iconst (v := 0) hx hb dX4_walk_58 (by decide) ?_
              refine cl_i (rest := []) (c_X4_turnHand l D cA ad A hDD τ g 0 (sLf τ g) (hd_0 _ _) (hIt.lf hg2) hIt hg2 (by omega) (by omega)) ⟨hx, hb, hml, hown, hts⟩ hK hP hS kv_X4_106 ⟨Nat.le_of_ble_eq_true rfl, Nat.le_of_ble_eq_true rfl⟩ ⟨Nat.zero_le _, Nat.zero_le _⟩ 0 rfl rfl rfl hl.1 rfl (Nat.le_of_ble_eq_true rfl) (fun q h => h) dX4_walk_59 (fun r u1 H locs hw hP hS _ => ?_)
              have hu1 : u1 = (th τ (sLf τ g) 0).2 := hw.2
              refine tp_i (z := (thc (th τ (sLf τ g) 0).1)) hw.1 ?_
              rcases th_012 τ (sLf τ g) 0 with q | q | q
              · rw [← hu1] at s1 gr1
                have b1 := s1.2.2.2.2
                have hg3 : g < sVc u1 := by rw [s1.2.1]; exact hg2
                have hg312 := s1.1.vc
                have hgu : g < 2 ^ 31 := by omega
                refine tp_i (z := 0) (by rw [q]; rfl) ?_
                refine lv_istore (lv' := [(7, .int 0), (5, .int (nI g)), (4, .int t), (6, .int (nI c0)), (0, .ref (ad 0)), (1, .int (nI j)), (2, .int (nI k)), (3, .int n)]) hx hb dX4_walk_62 hl (by decide) rfl (fun ls hl => ?_)
                refine lv_iload hx hb dX4_walk_64 (lv_at hl 0 rfl) ?_
                refine lv_bipush (v := (-7)) hx hb dX4_walk_66 (by decide) ?_
                refine lv_icmp_ne (tgt := 78) hx hb dX4_walk_68 (by decide) (fun _ => ?_) (fun c9 => absurd c9 (by decide))
                refine lv_iload hx hb dX4_walk_78 (lv_at hl 0 rfl) ?_
                refine lv_iconst (v := 1) hx hb dX4_walk_80 (by decide) ?_
                refine lv_icmp_ne (tgt := 87) hx hb dX4_walk_81 (by decide) (fun _ => ?_) (fun c9 => absurd c9 (by decide))
                refine lv_iload hx hb dX4_walk_87 (lv_at hl 2 rfl) ?_
                refine lv_aload_n hx hb dX4_walk_89 rfl (lv_at hl 4 rfl) ?_
                refine va_get (D := D) (ci := 4) (v := .ref (ad 2)) (C := RX4) (T := TX4) (N := 7) hx hb hts in_X4 hown hK hP 0 rfl rfl 1 (by decide) (hts _ kf_X4_19) (fun _ h9 => h9) rfl dX4_walk_90 ?_
                refine va_get (D := D) (ci := 3) (v := .ref (ad 11)) (C := RX3) (T := TX3) (N := 6) hx hb hts in_X3 hown hK hP 2 rfl rfl 1 (by decide) (hts _ kf_X4_91) (fun _ h9 => h9) rfl dX4_walk_93 ?_
                refine lv_iload hx hb dX4_walk_96 (lv_at hl 1 rfl) ?_
                refine ar_g hx hb hK hP 11 rfl (by omega) (by decide) dX4_walk_98 ?_
                refine lv_iadd hx hb dX4_walk_99 ?_
                refine lv_istore (lv' := [(4, .int (t + (sSm u1 g))), (7, .int 0), (5, .int (nI g)), (6, .int (nI c0)), (0, .ref (ad 0)), (1, .int (nI j)), (2, .int (nI k)), (3, .int n)]) hx hb dX4_walk_100 hl (by decide) rfl (fun ls hl => ?_)
                refine lv_iload hx hb dX4_walk_102 (lv_at hl 0 rfl) ?_
                refine lv_iload_n hx hb dX4_walk_104 rfl (lv_at hl 7 rfl) ?_
                refine lv_icmp_le (tgt := 115) hx hb dX4_walk_105 (by decide) (fun ct => ?_) (fun ct => ?_)
                · refine lv_aload_n hx hb dX4_walk_115 rfl (lv_at hl 4 rfl) ?_
                  refine va_get (D := D) (ci := 4) (v := .ref (ad 2)) (C := RX4) (T := TX4) (N := 7) hx hb hts in_X4 hown hK hP 0 rfl rfl 1 (by decide) (hts _ kf_X4_19) (fun _ h9 => h9) rfl dX4_walk_116 ?_
                  refine va_get (D := D) (ci := 3) (v := .ref (ad 12)) (C := RX3) (T := TX3) (N := 6) hx hb hts in_X3 hown hK hP 2 rfl rfl 2 (by decide) (hts _ kf_X4_76) (fun _ h9 => h9) rfl dX4_walk_119 ?_
                  refine lv_iload hx hb dX4_walk_122 (lv_at hl 2 rfl) ?_
                  refine ar_g hx hb hK hP 12 rfl (by omega) (by decide) dX4_walk_124 ?_
                  refine lv_istore (lv' := [(5, .int (sNx u1 g)), (4, .int (t + (sSm u1 g))), (7, .int 0), (6, .int (nI c0)), (0, .ref (ad 0)), (1, .int (nI j)), (2, .int (nI k)), (3, .int n)]) hx hb dX4_walk_125 hl (by decide) rfl (fun ls hl => ?_)
                  refine lv_iinc (v := (nI (c0 + 1))) (lv' := [(6, .int (nI (c0 + 1))), (5, .int (sNx u1 g)), (4, .int (t + (sSm u1 g))), (7, .int 0), (0, .ref (ad 0)), (1, .int (nI j)), (2, .int (nI k)), (3, .int n)]) hx hb dX4_walk_127 hl (k := 3) rfl (nI_1 _) (by decide) rfl (fun ls hl => ?_)
                  refine lv_goto (tgt := 37) hx hb dX4_walk_130 (by decide) ?_
                  exact ih (c0 + 1) (sNx u1 g) (t + sSm u1 g) u1 _ _ ls (by omega) (by have h9 := s1.1.nx hg3; rw [s1.2.1, hvt] at h9; exact h9) s1.1 (by omega) (s1.2.1.trans hvt) (by omega) ((wl_4 hgu hu1 q (i_nlt.mpr ct)).symm.trans hE) hP hS (lv_sub hl [1, 2, 0, 4, 5, 6, 7] rfl)
                · refine lv_aload_n hx hb dX4_walk_108 rfl (lv_at hl 4 rfl) ?_
                  refine lv_bipush (v := (-6)) hx hb dX4_walk_109 (by decide) ?_
                  refine cl_i (rest := []) (c_X4_raiseAlarm l D cA ad A hDD u1 (-6) s1.1 (by omega)) ⟨hx, hb, hml, hown, hts⟩ hK hP hS kv_X4_94 ⟨Nat.le_of_ble_eq_true rfl, Nat.le_of_ble_eq_true rfl⟩ ⟨Nat.zero_le _, Nat.zero_le _⟩ 0 rfl rfl rfl hl.1 rfl (Nat.le_of_ble_eq_true rfl) (fun q h => h) dX4_walk_111 (fun r u H locs hw hP hS _ => ?_)
                  rw [hw.2] at hP
                  refine tp_i (z := (-6)) hw.1 ?_
                  exact rt_i (v := (-6)) (u := (ra u1)) hx hb hr hlocks hS hP ((by rw [walk_g h0 hk1 hk2 hn, ← hE, wl_3 hgu hu1 q (i_nle.mp ct)]; exact ⟨rfl, rfl⟩)) dX4_walk_114
              · rw [← hu1] at s1 gr1
                have b1 := s1.2.2.2.2
                have hg3 : g < sVc u1 := by rw [s1.2.1]; exact hg2
                have hg312 := s1.1.vc
                have hgu : g < 2 ^ 31 := by omega
                refine tp_i (z := 1) (by rw [q]; rfl) ?_
                refine lv_istore (lv' := [(7, .int 1), (5, .int (nI g)), (4, .int t), (6, .int (nI c0)), (0, .ref (ad 0)), (1, .int (nI j)), (2, .int (nI k)), (3, .int n)]) hx hb dX4_walk_62 hl (by decide) rfl (fun ls hl => ?_)
                refine lv_iload hx hb dX4_walk_64 (lv_at hl 0 rfl) ?_
                refine lv_bipush (v := (-7)) hx hb dX4_walk_66 (by decide) ?_
                refine lv_icmp_ne (tgt := 78) hx hb dX4_walk_68 (by decide) (fun _ => ?_) (fun c9 => absurd c9 (by decide))
                refine lv_iload hx hb dX4_walk_78 (lv_at hl 0 rfl) ?_
                refine lv_iconst (v := 1) hx hb dX4_walk_80 (by decide) ?_
                refine lv_icmp_ne (tgt := 87) hx hb dX4_walk_81 (by decide) (fun c9 => absurd (by decide) c9) (fun _ => ?_)
                refine lv_goto (tgt := 133) hx hb dX4_walk_84 (by decide) ?_
                refine lv_aload_n hx hb dX4_walk_133 rfl (lv_at hl 4 rfl) ?_
                refine lv_sipush (v := 200) hx hb dX4_walk_134 (by decide) ?_
                refine lv_iload hx hb dX4_walk_137 (lv_at hl 2 rfl) ?_
                refine cl_i (rest := []) (c_X4_letGo l D cA ad A hDD u1 200 t s1.1 (by omega)) ⟨hx, hb, hml, hown, hts⟩ hK hP hS kv_X4_88 ⟨Nat.le_of_ble_eq_true rfl, Nat.le_of_ble_eq_true rfl⟩ ⟨Nat.zero_le _, Nat.zero_le _⟩ 0 rfl rfl rfl hl.1 rfl (Nat.le_of_ble_eq_true rfl) (fun q h => h) dX4_walk_139 (fun r u H locs hw hP hS _ => ?_)
                rw [hw.2] at hP
                refine tp_i (z := t) hw.1 ?_
                exact rt_i (v := t) (u := (da 200 u1)) hx hb hr hlocks hS hP ((by rw [walk_g h0 hk1 hk2 hn, ← hE, wl_1 hgu hu1 q]; exact ⟨rfl, rfl⟩)) dX4_walk_142
              · rw [← hu1] at s1 gr1
                have b1 := s1.2.2.2.2
                have hg3 : g < sVc u1 := by rw [s1.2.1]; exact hg2
                have hg312 := s1.1.vc
                have hgu : g < 2 ^ 31 := by omega
                refine tp_i (z := (-7)) (by rw [q]; rfl) ?_
                refine lv_istore (lv' := [(7, .int (-7)), (5, .int (nI g)), (4, .int t), (6, .int (nI c0)), (0, .ref (ad 0)), (1, .int (nI j)), (2, .int (nI k)), (3, .int n)]) hx hb dX4_walk_62 hl (by decide) rfl (fun ls hl => ?_)
                refine lv_iload hx hb dX4_walk_64 (lv_at hl 0 rfl) ?_
                refine lv_bipush (v := (-7)) hx hb dX4_walk_66 (by decide) ?_
                refine lv_icmp_ne (tgt := 78) hx hb dX4_walk_68 (by decide) (fun c9 => absurd (by decide) c9) (fun _ => ?_)
                refine lv_aload_n hx hb dX4_walk_71 rfl (lv_at hl 4 rfl) ?_
                refine lv_bipush (v := (-7)) hx hb dX4_walk_72 (by decide) ?_
                refine cl_i (rest := []) (c_X4_raiseAlarm l D cA ad A hDD u1 (-7) s1.1 (by omega)) ⟨hx, hb, hml, hown, hts⟩ hK hP hS kv_X4_94 ⟨Nat.le_of_ble_eq_true rfl, Nat.le_of_ble_eq_true rfl⟩ ⟨Nat.zero_le _, Nat.zero_le _⟩ 0 rfl rfl rfl hl.1 rfl (Nat.le_of_ble_eq_true rfl) (fun q h => h) dX4_walk_74 (fun r u H locs hw hP hS _ => ?_)
                rw [hw.2] at hP
                refine tp_i (z := (-7)) hw.1 ?_
                exact rt_i (v := (-7)) (u := (ra u1)) hx hb hr hlocks hS hP ((by rw [walk_g h0 hk1 hk2 hn, ← hE, wl_2 hgu hu1 q]; exact ⟨rfl, rfl⟩)) dX4_walk_77
        refine lv_iload_n hx hb dX4_walk_11 rfl (lv_at hl 2 rfl) ?_
        refine lv_iconst (v := 1) hx hb dX4_walk_12 (by decide) ?_
        refine lv_bipush (v := 60) hx hb dX4_walk_13 (by decide) ?_
        refine cl_s (rest := []) (c_X4_isWithin l D cA ad A hDD σ (nI k) 1 60 ) ⟨hx, hb, hml, hown, hts⟩ hK hP hS kv_X4_48 ⟨Nat.le_of_ble_eq_true rfl, Nat.le_of_ble_eq_true rfl⟩ ⟨Nat.zero_le _, Nat.zero_le _⟩ rfl hl.1 rfl (Nat.le_of_ble_eq_true rfl) (fun q h => h) dX4_walk_15 (fun r u H locs hw hP hS => ?_)
        rw [hw.2] at hP
        refine tp_i (z := (bz (1 ≤ (nI k) ∧ (nI k) ≤ 60))) hw.1 ?_
        refine tp_i (z := 1) (bz_1 hm) ?_
        refine lv_if_eq (tgt := 25) hx hb dX4_walk_18 (by decide) (fun c9 => absurd c9 (by decide)) (fun _ => ?_)
        refine lv_iload_n hx hb dX4_walk_21 rfl (lv_at hl 3 rfl) ?_
        refine lv_if_ge (tgt := 28) hx hb dX4_walk_22 (by decide) (fun _ => ?_) (fun c9 => absurd (hn) c9)
        refine lv_iconst (v := 0) hx hb dX4_walk_28 (by decide) ?_
        refine lv_istore (lv' := [(4, .int 0), (0, .ref (ad 0)), (1, .int (nI j)), (2, .int (nI k)), (3, .int n)]) hx hb dX4_walk_29 hl (by decide) rfl (fun ls hl => ?_)
        refine lv_iload_n hx hb dX4_walk_31 rfl (lv_at hl 2 rfl) ?_
        refine lv_istore (lv' := [(5, .int (nI j)), (4, .int 0), (0, .ref (ad 0)), (1, .int (nI j)), (2, .int (nI k)), (3, .int n)]) hx hb dX4_walk_32 hl (by decide) rfl (fun ls hl => ?_)
        refine lv_iconst (v := 0) hx hb dX4_walk_34 (by decide) ?_
        refine lv_istore (lv' := [(6, .int 0), (5, .int (nI j)), (4, .int 0), (0, .ref (ad 0)), (1, .int (nI j)), (2, .int (nI k)), (3, .int n)]) hx hb dX4_walk_35 hl (by decide) rfl (fun ls hl => ?_)
        exact loop k 0 (nI j) 0 σ _ _ ls (by omega) (Or.inr ⟨j, hj, rfl⟩) hI (by omega) rfl (by omega) rfl hP hS (lv_sub hl [1, 2, 0, 3, 4, 5, 6] rfl)
      · skip
        refine lv_iload_n hx hb dX4_walk_11 rfl (lv_at hl 2 rfl) ?_
        refine lv_iconst (v := 1) hx hb dX4_walk_12 (by decide) ?_
        refine lv_bipush (v := 60) hx hb dX4_walk_13 (by decide) ?_
        refine cl_s (rest := []) (c_X4_isWithin l D cA ad A hDD σ (nI k) 1 60 ) ⟨hx, hb, hml, hown, hts⟩ hK hP hS kv_X4_48 ⟨Nat.le_of_ble_eq_true rfl, Nat.le_of_ble_eq_true rfl⟩ ⟨Nat.zero_le _, Nat.zero_le _⟩ rfl hl.1 rfl (Nat.le_of_ble_eq_true rfl) (fun q h => h) dX4_walk_15 (fun r u H locs hw hP hS => ?_)
        rw [hw.2] at hP
        refine tp_i (z := (bz (1 ≤ (nI k) ∧ (nI k) ≤ 60))) hw.1 ?_
        refine tp_i (z := 1) (bz_1 hm) ?_
        refine lv_if_eq (tgt := 25) hx hb dX4_walk_18 (by decide) (fun c9 => absurd c9 (by decide)) (fun _ => ?_)
        refine lv_iload_n hx hb dX4_walk_21 rfl (lv_at hl 3 rfl) ?_
        refine lv_if_ge (tgt := 28) hx hb dX4_walk_22 (by decide) (fun c9 => absurd c9 (hn)) (fun _ => ?_)
        refine lv_bipush (v := (-2)) hx hb dX4_walk_25 (by decide) ?_
        exact rt_i (v := (-2)) (u := σ) hx hb hr hlocks hS hP (pr2 (walk_b (fun q => hn q.2.2))) dX4_walk_27
    · skip
      refine lv_iload_n hx hb dX4_walk_11 rfl (lv_at hl 2 rfl) ?_
      refine lv_iconst (v := 1) hx hb dX4_walk_12 (by decide) ?_
      refine lv_bipush (v := 60) hx hb dX4_walk_13 (by decide) ?_
      refine cl_s (rest := []) (c_X4_isWithin l D cA ad A hDD σ mm 1 60 ) ⟨hx, hb, hml, hown, hts⟩ hK hP hS kv_X4_48 ⟨Nat.le_of_ble_eq_true rfl, Nat.le_of_ble_eq_true rfl⟩ ⟨Nat.zero_le _, Nat.zero_le _⟩ rfl hl.1 rfl (Nat.le_of_ble_eq_true rfl) (fun q h => h) dX4_walk_15 (fun r u H locs hw hP hS => ?_)
      rw [hw.2] at hP
      refine tp_i (z := (bz (1 ≤ mm ∧ mm ≤ 60))) hw.1 ?_
      refine tp_i (z := 0) (bz_0 hm) ?_
      refine lv_if_eq (tgt := 25) hx hb dX4_walk_18 (by decide) (fun _ => ?_) (fun c9 => absurd (by decide) c9)
      refine lv_bipush (v := (-2)) hx hb dX4_walk_25 (by decide) ?_
      exact rt_i (v := (-2)) (u := σ) hx hb hr hlocks hS hP (pr2 (walk_b (fun q => hm q.2.1))) dX4_walk_27
set_option maxHeartbeats 4000000 in
set_option maxRecDepth 100000 in
theorem c_X4_doOrder (l : Launch) (D : va_G) (cA : ClassId) (ad : Nat → Nat) (A : Nat → Prop) (hDD : ∀ u, va_D A (cW ad cA u)) (σ : CS) (i : Nat) (hi : i < sTc σ) (hI : Inv σ) (hg : sGr σ = 0) (hb9 : sBc σ ≤ 1000000000) : Ct l D cA (cW ad cA) A yX4_doOrder cX4_doOrder 3 (some .boolean) 5 112 [.ref (ad 0), .int (nI i)] σ (fun r u => r = (dor σ i).1 ∧ u = (dor σ i).2) := by
  refine Ct.of (by decide) (Nat.le_of_ble_eq_true rfl) ?_
  intro p e s m below meth c ls S0 hr hlocks hK hP hS hl
  obtain ⟨hx, hb, hml, hown, hts⟩ := id S0
  have hl : lv_has ls 3 [(0, .ref (ad 0)), (1, .int (nI i))] := hl
  have hkc := hI.kc
  have hvc := hI.vc
  have hgc := hI.gr
  have htc := hI.tc
  have hop := hI.2.2.2 i hi
  rcases hop with ho | ho | ho | ho | ho
  · have ho : sOp σ i = 0 := ho
    refine lv_aload_n hx hb dX4_doOrder_0 rfl (lv_at hl 0 rfl) ?_
    refine va_get (D := D) (ci := 4) (v := .ref (ad 4)) (C := RX4) (T := TX4) (N := 7) hx hb hts in_X4 hown hK hP 0 rfl rfl 3 (by decide) (hts _ kf_X4_33) (fun _ h9 => h9) rfl dX4_doOrder_1 ?_
    refine va_get (D := D) (ci := 2) (v := .ref (ad 16)) (C := RX2) (T := TX2) (N := 5) hx hb hts in_X2 hown hK hP 4 rfl rfl 0 (by decide) (hts _ kf_X4_144) (fun _ h9 => h9) rfl dX4_doOrder_4 ?_
    refine lv_iload_n hx hb dX4_doOrder_7 rfl (lv_at hl 1 rfl) ?_
    refine ar_g hx hb hK hP 16 rfl (by omega) (by decide) dX4_doOrder_8 ?_
    refine tp_i (z := 0) (ho) ?_
    refine lv_tableIn (x := 0) (off := 31) (tgt := 40) hx hb dX4_doOrder_9 (by decide) (by decide) (by decide) (by decide) ?_
    refine lv_aload_n hx hb dX4_doOrder_40 rfl (lv_at hl 0 rfl) ?_
    refine lv_aload_n hx hb dX4_doOrder_41 rfl (lv_at hl 0 rfl) ?_
    refine va_get (D := D) (ci := 4) (v := .ref (ad 4)) (C := RX4) (T := TX4) (N := 7) hx hb hts in_X4 hown hK hP 0 rfl rfl 3 (by decide) (hts _ kf_X4_33) (fun _ h9 => h9) rfl dX4_doOrder_42 ?_
    refine va_get (D := D) (ci := 2) (v := .ref (ad 17)) (C := RX2) (T := TX2) (N := 5) hx hb hts in_X2 hown hK hP 4 rfl rfl 1 (by decide) (hts _ kf_X4_147) (fun _ h9 => h9) rfl dX4_doOrder_45 ?_
    refine lv_iload_n hx hb dX4_doOrder_48 rfl (lv_at hl 1 rfl) ?_
    refine ar_g hx hb hK hP 17 rfl (by omega) (by decide) dX4_doOrder_49 ?_
    refine lv_aload_n hx hb dX4_doOrder_50 rfl (lv_at hl 0 rfl) ?_
    refine va_get (D := D) (ci := 4) (v := .ref (ad 4)) (C := RX4) (T := TX4) (N := 7) hx hb hts in_X4 hown hK hP 0 rfl rfl 3 (by decide) (hts _ kf_X4_33) (fun _ h9 => h9) rfl dX4_doOrder_51 ?_
    refine va_get (D := D) (ci := 2) (v := .ref (ad 19)) (C := RX2) (T := TX2) (N := 5) hx hb hts in_X2 hown hK hP 4 rfl rfl 3 (by decide) (hts _ kf_X4_150) (fun _ h9 => h9) rfl dX4_doOrder_54 ?_
    refine lv_iload_n hx hb dX4_doOrder_57 rfl (lv_at hl 1 rfl) ?_
    refine ar_g hx hb hK hP 19 rfl (by omega) (by decide) dX4_doOrder_58 ?_
    refine cl_i (rest := []) (c_X4_put l D cA ad A hDD σ (sFi σ i) (sAm σ i) hI hg hb9) ⟨hx, hb, hml, hown, hts⟩ hK hP hS kv_X4_153 ⟨Nat.le_of_ble_eq_true rfl, Nat.le_of_ble_eq_true rfl⟩ ⟨Nat.zero_le _, Nat.zero_le _⟩ 0 rfl rfl rfl hl.1 rfl (Nat.le_of_ble_eq_true rfl) (fun q h => h) dX4_doOrder_59 (fun r u H locs hw hP hS _ => ?_)
    rw [hw.2] at hP
    refine tp_i (z := (f_put σ (sFi σ i) (sAm σ i)).1) hw.1 ?_
    refine lv_istore_n (lv' := [(2, .int (f_put σ (sFi σ i) (sAm σ i)).1), (0, .ref (ad 0)), (1, .int (nI i))]) hx hb dX4_doOrder_62 rfl hl (by decide) rfl (fun ls hl => ?_)
    refine lv_goto (tgt := 146) hx hb dX4_doOrder_63 (by decide) ?_
    refine lv_iload_n hx hb dX4_doOrder_146 rfl (lv_at hl 0 rfl) ?_
    refine lv_bipush (v := (-6)) hx hb dX4_doOrder_147 (by decide) ?_
    refine lv_icmp_eq (tgt := 162) hx hb dX4_doOrder_149 (by decide) (fun c149 => ?_) (fun c149 => ?_)
    · refine lv_iconst (v := 0) hx hb dX4_doOrder_162 (by decide) ?_
      exact rt_z (v := 0) (u := (f_put σ (sFi σ i) (sAm σ i)).2) hx hb hr hlocks rfl hS hP ((by rw [dor_0 (by rw [ho]; decide) (by rw [ex_0 ho]; exact Or.inl c149), ex_0 ho]; exact ⟨rfl, rfl⟩)) dX4_doOrder_163
    · refine lv_iload_n hx hb dX4_doOrder_152 rfl (lv_at hl 0 rfl) ?_
      refine lv_bipush (v := (-7)) hx hb dX4_doOrder_153 (by decide) ?_
      refine lv_icmp_eq (tgt := 162) hx hb dX4_doOrder_155 (by decide) (fun c155 => ?_) (fun c155 => ?_)
      · refine lv_iconst (v := 0) hx hb dX4_doOrder_162 (by decide) ?_
        exact rt_z (v := 0) (u := (f_put σ (sFi σ i) (sAm σ i)).2) hx hb hr hlocks rfl hS hP ((by rw [dor_0 (by rw [ho]; decide) (by rw [ex_0 ho]; exact Or.inr c155), ex_0 ho]; exact ⟨rfl, rfl⟩)) dX4_doOrder_163
      · refine lv_iconst (v := 1) hx hb dX4_doOrder_158 (by decide) ?_
        refine lv_goto (tgt := 163) hx hb dX4_doOrder_159 (by decide) ?_
        exact rt_z (v := 1) (u := (f_put σ (sFi σ i) (sAm σ i)).2) hx hb hr hlocks rfl hS hP ((by rw [dor_1 (by rw [ho]; decide) (by rw [ex_0 ho]; exact fun q => q.elim c149 c155), ex_0 ho]; exact ⟨rfl, rfl⟩)) dX4_doOrder_163
  · have ho : sOp σ i = 1 := ho
    refine lv_aload_n hx hb dX4_doOrder_0 rfl (lv_at hl 0 rfl) ?_
    refine va_get (D := D) (ci := 4) (v := .ref (ad 4)) (C := RX4) (T := TX4) (N := 7) hx hb hts in_X4 hown hK hP 0 rfl rfl 3 (by decide) (hts _ kf_X4_33) (fun _ h9 => h9) rfl dX4_doOrder_1 ?_
    refine va_get (D := D) (ci := 2) (v := .ref (ad 16)) (C := RX2) (T := TX2) (N := 5) hx hb hts in_X2 hown hK hP 4 rfl rfl 0 (by decide) (hts _ kf_X4_144) (fun _ h9 => h9) rfl dX4_doOrder_4 ?_
    refine lv_iload_n hx hb dX4_doOrder_7 rfl (lv_at hl 1 rfl) ?_
    refine ar_g hx hb hK hP 16 rfl (by omega) (by decide) dX4_doOrder_8 ?_
    refine tp_i (z := 1) (ho) ?_
    refine lv_tableIn (x := 1) (off := 57) (tgt := 66) hx hb dX4_doOrder_9 (by decide) (by decide) (by decide) (by decide) ?_
    refine lv_aload_n hx hb dX4_doOrder_66 rfl (lv_at hl 0 rfl) ?_
    refine lv_aload_n hx hb dX4_doOrder_67 rfl (lv_at hl 0 rfl) ?_
    refine va_get (D := D) (ci := 4) (v := .ref (ad 4)) (C := RX4) (T := TX4) (N := 7) hx hb hts in_X4 hown hK hP 0 rfl rfl 3 (by decide) (hts _ kf_X4_33) (fun _ h9 => h9) rfl dX4_doOrder_68 ?_
    refine va_get (D := D) (ci := 2) (v := .ref (ad 17)) (C := RX2) (T := TX2) (N := 5) hx hb hts in_X2 hown hK hP 4 rfl rfl 1 (by decide) (hts _ kf_X4_147) (fun _ h9 => h9) rfl dX4_doOrder_71 ?_
    refine lv_iload_n hx hb dX4_doOrder_74 rfl (lv_at hl 1 rfl) ?_
    refine ar_g hx hb hK hP 17 rfl (by omega) (by decide) dX4_doOrder_75 ?_
    refine lv_aload_n hx hb dX4_doOrder_76 rfl (lv_at hl 0 rfl) ?_
    refine va_get (D := D) (ci := 4) (v := .ref (ad 4)) (C := RX4) (T := TX4) (N := 7) hx hb hts in_X4 hown hK hP 0 rfl rfl 3 (by decide) (hts _ kf_X4_33) (fun _ h9 => h9) rfl dX4_doOrder_77 ?_
    refine va_get (D := D) (ci := 2) (v := .ref (ad 19)) (C := RX2) (T := TX2) (N := 5) hx hb hts in_X2 hown hK hP 4 rfl rfl 3 (by decide) (hts _ kf_X4_150) (fun _ h9 => h9) rfl dX4_doOrder_80 ?_
    refine lv_iload_n hx hb dX4_doOrder_83 rfl (lv_at hl 1 rfl) ?_
    refine ar_g hx hb hK hP 19 rfl (by omega) (by decide) dX4_doOrder_84 ?_
    refine cl_i (rest := []) (c_X4_take l D cA ad A hDD σ (sFi σ i) (sAm σ i) hI hg hb9) ⟨hx, hb, hml, hown, hts⟩ hK hP hS kv_X4_156 ⟨Nat.le_of_ble_eq_true rfl, Nat.le_of_ble_eq_true rfl⟩ ⟨Nat.zero_le _, Nat.zero_le _⟩ 0 rfl rfl rfl hl.1 rfl (Nat.le_of_ble_eq_true rfl) (fun q h => h) dX4_doOrder_85 (fun r u H locs hw hP hS _ => ?_)
    rw [hw.2] at hP
    refine tp_i (z := (f_take σ (sFi σ i) (sAm σ i)).1) hw.1 ?_
    refine lv_istore_n (lv' := [(2, .int (f_take σ (sFi σ i) (sAm σ i)).1), (0, .ref (ad 0)), (1, .int (nI i))]) hx hb dX4_doOrder_88 rfl hl (by decide) rfl (fun ls hl => ?_)
    refine lv_goto (tgt := 146) hx hb dX4_doOrder_89 (by decide) ?_
    refine lv_iload_n hx hb dX4_doOrder_146 rfl (lv_at hl 0 rfl) ?_
    refine lv_bipush (v := (-6)) hx hb dX4_doOrder_147 (by decide) ?_
    refine lv_icmp_eq (tgt := 162) hx hb dX4_doOrder_149 (by decide) (fun c149 => ?_) (fun c149 => ?_)
    · refine lv_iconst (v := 0) hx hb dX4_doOrder_162 (by decide) ?_
      exact rt_z (v := 0) (u := (f_take σ (sFi σ i) (sAm σ i)).2) hx hb hr hlocks rfl hS hP ((by rw [dor_0 (by rw [ho]; decide) (by rw [ex_1 ho]; exact Or.inl c149), ex_1 ho]; exact ⟨rfl, rfl⟩)) dX4_doOrder_163
    · refine lv_iload_n hx hb dX4_doOrder_152 rfl (lv_at hl 0 rfl) ?_
      refine lv_bipush (v := (-7)) hx hb dX4_doOrder_153 (by decide) ?_
      refine lv_icmp_eq (tgt := 162) hx hb dX4_doOrder_155 (by decide) (fun c155 => ?_) (fun c155 => ?_)
      · refine lv_iconst (v := 0) hx hb dX4_doOrder_162 (by decide) ?_
        exact rt_z (v := 0) (u := (f_take σ (sFi σ i) (sAm σ i)).2) hx hb hr hlocks rfl hS hP ((by rw [dor_0 (by rw [ho]; decide) (by rw [ex_1 ho]; exact Or.inr c155), ex_1 ho]; exact ⟨rfl, rfl⟩)) dX4_doOrder_163
      · refine lv_iconst (v := 1) hx hb dX4_doOrder_158 (by decide) ?_
        refine lv_goto (tgt := 163) hx hb dX4_doOrder_159 (by decide) ?_
        exact rt_z (v := 1) (u := (f_take σ (sFi σ i) (sAm σ i)).2) hx hb hr hlocks rfl hS hP ((by rw [dor_1 (by rw [ho]; decide) (by rw [ex_1 ho]; exact fun q => q.elim c149 c155), ex_1 ho]; exact ⟨rfl, rfl⟩)) dX4_doOrder_163
  · have ho : sOp σ i = 2 := ho
    refine lv_aload_n hx hb dX4_doOrder_0 rfl (lv_at hl 0 rfl) ?_
    refine va_get (D := D) (ci := 4) (v := .ref (ad 4)) (C := RX4) (T := TX4) (N := 7) hx hb hts in_X4 hown hK hP 0 rfl rfl 3 (by decide) (hts _ kf_X4_33) (fun _ h9 => h9) rfl dX4_doOrder_1 ?_
    refine va_get (D := D) (ci := 2) (v := .ref (ad 16)) (C := RX2) (T := TX2) (N := 5) hx hb hts in_X2 hown hK hP 4 rfl rfl 0 (by decide) (hts _ kf_X4_144) (fun _ h9 => h9) rfl dX4_doOrder_4 ?_
    refine lv_iload_n hx hb dX4_doOrder_7 rfl (lv_at hl 1 rfl) ?_
    refine ar_g hx hb hK hP 16 rfl (by omega) (by decide) dX4_doOrder_8 ?_
    refine tp_i (z := 2) (ho) ?_
    refine lv_tableIn (x := 2) (off := 83) (tgt := 92) hx hb dX4_doOrder_9 (by decide) (by decide) (by decide) (by decide) ?_
    refine lv_aload_n hx hb dX4_doOrder_92 rfl (lv_at hl 0 rfl) ?_
    refine lv_aload_n hx hb dX4_doOrder_93 rfl (lv_at hl 0 rfl) ?_
    refine va_get (D := D) (ci := 4) (v := .ref (ad 4)) (C := RX4) (T := TX4) (N := 7) hx hb hts in_X4 hown hK hP 0 rfl rfl 3 (by decide) (hts _ kf_X4_33) (fun _ h9 => h9) rfl dX4_doOrder_94 ?_
    refine va_get (D := D) (ci := 2) (v := .ref (ad 17)) (C := RX2) (T := TX2) (N := 5) hx hb hts in_X2 hown hK hP 4 rfl rfl 1 (by decide) (hts _ kf_X4_147) (fun _ h9 => h9) rfl dX4_doOrder_97 ?_
    refine lv_iload_n hx hb dX4_doOrder_100 rfl (lv_at hl 1 rfl) ?_
    refine ar_g hx hb hK hP 17 rfl (by omega) (by decide) dX4_doOrder_101 ?_
    refine lv_aload_n hx hb dX4_doOrder_102 rfl (lv_at hl 0 rfl) ?_
    refine va_get (D := D) (ci := 4) (v := .ref (ad 4)) (C := RX4) (T := TX4) (N := 7) hx hb hts in_X4 hown hK hP 0 rfl rfl 3 (by decide) (hts _ kf_X4_33) (fun _ h9 => h9) rfl dX4_doOrder_103 ?_
    refine va_get (D := D) (ci := 2) (v := .ref (ad 18)) (C := RX2) (T := TX2) (N := 5) hx hb hts in_X2 hown hK hP 4 rfl rfl 2 (by decide) (hts _ kf_X4_159) (fun _ h9 => h9) rfl dX4_doOrder_106 ?_
    refine lv_iload_n hx hb dX4_doOrder_109 rfl (lv_at hl 1 rfl) ?_
    refine ar_g hx hb hK hP 18 rfl (by omega) (by decide) dX4_doOrder_110 ?_
    refine lv_aload_n hx hb dX4_doOrder_111 rfl (lv_at hl 0 rfl) ?_
    refine va_get (D := D) (ci := 4) (v := .ref (ad 4)) (C := RX4) (T := TX4) (N := 7) hx hb hts in_X4 hown hK hP 0 rfl rfl 3 (by decide) (hts _ kf_X4_33) (fun _ h9 => h9) rfl dX4_doOrder_112 ?_
    refine va_get (D := D) (ci := 2) (v := .ref (ad 19)) (C := RX2) (T := TX2) (N := 5) hx hb hts in_X2 hown hK hP 4 rfl rfl 3 (by decide) (hts _ kf_X4_150) (fun _ h9 => h9) rfl dX4_doOrder_115 ?_
    refine lv_iload_n hx hb dX4_doOrder_118 rfl (lv_at hl 1 rfl) ?_
    refine ar_g hx hb hK hP 19 rfl (by omega) (by decide) dX4_doOrder_119 ?_
    refine cl_i (rest := []) (c_X4_move l D cA ad A hDD σ (sFi σ i) (sSe σ i) (sAm σ i) hI hg hb9) ⟨hx, hb, hml, hown, hts⟩ hK hP hS kv_X4_162 ⟨Nat.le_of_ble_eq_true rfl, Nat.le_of_ble_eq_true rfl⟩ ⟨Nat.zero_le _, Nat.zero_le _⟩ 0 rfl rfl rfl hl.1 rfl (Nat.le_of_ble_eq_true rfl) (fun q h => h) dX4_doOrder_120 (fun r u H locs hw hP hS _ => ?_)
    rw [hw.2] at hP
    refine tp_i (z := (f_move σ (sFi σ i) (sSe σ i) (sAm σ i)).1) hw.1 ?_
    refine lv_istore_n (lv' := [(2, .int (f_move σ (sFi σ i) (sSe σ i) (sAm σ i)).1), (0, .ref (ad 0)), (1, .int (nI i))]) hx hb dX4_doOrder_123 rfl hl (by decide) rfl (fun ls hl => ?_)
    refine lv_goto (tgt := 146) hx hb dX4_doOrder_124 (by decide) ?_
    refine lv_iload_n hx hb dX4_doOrder_146 rfl (lv_at hl 0 rfl) ?_
    refine lv_bipush (v := (-6)) hx hb dX4_doOrder_147 (by decide) ?_
    refine lv_icmp_eq (tgt := 162) hx hb dX4_doOrder_149 (by decide) (fun c149 => ?_) (fun c149 => ?_)
    · refine lv_iconst (v := 0) hx hb dX4_doOrder_162 (by decide) ?_
      exact rt_z (v := 0) (u := (f_move σ (sFi σ i) (sSe σ i) (sAm σ i)).2) hx hb hr hlocks rfl hS hP ((by rw [dor_0 (by rw [ho]; decide) (by rw [ex_2 ho]; exact Or.inl c149), ex_2 ho]; exact ⟨rfl, rfl⟩)) dX4_doOrder_163
    · refine lv_iload_n hx hb dX4_doOrder_152 rfl (lv_at hl 0 rfl) ?_
      refine lv_bipush (v := (-7)) hx hb dX4_doOrder_153 (by decide) ?_
      refine lv_icmp_eq (tgt := 162) hx hb dX4_doOrder_155 (by decide) (fun c155 => ?_) (fun c155 => ?_)
      · refine lv_iconst (v := 0) hx hb dX4_doOrder_162 (by decide) ?_
        exact rt_z (v := 0) (u := (f_move σ (sFi σ i) (sSe σ i) (sAm σ i)).2) hx hb hr hlocks rfl hS hP ((by rw [dor_0 (by rw [ho]; decide) (by rw [ex_2 ho]; exact Or.inr c155), ex_2 ho]; exact ⟨rfl, rfl⟩)) dX4_doOrder_163
      · refine lv_iconst (v := 1) hx hb dX4_doOrder_158 (by decide) ?_
        refine lv_goto (tgt := 163) hx hb dX4_doOrder_159 (by decide) ?_
        exact rt_z (v := 1) (u := (f_move σ (sFi σ i) (sSe σ i) (sAm σ i)).2) hx hb hr hlocks rfl hS hP ((by rw [dor_1 (by rw [ho]; decide) (by rw [ex_2 ho]; exact fun q => q.elim c149 c155), ex_2 ho]; exact ⟨rfl, rfl⟩)) dX4_doOrder_163
  · have ho : sOp σ i = 3 := ho
    refine lv_aload_n hx hb dX4_doOrder_0 rfl (lv_at hl 0 rfl) ?_
    refine va_get (D := D) (ci := 4) (v := .ref (ad 4)) (C := RX4) (T := TX4) (N := 7) hx hb hts in_X4 hown hK hP 0 rfl rfl 3 (by decide) (hts _ kf_X4_33) (fun _ h9 => h9) rfl dX4_doOrder_1 ?_
    refine va_get (D := D) (ci := 2) (v := .ref (ad 16)) (C := RX2) (T := TX2) (N := 5) hx hb hts in_X2 hown hK hP 4 rfl rfl 0 (by decide) (hts _ kf_X4_144) (fun _ h9 => h9) rfl dX4_doOrder_4 ?_
    refine lv_iload_n hx hb dX4_doOrder_7 rfl (lv_at hl 1 rfl) ?_
    refine ar_g hx hb hK hP 16 rfl (by omega) (by decide) dX4_doOrder_8 ?_
    refine tp_i (z := 3) (ho) ?_
    refine lv_tableIn (x := 3) (off := 118) (tgt := 127) hx hb dX4_doOrder_9 (by decide) (by decide) (by decide) (by decide) ?_
    refine lv_aload_n hx hb dX4_doOrder_127 rfl (lv_at hl 0 rfl) ?_
    refine lv_aload_n hx hb dX4_doOrder_128 rfl (lv_at hl 0 rfl) ?_
    refine va_get (D := D) (ci := 4) (v := .ref (ad 4)) (C := RX4) (T := TX4) (N := 7) hx hb hts in_X4 hown hK hP 0 rfl rfl 3 (by decide) (hts _ kf_X4_33) (fun _ h9 => h9) rfl dX4_doOrder_129 ?_
    refine va_get (D := D) (ci := 2) (v := .ref (ad 17)) (C := RX2) (T := TX2) (N := 5) hx hb hts in_X2 hown hK hP 4 rfl rfl 1 (by decide) (hts _ kf_X4_147) (fun _ h9 => h9) rfl dX4_doOrder_132 ?_
    refine lv_iload_n hx hb dX4_doOrder_135 rfl (lv_at hl 1 rfl) ?_
    refine ar_g hx hb hK hP 17 rfl (by omega) (by decide) dX4_doOrder_136 ?_
    refine cl_i (rest := []) (c_X4_swap l D cA ad A hDD σ (sFi σ i) hI hg hb9) ⟨hx, hb, hml, hown, hts⟩ hK hP hS kv_X4_166 ⟨Nat.le_of_ble_eq_true rfl, Nat.le_of_ble_eq_true rfl⟩ ⟨Nat.zero_le _, Nat.zero_le _⟩ 0 rfl rfl rfl hl.1 rfl (Nat.le_of_ble_eq_true rfl) (fun q h => h) dX4_doOrder_137 (fun r u H locs hw hP hS _ => ?_)
    rw [hw.2] at hP
    refine tp_i (z := (f_swap σ (sFi σ i)).1) hw.1 ?_
    refine lv_istore_n (lv' := [(2, .int (f_swap σ (sFi σ i)).1), (0, .ref (ad 0)), (1, .int (nI i))]) hx hb dX4_doOrder_140 rfl hl (by decide) rfl (fun ls hl => ?_)
    refine lv_goto (tgt := 146) hx hb dX4_doOrder_141 (by decide) ?_
    refine lv_iload_n hx hb dX4_doOrder_146 rfl (lv_at hl 0 rfl) ?_
    refine lv_bipush (v := (-6)) hx hb dX4_doOrder_147 (by decide) ?_
    refine lv_icmp_eq (tgt := 162) hx hb dX4_doOrder_149 (by decide) (fun c149 => ?_) (fun c149 => ?_)
    · refine lv_iconst (v := 0) hx hb dX4_doOrder_162 (by decide) ?_
      exact rt_z (v := 0) (u := (f_swap σ (sFi σ i)).2) hx hb hr hlocks rfl hS hP ((by rw [dor_0 (by rw [ho]; decide) (by rw [ex_3 ho]; exact Or.inl c149), ex_3 ho]; exact ⟨rfl, rfl⟩)) dX4_doOrder_163
    · refine lv_iload_n hx hb dX4_doOrder_152 rfl (lv_at hl 0 rfl) ?_
      refine lv_bipush (v := (-7)) hx hb dX4_doOrder_153 (by decide) ?_
      refine lv_icmp_eq (tgt := 162) hx hb dX4_doOrder_155 (by decide) (fun c155 => ?_) (fun c155 => ?_)
      · refine lv_iconst (v := 0) hx hb dX4_doOrder_162 (by decide) ?_
        exact rt_z (v := 0) (u := (f_swap σ (sFi σ i)).2) hx hb hr hlocks rfl hS hP ((by rw [dor_0 (by rw [ho]; decide) (by rw [ex_3 ho]; exact Or.inr c155), ex_3 ho]; exact ⟨rfl, rfl⟩)) dX4_doOrder_163
      · refine lv_iconst (v := 1) hx hb dX4_doOrder_158 (by decide) ?_
        refine lv_goto (tgt := 163) hx hb dX4_doOrder_159 (by decide) ?_
        exact rt_z (v := 1) (u := (f_swap σ (sFi σ i)).2) hx hb hr hlocks rfl hS hP ((by rw [dor_1 (by rw [ho]; decide) (by rw [ex_3 ho]; exact fun q => q.elim c149 c155), ex_3 ho]; exact ⟨rfl, rfl⟩)) dX4_doOrder_163
  · have ho : sOp σ i = 4 := ho
    refine lv_aload_n hx hb dX4_doOrder_0 rfl (lv_at hl 0 rfl) ?_
    refine va_get (D := D) (ci := 4) (v := .ref (ad 4)) (C := RX4) (T := TX4) (N := 7) hx hb hts in_X4 hown hK hP 0 rfl rfl 3 (by decide) (hts _ kf_X4_33) (fun _ h9 => h9) rfl dX4_doOrder_1 ?_
    refine va_get (D := D) (ci := 2) (v := .ref (ad 16)) (C := RX2) (T := TX2) (N := 5) hx hb hts in_X2 hown hK hP 4 rfl rfl 0 (by decide) (hts _ kf_X4_144) (fun _ h9 => h9) rfl dX4_doOrder_4 ?_
    refine lv_iload_n hx hb dX4_doOrder_7 rfl (lv_at hl 1 rfl) ?_
    refine ar_g hx hb hK hP 16 rfl (by omega) (by decide) dX4_doOrder_8 ?_
    refine tp_i (z := 4) (ho) ?_
    refine lv_tableOut (x := 4) (tgt := 144) hx hb dX4_doOrder_9 (by decide) (by decide) ?_
    refine lv_iconst (v := 0) hx hb dX4_doOrder_144 (by decide) ?_
    exact rt_z (v := 0) (u := σ) hx hb hr hlocks rfl hS hP (pr2 (dor_4 ho)) dX4_doOrder_145
set_option maxHeartbeats 4000000 in
set_option maxRecDepth 100000 in
theorem c_X4_run (l : Launch) (D : va_G) (cA : ClassId) (ad : Nat → Nat) (A : Nat → Prop) (hDD : ∀ u, va_D A (cW ad cA u)) (σ : CS) (hI : Inv σ) (hg : sGr σ = 0) (hb9 : sBc σ ≤ 900000000) : Ct l D cA (cW ad cA) A yX4_run cX4_run 3 (some .int) 6 134 [.ref (ad 0)] σ (fun r u => r = (f_run σ).1 ∧ u = (f_run σ).2) := by
  refine Ct.of (by decide) (Nat.le_of_ble_eq_true rfl) ?_
  intro p e s m below meth c ls S0 hr hlocks hK hP hS hl
  obtain ⟨hx, hb, hml, hown, hts⟩ := id S0
  have hl : lv_has ls 3 [(0, .ref (ad 0))] := hl
  have hkc := hI.kc
  have hvc := hI.vc
  have hgc := hI.gr
  have htc := hI.tc
  have loop : ∀ (f d : Nat) (τ : CS) (H : Heap) (locs : List Loc) (ls : Array Slot), d + f = sTc σ → Inv τ → sGr τ = 0 → τ.2.2.2.1 = σ.2.2.2.1 → sBc τ + 8 * f ≤ 900000000 + 8 * sTc σ → rn f d τ = rn (sTc σ) 0 σ → va_P D vwCl (cW ad cA τ) H → va_S A s.heap H locs → lv_has ls 3 [(2, .int (nI d)), (0, .ref (ad 0)), (1, .int (nI (sTc σ)))] → W p l e { frames := 6, cells := 0, slots := 0, locals := 134 } s m ([.ref (ad 0)] : List Value).toArray below meth c H locs 0 0 (MQ below (va_Qi (fun r u => r = (f_run σ).1 ∧ u = (f_run σ).2) (fun u t => va_P D vwCl (cW ad cA u) t.heap) A) ([.ref (ad 0)] : List Value).toArray s 0 0 A) (F0 m 10 ls []) := by
    intro f
    induction f with
    | zero =>
      intro d τ H locs ls hdf hIt hgt hTt hbt hE hP hS hl
      have hTc : sTc τ = sTc σ := by show τ.2.2.2.1.2.2.2.2 = _; rw [hTt]
      refine lv_iload_n hx hb dX4_run_10 rfl (lv_at hl 0 rfl) ?_
      refine lv_iload_n hx hb dX4_run_11 rfl (lv_at hl 2 rfl) ?_
      refine lv_icmp_ge (tgt := 29) hx hb dX4_run_12 (by decide) (fun _ => ?_) (fun c9 => absurd (nI_le (by omega) (by omega)) c9)
      refine lv_aload_n hx hb dX4_run_29 rfl (lv_at hl 1 rfl) ?_
      refine va_get (D := D) (ci := 4) (v := .ref (ad 4)) (C := RX4) (T := TX4) (N := 7) hx hb hts in_X4 hown hK hP 0 rfl rfl 3 (by decide) (hts _ kf_X4_33) (fun _ h9 => h9) rfl dX4_run_30 ?_
      refine lv_iconst (v := 0) hx hb dX4_run_33 (by decide) ?_
      refine tp_i (z := (nI 0)) nI_0.symm ?_
      refine va_put (D := D) (ci := 2) (v := .int (nI 0)) (ty := .int) (C := RX2) (T := TX2) (N := 5) hx hb hts in_X2 tyX2 tyX2_ok nmX2 hown hK hP (hDD _) hS 4 rfl rfl 4 (by decide) (hts _ kf_X4_121) (fun _ h9 => h9) rfl (by decide +kernel) rfl rfl (Nat.le_of_ble_eq_true rfl) dX4_run_34 (fun H locs hP _ hS => ?_)
      have hP : va_P D vwCl (cW ad cA (τ.1, τ.2.1, τ.2.2.1, ((sOp τ), (sFi τ), (sSe τ), (sAm τ), 0), τ.2.2.2.2)) H := hP
      refine lv_iload_n hx hb dX4_run_37 rfl (lv_at hl 0 rfl) ?_
      exact rt_i (v := (nI d)) (u := (τ.1, τ.2.1, τ.2.2.1, ((sOp τ), (sFi τ), (sSe τ), (sAm τ), 0), τ.2.2.2.2)) hx hb hr hlocks hS hP ((by unfold f_run; rw [← hE]; exact ⟨rfl, rfl⟩)) dX4_run_38
    | succ f ih =>
      intro d τ H locs ls hdf hIt hgt hTt hbt hE hP hS hl
      have hTc : sTc τ = sTc σ := by show τ.2.2.2.1.2.2.2.2 = _; rw [hTt]
      have sx := ex_st (i := d) hIt hgt
      refine lv_iload_n hx hb dX4_run_10 rfl (lv_at hl 0 rfl) ?_
      refine lv_iload_n hx hb dX4_run_11 rfl (lv_at hl 2 rfl) ?_
      refine lv_icmp_ge (tgt := 29) hx hb dX4_run_12 (by decide) (fun c9 => absurd c9 (nI_ge (by omega) (by omega))) (fun _ => ?_)
      refine lv_aload_n hx hb dX4_run_15 rfl (lv_at hl 1 rfl) ?_
      refine lv_iload_n hx hb dX4_run_16 rfl (lv_at hl 0 rfl) ?_
      refine cl_i (rest := []) (c_X4_doOrder l D cA ad A hDD τ d (by omega) hIt hgt (by omega)) ⟨hx, hb, hml, hown, hts⟩ hK hP hS kv_X4_124 ⟨Nat.le_of_ble_eq_true rfl, Nat.le_of_ble_eq_true rfl⟩ ⟨Nat.zero_le _, Nat.zero_le _⟩ 0 rfl rfl rfl hl.1 rfl (Nat.le_of_ble_eq_true rfl) (fun q h => h) dX4_run_17 (fun r u H locs hw hP hS _ => ?_)
      rw [hw.2] at hP
      refine tp_i (z := (dor τ d).1) hw.1 ?_
      by_cases h4 : sOp τ d = 4
      · rw [dor_4 h4] at hP
        have hP : va_P D vwCl (cW ad cA τ) H := hP
        refine tp_i (z := 0) (by rw [dor_4 h4]) ?_
        refine lv_if_eq (tgt := 29) hx hb dX4_run_20 (by decide) (fun _ => ?_) (fun c9 => absurd (by decide) c9)
        refine lv_aload_n hx hb dX4_run_29 rfl (lv_at hl 1 rfl) ?_
        refine va_get (D := D) (ci := 4) (v := .ref (ad 4)) (C := RX4) (T := TX4) (N := 7) hx hb hts in_X4 hown hK hP 0 rfl rfl 3 (by decide) (hts _ kf_X4_33) (fun _ h9 => h9) rfl dX4_run_30 ?_
        refine lv_iconst (v := 0) hx hb dX4_run_33 (by decide) ?_
        refine tp_i (z := (nI 0)) nI_0.symm ?_
        refine va_put (D := D) (ci := 2) (v := .int (nI 0)) (ty := .int) (C := RX2) (T := TX2) (N := 5) hx hb hts in_X2 tyX2 tyX2_ok nmX2 hown hK hP (hDD _) hS 4 rfl rfl 4 (by decide) (hts _ kf_X4_121) (fun _ h9 => h9) rfl (by decide +kernel) rfl rfl (Nat.le_of_ble_eq_true rfl) dX4_run_34 (fun H locs hP _ hS => ?_)
        have hP : va_P D vwCl (cW ad cA (τ.1, τ.2.1, τ.2.2.1, ((sOp τ), (sFi τ), (sSe τ), (sAm τ), 0), τ.2.2.2.2)) H := hP
        refine lv_iload_n hx hb dX4_run_37 rfl (lv_at hl 0 rfl) ?_
        exact rt_i (v := (nI d)) (u := (τ.1, τ.2.1, τ.2.2.1, ((sOp τ), (sFi τ), (sSe τ), (sAm τ), 0), τ.2.2.2.2)) hx hb hr hlocks hS hP ((by unfold f_run; rw [← hE, rn_1 h4]; exact ⟨rfl, rfl⟩)) dX4_run_38
      · by_cases qa : (ex τ d).1 = -6 ∨ (ex τ d).1 = -7
        · rw [dor_0 h4 qa] at hP
          have hP : va_P D vwCl (cW ad cA (ex τ d).2) H := hP
          obtain ⟨u1, hu1⟩ : ∃ z, z = (ex τ d).2 := ⟨_, rfl⟩
          rw [← hu1] at hP sx
          refine tp_i (z := 0) (by rw [dor_0 h4 qa]) ?_
          refine lv_if_eq (tgt := 29) hx hb dX4_run_20 (by decide) (fun _ => ?_) (fun c9 => absurd (by decide) c9)
          refine lv_aload_n hx hb dX4_run_29 rfl (lv_at hl 1 rfl) ?_
          refine va_get (D := D) (ci := 4) (v := .ref (ad 4)) (C := RX4) (T := TX4) (N := 7) hx hb hts in_X4 hown hK hP 0 rfl rfl 3 (by decide) (hts _ kf_X4_33) (fun _ h9 => h9) rfl dX4_run_30 ?_
          refine lv_iconst (v := 0) hx hb dX4_run_33 (by decide) ?_
          refine tp_i (z := (nI 0)) nI_0.symm ?_
          refine va_put (D := D) (ci := 2) (v := .int (nI 0)) (ty := .int) (C := RX2) (T := TX2) (N := 5) hx hb hts in_X2 tyX2 tyX2_ok nmX2 hown hK hP (hDD _) hS 4 rfl rfl 4 (by decide) (hts _ kf_X4_121) (fun _ h9 => h9) rfl (by decide +kernel) rfl rfl (Nat.le_of_ble_eq_true rfl) dX4_run_34 (fun H locs hP _ hS => ?_)
          have hP : va_P D vwCl (cW ad cA (u1.1, u1.2.1, u1.2.2.1, ((sOp u1), (sFi u1), (sSe u1), (sAm u1), 0), u1.2.2.2.2)) H := hP
          refine lv_iload_n hx hb dX4_run_37 rfl (lv_at hl 0 rfl) ?_
          exact rt_i (v := (nI d)) (u := (u1.1, u1.2.1, u1.2.2.1, ((sOp u1), (sFi u1), (sSe u1), (sAm u1), 0), u1.2.2.2.2)) hx hb hr hlocks hS hP ((by unfold f_run; rw [← hE, rn_2 h4 qa, ← hu1]; exact ⟨rfl, rfl⟩)) dX4_run_38
        · rw [dor_1 h4 qa] at hP
          have hP : va_P D vwCl (cW ad cA (ex τ d).2) H := hP
          obtain ⟨u1, hu1⟩ : ∃ z, z = (ex τ d).2 := ⟨_, rfl⟩
          rw [← hu1] at hP sx
          refine tp_i (z := 1) (by rw [dor_1 h4 qa]) ?_
          refine lv_if_eq (tgt := 29) hx hb dX4_run_20 (by decide) (fun c9 => absurd c9 (by decide)) (fun _ => ?_)
          refine lv_iinc (v := (nI (d + 1))) (lv' := [(2, .int (nI (d + 1))), (0, .ref (ad 0)), (1, .int (nI (sTc σ)))]) hx hb dX4_run_23 hl (k := 0) rfl (nI_1 _) (by decide) rfl (fun ls hl => ?_)
          refine lv_goto (tgt := 10) hx hb dX4_run_26 (by decide) ?_
          exact ih (d + 1) u1 _ _ ls (by omega) sx.1.1 sx.2 (sx.1.2.2.1.trans hTt) (by have h7 := sx.1.2.2.2.2; have h8 := sx.2; omega) (by rw [hu1]; exact (rn_3 h4 qa).symm.trans hE) hP hS (lv_sub hl [0, 1, 2] rfl)
  refine lv_aload_n hx hb dX4_run_0 rfl (lv_at hl 0 rfl) ?_
  refine va_get (D := D) (ci := 4) (v := .ref (ad 4)) (C := RX4) (T := TX4) (N := 7) hx hb hts in_X4 hown hK hP 0 rfl rfl 3 (by decide) (hts _ kf_X4_33) (fun _ h9 => h9) rfl dX4_run_1 ?_
  refine va_get (D := D) (ci := 2) (v := .int (nI (sTc σ))) (C := RX2) (T := TX2) (N := 5) hx hb hts in_X2 hown hK hP 4 rfl rfl 4 (by decide) (hts _ kf_X4_121) (fun _ h9 => h9) rfl dX4_run_4 ?_
  refine lv_istore_n (lv' := [(1, .int (nI (sTc σ))), (0, .ref (ad 0))]) hx hb dX4_run_7 rfl hl (by decide) rfl (fun ls hl => ?_)
  refine lv_iconst (v := 0) hx hb dX4_run_8 (by decide) ?_
  refine lv_istore_n (lv' := [(2, .int 0), (1, .int (nI (sTc σ))), (0, .ref (ad 0))]) hx hb dX4_run_9 rfl hl (by decide) rfl (fun ls hl => ?_)
  exact loop (sTc σ) 0 σ _ _ ls (by omega) hI hg rfl (by omega) rfl hP hS (lv_sub hl [0, 2, 1] rfl)
