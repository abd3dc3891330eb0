set_option maxHeartbeats 4000000 in
set_option maxRecDepth 100000 in
theorem c_X5_sweep (l : Launch) (D : va_G) (cA : ClassId) (ad : Nat → Nat) (A : Nat → Prop) (hDD : ∀ u, va_D A (rW ad cA u)) (σ : CS) (a mm n0 : Int32) (hI : Inv σ) (hg : sGr σ = 0) (hb9 : sBc σ ≤ 1000000000) : Ct l D cA (rW ad cA) A yX5_sweep cX5_sweep 8 (some .int) 6 128 [.ref (ad 0), .int a, .int mm, .int n0] σ (fun r u => r = (f_sweep σ a mm n0).1 ∧ u = (f_sweep σ a mm n0).2) := by
  refine Ct.of (by decide) (Nat.le_of_ble_eq_true rfl) ?_
  intro p e s m below meth c ls S0 hr hlocks hK hP hS hl
  obtain ⟨hx, hb, hml, hown, hts⟩ := id S0
  have hl : lv_has ls 8 [(0, .ref (ad 0)), (1, .int a), (2, .int mm), (3, .int n0)] := hl
  have hkc := hI.kc
  have hvc := hI.vc
  have hgc := hI.gr
  have htc := hI.tc
  rcases hrw : row σ a mm with _ | q
  · skip
    refine lv_aload_n hx hb dX5_sweep_0 rfl (lv_at hl 0 rfl) ?_
    refine lv_iload_n hx hb dX5_sweep_1 rfl (lv_at hl 1 rfl) ?_
    refine lv_iload_n hx hb dX5_sweep_2 rfl (lv_at hl 2 rfl) ?_
    refine cl_i (rest := []) (c_X5_areThere l D cA ad A hDD σ a mm hI) ⟨hx, hb, hml, hown, hts⟩ hK hP hS kv_X5_114 ⟨Nat.le_of_ble_eq_true rfl, Nat.le_of_ble_eq_true rfl⟩ ⟨Nat.zero_le _, Nat.zero_le _⟩ 0 rfl rfl rfl hl.1 rfl (Nat.le_of_ble_eq_true rfl) (fun q h => h) dX5_sweep_3 (fun r u H locs hw hP hS _ => ?_)
    rw [hw.2] at hP
    refine tp_i (z := (bz ((row σ a mm).isSome = true))) hw.1 ?_
    refine tp_i (z := 0) (bz_0 (isS_0 hrw)) ?_
    refine lv_if_eq (tgt := 20) hx hb dX5_sweep_6 (by decide) (fun _ => ?_) (fun c9 => absurd (by decide) c9)
    refine lv_bipush (v := (-2)) hx hb dX5_sweep_20 (by decide) ?_
    exact rt_i (v := (-2)) (u := σ) hx hb hr hlocks hS hP (pr2 (sweep_b hrw)) dX5_sweep_22
  · obtain ⟨i, k⟩ := q
    obtain ⟨rfl, rfl, hk1, hk2, hik⟩ := row_f hvc hrw
    refine lv_aload_n hx hb dX5_sweep_0 rfl (lv_at hl 0 rfl) ?_
    refine lv_iload_n hx hb dX5_sweep_1 rfl (lv_at hl 1 rfl) ?_
    refine lv_iload_n hx hb dX5_sweep_2 rfl (lv_at hl 2 rfl) ?_
    refine cl_i (rest := []) (c_X5_areThere l D cA ad A hDD σ (nI i) (nI k) hI) ⟨hx, hb, hml, hown, hts⟩ hK hP hS kv_X5_114 ⟨Nat.le_of_ble_eq_true rfl, Nat.le_of_ble_eq_true rfl⟩ ⟨Nat.zero_le _, Nat.zero_le _⟩ 0 rfl rfl rfl hl.1 rfl (Nat.le_of_ble_eq_true rfl) (fun q h => h) dX5_sweep_3 (fun r u H locs hw hP hS _ => ?_)
    rw [hw.2] at hP
    refine tp_i (z := (bz ((row σ (nI i) (nI k)).isSome = true))) hw.1 ?_
    refine tp_i (z := 1) (bz_1 (isS_1 hrw)) ?_
    refine lv_if_eq (tgt := 20) hx hb dX5_sweep_6 (by decide) (fun c9 => absurd c9 (by decide)) (fun _ => ?_)
    by_cases hn : 1 ≤ n0 ∧ n0 ≤ 1000000
    · obtain ⟨n, hn1, hn2, rfl⟩ := rng (lo := 1) (hi := 1000000) (by decide) (by decide) hn
      have loop : ∀ (f v w : Nat) (τ : CS) (H : Heap) (locs : List Loc) (ls : Array Slot), v + f = i + k → 1 ≤ w → w ≤ 1000000 → Inv τ → sGr τ = 0 → sVc τ = sVc σ → sBc τ + 4 * f ≤ 1000001000 → sl (nI n) f v (nI w) τ = sl (nI n) k i (nI n) σ → va_P D vwCl (rW ad cA τ) H → va_S A s.heap H locs → lv_has ls 8 [(5, .int (nI v)), (4, .int (nI w)), (0, .ref (ad 0)), (1, .int (nI i)), (2, .int (nI k)), (3, .int (nI n))] → W p l e { frames := 6, cells := 0, slots := 0, locals := 128 } s m ([.ref (ad 0), .int (nI i), .int (nI k), .int (nI n)] : List Value).toArray below meth c H locs 0 0 (MQ below (va_Qi (fun r u => r = (f_sweep σ (nI i) (nI k) (nI n)).1 ∧ u = (f_sweep σ (nI i) (nI k) (nI n)).2) (fun u t => va_P D vwCl (rW ad cA u) t.heap) A) ([.ref (ad 0), .int (nI i), .int (nI k), .int (nI n)] : List Value).toArray s 0 0 A) (F0 m 29 ls []) := by
        intro f
        induction f with
        | zero =>
          intro v w τ H locs ls hvf hw1 hw2 hIt hgt hvt hbt hE hP hS hl
          refine lv_iload hx hb dX5_sweep_29 (lv_at hl 0 rfl) ?_
          refine lv_iload_n hx hb dX5_sweep_31 rfl (lv_at hl 3 rfl) ?_
          refine lv_iload_n hx hb dX5_sweep_32 rfl (lv_at hl 4 rfl) ?_
          refine lv_iadd hx hb dX5_sweep_33 ?_
          refine tp_i (z := (nI (i + k))) (nI_add _ _) ?_
          refine lv_icmp_ge (tgt := 174) hx hb dX5_sweep_34 (by decide) (fun _ => ?_) (fun c9 => absurd (nI_le (by omega) (by omega)) c9)
          refine lv_iload_n hx hb dX5_sweep_174 rfl (lv_at hl 5 rfl) ?_
          refine lv_iload hx hb dX5_sweep_175 (lv_at hl 1 rfl) ?_
          refine lv_isub hx hb dX5_sweep_177 ?_
          exact rt_i (v := ((nI n) - (nI w))) (u := τ) hx hb hr hlocks hS hP ((by rw [sweep_g hrw hn, ← hE]; exact ⟨rfl, rfl⟩)) dX5_sweep_178
        | succ f ih =>
          intro v w τ H locs ls hvf hw1 hw2 hIt hgt hvt hbt hE hP hS hl
          have hv2 : v < sVc τ := by omega
          have hvt12 := hIt.vc
          have s1 := th_st (h := 0) hIt (hIt.lf hv2) (by omega)
          refine lv_iload hx hb dX5_sweep_29 (lv_at hl 0 rfl) ?_
          refine lv_iload_n hx hb dX5_sweep_31 rfl (lv_at hl 3 rfl) ?_
          refine lv_iload_n hx hb dX5_sweep_32 rfl (lv_at hl 4 rfl) ?_
          refine lv_iadd hx hb dX5_sweep_33 ?_
          refine tp_i (z := (nI (i + k))) (nI_add _ _) ?_
          refine lv_icmp_ge (tgt := 174) hx hb dX5_sweep_34 (by decide) (fun c9 => absurd c9 (nI_ge (by omega) (by omega))) (fun _ => ?_)
          refine lv_aload_n hx hb dX5_sweep_37 rfl (lv_at hl 2 rfl) ?_
          refine lv_iload hx hb dX5_sweep_38 (lv_at hl 0 rfl) ?_
          refine lv_iconst (v := 0) hx hb dX5_sweep_40 (by decide) ?_
          refine cl_i (rest := []) (c_X5_turnHand0 l D cA ad A hDD τ v (sLf τ v) rfl (hIt.lf hv2) hIt hv2 (by omega) (by omega)) ⟨hx, hb, hml, hown, hts⟩ hK hP hS kv_X5_99 ⟨Nat.le_of_ble_eq_true rfl, Nat.le_of_ble_eq_true rfl⟩ ⟨Nat.zero_le _, Nat.zero_le _⟩ 0 rfl rfl rfl hl.1 rfl (Nat.le_of_ble_eq_true rfl) (fun q h => h) dX5_sweep_41 (fun r u H locs hw hP hS _ => ?_)
          rw [hw.2] at hP
          refine tp_i (z := (thr (th τ (sLf τ v) 0).1)) hw.1 ?_
          rcases th_012 τ (sLf τ v) 0 with q | q | q
          · rw [show thu (th τ (sLf τ v) 0) = (th τ (sLf τ v) 0).2 from by unfold thu; rw [if_neg (by rw [q]; decide)]] at hP
            obtain ⟨u1, hu1⟩ : ∃ z, z = (th τ (sLf τ v) 0).2 := ⟨_, rfl⟩
            rw [← hu1] at hP
            rw [← hu1] at s1
            have b1 := s1.2.2.2.2
            have hv3 : v < sVc u1 := by rw [s1.2.1]; exact hv2
            have hv312 := s1.1.vc
            have g1 : sGr u1 = 1 := by rw [hu1, th_gr0 q, hgt]
            have hX2 : HX (sKc u1) (sRt τ v) := by rw [s1.2.2.2.1]; exact hIt.rt hv2
            have s2 := th_st (h := 1) s1.1 hX2 (by omega)
            refine tp_i (z := 0) (by rw [q]; rfl) ?_
            refine lv_istore (lv' := [(6, .int 0), (5, .int (nI v)), (4, .int (nI w)), (0, .ref (ad 0)), (1, .int (nI i)), (2, .int (nI k)), (3, .int (nI n))]) hx hb dX5_sweep_44 hl (by decide) rfl (fun ls hl => ?_)
            refine lv_iload hx hb dX5_sweep_46 (lv_at hl 0 rfl) ?_
            refine lv_bipush (v := (-7)) hx hb dX5_sweep_48 (by decide) ?_
            refine lv_icmp_ne (tgt := 56) hx hb dX5_sweep_50 (by decide) (fun _ => ?_) (fun c9 => absurd c9 (by decide))
            refine lv_iload hx hb dX5_sweep_56 (lv_at hl 0 rfl) ?_
            refine lv_bipush (v := (-4)) hx hb dX5_sweep_58 (by decide) ?_
            refine lv_icmp_ne (tgt := 66) hx hb dX5_sweep_60 (by decide) (fun _ => ?_) (fun c9 => absurd c9 (by decide))
            refine lv_aload_n hx hb dX5_sweep_66 rfl (lv_at hl 3 rfl) ?_
            refine lv_iload hx hb dX5_sweep_67 (lv_at hl 1 rfl) ?_
            refine lv_iconst (v := 1) hx hb dX5_sweep_69 (by decide) ?_
            refine cl_i (rest := []) (c_X5_turnHand1 l D cA ad A hDD u1 v (sRt τ v) (th_rtu hu1) hX2 s1.1 hv3 (by omega) (by omega)) ⟨hx, hb, hml, hown, hts⟩ hK hP hS kv_X5_99 ⟨Nat.le_of_ble_eq_true rfl, Nat.le_of_ble_eq_true rfl⟩ ⟨Nat.zero_le _, Nat.zero_le _⟩ 0 rfl rfl rfl hl.1 rfl (Nat.le_of_ble_eq_true rfl) (fun q h => h) dX5_sweep_70 (fun r u H locs hw hP hS _ => ?_)
            rw [hw.2] at hP
            refine tp_i (z := (thr (th u1 (sRt τ v) 1).1)) hw.1 ?_
            rcases th_012 u1 (sRt τ v) 1 with y | y | y
            · rw [show thu (th u1 (sRt τ v) 1) = (th u1 (sRt τ v) 1).2 from by unfold thu; rw [if_neg (by rw [y]; decide)]] at hP
              obtain ⟨u2, hu2⟩ : ∃ z, z = (th u1 (sRt τ v) 1).2 := ⟨_, rfl⟩
              rw [← hu2] at hP
              rw [← hu2] at s2
              have b2 := s2.2.2.2.2
              have s3 := s1.tr s2
              have hv4 : v < sVc u2 := by rw [s2.2.1]; exact hv3
              have hv412 := s2.1.vc
              have g2 : sGr u2 = 2 := by rw [hu2, th_gr0 y, g1]
              obtain ⟨z, hz, ez⟩ := swp_w (v := v) s2.1 hw2
              refine tp_i (z := 0) (by rw [y]; rfl) ?_
              refine lv_istore (lv' := [(6, .int 0), (5, .int (nI v)), (4, .int (nI w)), (0, .ref (ad 0)), (1, .int (nI i)), (2, .int (nI k)), (3, .int (nI n))]) hx hb dX5_sweep_73 hl (by decide) rfl (fun ls hl => ?_)
              refine lv_iload hx hb dX5_sweep_75 (lv_at hl 0 rfl) ?_
              refine lv_bipush (v := (-7)) hx hb dX5_sweep_77 (by decide) ?_
              refine lv_icmp_ne (tgt := 85) hx hb dX5_sweep_79 (by decide) (fun _ => ?_) (fun c9 => absurd c9 (by decide))
              refine lv_iload hx hb dX5_sweep_85 (lv_at hl 0 rfl) ?_
              refine lv_bipush (v := (-4)) hx hb dX5_sweep_87 (by decide) ?_
              refine lv_icmp_ne (tgt := 102) hx hb dX5_sweep_89 (by decide) (fun _ => ?_) (fun c9 => absurd c9 (by decide))
              refine lv_aload_n hx hb dX5_sweep_102 rfl (lv_at hl 3 rfl) ?_
              refine va_get (D := D) (ci := 5) (v := .ref (ad 5)) (C := RX5) (T := TX5) (N := 20) hx hb hts in_X5 hown hK hP 0 rfl rfl 5 (by decide) (hts _ kf_X5_22) (fun _ h9 => h9) rfl dX5_sweep_103 ?_
              refine lv_iload hx hb dX5_sweep_106 (lv_at hl 1 rfl) ?_
              refine ar_g hx hb hK hP 5 rfl (by omega) (by decide) dX5_sweep_108 ?_
              refine lv_iload hx hb dX5_sweep_109 (lv_at hl 2 rfl) ?_
              refine lv_icmp_ge (tgt := 124) hx hb dX5_sweep_111 (by decide) (fun c111 => ?_) (fun c111 => ?_)
              · refine lv_iload hx hb dX5_sweep_124 (lv_at hl 2 rfl) ?_
                refine tp_i (z := (mn (sSm u2 v) (nI w))) ((if_neg (i_nlt.mpr c111)).symm) ?_
                refine lv_istore (lv' := [(7, .int (mn (sSm u2 v) (nI w))), (6, .int 0), (5, .int (nI v)), (4, .int (nI w)), (0, .ref (ad 0)), (1, .int (nI i)), (2, .int (nI k)), (3, .int (nI n))]) hx hb dX5_sweep_126 hl (by decide) rfl (fun ls hl => ?_)
                refine lv_aload_n hx hb dX5_sweep_128 rfl (lv_at hl 4 rfl) ?_
                refine va_get (D := D) (ci := 5) (v := .ref (ad 5)) (C := RX5) (T := TX5) (N := 20) hx hb hts in_X5 hown hK hP 0 rfl rfl 5 (by decide) (hts _ kf_X5_22) (fun _ h9 => h9) rfl dX5_sweep_129 ?_
                refine lv_iload hx hb dX5_sweep_132 (lv_at hl 2 rfl) ?_
                refine lv_dup2_11 hx hb dX5_sweep_134 rfl rfl ?_
                refine ar_g hx hb hK hP 5 rfl (by omega) (by decide) dX5_sweep_135 ?_
                refine lv_iload hx hb dX5_sweep_136 (lv_at hl 0 rfl) ?_
                refine lv_isub hx hb dX5_sweep_138 ?_
                refine ar_p hx hb hK hP (hDD _) hS 5 rfl (x := ((sSm u2 v) - (mn (sSm u2 v) (nI w)))) (by omega) (by decide) dX5_sweep_139 (fun H locs hP hS => ?_)
                have hP : va_P D vwCl (rW ad cA (u2.1, ((sLim u2), (upd (sSm u2) v ((sSm u2 v) - (mn (sSm u2 v) (nI w)))), (sNx u2), (sLf u2), (sRt u2), (sVc u2)), u2.2.2.1, u2.2.2.2.1, u2.2.2.2.2)) H := hP
                refine lv_iload hx hb dX5_sweep_140 (lv_at hl 3 rfl) ?_
                refine lv_iload hx hb dX5_sweep_142 (lv_at hl 0 rfl) ?_
                refine lv_isub hx hb dX5_sweep_144 ?_
                refine tp_i (z := (nI z)) (ez) ?_
                refine lv_istore (lv' := [(4, .int (nI z)), (7, .int (mn (sSm u2 v) (nI w))), (6, .int 0), (5, .int (nI v)), (0, .ref (ad 0)), (1, .int (nI i)), (2, .int (nI k)), (3, .int (nI n))]) hx hb dX5_sweep_145 hl (by decide) rfl (fun ls hl => ?_)
                refine lv_iload hx hb dX5_sweep_147 (lv_at hl 0 rfl) ?_
                refine lv_if_ne (tgt := 161) hx hb dX5_sweep_149 (by decide) (fun cz => ?_) (fun cz => ?_)
                · refine lv_aload_n hx hb dX5_sweep_161 rfl (lv_at hl 4 rfl) ?_
                  refine lv_sipush (v := 200) hx hb dX5_sweep_162 (by decide) ?_
                  refine cl_v (rest := []) (c_X5_dropAll l D cA ad A hDD (u2.1, ((sLim u2), (upd (sSm u2) v ((sSm u2 v) - (mn (sSm u2 v) (nI w)))), (sNx u2), (sLf u2), (sRt u2), (sVc u2)), u2.2.2.1, u2.2.2.2.1, u2.2.2.2.2) 200 (swp_inv s2.1 hv4 hw2) (by show sBc u2 + sGr u2 < 2147483647; omega)) ⟨hx, hb, hml, hown, hts⟩ hK hP hS kv_X5_86 ⟨Nat.le_of_ble_eq_true rfl, Nat.le_of_ble_eq_true rfl⟩ ⟨Nat.zero_le _, Nat.zero_le _⟩ 0 rfl rfl rfl hl.1 rfl (Nat.le_of_ble_eq_true rfl) (fun q h => h) dX5_sweep_165 (fun u H locs hw hP hS _ => ?_)
                  rw [hw] at hP
                  refine lv_iinc (v := (nI (v + 1))) (lv' := [(5, .int (nI (v + 1))), (4, .int (nI z)), (7, .int (mn (sSm u2 v) (nI w))), (6, .int 0), (0, .ref (ad 0)), (1, .int (nI i)), (2, .int (nI k)), (3, .int (nI n))]) hx hb dX5_sweep_168 hl (k := 3) rfl (nI_1 _) (by decide) rfl (fun ls hl => ?_)
                  refine lv_goto (tgt := 29) hx hb dX5_sweep_171 (by decide) ?_
                  have hz1 : 1 ≤ z := Nat.pos_of_ne_zero fun q9 => cz (by rw [q9]; rfl)
                  exact ih (v + 1) z (da 200 (ssm u2 (upd (sSm u2) v (sSm u2 v - mn (sSm u2 v) (nI w))))) _ _ ls (by omega) (by omega) (by omega) (Stq.da (w := 200) (Stq.ssm s3 (swp_inv s2.1 hv4 hw2))).1 rfl ((Stq.da (w := 200) (Stq.ssm s3 (swp_inv s2.1 hv4 hw2))).2.1.trans hvt) (by have h7 := (Stq.da (w := 200) (Stq.ssm s3 (swp_inv s2.1 hv4 hw2))).2.2.2.2; have h8 : sGr (da 200 (ssm u2 (upd (sSm u2) v (sSm u2 v - mn (sSm u2 v) (nI w))))) = 0 := rfl; omega) (((sl_5 hu1 q hu2 y).trans (swp_1 ez cz)).symm.trans hE) hP hS (lv_sub hl [0, 1, 4, 5, 6, 7] rfl)
                · refine lv_aload_n hx hb dX5_sweep_152 rfl (lv_at hl 4 rfl) ?_
                  refine lv_sipush (v := 400) hx hb dX5_sweep_153 (by decide) ?_
                  refine cl_v (rest := []) (c_X5_dropAll l D cA ad A hDD (u2.1, ((sLim u2), (upd (sSm u2) v ((sSm u2 v) - (mn (sSm u2 v) (nI w)))), (sNx u2), (sLf u2), (sRt u2), (sVc u2)), u2.2.2.1, u2.2.2.2.1, u2.2.2.2.2) 400 (swp_inv s2.1 hv4 hw2) (by show sBc u2 + sGr u2 < 2147483647; omega)) ⟨hx, hb, hml, hown, hts⟩ hK hP hS kv_X5_86 ⟨Nat.le_of_ble_eq_true rfl, Nat.le_of_ble_eq_true rfl⟩ ⟨Nat.zero_le _, Nat.zero_le _⟩ 0 rfl rfl rfl hl.1 rfl (Nat.le_of_ble_eq_true rfl) (fun q h => h) dX5_sweep_156 (fun u H locs hw hP hS _ => ?_)
                  rw [hw] at hP
                  refine lv_iload_n hx hb dX5_sweep_159 rfl (lv_at hl 7 rfl) ?_
                  exact rt_i (v := (nI n)) (u := (da 400 (u2.1, ((sLim u2), (upd (sSm u2) v ((sSm u2 v) - (mn (sSm u2 v) (nI w)))), (sNx u2), (sLf u2), (sRt u2), (sVc u2)), u2.2.2.1, u2.2.2.2.1, u2.2.2.2.2))) hx hb hr hlocks hS hP ((by rw [sweep_g hrw hn, ← hE, sl_5 hu1 q hu2 y, swp_0 ez cz]; exact ⟨rfl, rfl⟩)) dX5_sweep_160
              · refine lv_aload_n hx hb dX5_sweep_114 rfl (lv_at hl 3 rfl) ?_
                refine va_get (D := D) (ci := 5) (v := .ref (ad 5)) (C := RX5) (T := TX5) (N := 20) hx hb hts in_X5 hown hK hP 0 rfl rfl 5 (by decide) (hts _ kf_X5_22) (fun _ h9 => h9) rfl dX5_sweep_115 ?_
                refine lv_iload hx hb dX5_sweep_118 (lv_at hl 1 rfl) ?_
                refine ar_g hx hb hK hP 5 rfl (by omega) (by decide) dX5_sweep_120 ?_
                refine lv_goto (tgt := 126) hx hb dX5_sweep_121 (by decide) ?_
                refine tp_i (z := (mn (sSm u2 v) (nI w))) ((if_pos (i_nle.mp c111)).symm) ?_
                refine lv_istore (lv' := [(7, .int (mn (sSm u2 v) (nI w))), (6, .int 0), (5, .int (nI v)), (4, .int (nI w)), (0, .ref (ad 0)), (1, .int (nI i)), (2, .int (nI k)), (3, .int (nI n))]) hx hb dX5_sweep_126 hl (by decide) rfl (fun ls hl => ?_)
                refine lv_aload_n hx hb dX5_sweep_128 rfl (lv_at hl 4 rfl) ?_
                refine va_get (D := D) (ci := 5) (v := .ref (ad 5)) (C := RX5) (T := TX5) (N := 20) hx hb hts in_X5 hown hK hP 0 rfl rfl 5 (by decide) (hts _ kf_X5_22) (fun _ h9 => h9) rfl dX5_sweep_129 ?_
                refine lv_iload hx hb dX5_sweep_132 (lv_at hl 2 rfl) ?_
                refine lv_dup2_11 hx hb dX5_sweep_134 rfl rfl ?_
                refine ar_g hx hb hK hP 5 rfl (by omega) (by decide) dX5_sweep_135 ?_
                refine lv_iload hx hb dX5_sweep_136 (lv_at hl 0 rfl) ?_
                refine lv_isub hx hb dX5_sweep_138 ?_
                refine ar_p hx hb hK hP (hDD _) hS 5 rfl (x := ((sSm u2 v) - (mn (sSm u2 v) (nI w)))) (by omega) (by decide) dX5_sweep_139 (fun H locs hP hS => ?_)
                have hP : va_P D vwCl (rW ad cA (u2.1, ((sLim u2), (upd (sSm u2) v ((sSm u2 v) - (mn (sSm u2 v) (nI w)))), (sNx u2), (sLf u2), (sRt u2), (sVc u2)), u2.2.2.1, u2.2.2.2.1, u2.2.2.2.2)) H := hP
                refine lv_iload hx hb dX5_sweep_140 (lv_at hl 3 rfl) ?_
                refine lv_iload hx hb dX5_sweep_142 (lv_at hl 0 rfl) ?_
                refine lv_isub hx hb dX5_sweep_144 ?_
                refine tp_i (z := (nI z)) (ez) ?_
                refine lv_istore (lv' := [(4, .int (nI z)), (7, .int (mn (sSm u2 v) (nI w))), (6, .int 0), (5, .int (nI v)), (0, .ref (ad 0)), (1, .int (nI i)), (2, .int (nI k)), (3, .int (nI n))]) hx hb dX5_sweep_145 hl (by decide) rfl (fun ls hl => ?_)
                refine lv_iload hx hb dX5_sweep_147 (lv_at hl 0 rfl) ?_
                refine lv_if_ne (tgt := 161) hx hb dX5_sweep_149 (by decide) (fun cz => ?_) (fun cz => ?_)
                · refine lv_aload_n hx hb dX5_sweep_161 rfl (lv_at hl 4 rfl) ?_
                  refine lv_sipush (v := 200) hx hb dX5_sweep_162 (by decide) ?_
                  refine cl_v (rest := []) (c_X5_dropAll l D cA ad A hDD (u2.1, ((sLim u2), (upd (sSm u2) v ((sSm u2 v) - (mn (sSm u2 v) (nI w)))), (sNx u2), (sLf u2), (sRt u2), (sVc u2)), u2.2.2.1, u2.2.2.2.1, u2.2.2.2.2) 200 (swp_inv s2.1 hv4 hw2) (by show sBc u2 + sGr u2 < 2147483647; omega)) ⟨hx, hb, hml, hown, hts⟩ hK hP hS kv_X5_86 ⟨Nat.le_of_ble_eq_true rfl, Nat.le_of_ble_eq_true rfl⟩ ⟨Nat.zero_le _, Nat.zero_le _⟩ 0 rfl rfl rfl hl.1 rfl (Nat.le_of_ble_eq_true rfl) (fun q h => h) dX5_sweep_165 (fun u H locs hw hP hS _ => ?_)
                  rw [hw] at hP
                  refine lv_iinc (v := (nI (v + 1))) (lv' := [(5, .int (nI (v + 1))), (4, .int (nI z)), (7, .int (mn (sSm u2 v) (nI w))), (6, .int 0), (0, .ref (ad 0)), (1, .int (nI i)), (2, .int (nI k)), (3, .int (nI n))]) hx hb dX5_sweep_168 hl (k := 3) rfl (nI_1 _) (by decide) rfl (fun ls hl => ?_)
                  refine lv_goto (tgt := 29) hx hb dX5_sweep_171 (by decide) ?_
                  have hz1 : 1 ≤ z := Nat.pos_of_ne_zero fun q9 => cz (by rw [q9]; rfl)
                  exact ih (v + 1) z (da 200 (ssm u2 (upd (sSm u2) v (sSm u2 v - mn (sSm u2 v) (nI w))))) _ _ ls (by omega) (by omega) (by omega) (Stq.da (w := 200) (Stq.ssm s3 (swp_inv s2.1 hv4 hw2))).1 rfl ((Stq.da (w := 200) (Stq.ssm s3 (swp_inv s2.1 hv4 hw2))).2.1.trans hvt) (by have h7 := (Stq.da (w := 200) (Stq.ssm s3 (swp_inv s2.1 hv4 hw2))).2.2.2.2; have h8 : sGr (da 200 (ssm u2 (upd (sSm u2) v (sSm u2 v - mn (sSm u2 v) (nI w))))) = 0 := rfl; omega) (((sl_5 hu1 q hu2 y).trans (swp_1 ez cz)).symm.trans hE) hP hS (lv_sub hl [0, 1, 4, 5, 6, 7] rfl)
                · refine lv_aload_n hx hb dX5_sweep_152 rfl (lv_at hl 4 rfl) ?_
                  refine lv_sipush (v := 400) hx hb dX5_sweep_153 (by decide) ?_
                  refine cl_v (rest := []) (c_X5_dropAll l D cA ad A hDD (u2.1, ((sLim u2), (upd (sSm u2) v ((sSm u2 v) - (mn (sSm u2 v) (nI w)))), (sNx u2), (sLf u2), (sRt u2), (sVc u2)), u2.2.2.1, u2.2.2.2.1, u2.2.2.2.2) 400 (swp_inv s2.1 hv4 hw2) (by show sBc u2 + sGr u2 < 2147483647; omega)) ⟨hx, hb, hml, hown, hts⟩ hK hP hS kv_X5_86 ⟨Nat.le_of_ble_eq_true rfl, Nat.le_of_ble_eq_true rfl⟩ ⟨Nat.zero_le _, Nat.zero_le _⟩ 0 rfl rfl rfl hl.1 rfl (Nat.le_of_ble_eq_true rfl) (fun q h => h) dX5_sweep_156 (fun u H locs hw hP hS _ => ?_)
                  rw [hw] at hP
                  refine lv_iload_n hx hb dX5_sweep_159 rfl (lv_at hl 7 rfl) ?_
                  exact rt_i (v := (nI n)) (u := (da 400 (u2.1, ((sLim u2), (upd (sSm u2) v ((sSm u2 v) - (mn (sSm u2 v) (nI w)))), (sNx u2), (sLf u2), (sRt u2), (sVc u2)), u2.2.2.1, u2.2.2.2.1, u2.2.2.2.2))) hx hb hr hlocks hS hP ((by rw [sweep_g hrw hn, ← hE, sl_5 hu1 q hu2 y, swp_0 ez cz]; exact ⟨rfl, rfl⟩)) dX5_sweep_160
            · rw [show thu (th u1 (sRt τ v) 1) = (th u1 (sRt τ v) 1).2 from by unfold thu; rw [if_neg (by rw [y]; decide)]] at hP
              obtain ⟨u2, hu2⟩ : ∃ z, z = (th u1 (sRt τ v) 1).2 := ⟨_, rfl⟩
              rw [← hu2] at hP
              rw [← hu2] at s2
              have b2 := s2.2.2.2.2
              have s3 := s1.tr s2
              have hv4 : v < sVc u2 := by rw [s2.2.1]; exact hv3
              have hv412 := s2.1.vc
              have g2 : sGr u2 = 1 := by rw [hu2, th_gr1 (by rw [y]; decide), g1]
              refine tp_i (z := (-4)) (by rw [y]; rfl) ?_
              refine lv_istore (lv' := [(6, .int (-4)), (5, .int (nI v)), (4, .int (nI w)), (0, .ref (ad 0)), (1, .int (nI i)), (2, .int (nI k)), (3, .int (nI n))]) hx hb dX5_sweep_73 hl (by decide) rfl (fun ls hl => ?_)
              refine lv_iload hx hb dX5_sweep_75 (lv_at hl 0 rfl) ?_
              refine lv_bipush (v := (-7)) hx hb dX5_sweep_77 (by decide) ?_
              refine lv_icmp_ne (tgt := 85) hx hb dX5_sweep_79 (by decide) (fun _ => ?_) (fun c9 => absurd c9 (by decide))
              refine lv_iload hx hb dX5_sweep_85 (lv_at hl 0 rfl) ?_
              refine lv_bipush (v := (-4)) hx hb dX5_sweep_87 (by decide) ?_
              refine lv_icmp_ne (tgt := 102) hx hb dX5_sweep_89 (by decide) (fun c9 => absurd (by decide) c9) (fun _ => ?_)
              refine lv_aload_n hx hb dX5_sweep_92 rfl (lv_at hl 3 rfl) ?_
              refine lv_sipush (v := 500) hx hb dX5_sweep_93 (by decide) ?_
              refine cl_v (rest := []) (c_X5_dropTop1 l D cA ad A hDD u2 500 s2.1 g2 (by omega)) ⟨hx, hb, hml, hown, hts⟩ hK hP hS kv_X5_83 ⟨Nat.le_of_ble_eq_true rfl, Nat.le_of_ble_eq_true rfl⟩ ⟨Nat.zero_le _, Nat.zero_le _⟩ 0 rfl rfl rfl hl.1 rfl (Nat.le_of_ble_eq_true rfl) (fun q h => h) dX5_sweep_96 (fun u H locs hw hP hS _ => ?_)
              rw [hw] at hP
              refine lv_goto (tgt := 168) hx hb dX5_sweep_99 (by decide) ?_
              refine lv_iinc (v := (nI (v + 1))) (lv' := [(5, .int (nI (v + 1))), (6, .int (-4)), (4, .int (nI w)), (0, .ref (ad 0)), (1, .int (nI i)), (2, .int (nI k)), (3, .int (nI n))]) hx hb dX5_sweep_168 hl (k := 1) rfl (nI_1 _) (by decide) rfl (fun ls hl => ?_)
              refine lv_goto (tgt := 29) hx hb dX5_sweep_171 (by decide) ?_
              exact ih (v + 1) w (da 500 u2) _ _ ls (by omega) (by omega) (by omega) (Stq.da (w := 500) s3).1 rfl ((Stq.da (w := 500) s3).2.1.trans hvt) (by have h7 := (Stq.da (w := 500) s3).2.2.2.2; have h8 : sGr (da 500 u2) = 0 := rfl; omega) ((sl_3 hu1 q hu2 y).symm.trans hE) hP hS (lv_sub hl [0, 2, 3, 4, 5, 6] rfl)
            · rw [show thu (th u1 (sRt τ v) 1) = ra (th u1 (sRt τ v) 1).2 from by unfold thu; rw [if_pos y]] at hP
              obtain ⟨u2, hu2⟩ : ∃ z, z = (th u1 (sRt τ v) 1).2 := ⟨_, rfl⟩
              rw [← hu2] at hP
              rw [← hu2] at s2
              have b2 := s2.2.2.2.2
              have s3 := s1.tr s2
              have hv4 : v < sVc u2 := by rw [s2.2.1]; exact hv3
              have hv412 := s2.1.vc
              have g2 : sGr u2 = 1 := by rw [hu2, th_gr1 (by rw [y]; decide), g1]
              refine tp_i (z := (-7)) (by rw [y]; rfl) ?_
              refine lv_istore (lv' := [(6, .int (-7)), (5, .int (nI v)), (4, .int (nI w)), (0, .ref (ad 0)), (1, .int (nI i)), (2, .int (nI k)), (3, .int (nI n))]) hx hb dX5_sweep_73 hl (by decide) rfl (fun ls hl => ?_)
              refine lv_iload hx hb dX5_sweep_75 (lv_at hl 0 rfl) ?_
              refine lv_bipush (v := (-7)) hx hb dX5_sweep_77 (by decide) ?_
              refine lv_icmp_ne (tgt := 85) hx hb dX5_sweep_79 (by decide) (fun c9 => absurd (by decide) c9) (fun _ => ?_)
              refine lv_bipush (v := (-7)) hx hb dX5_sweep_82 (by decide) ?_
              exact rt_i (v := (-7)) (u := (ra u2)) hx hb hr hlocks hS hP ((by rw [sweep_g hrw hn, ← hE, sl_4 hu1 q hu2 y]; exact ⟨rfl, rfl⟩)) dX5_sweep_84
          · rw [show thu (th τ (sLf τ v) 0) = (th τ (sLf τ v) 0).2 from by unfold thu; rw [if_neg (by rw [q]; decide)]] at hP
            obtain ⟨u1, hu1⟩ : ∃ z, z = (th τ (sLf τ v) 0).2 := ⟨_, rfl⟩
            rw [← hu1] at hP
            rw [← hu1] at s1
            have b1 := s1.2.2.2.2
            have hv3 : v < sVc u1 := by rw [s1.2.1]; exact hv2
            have hv312 := s1.1.vc
            have g1 : sGr u1 = 0 := by rw [hu1, th_gr1 (by rw [q]; decide), hgt]
            refine tp_i (z := (-4)) (by rw [q]; rfl) ?_
            refine lv_istore (lv' := [(6, .int (-4)), (5, .int (nI v)), (4, .int (nI w)), (0, .ref (ad 0)), (1, .int (nI i)), (2, .int (nI k)), (3, .int (nI n))]) hx hb dX5_sweep_44 hl (by decide) rfl (fun ls hl => ?_)
            refine lv_iload hx hb dX5_sweep_46 (lv_at hl 0 rfl) ?_
            refine lv_bipush (v := (-7)) hx hb dX5_sweep_48 (by decide) ?_
            refine lv_icmp_ne (tgt := 56) hx hb dX5_sweep_50 (by decide) (fun _ => ?_) (fun c9 => absurd c9 (by decide))
            refine lv_iload hx hb dX5_sweep_56 (lv_at hl 0 rfl) ?_
            refine lv_bipush (v := (-4)) hx hb dX5_sweep_58 (by decide) ?_
            refine lv_icmp_ne (tgt := 66) hx hb dX5_sweep_60 (by decide) (fun c9 => absurd (by decide) c9) (fun _ => ?_)
            refine lv_goto (tgt := 168) hx hb dX5_sweep_63 (by decide) ?_
            refine lv_iinc (v := (nI (v + 1))) (lv' := [(5, .int (nI (v + 1))), (6, .int (-4)), (4, .int (nI w)), (0, .ref (ad 0)), (1, .int (nI i)), (2, .int (nI k)), (3, .int (nI n))]) hx hb dX5_sweep_168 hl (k := 1) rfl (nI_1 _) (by decide) rfl (fun ls hl => ?_)
            refine lv_goto (tgt := 29) hx hb dX5_sweep_171 (by decide) ?_
            exact ih (v + 1) w u1 _ _ ls (by omega) (by omega) (by omega) s1.1 g1 (s1.2.1.trans hvt) (by have h7 := s1.2.2.2.2; have h8 : sGr u1 = 0 := g1; omega) ((sl_1 hu1 q).symm.trans hE) hP hS (lv_sub hl [0, 2, 3, 4, 5, 6] rfl)
          · rw [show thu (th τ (sLf τ v) 0) = ra (th τ (sLf τ v) 0).2 from by unfold thu; rw [if_pos q]] at hP
            obtain ⟨u1, hu1⟩ : ∃ z, z = (th τ (sLf τ v) 0).2 := ⟨_, rfl⟩
            rw [← hu1] at hP
            rw [← hu1] at s1
            have b1 := s1.2.2.2.2
            have hv3 : v < sVc u1 := by rw [s1.2.1]; exact hv2
            have hv312 := s1.1.vc
            have g1 : sGr u1 = 0 := by rw [hu1, th_gr1 (by rw [q]; decide), hgt]
            refine tp_i (z := (-7)) (by rw [q]; rfl) ?_
            refine lv_istore (lv' := [(6, .int (-7)), (5, .int (nI v)), (4, .int (nI w)), (0, .ref (ad 0)), (1, .int (nI i)), (2, .int (nI k)), (3, .int (nI n))]) hx hb dX5_sweep_44 hl (by decide) rfl (fun ls hl => ?_)
            refine lv_iload hx hb dX5_sweep_46 (lv_at hl 0 rfl) ?_
            refine lv_bipush (v := (-7)) hx hb dX5_sweep_48 (by decide) ?_
            refine lv_icmp_ne (tgt := 56) hx hb dX5_sweep_50 (by decide) (fun c9 => absurd (by decide) c9) (fun _ => ?_)
            refine lv_bipush (v := (-7)) hx hb dX5_sweep_53 (by decide) ?_
            exact rt_i (v := (-7)) (u := (ra u1)) hx hb hr hlocks hS hP ((by rw [sweep_g hrw hn, ← hE, sl_2 hu1 q]; exact ⟨rfl, rfl⟩)) dX5_sweep_55
      refine lv_iload_n hx hb dX5_sweep_9 rfl (lv_at hl 3 rfl) ?_
      refine lv_iconst (v := 1) hx hb dX5_sweep_10 (by decide) ?_
      refine lv_icmp_lt (tgt := 20) hx hb dX5_sweep_11 (by decide) (fun c9 => absurd c9 (i_nlt.mpr hn.1)) (fun _ => ?_)
      refine lv_iload_n hx hb dX5_sweep_14 rfl (lv_at hl 3 rfl) ?_
      refine lv_ldc (v := 1000000) hx hb hown (hts _ kc_X5_59) dX5_sweep_15 ?_
      refine lv_icmp_le (tgt := 23) hx hb dX5_sweep_17 (by decide) (fun _ => ?_) (fun c9 => absurd (hn.2) c9)
      refine lv_iload_n hx hb dX5_sweep_23 rfl (lv_at hl 3 rfl) ?_
      refine lv_istore (lv' := [(4, .int (nI n)), (0, .ref (ad 0)), (1, .int (nI i)), (2, .int (nI k)), (3, .int (nI n))]) hx hb dX5_sweep_24 hl (by decide) rfl (fun ls hl => ?_)
      refine lv_iload_n hx hb dX5_sweep_26 rfl (lv_at hl 2 rfl) ?_
      refine lv_istore (lv' := [(5, .int (nI i)), (4, .int (nI n)), (0, .ref (ad 0)), (1, .int (nI i)), (2, .int (nI k)), (3, .int (nI n))]) hx hb dX5_sweep_27 hl (by decide) rfl (fun ls hl => ?_)
      exact loop k i n σ _ _ ls rfl (by omega) (by omega) hI hg rfl (by omega) rfl hP hS (lv_sub hl [0, 1, 2, 3, 4, 5] rfl)
    · skip
      refine lv_iload_n hx hb dX5_sweep_9 rfl (lv_at hl 3 rfl) ?_
      refine lv_iconst (v := 1) hx hb dX5_sweep_10 (by decide) ?_
      refine lv_icmp_lt (tgt := 20) hx hb dX5_sweep_11 (by decide) (fun c11 => ?_) (fun c11 => ?_)
      · refine lv_bipush (v := (-2)) hx hb dX5_sweep_20 (by decide) ?_
        exact rt_i (v := (-2)) (u := σ) hx hb hr hlocks hS hP (pr2 (sweep_b2 hrw hn)) dX5_sweep_22
      · refine lv_iload_n hx hb dX5_sweep_14 rfl (lv_at hl 3 rfl) ?_
        refine lv_ldc (v := 1000000) hx hb hown (hts _ kc_X5_59) dX5_sweep_15 ?_
        refine lv_icmp_le (tgt := 23) hx hb dX5_sweep_17 (by decide) (fun c9 => absurd c9 (fun q => hn ⟨i_nlt.mp c11, q⟩)) (fun _ => ?_)
        refine lv_bipush (v := (-2)) hx hb dX5_sweep_20 (by decide) ?_
        exact rt_i (v := (-2)) (u := σ) hx hb hr hlocks hS hP (pr2 (sweep_b2 hrw hn)) dX5_sweep_22
set_option maxHeartbeats 4000000 in
set_option maxRecDepth 100000 in
theorem c_X5_walk (l : Launch) (D : va_G) (cA : ClassId) (ad : Nat → Nat) (A : Nat → Prop) (hDD : ∀ u, va_D A (rW ad cA u)) (σ : CS) (v mm n : Int32) (hI : Inv σ) (hg : sGr σ = 0) (hb9 : sBc σ ≤ 1000000000) : Ct l D cA (rW ad cA) A yX5_walk cX5_walk 8 (some .int) 6 128 [.ref (ad 0), .int v, .int mm, .int n] σ (fun r u => r = (f_walk σ v mm n).1 ∧ u = (f_walk σ v mm n).2) := by
  refine Ct.of (by decide) (Nat.le_of_ble_eq_true rfl) ?_
  intro p e s m below meth c ls S0 hr hlocks hK hP hS hl
  obtain ⟨hx, hb, hml, hown, hts⟩ := id S0
  have hl : lv_has ls 8 [(0, .ref (ad 0)), (1, .int v), (2, .int mm), (3, .int n)] := hl
  have hkc := hI.kc
  have hvc := hI.vc
  have hgc := hI.gr
  have htc := hI.tc
  rcases ix_cases (n := sVc σ) v (by omega) with h0 | ⟨j, hj, rfl⟩
  · refine lv_aload_n hx hb dX5_walk_0 rfl (lv_at hl 0 rfl) ?_
    refine lv_iload_n hx hb dX5_walk_1 rfl (lv_at hl 1 rfl) ?_
    refine cl_i (rest := []) (c_X5_isVault l D cA ad A hDD σ v ) ⟨hx, hb, hml, hown, hts⟩ hK hP hS kv_X5_67 ⟨Nat.le_of_ble_eq_true rfl, Nat.le_of_ble_eq_true rfl⟩ ⟨Nat.zero_le _, Nat.zero_le _⟩ 0 rfl rfl rfl hl.1 rfl (Nat.le_of_ble_eq_true rfl) (fun q h => h) dX5_walk_2 (fun r u H locs hw hP hS _ => ?_)
    rw [hw.2] at hP
    refine tp_i (z := (hz (sVc σ) v)) hw.1 ?_
    refine tp_i (z := 0) (hz_0 h0) ?_
    refine lv_if_eq (tgt := 23) hx hb dX5_walk_5 (by decide) (fun _ => ?_) (fun c9 => absurd (by decide) c9)
    refine lv_bipush (v := (-2)) hx hb dX5_walk_23 (by decide) ?_
    exact rt_i (v := (-2)) (u := σ) hx hb hr hlocks hS hP (pr2 (walk_b (fun q => ix_none_s h0 q.1))) dX5_walk_25
  · have h0 := ix_nI hj (n := sVc σ) (by omega)
    refine lv_aload_n hx hb dX5_walk_0 rfl (lv_at hl 0 rfl) ?_
    refine lv_iload_n hx hb dX5_walk_1 rfl (lv_at hl 1 rfl) ?_
    refine cl_i (rest := []) (c_X5_isVault l D cA ad A hDD σ (nI j) ) ⟨hx, hb, hml, hown, hts⟩ hK hP hS kv_X5_67 ⟨Nat.le_of_ble_eq_true rfl, Nat.le_of_ble_eq_true rfl⟩ ⟨Nat.zero_le _, Nat.zero_le _⟩ 0 rfl rfl rfl hl.1 rfl (Nat.le_of_ble_eq_true rfl) (fun q h => h) dX5_walk_2 (fun r u H locs hw hP hS _ => ?_)
    rw [hw.2] at hP
    refine tp_i (z := (hz (sVc σ) (nI j))) hw.1 ?_
    refine tp_i (z := 1) (hz_1 h0) ?_
    refine lv_if_eq (tgt := 23) hx hb dX5_walk_5 (by decide) (fun c9 => absurd c9 (by decide)) (fun _ => ?_)
    by_cases hm : 1 ≤ mm ∧ mm ≤ 60
    · obtain ⟨k, hk1, hk2, rfl⟩ := rng (lo := 1) (hi := 60) (by decide) (by decide) hm
      by_cases hn : 0 ≤ n
      · have loop : ∀ (f c0 : Nat) (x t : Int32) (τ : CS) (H : Heap) (locs : List Loc) (ls : Array Slot), c0 + f = k → HX (sVc σ) x → Inv τ → sGr τ + 1 ≤ c0 → sVc τ = sVc σ → sBc τ + sGr τ + 2 * f ≤ 1000001000 → wl n (f + 1) x t τ = wl n k (nI j) 0 σ → va_P D vwCl (rW ad cA τ) H → va_S A s.heap H locs → lv_has ls 8 [(5, .int x), (4, .int t), (6, .int (nI c0)), (0, .ref (ad 0)), (1, .int (nI j)), (2, .int (nI k)), (3, .int n)] → W p l e { frames := 6, cells := 0, slots := 0, locals := 128 } s m ([.ref (ad 0), .int (nI j), .int (nI k), .int n] : List Value).toArray below meth c H locs 0 0 (MQ below (va_Qi (fun r u => r = (f_walk σ (nI j) (nI k) n).1 ∧ u = (f_walk σ (nI j) (nI k) n).2) (fun u t => va_P D vwCl (rW ad cA u) t.heap) A) ([.ref (ad 0), .int (nI j), .int (nI k), .int n] : List Value).toArray s 0 0 A) (F0 m 35 ls []) := by
          intro f
          induction f with
          | zero =>
            intro c0 x t τ H locs ls hcf hX hIt hgt hvt hbt hE hP hS hl
            rcases hX with rfl | ⟨g, hg1, rfl⟩
            · skip
              refine lv_iload hx hb dX5_walk_35 (lv_at hl 0 rfl) ?_
              refine lv_iconst (v := (-1)) hx hb dX5_walk_37 (by decide) ?_
              refine lv_icmp_eq (tgt := 124) hx hb dX5_walk_38 (by decide) (fun _ => ?_) (fun c9 => absurd (rfl) c9)
              refine lv_aload_n hx hb dX5_walk_124 rfl (lv_at hl 3 rfl) ?_
              refine lv_iload hx hb dX5_walk_125 (lv_at hl 1 rfl) ?_
              refine cl_i (rest := []) (c_X5_ended l D cA ad A hDD τ t hIt (by omega)) ⟨hx, hb, hml, hown, hts⟩ hK hP hS kv_X5_109 ⟨Nat.le_of_ble_eq_true rfl, Nat.le_of_ble_eq_true rfl⟩ ⟨Nat.zero_le _, Nat.zero_le _⟩ 0 rfl rfl rfl hl.1 rfl (Nat.le_of_ble_eq_true rfl) (fun q h => h) dX5_walk_127 (fun r u H locs hw hP hS _ => ?_)
              rw [hw.2] at hP
              refine tp_i (z := t) hw.1 ?_
              exact rt_i (v := t) (u := (da 200 τ)) hx hb hr hlocks hS hP ((by rw [walk_g h0 hk1 hk2 hn, ← hE, wl_n]; exact ⟨rfl, rfl⟩)) dX5_walk_130
            · have hg2 : g < sVc τ := by rw [hvt]; exact hg1
              have hvt12 := hIt.vc
              have s1 := th_st (h := 0) hIt (hIt.lf hg2) (by omega)
              have gr1 := th_gr (σ := τ) (x := sLf τ g) (h := 0)
              refine lv_iload hx hb dX5_walk_35 (lv_at hl 0 rfl) ?_
              refine lv_iconst (v := (-1)) hx hb dX5_walk_37 (by decide) ?_
              refine lv_icmp_eq (tgt := 124) hx hb dX5_walk_38 (by decide) (fun c9 => absurd c9 (nI_nm1 (by omega))) (fun _ => ?_)
              refine lv_aload_n hx hb dX5_walk_41 rfl (lv_at hl 3 rfl) ?_
              refine lv_iload hx hb dX5_walk_42 (lv_at hl 0 rfl) ?_
              refine lv_iconst (v := 0) hx hb dX5_walk_44 (by decide) ?_
              refine cl_i (rest := []) (c_X5_turnHand0 l D cA ad A hDD τ g (sLf τ g) rfl (hIt.lf hg2) hIt hg2 (by omega) (by omega)) ⟨hx, hb, hml, hown, hts⟩ hK hP hS kv_X5_99 ⟨Nat.le_of_ble_eq_true rfl, Nat.le_of_ble_eq_true rfl⟩ ⟨Nat.zero_le _, Nat.zero_le _⟩ 0 rfl rfl rfl hl.1 rfl (Nat.le_of_ble_eq_true rfl) (fun q h => h) dX5_walk_45 (fun r u H locs hw hP hS _ => ?_)
              rw [hw.2] at hP
              refine tp_i (z := (thr (th τ (sLf τ g) 0).1)) hw.1 ?_
              rcases th_012 τ (sLf τ g) 0 with q | q | q
              · rw [show thu (th τ (sLf τ g) 0) = (th τ (sLf τ g) 0).2 from by unfold thu; rw [if_neg (by rw [q]; decide)]] at hP
                obtain ⟨u1, hu1⟩ : ∃ z, z = (th τ (sLf τ g) 0).2 := ⟨_, rfl⟩
                rw [← hu1] at hP
                rw [← hu1] at s1 gr1
                have b1 := s1.2.2.2.2
                have hg3 : g < sVc u1 := by rw [s1.2.1]; exact hg2
                have hg312 := s1.1.vc
                have hgu : g < 2 ^ 31 := by omega
                refine tp_i (z := 0) (by rw [q]; rfl) ?_
                refine lv_istore (lv' := [(7, .int 0), (5, .int (nI g)), (4, .int t), (6, .int (nI c0)), (0, .ref (ad 0)), (1, .int (nI j)), (2, .int (nI k)), (3, .int n)]) hx hb dX5_walk_48 hl (by decide) rfl (fun ls hl => ?_)
                refine lv_iload hx hb dX5_walk_50 (lv_at hl 0 rfl) ?_
                refine lv_bipush (v := (-7)) hx hb dX5_walk_52 (by decide) ?_
                refine lv_icmp_ne (tgt := 60) hx hb dX5_walk_54 (by decide) (fun _ => ?_) (fun c9 => absurd c9 (by decide))
                refine lv_iload hx hb dX5_walk_60 (lv_at hl 0 rfl) ?_
                refine lv_bipush (v := (-4)) hx hb dX5_walk_62 (by decide) ?_
                refine lv_icmp_ne (tgt := 74) hx hb dX5_walk_64 (by decide) (fun _ => ?_) (fun c9 => absurd c9 (by decide))
                refine lv_iload hx hb dX5_walk_74 (lv_at hl 2 rfl) ?_
                refine lv_aload_n hx hb dX5_walk_76 rfl (lv_at hl 4 rfl) ?_
                refine va_get (D := D) (ci := 5) (v := .ref (ad 5)) (C := RX5) (T := TX5) (N := 20) hx hb hts in_X5 hown hK hP 0 rfl rfl 5 (by decide) (hts _ kf_X5_22) (fun _ h9 => h9) rfl dX5_walk_77 ?_
                refine lv_iload hx hb dX5_walk_80 (lv_at hl 1 rfl) ?_
                refine ar_g hx hb hK hP 5 rfl (by omega) (by decide) dX5_walk_82 ?_
                refine lv_iadd hx hb dX5_walk_83 ?_
                refine lv_istore (lv' := [(4, .int (t + (sSm u1 g))), (7, .int 0), (5, .int (nI g)), (6, .int (nI c0)), (0, .ref (ad 0)), (1, .int (nI j)), (2, .int (nI k)), (3, .int n)]) hx hb dX5_walk_84 hl (by decide) rfl (fun ls hl => ?_)
                refine lv_iload hx hb dX5_walk_86 (lv_at hl 0 rfl) ?_
                refine lv_iload_n hx hb dX5_walk_88 rfl (lv_at hl 7 rfl) ?_
                refine lv_icmp_le (tgt := 99) hx hb dX5_walk_89 (by decide) (fun ct => ?_) (fun ct => ?_)
                · refine lv_iload hx hb dX5_walk_99 (lv_at hl 3 rfl) ?_
                  refine lv_iload_n hx hb dX5_walk_101 rfl (lv_at hl 6 rfl) ?_
                  refine lv_icmp_ne (tgt := 109) hx hb dX5_walk_102 (by decide) (fun c9 => absurd ((by rw [show c0 = k by omega])) c9) (fun _ => ?_)
                  refine lv_iconst (v := (-1)) hx hb dX5_walk_105 (by decide) ?_
                  refine lv_goto (tgt := 116) hx hb dX5_walk_106 (by decide) ?_
                  refine lv_istore (lv' := [(5, .int (-1)), (4, .int (t + (sSm u1 g))), (7, .int 0), (6, .int (nI c0)), (0, .ref (ad 0)), (1, .int (nI j)), (2, .int (nI k)), (3, .int n)]) hx hb dX5_walk_116 hl (by decide) rfl (fun ls hl => ?_)
                  refine lv_iinc (v := (nI (c0 + 1))) (lv' := [(6, .int (nI (c0 + 1))), (5, .int (-1)), (4, .int (t + (sSm u1 g))), (7, .int 0), (0, .ref (ad 0)), (1, .int (nI j)), (2, .int (nI k)), (3, .int n)]) hx hb dX5_walk_118 hl (k := 3) rfl (nI_1 _) (by decide) rfl (fun ls hl => ?_)
                  refine lv_goto (tgt := 35) hx hb dX5_walk_121 (by decide) ?_
                  refine lv_iload hx hb dX5_walk_35 (lv_at hl 1 rfl) ?_
                  refine lv_iconst (v := (-1)) hx hb dX5_walk_37 (by decide) ?_
                  refine lv_icmp_eq (tgt := 124) hx hb dX5_walk_38 (by decide) (fun _ => ?_) (fun c9 => absurd (rfl) c9)
                  refine lv_aload_n hx hb dX5_walk_124 rfl (lv_at hl 4 rfl) ?_
                  refine lv_iload hx hb dX5_walk_125 (lv_at hl 2 rfl) ?_
                  refine cl_i (rest := []) (c_X5_ended l D cA ad A hDD u1 (t + (sSm u1 g)) s1.1 (by omega)) ⟨hx, hb, hml, hown, hts⟩ hK hP hS kv_X5_109 ⟨Nat.le_of_ble_eq_true rfl, Nat.le_of_ble_eq_true rfl⟩ ⟨Nat.zero_le _, Nat.zero_le _⟩ 0 rfl rfl rfl hl.1 rfl (Nat.le_of_ble_eq_true rfl) (fun q h => h) dX5_walk_127 (fun r u H locs hw hP hS _ => ?_)
                  rw [hw.2] at hP
                  refine tp_i (z := (t + (sSm u1 g))) hw.1 ?_
                  exact rt_i (v := (t + (sSm u1 g))) (u := (da 200 u1)) hx hb hr hlocks hS hP ((by rw [walk_g h0 hk1 hk2 hn, ← hE, wl_4 hgu hu1 q (i_nlt.mpr ct), wl_e]; exact ⟨rfl, rfl⟩)) dX5_walk_130
                · refine lv_aload_n hx hb dX5_walk_92 rfl (lv_at hl 4 rfl) ?_
                  refine lv_bipush (v := (-6)) hx hb dX5_walk_93 (by decide) ?_
                  refine cl_i (rest := []) (c_X5_alarmed l D cA ad A hDD u1 (-6) s1.1 (by omega)) ⟨hx, hb, hml, hown, hts⟩ hK hP hS kv_X5_112 ⟨Nat.le_of_ble_eq_true rfl, Nat.le_of_ble_eq_true rfl⟩ ⟨Nat.zero_le _, Nat.zero_le _⟩ 0 rfl rfl rfl hl.1 rfl (Nat.le_of_ble_eq_true rfl) (fun q h => h) dX5_walk_95 (fun r u H locs hw hP hS _ => ?_)
                  rw [hw.2] at hP
                  refine tp_i (z := (-6)) hw.1 ?_
                  exact rt_i (v := (-6)) (u := (ra u1)) hx hb hr hlocks hS hP ((by rw [walk_g h0 hk1 hk2 hn, ← hE, wl_3 hgu hu1 q (i_nle.mp ct)]; exact ⟨rfl, rfl⟩)) dX5_walk_98
              · rw [show thu (th τ (sLf τ g) 0) = (th τ (sLf τ g) 0).2 from by unfold thu; rw [if_neg (by rw [q]; decide)]] at hP
                obtain ⟨u1, hu1⟩ : ∃ z, z = (th τ (sLf τ g) 0).2 := ⟨_, rfl⟩
                rw [← hu1] at hP
                rw [← hu1] at s1 gr1
                have b1 := s1.2.2.2.2
                have hg3 : g < sVc u1 := by rw [s1.2.1]; exact hg2
                have hg312 := s1.1.vc
                have hgu : g < 2 ^ 31 := by omega
                refine tp_i (z := (-4)) (by rw [q]; rfl) ?_
                refine lv_istore (lv' := [(7, .int (-4)), (5, .int (nI g)), (4, .int t), (6, .int (nI c0)), (0, .ref (ad 0)), (1, .int (nI j)), (2, .int (nI k)), (3, .int n)]) hx hb dX5_walk_48 hl (by decide) rfl (fun ls hl => ?_)
                refine lv_iload hx hb dX5_walk_50 (lv_at hl 0 rfl) ?_
                refine lv_bipush (v := (-7)) hx hb dX5_walk_52 (by decide) ?_
                refine lv_icmp_ne (tgt := 60) hx hb dX5_walk_54 (by decide) (fun _ => ?_) (fun c9 => absurd c9 (by decide))
                refine lv_iload hx hb dX5_walk_60 (lv_at hl 0 rfl) ?_
                refine lv_bipush (v := (-4)) hx hb dX5_walk_62 (by decide) ?_
                refine lv_icmp_ne (tgt := 74) hx hb dX5_walk_64 (by decide) (fun c9 => absurd (by decide) c9) (fun _ => ?_)
                refine lv_aload_n hx hb dX5_walk_67 rfl (lv_at hl 4 rfl) ?_
                refine lv_iload hx hb dX5_walk_68 (lv_at hl 2 rfl) ?_
                refine cl_i (rest := []) (c_X5_ended l D cA ad A hDD u1 t s1.1 (by omega)) ⟨hx, hb, hml, hown, hts⟩ hK hP hS kv_X5_109 ⟨Nat.le_of_ble_eq_true rfl, Nat.le_of_ble_eq_true rfl⟩ ⟨Nat.zero_le _, Nat.zero_le _⟩ 0 rfl rfl rfl hl.1 rfl (Nat.le_of_ble_eq_true rfl) (fun q h => h) dX5_walk_70 (fun r u H locs hw hP hS _ => ?_)
                rw [hw.2] at hP
                refine tp_i (z := t) hw.1 ?_
                exact rt_i (v := t) (u := (da 200 u1)) hx hb hr hlocks hS hP ((by rw [walk_g h0 hk1 hk2 hn, ← hE, wl_1 hgu hu1 q]; exact ⟨rfl, rfl⟩)) dX5_walk_73
              · rw [show thu (th τ (sLf τ g) 0) = ra (th τ (sLf τ g) 0).2 from by unfold thu; rw [if_pos q]] at hP
                obtain ⟨u1, hu1⟩ : ∃ z, z = (th τ (sLf τ g) 0).2 := ⟨_, rfl⟩
                rw [← hu1] at hP
                rw [← hu1] at s1 gr1
                have b1 := s1.2.2.2.2
                have hg3 : g < sVc u1 := by rw [s1.2.1]; exact hg2
                have hg312 := s1.1.vc
                have hgu : g < 2 ^ 31 := by omega
                refine tp_i (z := (-7)) (by rw [q]; rfl) ?_
                refine lv_istore (lv' := [(7, .int (-7)), (5, .int (nI g)), (4, .int t), (6, .int (nI c0)), (0, .ref (ad 0)), (1, .int (nI j)), (2, .int (nI k)), (3, .int n)]) hx hb dX5_walk_48 hl (by decide) rfl (fun ls hl => ?_)
                refine lv_iload hx hb dX5_walk_50 (lv_at hl 0 rfl) ?_
                refine lv_bipush (v := (-7)) hx hb dX5_walk_52 (by decide) ?_
                refine lv_icmp_ne (tgt := 60) hx hb dX5_walk_54 (by decide) (fun c9 => absurd (by decide) c9) (fun _ => ?_)
                refine lv_bipush (v := (-7)) hx hb dX5_walk_57 (by decide) ?_
                exact rt_i (v := (-7)) (u := (ra u1)) hx hb hr hlocks hS hP ((by rw [walk_g h0 hk1 hk2 hn, ← hE, wl_2 hgu hu1 q]; exact ⟨rfl, rfl⟩)) dX5_walk_59
          | succ f ih =>
            intro c0 x t τ H locs ls hcf hX hIt hgt hvt hbt hE hP hS hl
            rcases hX with rfl | ⟨g, hg1, rfl⟩
            · skip
              refine lv_iload hx hb dX5_walk_35 (lv_at hl 0 rfl) ?_
              refine lv_iconst (v := (-1)) hx hb dX5_walk_37 (by decide) ?_
              refine lv_icmp_eq (tgt := 124) hx hb dX5_walk_38 (by decide) (fun _ => ?_) (fun c9 => absurd (rfl) c9)
              refine lv_aload_n hx hb dX5_walk_124 rfl (lv_at hl 3 rfl) ?_
              refine lv_iload hx hb dX5_walk_125 (lv_at hl 1 rfl) ?_
              refine cl_i (rest := []) (c_X5_ended l D cA ad A hDD τ t hIt (by omega)) ⟨hx, hb, hml, hown, hts⟩ hK hP hS kv_X5_109 ⟨Nat.le_of_ble_eq_true rfl, Nat.le_of_ble_eq_true rfl⟩ ⟨Nat.zero_le _, Nat.zero_le _⟩ 0 rfl rfl rfl hl.1 rfl (Nat.le_of_ble_eq_true rfl) (fun q h => h) dX5_walk_127 (fun r u H locs hw hP hS _ => ?_)
              rw [hw.2] at hP
              refine tp_i (z := t) hw.1 ?_
              exact rt_i (v := t) (u := (da 200 τ)) hx hb hr hlocks hS hP ((by rw [walk_g h0 hk1 hk2 hn, ← hE, wl_n]; exact ⟨rfl, rfl⟩)) dX5_walk_130
            · have hg2 : g < sVc τ := by rw [hvt]; exact hg1
              have hvt12 := hIt.vc
              have s1 := th_st (h := 0) hIt (hIt.lf hg2) (by omega)
              have gr1 := th_gr (σ := τ) (x := sLf τ g) (h := 0)
              refine lv_iload hx hb dX5_walk_35 (lv_at hl 0 rfl) ?_
              refine lv_iconst (v := (-1)) hx hb dX5_walk_37 (by decide) ?_
              refine lv_icmp_eq (tgt := 124) hx hb dX5_walk_38 (by decide) (fun c9 => absurd c9 (nI_nm1 (by omega))) (fun _ => ?_)
              refine lv_aload_n hx hb dX5_walk_41 rfl (lv_at hl 3 rfl) ?_
              refine lv_iload hx hb dX5_walk_42 (lv_at hl 0 rfl) ?_
              refine lv_iconst (v := 0) hx hb dX5_walk_44 (by decide) ?_
              refine cl_i (rest := []) (c_X5_turnHand0 l D cA ad A hDD τ g (sLf τ g) rfl (hIt.lf hg2) hIt hg2 (by omega) (by omega)) ⟨hx, hb, hml, hown, hts⟩ hK hP hS kv_X5_99 ⟨Nat.le_of_ble_eq_true rfl, Nat.le_of_ble_eq_true rfl⟩ ⟨Nat.zero_le _, Nat.zero_le _⟩ 0 rfl rfl rfl hl.1 rfl (Nat.le_of_ble_eq_true rfl) (fun q h => h) dX5_walk_45 (fun r u H locs hw hP hS _ => ?_)
              rw [hw.2] at hP
              refine tp_i (z := (thr (th τ (sLf τ g) 0).1)) hw.1 ?_
              rcases th_012 τ (sLf τ g) 0 with q | q | q
              · rw [show thu (th τ (sLf τ g) 0) = (th τ (sLf τ g) 0).2 from by unfold thu; rw [if_neg (by rw [q]; decide)]] at hP
                obtain ⟨u1, hu1⟩ : ∃ z, z = (th τ (sLf τ g) 0).2 := ⟨_, rfl⟩
                rw [← hu1] at hP
                rw [← hu1] at s1 gr1
                have b1 := s1.2.2.2.2
                have hg3 : g < sVc u1 := by rw [s1.2.1]; exact hg2
                have hg312 := s1.1.vc
                have hgu : g < 2 ^ 31 := by omega
                refine tp_i (z := 0) (by rw [q]; rfl) ?_
                refine lv_istore (lv' := [(7, .int 0), (5, .int (nI g)), (4, .int t), (6, .int (nI c0)), (0, .ref (ad 0)), (1, .int (nI j)), (2, .int (nI k)), (3, .int n)]) hx hb dX5_walk_48 hl (by decide) rfl (fun ls hl => ?_)
                refine lv_iload hx hb dX5_walk_50 (lv_at hl 0 rfl) ?_
                refine lv_bipush (v := (-7)) hx hb dX5_walk_52 (by decide) ?_
                refine lv_icmp_ne (tgt := 60) hx hb dX5_walk_54 (by decide) (fun _ => ?_) (fun c9 => absurd c9 (by decide))
                refine lv_iload hx hb dX5_walk_60 (lv_at hl 0 rfl) ?_
                refine lv_bipush (v := (-4)) hx hb dX5_walk_62 (by decide) ?_
                refine lv_icmp_ne (tgt := 74) hx hb dX5_walk_64 (by decide) (fun _ => ?_) (fun c9 => absurd c9 (by decide))
                refine lv_iload hx hb dX5_walk_74 (lv_at hl 2 rfl) ?_
                refine lv_aload_n hx hb dX5_walk_76 rfl (lv_at hl 4 rfl) ?_
                refine va_get (D := D) (ci := 5) (v := .ref (ad 5)) (C := RX5) (T := TX5) (N := 20) hx hb hts in_X5 hown hK hP 0 rfl rfl 5 (by decide) (hts _ kf_X5_22) (fun _ h9 => h9) rfl dX5_walk_77 ?_
                refine lv_iload hx hb dX5_walk_80 (lv_at hl 1 rfl) ?_
                refine ar_g hx hb hK hP 5 rfl (by omega) (by decide) dX5_walk_82 ?_
                refine lv_iadd hx hb dX5_walk_83 ?_
                refine lv_istore (lv' := [(4, .int (t + (sSm u1 g))), (7, .int 0), (5, .int (nI g)), (6, .int (nI c0)), (0, .ref (ad 0)), (1, .int (nI j)), (2, .int (nI k)), (3, .int n)]) hx hb dX5_walk_84 hl (by decide) rfl (fun ls hl => ?_)
                refine lv_iload hx hb dX5_walk_86 (lv_at hl 0 rfl) ?_
                refine lv_iload_n hx hb dX5_walk_88 rfl (lv_at hl 7 rfl) ?_
                refine lv_icmp_le (tgt := 99) hx hb dX5_walk_89 (by decide) (fun ct => ?_) (fun ct => ?_)
                · refine lv_iload hx hb dX5_walk_99 (lv_at hl 3 rfl) ?_
                  refine lv_iload_n hx hb dX5_walk_101 rfl (lv_at hl 6 rfl) ?_
                  refine lv_icmp_ne (tgt := 109) hx hb dX5_walk_102 (by decide) (fun _ => ?_) (fun c9 => absurd c9 (fun q9 => absurd (nI_inj (by omega) (by omega) q9) (by omega)))
                  refine lv_aload_n hx hb dX5_walk_109 rfl (lv_at hl 4 rfl) ?_
                  refine va_get (D := D) (ci := 5) (v := .ref (ad 7)) (C := RX5) (T := TX5) (N := 20) hx hb hts in_X5 hown hK hP 0 rfl rfl 7 (by decide) (hts _ kf_X5_28) (fun _ h9 => h9) rfl dX5_walk_110 ?_
                  refine lv_iload hx hb dX5_walk_113 (lv_at hl 2 rfl) ?_
                  refine ar_g hx hb hK hP 7 rfl (by omega) (by decide) dX5_walk_115 ?_
                  refine lv_istore (lv' := [(5, .int (sNx u1 g)), (4, .int (t + (sSm u1 g))), (7, .int 0), (6, .int (nI c0)), (0, .ref (ad 0)), (1, .int (nI j)), (2, .int (nI k)), (3, .int n)]) hx hb dX5_walk_116 hl (by decide) rfl (fun ls hl => ?_)
                  refine lv_iinc (v := (nI (c0 + 1))) (lv' := [(6, .int (nI (c0 + 1))), (5, .int (sNx u1 g)), (4, .int (t + (sSm u1 g))), (7, .int 0), (0, .ref (ad 0)), (1, .int (nI j)), (2, .int (nI k)), (3, .int n)]) hx hb dX5_walk_118 hl (k := 3) rfl (nI_1 _) (by decide) rfl (fun ls hl => ?_)
                  refine lv_goto (tgt := 35) hx hb dX5_walk_121 (by decide) ?_
                  exact ih (c0 + 1) (sNx u1 g) (t + sSm u1 g) u1 _ _ ls (by omega) (by have h9 := s1.1.nx hg3; rw [s1.2.1, hvt] at h9; exact h9) s1.1 (by omega) (s1.2.1.trans hvt) (by omega) ((wl_4 hgu hu1 q (i_nlt.mpr ct)).symm.trans hE) hP hS (lv_sub hl [1, 2, 0, 4, 5, 6, 7] rfl)
                · refine lv_aload_n hx hb dX5_walk_92 rfl (lv_at hl 4 rfl) ?_
                  refine lv_bipush (v := (-6)) hx hb dX5_walk_93 (by decide) ?_
                  refine cl_i (rest := []) (c_X5_alarmed l D cA ad A hDD u1 (-6) s1.1 (by omega)) ⟨hx, hb, hml, hown, hts⟩ hK hP hS kv_X5_112 ⟨Nat.le_of_ble_eq_true rfl, Nat.le_of_ble_eq_true rfl⟩ ⟨Nat.zero_le _, Nat.zero_le _⟩ 0 rfl rfl rfl hl.1 rfl (Nat.le_of_ble_eq_true rfl) (fun q h => h) dX5_walk_95 (fun r u H locs hw hP hS _ => ?_)
                  rw [hw.2] at hP
                  refine tp_i (z := (-6)) hw.1 ?_
                  exact rt_i (v := (-6)) (u := (ra u1)) hx hb hr hlocks hS hP ((by rw [walk_g h0 hk1 hk2 hn, ← hE, wl_3 hgu hu1 q (i_nle.mp ct)]; exact ⟨rfl, rfl⟩)) dX5_walk_98
              · rw [show thu (th τ (sLf τ g) 0) = (th τ (sLf τ g) 0).2 from by unfold thu; rw [if_neg (by rw [q]; decide)]] at hP
                obtain ⟨u1, hu1⟩ : ∃ z, z = (th τ (sLf τ g) 0).2 := ⟨_, rfl⟩
                rw [← hu1] at hP
                rw [← hu1] at s1 gr1
                have b1 := s1.2.2.2.2
                have hg3 : g < sVc u1 := by rw [s1.2.1]; exact hg2
                have hg312 := s1.1.vc
                have hgu : g < 2 ^ 31 := by omega
                refine tp_i (z := (-4)) (by rw [q]; rfl) ?_
                refine lv_istore (lv' := [(7, .int (-4)), (5, .int (nI g)), (4, .int t), (6, .int (nI c0)), (0, .ref (ad 0)), (1, .int (nI j)), (2, .int (nI k)), (3, .int n)]) hx hb dX5_walk_48 hl (by decide) rfl (fun ls hl => ?_)
                refine lv_iload hx hb dX5_walk_50 (lv_at hl 0 rfl) ?_
                refine lv_bipush (v := (-7)) hx hb dX5_walk_52 (by decide) ?_
                refine lv_icmp_ne (tgt := 60) hx hb dX5_walk_54 (by decide) (fun _ => ?_) (fun c9 => absurd c9 (by decide))
                refine lv_iload hx hb dX5_walk_60 (lv_at hl 0 rfl) ?_
                refine lv_bipush (v := (-4)) hx hb dX5_walk_62 (by decide) ?_
                refine lv_icmp_ne (tgt := 74) hx hb dX5_walk_64 (by decide) (fun c9 => absurd (by decide) c9) (fun _ => ?_)
                refine lv_aload_n hx hb dX5_walk_67 rfl (lv_at hl 4 rfl) ?_
                refine lv_iload hx hb dX5_walk_68 (lv_at hl 2 rfl) ?_
                refine cl_i (rest := []) (c_X5_ended l D cA ad A hDD u1 t s1.1 (by omega)) ⟨hx, hb, hml, hown, hts⟩ hK hP hS kv_X5_109 ⟨Nat.le_of_ble_eq_true rfl, Nat.le_of_ble_eq_true rfl⟩ ⟨Nat.zero_le _, Nat.zero_le _⟩ 0 rfl rfl rfl hl.1 rfl (Nat.le_of_ble_eq_true rfl) (fun q h => h) dX5_walk_70 (fun r u H locs hw hP hS _ => ?_)
                rw [hw.2] at hP
                refine tp_i (z := t) hw.1 ?_
                exact rt_i (v := t) (u := (da 200 u1)) hx hb hr hlocks hS hP ((by rw [walk_g h0 hk1 hk2 hn, ← hE, wl_1 hgu hu1 q]; exact ⟨rfl, rfl⟩)) dX5_walk_73
              · rw [show thu (th τ (sLf τ g) 0) = ra (th τ (sLf τ g) 0).2 from by unfold thu; rw [if_pos q]] at hP
                obtain ⟨u1, hu1⟩ : ∃ z, z = (th τ (sLf τ g) 0).2 := ⟨_, rfl⟩
                rw [← hu1] at hP
                rw [← hu1] at s1 gr1
                have b1 := s1.2.2.2.2
                have hg3 : g < sVc u1 := by rw [s1.2.1]; exact hg2
                have hg312 := s1.1.vc
                have hgu : g < 2 ^ 31 := by omega
                refine tp_i (z := (-7)) (by rw [q]; rfl) ?_
                refine lv_istore (lv' := [(7, .int (-7)), (5, .int (nI g)), (4, .int t), (6, .int (nI c0)), (0, .ref (ad 0)), (1, .int (nI j)), (2, .int (nI k)), (3, .int n)]) hx hb dX5_walk_48 hl (by decide) rfl (fun ls hl => ?_)
                refine lv_iload hx hb dX5_walk_50 (lv_at hl 0 rfl) ?_
                refine lv_bipush (v := (-7)) hx hb dX5_walk_52 (by decide) ?_
                refine lv_icmp_ne (tgt := 60) hx hb dX5_walk_54 (by decide) (fun c9 => absurd (by decide) c9) (fun _ => ?_)
                refine lv_bipush (v := (-7)) hx hb dX5_walk_57 (by decide) ?_
                exact rt_i (v := (-7)) (u := (ra u1)) hx hb hr hlocks hS hP ((by rw [walk_g h0 hk1 hk2 hn, ← hE, wl_2 hgu hu1 q]; exact ⟨rfl, rfl⟩)) dX5_walk_59
        refine lv_iload_n hx hb dX5_walk_8 rfl (lv_at hl 2 rfl) ?_
        refine lv_iconst (v := 1) hx hb dX5_walk_9 (by decide) ?_
        refine lv_icmp_lt (tgt := 23) hx hb dX5_walk_10 (by decide) (fun c9 => absurd c9 (i_nlt.mpr hm.1)) (fun _ => ?_)
        refine lv_iload_n hx hb dX5_walk_13 rfl (lv_at hl 2 rfl) ?_
        refine lv_bipush (v := 60) hx hb dX5_walk_14 (by decide) ?_
        refine lv_icmp_gt (tgt := 23) hx hb dX5_walk_16 (by decide) (fun c9 => absurd c9 (i_nlt.mpr hm.2)) (fun _ => ?_)
        refine lv_iload_n hx hb dX5_walk_19 rfl (lv_at hl 3 rfl) ?_
        refine lv_if_ge (tgt := 26) hx hb dX5_walk_20 (by decide) (fun _ => ?_) (fun c9 => absurd (hn) c9)
        refine lv_iconst (v := 0) hx hb dX5_walk_26 (by decide) ?_
        refine lv_istore (lv' := [(4, .int 0), (0, .ref (ad 0)), (1, .int (nI j)), (2, .int (nI k)), (3, .int n)]) hx hb dX5_walk_27 hl (by decide) rfl (fun ls hl => ?_)
        refine lv_iload_n hx hb dX5_walk_29 rfl (lv_at hl 2 rfl) ?_
        refine lv_istore (lv' := [(5, .int (nI j)), (4, .int 0), (0, .ref (ad 0)), (1, .int (nI j)), (2, .int (nI k)), (3, .int n)]) hx hb dX5_walk_30 hl (by decide) rfl (fun ls hl => ?_)
        refine lv_iconst (v := 1) hx hb dX5_walk_32 (by decide) ?_
        refine lv_istore (lv' := [(6, .int 1), (5, .int (nI j)), (4, .int 0), (0, .ref (ad 0)), (1, .int (nI j)), (2, .int (nI k)), (3, .int n)]) hx hb dX5_walk_33 hl (by decide) rfl (fun ls hl => ?_)
        exact loop (k - 1) 1 (nI j) 0 σ _ _ ls (by omega) (Or.inr ⟨j, hj, rfl⟩) hI (by omega) rfl (by omega) (by rw [show k - 1 + 1 = k by omega]) hP hS (lv_sub hl [1, 2, 0, 3, 4, 5, 6] rfl)
      · skip
        refine lv_iload_n hx hb dX5_walk_8 rfl (lv_at hl 2 rfl) ?_
        refine lv_iconst (v := 1) hx hb dX5_walk_9 (by decide) ?_
        refine lv_icmp_lt (tgt := 23) hx hb dX5_walk_10 (by decide) (fun c9 => absurd c9 (i_nlt.mpr hm.1)) (fun _ => ?_)
        refine lv_iload_n hx hb dX5_walk_13 rfl (lv_at hl 2 rfl) ?_
        refine lv_bipush (v := 60) hx hb dX5_walk_14 (by decide) ?_
        refine lv_icmp_gt (tgt := 23) hx hb dX5_walk_16 (by decide) (fun c9 => absurd c9 (i_nlt.mpr hm.2)) (fun _ => ?_)
        refine lv_iload_n hx hb dX5_walk_19 rfl (lv_at hl 3 rfl) ?_
        refine lv_if_ge (tgt := 26) hx hb dX5_walk_20 (by decide) (fun c9 => absurd c9 (hn)) (fun _ => ?_)
        refine lv_bipush (v := (-2)) hx hb dX5_walk_23 (by decide) ?_
        exact rt_i (v := (-2)) (u := σ) hx hb hr hlocks hS hP (pr2 (walk_b (fun q => hn q.2.2))) dX5_walk_25
    · skip
      refine lv_iload_n hx hb dX5_walk_8 rfl (lv_at hl 2 rfl) ?_
      refine lv_iconst (v := 1) hx hb dX5_walk_9 (by decide) ?_
      refine lv_icmp_lt (tgt := 23) hx hb dX5_walk_10 (by decide) (fun c10 => ?_) (fun c10 => ?_)
      · refine lv_bipush (v := (-2)) hx hb dX5_walk_23 (by decide) ?_
        exact rt_i (v := (-2)) (u := σ) hx hb hr hlocks hS hP (pr2 (walk_b (fun q => hm q.2.1))) dX5_walk_25
      · refine lv_iload_n hx hb dX5_walk_13 rfl (lv_at hl 2 rfl) ?_
        refine lv_bipush (v := 60) hx hb dX5_walk_14 (by decide) ?_
        refine lv_icmp_gt (tgt := 23) hx hb dX5_walk_16 (by decide) (fun _ => ?_) (fun c9 => absurd (i_nle.mp (fun q => hm ⟨i_nlt.mp c10, q⟩)) c9)
        refine lv_bipush (v := (-2)) hx hb dX5_walk_23 (by decide) ?_
        exact rt_i (v := (-2)) (u := σ) hx hb hr hlocks hS hP (pr2 (walk_b (fun q => hm q.2.1))) dX5_walk_25
set_option maxHeartbeats 4000000 in
set_option maxRecDepth 100000 in
theorem c_X5_carriedOut (l : Launch) (D : va_G) (cA : ClassId) (ad : Nat → Nat) (A : Nat → Prop) (hDD : ∀ u, va_D A (rW ad cA u)) (σ : CS) (i : Nat) (hi : i < sTc σ) (h4 : ¬ sOp σ i = 4) (hI : Inv σ) (hg : sGr σ = 0) (hb9 : sBc σ ≤ 1000000000) : Ct l D cA (rW ad cA) A yX5_carriedOut cX5_carriedOut 2 (some .int) 8 174 [.ref (ad 0), .int (nI i)] σ (fun r u => r = (ex σ i).1 ∧ u = (ex σ i).2) := by
  refine Ct.of (by decide) (Nat.le_of_ble_eq_true rfl) ?_
  intro p e s m below meth c ls S0 hr hlocks hK hP hS hl
  obtain ⟨hx, hb, hml, hown, hts⟩ := id S0
  have hl : lv_has ls 2 [(0, .ref (ad 0)), (1, .int (nI i))] := hl
  have hkc := hI.kc
  have hvc := hI.vc
  have hgc := hI.gr
  have htc := hI.tc
  have hop : sOp σ i = 0 ∨ sOp σ i = 1 ∨ sOp σ i = 2 ∨ sOp σ i = 3 := by rcases hI.2.2.2 i hi with h | h | h | h | h; exact Or.inl h; exact Or.inr (Or.inl h); exact Or.inr (Or.inr (Or.inl h)); exact Or.inr (Or.inr (Or.inr h)); exact absurd h h4
  rcases hop with ho | ho | ho | ho
  · have ho : sOp σ i = 0 := ho
    refine lv_aload_n hx hb dX5_carriedOut_0 rfl (lv_at hl 0 rfl) ?_
    refine va_get (D := D) (ci := 5) (v := .ref (ad 11)) (C := RX5) (T := TX5) (N := 20) hx hb hts in_X5 hown hK hP 0 rfl rfl 15 (by decide) (hts _ kf_X5_40) (fun _ h9 => h9) rfl dX5_carriedOut_1 ?_
    refine lv_iload_n hx hb dX5_carriedOut_4 rfl (lv_at hl 1 rfl) ?_
    refine ar_g hx hb hK hP 11 rfl (by omega) (by decide) dX5_carriedOut_5 ?_
    refine tp_i (z := 0) (ho) ?_
    refine lv_if_ne (tgt := 26) hx hb dX5_carriedOut_6 (by decide) (fun c9 => absurd (by decide) c9) (fun _ => ?_)
    refine lv_aload_n hx hb dX5_carriedOut_9 rfl (lv_at hl 0 rfl) ?_
    refine lv_aload_n hx hb dX5_carriedOut_10 rfl (lv_at hl 0 rfl) ?_
    refine va_get (D := D) (ci := 5) (v := .ref (ad 12)) (C := RX5) (T := TX5) (N := 20) hx hb hts in_X5 hown hK hP 0 rfl rfl 16 (by decide) (hts _ kf_X5_43) (fun _ h9 => h9) rfl dX5_carriedOut_11 ?_
    refine lv_iload_n hx hb dX5_carriedOut_14 rfl (lv_at hl 1 rfl) ?_
    refine ar_g hx hb hK hP 12 rfl (by omega) (by decide) dX5_carriedOut_15 ?_
    refine lv_aload_n hx hb dX5_carriedOut_16 rfl (lv_at hl 0 rfl) ?_
    refine va_get (D := D) (ci := 5) (v := .ref (ad 14)) (C := RX5) (T := TX5) (N := 20) hx hb hts in_X5 hown hK hP 0 rfl rfl 18 (by decide) (hts _ kf_X5_49) (fun _ h9 => h9) rfl dX5_carriedOut_17 ?_
    refine lv_iload_n hx hb dX5_carriedOut_20 rfl (lv_at hl 1 rfl) ?_
    refine ar_g hx hb hK hP 14 rfl (by omega) (by decide) dX5_carriedOut_21 ?_
    refine cl_i (rest := []) (c_X5_put l D cA ad A hDD σ (sFi σ i) (sAm σ i) hI hg hb9) ⟨hx, hb, hml, hown, hts⟩ hK hP hS kv_X5_125 ⟨Nat.le_of_ble_eq_true rfl, Nat.le_of_ble_eq_true rfl⟩ ⟨Nat.zero_le _, Nat.zero_le _⟩ 0 rfl rfl rfl hl.1 rfl (Nat.le_of_ble_eq_true rfl) (fun q h => h) dX5_carriedOut_22 (fun r u H locs hw hP hS _ => ?_)
    rw [hw.2] at hP
    refine tp_i (z := (f_put σ (sFi σ i) (sAm σ i)).1) hw.1 ?_
    exact rt_i (v := (f_put σ (sFi σ i) (sAm σ i)).1) (u := (f_put σ (sFi σ i) (sAm σ i)).2) hx hb hr hlocks hS hP ((by rw [ex_0 ho]; exact ⟨rfl, rfl⟩)) dX5_carriedOut_25
  · have ho : sOp σ i = 1 := ho
    refine lv_aload_n hx hb dX5_carriedOut_0 rfl (lv_at hl 0 rfl) ?_
    refine va_get (D := D) (ci := 5) (v := .ref (ad 11)) (C := RX5) (T := TX5) (N := 20) hx hb hts in_X5 hown hK hP 0 rfl rfl 15 (by decide) (hts _ kf_X5_40) (fun _ h9 => h9) rfl dX5_carriedOut_1 ?_
    refine lv_iload_n hx hb dX5_carriedOut_4 rfl (lv_at hl 1 rfl) ?_
    refine ar_g hx hb hK hP 11 rfl (by omega) (by decide) dX5_carriedOut_5 ?_
    refine tp_i (z := 1) (ho) ?_
    refine lv_if_ne (tgt := 26) hx hb dX5_carriedOut_6 (by decide) (fun _ => ?_) (fun c9 => absurd c9 (by decide))
    refine lv_aload_n hx hb dX5_carriedOut_26 rfl (lv_at hl 0 rfl) ?_
    refine va_get (D := D) (ci := 5) (v := .ref (ad 11)) (C := RX5) (T := TX5) (N := 20) hx hb hts in_X5 hown hK hP 0 rfl rfl 15 (by decide) (hts _ kf_X5_40) (fun _ h9 => h9) rfl dX5_carriedOut_27 ?_
    refine lv_iload_n hx hb dX5_carriedOut_30 rfl (lv_at hl 1 rfl) ?_
    refine ar_g hx hb hK hP 11 rfl (by omega) (by decide) dX5_carriedOut_31 ?_
    refine tp_i (z := 1) (ho) ?_
    refine lv_iconst (v := 1) hx hb dX5_carriedOut_32 (by decide) ?_
    refine lv_icmp_ne (tgt := 53) hx hb dX5_carriedOut_33 (by decide) (fun c9 => absurd (by decide) c9) (fun _ => ?_)
    refine lv_aload_n hx hb dX5_carriedOut_36 rfl (lv_at hl 0 rfl) ?_
    refine lv_aload_n hx hb dX5_carriedOut_37 rfl (lv_at hl 0 rfl) ?_
    refine va_get (D := D) (ci := 5) (v := .ref (ad 12)) (C := RX5) (T := TX5) (N := 20) hx hb hts in_X5 hown hK hP 0 rfl rfl 16 (by decide) (hts _ kf_X5_43) (fun _ h9 => h9) rfl dX5_carriedOut_38 ?_
    refine lv_iload_n hx hb dX5_carriedOut_41 rfl (lv_at hl 1 rfl) ?_
    refine ar_g hx hb hK hP 12 rfl (by omega) (by decide) dX5_carriedOut_42 ?_
    refine lv_aload_n hx hb dX5_carriedOut_43 rfl (lv_at hl 0 rfl) ?_
    refine va_get (D := D) (ci := 5) (v := .ref (ad 14)) (C := RX5) (T := TX5) (N := 20) hx hb hts in_X5 hown hK hP 0 rfl rfl 18 (by decide) (hts _ kf_X5_49) (fun _ h9 => h9) rfl dX5_carriedOut_44 ?_
    refine lv_iload_n hx hb dX5_carriedOut_47 rfl (lv_at hl 1 rfl) ?_
    refine ar_g hx hb hK hP 14 rfl (by omega) (by decide) dX5_carriedOut_48 ?_
    refine cl_i (rest := []) (c_X5_take l D cA ad A hDD σ (sFi σ i) (sAm σ i) hI hg hb9) ⟨hx, hb, hml, hown, hts⟩ hK hP hS kv_X5_128 ⟨Nat.le_of_ble_eq_true rfl, Nat.le_of_ble_eq_true rfl⟩ ⟨Nat.zero_le _, Nat.zero_le _⟩ 0 rfl rfl rfl hl.1 rfl (Nat.le_of_ble_eq_true rfl) (fun q h => h) dX5_carriedOut_49 (fun r u H locs hw hP hS _ => ?_)
    rw [hw.2] at hP
    refine tp_i (z := (f_take σ (sFi σ i) (sAm σ i)).1) hw.1 ?_
    exact rt_i (v := (f_take σ (sFi σ i) (sAm σ i)).1) (u := (f_take σ (sFi σ i) (sAm σ i)).2) hx hb hr hlocks hS hP ((by rw [ex_1 ho]; exact ⟨rfl, rfl⟩)) dX5_carriedOut_52
  · have ho : sOp σ i = 2 := ho
    refine lv_aload_n hx hb dX5_carriedOut_0 rfl (lv_at hl 0 rfl) ?_
    refine va_get (D := D) (ci := 5) (v := .ref (ad 11)) (C := RX5) (T := TX5) (N := 20) hx hb hts in_X5 hown hK hP 0 rfl rfl 15 (by decide) (hts _ kf_X5_40) (fun _ h9 => h9) rfl dX5_carriedOut_1 ?_
    refine lv_iload_n hx hb dX5_carriedOut_4 rfl (lv_at hl 1 rfl) ?_
    refine ar_g hx hb hK hP 11 rfl (by omega) (by decide) dX5_carriedOut_5 ?_
    refine tp_i (z := 2) (ho) ?_
    refine lv_if_ne (tgt := 26) hx hb dX5_carriedOut_6 (by decide) (fun _ => ?_) (fun c9 => absurd c9 (by decide))
    refine lv_aload_n hx hb dX5_carriedOut_26 rfl (lv_at hl 0 rfl) ?_
    refine va_get (D := D) (ci := 5) (v := .ref (ad 11)) (C := RX5) (T := TX5) (N := 20) hx hb hts in_X5 hown hK hP 0 rfl rfl 15 (by decide) (hts _ kf_X5_40) (fun _ h9 => h9) rfl dX5_carriedOut_27 ?_
    refine lv_iload_n hx hb dX5_carriedOut_30 rfl (lv_at hl 1 rfl) ?_
    refine ar_g hx hb hK hP 11 rfl (by omega) (by decide) dX5_carriedOut_31 ?_
    refine tp_i (z := 2) (ho) ?_
    refine lv_iconst (v := 1) hx hb dX5_carriedOut_32 (by decide) ?_
    refine lv_icmp_ne (tgt := 53) hx hb dX5_carriedOut_33 (by decide) (fun _ => ?_) (fun c9 => absurd c9 (by decide))
    refine lv_aload_n hx hb dX5_carriedOut_53 rfl (lv_at hl 0 rfl) ?_
    refine va_get (D := D) (ci := 5) (v := .ref (ad 11)) (C := RX5) (T := TX5) (N := 20) hx hb hts in_X5 hown hK hP 0 rfl rfl 15 (by decide) (hts _ kf_X5_40) (fun _ h9 => h9) rfl dX5_carriedOut_54 ?_
    refine lv_iload_n hx hb dX5_carriedOut_57 rfl (lv_at hl 1 rfl) ?_
    refine ar_g hx hb hK hP 11 rfl (by omega) (by decide) dX5_carriedOut_58 ?_
    refine tp_i (z := 2) (ho) ?_
    refine lv_iconst (v := 2) hx hb dX5_carriedOut_59 (by decide) ?_
    refine lv_icmp_ne (tgt := 86) hx hb dX5_carriedOut_60 (by decide) (fun c9 => absurd (by decide) c9) (fun _ => ?_)
    refine lv_aload_n hx hb dX5_carriedOut_63 rfl (lv_at hl 0 rfl) ?_
    refine lv_aload_n hx hb dX5_carriedOut_64 rfl (lv_at hl 0 rfl) ?_
    refine va_get (D := D) (ci := 5) (v := .ref (ad 12)) (C := RX5) (T := TX5) (N := 20) hx hb hts in_X5 hown hK hP 0 rfl rfl 16 (by decide) (hts _ kf_X5_43) (fun _ h9 => h9) rfl dX5_carriedOut_65 ?_
    refine lv_iload_n hx hb dX5_carriedOut_68 rfl (lv_at hl 1 rfl) ?_
    refine ar_g hx hb hK hP 12 rfl (by omega) (by decide) dX5_carriedOut_69 ?_
    refine lv_aload_n hx hb dX5_carriedOut_70 rfl (lv_at hl 0 rfl) ?_
    refine va_get (D := D) (ci := 5) (v := .ref (ad 13)) (C := RX5) (T := TX5) (N := 20) hx hb hts in_X5 hown hK hP 0 rfl rfl 17 (by decide) (hts _ kf_X5_46) (fun _ h9 => h9) rfl dX5_carriedOut_71 ?_
    refine lv_iload_n hx hb dX5_carriedOut_74 rfl (lv_at hl 1 rfl) ?_
    refine ar_g hx hb hK hP 13 rfl (by omega) (by decide) dX5_carriedOut_75 ?_
    refine lv_aload_n hx hb dX5_carriedOut_76 rfl (lv_at hl 0 rfl) ?_
    refine va_get (D := D) (ci := 5) (v := .ref (ad 14)) (C := RX5) (T := TX5) (N := 20) hx hb hts in_X5 hown hK hP 0 rfl rfl 18 (by decide) (hts _ kf_X5_49) (fun _ h9 => h9) rfl dX5_carriedOut_77 ?_
    refine lv_iload_n hx hb dX5_carriedOut_80 rfl (lv_at hl 1 rfl) ?_
    refine ar_g hx hb hK hP 14 rfl (by omega) (by decide) dX5_carriedOut_81 ?_
    refine cl_i (rest := []) (c_X5_move l D cA ad A hDD σ (sFi σ i) (sSe σ i) (sAm σ i) hI hg hb9) ⟨hx, hb, hml, hown, hts⟩ hK hP hS kv_X5_131 ⟨Nat.le_of_ble_eq_true rfl, Nat.le_of_ble_eq_true rfl⟩ ⟨Nat.zero_le _, Nat.zero_le _⟩ 0 rfl rfl rfl hl.1 rfl (Nat.le_of_ble_eq_true rfl) (fun q h => h) dX5_carriedOut_82 (fun r u H locs hw hP hS _ => ?_)
    rw [hw.2] at hP
    refine tp_i (z := (f_move σ (sFi σ i) (sSe σ i) (sAm σ i)).1) hw.1 ?_
    exact rt_i (v := (f_move σ (sFi σ i) (sSe σ i) (sAm σ i)).1) (u := (f_move σ (sFi σ i) (sSe σ i) (sAm σ i)).2) hx hb hr hlocks hS hP ((by rw [ex_2 ho]; exact ⟨rfl, rfl⟩)) dX5_carriedOut_85
  · have ho : sOp σ i = 3 := ho
    refine lv_aload_n hx hb dX5_carriedOut_0 rfl (lv_at hl 0 rfl) ?_
    refine va_get (D := D) (ci := 5) (v := .ref (ad 11)) (C := RX5) (T := TX5) (N := 20) hx hb hts in_X5 hown hK hP 0 rfl rfl 15 (by decide) (hts _ kf_X5_40) (fun _ h9 => h9) rfl dX5_carriedOut_1 ?_
    refine lv_iload_n hx hb dX5_carriedOut_4 rfl (lv_at hl 1 rfl) ?_
    refine ar_g hx hb hK hP 11 rfl (by omega) (by decide) dX5_carriedOut_5 ?_
    refine tp_i (z := 3) (ho) ?_
    refine lv_if_ne (tgt := 26) hx hb dX5_carriedOut_6 (by decide) (fun _ => ?_) (fun c9 => absurd c9 (by decide))
    refine lv_aload_n hx hb dX5_carriedOut_26 rfl (lv_at hl 0 rfl) ?_
    refine va_get (D := D) (ci := 5) (v := .ref (ad 11)) (C := RX5) (T := TX5) (N := 20) hx hb hts in_X5 hown hK hP 0 rfl rfl 15 (by decide) (hts _ kf_X5_40) (fun _ h9 => h9) rfl dX5_carriedOut_27 ?_
    refine lv_iload_n hx hb dX5_carriedOut_30 rfl (lv_at hl 1 rfl) ?_
    refine ar_g hx hb hK hP 11 rfl (by omega) (by decide) dX5_carriedOut_31 ?_
    refine tp_i (z := 3) (ho) ?_
    refine lv_iconst (v := 1) hx hb dX5_carriedOut_32 (by decide) ?_
    refine lv_icmp_ne (tgt := 53) hx hb dX5_carriedOut_33 (by decide) (fun _ => ?_) (fun c9 => absurd c9 (by decide))
    refine lv_aload_n hx hb dX5_carriedOut_53 rfl (lv_at hl 0 rfl) ?_
    refine va_get (D := D) (ci := 5) (v := .ref (ad 11)) (C := RX5) (T := TX5) (N := 20) hx hb hts in_X5 hown hK hP 0 rfl rfl 15 (by decide) (hts _ kf_X5_40) (fun _ h9 => h9) rfl dX5_carriedOut_54 ?_
    refine lv_iload_n hx hb dX5_carriedOut_57 rfl (lv_at hl 1 rfl) ?_
    refine ar_g hx hb hK hP 11 rfl (by omega) (by decide) dX5_carriedOut_58 ?_
    refine tp_i (z := 3) (ho) ?_
    refine lv_iconst (v := 2) hx hb dX5_carriedOut_59 (by decide) ?_
    refine lv_icmp_ne (tgt := 86) hx hb dX5_carriedOut_60 (by decide) (fun _ => ?_) (fun c9 => absurd c9 (by decide))
    refine lv_aload_n hx hb dX5_carriedOut_86 rfl (lv_at hl 0 rfl) ?_
    refine lv_aload_n hx hb dX5_carriedOut_87 rfl (lv_at hl 0 rfl) ?_
    refine va_get (D := D) (ci := 5) (v := .ref (ad 12)) (C := RX5) (T := TX5) (N := 20) hx hb hts in_X5 hown hK hP 0 rfl rfl 16 (by decide) (hts _ kf_X5_43) (fun _ h9 => h9) rfl dX5_carriedOut_88 ?_
    refine lv_iload_n hx hb dX5_carriedOut_91 rfl (lv_at hl 1 rfl) ?_
    refine ar_g hx hb hK hP 12 rfl (by omega) (by decide) dX5_carriedOut_92 ?_
    refine cl_i (rest := []) (c_X5_swap l D cA ad A hDD σ (sFi σ i) hI hg hb9) ⟨hx, hb, hml, hown, hts⟩ hK hP hS kv_X5_135 ⟨Nat.le_of_ble_eq_true rfl, Nat.le_of_ble_eq_true rfl⟩ ⟨Nat.zero_le _, Nat.zero_le _⟩ 0 rfl rfl rfl hl.1 rfl (Nat.le_of_ble_eq_true rfl) (fun q h => h) dX5_carriedOut_93 (fun r u H locs hw hP hS _ => ?_)
    rw [hw.2] at hP
    refine tp_i (z := (f_swap σ (sFi σ i)).1) hw.1 ?_
    exact rt_i (v := (f_swap σ (sFi σ i)).1) (u := (f_swap σ (sFi σ i)).2) hx hb hr hlocks hS hP ((by rw [ex_3 ho]; exact ⟨rfl, rfl⟩)) dX5_carriedOut_96
set_option maxHeartbeats 4000000 in
set_option maxRecDepth 100000 in
theorem c_X5_run (l : Launch) (D : va_G) (cA : ClassId) (ad : Nat → Nat) (A : Nat → Prop) (hDD : ∀ u, va_D A (rW ad cA u)) (σ : CS) (hI : Inv σ) (hg : sGr σ = 0) (hb9 : sBc σ ≤ 900000000) : Ct l D cA (rW ad cA) A yX5_run cX5_run 5 (some .int) 9 195 [.ref (ad 0)] σ (fun r u => r = (f_run σ).1 ∧ u = (f_run σ).2) := by
  refine Ct.of (by decide) (Nat.le_of_ble_eq_true rfl) ?_
  intro p e s m below meth c ls S0 hr hlocks hK hP hS hl
  obtain ⟨hx, hb, hml, hown, hts⟩ := id S0
  have hl : lv_has ls 5 [(0, .ref (ad 0))] := hl
  have hkc := hI.kc
  have hvc := hI.vc
  have hgc := hI.gr
  have htc := hI.tc
  have loop : ∀ (f d : Nat) (τ : CS) (H : Heap) (locs : List Loc) (ls : Array Slot), d + f = sTc σ → Inv τ → sGr τ = 0 → τ.2.2.2.1 = σ.2.2.2.1 → sBc τ + 8 * f ≤ 900000000 + 8 * sTc σ → rn f d τ = rn (sTc σ) 0 σ → va_P D vwCl (rW ad cA τ) H → va_S A s.heap H locs → lv_has ls 5 [(3, .int (nI d)), (2, .int 1), (1, .int (nI d)), (0, .ref (ad 0))] → W p l e { frames := 9, cells := 0, slots := 0, locals := 195 } s m ([.ref (ad 0)] : List Value).toArray below meth c H locs 0 0 (MQ below (va_Qi (fun r u => r = (f_run σ).1 ∧ u = (f_run σ).2) (fun u t => va_P D vwCl (rW ad cA u) t.heap) A) ([.ref (ad 0)] : List Value).toArray s 0 0 A) (F0 m 6 ls []) := by
    intro f
    induction f with
    | zero =>
      intro d τ H locs ls hdf hIt hgt hTt hbt hE hP hS hl
      have hTc : sTc τ = sTc σ := by show τ.2.2.2.1.2.2.2.2 = _; rw [hTt]
      refine lv_iload_n hx hb dX5_run_6 rfl (lv_at hl 0 rfl) ?_
      refine lv_aload_n hx hb dX5_run_7 rfl (lv_at hl 3 rfl) ?_
      refine va_get (D := D) (ci := 5) (v := .int (nI (sTc τ))) (C := RX5) (T := TX5) (N := 20) hx hb hts in_X5 hown hK hP 0 rfl rfl 19 (by decide) (hts _ kf_X5_122) (fun _ h9 => h9) rfl dX5_run_8 ?_
      refine lv_icmp_ge (tgt := 83) hx hb dX5_run_11 (by decide) (fun _ => ?_) (fun c9 => absurd (nI_le (by omega) (by omega)) c9)
      refine lv_aload_n hx hb dX5_run_83 rfl (lv_at hl 3 rfl) ?_
      refine lv_iconst (v := 0) hx hb dX5_run_84 (by decide) ?_
      refine tp_i (z := (nI 0)) nI_0.symm ?_
      refine va_put (D := D) (ci := 5) (v := .int (nI 0)) (ty := .int) (C := RX5) (T := TX5) (N := 20) hx hb hts in_X5 tyX5 tyX5_ok nmX5 hown hK hP (hDD _) hS 0 rfl rfl 19 (by decide) (hts _ kf_X5_122) (fun _ h9 => h9) rfl (by decide +kernel) rfl rfl (Nat.le_of_ble_eq_true rfl) dX5_run_85 (fun H locs hP _ hS => ?_)
      have hP : va_P D vwCl (rW ad cA (τ.1, τ.2.1, τ.2.2.1, ((sOp τ), (sFi τ), (sSe τ), (sAm τ), 0), τ.2.2.2.2)) H := hP
      refine lv_iload_n hx hb dX5_run_88 rfl (lv_at hl 2 rfl) ?_
      exact rt_i (v := (nI d)) (u := (τ.1, τ.2.1, τ.2.2.1, ((sOp τ), (sFi τ), (sSe τ), (sAm τ), 0), τ.2.2.2.2)) hx hb hr hlocks hS hP ((by unfold f_run; rw [← hE]; exact ⟨rfl, rfl⟩)) dX5_run_89
    | succ f ih =>
      intro d τ H locs ls hdf hIt hgt hTt hbt hE hP hS hl
      have hTc : sTc τ = sTc σ := by show τ.2.2.2.1.2.2.2.2 = _; rw [hTt]
      have sx := ex_st (i := d) hIt hgt
      refine lv_iload_n hx hb dX5_run_6 rfl (lv_at hl 0 rfl) ?_
      refine lv_aload_n hx hb dX5_run_7 rfl (lv_at hl 3 rfl) ?_
      refine va_get (D := D) (ci := 5) (v := .int (nI (sTc τ))) (C := RX5) (T := TX5) (N := 20) hx hb hts in_X5 hown hK hP 0 rfl rfl 19 (by decide) (hts _ kf_X5_122) (fun _ h9 => h9) rfl dX5_run_8 ?_
      refine lv_icmp_ge (tgt := 83) hx hb dX5_run_11 (by decide) (fun c9 => absurd c9 (nI_ge (by omega) (by omega))) (fun _ => ?_)
      refine lv_iload_n hx hb dX5_run_14 rfl (lv_at hl 1 rfl) ?_
      refine lv_if_eq (tgt := 83) hx hb dX5_run_15 (by decide) (fun c9 => absurd c9 (by decide)) (fun _ => ?_)
      refine lv_aload_n hx hb dX5_run_18 rfl (lv_at hl 3 rfl) ?_
      refine va_get (D := D) (ci := 5) (v := .ref (ad 11)) (C := RX5) (T := TX5) (N := 20) hx hb hts in_X5 hown hK hP 0 rfl rfl 15 (by decide) (hts _ kf_X5_40) (fun _ h9 => h9) rfl dX5_run_19 ?_
      refine lv_iload_n hx hb dX5_run_22 rfl (lv_at hl 0 rfl) ?_
      refine ar_g hx hb hK hP 11 rfl (by omega) (by decide) dX5_run_23 ?_
      refine lv_iconst (v := 4) hx hb dX5_run_24 (by decide) ?_
      refine lv_icmp_eq (tgt := 32) hx hb dX5_run_25 (by decide) (fun h4 => ?_) (fun h4 => ?_)
      · refine lv_iconst (v := 0) hx hb dX5_run_32 (by decide) ?_
        refine lv_istore_n (lv' := [(2, .int 0), (3, .int (nI d)), (1, .int (nI d)), (0, .ref (ad 0))]) hx hb dX5_run_33 rfl hl (by decide) rfl (fun ls hl => ?_)
        refine lv_iload_n hx hb dX5_run_34 rfl (lv_at hl 0 rfl) ?_
        refine lv_if_eq (tgt := 65) hx hb dX5_run_35 (by decide) (fun _ => ?_) (fun c9 => absurd (by decide) c9)
        refine lv_iload_n hx hb dX5_run_65 rfl (lv_at hl 2 rfl) ?_
        refine lv_iload_n hx hb dX5_run_66 rfl (lv_at hl 0 rfl) ?_
        refine lv_if_eq (tgt := 74) hx hb dX5_run_67 (by decide) (fun _ => ?_) (fun c9 => absurd (by decide) c9)
        refine lv_iconst (v := 0) hx hb dX5_run_74 (by decide) ?_
        refine lv_iadd hx hb dX5_run_75 ?_
        refine tp_i (z := (nI d)) (Int32.add_zero _) ?_
        refine lv_istore_n (lv' := [(1, .int (nI d)), (2, .int 0), (3, .int (nI d)), (0, .ref (ad 0))]) hx hb dX5_run_76 rfl hl (by decide) rfl (fun ls hl => ?_)
        refine lv_iinc (v := (nI (d + 1))) (lv' := [(3, .int (nI (d + 1))), (1, .int (nI d)), (2, .int 0), (0, .ref (ad 0))]) hx hb dX5_run_77 hl (k := 2) rfl (nI_1 _) (by decide) rfl (fun ls hl => ?_)
        refine lv_goto (tgt := 6) hx hb dX5_run_80 (by decide) ?_
        refine lv_iload_n hx hb dX5_run_6 rfl (lv_at hl 0 rfl) ?_
        refine lv_aload_n hx hb dX5_run_7 rfl (lv_at hl 3 rfl) ?_
        refine va_get (D := D) (ci := 5) (v := .int (nI (sTc τ))) (C := RX5) (T := TX5) (N := 20) hx hb hts in_X5 hown hK hP 0 rfl rfl 19 (by decide) (hts _ kf_X5_122) (fun _ h9 => h9) rfl dX5_run_8 ?_
        refine lv_icmp_ge (tgt := 83) hx hb dX5_run_11 (by decide) (fun ca => ?_) (fun ca => ?_)
        · refine lv_aload_n hx hb dX5_run_83 rfl (lv_at hl 3 rfl) ?_
          refine lv_iconst (v := 0) hx hb dX5_run_84 (by decide) ?_
          refine tp_i (z := (nI 0)) nI_0.symm ?_
          refine va_put (D := D) (ci := 5) (v := .int (nI 0)) (ty := .int) (C := RX5) (T := TX5) (N := 20) hx hb hts in_X5 tyX5 tyX5_ok nmX5 hown hK hP (hDD _) hS 0 rfl rfl 19 (by decide) (hts _ kf_X5_122) (fun _ h9 => h9) rfl (by decide +kernel) rfl rfl (Nat.le_of_ble_eq_true rfl) dX5_run_85 (fun H locs hP _ hS => ?_)
          have hP : va_P D vwCl (rW ad cA (τ.1, τ.2.1, τ.2.2.1, ((sOp τ), (sFi τ), (sSe τ), (sAm τ), 0), τ.2.2.2.2)) H := hP
          refine lv_iload_n hx hb dX5_run_88 rfl (lv_at hl 1 rfl) ?_
          exact rt_i (v := (nI d)) (u := (τ.1, τ.2.1, τ.2.2.1, ((sOp τ), (sFi τ), (sSe τ), (sAm τ), 0), τ.2.2.2.2)) hx hb hr hlocks hS hP ((by unfold f_run; rw [← hE, rn_1 h4]; exact ⟨rfl, rfl⟩)) dX5_run_89
        · refine lv_iload_n hx hb dX5_run_14 rfl (lv_at hl 2 rfl) ?_
          refine lv_if_eq (tgt := 83) hx hb dX5_run_15 (by decide) (fun _ => ?_) (fun c9 => absurd (by decide) c9)
          refine lv_aload_n hx hb dX5_run_83 rfl (lv_at hl 3 rfl) ?_
          refine lv_iconst (v := 0) hx hb dX5_run_84 (by decide) ?_
          refine tp_i (z := (nI 0)) nI_0.symm ?_
          refine va_put (D := D) (ci := 5) (v := .int (nI 0)) (ty := .int) (C := RX5) (T := TX5) (N := 20) hx hb hts in_X5 tyX5 tyX5_ok nmX5 hown hK hP (hDD _) hS 0 rfl rfl 19 (by decide) (hts _ kf_X5_122) (fun _ h9 => h9) rfl (by decide +kernel) rfl rfl (Nat.le_of_ble_eq_true rfl) dX5_run_85 (fun H locs hP _ hS => ?_)
          have hP : va_P D vwCl (rW ad cA (τ.1, τ.2.1, τ.2.2.1, ((sOp τ), (sFi τ), (sSe τ), (sAm τ), 0), τ.2.2.2.2)) H := hP
          refine lv_iload_n hx hb dX5_run_88 rfl (lv_at hl 1 rfl) ?_
          exact rt_i (v := (nI d)) (u := (τ.1, τ.2.1, τ.2.2.1, ((sOp τ), (sFi τ), (sSe τ), (sAm τ), 0), τ.2.2.2.2)) hx hb hr hlocks hS hP ((by unfold f_run; rw [← hE, rn_1 h4]; exact ⟨rfl, rfl⟩)) dX5_run_89
      · refine lv_iconst (v := 1) hx hb dX5_run_28 (by decide) ?_
        refine lv_goto (tgt := 33) hx hb dX5_run_29 (by decide) ?_
        refine lv_istore_n (lv' := [(2, .int 1), (3, .int (nI d)), (1, .int (nI d)), (0, .ref (ad 0))]) hx hb dX5_run_33 rfl hl (by decide) rfl (fun ls hl => ?_)
        refine lv_iload_n hx hb dX5_run_34 rfl (lv_at hl 0 rfl) ?_
        refine lv_if_eq (tgt := 65) hx hb dX5_run_35 (by decide) (fun c9 => absurd c9 (by decide)) (fun _ => ?_)
        refine lv_aload_n hx hb dX5_run_38 rfl (lv_at hl 3 rfl) ?_
        refine lv_iload_n hx hb dX5_run_39 rfl (lv_at hl 1 rfl) ?_
        refine cl_i (rest := []) (c_X5_carriedOut l D cA ad A hDD τ d (by omega) h4 hIt hgt (by omega)) ⟨hx, hb, hml, hown, hts⟩ hK hP hS kv_X5_138 ⟨Nat.le_of_ble_eq_true rfl, Nat.le_of_ble_eq_true rfl⟩ ⟨Nat.zero_le _, Nat.zero_le _⟩ 0 rfl rfl rfl hl.1 rfl (Nat.le_of_ble_eq_true rfl) (fun q h => h) dX5_run_40 (fun r u1 H locs hw hP hS _ => ?_)
        have hu1 : u1 = (ex τ d).2 := hw.2
        refine tp_i (z := (ex τ d).1) hw.1 ?_
        rw [← hu1] at sx
        refine lv_istore (lv' := [(4, .int (ex τ d).1), (2, .int 1), (3, .int (nI d)), (1, .int (nI d)), (0, .ref (ad 0))]) hx hb dX5_run_43 hl (by decide) rfl (fun ls hl => ?_)
        refine lv_iload hx hb dX5_run_45 (lv_at hl 0 rfl) ?_
        refine lv_bipush (v := (-6)) hx hb dX5_run_47 (by decide) ?_
        refine lv_icmp_eq (tgt := 63) hx hb dX5_run_49 (by decide) (fun c49 => ?_) (fun c49 => ?_)
        · refine lv_iconst (v := 0) hx hb dX5_run_63 (by decide) ?_
          refine lv_istore_n (lv' := [(2, .int 0), (4, .int (ex τ d).1), (3, .int (nI d)), (1, .int (nI d)), (0, .ref (ad 0))]) hx hb dX5_run_64 rfl hl (by decide) rfl (fun ls hl => ?_)
          refine lv_iload_n hx hb dX5_run_65 rfl (lv_at hl 3 rfl) ?_
          refine lv_iload_n hx hb dX5_run_66 rfl (lv_at hl 0 rfl) ?_
          refine lv_if_eq (tgt := 74) hx hb dX5_run_67 (by decide) (fun _ => ?_) (fun c9 => absurd (by decide) c9)
          refine lv_iconst (v := 0) hx hb dX5_run_74 (by decide) ?_
          refine lv_iadd hx hb dX5_run_75 ?_
          refine tp_i (z := (nI d)) (Int32.add_zero _) ?_
          refine lv_istore_n (lv' := [(1, .int (nI d)), (2, .int 0), (4, .int (ex τ d).1), (3, .int (nI d)), (0, .ref (ad 0))]) hx hb dX5_run_76 rfl hl (by decide) rfl (fun ls hl => ?_)
          refine lv_iinc (v := (nI (d + 1))) (lv' := [(3, .int (nI (d + 1))), (1, .int (nI d)), (2, .int 0), (4, .int (ex τ d).1), (0, .ref (ad 0))]) hx hb dX5_run_77 hl (k := 3) rfl (nI_1 _) (by decide) rfl (fun ls hl => ?_)
          refine lv_goto (tgt := 6) hx hb dX5_run_80 (by decide) ?_
          refine lv_iload_n hx hb dX5_run_6 rfl (lv_at hl 0 rfl) ?_
          refine lv_aload_n hx hb dX5_run_7 rfl (lv_at hl 4 rfl) ?_
          refine va_get (D := D) (ci := 5) (v := .int (nI (sTc u1))) (C := RX5) (T := TX5) (N := 20) hx hb hts in_X5 hown hK hP 0 rfl rfl 19 (by decide) (hts _ kf_X5_122) (fun _ h9 => h9) rfl dX5_run_8 ?_
          refine lv_icmp_ge (tgt := 83) hx hb dX5_run_11 (by decide) (fun ca => ?_) (fun ca => ?_)
          · refine lv_aload_n hx hb dX5_run_83 rfl (lv_at hl 4 rfl) ?_
            refine lv_iconst (v := 0) hx hb dX5_run_84 (by decide) ?_
            refine tp_i (z := (nI 0)) nI_0.symm ?_
            refine va_put (D := D) (ci := 5) (v := .int (nI 0)) (ty := .int) (C := RX5) (T := TX5) (N := 20) hx hb hts in_X5 tyX5 tyX5_ok nmX5 hown hK hP (hDD _) hS 0 rfl rfl 19 (by decide) (hts _ kf_X5_122) (fun _ h9 => h9) rfl (by decide +kernel) rfl rfl (Nat.le_of_ble_eq_true rfl) dX5_run_85 (fun H locs hP _ hS => ?_)
            have hP : va_P D vwCl (rW ad cA (u1.1, u1.2.1, u1.2.2.1, ((sOp u1), (sFi u1), (sSe u1), (sAm u1), 0), u1.2.2.2.2)) H := hP
            refine lv_iload_n hx hb dX5_run_88 rfl (lv_at hl 1 rfl) ?_
            exact rt_i (v := (nI d)) (u := (u1.1, u1.2.1, u1.2.2.1, ((sOp u1), (sFi u1), (sSe u1), (sAm u1), 0), u1.2.2.2.2)) hx hb hr hlocks hS hP ((by unfold f_run; rw [← hE, rn_2 h4 (Or.inl c49), ← hu1]; exact ⟨rfl, rfl⟩)) dX5_run_89
          · refine lv_iload_n hx hb dX5_run_14 rfl (lv_at hl 2 rfl) ?_
            refine lv_if_eq (tgt := 83) hx hb dX5_run_15 (by decide) (fun _ => ?_) (fun c9 => absurd (by decide) c9)
            refine lv_aload_n hx hb dX5_run_83 rfl (lv_at hl 4 rfl) ?_
            refine lv_iconst (v := 0) hx hb dX5_run_84 (by decide) ?_
            refine tp_i (z := (nI 0)) nI_0.symm ?_
            refine va_put (D := D) (ci := 5) (v := .int (nI 0)) (ty := .int) (C := RX5) (T := TX5) (N := 20) hx hb hts in_X5 tyX5 tyX5_ok nmX5 hown hK hP (hDD _) hS 0 rfl rfl 19 (by decide) (hts _ kf_X5_122) (fun _ h9 => h9) rfl (by decide +kernel) rfl rfl (Nat.le_of_ble_eq_true rfl) dX5_run_85 (fun H locs hP _ hS => ?_)
            have hP : va_P D vwCl (rW ad cA (u1.1, u1.2.1, u1.2.2.1, ((sOp u1), (sFi u1), (sSe u1), (sAm u1), 0), u1.2.2.2.2)) H := hP
            refine lv_iload_n hx hb dX5_run_88 rfl (lv_at hl 1 rfl) ?_
            exact rt_i (v := (nI d)) (u := (u1.1, u1.2.1, u1.2.2.1, ((sOp u1), (sFi u1), (sSe u1), (sAm u1), 0), u1.2.2.2.2)) hx hb hr hlocks hS hP ((by unfold f_run; rw [← hE, rn_2 h4 (Or.inl c49), ← hu1]; exact ⟨rfl, rfl⟩)) dX5_run_89
        · refine lv_iload hx hb dX5_run_52 (lv_at hl 0 rfl) ?_
          refine lv_bipush (v := (-7)) hx hb dX5_run_54 (by decide) ?_
          refine lv_icmp_eq (tgt := 63) hx hb dX5_run_56 (by decide) (fun c56 => ?_) (fun c56 => ?_)
          · refine lv_iconst (v := 0) hx hb dX5_run_63 (by decide) ?_
            refine lv_istore_n (lv' := [(2, .int 0), (4, .int (ex τ d).1), (3, .int (nI d)), (1, .int (nI d)), (0, .ref (ad 0))]) hx hb dX5_run_64 rfl hl (by decide) rfl (fun ls hl => ?_)
            refine lv_iload_n hx hb dX5_run_65 rfl (lv_at hl 3 rfl) ?_
            refine lv_iload_n hx hb dX5_run_66 rfl (lv_at hl 0 rfl) ?_
            refine lv_if_eq (tgt := 74) hx hb dX5_run_67 (by decide) (fun _ => ?_) (fun c9 => absurd (by decide) c9)
            refine lv_iconst (v := 0) hx hb dX5_run_74 (by decide) ?_
            refine lv_iadd hx hb dX5_run_75 ?_
            refine tp_i (z := (nI d)) (Int32.add_zero _) ?_
            refine lv_istore_n (lv' := [(1, .int (nI d)), (2, .int 0), (4, .int (ex τ d).1), (3, .int (nI d)), (0, .ref (ad 0))]) hx hb dX5_run_76 rfl hl (by decide) rfl (fun ls hl => ?_)
            refine lv_iinc (v := (nI (d + 1))) (lv' := [(3, .int (nI (d + 1))), (1, .int (nI d)), (2, .int 0), (4, .int (ex τ d).1), (0, .ref (ad 0))]) hx hb dX5_run_77 hl (k := 3) rfl (nI_1 _) (by decide) rfl (fun ls hl => ?_)
            refine lv_goto (tgt := 6) hx hb dX5_run_80 (by decide) ?_
            refine lv_iload_n hx hb dX5_run_6 rfl (lv_at hl 0 rfl) ?_
            refine lv_aload_n hx hb dX5_run_7 rfl (lv_at hl 4 rfl) ?_
            refine va_get (D := D) (ci := 5) (v := .int (nI (sTc u1))) (C := RX5) (T := TX5) (N := 20) hx hb hts in_X5 hown hK hP 0 rfl rfl 19 (by decide) (hts _ kf_X5_122) (fun _ h9 => h9) rfl dX5_run_8 ?_
            refine lv_icmp_ge (tgt := 83) hx hb dX5_run_11 (by decide) (fun ca => ?_) (fun ca => ?_)
            · refine lv_aload_n hx hb dX5_run_83 rfl (lv_at hl 4 rfl) ?_
              refine lv_iconst (v := 0) hx hb dX5_run_84 (by decide) ?_
              refine tp_i (z := (nI 0)) nI_0.symm ?_
              refine va_put (D := D) (ci := 5) (v := .int (nI 0)) (ty := .int) (C := RX5) (T := TX5) (N := 20) hx hb hts in_X5 tyX5 tyX5_ok nmX5 hown hK hP (hDD _) hS 0 rfl rfl 19 (by decide) (hts _ kf_X5_122) (fun _ h9 => h9) rfl (by decide +kernel) rfl rfl (Nat.le_of_ble_eq_true rfl) dX5_run_85 (fun H locs hP _ hS => ?_)
              have hP : va_P D vwCl (rW ad cA (u1.1, u1.2.1, u1.2.2.1, ((sOp u1), (sFi u1), (sSe u1), (sAm u1), 0), u1.2.2.2.2)) H := hP
              refine lv_iload_n hx hb dX5_run_88 rfl (lv_at hl 1 rfl) ?_
              exact rt_i (v := (nI d)) (u := (u1.1, u1.2.1, u1.2.2.1, ((sOp u1), (sFi u1), (sSe u1), (sAm u1), 0), u1.2.2.2.2)) hx hb hr hlocks hS hP ((by unfold f_run; rw [← hE, rn_2 h4 (Or.inr c56), ← hu1]; exact ⟨rfl, rfl⟩)) dX5_run_89
            · refine lv_iload_n hx hb dX5_run_14 rfl (lv_at hl 2 rfl) ?_
              refine lv_if_eq (tgt := 83) hx hb dX5_run_15 (by decide) (fun _ => ?_) (fun c9 => absurd (by decide) c9)
              refine lv_aload_n hx hb dX5_run_83 rfl (lv_at hl 4 rfl) ?_
              refine lv_iconst (v := 0) hx hb dX5_run_84 (by decide) ?_
              refine tp_i (z := (nI 0)) nI_0.symm ?_
              refine va_put (D := D) (ci := 5) (v := .int (nI 0)) (ty := .int) (C := RX5) (T := TX5) (N := 20) hx hb hts in_X5 tyX5 tyX5_ok nmX5 hown hK hP (hDD _) hS 0 rfl rfl 19 (by decide) (hts _ kf_X5_122) (fun _ h9 => h9) rfl (by decide +kernel) rfl rfl (Nat.le_of_ble_eq_true rfl) dX5_run_85 (fun H locs hP _ hS => ?_)
              have hP : va_P D vwCl (rW ad cA (u1.1, u1.2.1, u1.2.2.1, ((sOp u1), (sFi u1), (sSe u1), (sAm u1), 0), u1.2.2.2.2)) H := hP
              refine lv_iload_n hx hb dX5_run_88 rfl (lv_at hl 1 rfl) ?_
              exact rt_i (v := (nI d)) (u := (u1.1, u1.2.1, u1.2.2.1, ((sOp u1), (sFi u1), (sSe u1), (sAm u1), 0), u1.2.2.2.2)) hx hb hr hlocks hS hP ((by unfold f_run; rw [← hE, rn_2 h4 (Or.inr c56), ← hu1]; exact ⟨rfl, rfl⟩)) dX5_run_89
          · refine lv_iconst (v := 1) hx hb dX5_run_59 (by decide) ?_
            refine lv_goto (tgt := 64) hx hb dX5_run_60 (by decide) ?_
            refine lv_istore_n (lv' := [(2, .int 1), (4, .int (ex τ d).1), (3, .int (nI d)), (1, .int (nI d)), (0, .ref (ad 0))]) hx hb dX5_run_64 rfl hl (by decide) rfl (fun ls hl => ?_)
            refine lv_iload_n hx hb dX5_run_65 rfl (lv_at hl 3 rfl) ?_
            refine lv_iload_n hx hb dX5_run_66 rfl (lv_at hl 0 rfl) ?_
            refine lv_if_eq (tgt := 74) hx hb dX5_run_67 (by decide) (fun c9 => absurd c9 (by decide)) (fun _ => ?_)
            refine lv_iconst (v := 1) hx hb dX5_run_70 (by decide) ?_
            refine lv_goto (tgt := 75) hx hb dX5_run_71 (by decide) ?_
            refine lv_iadd hx hb dX5_run_75 ?_
            refine tp_i (z := (nI (d + 1))) (nI_1 _) ?_
            refine lv_istore_n (lv' := [(1, .int (nI (d + 1))), (2, .int 1), (4, .int (ex τ d).1), (3, .int (nI d)), (0, .ref (ad 0))]) hx hb dX5_run_76 rfl hl (by decide) rfl (fun ls hl => ?_)
            refine lv_iinc (v := (nI (d + 1))) (lv' := [(3, .int (nI (d + 1))), (1, .int (nI (d + 1))), (2, .int 1), (4, .int (ex τ d).1), (0, .ref (ad 0))]) hx hb dX5_run_77 hl (k := 3) rfl (nI_1 _) (by decide) rfl (fun ls hl => ?_)
            refine lv_goto (tgt := 6) hx hb dX5_run_80 (by decide) ?_
            have qa : ¬ ((ex τ d).1 = -6 ∨ (ex τ d).1 = -7) := fun q => q.elim c49 c56
            exact ih (d + 1) u1 _ _ ls (by omega) sx.1.1 sx.2 (sx.1.2.2.1.trans hTt) (by have h7 := sx.1.2.2.2.2; have h8 := sx.2; omega) (by rw [hu1]; exact (rn_3 h4 qa).symm.trans hE) hP hS (lv_sub hl [0, 2, 1, 4] rfl)
  refine lv_iconst (v := 0) hx hb dX5_run_0 (by decide) ?_
  refine lv_istore_n (lv' := [(1, .int 0), (0, .ref (ad 0))]) hx hb dX5_run_1 rfl hl (by decide) rfl (fun ls hl => ?_)
  refine lv_iconst (v := 1) hx hb dX5_run_2 (by decide) ?_
  refine lv_istore_n (lv' := [(2, .int 1), (1, .int 0), (0, .ref (ad 0))]) hx hb dX5_run_3 rfl hl (by decide) rfl (fun ls hl => ?_)
  refine lv_iconst (v := 0) hx hb dX5_run_4 (by decide) ?_
  refine lv_istore_n (lv' := [(3, .int 0), (2, .int 1), (1, .int 0), (0, .ref (ad 0))]) hx hb dX5_run_5 rfl hl (by decide) rfl (fun ls hl => ?_)
  exact loop (sTc σ) 0 σ _ _ ls (by omega) hI hg rfl (by omega) rfl hP hS (lv_sub hl [0, 1, 2, 3] rfl)
