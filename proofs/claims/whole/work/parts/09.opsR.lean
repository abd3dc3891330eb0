set_option maxHeartbeats 4000000 in
set_option maxRecDepth 100000 in
theorem c_X5_key (l : Launch) (D : va_G) (cA : ClassId) (ad : Nat → Nat) (A : Nat → Prop) (hDD : ∀ u, va_D A (rW ad cA u)) (σ : CS) (t mm : Int32) (hI : Inv σ) (hg : sGr σ = 0) (hb9 : sBc σ ≤ 1000000000) : Ct l D cA (rW ad cA) A yX5_key cX5_key 3 (some .int) 0 0 [.ref (ad 0), .int t, .int mm] σ (fun r u => r = (f_key σ t mm).1 ∧ u = (f_key σ t mm).2) := by
  refine Ct.of (by decide) (Nat.le_of_ble_eq_true rfl) ?_
  intro p e s m below meth c ls S0 hr hlocks hK hP hS hl
  obtain ⟨hx, hb, hml, hown, hts⟩ := id S0
  have hl : lv_has ls 3 [(0, .ref (ad 0)), (1, .int t), (2, .int mm)] := hl
  have hkc := hI.kc
  have hvc := hI.vc
  have hgc := hI.gr
  have htc := hI.tc
  refine lv_iload_n hx hb dX5_key_0 rfl (lv_at hl 1 rfl) ?_
  refine lv_iconst (v := 1) hx hb dX5_key_1 (by decide) ?_
  refine lv_icmp_lt (tgt := 11) hx hb dX5_key_2 (by decide) (fun c2 => ?_) (fun c2 => ?_)
  · refine lv_bipush (v := (-2)) hx hb dX5_key_11 (by decide) ?_
    exact rt_i (v := (-2)) (u := σ) hx hb hr hlocks hS hP (pr2 (if_neg (fun q => i_nle.mpr c2 q.1))) dX5_key_13
  · refine lv_iload_n hx hb dX5_key_5 rfl (lv_at hl 1 rfl) ?_
    refine lv_bipush (v := 9) hx hb dX5_key_6 (by decide) ?_
    refine lv_icmp_le (tgt := 14) hx hb dX5_key_8 (by decide) (fun c8 => ?_) (fun c8 => ?_)
    · refine lv_aload_n hx hb dX5_key_14 rfl (lv_at hl 0 rfl) ?_
      refine va_get (D := D) (ci := 5) (v := .int (nI (sKc σ))) (C := RX5) (T := TX5) (N := 20) hx hb hts in_X5 hown hK hP 0 rfl rfl 4 (by decide) (hts _ kf_X5_52) (fun _ h9 => h9) rfl dX5_key_15 ?_
      refine lv_bipush (v := 40) hx hb dX5_key_18 (by decide) ?_
      refine lv_icmp_ne (tgt := 26) hx hb dX5_key_20 (by decide) (fun c20 => ?_) (fun c20 => ?_)
      · have h4 : sKc σ < 40 := by rcases Nat.lt_or_ge (sKc σ) 40 with q | q; exact q; exact absurd (by rw [Nat.le_antisymm hkc q]; rfl) c20
        refine lv_aload_n hx hb dX5_key_26 rfl (lv_at hl 0 rfl) ?_
        refine va_get (D := D) (ci := 5) (v := .ref (ad 1)) (C := RX5) (T := TX5) (N := 20) hx hb hts in_X5 hown hK hP 0 rfl rfl 0 (by decide) (hts _ kf_X5_7) (fun _ h9 => h9) rfl dX5_key_27 ?_
        refine lv_aload_n hx hb dX5_key_30 rfl (lv_at hl 0 rfl) ?_
        refine va_get (D := D) (ci := 5) (v := .int (nI (sKc σ))) (C := RX5) (T := TX5) (N := 20) hx hb hts in_X5 hown hK hP 0 rfl rfl 4 (by decide) (hts _ kf_X5_52) (fun _ h9 => h9) rfl dX5_key_31 ?_
        refine lv_iload_n hx hb dX5_key_34 rfl (lv_at hl 1 rfl) ?_
        refine ar_p hx hb hK hP (hDD _) hS 1 rfl (x := t) (by omega) (by decide) dX5_key_35 (fun H locs hP hS => ?_)
        have hP : va_P D vwCl (rW ad cA (((upd (sTee σ) (sKc σ) t), (sStr σ), (sWea σ), (sHel σ), (sKc σ)), σ.2.1, σ.2.2.1, σ.2.2.2.1, σ.2.2.2.2)) H := hP
        refine lv_aload_n hx hb dX5_key_36 rfl (lv_at hl 0 rfl) ?_
        refine va_get (D := D) (ci := 5) (v := .ref (ad 2)) (C := RX5) (T := TX5) (N := 20) hx hb hts in_X5 hown hK hP 0 rfl rfl 1 (by decide) (hts _ kf_X5_13) (fun _ h9 => h9) rfl dX5_key_37 ?_
        refine lv_aload_n hx hb dX5_key_40 rfl (lv_at hl 0 rfl) ?_
        refine va_get (D := D) (ci := 5) (v := .int (nI (sKc σ))) (C := RX5) (T := TX5) (N := 20) hx hb hts in_X5 hown hK hP 0 rfl rfl 4 (by decide) (hts _ kf_X5_52) (fun _ h9 => h9) rfl dX5_key_41 ?_
        refine lv_iload_n hx hb dX5_key_44 rfl (lv_at hl 2 rfl) ?_
        refine lv_if_eq (tgt := 52) hx hb dX5_key_45 (by decide) (fun c45 => ?_) (fun c45 => ?_)
        · refine lv_iconst (v := 1) hx hb dX5_key_52 (by decide) ?_
          refine ar_p hx hb hK hP (hDD _) hS 2 rfl (x := 1) (by omega) (by decide) dX5_key_53 (fun H locs hP hS => ?_)
          have hP : va_P D vwCl (rW ad cA (((upd (sTee σ) (sKc σ) t), (upd (sStr σ) (sKc σ) 1), (sWea σ), (sHel σ), (sKc σ)), σ.2.1, σ.2.2.1, σ.2.2.2.1, σ.2.2.2.2)) H := hP
          refine lv_aload_n hx hb dX5_key_54 rfl (lv_at hl 0 rfl) ?_
          refine va_get (D := D) (ci := 5) (v := .ref (ad 3)) (C := RX5) (T := TX5) (N := 20) hx hb hts in_X5 hown hK hP 0 rfl rfl 2 (by decide) (hts _ kf_X5_16) (fun _ h9 => h9) rfl dX5_key_55 ?_
          refine lv_aload_n hx hb dX5_key_58 rfl (lv_at hl 0 rfl) ?_
          refine va_get (D := D) (ci := 5) (v := .int (nI (sKc σ))) (C := RX5) (T := TX5) (N := 20) hx hb hts in_X5 hown hK hP 0 rfl rfl 4 (by decide) (hts _ kf_X5_52) (fun _ h9 => h9) rfl dX5_key_59 ?_
          refine lv_iconst (v := 0) hx hb dX5_key_62 (by decide) ?_
          refine ar_p hx hb hK hP (hDD _) hS 3 rfl (x := 0) (by omega) (by decide) dX5_key_63 (fun H locs hP hS => ?_)
          have hP : va_P D vwCl (rW ad cA (((upd (sTee σ) (sKc σ) t), (upd (sStr σ) (sKc σ) 1), (upd (sWea σ) (sKc σ) 0), (sHel σ), (sKc σ)), σ.2.1, σ.2.2.1, σ.2.2.2.1, σ.2.2.2.2)) H := hP
          refine lv_aload_n hx hb dX5_key_64 rfl (lv_at hl 0 rfl) ?_
          refine va_get (D := D) (ci := 5) (v := .ref (ad 4)) (C := RX5) (T := TX5) (N := 20) hx hb hts in_X5 hown hK hP 0 rfl rfl 3 (by decide) (hts _ kf_X5_19) (fun _ h9 => h9) rfl dX5_key_65 ?_
          refine lv_aload_n hx hb dX5_key_68 rfl (lv_at hl 0 rfl) ?_
          refine va_get (D := D) (ci := 5) (v := .int (nI (sKc σ))) (C := RX5) (T := TX5) (N := 20) hx hb hts in_X5 hown hK hP 0 rfl rfl 4 (by decide) (hts _ kf_X5_52) (fun _ h9 => h9) rfl dX5_key_69 ?_
          refine lv_iconst (v := 0) hx hb dX5_key_72 (by decide) ?_
          refine ar_p hx hb hK hP (hDD _) hS 4 rfl (x := 0) (by omega) (by decide) dX5_key_73 (fun H locs hP hS => ?_)
          have hP : va_P D vwCl (rW ad cA (((upd (sTee σ) (sKc σ) t), (upd (sStr σ) (sKc σ) 1), (upd (sWea σ) (sKc σ) 0), (upd (sHel σ) (sKc σ) 0), (sKc σ)), σ.2.1, σ.2.2.1, σ.2.2.2.1, σ.2.2.2.2)) H := hP
          refine lv_aload_n hx hb dX5_key_74 rfl (lv_at hl 0 rfl) ?_
          refine lv_dup hx hb dX5_key_75 rfl ?_
          refine va_get (D := D) (ci := 5) (v := .int (nI (sKc σ))) (C := RX5) (T := TX5) (N := 20) hx hb hts in_X5 hown hK hP 0 rfl rfl 4 (by decide) (hts _ kf_X5_52) (fun _ h9 => h9) rfl dX5_key_76 ?_
          refine lv_iconst (v := 1) hx hb dX5_key_79 (by decide) ?_
          refine lv_iadd hx hb dX5_key_80 ?_
          refine tp_i (z := (nI ((sKc σ) + 1))) (nI_1 _) ?_
          refine va_put (D := D) (ci := 5) (v := .int (nI ((sKc σ) + 1))) (ty := .int) (C := RX5) (T := TX5) (N := 20) hx hb hts in_X5 tyX5 tyX5_ok nmX5 hown hK hP (hDD _) hS 0 rfl rfl 4 (by decide) (hts _ kf_X5_52) (fun _ h9 => h9) rfl (by decide +kernel) rfl rfl (Nat.le_of_ble_eq_true rfl) dX5_key_81 (fun H locs hP _ hS => ?_)
          have hP : va_P D vwCl (rW ad cA (((upd (sTee σ) (sKc σ) t), (upd (sStr σ) (sKc σ) 1), (upd (sWea σ) (sKc σ) 0), (upd (sHel σ) (sKc σ) 0), ((sKc σ) + 1)), σ.2.1, σ.2.2.1, σ.2.2.2.1, σ.2.2.2.2)) H := hP
          refine lv_aload_n hx hb dX5_key_84 rfl (lv_at hl 0 rfl) ?_
          refine va_get (D := D) (ci := 5) (v := .int (nI ((sKc σ) + 1))) (C := RX5) (T := TX5) (N := 20) hx hb hts in_X5 hown hK hP 0 rfl rfl 4 (by decide) (hts _ kf_X5_52) (fun _ h9 => h9) rfl dX5_key_85 ?_
          refine lv_iconst (v := 1) hx hb dX5_key_88 (by decide) ?_
          refine lv_isub hx hb dX5_key_89 ?_
          refine tp_i (z := (nI (sKc σ))) (nI_pred _) ?_
          exact rt_i (v := (nI (sKc σ))) (u := (((upd (sTee σ) (sKc σ) t), (upd (sStr σ) (sKc σ) 1), (upd (sWea σ) (sKc σ) 0), (upd (sHel σ) (sKc σ) 0), ((sKc σ) + 1)), σ.2.1, σ.2.2.1, σ.2.2.2.1, σ.2.2.2.2)) hx hb hr hlocks hS hP (pr2 (by first | (unfold f_key; rw [if_pos (⟨i_nlt.mp c2, c8⟩ : 1 ≤ t ∧ t ≤ 9), if_neg (fun q => c20 (by rw [q]; rfl)), if_pos c45]; done) | (unfold f_key; rw [if_pos (⟨i_nlt.mp c2, c8⟩ : 1 ≤ t ∧ t ≤ 9), if_neg (fun q => c20 (by rw [q]; rfl)), if_pos c45]; rfl))) dX5_key_90
        · refine lv_iconst (v := 2) hx hb dX5_key_48 (by decide) ?_
          refine lv_goto (tgt := 53) hx hb dX5_key_49 (by decide) ?_
          refine ar_p hx hb hK hP (hDD _) hS 2 rfl (x := 2) (by omega) (by decide) dX5_key_53 (fun H locs hP hS => ?_)
          have hP : va_P D vwCl (rW ad cA (((upd (sTee σ) (sKc σ) t), (upd (sStr σ) (sKc σ) 2), (sWea σ), (sHel σ), (sKc σ)), σ.2.1, σ.2.2.1, σ.2.2.2.1, σ.2.2.2.2)) H := hP
          refine lv_aload_n hx hb dX5_key_54 rfl (lv_at hl 0 rfl) ?_
          refine va_get (D := D) (ci := 5) (v := .ref (ad 3)) (C := RX5) (T := TX5) (N := 20) hx hb hts in_X5 hown hK hP 0 rfl rfl 2 (by decide) (hts _ kf_X5_16) (fun _ h9 => h9) rfl dX5_key_55 ?_
          refine lv_aload_n hx hb dX5_key_58 rfl (lv_at hl 0 rfl) ?_
          refine va_get (D := D) (ci := 5) (v := .int (nI (sKc σ))) (C := RX5) (T := TX5) (N := 20) hx hb hts in_X5 hown hK hP 0 rfl rfl 4 (by decide) (hts _ kf_X5_52) (fun _ h9 => h9) rfl dX5_key_59 ?_
          refine lv_iconst (v := 0) hx hb dX5_key_62 (by decide) ?_
          refine ar_p hx hb hK hP (hDD _) hS 3 rfl (x := 0) (by omega) (by decide) dX5_key_63 (fun H locs hP hS => ?_)
          have hP : va_P D vwCl (rW ad cA (((upd (sTee σ) (sKc σ) t), (upd (sStr σ) (sKc σ) 2), (upd (sWea σ) (sKc σ) 0), (sHel σ), (sKc σ)), σ.2.1, σ.2.2.1, σ.2.2.2.1, σ.2.2.2.2)) H := hP
          refine lv_aload_n hx hb dX5_key_64 rfl (lv_at hl 0 rfl) ?_
          refine va_get (D := D) (ci := 5) (v := .ref (ad 4)) (C := RX5) (T := TX5) (N := 20) hx hb hts in_X5 hown hK hP 0 rfl rfl 3 (by decide) (hts _ kf_X5_19) (fun _ h9 => h9) rfl dX5_key_65 ?_
          refine lv_aload_n hx hb dX5_key_68 rfl (lv_at hl 0 rfl) ?_
          refine va_get (D := D) (ci := 5) (v := .int (nI (sKc σ))) (C := RX5) (T := TX5) (N := 20) hx hb hts in_X5 hown hK hP 0 rfl rfl 4 (by decide) (hts _ kf_X5_52) (fun _ h9 => h9) rfl dX5_key_69 ?_
          refine lv_iconst (v := 0) hx hb dX5_key_72 (by decide) ?_
          refine ar_p hx hb hK hP (hDD _) hS 4 rfl (x := 0) (by omega) (by decide) dX5_key_73 (fun H locs hP hS => ?_)
          have hP : va_P D vwCl (rW ad cA (((upd (sTee σ) (sKc σ) t), (upd (sStr σ) (sKc σ) 2), (upd (sWea σ) (sKc σ) 0), (upd (sHel σ) (sKc σ) 0), (sKc σ)), σ.2.1, σ.2.2.1, σ.2.2.2.1, σ.2.2.2.2)) H := hP
          refine lv_aload_n hx hb dX5_key_74 rfl (lv_at hl 0 rfl) ?_
          refine lv_dup hx hb dX5_key_75 rfl ?_
          refine va_get (D := D) (ci := 5) (v := .int (nI (sKc σ))) (C := RX5) (T := TX5) (N := 20) hx hb hts in_X5 hown hK hP 0 rfl rfl 4 (by decide) (hts _ kf_X5_52) (fun _ h9 => h9) rfl dX5_key_76 ?_
          refine lv_iconst (v := 1) hx hb dX5_key_79 (by decide) ?_
          refine lv_iadd hx hb dX5_key_80 ?_
          refine tp_i (z := (nI ((sKc σ) + 1))) (nI_1 _) ?_
          refine va_put (D := D) (ci := 5) (v := .int (nI ((sKc σ) + 1))) (ty := .int) (C := RX5) (T := TX5) (N := 20) hx hb hts in_X5 tyX5 tyX5_ok nmX5 hown hK hP (hDD _) hS 0 rfl rfl 4 (by decide) (hts _ kf_X5_52) (fun _ h9 => h9) rfl (by decide +kernel) rfl rfl (Nat.le_of_ble_eq_true rfl) dX5_key_81 (fun H locs hP _ hS => ?_)
          have hP : va_P D vwCl (rW ad cA (((upd (sTee σ) (sKc σ) t), (upd (sStr σ) (sKc σ) 2), (upd (sWea σ) (sKc σ) 0), (upd (sHel σ) (sKc σ) 0), ((sKc σ) + 1)), σ.2.1, σ.2.2.1, σ.2.2.2.1, σ.2.2.2.2)) H := hP
          refine lv_aload_n hx hb dX5_key_84 rfl (lv_at hl 0 rfl) ?_
          refine va_get (D := D) (ci := 5) (v := .int (nI ((sKc σ) + 1))) (C := RX5) (T := TX5) (N := 20) hx hb hts in_X5 hown hK hP 0 rfl rfl 4 (by decide) (hts _ kf_X5_52) (fun _ h9 => h9) rfl dX5_key_85 ?_
          refine lv_iconst (v := 1) hx hb dX5_key_88 (by decide) ?_
          refine lv_isub hx hb dX5_key_89 ?_
          refine tp_i (z := (nI (sKc σ))) (nI_pred _) ?_
          exact rt_i (v := (nI (sKc σ))) (u := (((upd (sTee σ) (sKc σ) t), (upd (sStr σ) (sKc σ) 2), (upd (sWea σ) (sKc σ) 0), (upd (sHel σ) (sKc σ) 0), ((sKc σ) + 1)), σ.2.1, σ.2.2.1, σ.2.2.2.1, σ.2.2.2.2)) hx hb hr hlocks hS hP (pr2 (by first | (unfold f_key; rw [if_pos (⟨i_nlt.mp c2, c8⟩ : 1 ≤ t ∧ t ≤ 9), if_neg (fun q => c20 (by rw [q]; rfl)), if_neg c45]; done) | (unfold f_key; rw [if_pos (⟨i_nlt.mp c2, c8⟩ : 1 ≤ t ∧ t ≤ 9), if_neg (fun q => c20 (by rw [q]; rfl)), if_neg c45]; rfl))) dX5_key_90
      · refine lv_bipush (v := (-3)) hx hb dX5_key_23 (by decide) ?_
        exact rt_i (v := (-3)) (u := σ) hx hb hr hlocks hS hP (pr2 (by first | (unfold f_key; rw [if_pos (⟨i_nlt.mp c2, c8⟩ : 1 ≤ t ∧ t ≤ 9), if_pos (nI_inj (b := 40) (by omega) (by decide) c20)]; done) | (unfold f_key; rw [if_pos (⟨i_nlt.mp c2, c8⟩ : 1 ≤ t ∧ t ≤ 9), if_pos (nI_inj (b := 40) (by omega) (by decide) c20)]; rfl))) dX5_key_25
    · refine lv_bipush (v := (-2)) hx hb dX5_key_11 (by decide) ?_
      exact rt_i (v := (-2)) (u := σ) hx hb hr hlocks hS hP (pr2 (if_neg (fun q => c8 q.2))) dX5_key_13
set_option maxHeartbeats 4000000 in
set_option maxRecDepth 100000 in
theorem c_X5_vault (l : Launch) (D : va_G) (cA : ClassId) (ad : Nat → Nat) (A : Nat → Prop) (hDD : ∀ u, va_D A (rW ad cA u)) (σ : CS) (x : Int32) (hI : Inv σ) (hg : sGr σ = 0) (hb9 : sBc σ ≤ 1000000000) : Ct l D cA (rW ad cA) A yX5_vault cX5_vault 2 (some .int) 1 20 [.ref (ad 0), .int x] σ (fun r u => r = (f_vault σ x).1 ∧ u = (f_vault σ x).2) := by
  refine Ct.of (by decide) (Nat.le_of_ble_eq_true rfl) ?_
  intro p e s m below meth c ls S0 hr hlocks hK hP hS hl
  obtain ⟨hx, hb, hml, hown, hts⟩ := id S0
  have hl : lv_has ls 2 [(0, .ref (ad 0)), (1, .int x)] := hl
  have hkc := hI.kc
  have hvc := hI.vc
  have hgc := hI.gr
  have htc := hI.tc
  by_cases hn : amt x
  · skip
    refine lv_iload_n hx hb dX5_vault_0 rfl (lv_at hl 1 rfl) ?_
    refine cl_s (rest := []) (c_X5_isAmount l D cA ad A hDD σ x ) ⟨hx, hb, hml, hown, hts⟩ hK hP hS kv_X5_63 ⟨Nat.le_of_ble_eq_true rfl, Nat.le_of_ble_eq_true rfl⟩ ⟨Nat.zero_le _, Nat.zero_le _⟩ rfl hl.1 rfl (Nat.le_of_ble_eq_true rfl) (fun q h => h) dX5_vault_1 (fun r u H locs hw hP hS => ?_)
    rw [hw.2] at hP
    refine tp_i (z := (bz (amt x))) hw.1 ?_
    refine tp_i (z := 1) (bz_1 hn) ?_
    refine lv_if_ne (tgt := 10) hx hb dX5_vault_4 (by decide) (fun _ => ?_) (fun c9 => absurd c9 (by decide))
    refine lv_aload_n hx hb dX5_vault_10 rfl (lv_at hl 0 rfl) ?_
    refine va_get (D := D) (ci := 5) (v := .int (nI (sVc σ))) (C := RX5) (T := TX5) (N := 20) hx hb hts in_X5 hown hK hP 0 rfl rfl 9 (by decide) (hts _ kf_X5_56) (fun _ h9 => h9) rfl dX5_vault_11 ?_
    refine lv_bipush (v := 12) hx hb dX5_vault_14 (by decide) ?_
    refine lv_icmp_ne (tgt := 22) hx hb dX5_vault_16 (by decide) (fun c16 => ?_) (fun c16 => ?_)
    · have h4 : sVc σ < 12 := by rcases Nat.lt_or_ge (sVc σ) 12 with q | q; exact q; exact absurd (by rw [Nat.le_antisymm hvc q]; rfl) c16
      refine lv_aload_n hx hb dX5_vault_22 rfl (lv_at hl 0 rfl) ?_
      refine va_get (D := D) (ci := 5) (v := .ref (ad 5)) (C := RX5) (T := TX5) (N := 20) hx hb hts in_X5 hown hK hP 0 rfl rfl 5 (by decide) (hts _ kf_X5_22) (fun _ h9 => h9) rfl dX5_vault_23 ?_
      refine lv_aload_n hx hb dX5_vault_26 rfl (lv_at hl 0 rfl) ?_
      refine va_get (D := D) (ci := 5) (v := .int (nI (sVc σ))) (C := RX5) (T := TX5) (N := 20) hx hb hts in_X5 hown hK hP 0 rfl rfl 9 (by decide) (hts _ kf_X5_56) (fun _ h9 => h9) rfl dX5_vault_27 ?_
      refine lv_iconst (v := 0) hx hb dX5_vault_30 (by decide) ?_
      refine ar_p hx hb hK hP (hDD _) hS 5 rfl (x := 0) (by omega) (by decide) dX5_vault_31 (fun H locs hP hS => ?_)
      have hP : va_P D vwCl (rW ad cA (σ.1, ((sLim σ), (upd (sSm σ) (sVc σ) 0), (sNx σ), (sLf σ), (sRt σ), (sVc σ)), σ.2.2.1, σ.2.2.2.1, σ.2.2.2.2)) H := hP
      refine lv_aload_n hx hb dX5_vault_32 rfl (lv_at hl 0 rfl) ?_
      refine va_get (D := D) (ci := 5) (v := .ref (ad 6)) (C := RX5) (T := TX5) (N := 20) hx hb hts in_X5 hown hK hP 0 rfl rfl 6 (by decide) (hts _ kf_X5_25) (fun _ h9 => h9) rfl dX5_vault_33 ?_
      refine lv_aload_n hx hb dX5_vault_36 rfl (lv_at hl 0 rfl) ?_
      refine va_get (D := D) (ci := 5) (v := .int (nI (sVc σ))) (C := RX5) (T := TX5) (N := 20) hx hb hts in_X5 hown hK hP 0 rfl rfl 9 (by decide) (hts _ kf_X5_56) (fun _ h9 => h9) rfl dX5_vault_37 ?_
      refine lv_iload_n hx hb dX5_vault_40 rfl (lv_at hl 1 rfl) ?_
      refine ar_p hx hb hK hP (hDD _) hS 6 rfl (x := x) (by omega) (by decide) dX5_vault_41 (fun H locs hP hS => ?_)
      have hP : va_P D vwCl (rW ad cA (σ.1, ((upd (sLim σ) (sVc σ) x), (upd (sSm σ) (sVc σ) 0), (sNx σ), (sLf σ), (sRt σ), (sVc σ)), σ.2.2.1, σ.2.2.2.1, σ.2.2.2.2)) H := hP
      refine lv_aload_n hx hb dX5_vault_42 rfl (lv_at hl 0 rfl) ?_
      refine va_get (D := D) (ci := 5) (v := .ref (ad 7)) (C := RX5) (T := TX5) (N := 20) hx hb hts in_X5 hown hK hP 0 rfl rfl 7 (by decide) (hts _ kf_X5_28) (fun _ h9 => h9) rfl dX5_vault_43 ?_
      refine lv_aload_n hx hb dX5_vault_46 rfl (lv_at hl 0 rfl) ?_
      refine va_get (D := D) (ci := 5) (v := .int (nI (sVc σ))) (C := RX5) (T := TX5) (N := 20) hx hb hts in_X5 hown hK hP 0 rfl rfl 9 (by decide) (hts _ kf_X5_56) (fun _ h9 => h9) rfl dX5_vault_47 ?_
      refine lv_iconst (v := (-1)) hx hb dX5_vault_50 (by decide) ?_
      refine ar_p hx hb hK hP (hDD _) hS 7 rfl (x := (-1)) (by omega) (by decide) dX5_vault_51 (fun H locs hP hS => ?_)
      have hP : va_P D vwCl (rW ad cA (σ.1, ((upd (sLim σ) (sVc σ) x), (upd (sSm σ) (sVc σ) 0), (upd (sNx σ) (sVc σ) (-1)), (sLf σ), (sRt σ), (sVc σ)), σ.2.2.1, σ.2.2.2.1, σ.2.2.2.2)) H := hP
      refine lv_aload_n hx hb dX5_vault_52 rfl (lv_at hl 0 rfl) ?_
      refine va_get (D := D) (ci := 5) (v := .ref (ad 8)) (C := RX5) (T := TX5) (N := 20) hx hb hts in_X5 hown hK hP 0 rfl rfl 8 (by decide) (hts _ kf_X5_31) (fun _ h9 => h9) rfl dX5_vault_53 ?_
      refine lv_iconst (v := 2) hx hb dX5_vault_56 (by decide) ?_
      refine lv_aload_n hx hb dX5_vault_57 rfl (lv_at hl 0 rfl) ?_
      refine va_get (D := D) (ci := 5) (v := .int (nI (sVc σ))) (C := RX5) (T := TX5) (N := 20) hx hb hts in_X5 hown hK hP 0 rfl rfl 9 (by decide) (hts _ kf_X5_56) (fun _ h9 => h9) rfl dX5_vault_58 ?_
      refine lv_imul hx hb dX5_vault_61 ?_
      refine tp_i (z := (nI (2 * (sVc σ)))) (pk_mul 2 _) ?_
      refine lv_iconst (v := (-1)) hx hb dX5_vault_62 (by decide) ?_
      refine ar_p hx hb hK hP (hDD _) hS 8 rfl (x := (-1)) (by omega) (by decide) dX5_vault_63 (fun H locs hP hS => ?_)
      have hP := (mix_u0 (sLf σ) (sRt σ) (sVc σ) (-1)) ▸ hP
      have hP : va_P D vwCl (rW ad cA (σ.1, ((upd (sLim σ) (sVc σ) x), (upd (sSm σ) (sVc σ) 0), (upd (sNx σ) (sVc σ) (-1)), (upd (sLf σ) (sVc σ) (-1)), (sRt σ), (sVc σ)), σ.2.2.1, σ.2.2.2.1, σ.2.2.2.2)) H := hP
      refine lv_aload_n hx hb dX5_vault_64 rfl (lv_at hl 0 rfl) ?_
      refine va_get (D := D) (ci := 5) (v := .ref (ad 8)) (C := RX5) (T := TX5) (N := 20) hx hb hts in_X5 hown hK hP 0 rfl rfl 8 (by decide) (hts _ kf_X5_31) (fun _ h9 => h9) rfl dX5_vault_65 ?_
      refine lv_iconst (v := 2) hx hb dX5_vault_68 (by decide) ?_
      refine lv_aload_n hx hb dX5_vault_69 rfl (lv_at hl 0 rfl) ?_
      refine va_get (D := D) (ci := 5) (v := .int (nI (sVc σ))) (C := RX5) (T := TX5) (N := 20) hx hb hts in_X5 hown hK hP 0 rfl rfl 9 (by decide) (hts _ kf_X5_56) (fun _ h9 => h9) rfl dX5_vault_70 ?_
      refine lv_imul hx hb dX5_vault_73 ?_
      refine tp_i (z := (nI (2 * (sVc σ)))) (pk_mul 2 _) ?_
      refine lv_iconst (v := 1) hx hb dX5_vault_74 (by decide) ?_
      refine lv_iadd hx hb dX5_vault_75 ?_
      refine tp_i (z := (nI ((2 * (sVc σ)) + 1))) (nI_1 _) ?_
      refine lv_iconst (v := (-1)) hx hb dX5_vault_76 (by decide) ?_
      refine ar_p hx hb hK hP (hDD _) hS 8 rfl (x := (-1)) (by omega) (by decide) dX5_vault_77 (fun H locs hP hS => ?_)
      have hP := (mix_u1 (upd (sLf σ) (sVc σ) (-1)) (sRt σ) (sVc σ) (-1)) ▸ hP
      have hP : va_P D vwCl (rW ad cA (σ.1, ((upd (sLim σ) (sVc σ) x), (upd (sSm σ) (sVc σ) 0), (upd (sNx σ) (sVc σ) (-1)), (upd (sLf σ) (sVc σ) (-1)), (upd (sRt σ) (sVc σ) (-1)), (sVc σ)), σ.2.2.1, σ.2.2.2.1, σ.2.2.2.2)) H := hP
      refine lv_aload_n hx hb dX5_vault_78 rfl (lv_at hl 0 rfl) ?_
      refine lv_dup hx hb dX5_vault_79 rfl ?_
      refine va_get (D := D) (ci := 5) (v := .int (nI (sVc σ))) (C := RX5) (T := TX5) (N := 20) hx hb hts in_X5 hown hK hP 0 rfl rfl 9 (by decide) (hts _ kf_X5_56) (fun _ h9 => h9) rfl dX5_vault_80 ?_
      refine lv_iconst (v := 1) hx hb dX5_vault_83 (by decide) ?_
      refine lv_iadd hx hb dX5_vault_84 ?_
      refine tp_i (z := (nI ((sVc σ) + 1))) (nI_1 _) ?_
      refine va_put (D := D) (ci := 5) (v := .int (nI ((sVc σ) + 1))) (ty := .int) (C := RX5) (T := TX5) (N := 20) hx hb hts in_X5 tyX5 tyX5_ok nmX5 hown hK hP (hDD _) hS 0 rfl rfl 9 (by decide) (hts _ kf_X5_56) (fun _ h9 => h9) rfl (by decide +kernel) rfl rfl (Nat.le_of_ble_eq_true rfl) dX5_vault_85 (fun H locs hP _ hS => ?_)
      have hP : va_P D vwCl (rW ad cA (σ.1, ((upd (sLim σ) (sVc σ) x), (upd (sSm σ) (sVc σ) 0), (upd (sNx σ) (sVc σ) (-1)), (upd (sLf σ) (sVc σ) (-1)), (upd (sRt σ) (sVc σ) (-1)), ((sVc σ) + 1)), σ.2.2.1, σ.2.2.2.1, σ.2.2.2.2)) H := hP
      refine lv_aload_n hx hb dX5_vault_88 rfl (lv_at hl 0 rfl) ?_
      refine va_get (D := D) (ci := 5) (v := .int (nI ((sVc σ) + 1))) (C := RX5) (T := TX5) (N := 20) hx hb hts in_X5 hown hK hP 0 rfl rfl 9 (by decide) (hts _ kf_X5_56) (fun _ h9 => h9) rfl dX5_vault_89 ?_
      refine lv_iconst (v := 1) hx hb dX5_vault_92 (by decide) ?_
      refine lv_isub hx hb dX5_vault_93 ?_
      refine tp_i (z := (nI (sVc σ))) (nI_pred _) ?_
      exact rt_i (v := (nI (sVc σ))) (u := (σ.1, ((upd (sLim σ) (sVc σ) x), (upd (sSm σ) (sVc σ) 0), (upd (sNx σ) (sVc σ) (-1)), (upd (sLf σ) (sVc σ) (-1)), (upd (sRt σ) (sVc σ) (-1)), ((sVc σ) + 1)), σ.2.2.1, σ.2.2.2.1, σ.2.2.2.2)) hx hb hr hlocks hS hP (pr2 (by first | (unfold f_vault; rw [if_pos hn, if_neg (fun q => c16 (by rw [q]; rfl))]; done) | (unfold f_vault; rw [if_pos hn, if_neg (fun q => c16 (by rw [q]; rfl))]; rfl))) dX5_vault_94
    · refine lv_bipush (v := (-3)) hx hb dX5_vault_19 (by decide) ?_
      exact rt_i (v := (-3)) (u := σ) hx hb hr hlocks hS hP (pr2 (by first | (unfold f_vault; rw [if_pos hn, if_pos (nI_inj (b := 12) (by omega) (by decide) c16)]; done) | (unfold f_vault; rw [if_pos hn, if_pos (nI_inj (b := 12) (by omega) (by decide) c16)]; rfl))) dX5_vault_21
  · skip
    refine lv_iload_n hx hb dX5_vault_0 rfl (lv_at hl 1 rfl) ?_
    refine cl_s (rest := []) (c_X5_isAmount l D cA ad A hDD σ x ) ⟨hx, hb, hml, hown, hts⟩ hK hP hS kv_X5_63 ⟨Nat.le_of_ble_eq_true rfl, Nat.le_of_ble_eq_true rfl⟩ ⟨Nat.zero_le _, Nat.zero_le _⟩ rfl hl.1 rfl (Nat.le_of_ble_eq_true rfl) (fun q h => h) dX5_vault_1 (fun r u H locs hw hP hS => ?_)
    rw [hw.2] at hP
    refine tp_i (z := (bz (amt x))) hw.1 ?_
    refine tp_i (z := 0) (bz_0 hn) ?_
    refine lv_if_ne (tgt := 10) hx hb dX5_vault_4 (by decide) (fun c9 => absurd (by decide) c9) (fun _ => ?_)
    refine lv_bipush (v := (-2)) hx hb dX5_vault_7 (by decide) ?_
    exact rt_i (v := (-2)) (u := σ) hx hb hr hlocks hS hP (pr2 (if_neg hn)) dX5_vault_9
set_option maxHeartbeats 4000000 in
set_option maxRecDepth 100000 in
theorem c_X5_hang (l : Launch) (D : va_G) (cA : ClassId) (ad : Nat → Nat) (A : Nat → Prop) (hDD : ∀ u, va_D A (rW ad cA u)) (σ : CS) (v h k : Int32) (hI : Inv σ) (hg : sGr σ = 0) (hb9 : sBc σ ≤ 1000000000) : Ct l D cA (rW ad cA) A yX5_hang cX5_hang 5 (some .int) 1 21 [.ref (ad 0), .int v, .int h, .int k] σ (fun r u => r = (f_hang σ v h k).1 ∧ u = (f_hang σ v h k).2) := by
  refine Ct.of (by decide) (Nat.le_of_ble_eq_true rfl) ?_
  intro p e s m below meth c ls S0 hr hlocks hK hP hS hl
  obtain ⟨hx, hb, hml, hown, hts⟩ := id S0
  have hl : lv_has ls 5 [(0, .ref (ad 0)), (1, .int v), (2, .int h), (3, .int k)] := hl
  have hkc := hI.kc
  have hvc := hI.vc
  have hgc := hI.gr
  have htc := hI.tc
  rcases ix_cases (n := sVc σ) v (by omega) with h0 | ⟨j, hj, rfl⟩
  · refine lv_aload_n hx hb dX5_hang_0 rfl (lv_at hl 0 rfl) ?_
    refine lv_iload_n hx hb dX5_hang_1 rfl (lv_at hl 1 rfl) ?_
    refine cl_i (rest := []) (c_X5_isVault l D cA ad A hDD σ v ) ⟨hx, hb, hml, hown, hts⟩ hK hP hS kv_X5_67 ⟨Nat.le_of_ble_eq_true rfl, Nat.le_of_ble_eq_true rfl⟩ ⟨Nat.zero_le _, Nat.zero_le _⟩ 0 rfl rfl rfl hl.1 rfl (Nat.le_of_ble_eq_true rfl) (fun q h => h) dX5_hang_2 (fun r u H locs hw hP hS _ => ?_)
    rw [hw.2] at hP
    refine tp_i (z := (hz (sVc σ) v)) hw.1 ?_
    refine tp_i (z := 0) (hz_0 h0) ?_
    refine lv_if_eq (tgt := 28) hx hb dX5_hang_5 (by decide) (fun _ => ?_) (fun c9 => absurd (by decide) c9)
    refine lv_bipush (v := (-2)) hx hb dX5_hang_28 (by decide) ?_
    exact rt_i (v := (-2)) (u := σ) hx hb hr hlocks hS hP (pr2 (hang_b1 h0)) dX5_hang_30
  · have h0 := ix_nI hj (n := sVc σ) (by omega)
    refine lv_aload_n hx hb dX5_hang_0 rfl (lv_at hl 0 rfl) ?_
    refine lv_iload_n hx hb dX5_hang_1 rfl (lv_at hl 1 rfl) ?_
    refine cl_i (rest := []) (c_X5_isVault l D cA ad A hDD σ (nI j) ) ⟨hx, hb, hml, hown, hts⟩ hK hP hS kv_X5_67 ⟨Nat.le_of_ble_eq_true rfl, Nat.le_of_ble_eq_true rfl⟩ ⟨Nat.zero_le _, Nat.zero_le _⟩ 0 rfl rfl rfl hl.1 rfl (Nat.le_of_ble_eq_true rfl) (fun q h => h) dX5_hang_2 (fun r u H locs hw hP hS _ => ?_)
    rw [hw.2] at hP
    refine tp_i (z := (hz (sVc σ) (nI j))) hw.1 ?_
    refine tp_i (z := 1) (hz_1 h0) ?_
    refine lv_if_eq (tgt := 28) hx hb dX5_hang_5 (by decide) (fun c9 => absurd c9 (by decide)) (fun _ => ?_)
    by_cases hh : okh h
    · skip
      refine lv_iload_n hx hb dX5_hang_8 rfl (lv_at hl 2 rfl) ?_
      refine cl_s (rest := []) (c_X5_isHand l D cA ad A hDD σ h ) ⟨hx, hb, hml, hown, hts⟩ hK hP hS kv_X5_70 ⟨Nat.le_of_ble_eq_true rfl, Nat.le_of_ble_eq_true rfl⟩ ⟨Nat.zero_le _, Nat.zero_le _⟩ rfl hl.1 rfl (Nat.le_of_ble_eq_true rfl) (fun q h => h) dX5_hang_9 (fun r u H locs hw hP hS => ?_)
      rw [hw.2] at hP
      refine tp_i (z := (bz (okh h))) hw.1 ?_
      refine tp_i (z := 1) (bz_1 hh) ?_
      refine lv_if_eq (tgt := 28) hx hb dX5_hang_12 (by decide) (fun c9 => absurd c9 (by decide)) (fun _ => ?_)
      refine lv_iload_n hx hb dX5_hang_15 rfl (lv_at hl 3 rfl) ?_
      refine lv_iconst (v := (-1)) hx hb dX5_hang_16 (by decide) ?_
      refine lv_icmp_eq (tgt := 31) hx hb dX5_hang_17 (by decide) (fun c17 => ?_) (fun c17 => ?_)
      · rcases hh with rfl | rfl
        · skip
          refine lv_aload_n hx hb dX5_hang_31 rfl (lv_at hl 0 rfl) ?_
          refine va_get (D := D) (ci := 5) (v := .ref (ad 8)) (C := RX5) (T := TX5) (N := 20) hx hb hts in_X5 hown hK hP 0 rfl rfl 8 (by decide) (hts _ kf_X5_31) (fun _ h9 => h9) rfl dX5_hang_32 ?_
          refine lv_iconst (v := 2) hx hb dX5_hang_35 (by decide) ?_
          refine lv_iload_n hx hb dX5_hang_36 rfl (lv_at hl 1 rfl) ?_
          refine lv_imul hx hb dX5_hang_37 ?_
          refine tp_i (z := (nI (2 * j))) (pk_mul 2 _) ?_
          refine lv_iload_n hx hb dX5_hang_38 rfl (lv_at hl 2 rfl) ?_
          refine lv_iadd hx hb dX5_hang_39 ?_
          refine tp_i (z := (nI (2 * j))) (Int32.add_zero _) ?_
          refine ar_g hx hb hK hP 8 rfl (by omega) (by decide) dX5_hang_40 ?_
          refine tp_i (z := (sLf σ j)) (mix_0 _ _ _) ?_
          refine lv_istore (lv' := [(4, .int (sLf σ j)), (0, .ref (ad 0)), (1, .int (nI j)), (2, .int 0), (3, .int k)]) hx hb dX5_hang_41 hl (by decide) rfl (fun ls hl => ?_)
          refine lv_aload_n hx hb dX5_hang_43 rfl (lv_at hl 1 rfl) ?_
          refine va_get (D := D) (ci := 5) (v := .ref (ad 8)) (C := RX5) (T := TX5) (N := 20) hx hb hts in_X5 hown hK hP 0 rfl rfl 8 (by decide) (hts _ kf_X5_31) (fun _ h9 => h9) rfl dX5_hang_44 ?_
          refine lv_iconst (v := 2) hx hb dX5_hang_47 (by decide) ?_
          refine lv_iload_n hx hb dX5_hang_48 rfl (lv_at hl 2 rfl) ?_
          refine lv_imul hx hb dX5_hang_49 ?_
          refine tp_i (z := (nI (2 * j))) (pk_mul 2 _) ?_
          refine lv_iload_n hx hb dX5_hang_50 rfl (lv_at hl 3 rfl) ?_
          refine lv_iadd hx hb dX5_hang_51 ?_
          refine tp_i (z := (nI (2 * j))) (Int32.add_zero _) ?_
          refine lv_iload_n hx hb dX5_hang_52 rfl (lv_at hl 4 rfl) ?_
          refine ar_p hx hb hK hP (hDD _) hS 8 rfl (x := k) (by omega) (by decide) dX5_hang_53 (fun H locs hP hS => ?_)
          have hP := (mix_u0 (sLf σ) (sRt σ) j k) ▸ hP
          have hP : va_P D vwCl (rW ad cA (σ.1, ((sLim σ), (sSm σ), (sNx σ), (upd (sLf σ) j k), (sRt σ), (sVc σ)), σ.2.2.1, σ.2.2.2.1, σ.2.2.2.2)) H := hP
          refine lv_iload hx hb dX5_hang_54 (lv_at hl 0 rfl) ?_
          exact rt_i (v := (sLf σ j)) (u := (σ.1, ((sLim σ), (sSm σ), (sNx σ), (upd (sLf σ) j k), (sRt σ), (sVc σ)), σ.2.2.1, σ.2.2.2.1, σ.2.2.2.2)) hx hb hr hlocks hS hP ((by rw [hang_ok h0 (Or.inl rfl) (Or.inl c17)]; exact ⟨(hd_0 _ _).symm, by show _ = shk σ j 0 _; unfold shk; rw [if_pos rfl]⟩)) dX5_hang_56
        · skip
          refine lv_aload_n hx hb dX5_hang_31 rfl (lv_at hl 0 rfl) ?_
          refine va_get (D := D) (ci := 5) (v := .ref (ad 8)) (C := RX5) (T := TX5) (N := 20) hx hb hts in_X5 hown hK hP 0 rfl rfl 8 (by decide) (hts _ kf_X5_31) (fun _ h9 => h9) rfl dX5_hang_32 ?_
          refine lv_iconst (v := 2) hx hb dX5_hang_35 (by decide) ?_
          refine lv_iload_n hx hb dX5_hang_36 rfl (lv_at hl 1 rfl) ?_
          refine lv_imul hx hb dX5_hang_37 ?_
          refine tp_i (z := (nI (2 * j))) (pk_mul 2 _) ?_
          refine lv_iload_n hx hb dX5_hang_38 rfl (lv_at hl 2 rfl) ?_
          refine lv_iadd hx hb dX5_hang_39 ?_
          refine tp_i (z := (nI ((2 * j) + 1))) (nI_1 _) ?_
          refine ar_g hx hb hK hP 8 rfl (by omega) (by decide) dX5_hang_40 ?_
          refine tp_i (z := (sRt σ j)) (mix_1 _ _ _) ?_
          refine lv_istore (lv' := [(4, .int (sRt σ j)), (0, .ref (ad 0)), (1, .int (nI j)), (2, .int 1), (3, .int k)]) hx hb dX5_hang_41 hl (by decide) rfl (fun ls hl => ?_)
          refine lv_aload_n hx hb dX5_hang_43 rfl (lv_at hl 1 rfl) ?_
          refine va_get (D := D) (ci := 5) (v := .ref (ad 8)) (C := RX5) (T := TX5) (N := 20) hx hb hts in_X5 hown hK hP 0 rfl rfl 8 (by decide) (hts _ kf_X5_31) (fun _ h9 => h9) rfl dX5_hang_44 ?_
          refine lv_iconst (v := 2) hx hb dX5_hang_47 (by decide) ?_
          refine lv_iload_n hx hb dX5_hang_48 rfl (lv_at hl 2 rfl) ?_
          refine lv_imul hx hb dX5_hang_49 ?_
          refine tp_i (z := (nI (2 * j))) (pk_mul 2 _) ?_
          refine lv_iload_n hx hb dX5_hang_50 rfl (lv_at hl 3 rfl) ?_
          refine lv_iadd hx hb dX5_hang_51 ?_
          refine tp_i (z := (nI ((2 * j) + 1))) (nI_1 _) ?_
          refine lv_iload_n hx hb dX5_hang_52 rfl (lv_at hl 4 rfl) ?_
          refine ar_p hx hb hK hP (hDD _) hS 8 rfl (x := k) (by omega) (by decide) dX5_hang_53 (fun H locs hP hS => ?_)
          have hP := (mix_u1 (sLf σ) (sRt σ) j k) ▸ hP
          have hP : va_P D vwCl (rW ad cA (σ.1, ((sLim σ), (sSm σ), (sNx σ), (sLf σ), (upd (sRt σ) j k), (sVc σ)), σ.2.2.1, σ.2.2.2.1, σ.2.2.2.2)) H := hP
          refine lv_iload hx hb dX5_hang_54 (lv_at hl 0 rfl) ?_
          exact rt_i (v := (sRt σ j)) (u := (σ.1, ((sLim σ), (sSm σ), (sNx σ), (sLf σ), (upd (sRt σ) j k), (sVc σ)), σ.2.2.1, σ.2.2.2.1, σ.2.2.2.2)) hx hb hr hlocks hS hP ((by rw [hang_ok h0 (Or.inr rfl) (Or.inl c17)]; exact ⟨(hd_1 _ _).symm, by show _ = shk σ j 1 _; unfold shk; rw [if_neg (by decide)]⟩)) dX5_hang_56
      · rcases ix_cases (n := sKc σ) k (by omega) with hq | ⟨i, hi, rfl⟩
        · refine lv_aload_n hx hb dX5_hang_20 rfl (lv_at hl 0 rfl) ?_
          refine lv_iload_n hx hb dX5_hang_21 rfl (lv_at hl 3 rfl) ?_
          refine cl_i (rest := []) (c_X5_isKey l D cA ad A hDD σ k ) ⟨hx, hb, hml, hown, hts⟩ hK hP hS kv_X5_73 ⟨Nat.le_of_ble_eq_true rfl, Nat.le_of_ble_eq_true rfl⟩ ⟨Nat.zero_le _, Nat.zero_le _⟩ 0 rfl rfl rfl hl.1 rfl (Nat.le_of_ble_eq_true rfl) (fun q h => h) dX5_hang_22 (fun r u H locs hw hP hS _ => ?_)
          rw [hw.2] at hP
          refine tp_i (z := (hz (sKc σ) k)) hw.1 ?_
          refine tp_i (z := 0) (hz_0 hq) ?_
          refine lv_if_ne (tgt := 31) hx hb dX5_hang_25 (by decide) (fun c9 => absurd (by decide) c9) (fun _ => ?_)
          refine lv_bipush (v := (-2)) hx hb dX5_hang_28 (by decide) ?_
          exact rt_i (v := (-2)) (u := σ) hx hb hr hlocks hS hP (pr2 (hang_b2 h0 (fun q => q.2.elim c17 (ix_none_s hq)))) dX5_hang_30
        · have hq := ix_nI hi (n := sKc σ) (by omega)
          refine lv_aload_n hx hb dX5_hang_20 rfl (lv_at hl 0 rfl) ?_
          refine lv_iload_n hx hb dX5_hang_21 rfl (lv_at hl 3 rfl) ?_
          refine cl_i (rest := []) (c_X5_isKey l D cA ad A hDD σ (nI i) ) ⟨hx, hb, hml, hown, hts⟩ hK hP hS kv_X5_73 ⟨Nat.le_of_ble_eq_true rfl, Nat.le_of_ble_eq_true rfl⟩ ⟨Nat.zero_le _, Nat.zero_le _⟩ 0 rfl rfl rfl hl.1 rfl (Nat.le_of_ble_eq_true rfl) (fun q h => h) dX5_hang_22 (fun r u H locs hw hP hS _ => ?_)
          rw [hw.2] at hP
          refine tp_i (z := (hz (sKc σ) (nI i))) hw.1 ?_
          refine tp_i (z := 1) (hz_1 hq) ?_
          refine lv_if_ne (tgt := 31) hx hb dX5_hang_25 (by decide) (fun _ => ?_) (fun c9 => absurd c9 (by decide))
          rcases hh with rfl | rfl
          · skip
            refine lv_aload_n hx hb dX5_hang_31 rfl (lv_at hl 0 rfl) ?_
            refine va_get (D := D) (ci := 5) (v := .ref (ad 8)) (C := RX5) (T := TX5) (N := 20) hx hb hts in_X5 hown hK hP 0 rfl rfl 8 (by decide) (hts _ kf_X5_31) (fun _ h9 => h9) rfl dX5_hang_32 ?_
            refine lv_iconst (v := 2) hx hb dX5_hang_35 (by decide) ?_
            refine lv_iload_n hx hb dX5_hang_36 rfl (lv_at hl 1 rfl) ?_
            refine lv_imul hx hb dX5_hang_37 ?_
            refine tp_i (z := (nI (2 * j))) (pk_mul 2 _) ?_
            refine lv_iload_n hx hb dX5_hang_38 rfl (lv_at hl 2 rfl) ?_
            refine lv_iadd hx hb dX5_hang_39 ?_
            refine tp_i (z := (nI (2 * j))) (Int32.add_zero _) ?_
            refine ar_g hx hb hK hP 8 rfl (by omega) (by decide) dX5_hang_40 ?_
            refine tp_i (z := (sLf σ j)) (mix_0 _ _ _) ?_
            refine lv_istore (lv' := [(4, .int (sLf σ j)), (0, .ref (ad 0)), (1, .int (nI j)), (2, .int 0), (3, .int (nI i))]) hx hb dX5_hang_41 hl (by decide) rfl (fun ls hl => ?_)
            refine lv_aload_n hx hb dX5_hang_43 rfl (lv_at hl 1 rfl) ?_
            refine va_get (D := D) (ci := 5) (v := .ref (ad 8)) (C := RX5) (T := TX5) (N := 20) hx hb hts in_X5 hown hK hP 0 rfl rfl 8 (by decide) (hts _ kf_X5_31) (fun _ h9 => h9) rfl dX5_hang_44 ?_
            refine lv_iconst (v := 2) hx hb dX5_hang_47 (by decide) ?_
            refine lv_iload_n hx hb dX5_hang_48 rfl (lv_at hl 2 rfl) ?_
            refine lv_imul hx hb dX5_hang_49 ?_
            refine tp_i (z := (nI (2 * j))) (pk_mul 2 _) ?_
            refine lv_iload_n hx hb dX5_hang_50 rfl (lv_at hl 3 rfl) ?_
            refine lv_iadd hx hb dX5_hang_51 ?_
            refine tp_i (z := (nI (2 * j))) (Int32.add_zero _) ?_
            refine lv_iload_n hx hb dX5_hang_52 rfl (lv_at hl 4 rfl) ?_
            refine ar_p hx hb hK hP (hDD _) hS 8 rfl (x := (nI i)) (by omega) (by decide) dX5_hang_53 (fun H locs hP hS => ?_)
            have hP := (mix_u0 (sLf σ) (sRt σ) j (nI i)) ▸ hP
            have hP : va_P D vwCl (rW ad cA (σ.1, ((sLim σ), (sSm σ), (sNx σ), (upd (sLf σ) j (nI i)), (sRt σ), (sVc σ)), σ.2.2.1, σ.2.2.2.1, σ.2.2.2.2)) H := hP
            refine lv_iload hx hb dX5_hang_54 (lv_at hl 0 rfl) ?_
            exact rt_i (v := (sLf σ j)) (u := (σ.1, ((sLim σ), (sSm σ), (sNx σ), (upd (sLf σ) j (nI i)), (sRt σ), (sVc σ)), σ.2.2.1, σ.2.2.2.1, σ.2.2.2.2)) hx hb hr hlocks hS hP ((by rw [hang_ok h0 (Or.inl rfl) (Or.inr (ix_some_s hq))]; exact ⟨(hd_0 _ _).symm, by show _ = shk σ j 0 _; unfold shk; rw [if_pos rfl]⟩)) dX5_hang_56
          · skip
            refine lv_aload_n hx hb dX5_hang_31 rfl (lv_at hl 0 rfl) ?_
            refine va_get (D := D) (ci := 5) (v := .ref (ad 8)) (C := RX5) (T := TX5) (N := 20) hx hb hts in_X5 hown hK hP 0 rfl rfl 8 (by decide) (hts _ kf_X5_31) (fun _ h9 => h9) rfl dX5_hang_32 ?_
            refine lv_iconst (v := 2) hx hb dX5_hang_35 (by decide) ?_
            refine lv_iload_n hx hb dX5_hang_36 rfl (lv_at hl 1 rfl) ?_
            refine lv_imul hx hb dX5_hang_37 ?_
            refine tp_i (z := (nI (2 * j))) (pk_mul 2 _) ?_
            refine lv_iload_n hx hb dX5_hang_38 rfl (lv_at hl 2 rfl) ?_
            refine lv_iadd hx hb dX5_hang_39 ?_
            refine tp_i (z := (nI ((2 * j) + 1))) (nI_1 _) ?_
            refine ar_g hx hb hK hP 8 rfl (by omega) (by decide) dX5_hang_40 ?_
            refine tp_i (z := (sRt σ j)) (mix_1 _ _ _) ?_
            refine lv_istore (lv' := [(4, .int (sRt σ j)), (0, .ref (ad 0)), (1, .int (nI j)), (2, .int 1), (3, .int (nI i))]) hx hb dX5_hang_41 hl (by decide) rfl (fun ls hl => ?_)
            refine lv_aload_n hx hb dX5_hang_43 rfl (lv_at hl 1 rfl) ?_
            refine va_get (D := D) (ci := 5) (v := .ref (ad 8)) (C := RX5) (T := TX5) (N := 20) hx hb hts in_X5 hown hK hP 0 rfl rfl 8 (by decide) (hts _ kf_X5_31) (fun _ h9 => h9) rfl dX5_hang_44 ?_
            refine lv_iconst (v := 2) hx hb dX5_hang_47 (by decide) ?_
            refine lv_iload_n hx hb dX5_hang_48 rfl (lv_at hl 2 rfl) ?_
            refine lv_imul hx hb dX5_hang_49 ?_
            refine tp_i (z := (nI (2 * j))) (pk_mul 2 _) ?_
            refine lv_iload_n hx hb dX5_hang_50 rfl (lv_at hl 3 rfl) ?_
            refine lv_iadd hx hb dX5_hang_51 ?_
            refine tp_i (z := (nI ((2 * j) + 1))) (nI_1 _) ?_
            refine lv_iload_n hx hb dX5_hang_52 rfl (lv_at hl 4 rfl) ?_
            refine ar_p hx hb hK hP (hDD _) hS 8 rfl (x := (nI i)) (by omega) (by decide) dX5_hang_53 (fun H locs hP hS => ?_)
            have hP := (mix_u1 (sLf σ) (sRt σ) j (nI i)) ▸ hP
            have hP : va_P D vwCl (rW ad cA (σ.1, ((sLim σ), (sSm σ), (sNx σ), (sLf σ), (upd (sRt σ) j (nI i)), (sVc σ)), σ.2.2.1, σ.2.2.2.1, σ.2.2.2.2)) H := hP
            refine lv_iload hx hb dX5_hang_54 (lv_at hl 0 rfl) ?_
            exact rt_i (v := (sRt σ j)) (u := (σ.1, ((sLim σ), (sSm σ), (sNx σ), (sLf σ), (upd (sRt σ) j (nI i)), (sVc σ)), σ.2.2.1, σ.2.2.2.1, σ.2.2.2.2)) hx hb hr hlocks hS hP ((by rw [hang_ok h0 (Or.inr rfl) (Or.inr (ix_some_s hq))]; exact ⟨(hd_1 _ _).symm, by show _ = shk σ j 1 _; unfold shk; rw [if_neg (by decide)]⟩)) dX5_hang_56
    · skip
      refine lv_iload_n hx hb dX5_hang_8 rfl (lv_at hl 2 rfl) ?_
      refine cl_s (rest := []) (c_X5_isHand l D cA ad A hDD σ h ) ⟨hx, hb, hml, hown, hts⟩ hK hP hS kv_X5_70 ⟨Nat.le_of_ble_eq_true rfl, Nat.le_of_ble_eq_true rfl⟩ ⟨Nat.zero_le _, Nat.zero_le _⟩ rfl hl.1 rfl (Nat.le_of_ble_eq_true rfl) (fun q h => h) dX5_hang_9 (fun r u H locs hw hP hS => ?_)
      rw [hw.2] at hP
      refine tp_i (z := (bz (okh h))) hw.1 ?_
      refine tp_i (z := 0) (bz_0 hh) ?_
      refine lv_if_eq (tgt := 28) hx hb dX5_hang_12 (by decide) (fun _ => ?_) (fun c9 => absurd (by decide) c9)
      refine lv_bipush (v := (-2)) hx hb dX5_hang_28 (by decide) ?_
      exact rt_i (v := (-2)) (u := σ) hx hb hr hlocks hS hP (pr2 (hang_b2 h0 (fun q => hh q.1))) dX5_hang_30
set_option maxHeartbeats 4000000 in
set_option maxRecDepth 100000 in
theorem c_X5_link (l : Launch) (D : va_G) (cA : ClassId) (ad : Nat → Nat) (A : Nat → Prop) (hDD : ∀ u, va_D A (rW ad cA u)) (σ : CS) (v w : Int32) (hI : Inv σ) (hg : sGr σ = 0) (hb9 : sBc σ ≤ 1000000000) : Ct l D cA (rW ad cA) A yX5_link cX5_link 4 (some .int) 1 21 [.ref (ad 0), .int v, .int w] σ (fun r u => r = (f_link σ v w).1 ∧ u = (f_link σ v w).2) := by
  refine Ct.of (by decide) (Nat.le_of_ble_eq_true rfl) ?_
  intro p e s m below meth c ls S0 hr hlocks hK hP hS hl
  obtain ⟨hx, hb, hml, hown, hts⟩ := id S0
  have hl : lv_has ls 4 [(0, .ref (ad 0)), (1, .int v), (2, .int w)] := hl
  have hkc := hI.kc
  have hvc := hI.vc
  have hgc := hI.gr
  have htc := hI.tc
  rcases ix_cases (n := sVc σ) v (by omega) with h0 | ⟨j, hj, rfl⟩
  · refine lv_aload_n hx hb dX5_link_0 rfl (lv_at hl 0 rfl) ?_
    refine lv_iload_n hx hb dX5_link_1 rfl (lv_at hl 1 rfl) ?_
    refine cl_i (rest := []) (c_X5_isVault l D cA ad A hDD σ v ) ⟨hx, hb, hml, hown, hts⟩ hK hP hS kv_X5_67 ⟨Nat.le_of_ble_eq_true rfl, Nat.le_of_ble_eq_true rfl⟩ ⟨Nat.zero_le _, Nat.zero_le _⟩ 0 rfl rfl rfl hl.1 rfl (Nat.le_of_ble_eq_true rfl) (fun q h => h) dX5_link_2 (fun r u H locs hw hP hS _ => ?_)
    rw [hw.2] at hP
    refine tp_i (z := (hz (sVc σ) v)) hw.1 ?_
    refine tp_i (z := 0) (hz_0 h0) ?_
    refine lv_if_eq (tgt := 21) hx hb dX5_link_5 (by decide) (fun _ => ?_) (fun c9 => absurd (by decide) c9)
    refine lv_bipush (v := (-2)) hx hb dX5_link_21 (by decide) ?_
    exact rt_i (v := (-2)) (u := σ) hx hb hr hlocks hS hP (pr2 (link_b1 h0)) dX5_link_23
  · have h0 := ix_nI hj (n := sVc σ) (by omega)
    refine lv_aload_n hx hb dX5_link_0 rfl (lv_at hl 0 rfl) ?_
    refine lv_iload_n hx hb dX5_link_1 rfl (lv_at hl 1 rfl) ?_
    refine cl_i (rest := []) (c_X5_isVault l D cA ad A hDD σ (nI j) ) ⟨hx, hb, hml, hown, hts⟩ hK hP hS kv_X5_67 ⟨Nat.le_of_ble_eq_true rfl, Nat.le_of_ble_eq_true rfl⟩ ⟨Nat.zero_le _, Nat.zero_le _⟩ 0 rfl rfl rfl hl.1 rfl (Nat.le_of_ble_eq_true rfl) (fun q h => h) dX5_link_2 (fun r u H locs hw hP hS _ => ?_)
    rw [hw.2] at hP
    refine tp_i (z := (hz (sVc σ) (nI j))) hw.1 ?_
    refine tp_i (z := 1) (hz_1 h0) ?_
    refine lv_if_eq (tgt := 21) hx hb dX5_link_5 (by decide) (fun c9 => absurd c9 (by decide)) (fun _ => ?_)
    refine lv_iload_n hx hb dX5_link_8 rfl (lv_at hl 2 rfl) ?_
    refine lv_iconst (v := (-1)) hx hb dX5_link_9 (by decide) ?_
    refine lv_icmp_eq (tgt := 24) hx hb dX5_link_10 (by decide) (fun c10 => ?_) (fun c10 => ?_)
    · refine lv_aload_n hx hb dX5_link_24 rfl (lv_at hl 0 rfl) ?_
      refine va_get (D := D) (ci := 5) (v := .ref (ad 7)) (C := RX5) (T := TX5) (N := 20) hx hb hts in_X5 hown hK hP 0 rfl rfl 7 (by decide) (hts _ kf_X5_28) (fun _ h9 => h9) rfl dX5_link_25 ?_
      refine lv_iload_n hx hb dX5_link_28 rfl (lv_at hl 1 rfl) ?_
      refine ar_g hx hb hK hP 7 rfl (by omega) (by decide) dX5_link_29 ?_
      refine lv_istore_n (lv' := [(3, .int (sNx σ j)), (0, .ref (ad 0)), (1, .int (nI j)), (2, .int w)]) hx hb dX5_link_30 rfl hl (by decide) rfl (fun ls hl => ?_)
      refine lv_aload_n hx hb dX5_link_31 rfl (lv_at hl 1 rfl) ?_
      refine va_get (D := D) (ci := 5) (v := .ref (ad 7)) (C := RX5) (T := TX5) (N := 20) hx hb hts in_X5 hown hK hP 0 rfl rfl 7 (by decide) (hts _ kf_X5_28) (fun _ h9 => h9) rfl dX5_link_32 ?_
      refine lv_iload_n hx hb dX5_link_35 rfl (lv_at hl 2 rfl) ?_
      refine lv_iload_n hx hb dX5_link_36 rfl (lv_at hl 3 rfl) ?_
      refine ar_p hx hb hK hP (hDD _) hS 7 rfl (x := w) (by omega) (by decide) dX5_link_37 (fun H locs hP hS => ?_)
      have hP : va_P D vwCl (rW ad cA (σ.1, ((sLim σ), (sSm σ), (upd (sNx σ) j w), (sLf σ), (sRt σ), (sVc σ)), σ.2.2.1, σ.2.2.2.1, σ.2.2.2.2)) H := hP
      refine lv_iload_n hx hb dX5_link_38 rfl (lv_at hl 0 rfl) ?_
      exact rt_i (v := (sNx σ j)) (u := (σ.1, ((sLim σ), (sSm σ), (upd (sNx σ) j w), (sLf σ), (sRt σ), (sVc σ)), σ.2.2.1, σ.2.2.2.1, σ.2.2.2.2)) hx hb hr hlocks hS hP (pr2 (link_ok h0 (Or.inl c10))) dX5_link_39
    · rcases ix_cases (n := sVc σ) w (by omega) with hq | ⟨i, hi, rfl⟩
      · refine lv_aload_n hx hb dX5_link_13 rfl (lv_at hl 0 rfl) ?_
        refine lv_iload_n hx hb dX5_link_14 rfl (lv_at hl 2 rfl) ?_
        refine cl_i (rest := []) (c_X5_isVault l D cA ad A hDD σ w ) ⟨hx, hb, hml, hown, hts⟩ hK hP hS kv_X5_67 ⟨Nat.le_of_ble_eq_true rfl, Nat.le_of_ble_eq_true rfl⟩ ⟨Nat.zero_le _, Nat.zero_le _⟩ 0 rfl rfl rfl hl.1 rfl (Nat.le_of_ble_eq_true rfl) (fun q h => h) dX5_link_15 (fun r u H locs hw hP hS _ => ?_)
        rw [hw.2] at hP
        refine tp_i (z := (hz (sVc σ) w)) hw.1 ?_
        refine tp_i (z := 0) (hz_0 hq) ?_
        refine lv_if_ne (tgt := 24) hx hb dX5_link_18 (by decide) (fun c9 => absurd (by decide) c9) (fun _ => ?_)
        refine lv_bipush (v := (-2)) hx hb dX5_link_21 (by decide) ?_
        exact rt_i (v := (-2)) (u := σ) hx hb hr hlocks hS hP (pr2 (link_b2 h0 (fun q => q.elim c10 (ix_none_s hq)))) dX5_link_23
      · have hq := ix_nI hi (n := sVc σ) (by omega)
        refine lv_aload_n hx hb dX5_link_13 rfl (lv_at hl 0 rfl) ?_
        refine lv_iload_n hx hb dX5_link_14 rfl (lv_at hl 2 rfl) ?_
        refine cl_i (rest := []) (c_X5_isVault l D cA ad A hDD σ (nI i) ) ⟨hx, hb, hml, hown, hts⟩ hK hP hS kv_X5_67 ⟨Nat.le_of_ble_eq_true rfl, Nat.le_of_ble_eq_true rfl⟩ ⟨Nat.zero_le _, Nat.zero_le _⟩ 0 rfl rfl rfl hl.1 rfl (Nat.le_of_ble_eq_true rfl) (fun q h => h) dX5_link_15 (fun r u H locs hw hP hS _ => ?_)
        rw [hw.2] at hP
        refine tp_i (z := (hz (sVc σ) (nI i))) hw.1 ?_
        refine tp_i (z := 1) (hz_1 hq) ?_
        refine lv_if_ne (tgt := 24) hx hb dX5_link_18 (by decide) (fun _ => ?_) (fun c9 => absurd c9 (by decide))
        refine lv_aload_n hx hb dX5_link_24 rfl (lv_at hl 0 rfl) ?_
        refine va_get (D := D) (ci := 5) (v := .ref (ad 7)) (C := RX5) (T := TX5) (N := 20) hx hb hts in_X5 hown hK hP 0 rfl rfl 7 (by decide) (hts _ kf_X5_28) (fun _ h9 => h9) rfl dX5_link_25 ?_
        refine lv_iload_n hx hb dX5_link_28 rfl (lv_at hl 1 rfl) ?_
        refine ar_g hx hb hK hP 7 rfl (by omega) (by decide) dX5_link_29 ?_
        refine lv_istore_n (lv' := [(3, .int (sNx σ j)), (0, .ref (ad 0)), (1, .int (nI j)), (2, .int (nI i))]) hx hb dX5_link_30 rfl hl (by decide) rfl (fun ls hl => ?_)
        refine lv_aload_n hx hb dX5_link_31 rfl (lv_at hl 1 rfl) ?_
        refine va_get (D := D) (ci := 5) (v := .ref (ad 7)) (C := RX5) (T := TX5) (N := 20) hx hb hts in_X5 hown hK hP 0 rfl rfl 7 (by decide) (hts _ kf_X5_28) (fun _ h9 => h9) rfl dX5_link_32 ?_
        refine lv_iload_n hx hb dX5_link_35 rfl (lv_at hl 2 rfl) ?_
        refine lv_iload_n hx hb dX5_link_36 rfl (lv_at hl 3 rfl) ?_
        refine ar_p hx hb hK hP (hDD _) hS 7 rfl (x := (nI i)) (by omega) (by decide) dX5_link_37 (fun H locs hP hS => ?_)
        have hP : va_P D vwCl (rW ad cA (σ.1, ((sLim σ), (sSm σ), (upd (sNx σ) j (nI i)), (sLf σ), (sRt σ), (sVc σ)), σ.2.2.1, σ.2.2.2.1, σ.2.2.2.2)) H := hP
        refine lv_iload_n hx hb dX5_link_38 rfl (lv_at hl 0 rfl) ?_
        exact rt_i (v := (sNx σ j)) (u := (σ.1, ((sLim σ), (sSm σ), (upd (sNx σ) j (nI i)), (sLf σ), (sRt σ), (sVc σ)), σ.2.2.1, σ.2.2.2.1, σ.2.2.2.2)) hx hb hr hlocks hS hP (pr2 (link_ok h0 (Or.inr (ix_some_s hq)))) dX5_link_39
set_option maxHeartbeats 4000000 in
set_option maxRecDepth 100000 in
theorem c_X5_put (l : Launch) (D : va_G) (cA : ClassId) (ad : Nat → Nat) (A : Nat → Prop) (hDD : ∀ u, va_D A (rW ad cA u)) (σ : CS) (v n : Int32) (hI : Inv σ) (hg : sGr σ = 0) (hb9 : sBc σ ≤ 1000000000) : Ct l D cA (rW ad cA) A yX5_put cX5_put 4 (some .int) 7 150 [.ref (ad 0), .int v, .int n] σ (fun r u => r = (f_put σ v n).1 ∧ u = (f_put σ v n).2) := by
  refine Ct.of (by decide) (Nat.le_of_ble_eq_true rfl) ?_
  intro p e s m below meth c ls S0 hr hlocks hK hP hS hl
  obtain ⟨hx, hb, hml, hown, hts⟩ := id S0
  have hl : lv_has ls 4 [(0, .ref (ad 0)), (1, .int v), (2, .int n)] := hl
  have hkc := hI.kc
  have hvc := hI.vc
  have hgc := hI.gr
  have htc := hI.tc
  rcases ix_cases (n := sVc σ) v (by omega) with h0 | ⟨j, hj, rfl⟩
  · refine lv_aload_n hx hb dX5_put_0 rfl (lv_at hl 0 rfl) ?_
    refine lv_iload_n hx hb dX5_put_1 rfl (lv_at hl 1 rfl) ?_
    refine cl_i (rest := []) (c_X5_isVault l D cA ad A hDD σ v ) ⟨hx, hb, hml, hown, hts⟩ hK hP hS kv_X5_67 ⟨Nat.le_of_ble_eq_true rfl, Nat.le_of_ble_eq_true rfl⟩ ⟨Nat.zero_le _, Nat.zero_le _⟩ 0 rfl rfl rfl hl.1 rfl (Nat.le_of_ble_eq_true rfl) (fun q h => h) dX5_put_2 (fun r u H locs hw hP hS _ => ?_)
    rw [hw.2] at hP
    refine tp_i (z := (hz (sVc σ) v)) hw.1 ?_
    refine tp_i (z := 0) (hz_0 h0) ?_
    refine lv_if_eq (tgt := 15) hx hb dX5_put_5 (by decide) (fun _ => ?_) (fun c9 => absurd (by decide) c9)
    refine lv_bipush (v := (-2)) hx hb dX5_put_15 (by decide) ?_
    exact rt_i (v := (-2)) (u := σ) hx hb hr hlocks hS hP (pr2 (put_b1 h0)) dX5_put_17
  · have h0 := ix_nI hj (n := sVc σ) (by omega)
    refine lv_aload_n hx hb dX5_put_0 rfl (lv_at hl 0 rfl) ?_
    refine lv_iload_n hx hb dX5_put_1 rfl (lv_at hl 1 rfl) ?_
    refine cl_i (rest := []) (c_X5_isVault l D cA ad A hDD σ (nI j) ) ⟨hx, hb, hml, hown, hts⟩ hK hP hS kv_X5_67 ⟨Nat.le_of_ble_eq_true rfl, Nat.le_of_ble_eq_true rfl⟩ ⟨Nat.zero_le _, Nat.zero_le _⟩ 0 rfl rfl rfl hl.1 rfl (Nat.le_of_ble_eq_true rfl) (fun q h => h) dX5_put_2 (fun r u H locs hw hP hS _ => ?_)
    rw [hw.2] at hP
    refine tp_i (z := (hz (sVc σ) (nI j))) hw.1 ?_
    refine tp_i (z := 1) (hz_1 h0) ?_
    refine lv_if_eq (tgt := 15) hx hb dX5_put_5 (by decide) (fun c9 => absurd c9 (by decide)) (fun _ => ?_)
    by_cases hn : amt n
    · skip
      refine lv_iload_n hx hb dX5_put_8 rfl (lv_at hl 2 rfl) ?_
      refine cl_s (rest := []) (c_X5_isAmount l D cA ad A hDD σ n ) ⟨hx, hb, hml, hown, hts⟩ hK hP hS kv_X5_63 ⟨Nat.le_of_ble_eq_true rfl, Nat.le_of_ble_eq_true rfl⟩ ⟨Nat.zero_le _, Nat.zero_le _⟩ rfl hl.1 rfl (Nat.le_of_ble_eq_true rfl) (fun q h => h) dX5_put_9 (fun r u H locs hw hP hS => ?_)
      rw [hw.2] at hP
      refine tp_i (z := (bz (amt n))) hw.1 ?_
      refine tp_i (z := 1) (bz_1 hn) ?_
      refine lv_if_ne (tgt := 18) hx hb dX5_put_12 (by decide) (fun _ => ?_) (fun c9 => absurd c9 (by decide))
      refine lv_aload_n hx hb dX5_put_18 rfl (lv_at hl 0 rfl) ?_
      refine lv_iload_n hx hb dX5_put_19 rfl (lv_at hl 1 rfl) ?_
      refine cl_i (rest := []) (c_X5_turnBoth l D cA ad A hDD σ j  hI hj (by omega) (by omega)) ⟨hx, hb, hml, hown, hts⟩ hK hP hS kv_X5_103 ⟨Nat.le_of_ble_eq_true rfl, Nat.le_of_ble_eq_true rfl⟩ ⟨Nat.zero_le _, Nat.zero_le _⟩ 0 rfl rfl rfl hl.1 rfl (Nat.le_of_ble_eq_true rfl) (fun q h => h) dX5_put_20 (fun r u H locs hw hP hS _ => ?_)
      rw [hw.2] at hP
      refine tp_i (z := (tb σ j).1) hw.1 ?_
      refine lv_istore_n (lv' := [(3, .int (tb σ j).1), (0, .ref (ad 0)), (1, .int (nI j)), (2, .int n)]) hx hb dX5_put_23 rfl hl (by decide) rfl (fun ls hl => ?_)
      refine lv_iload_n hx hb dX5_put_24 rfl (lv_at hl 0 rfl) ?_
      refine lv_if_eq (tgt := 30) hx hb dX5_put_25 (by decide) (fun c25 => ?_) (fun c25 => ?_)
      · have st1 := tb_st (v := j) hI hj (by omega)
        have b1 := st1.2.2.2.2
        have hj1 : j < sVc (tb σ j).2 := by rw [st1.2.1]; exact hj
        have hvc1 := st1.1.vc
        by_cases hc : sLim (tb σ j).2 j < sSm (tb σ j).2 j + n
        · skip
          refine lv_aload_n hx hb dX5_put_30 rfl (lv_at hl 1 rfl) ?_
          refine va_get (D := D) (ci := 5) (v := .ref (ad 5)) (C := RX5) (T := TX5) (N := 20) hx hb hts in_X5 hown hK hP 0 rfl rfl 5 (by decide) (hts _ kf_X5_22) (fun _ h9 => h9) rfl dX5_put_31 ?_
          refine lv_iload_n hx hb dX5_put_34 rfl (lv_at hl 2 rfl) ?_
          refine ar_g hx hb hK hP 5 rfl (by omega) (by decide) dX5_put_35 ?_
          refine lv_iload_n hx hb dX5_put_36 rfl (lv_at hl 3 rfl) ?_
          refine lv_iadd hx hb dX5_put_37 ?_
          refine lv_aload_n hx hb dX5_put_38 rfl (lv_at hl 1 rfl) ?_
          refine va_get (D := D) (ci := 5) (v := .ref (ad 6)) (C := RX5) (T := TX5) (N := 20) hx hb hts in_X5 hown hK hP 0 rfl rfl 6 (by decide) (hts _ kf_X5_25) (fun _ h9 => h9) rfl dX5_put_39 ?_
          refine lv_iload_n hx hb dX5_put_42 rfl (lv_at hl 2 rfl) ?_
          refine ar_g hx hb hK hP 6 rfl (by omega) (by decide) dX5_put_43 ?_
          refine lv_icmp_le (tgt := 54) hx hb dX5_put_44 (by decide) (fun c9 => absurd c9 (i_nle.mpr hc)) (fun _ => ?_)
          refine lv_aload_n hx hb dX5_put_47 rfl (lv_at hl 1 rfl) ?_
          refine lv_bipush (v := (-5)) hx hb dX5_put_48 (by decide) ?_
          refine cl_i (rest := []) (c_X5_answered l D cA ad A hDD (tb σ j).2 (-5) st1.1 (by omega)) ⟨hx, hb, hml, hown, hts⟩ hK hP hS kv_X5_106 ⟨Nat.le_of_ble_eq_true rfl, Nat.le_of_ble_eq_true rfl⟩ ⟨Nat.zero_le _, Nat.zero_le _⟩ 0 rfl rfl rfl hl.1 rfl (Nat.le_of_ble_eq_true rfl) (fun q h => h) dX5_put_50 (fun r u H locs hw hP hS _ => ?_)
          rw [hw.2] at hP
          refine tp_i (z := (-5)) hw.1 ?_
          exact rt_i (v := (-5)) (u := (da 300 (tb σ j).2)) hx hb hr hlocks hS hP ((by rw [put_g h0 hn]; unfold g_put; rw [if_pos c25, if_pos hc]; exact ⟨rfl, rfl⟩)) dX5_put_53
        · skip
          refine lv_aload_n hx hb dX5_put_30 rfl (lv_at hl 1 rfl) ?_
          refine va_get (D := D) (ci := 5) (v := .ref (ad 5)) (C := RX5) (T := TX5) (N := 20) hx hb hts in_X5 hown hK hP 0 rfl rfl 5 (by decide) (hts _ kf_X5_22) (fun _ h9 => h9) rfl dX5_put_31 ?_
          refine lv_iload_n hx hb dX5_put_34 rfl (lv_at hl 2 rfl) ?_
          refine ar_g hx hb hK hP 5 rfl (by omega) (by decide) dX5_put_35 ?_
          refine lv_iload_n hx hb dX5_put_36 rfl (lv_at hl 3 rfl) ?_
          refine lv_iadd hx hb dX5_put_37 ?_
          refine lv_aload_n hx hb dX5_put_38 rfl (lv_at hl 1 rfl) ?_
          refine va_get (D := D) (ci := 5) (v := .ref (ad 6)) (C := RX5) (T := TX5) (N := 20) hx hb hts in_X5 hown hK hP 0 rfl rfl 6 (by decide) (hts _ kf_X5_25) (fun _ h9 => h9) rfl dX5_put_39 ?_
          refine lv_iload_n hx hb dX5_put_42 rfl (lv_at hl 2 rfl) ?_
          refine ar_g hx hb hK hP 6 rfl (by omega) (by decide) dX5_put_43 ?_
          refine lv_icmp_le (tgt := 54) hx hb dX5_put_44 (by decide) (fun _ => ?_) (fun c9 => absurd (i_nlt.mp hc) c9)
          refine lv_aload_n hx hb dX5_put_54 rfl (lv_at hl 1 rfl) ?_
          refine va_get (D := D) (ci := 5) (v := .ref (ad 5)) (C := RX5) (T := TX5) (N := 20) hx hb hts in_X5 hown hK hP 0 rfl rfl 5 (by decide) (hts _ kf_X5_22) (fun _ h9 => h9) rfl dX5_put_55 ?_
          refine lv_iload_n hx hb dX5_put_58 rfl (lv_at hl 2 rfl) ?_
          refine lv_dup2_11 hx hb dX5_put_59 rfl rfl ?_
          refine ar_g hx hb hK hP 5 rfl (by omega) (by decide) dX5_put_60 ?_
          refine lv_iload_n hx hb dX5_put_61 rfl (lv_at hl 3 rfl) ?_
          refine lv_iadd hx hb dX5_put_62 ?_
          refine ar_p hx hb hK hP (hDD _) hS 5 rfl (x := ((sSm (tb σ j).2 j) + n)) (by omega) (by decide) dX5_put_63 (fun H locs hP hS => ?_)
          have hP : va_P D vwCl (rW ad cA ((tb σ j).2.1, ((sLim (tb σ j).2), (upd (sSm (tb σ j).2) j ((sSm (tb σ j).2 j) + n)), (sNx (tb σ j).2), (sLf (tb σ j).2), (sRt (tb σ j).2), (sVc (tb σ j).2)), (tb σ j).2.2.2.1, (tb σ j).2.2.2.2.1, (tb σ j).2.2.2.2.2)) H := hP
          refine lv_aload_n hx hb dX5_put_64 rfl (lv_at hl 1 rfl) ?_
          refine lv_aload_n hx hb dX5_put_65 rfl (lv_at hl 1 rfl) ?_
          refine va_get (D := D) (ci := 5) (v := .ref (ad 5)) (C := RX5) (T := TX5) (N := 20) hx hb hts in_X5 hown hK hP 0 rfl rfl 5 (by decide) (hts _ kf_X5_22) (fun _ h9 => h9) rfl dX5_put_66 ?_
          refine lv_iload_n hx hb dX5_put_69 rfl (lv_at hl 2 rfl) ?_
          refine ar_g hx hb hK hP 5 rfl (by omega) (by decide) dX5_put_70 ?_
          refine tp_i (z := ((sSm (tb σ j).2 j) + n)) upd_eq ?_
          refine cl_i (rest := []) (c_X5_ended l D cA ad A hDD ((tb σ j).2.1, ((sLim (tb σ j).2), (upd (sSm (tb σ j).2) j ((sSm (tb σ j).2 j) + n)), (sNx (tb σ j).2), (sLf (tb σ j).2), (sRt (tb σ j).2), (sVc (tb σ j).2)), (tb σ j).2.2.2.1, (tb σ j).2.2.2.2.1, (tb σ j).2.2.2.2.2) ((sSm (tb σ j).2 j) + n) (put_inv st1.1 hj1 hn hc) (by show sBc (tb σ j).2 + sGr (tb σ j).2 < 2147483647; omega)) ⟨hx, hb, hml, hown, hts⟩ hK hP hS kv_X5_109 ⟨Nat.le_of_ble_eq_true rfl, Nat.le_of_ble_eq_true rfl⟩ ⟨Nat.zero_le _, Nat.zero_le _⟩ 0 rfl rfl rfl hl.1 rfl (Nat.le_of_ble_eq_true rfl) (fun q h => h) dX5_put_71 (fun r u H locs hw hP hS _ => ?_)
          rw [hw.2] at hP
          refine tp_i (z := ((sSm (tb σ j).2 j) + n)) hw.1 ?_
          exact rt_i (v := ((sSm (tb σ j).2 j) + n)) (u := (da 200 ((tb σ j).2.1, ((sLim (tb σ j).2), (upd (sSm (tb σ j).2) j ((sSm (tb σ j).2 j) + n)), (sNx (tb σ j).2), (sLf (tb σ j).2), (sRt (tb σ j).2), (sVc (tb σ j).2)), (tb σ j).2.2.2.1, (tb σ j).2.2.2.2.1, (tb σ j).2.2.2.2.2))) hx hb hr hlocks hS hP ((by rw [put_g h0 hn]; unfold g_put; rw [if_pos c25, if_neg hc]; exact ⟨rfl, rfl⟩)) dX5_put_74
      · refine lv_iload_n hx hb dX5_put_28 rfl (lv_at hl 0 rfl) ?_
        exact rt_i (v := (tb σ j).1) (u := (tb σ j).2) hx hb hr hlocks hS hP ((by rw [put_g h0 hn]; unfold g_put; rw [if_neg c25]; exact ⟨rfl, rfl⟩)) dX5_put_29
    · skip
      refine lv_iload_n hx hb dX5_put_8 rfl (lv_at hl 2 rfl) ?_
      refine cl_s (rest := []) (c_X5_isAmount l D cA ad A hDD σ n ) ⟨hx, hb, hml, hown, hts⟩ hK hP hS kv_X5_63 ⟨Nat.le_of_ble_eq_true rfl, Nat.le_of_ble_eq_true rfl⟩ ⟨Nat.zero_le _, Nat.zero_le _⟩ rfl hl.1 rfl (Nat.le_of_ble_eq_true rfl) (fun q h => h) dX5_put_9 (fun r u H locs hw hP hS => ?_)
      rw [hw.2] at hP
      refine tp_i (z := (bz (amt n))) hw.1 ?_
      refine tp_i (z := 0) (bz_0 hn) ?_
      refine lv_if_ne (tgt := 18) hx hb dX5_put_12 (by decide) (fun c9 => absurd (by decide) c9) (fun _ => ?_)
      refine lv_bipush (v := (-2)) hx hb dX5_put_15 (by decide) ?_
      exact rt_i (v := (-2)) (u := σ) hx hb hr hlocks hS hP (pr2 (put_b2 h0 hn)) dX5_put_17
set_option maxHeartbeats 4000000 in
set_option maxRecDepth 100000 in
theorem c_X5_take (l : Launch) (D : va_G) (cA : ClassId) (ad : Nat → Nat) (A : Nat → Prop) (hDD : ∀ u, va_D A (rW ad cA u)) (σ : CS) (v n : Int32) (hI : Inv σ) (hg : sGr σ = 0) (hb9 : sBc σ ≤ 1000000000) : Ct l D cA (rW ad cA) A yX5_take cX5_take 4 (some .int) 7 150 [.ref (ad 0), .int v, .int n] σ (fun r u => r = (f_take σ v n).1 ∧ u = (f_take σ v n).2) := by
  refine Ct.of (by decide) (Nat.le_of_ble_eq_true rfl) ?_
  intro p e s m below meth c ls S0 hr hlocks hK hP hS hl
  obtain ⟨hx, hb, hml, hown, hts⟩ := id S0
  have hl : lv_has ls 4 [(0, .ref (ad 0)), (1, .int v), (2, .int n)] := hl
  have hkc := hI.kc
  have hvc := hI.vc
  have hgc := hI.gr
  have htc := hI.tc
  rcases ix_cases (n := sVc σ) v (by omega) with h0 | ⟨j, hj, rfl⟩
  · refine lv_aload_n hx hb dX5_take_0 rfl (lv_at hl 0 rfl) ?_
    refine lv_iload_n hx hb dX5_take_1 rfl (lv_at hl 1 rfl) ?_
    refine cl_i (rest := []) (c_X5_isVault l D cA ad A hDD σ v ) ⟨hx, hb, hml, hown, hts⟩ hK hP hS kv_X5_67 ⟨Nat.le_of_ble_eq_true rfl, Nat.le_of_ble_eq_true rfl⟩ ⟨Nat.zero_le _, Nat.zero_le _⟩ 0 rfl rfl rfl hl.1 rfl (Nat.le_of_ble_eq_true rfl) (fun q h => h) dX5_take_2 (fun r u H locs hw hP hS _ => ?_)
    rw [hw.2] at hP
    refine tp_i (z := (hz (sVc σ) v)) hw.1 ?_
    refine tp_i (z := 0) (hz_0 h0) ?_
    refine lv_if_eq (tgt := 15) hx hb dX5_take_5 (by decide) (fun _ => ?_) (fun c9 => absurd (by decide) c9)
    refine lv_bipush (v := (-2)) hx hb dX5_take_15 (by decide) ?_
    exact rt_i (v := (-2)) (u := σ) hx hb hr hlocks hS hP (pr2 (take_b1 h0)) dX5_take_17
  · have h0 := ix_nI hj (n := sVc σ) (by omega)
    refine lv_aload_n hx hb dX5_take_0 rfl (lv_at hl 0 rfl) ?_
    refine lv_iload_n hx hb dX5_take_1 rfl (lv_at hl 1 rfl) ?_
    refine cl_i (rest := []) (c_X5_isVault l D cA ad A hDD σ (nI j) ) ⟨hx, hb, hml, hown, hts⟩ hK hP hS kv_X5_67 ⟨Nat.le_of_ble_eq_true rfl, Nat.le_of_ble_eq_true rfl⟩ ⟨Nat.zero_le _, Nat.zero_le _⟩ 0 rfl rfl rfl hl.1 rfl (Nat.le_of_ble_eq_true rfl) (fun q h => h) dX5_take_2 (fun r u H locs hw hP hS _ => ?_)
    rw [hw.2] at hP
    refine tp_i (z := (hz (sVc σ) (nI j))) hw.1 ?_
    refine tp_i (z := 1) (hz_1 h0) ?_
    refine lv_if_eq (tgt := 15) hx hb dX5_take_5 (by decide) (fun c9 => absurd c9 (by decide)) (fun _ => ?_)
    by_cases hn : amt n
    · skip
      refine lv_iload_n hx hb dX5_take_8 rfl (lv_at hl 2 rfl) ?_
      refine cl_s (rest := []) (c_X5_isAmount l D cA ad A hDD σ n ) ⟨hx, hb, hml, hown, hts⟩ hK hP hS kv_X5_63 ⟨Nat.le_of_ble_eq_true rfl, Nat.le_of_ble_eq_true rfl⟩ ⟨Nat.zero_le _, Nat.zero_le _⟩ rfl hl.1 rfl (Nat.le_of_ble_eq_true rfl) (fun q h => h) dX5_take_9 (fun r u H locs hw hP hS => ?_)
      rw [hw.2] at hP
      refine tp_i (z := (bz (amt n))) hw.1 ?_
      refine tp_i (z := 1) (bz_1 hn) ?_
      refine lv_if_ne (tgt := 18) hx hb dX5_take_12 (by decide) (fun _ => ?_) (fun c9 => absurd c9 (by decide))
      refine lv_aload_n hx hb dX5_take_18 rfl (lv_at hl 0 rfl) ?_
      refine lv_iload_n hx hb dX5_take_19 rfl (lv_at hl 1 rfl) ?_
      refine cl_i (rest := []) (c_X5_turnBoth l D cA ad A hDD σ j  hI hj (by omega) (by omega)) ⟨hx, hb, hml, hown, hts⟩ hK hP hS kv_X5_103 ⟨Nat.le_of_ble_eq_true rfl, Nat.le_of_ble_eq_true rfl⟩ ⟨Nat.zero_le _, Nat.zero_le _⟩ 0 rfl rfl rfl hl.1 rfl (Nat.le_of_ble_eq_true rfl) (fun q h => h) dX5_take_20 (fun r u H locs hw hP hS _ => ?_)
      rw [hw.2] at hP
      refine tp_i (z := (tb σ j).1) hw.1 ?_
      refine lv_istore_n (lv' := [(3, .int (tb σ j).1), (0, .ref (ad 0)), (1, .int (nI j)), (2, .int n)]) hx hb dX5_take_23 rfl hl (by decide) rfl (fun ls hl => ?_)
      refine lv_iload_n hx hb dX5_take_24 rfl (lv_at hl 0 rfl) ?_
      refine lv_if_eq (tgt := 30) hx hb dX5_take_25 (by decide) (fun c25 => ?_) (fun c25 => ?_)
      · have st1 := tb_st (v := j) hI hj (by omega)
        have b1 := st1.2.2.2.2
        have hj1 : j < sVc (tb σ j).2 := by rw [st1.2.1]; exact hj
        have hvc1 := st1.1.vc
        by_cases hc : sSm (tb σ j).2 j < n
        · skip
          refine lv_aload_n hx hb dX5_take_30 rfl (lv_at hl 1 rfl) ?_
          refine va_get (D := D) (ci := 5) (v := .ref (ad 5)) (C := RX5) (T := TX5) (N := 20) hx hb hts in_X5 hown hK hP 0 rfl rfl 5 (by decide) (hts _ kf_X5_22) (fun _ h9 => h9) rfl dX5_take_31 ?_
          refine lv_iload_n hx hb dX5_take_34 rfl (lv_at hl 2 rfl) ?_
          refine ar_g hx hb hK hP 5 rfl (by omega) (by decide) dX5_take_35 ?_
          refine lv_iload_n hx hb dX5_take_36 rfl (lv_at hl 3 rfl) ?_
          refine lv_icmp_ge (tgt := 47) hx hb dX5_take_37 (by decide) (fun c9 => absurd c9 (i_nle.mpr hc)) (fun _ => ?_)
          refine lv_aload_n hx hb dX5_take_40 rfl (lv_at hl 1 rfl) ?_
          refine lv_bipush (v := (-6)) hx hb dX5_take_41 (by decide) ?_
          refine cl_i (rest := []) (c_X5_alarmed l D cA ad A hDD (tb σ j).2 (-6) st1.1 (by omega)) ⟨hx, hb, hml, hown, hts⟩ hK hP hS kv_X5_112 ⟨Nat.le_of_ble_eq_true rfl, Nat.le_of_ble_eq_true rfl⟩ ⟨Nat.zero_le _, Nat.zero_le _⟩ 0 rfl rfl rfl hl.1 rfl (Nat.le_of_ble_eq_true rfl) (fun q h => h) dX5_take_43 (fun r u H locs hw hP hS _ => ?_)
          rw [hw.2] at hP
          refine tp_i (z := (-6)) hw.1 ?_
          exact rt_i (v := (-6)) (u := (ra (tb σ j).2)) hx hb hr hlocks hS hP ((by rw [take_g h0 hn]; unfold g_take; rw [if_pos c25, if_pos hc]; exact ⟨rfl, rfl⟩)) dX5_take_46
        · skip
          refine lv_aload_n hx hb dX5_take_30 rfl (lv_at hl 1 rfl) ?_
          refine va_get (D := D) (ci := 5) (v := .ref (ad 5)) (C := RX5) (T := TX5) (N := 20) hx hb hts in_X5 hown hK hP 0 rfl rfl 5 (by decide) (hts _ kf_X5_22) (fun _ h9 => h9) rfl dX5_take_31 ?_
          refine lv_iload_n hx hb dX5_take_34 rfl (lv_at hl 2 rfl) ?_
          refine ar_g hx hb hK hP 5 rfl (by omega) (by decide) dX5_take_35 ?_
          refine lv_iload_n hx hb dX5_take_36 rfl (lv_at hl 3 rfl) ?_
          refine lv_icmp_ge (tgt := 47) hx hb dX5_take_37 (by decide) (fun _ => ?_) (fun c9 => absurd (i_nlt.mp hc) c9)
          refine lv_aload_n hx hb dX5_take_47 rfl (lv_at hl 1 rfl) ?_
          refine va_get (D := D) (ci := 5) (v := .ref (ad 5)) (C := RX5) (T := TX5) (N := 20) hx hb hts in_X5 hown hK hP 0 rfl rfl 5 (by decide) (hts _ kf_X5_22) (fun _ h9 => h9) rfl dX5_take_48 ?_
          refine lv_iload_n hx hb dX5_take_51 rfl (lv_at hl 2 rfl) ?_
          refine lv_dup2_11 hx hb dX5_take_52 rfl rfl ?_
          refine ar_g hx hb hK hP 5 rfl (by omega) (by decide) dX5_take_53 ?_
          refine lv_iload_n hx hb dX5_take_54 rfl (lv_at hl 3 rfl) ?_
          refine lv_isub hx hb dX5_take_55 ?_
          refine ar_p hx hb hK hP (hDD _) hS 5 rfl (x := ((sSm (tb σ j).2 j) - n)) (by omega) (by decide) dX5_take_56 (fun H locs hP hS => ?_)
          have hP : va_P D vwCl (rW ad cA ((tb σ j).2.1, ((sLim (tb σ j).2), (upd (sSm (tb σ j).2) j ((sSm (tb σ j).2 j) - n)), (sNx (tb σ j).2), (sLf (tb σ j).2), (sRt (tb σ j).2), (sVc (tb σ j).2)), (tb σ j).2.2.2.1, (tb σ j).2.2.2.2.1, (tb σ j).2.2.2.2.2)) H := hP
          refine lv_aload_n hx hb dX5_take_57 rfl (lv_at hl 1 rfl) ?_
          refine lv_aload_n hx hb dX5_take_58 rfl (lv_at hl 1 rfl) ?_
          refine va_get (D := D) (ci := 5) (v := .ref (ad 5)) (C := RX5) (T := TX5) (N := 20) hx hb hts in_X5 hown hK hP 0 rfl rfl 5 (by decide) (hts _ kf_X5_22) (fun _ h9 => h9) rfl dX5_take_59 ?_
          refine lv_iload_n hx hb dX5_take_62 rfl (lv_at hl 2 rfl) ?_
          refine ar_g hx hb hK hP 5 rfl (by omega) (by decide) dX5_take_63 ?_
          refine tp_i (z := ((sSm (tb σ j).2 j) - n)) upd_eq ?_
          refine cl_i (rest := []) (c_X5_ended l D cA ad A hDD ((tb σ j).2.1, ((sLim (tb σ j).2), (upd (sSm (tb σ j).2) j ((sSm (tb σ j).2 j) - n)), (sNx (tb σ j).2), (sLf (tb σ j).2), (sRt (tb σ j).2), (sVc (tb σ j).2)), (tb σ j).2.2.2.1, (tb σ j).2.2.2.2.1, (tb σ j).2.2.2.2.2) ((sSm (tb σ j).2 j) - n) (take_inv st1.1 hj1 hn hc) (by show sBc (tb σ j).2 + sGr (tb σ j).2 < 2147483647; omega)) ⟨hx, hb, hml, hown, hts⟩ hK hP hS kv_X5_109 ⟨Nat.le_of_ble_eq_true rfl, Nat.le_of_ble_eq_true rfl⟩ ⟨Nat.zero_le _, Nat.zero_le _⟩ 0 rfl rfl rfl hl.1 rfl (Nat.le_of_ble_eq_true rfl) (fun q h => h) dX5_take_64 (fun r u H locs hw hP hS _ => ?_)
          rw [hw.2] at hP
          refine tp_i (z := ((sSm (tb σ j).2 j) - n)) hw.1 ?_
          exact rt_i (v := ((sSm (tb σ j).2 j) - n)) (u := (da 200 ((tb σ j).2.1, ((sLim (tb σ j).2), (upd (sSm (tb σ j).2) j ((sSm (tb σ j).2 j) - n)), (sNx (tb σ j).2), (sLf (tb σ j).2), (sRt (tb σ j).2), (sVc (tb σ j).2)), (tb σ j).2.2.2.1, (tb σ j).2.2.2.2.1, (tb σ j).2.2.2.2.2))) hx hb hr hlocks hS hP ((by rw [take_g h0 hn]; unfold g_take; rw [if_pos c25, if_neg hc]; exact ⟨rfl, rfl⟩)) dX5_take_67
      · refine lv_iload_n hx hb dX5_take_28 rfl (lv_at hl 0 rfl) ?_
        exact rt_i (v := (tb σ j).1) (u := (tb σ j).2) hx hb hr hlocks hS hP ((by rw [take_g h0 hn]; unfold g_take; rw [if_neg c25]; exact ⟨rfl, rfl⟩)) dX5_take_29
    · skip
      refine lv_iload_n hx hb dX5_take_8 rfl (lv_at hl 2 rfl) ?_
      refine cl_s (rest := []) (c_X5_isAmount l D cA ad A hDD σ n ) ⟨hx, hb, hml, hown, hts⟩ hK hP hS kv_X5_63 ⟨Nat.le_of_ble_eq_true rfl, Nat.le_of_ble_eq_true rfl⟩ ⟨Nat.zero_le _, Nat.zero_le _⟩ rfl hl.1 rfl (Nat.le_of_ble_eq_true rfl) (fun q h => h) dX5_take_9 (fun r u H locs hw hP hS => ?_)
      rw [hw.2] at hP
      refine tp_i (z := (bz (amt n))) hw.1 ?_
      refine tp_i (z := 0) (bz_0 hn) ?_
      refine lv_if_ne (tgt := 18) hx hb dX5_take_12 (by decide) (fun c9 => absurd (by decide) c9) (fun _ => ?_)
      refine lv_bipush (v := (-2)) hx hb dX5_take_15 (by decide) ?_
      exact rt_i (v := (-2)) (u := σ) hx hb hr hlocks hS hP (pr2 (take_b2 h0 hn)) dX5_take_17
set_option maxHeartbeats 4000000 in
set_option maxRecDepth 100000 in
theorem c_X5_split (l : Launch) (D : va_G) (cA : ClassId) (ad : Nat → Nat) (A : Nat → Prop) (hDD : ∀ u, va_D A (rW ad cA u)) (σ : CS) (v n : Int32) (hI : Inv σ) (hg : sGr σ = 0) (hb9 : sBc σ ≤ 1000000000) : Ct l D cA (rW ad cA) A yX5_split cX5_split 4 (some .int) 7 150 [.ref (ad 0), .int v, .int n] σ (fun r u => r = (f_split σ v n).1 ∧ u = (f_split σ v n).2) := by
  refine Ct.of (by decide) (Nat.le_of_ble_eq_true rfl) ?_
  intro p e s m below meth c ls S0 hr hlocks hK hP hS hl
  obtain ⟨hx, hb, hml, hown, hts⟩ := id S0
  have hl : lv_has ls 4 [(0, .ref (ad 0)), (1, .int v), (2, .int n)] := hl
  have hkc := hI.kc
  have hvc := hI.vc
  have hgc := hI.gr
  have htc := hI.tc
  rcases ix_cases (n := sVc σ) v (by omega) with h0 | ⟨j, hj, rfl⟩
  · refine lv_aload_n hx hb dX5_split_0 rfl (lv_at hl 0 rfl) ?_
    refine lv_iload_n hx hb dX5_split_1 rfl (lv_at hl 1 rfl) ?_
    refine cl_i (rest := []) (c_X5_isVault l D cA ad A hDD σ v ) ⟨hx, hb, hml, hown, hts⟩ hK hP hS kv_X5_67 ⟨Nat.le_of_ble_eq_true rfl, Nat.le_of_ble_eq_true rfl⟩ ⟨Nat.zero_le _, Nat.zero_le _⟩ 0 rfl rfl rfl hl.1 rfl (Nat.le_of_ble_eq_true rfl) (fun q h => h) dX5_split_2 (fun r u H locs hw hP hS _ => ?_)
    rw [hw.2] at hP
    refine tp_i (z := (hz (sVc σ) v)) hw.1 ?_
    refine tp_i (z := 0) (hz_0 h0) ?_
    refine lv_if_eq (tgt := 19) hx hb dX5_split_5 (by decide) (fun _ => ?_) (fun c9 => absurd (by decide) c9)
    refine lv_bipush (v := (-2)) hx hb dX5_split_19 (by decide) ?_
    exact rt_i (v := (-2)) (u := σ) hx hb hr hlocks hS hP (pr2 (split_b1 h0)) dX5_split_21
  · have h0 := ix_nI hj (n := sVc σ) (by omega)
    refine lv_aload_n hx hb dX5_split_0 rfl (lv_at hl 0 rfl) ?_
    refine lv_iload_n hx hb dX5_split_1 rfl (lv_at hl 1 rfl) ?_
    refine cl_i (rest := []) (c_X5_isVault l D cA ad A hDD σ (nI j) ) ⟨hx, hb, hml, hown, hts⟩ hK hP hS kv_X5_67 ⟨Nat.le_of_ble_eq_true rfl, Nat.le_of_ble_eq_true rfl⟩ ⟨Nat.zero_le _, Nat.zero_le _⟩ 0 rfl rfl rfl hl.1 rfl (Nat.le_of_ble_eq_true rfl) (fun q h => h) dX5_split_2 (fun r u H locs hw hP hS _ => ?_)
    rw [hw.2] at hP
    refine tp_i (z := (hz (sVc σ) (nI j))) hw.1 ?_
    refine tp_i (z := 1) (hz_1 h0) ?_
    refine lv_if_eq (tgt := 19) hx hb dX5_split_5 (by decide) (fun c9 => absurd c9 (by decide)) (fun _ => ?_)
    by_cases hn : 0 ≤ n ∧ n ≤ 1000
    · skip
      refine lv_iload_n hx hb dX5_split_8 rfl (lv_at hl 2 rfl) ?_
      refine lv_if_lt (tgt := 19) hx hb dX5_split_9 (by decide) (fun c9 => absurd c9 (i_nlt.mpr hn.1)) (fun _ => ?_)
      refine lv_iload_n hx hb dX5_split_12 rfl (lv_at hl 2 rfl) ?_
      refine lv_sipush (v := 1000) hx hb dX5_split_13 (by decide) ?_
      refine lv_icmp_le (tgt := 22) hx hb dX5_split_16 (by decide) (fun _ => ?_) (fun c9 => absurd (hn.2) c9)
      refine lv_aload_n hx hb dX5_split_22 rfl (lv_at hl 0 rfl) ?_
      refine lv_iload_n hx hb dX5_split_23 rfl (lv_at hl 1 rfl) ?_
      refine cl_i (rest := []) (c_X5_turnBoth l D cA ad A hDD σ j  hI hj (by omega) (by omega)) ⟨hx, hb, hml, hown, hts⟩ hK hP hS kv_X5_103 ⟨Nat.le_of_ble_eq_true rfl, Nat.le_of_ble_eq_true rfl⟩ ⟨Nat.zero_le _, Nat.zero_le _⟩ 0 rfl rfl rfl hl.1 rfl (Nat.le_of_ble_eq_true rfl) (fun q h => h) dX5_split_24 (fun r u H locs hw hP hS _ => ?_)
      rw [hw.2] at hP
      refine tp_i (z := (tb σ j).1) hw.1 ?_
      refine lv_istore_n (lv' := [(3, .int (tb σ j).1), (0, .ref (ad 0)), (1, .int (nI j)), (2, .int n)]) hx hb dX5_split_27 rfl hl (by decide) rfl (fun ls hl => ?_)
      refine lv_iload_n hx hb dX5_split_28 rfl (lv_at hl 0 rfl) ?_
      refine lv_if_eq (tgt := 34) hx hb dX5_split_29 (by decide) (fun c29 => ?_) (fun c29 => ?_)
      · have st1 := tb_st (v := j) hI hj (by omega)
        have b1 := st1.2.2.2.2
        have hj1 : j < sVc (tb σ j).2 := by rw [st1.2.1]; exact hj
        have hvc1 := st1.1.vc
        refine lv_iload_n hx hb dX5_split_34 rfl (lv_at hl 3 rfl) ?_
        refine lv_if_ne (tgt := 45) hx hb dX5_split_35 (by decide) (fun c35 => ?_) (fun c35 => ?_)
        · refine lv_aload_n hx hb dX5_split_45 rfl (lv_at hl 1 rfl) ?_
          refine lv_aload_n hx hb dX5_split_46 rfl (lv_at hl 1 rfl) ?_
          refine va_get (D := D) (ci := 5) (v := .ref (ad 5)) (C := RX5) (T := TX5) (N := 20) hx hb hts in_X5 hown hK hP 0 rfl rfl 5 (by decide) (hts _ kf_X5_22) (fun _ h9 => h9) rfl dX5_split_47 ?_
          refine lv_iload_n hx hb dX5_split_50 rfl (lv_at hl 2 rfl) ?_
          refine ar_g hx hb hK hP 5 rfl (by omega) (by decide) dX5_split_51 ?_
          refine lv_iload_n hx hb dX5_split_52 rfl (lv_at hl 3 rfl) ?_
          refine lv_idiv hx hb dX5_split_53 c35 ?_
          refine cl_i (rest := []) (c_X5_ended l D cA ad A hDD (tb σ j).2 ((sSm (tb σ j).2 j) / n) st1.1 (by omega)) ⟨hx, hb, hml, hown, hts⟩ hK hP hS kv_X5_109 ⟨Nat.le_of_ble_eq_true rfl, Nat.le_of_ble_eq_true rfl⟩ ⟨Nat.zero_le _, Nat.zero_le _⟩ 0 rfl rfl rfl hl.1 rfl (Nat.le_of_ble_eq_true rfl) (fun q h => h) dX5_split_54 (fun r u H locs hw hP hS _ => ?_)
          rw [hw.2] at hP
          refine tp_i (z := ((sSm (tb σ j).2 j) / n)) hw.1 ?_
          exact rt_i (v := ((sSm (tb σ j).2 j) / n)) (u := (da 200 (tb σ j).2)) hx hb hr hlocks hS hP ((by rw [split_g h0 hn]; unfold g_split; rw [if_pos c29, if_neg c35]; exact ⟨rfl, rfl⟩)) dX5_split_57
        · refine lv_aload_n hx hb dX5_split_38 rfl (lv_at hl 1 rfl) ?_
          refine lv_bipush (v := (-8)) hx hb dX5_split_39 (by decide) ?_
          refine cl_i (rest := []) (c_X5_alarmed l D cA ad A hDD (tb σ j).2 (-8) st1.1 (by omega)) ⟨hx, hb, hml, hown, hts⟩ hK hP hS kv_X5_112 ⟨Nat.le_of_ble_eq_true rfl, Nat.le_of_ble_eq_true rfl⟩ ⟨Nat.zero_le _, Nat.zero_le _⟩ 0 rfl rfl rfl hl.1 rfl (Nat.le_of_ble_eq_true rfl) (fun q h => h) dX5_split_41 (fun r u H locs hw hP hS _ => ?_)
          rw [hw.2] at hP
          refine tp_i (z := (-8)) hw.1 ?_
          exact rt_i (v := (-8)) (u := (ra (tb σ j).2)) hx hb hr hlocks hS hP ((by rw [split_g h0 hn]; unfold g_split; rw [if_pos c29, if_pos c35]; exact ⟨rfl, rfl⟩)) dX5_split_44
      · refine lv_iload_n hx hb dX5_split_32 rfl (lv_at hl 0 rfl) ?_
        exact rt_i (v := (tb σ j).1) (u := (tb σ j).2) hx hb hr hlocks hS hP ((by rw [split_g h0 hn]; unfold g_split; rw [if_neg c29]; exact ⟨rfl, rfl⟩)) dX5_split_33
    · skip
      refine lv_iload_n hx hb dX5_split_8 rfl (lv_at hl 2 rfl) ?_
      refine lv_if_lt (tgt := 19) hx hb dX5_split_9 (by decide) (fun h9 => ?_) (fun h9 => ?_)
      · refine lv_bipush (v := (-2)) hx hb dX5_split_19 (by decide) ?_
        exact rt_i (v := (-2)) (u := σ) hx hb hr hlocks hS hP (pr2 (split_b2 h0 hn)) dX5_split_21
      · refine lv_iload_n hx hb dX5_split_12 rfl (lv_at hl 2 rfl) ?_
        refine lv_sipush (v := 1000) hx hb dX5_split_13 (by decide) ?_
        refine lv_icmp_le (tgt := 22) hx hb dX5_split_16 (by decide) (fun c9 => absurd c9 (fun q => hn ⟨i_nlt.mp h9, q⟩)) (fun _ => ?_)
        refine lv_bipush (v := (-2)) hx hb dX5_split_19 (by decide) ?_
        exact rt_i (v := (-2)) (u := σ) hx hb hr hlocks hS hP (pr2 (split_b2 h0 hn)) dX5_split_21
set_option maxHeartbeats 4000000 in
set_option maxRecDepth 100000 in
theorem c_X5_move (l : Launch) (D : va_G) (cA : ClassId) (ad : Nat → Nat) (A : Nat → Prop) (hDD : ∀ u, va_D A (rW ad cA u)) (σ : CS) (a b n : Int32) (hI : Inv σ) (hg : sGr σ = 0) (hb9 : sBc σ ≤ 1000000000) : Ct l D cA (rW ad cA) A yX5_move cX5_move 5 (some .int) 7 150 [.ref (ad 0), .int a, .int b, .int n] σ (fun r u => r = (f_move σ a b n).1 ∧ u = (f_move σ a b n).2) := by
  refine Ct.of (by decide) (Nat.le_of_ble_eq_true rfl) ?_
  intro p e s m below meth c ls S0 hr hlocks hK hP hS hl
  obtain ⟨hx, hb, hml, hown, hts⟩ := id S0
  have hl : lv_has ls 5 [(0, .ref (ad 0)), (1, .int a), (2, .int b), (3, .int n)] := hl
  have hkc := hI.kc
  have hvc := hI.vc
  have hgc := hI.gr
  have htc := hI.tc
  rcases ix_cases (n := sVc σ) a (by omega) with h0 | ⟨i, hi, rfl⟩
  · refine lv_aload_n hx hb dX5_move_0 rfl (lv_at hl 0 rfl) ?_
    refine lv_iload_n hx hb dX5_move_1 rfl (lv_at hl 1 rfl) ?_
    refine cl_i (rest := []) (c_X5_isVault l D cA ad A hDD σ a ) ⟨hx, hb, hml, hown, hts⟩ hK hP hS kv_X5_67 ⟨Nat.le_of_ble_eq_true rfl, Nat.le_of_ble_eq_true rfl⟩ ⟨Nat.zero_le _, Nat.zero_le _⟩ 0 rfl rfl rfl hl.1 rfl (Nat.le_of_ble_eq_true rfl) (fun q h => h) dX5_move_2 (fun r u H locs hw hP hS _ => ?_)
    rw [hw.2] at hP
    refine tp_i (z := (hz (sVc σ) a)) hw.1 ?_
    refine tp_i (z := 0) (hz_0 h0) ?_
    refine lv_if_eq (tgt := 23) hx hb dX5_move_5 (by decide) (fun _ => ?_) (fun c9 => absurd (by decide) c9)
    refine lv_bipush (v := (-2)) hx hb dX5_move_23 (by decide) ?_
    exact rt_i (v := (-2)) (u := σ) hx hb hr hlocks hS hP (pr2 (move_b1 h0)) dX5_move_25
  · have h0 := ix_nI hi (n := sVc σ) (by omega)
    refine lv_aload_n hx hb dX5_move_0 rfl (lv_at hl 0 rfl) ?_
    refine lv_iload_n hx hb dX5_move_1 rfl (lv_at hl 1 rfl) ?_
    refine cl_i (rest := []) (c_X5_isVault l D cA ad A hDD σ (nI i) ) ⟨hx, hb, hml, hown, hts⟩ hK hP hS kv_X5_67 ⟨Nat.le_of_ble_eq_true rfl, Nat.le_of_ble_eq_true rfl⟩ ⟨Nat.zero_le _, Nat.zero_le _⟩ 0 rfl rfl rfl hl.1 rfl (Nat.le_of_ble_eq_true rfl) (fun q h => h) dX5_move_2 (fun r u H locs hw hP hS _ => ?_)
    rw [hw.2] at hP
    refine tp_i (z := (hz (sVc σ) (nI i))) hw.1 ?_
    refine tp_i (z := 1) (hz_1 h0) ?_
    refine lv_if_eq (tgt := 23) hx hb dX5_move_5 (by decide) (fun c9 => absurd c9 (by decide)) (fun _ => ?_)
    rcases ix_cases (n := sVc σ) b (by omega) with h1 | ⟨j, hj, rfl⟩
    · refine lv_aload_n hx hb dX5_move_8 rfl (lv_at hl 0 rfl) ?_
      refine lv_iload_n hx hb dX5_move_9 rfl (lv_at hl 2 rfl) ?_
      refine cl_i (rest := []) (c_X5_isVault l D cA ad A hDD σ b ) ⟨hx, hb, hml, hown, hts⟩ hK hP hS kv_X5_67 ⟨Nat.le_of_ble_eq_true rfl, Nat.le_of_ble_eq_true rfl⟩ ⟨Nat.zero_le _, Nat.zero_le _⟩ 0 rfl rfl rfl hl.1 rfl (Nat.le_of_ble_eq_true rfl) (fun q h => h) dX5_move_10 (fun r u H locs hw hP hS _ => ?_)
      rw [hw.2] at hP
      refine tp_i (z := (hz (sVc σ) b)) hw.1 ?_
      refine tp_i (z := 0) (hz_0 h1) ?_
      refine lv_if_eq (tgt := 23) hx hb dX5_move_13 (by decide) (fun _ => ?_) (fun c9 => absurd (by decide) c9)
      refine lv_bipush (v := (-2)) hx hb dX5_move_23 (by decide) ?_
      exact rt_i (v := (-2)) (u := σ) hx hb hr hlocks hS hP (pr2 (move_b2 h0 h1)) dX5_move_25
    · have h1 := ix_nI hj (n := sVc σ) (by omega)
      refine lv_aload_n hx hb dX5_move_8 rfl (lv_at hl 0 rfl) ?_
      refine lv_iload_n hx hb dX5_move_9 rfl (lv_at hl 2 rfl) ?_
      refine cl_i (rest := []) (c_X5_isVault l D cA ad A hDD σ (nI j) ) ⟨hx, hb, hml, hown, hts⟩ hK hP hS kv_X5_67 ⟨Nat.le_of_ble_eq_true rfl, Nat.le_of_ble_eq_true rfl⟩ ⟨Nat.zero_le _, Nat.zero_le _⟩ 0 rfl rfl rfl hl.1 rfl (Nat.le_of_ble_eq_true rfl) (fun q h => h) dX5_move_10 (fun r u H locs hw hP hS _ => ?_)
      rw [hw.2] at hP
      refine tp_i (z := (hz (sVc σ) (nI j))) hw.1 ?_
      refine tp_i (z := 1) (hz_1 h1) ?_
      refine lv_if_eq (tgt := 23) hx hb dX5_move_13 (by decide) (fun c9 => absurd c9 (by decide)) (fun _ => ?_)
      by_cases hn : amt n
      · skip
        refine lv_iload_n hx hb dX5_move_16 rfl (lv_at hl 3 rfl) ?_
        refine cl_s (rest := []) (c_X5_isAmount l D cA ad A hDD σ n ) ⟨hx, hb, hml, hown, hts⟩ hK hP hS kv_X5_63 ⟨Nat.le_of_ble_eq_true rfl, Nat.le_of_ble_eq_true rfl⟩ ⟨Nat.zero_le _, Nat.zero_le _⟩ rfl hl.1 rfl (Nat.le_of_ble_eq_true rfl) (fun q h => h) dX5_move_17 (fun r u H locs hw hP hS => ?_)
        rw [hw.2] at hP
        refine tp_i (z := (bz (amt n))) hw.1 ?_
        refine tp_i (z := 1) (bz_1 hn) ?_
        refine lv_if_ne (tgt := 26) hx hb dX5_move_20 (by decide) (fun _ => ?_) (fun c9 => absurd c9 (by decide))
        refine lv_aload_n hx hb dX5_move_26 rfl (lv_at hl 0 rfl) ?_
        refine lv_iload_n hx hb dX5_move_27 rfl (lv_at hl 1 rfl) ?_
        refine cl_i (rest := []) (c_X5_turnBoth l D cA ad A hDD σ i  hI hi (by omega) (by omega)) ⟨hx, hb, hml, hown, hts⟩ hK hP hS kv_X5_103 ⟨Nat.le_of_ble_eq_true rfl, Nat.le_of_ble_eq_true rfl⟩ ⟨Nat.zero_le _, Nat.zero_le _⟩ 0 rfl rfl rfl hl.1 rfl (Nat.le_of_ble_eq_true rfl) (fun q h => h) dX5_move_28 (fun r u1 H locs hw hP hS _ => ?_)
        have hu1 : u1 = (tb σ i).2 := hw.2
        refine tp_i (z := (tb σ i).1) hw.1 ?_
        have st1 := tb_st (v := i) hI hi (by omega)
        rw [← hu1] at st1
        have b1 := st1.2.2.2.2
        have hj1 : j < sVc u1 := by rw [st1.2.1]; exact hj
        have gr1 : sGr u1 ≤ sGr σ + 2 := by rw [hu1]; exact tb_gr
        refine lv_istore (lv' := [(4, .int (tb σ i).1), (0, .ref (ad 0)), (1, .int (nI i)), (2, .int (nI j)), (3, .int n)]) hx hb dX5_move_31 hl (by decide) rfl (fun ls hl => ?_)
        refine lv_iload hx hb dX5_move_33 (lv_at hl 0 rfl) ?_
        refine lv_if_ne (tgt := 45) hx hb dX5_move_35 (by decide) (fun c35 => ?_) (fun c35 => ?_)
        · refine lv_iload hx hb dX5_move_45 (lv_at hl 0 rfl) ?_
          refine lv_if_eq (tgt := 53) hx hb dX5_move_47 (by decide) (fun c9 => absurd c9 (c35)) (fun _ => ?_)
          refine lv_iload hx hb dX5_move_50 (lv_at hl 0 rfl) ?_
          exact rt_i (v := (tb σ i).1) (u := u1) hx hb hr hlocks hS hP ((by rw [move_g1 h0 h1 hn c35]; exact ⟨rfl, hu1⟩)) dX5_move_52
        · refine lv_aload_n hx hb dX5_move_38 rfl (lv_at hl 1 rfl) ?_
          refine lv_iload_n hx hb dX5_move_39 rfl (lv_at hl 3 rfl) ?_
          refine cl_i (rest := []) (c_X5_turnBoth l D cA ad A hDD u1 j  st1.1 hj1 (by omega) (by omega)) ⟨hx, hb, hml, hown, hts⟩ hK hP hS kv_X5_103 ⟨Nat.le_of_ble_eq_true rfl, Nat.le_of_ble_eq_true rfl⟩ ⟨Nat.zero_le _, Nat.zero_le _⟩ 0 rfl rfl rfl hl.1 rfl (Nat.le_of_ble_eq_true rfl) (fun q h => h) dX5_move_40 (fun r u2 H locs hw hP hS _ => ?_)
          have hu2 : u2 = (tb u1 j).2 := hw.2
          refine tp_i (z := (tb u1 j).1) hw.1 ?_
          have st2 := tb_st (v := j) st1.1 hj1 (by omega)
          rw [← hu2] at st2
          have b2 := st2.2.2.2.2
          have hi2 : i < sVc u2 := by rw [st2.2.1, st1.2.1]; exact hi
          have hj2 : j < sVc u2 := by rw [st2.2.1]; exact hj1
          have hvc2 := st2.1.vc
          refine lv_istore (lv' := [(4, .int (tb u1 j).1), (0, .ref (ad 0)), (1, .int (nI i)), (2, .int (nI j)), (3, .int n)]) hx hb dX5_move_43 hl (by decide) rfl (fun ls hl => ?_)
          refine lv_iload hx hb dX5_move_45 (lv_at hl 0 rfl) ?_
          refine lv_if_eq (tgt := 53) hx hb dX5_move_47 (by decide) (fun c47 => ?_) (fun c47 => ?_)
          · by_cases hc : sSm u2 i < n
            · skip
              refine lv_aload_n hx hb dX5_move_53 rfl (lv_at hl 1 rfl) ?_
              refine va_get (D := D) (ci := 5) (v := .ref (ad 5)) (C := RX5) (T := TX5) (N := 20) hx hb hts in_X5 hown hK hP 0 rfl rfl 5 (by decide) (hts _ kf_X5_22) (fun _ h9 => h9) rfl dX5_move_54 ?_
              refine lv_iload_n hx hb dX5_move_57 rfl (lv_at hl 2 rfl) ?_
              refine ar_g hx hb hK hP 5 rfl (by omega) (by decide) dX5_move_58 ?_
              refine lv_iload_n hx hb dX5_move_59 rfl (lv_at hl 4 rfl) ?_
              refine lv_icmp_ge (tgt := 70) hx hb dX5_move_60 (by decide) (fun c9 => absurd c9 (i_nle.mpr hc)) (fun _ => ?_)
              refine lv_aload_n hx hb dX5_move_63 rfl (lv_at hl 1 rfl) ?_
              refine lv_bipush (v := (-6)) hx hb dX5_move_64 (by decide) ?_
              refine cl_i (rest := []) (c_X5_alarmed l D cA ad A hDD u2 (-6) st2.1 (by omega)) ⟨hx, hb, hml, hown, hts⟩ hK hP hS kv_X5_112 ⟨Nat.le_of_ble_eq_true rfl, Nat.le_of_ble_eq_true rfl⟩ ⟨Nat.zero_le _, Nat.zero_le _⟩ 0 rfl rfl rfl hl.1 rfl (Nat.le_of_ble_eq_true rfl) (fun q h => h) dX5_move_66 (fun r u H locs hw hP hS _ => ?_)
              rw [hw.2] at hP
              refine tp_i (z := (-6)) hw.1 ?_
              exact rt_i (v := (-6)) (u := (ra u2)) hx hb hr hlocks hS hP ((by rw [move_g h0 h1 hn c35, ← hu1]; unfold g_move; rw [← hu2, if_pos c47, if_pos hc]; exact ⟨rfl, rfl⟩)) dX5_move_69
            · skip
              refine lv_aload_n hx hb dX5_move_53 rfl (lv_at hl 1 rfl) ?_
              refine va_get (D := D) (ci := 5) (v := .ref (ad 5)) (C := RX5) (T := TX5) (N := 20) hx hb hts in_X5 hown hK hP 0 rfl rfl 5 (by decide) (hts _ kf_X5_22) (fun _ h9 => h9) rfl dX5_move_54 ?_
              refine lv_iload_n hx hb dX5_move_57 rfl (lv_at hl 2 rfl) ?_
              refine ar_g hx hb hK hP 5 rfl (by omega) (by decide) dX5_move_58 ?_
              refine lv_iload_n hx hb dX5_move_59 rfl (lv_at hl 4 rfl) ?_
              refine lv_icmp_ge (tgt := 70) hx hb dX5_move_60 (by decide) (fun _ => ?_) (fun c9 => absurd (i_nlt.mp hc) c9)
              by_cases hd : sLim u2 j < sSm u2 j + n
              · skip
                refine lv_aload_n hx hb dX5_move_70 rfl (lv_at hl 1 rfl) ?_
                refine va_get (D := D) (ci := 5) (v := .ref (ad 5)) (C := RX5) (T := TX5) (N := 20) hx hb hts in_X5 hown hK hP 0 rfl rfl 5 (by decide) (hts _ kf_X5_22) (fun _ h9 => h9) rfl dX5_move_71 ?_
                refine lv_iload_n hx hb dX5_move_74 rfl (lv_at hl 3 rfl) ?_
                refine ar_g hx hb hK hP 5 rfl (by omega) (by decide) dX5_move_75 ?_
                refine lv_iload_n hx hb dX5_move_76 rfl (lv_at hl 4 rfl) ?_
                refine lv_iadd hx hb dX5_move_77 ?_
                refine lv_aload_n hx hb dX5_move_78 rfl (lv_at hl 1 rfl) ?_
                refine va_get (D := D) (ci := 5) (v := .ref (ad 6)) (C := RX5) (T := TX5) (N := 20) hx hb hts in_X5 hown hK hP 0 rfl rfl 6 (by decide) (hts _ kf_X5_25) (fun _ h9 => h9) rfl dX5_move_79 ?_
                refine lv_iload_n hx hb dX5_move_82 rfl (lv_at hl 3 rfl) ?_
                refine ar_g hx hb hK hP 6 rfl (by omega) (by decide) dX5_move_83 ?_
                refine lv_icmp_le (tgt := 94) hx hb dX5_move_84 (by decide) (fun c9 => absurd c9 (i_nle.mpr hd)) (fun _ => ?_)
                refine lv_aload_n hx hb dX5_move_87 rfl (lv_at hl 1 rfl) ?_
                refine lv_bipush (v := (-5)) hx hb dX5_move_88 (by decide) ?_
                refine cl_i (rest := []) (c_X5_answered l D cA ad A hDD u2 (-5) st2.1 (by omega)) ⟨hx, hb, hml, hown, hts⟩ hK hP hS kv_X5_106 ⟨Nat.le_of_ble_eq_true rfl, Nat.le_of_ble_eq_true rfl⟩ ⟨Nat.zero_le _, Nat.zero_le _⟩ 0 rfl rfl rfl hl.1 rfl (Nat.le_of_ble_eq_true rfl) (fun q h => h) dX5_move_90 (fun r u H locs hw hP hS _ => ?_)
                rw [hw.2] at hP
                refine tp_i (z := (-5)) hw.1 ?_
                exact rt_i (v := (-5)) (u := (da 300 u2)) hx hb hr hlocks hS hP ((by rw [move_g h0 h1 hn c35, ← hu1]; unfold g_move; rw [← hu2, if_pos c47, if_neg hc, if_pos hd]; exact ⟨rfl, rfl⟩)) dX5_move_93
              · skip
                refine lv_aload_n hx hb dX5_move_70 rfl (lv_at hl 1 rfl) ?_
                refine va_get (D := D) (ci := 5) (v := .ref (ad 5)) (C := RX5) (T := TX5) (N := 20) hx hb hts in_X5 hown hK hP 0 rfl rfl 5 (by decide) (hts _ kf_X5_22) (fun _ h9 => h9) rfl dX5_move_71 ?_
                refine lv_iload_n hx hb dX5_move_74 rfl (lv_at hl 3 rfl) ?_
                refine ar_g hx hb hK hP 5 rfl (by omega) (by decide) dX5_move_75 ?_
                refine lv_iload_n hx hb dX5_move_76 rfl (lv_at hl 4 rfl) ?_
                refine lv_iadd hx hb dX5_move_77 ?_
                refine lv_aload_n hx hb dX5_move_78 rfl (lv_at hl 1 rfl) ?_
                refine va_get (D := D) (ci := 5) (v := .ref (ad 6)) (C := RX5) (T := TX5) (N := 20) hx hb hts in_X5 hown hK hP 0 rfl rfl 6 (by decide) (hts _ kf_X5_25) (fun _ h9 => h9) rfl dX5_move_79 ?_
                refine lv_iload_n hx hb dX5_move_82 rfl (lv_at hl 3 rfl) ?_
                refine ar_g hx hb hK hP 6 rfl (by omega) (by decide) dX5_move_83 ?_
                refine lv_icmp_le (tgt := 94) hx hb dX5_move_84 (by decide) (fun _ => ?_) (fun c9 => absurd (i_nlt.mp hd) c9)
                refine lv_aload_n hx hb dX5_move_94 rfl (lv_at hl 1 rfl) ?_
                refine va_get (D := D) (ci := 5) (v := .ref (ad 5)) (C := RX5) (T := TX5) (N := 20) hx hb hts in_X5 hown hK hP 0 rfl rfl 5 (by decide) (hts _ kf_X5_22) (fun _ h9 => h9) rfl dX5_move_95 ?_
                refine lv_iload_n hx hb dX5_move_98 rfl (lv_at hl 2 rfl) ?_
                refine lv_dup2_11 hx hb dX5_move_99 rfl rfl ?_
                refine ar_g hx hb hK hP 5 rfl (by omega) (by decide) dX5_move_100 ?_
                refine lv_iload_n hx hb dX5_move_101 rfl (lv_at hl 4 rfl) ?_
                refine lv_isub hx hb dX5_move_102 ?_
                refine ar_p hx hb hK hP (hDD _) hS 5 rfl (x := ((sSm u2 i) - n)) (by omega) (by decide) dX5_move_103 (fun H locs hP hS => ?_)
                have hP : va_P D vwCl (rW ad cA (u2.1, ((sLim u2), (upd (sSm u2) i ((sSm u2 i) - n)), (sNx u2), (sLf u2), (sRt u2), (sVc u2)), u2.2.2.1, u2.2.2.2.1, u2.2.2.2.2)) H := hP
                refine lv_aload_n hx hb dX5_move_104 rfl (lv_at hl 1 rfl) ?_
                refine va_get (D := D) (ci := 5) (v := .ref (ad 5)) (C := RX5) (T := TX5) (N := 20) hx hb hts in_X5 hown hK hP 0 rfl rfl 5 (by decide) (hts _ kf_X5_22) (fun _ h9 => h9) rfl dX5_move_105 ?_
                refine lv_iload_n hx hb dX5_move_108 rfl (lv_at hl 3 rfl) ?_
                refine lv_dup2_11 hx hb dX5_move_109 rfl rfl ?_
                refine ar_g hx hb hK hP 5 rfl (by omega) (by decide) dX5_move_110 ?_
                refine lv_iload_n hx hb dX5_move_111 rfl (lv_at hl 4 rfl) ?_
                refine lv_iadd hx hb dX5_move_112 ?_
                refine ar_p hx hb hK hP (hDD _) hS 5 rfl (x := (((upd (sSm u2) i ((sSm u2 i) - n)) j) + n)) (by omega) (by decide) dX5_move_113 (fun H locs hP hS => ?_)
                have hP : va_P D vwCl (rW ad cA (u2.1, ((sLim u2), (upd (upd (sSm u2) i ((sSm u2 i) - n)) j (((upd (sSm u2) i ((sSm u2 i) - n)) j) + n)), (sNx u2), (sLf u2), (sRt u2), (sVc u2)), u2.2.2.1, u2.2.2.2.1, u2.2.2.2.2)) H := hP
                refine lv_aload_n hx hb dX5_move_114 rfl (lv_at hl 1 rfl) ?_
                refine lv_aload_n hx hb dX5_move_115 rfl (lv_at hl 1 rfl) ?_
                refine va_get (D := D) (ci := 5) (v := .ref (ad 5)) (C := RX5) (T := TX5) (N := 20) hx hb hts in_X5 hown hK hP 0 rfl rfl 5 (by decide) (hts _ kf_X5_22) (fun _ h9 => h9) rfl dX5_move_116 ?_
                refine lv_iload_n hx hb dX5_move_119 rfl (lv_at hl 2 rfl) ?_
                refine ar_g hx hb hK hP 5 rfl (by omega) (by decide) dX5_move_120 ?_
                refine cl_i (rest := []) (c_X5_ended l D cA ad A hDD (u2.1, ((sLim u2), (upd (upd (sSm u2) i ((sSm u2 i) - n)) j (((upd (sSm u2) i ((sSm u2 i) - n)) j) + n)), (sNx u2), (sLf u2), (sRt u2), (sVc u2)), u2.2.2.1, u2.2.2.2.1, u2.2.2.2.2) ((upd (upd (sSm u2) i ((sSm u2 i) - n)) j (((upd (sSm u2) i ((sSm u2 i) - n)) j) + n)) i) (move_inv st2.1 hi2 hj2 hn hc hd) (by show sBc u2 + sGr u2 < 2147483647; omega)) ⟨hx, hb, hml, hown, hts⟩ hK hP hS kv_X5_109 ⟨Nat.le_of_ble_eq_true rfl, Nat.le_of_ble_eq_true rfl⟩ ⟨Nat.zero_le _, Nat.zero_le _⟩ 0 rfl rfl rfl hl.1 rfl (Nat.le_of_ble_eq_true rfl) (fun q h => h) dX5_move_121 (fun r u H locs hw hP hS _ => ?_)
                rw [hw.2] at hP
                refine tp_i (z := ((upd (upd (sSm u2) i ((sSm u2 i) - n)) j (((upd (sSm u2) i ((sSm u2 i) - n)) j) + n)) i)) hw.1 ?_
                exact rt_i (v := ((upd (upd (sSm u2) i ((sSm u2 i) - n)) j (((upd (sSm u2) i ((sSm u2 i) - n)) j) + n)) i)) (u := (da 200 (u2.1, ((sLim u2), (upd (upd (sSm u2) i ((sSm u2 i) - n)) j (((upd (sSm u2) i ((sSm u2 i) - n)) j) + n)), (sNx u2), (sLf u2), (sRt u2), (sVc u2)), u2.2.2.1, u2.2.2.2.1, u2.2.2.2.2))) hx hb hr hlocks hS hP ((by rw [move_g h0 h1 hn c35, ← hu1]; unfold g_move; rw [← hu2, if_pos c47, if_neg hc, if_neg hd]; exact ⟨rfl, rfl⟩)) dX5_move_124
          · refine lv_iload hx hb dX5_move_50 (lv_at hl 0 rfl) ?_
            exact rt_i (v := (tb u1 j).1) (u := u2) hx hb hr hlocks hS hP ((by rw [move_g h0 h1 hn c35, ← hu1]; unfold g_move; rw [if_neg c47]; exact ⟨rfl, hu2⟩)) dX5_move_52
      · skip
        refine lv_iload_n hx hb dX5_move_16 rfl (lv_at hl 3 rfl) ?_
        refine cl_s (rest := []) (c_X5_isAmount l D cA ad A hDD σ n ) ⟨hx, hb, hml, hown, hts⟩ hK hP hS kv_X5_63 ⟨Nat.le_of_ble_eq_true rfl, Nat.le_of_ble_eq_true rfl⟩ ⟨Nat.zero_le _, Nat.zero_le _⟩ rfl hl.1 rfl (Nat.le_of_ble_eq_true rfl) (fun q h => h) dX5_move_17 (fun r u H locs hw hP hS => ?_)
        rw [hw.2] at hP
        refine tp_i (z := (bz (amt n))) hw.1 ?_
        refine tp_i (z := 0) (bz_0 hn) ?_
        refine lv_if_ne (tgt := 26) hx hb dX5_move_20 (by decide) (fun c9 => absurd (by decide) c9) (fun _ => ?_)
        refine lv_bipush (v := (-2)) hx hb dX5_move_23 (by decide) ?_
        exact rt_i (v := (-2)) (u := σ) hx hb hr hlocks hS hP (pr2 (move_b3 h0 h1 hn)) dX5_move_25
set_option maxHeartbeats 4000000 in
set_option maxRecDepth 100000 in
theorem c_X5_swap (l : Launch) (D : va_G) (cA : ClassId) (ad : Nat → Nat) (A : Nat → Prop) (hDD : ∀ u, va_D A (rW ad cA u)) (σ : CS) (v : Int32) (hI : Inv σ) (hg : sGr σ = 0) (hb9 : sBc σ ≤ 1000000000) : Ct l D cA (rW ad cA) A yX5_swap cX5_swap 4 (some .int) 7 150 [.ref (ad 0), .int v] σ (fun r u => r = (f_swap σ v).1 ∧ u = (f_swap σ v).2) := by
  refine Ct.of (by decide) (Nat.le_of_ble_eq_true rfl) ?_
  intro p e s m below meth c ls S0 hr hlocks hK hP hS hl
  obtain ⟨hx, hb, hml, hown, hts⟩ := id S0
  have hl : lv_has ls 4 [(0, .ref (ad 0)), (1, .int v)] := hl
  have hkc := hI.kc
  have hvc := hI.vc
  have hgc := hI.gr
  have htc := hI.tc
  rcases ix_cases (n := sVc σ) v (by omega) with h0 | ⟨j, hj, rfl⟩
  · refine lv_aload_n hx hb dX5_swap_0 rfl (lv_at hl 0 rfl) ?_
    refine lv_iload_n hx hb dX5_swap_1 rfl (lv_at hl 1 rfl) ?_
    refine cl_i (rest := []) (c_X5_isVault l D cA ad A hDD σ v ) ⟨hx, hb, hml, hown, hts⟩ hK hP hS kv_X5_67 ⟨Nat.le_of_ble_eq_true rfl, Nat.le_of_ble_eq_true rfl⟩ ⟨Nat.zero_le _, Nat.zero_le _⟩ 0 rfl rfl rfl hl.1 rfl (Nat.le_of_ble_eq_true rfl) (fun q h => h) dX5_swap_2 (fun r u H locs hw hP hS _ => ?_)
    rw [hw.2] at hP
    refine tp_i (z := (hz (sVc σ) v)) hw.1 ?_
    refine tp_i (z := 0) (hz_0 h0) ?_
    refine lv_if_ne (tgt := 11) hx hb dX5_swap_5 (by decide) (fun c9 => absurd (by decide) c9) (fun _ => ?_)
    refine lv_bipush (v := (-2)) hx hb dX5_swap_8 (by decide) ?_
    exact rt_i (v := (-2)) (u := σ) hx hb hr hlocks hS hP (pr2 (swap_b1 h0)) dX5_swap_10
  · have h0 := ix_nI hj (n := sVc σ) (by omega)
    refine lv_aload_n hx hb dX5_swap_0 rfl (lv_at hl 0 rfl) ?_
    refine lv_iload_n hx hb dX5_swap_1 rfl (lv_at hl 1 rfl) ?_
    refine cl_i (rest := []) (c_X5_isVault l D cA ad A hDD σ (nI j) ) ⟨hx, hb, hml, hown, hts⟩ hK hP hS kv_X5_67 ⟨Nat.le_of_ble_eq_true rfl, Nat.le_of_ble_eq_true rfl⟩ ⟨Nat.zero_le _, Nat.zero_le _⟩ 0 rfl rfl rfl hl.1 rfl (Nat.le_of_ble_eq_true rfl) (fun q h => h) dX5_swap_2 (fun r u H locs hw hP hS _ => ?_)
    rw [hw.2] at hP
    refine tp_i (z := (hz (sVc σ) (nI j))) hw.1 ?_
    refine tp_i (z := 1) (hz_1 h0) ?_
    refine lv_if_ne (tgt := 11) hx hb dX5_swap_5 (by decide) (fun _ => ?_) (fun c9 => absurd c9 (by decide))
    refine lv_aload_n hx hb dX5_swap_11 rfl (lv_at hl 0 rfl) ?_
    refine lv_iload_n hx hb dX5_swap_12 rfl (lv_at hl 1 rfl) ?_
    refine cl_i (rest := []) (c_X5_turnBoth l D cA ad A hDD σ j  hI hj (by omega) (by omega)) ⟨hx, hb, hml, hown, hts⟩ hK hP hS kv_X5_103 ⟨Nat.le_of_ble_eq_true rfl, Nat.le_of_ble_eq_true rfl⟩ ⟨Nat.zero_le _, Nat.zero_le _⟩ 0 rfl rfl rfl hl.1 rfl (Nat.le_of_ble_eq_true rfl) (fun q h => h) dX5_swap_13 (fun r u H locs hw hP hS _ => ?_)
    rw [hw.2] at hP
    refine tp_i (z := (tb σ j).1) hw.1 ?_
    refine lv_istore_n (lv' := [(2, .int (tb σ j).1), (0, .ref (ad 0)), (1, .int (nI j))]) hx hb dX5_swap_16 rfl hl (by decide) rfl (fun ls hl => ?_)
    refine lv_iload_n hx hb dX5_swap_17 rfl (lv_at hl 0 rfl) ?_
    refine lv_if_eq (tgt := 23) hx hb dX5_swap_18 (by decide) (fun c18 => ?_) (fun c18 => ?_)
    · have st1 := tb_st (v := j) hI hj (by omega)
      have b1 := st1.2.2.2.2
      have hj1 : j < sVc (tb σ j).2 := by rw [st1.2.1]; exact hj
      have hvc1 := st1.1.vc
      refine lv_aload_n hx hb dX5_swap_23 rfl (lv_at hl 1 rfl) ?_
      refine va_get (D := D) (ci := 5) (v := .ref (ad 8)) (C := RX5) (T := TX5) (N := 20) hx hb hts in_X5 hown hK hP 0 rfl rfl 8 (by decide) (hts _ kf_X5_31) (fun _ h9 => h9) rfl dX5_swap_24 ?_
      refine lv_iconst (v := 2) hx hb dX5_swap_27 (by decide) ?_
      refine lv_iload_n hx hb dX5_swap_28 rfl (lv_at hl 2 rfl) ?_
      refine lv_imul hx hb dX5_swap_29 ?_
      refine tp_i (z := (nI (2 * j))) (pk_mul 2 _) ?_
      refine ar_g hx hb hK hP 8 rfl (by omega) (by decide) dX5_swap_30 ?_
      refine tp_i (z := (sLf (tb σ j).2 j)) (mix_0 _ _ _) ?_
      refine lv_istore_n (lv' := [(3, .int (sLf (tb σ j).2 j)), (2, .int (tb σ j).1), (0, .ref (ad 0)), (1, .int (nI j))]) hx hb dX5_swap_31 rfl hl (by decide) rfl (fun ls hl => ?_)
      refine lv_aload_n hx hb dX5_swap_32 rfl (lv_at hl 2 rfl) ?_
      refine va_get (D := D) (ci := 5) (v := .ref (ad 8)) (C := RX5) (T := TX5) (N := 20) hx hb hts in_X5 hown hK hP 0 rfl rfl 8 (by decide) (hts _ kf_X5_31) (fun _ h9 => h9) rfl dX5_swap_33 ?_
      refine lv_iconst (v := 2) hx hb dX5_swap_36 (by decide) ?_
      refine lv_iload_n hx hb dX5_swap_37 rfl (lv_at hl 3 rfl) ?_
      refine lv_imul hx hb dX5_swap_38 ?_
      refine tp_i (z := (nI (2 * j))) (pk_mul 2 _) ?_
      refine lv_aload_n hx hb dX5_swap_39 rfl (lv_at hl 2 rfl) ?_
      refine va_get (D := D) (ci := 5) (v := .ref (ad 8)) (C := RX5) (T := TX5) (N := 20) hx hb hts in_X5 hown hK hP 0 rfl rfl 8 (by decide) (hts _ kf_X5_31) (fun _ h9 => h9) rfl dX5_swap_40 ?_
      refine lv_iconst (v := 2) hx hb dX5_swap_43 (by decide) ?_
      refine lv_iload_n hx hb dX5_swap_44 rfl (lv_at hl 3 rfl) ?_
      refine lv_imul hx hb dX5_swap_45 ?_
      refine tp_i (z := (nI (2 * j))) (pk_mul 2 _) ?_
      refine lv_iconst (v := 1) hx hb dX5_swap_46 (by decide) ?_
      refine lv_iadd hx hb dX5_swap_47 ?_
      refine tp_i (z := (nI ((2 * j) + 1))) (nI_1 _) ?_
      refine ar_g hx hb hK hP 8 rfl (by omega) (by decide) dX5_swap_48 ?_
      refine tp_i (z := (sRt (tb σ j).2 j)) (mix_1 _ _ _) ?_
      refine ar_p hx hb hK hP (hDD _) hS 8 rfl (x := (sRt (tb σ j).2 j)) (by omega) (by decide) dX5_swap_49 (fun H locs hP hS => ?_)
      have hP := (mix_u0 (sLf (tb σ j).2) (sRt (tb σ j).2) j (sRt (tb σ j).2 j)) ▸ hP
      have hP : va_P D vwCl (rW ad cA ((tb σ j).2.1, ((sLim (tb σ j).2), (sSm (tb σ j).2), (sNx (tb σ j).2), (upd (sLf (tb σ j).2) j (sRt (tb σ j).2 j)), (sRt (tb σ j).2), (sVc (tb σ j).2)), (tb σ j).2.2.2.1, (tb σ j).2.2.2.2.1, (tb σ j).2.2.2.2.2)) H := hP
      refine lv_aload_n hx hb dX5_swap_50 rfl (lv_at hl 2 rfl) ?_
      refine va_get (D := D) (ci := 5) (v := .ref (ad 8)) (C := RX5) (T := TX5) (N := 20) hx hb hts in_X5 hown hK hP 0 rfl rfl 8 (by decide) (hts _ kf_X5_31) (fun _ h9 => h9) rfl dX5_swap_51 ?_
      refine lv_iconst (v := 2) hx hb dX5_swap_54 (by decide) ?_
      refine lv_iload_n hx hb dX5_swap_55 rfl (lv_at hl 3 rfl) ?_
      refine lv_imul hx hb dX5_swap_56 ?_
      refine tp_i (z := (nI (2 * j))) (pk_mul 2 _) ?_
      refine lv_iconst (v := 1) hx hb dX5_swap_57 (by decide) ?_
      refine lv_iadd hx hb dX5_swap_58 ?_
      refine tp_i (z := (nI ((2 * j) + 1))) (nI_1 _) ?_
      refine lv_iload_n hx hb dX5_swap_59 rfl (lv_at hl 0 rfl) ?_
      refine ar_p hx hb hK hP (hDD _) hS 8 rfl (x := (sLf (tb σ j).2 j)) (by omega) (by decide) dX5_swap_60 (fun H locs hP hS => ?_)
      have hP := (mix_u1 (upd (sLf (tb σ j).2) j (sRt (tb σ j).2 j)) (sRt (tb σ j).2) j (sLf (tb σ j).2 j)) ▸ hP
      have hP : va_P D vwCl (rW ad cA ((tb σ j).2.1, ((sLim (tb σ j).2), (sSm (tb σ j).2), (sNx (tb σ j).2), (upd (sLf (tb σ j).2) j (sRt (tb σ j).2 j)), (upd (sRt (tb σ j).2) j (sLf (tb σ j).2 j)), (sVc (tb σ j).2)), (tb σ j).2.2.2.1, (tb σ j).2.2.2.2.1, (tb σ j).2.2.2.2.2)) H := hP
      refine lv_aload_n hx hb dX5_swap_61 rfl (lv_at hl 2 rfl) ?_
      refine lv_aload_n hx hb dX5_swap_62 rfl (lv_at hl 2 rfl) ?_
      refine va_get (D := D) (ci := 5) (v := .ref (ad 8)) (C := RX5) (T := TX5) (N := 20) hx hb hts in_X5 hown hK hP 0 rfl rfl 8 (by decide) (hts _ kf_X5_31) (fun _ h9 => h9) rfl dX5_swap_63 ?_
      refine lv_iconst (v := 2) hx hb dX5_swap_66 (by decide) ?_
      refine lv_iload_n hx hb dX5_swap_67 rfl (lv_at hl 3 rfl) ?_
      refine lv_imul hx hb dX5_swap_68 ?_
      refine tp_i (z := (nI (2 * j))) (pk_mul 2 _) ?_
      refine ar_g hx hb hK hP 8 rfl (by omega) (by decide) dX5_swap_69 ?_
      refine tp_i (z := ((upd (sLf (tb σ j).2) j (sRt (tb σ j).2 j)) j)) (mix_0 _ _ _) ?_
      refine tp_i (z := (sRt (tb σ j).2 j)) upd_eq ?_
      refine cl_i (rest := []) (c_X5_ended l D cA ad A hDD ((tb σ j).2.1, ((sLim (tb σ j).2), (sSm (tb σ j).2), (sNx (tb σ j).2), (upd (sLf (tb σ j).2) j (sRt (tb σ j).2 j)), (upd (sRt (tb σ j).2) j (sLf (tb σ j).2 j)), (sVc (tb σ j).2)), (tb σ j).2.2.2.1, (tb σ j).2.2.2.2.1, (tb σ j).2.2.2.2.2) (sRt (tb σ j).2 j) (swap_inv st1.1 hj1) (by show sBc (tb σ j).2 + sGr (tb σ j).2 < 2147483647; omega)) ⟨hx, hb, hml, hown, hts⟩ hK hP hS kv_X5_109 ⟨Nat.le_of_ble_eq_true rfl, Nat.le_of_ble_eq_true rfl⟩ ⟨Nat.zero_le _, Nat.zero_le _⟩ 0 rfl rfl rfl hl.1 rfl (Nat.le_of_ble_eq_true rfl) (fun q h => h) dX5_swap_70 (fun r u H locs hw hP hS _ => ?_)
      rw [hw.2] at hP
      refine tp_i (z := (sRt (tb σ j).2 j)) hw.1 ?_
      exact rt_i (v := (sRt (tb σ j).2 j)) (u := (da 200 ((tb σ j).2.1, ((sLim (tb σ j).2), (sSm (tb σ j).2), (sNx (tb σ j).2), (upd (sLf (tb σ j).2) j (sRt (tb σ j).2 j)), (upd (sRt (tb σ j).2) j (sLf (tb σ j).2 j)), (sVc (tb σ j).2)), (tb σ j).2.2.2.1, (tb σ j).2.2.2.2.1, (tb σ j).2.2.2.2.2))) hx hb hr hlocks hS hP ((by rw [swap_g h0]; unfold g_swap; rw [if_pos c18]; exact ⟨rfl, rfl⟩)) dX5_swap_73
    · refine lv_iload_n hx hb dX5_swap_21 rfl (lv_at hl 0 rfl) ?_
      exact rt_i (v := (tb σ j).1) (u := (tb σ j).2) hx hb hr hlocks hS hP ((by rw [swap_g h0]; unfold g_swap; rw [if_neg c18]; exact ⟨rfl, rfl⟩)) dX5_swap_22
set_option maxHeartbeats 4000000 in
set_option maxRecDepth 100000 in
theorem c_X5_polish (l : Launch) (D : va_G) (cA : ClassId) (ad : Nat → Nat) (A : Nat → Prop) (hDD : ∀ u, va_D A (rW ad cA u)) (σ : CS) (k : Int32) (hI : Inv σ) (hg : sGr σ = 0) (hb9 : sBc σ ≤ 1000000000) : Ct l D cA (rW ad cA) A yX5_polish cX5_polish 4 (some .int) 5 105 [.ref (ad 0), .int k] σ (fun r u => r = (f_polish σ k).1 ∧ u = (f_polish σ k).2) := by
  refine Ct.of (by decide) (Nat.le_of_ble_eq_true rfl) ?_
  intro p e s m below meth c ls S0 hr hlocks hK hP hS hl
  obtain ⟨hx, hb, hml, hown, hts⟩ := id S0
  have hl : lv_has ls 4 [(0, .ref (ad 0)), (1, .int k)] := hl
  have hkc := hI.kc
  have hvc := hI.vc
  have hgc := hI.gr
  have htc := hI.tc
  rcases ix_cases (n := sKc σ) k (by omega) with h0 | ⟨j, hj, rfl⟩
  · refine lv_aload_n hx hb dX5_polish_0 rfl (lv_at hl 0 rfl) ?_
    refine lv_iload_n hx hb dX5_polish_1 rfl (lv_at hl 1 rfl) ?_
    refine cl_i (rest := []) (c_X5_isKey l D cA ad A hDD σ k ) ⟨hx, hb, hml, hown, hts⟩ hK hP hS kv_X5_73 ⟨Nat.le_of_ble_eq_true rfl, Nat.le_of_ble_eq_true rfl⟩ ⟨Nat.zero_le _, Nat.zero_le _⟩ 0 rfl rfl rfl hl.1 rfl (Nat.le_of_ble_eq_true rfl) (fun q h => h) dX5_polish_2 (fun r u H locs hw hP hS _ => ?_)
    rw [hw.2] at hP
    refine tp_i (z := (hz (sKc σ) k)) hw.1 ?_
    refine tp_i (z := 0) (hz_0 h0) ?_
    refine lv_if_ne (tgt := 11) hx hb dX5_polish_5 (by decide) (fun c9 => absurd (by decide) c9) (fun _ => ?_)
    refine lv_bipush (v := (-2)) hx hb dX5_polish_8 (by decide) ?_
    exact rt_i (v := (-2)) (u := σ) hx hb hr hlocks hS hP (pr2 (pol_b h0)) dX5_polish_10
  · have h0 := ix_nI hj (n := sKc σ) (by omega)
    refine lv_aload_n hx hb dX5_polish_0 rfl (lv_at hl 0 rfl) ?_
    refine lv_iload_n hx hb dX5_polish_1 rfl (lv_at hl 1 rfl) ?_
    refine cl_i (rest := []) (c_X5_isKey l D cA ad A hDD σ (nI j) ) ⟨hx, hb, hml, hown, hts⟩ hK hP hS kv_X5_73 ⟨Nat.le_of_ble_eq_true rfl, Nat.le_of_ble_eq_true rfl⟩ ⟨Nat.zero_le _, Nat.zero_le _⟩ 0 rfl rfl rfl hl.1 rfl (Nat.le_of_ble_eq_true rfl) (fun q h => h) dX5_polish_2 (fun r u H locs hw hP hS _ => ?_)
    rw [hw.2] at hP
    refine tp_i (z := (hz (sKc σ) (nI j))) hw.1 ?_
    refine tp_i (z := 1) (hz_1 h0) ?_
    refine lv_if_ne (tgt := 11) hx hb dX5_polish_5 (by decide) (fun _ => ?_) (fun c9 => absurd c9 (by decide))
    refine lv_aload_n hx hb dX5_polish_11 rfl (lv_at hl 0 rfl) ?_
    refine lv_iload_n hx hb dX5_polish_12 rfl (lv_at hl 1 rfl) ?_
    refine cl_i (rest := []) (c_X5_turnKey l D cA ad A hDD σ j hI hj (by omega) (by omega)) ⟨hx, hb, hml, hown, hts⟩ hK hP hS kv_X5_95 ⟨Nat.le_of_ble_eq_true rfl, Nat.le_of_ble_eq_true rfl⟩ ⟨Nat.zero_le _, Nat.zero_le _⟩ 0 rfl rfl rfl hl.1 rfl (Nat.le_of_ble_eq_true rfl) (fun q h => h) dX5_polish_13 (fun r u H locs hw hP hS _ => ?_)
    rw [hw.2] at hP
    refine tp_i (z := (tkm σ j).1) hw.1 ?_
    have et : tkm σ j = (0, tn σ j) := tkm_free hI hj hg
    rw [et] at hP
    have hP : va_P D vwCl (rW ad cA (tn σ j)) H := hP
    have hI1 := tn_inv hI hj (key_free hI hj hg) (by omega)
    refine tp_i (z := 0) (by rw [et]) ?_
    refine lv_istore_n (lv' := [(2, .int 0), (0, .ref (ad 0)), (1, .int (nI j))]) hx hb dX5_polish_16 rfl hl (by decide) rfl (fun ls hl => ?_)
    refine lv_iload_n hx hb dX5_polish_17 rfl (lv_at hl 0 rfl) ?_
    refine lv_if_eq (tgt := 23) hx hb dX5_polish_18 (by decide) (fun _ => ?_) (fun c9 => absurd (by decide) c9)
    refine lv_aload_n hx hb dX5_polish_23 rfl (lv_at hl 1 rfl) ?_
    refine va_get (D := D) (ci := 5) (v := .ref (ad 3)) (C := RX5) (T := TX5) (N := 20) hx hb hts in_X5 hown hK hP 0 rfl rfl 2 (by decide) (hts _ kf_X5_16) (fun _ h9 => h9) rfl dX5_polish_24 ?_
    refine lv_iload_n hx hb dX5_polish_27 rfl (lv_at hl 2 rfl) ?_
    refine ar_g hx hb hK hP 3 rfl (by omega) (by decide) dX5_polish_28 ?_
    refine lv_istore_n (lv' := [(3, .int (sWea (tn σ j) j)), (2, .int 0), (0, .ref (ad 0)), (1, .int (nI j))]) hx hb dX5_polish_29 rfl hl (by decide) rfl (fun ls hl => ?_)
    refine lv_aload_n hx hb dX5_polish_30 rfl (lv_at hl 2 rfl) ?_
    refine va_get (D := D) (ci := 5) (v := .ref (ad 3)) (C := RX5) (T := TX5) (N := 20) hx hb hts in_X5 hown hK hP 0 rfl rfl 2 (by decide) (hts _ kf_X5_16) (fun _ h9 => h9) rfl dX5_polish_31 ?_
    refine lv_iload_n hx hb dX5_polish_34 rfl (lv_at hl 3 rfl) ?_
    refine lv_iconst (v := 0) hx hb dX5_polish_35 (by decide) ?_
    refine ar_p hx hb hK hP (hDD _) hS 3 rfl (x := 0) (by omega) (by decide) dX5_polish_36 (fun H locs hP hS => ?_)
    have hP : va_P D vwCl (rW ad cA (((sTee (tn σ j)), (sStr (tn σ j)), (upd (sWea (tn σ j)) j 0), (sHel (tn σ j)), (sKc (tn σ j))), (tn σ j).2.1, (tn σ j).2.2.1, (tn σ j).2.2.2.1, (tn σ j).2.2.2.2)) H := hP
    refine lv_aload_n hx hb dX5_polish_37 rfl (lv_at hl 2 rfl) ?_
    refine lv_iload_n hx hb dX5_polish_38 rfl (lv_at hl 0 rfl) ?_
    refine cl_i (rest := []) (c_X5_ended l D cA ad A hDD (((sTee (tn σ j)), (sStr (tn σ j)), (upd (sWea (tn σ j)) j 0), (sHel (tn σ j)), (sKc (tn σ j))), (tn σ j).2.1, (tn σ j).2.2.1, (tn σ j).2.2.2.1, (tn σ j).2.2.2.2) (sWea (tn σ j) j) (pol_inv hI1 hj) (by show sBc σ + 1 + (sGr σ + 1) < 2147483647; omega)) ⟨hx, hb, hml, hown, hts⟩ hK hP hS kv_X5_109 ⟨Nat.le_of_ble_eq_true rfl, Nat.le_of_ble_eq_true rfl⟩ ⟨Nat.zero_le _, Nat.zero_le _⟩ 0 rfl rfl rfl hl.1 rfl (Nat.le_of_ble_eq_true rfl) (fun q h => h) dX5_polish_39 (fun r u H locs hw hP hS _ => ?_)
    rw [hw.2] at hP
    refine tp_i (z := (sWea (tn σ j) j)) hw.1 ?_
    exact rt_i (v := (sWea (tn σ j) j)) (u := (da 200 (((sTee (tn σ j)), (sStr (tn σ j)), (upd (sWea (tn σ j)) j 0), (sHel (tn σ j)), (sKc (tn σ j))), (tn σ j).2.1, (tn σ j).2.2.1, (tn σ j).2.2.2.1, (tn σ j).2.2.2.2))) hx hb hr hlocks hS hP (pr2 (pol_g h0)) dX5_polish_42
set_option maxHeartbeats 4000000 in
set_option maxRecDepth 100000 in
theorem c_X5_sum (l : Launch) (D : va_G) (cA : ClassId) (ad : Nat → Nat) (A : Nat → Prop) (hDD : ∀ u, va_D A (rW ad cA u)) (σ : CS) (v : Int32) (hI : Inv σ) (hg : sGr σ = 0) (hb9 : sBc σ ≤ 1000000000) : Ct l D cA (rW ad cA) A yX5_sum cX5_sum 2 (some .int) 1 21 [.ref (ad 0), .int v] σ (fun r u => r = f_sum σ v ∧ u = σ) := by
  refine Ct.of (by decide) (Nat.le_of_ble_eq_true rfl) ?_
  intro p e s m below meth c ls S0 hr hlocks hK hP hS hl
  obtain ⟨hx, hb, hml, hown, hts⟩ := id S0
  have hl : lv_has ls 2 [(0, .ref (ad 0)), (1, .int v)] := hl
  have hkc := hI.kc
  have hvc := hI.vc
  have hgc := hI.gr
  have htc := hI.tc
  rcases ix_cases (n := sVc σ) v (by omega) with h0 | ⟨j, hj, rfl⟩
  · refine lv_aload_n hx hb dX5_sum_0 rfl (lv_at hl 0 rfl) ?_
    refine lv_iload_n hx hb dX5_sum_1 rfl (lv_at hl 1 rfl) ?_
    refine cl_i (rest := []) (c_X5_isVault l D cA ad A hDD σ v ) ⟨hx, hb, hml, hown, hts⟩ hK hP hS kv_X5_67 ⟨Nat.le_of_ble_eq_true rfl, Nat.le_of_ble_eq_true rfl⟩ ⟨Nat.zero_le _, Nat.zero_le _⟩ 0 rfl rfl rfl hl.1 rfl (Nat.le_of_ble_eq_true rfl) (fun q h => h) dX5_sum_2 (fun r u H locs hw hP hS _ => ?_)
    rw [hw.2] at hP
    refine tp_i (z := (hz (sVc σ) v)) hw.1 ?_
    refine tp_i (z := 0) (hz_0 h0) ?_
    refine lv_if_eq (tgt := 17) hx hb dX5_sum_5 (by decide) (fun _ => ?_) (fun c9 => absurd (by decide) c9)
    refine lv_bipush (v := (-2)) hx hb dX5_sum_17 (by decide) ?_
    exact rt_i (v := (-2)) (u := σ) hx hb hr hlocks hS hP (⟨(sum_n h0).symm, rfl⟩) dX5_sum_19
  · have h0 := ix_nI hj (n := sVc σ) (by omega)
    refine lv_aload_n hx hb dX5_sum_0 rfl (lv_at hl 0 rfl) ?_
    refine lv_iload_n hx hb dX5_sum_1 rfl (lv_at hl 1 rfl) ?_
    refine cl_i (rest := []) (c_X5_isVault l D cA ad A hDD σ (nI j) ) ⟨hx, hb, hml, hown, hts⟩ hK hP hS kv_X5_67 ⟨Nat.le_of_ble_eq_true rfl, Nat.le_of_ble_eq_true rfl⟩ ⟨Nat.zero_le _, Nat.zero_le _⟩ 0 rfl rfl rfl hl.1 rfl (Nat.le_of_ble_eq_true rfl) (fun q h => h) dX5_sum_2 (fun r u H locs hw hP hS _ => ?_)
    rw [hw.2] at hP
    refine tp_i (z := (hz (sVc σ) (nI j))) hw.1 ?_
    refine tp_i (z := 1) (hz_1 h0) ?_
    refine lv_if_eq (tgt := 17) hx hb dX5_sum_5 (by decide) (fun c9 => absurd c9 (by decide)) (fun _ => ?_)
    refine lv_aload_n hx hb dX5_sum_8 rfl (lv_at hl 0 rfl) ?_
    refine va_get (D := D) (ci := 5) (v := .ref (ad 5)) (C := RX5) (T := TX5) (N := 20) hx hb hts in_X5 hown hK hP 0 rfl rfl 5 (by decide) (hts _ kf_X5_22) (fun _ h9 => h9) rfl dX5_sum_9 ?_
    refine lv_iload_n hx hb dX5_sum_12 rfl (lv_at hl 1 rfl) ?_
    refine ar_g hx hb hK hP 5 rfl (by omega) (by decide) dX5_sum_13 ?_
    refine lv_goto (tgt := 19) hx hb dX5_sum_14 (by decide) ?_
    exact rt_i (v := (sSm σ j)) (u := σ) hx hb hr hlocks hS hP (⟨(sum_s h0).symm, rfl⟩) dX5_sum_19
set_option maxHeartbeats 4000000 in
set_option maxRecDepth 100000 in
theorem c_X5_wear (l : Launch) (D : va_G) (cA : ClassId) (ad : Nat → Nat) (A : Nat → Prop) (hDD : ∀ u, va_D A (rW ad cA u)) (σ : CS) (k : Int32) (hI : Inv σ) (hg : sGr σ = 0) (hb9 : sBc σ ≤ 1000000000) : Ct l D cA (rW ad cA) A yX5_wear cX5_wear 2 (some .int) 1 21 [.ref (ad 0), .int k] σ (fun r u => r = f_wear σ k ∧ u = σ) := by
  refine Ct.of (by decide) (Nat.le_of_ble_eq_true rfl) ?_
  intro p e s m below meth c ls S0 hr hlocks hK hP hS hl
  obtain ⟨hx, hb, hml, hown, hts⟩ := id S0
  have hl : lv_has ls 2 [(0, .ref (ad 0)), (1, .int k)] := hl
  have hkc := hI.kc
  have hvc := hI.vc
  have hgc := hI.gr
  have htc := hI.tc
  rcases ix_cases (n := sKc σ) k (by omega) with h0 | ⟨j, hj, rfl⟩
  · refine lv_aload_n hx hb dX5_wear_0 rfl (lv_at hl 0 rfl) ?_
    refine lv_iload_n hx hb dX5_wear_1 rfl (lv_at hl 1 rfl) ?_
    refine cl_i (rest := []) (c_X5_isKey l D cA ad A hDD σ k ) ⟨hx, hb, hml, hown, hts⟩ hK hP hS kv_X5_73 ⟨Nat.le_of_ble_eq_true rfl, Nat.le_of_ble_eq_true rfl⟩ ⟨Nat.zero_le _, Nat.zero_le _⟩ 0 rfl rfl rfl hl.1 rfl (Nat.le_of_ble_eq_true rfl) (fun q h => h) dX5_wear_2 (fun r u H locs hw hP hS _ => ?_)
    rw [hw.2] at hP
    refine tp_i (z := (hz (sKc σ) k)) hw.1 ?_
    refine tp_i (z := 0) (hz_0 h0) ?_
    refine lv_if_eq (tgt := 17) hx hb dX5_wear_5 (by decide) (fun _ => ?_) (fun c9 => absurd (by decide) c9)
    refine lv_bipush (v := (-2)) hx hb dX5_wear_17 (by decide) ?_
    exact rt_i (v := (-2)) (u := σ) hx hb hr hlocks hS hP (⟨(wear_n h0).symm, rfl⟩) dX5_wear_19
  · have h0 := ix_nI hj (n := sKc σ) (by omega)
    refine lv_aload_n hx hb dX5_wear_0 rfl (lv_at hl 0 rfl) ?_
    refine lv_iload_n hx hb dX5_wear_1 rfl (lv_at hl 1 rfl) ?_
    refine cl_i (rest := []) (c_X5_isKey l D cA ad A hDD σ (nI j) ) ⟨hx, hb, hml, hown, hts⟩ hK hP hS kv_X5_73 ⟨Nat.le_of_ble_eq_true rfl, Nat.le_of_ble_eq_true rfl⟩ ⟨Nat.zero_le _, Nat.zero_le _⟩ 0 rfl rfl rfl hl.1 rfl (Nat.le_of_ble_eq_true rfl) (fun q h => h) dX5_wear_2 (fun r u H locs hw hP hS _ => ?_)
    rw [hw.2] at hP
    refine tp_i (z := (hz (sKc σ) (nI j))) hw.1 ?_
    refine tp_i (z := 1) (hz_1 h0) ?_
    refine lv_if_eq (tgt := 17) hx hb dX5_wear_5 (by decide) (fun c9 => absurd c9 (by decide)) (fun _ => ?_)
    refine lv_aload_n hx hb dX5_wear_8 rfl (lv_at hl 0 rfl) ?_
    refine va_get (D := D) (ci := 5) (v := .ref (ad 3)) (C := RX5) (T := TX5) (N := 20) hx hb hts in_X5 hown hK hP 0 rfl rfl 2 (by decide) (hts _ kf_X5_16) (fun _ h9 => h9) rfl dX5_wear_9 ?_
    refine lv_iload_n hx hb dX5_wear_12 rfl (lv_at hl 1 rfl) ?_
    refine ar_g hx hb hK hP 3 rfl (by omega) (by decide) dX5_wear_13 ?_
    refine lv_goto (tgt := 19) hx hb dX5_wear_14 (by decide) ?_
    exact rt_i (v := (sWea σ j)) (u := σ) hx hb hr hlocks hS hP (⟨(wear_s h0).symm, rfl⟩) dX5_wear_19
set_option maxHeartbeats 4000000 in
set_option maxRecDepth 100000 in
theorem c_X5_entries (l : Launch) (D : va_G) (cA : ClassId) (ad : Nat → Nat) (A : Nat → Prop) (hDD : ∀ u, va_D A (rW ad cA u)) (σ : CS) (hI : Inv σ) (hg : sGr σ = 0) (hb9 : sBc σ ≤ 1000000000) : Ct l D cA (rW ad cA) A yX5_entries cX5_entries 1 (some .int) 0 0 [.ref (ad 0)] σ (fun r u => r = nI (sBc σ) ∧ u = σ) := by
  refine Ct.of (by decide) (Nat.le_of_ble_eq_true rfl) ?_
  intro p e s m below meth c ls S0 hr hlocks hK hP hS hl
  obtain ⟨hx, hb, hml, hown, hts⟩ := id S0
  have hl : lv_has ls 1 [(0, .ref (ad 0))] := hl
  have hkc := hI.kc
  have hvc := hI.vc
  have hgc := hI.gr
  have htc := hI.tc
  refine lv_aload_n hx hb dX5_entries_0 rfl (lv_at hl 0 rfl) ?_
  refine va_get (D := D) (ci := 5) (v := .int (nI (sBc σ))) (C := RX5) (T := TX5) (N := 20) hx hb hts in_X5 hown hK hP 0 rfl rfl 13 (by decide) (hts _ kf_X5_60) (fun _ h9 => h9) rfl dX5_entries_1 ?_
  exact rt_i (v := (nI (sBc σ))) (u := σ) hx hb hr hlocks hS hP (⟨rfl, rfl⟩) dX5_entries_4
set_option maxHeartbeats 4000000 in
set_option maxRecDepth 100000 in
theorem c_X5_clear (l : Launch) (D : va_G) (cA : ClassId) (ad : Nat → Nat) (A : Nat → Prop) (hDD : ∀ u, va_D A (rW ad cA u)) (σ : CS) (hI : Inv σ) (hg : sGr σ = 0) (hb9 : sBc σ ≤ 1000000000) : Ct l D cA (rW ad cA) A yX5_clear cX5_clear 2 (some .int) 0 0 [.ref (ad 0)] σ (fun r u => r = nI (sBc σ) ∧ u = sbc σ 0) := by
  refine Ct.of (by decide) (Nat.le_of_ble_eq_true rfl) ?_
  intro p e s m below meth c ls S0 hr hlocks hK hP hS hl
  obtain ⟨hx, hb, hml, hown, hts⟩ := id S0
  have hl : lv_has ls 2 [(0, .ref (ad 0))] := hl
  have hkc := hI.kc
  have hvc := hI.vc
  have hgc := hI.gr
  have htc := hI.tc
  refine lv_aload_n hx hb dX5_clear_0 rfl (lv_at hl 0 rfl) ?_
  refine va_get (D := D) (ci := 5) (v := .int (nI (sBc σ))) (C := RX5) (T := TX5) (N := 20) hx hb hts in_X5 hown hK hP 0 rfl rfl 13 (by decide) (hts _ kf_X5_60) (fun _ h9 => h9) rfl dX5_clear_1 ?_
  refine lv_istore_n (lv' := [(1, .int (nI (sBc σ))), (0, .ref (ad 0))]) hx hb dX5_clear_4 rfl hl (by decide) rfl (fun ls hl => ?_)
  refine lv_aload_n hx hb dX5_clear_5 rfl (lv_at hl 1 rfl) ?_
  refine lv_iconst (v := 0) hx hb dX5_clear_6 (by decide) ?_
  refine tp_i (z := (nI 0)) nI_0.symm ?_
  refine va_put (D := D) (ci := 5) (v := .int (nI 0)) (ty := .int) (C := RX5) (T := TX5) (N := 20) hx hb hts in_X5 tyX5 tyX5_ok nmX5 hown hK hP (hDD _) hS 0 rfl rfl 13 (by decide) (hts _ kf_X5_60) (fun _ h9 => h9) rfl (by decide +kernel) rfl rfl (Nat.le_of_ble_eq_true rfl) dX5_clear_7 (fun H locs hP _ hS => ?_)
  have hP : va_P D vwCl (rW ad cA (σ.1, σ.2.1, ((sKp σ), 0), σ.2.2.2.1, σ.2.2.2.2)) H := hP
  refine lv_iload_n hx hb dX5_clear_10 rfl (lv_at hl 0 rfl) ?_
  exact rt_i (v := (nI (sBc σ))) (u := (σ.1, σ.2.1, ((sKp σ), 0), σ.2.2.2.1, σ.2.2.2.2)) hx hb hr hlocks hS hP (⟨rfl, rfl⟩) dX5_clear_11
set_option maxHeartbeats 4000000 in
set_option maxRecDepth 100000 in
theorem c_X5_alarms (l : Launch) (D : va_G) (cA : ClassId) (ad : Nat → Nat) (A : Nat → Prop) (hDD : ∀ u, va_D A (rW ad cA u)) (σ : CS) (hI : Inv σ) (hg : sGr σ = 0) (hb9 : sBc σ ≤ 1000000000) : Ct l D cA (rW ad cA) A yX5_alarms cX5_alarms 1 (some .int) 0 0 [.ref (ad 0)] σ (fun r u => r = sAl σ ∧ u = σ) := by
  refine Ct.of (by decide) (Nat.le_of_ble_eq_true rfl) ?_
  intro p e s m below meth c ls S0 hr hlocks hK hP hS hl
  obtain ⟨hx, hb, hml, hown, hts⟩ := id S0
  have hl : lv_has ls 1 [(0, .ref (ad 0))] := hl
  have hkc := hI.kc
  have hvc := hI.vc
  have hgc := hI.gr
  have htc := hI.tc
  refine lv_aload_n hx hb dX5_alarms_0 rfl (lv_at hl 0 rfl) ?_
  refine va_get (D := D) (ci := 5) (v := .int (sAl σ)) (C := RX5) (T := TX5) (N := 20) hx hb hts in_X5 hown hK hP 0 rfl rfl 14 (by decide) (hts _ kf_X5_89) (fun _ h9 => h9) rfl dX5_alarms_1 ?_
  exact rt_i (v := (sAl σ)) (u := σ) hx hb hr hlocks hS hP (⟨rfl, rfl⟩) dX5_alarms_4
set_option maxHeartbeats 4000000 in
set_option maxRecDepth 100000 in
theorem c_X5_orders (l : Launch) (D : va_G) (cA : ClassId) (ad : Nat → Nat) (A : Nat → Prop) (hDD : ∀ u, va_D A (rW ad cA u)) (σ : CS) (hI : Inv σ) (hg : sGr σ = 0) (hb9 : sBc σ ≤ 1000000000) : Ct l D cA (rW ad cA) A yX5_orders cX5_orders 1 (some .int) 0 0 [.ref (ad 0)] σ (fun r u => r = nI (sTc σ) ∧ u = σ) := by
  refine Ct.of (by decide) (Nat.le_of_ble_eq_true rfl) ?_
  intro p e s m below meth c ls S0 hr hlocks hK hP hS hl
  obtain ⟨hx, hb, hml, hown, hts⟩ := id S0
  have hl : lv_has ls 1 [(0, .ref (ad 0))] := hl
  have hkc := hI.kc
  have hvc := hI.vc
  have hgc := hI.gr
  have htc := hI.tc
  refine lv_aload_n hx hb dX5_orders_0 rfl (lv_at hl 0 rfl) ?_
  refine va_get (D := D) (ci := 5) (v := .int (nI (sTc σ))) (C := RX5) (T := TX5) (N := 20) hx hb hts in_X5 hown hK hP 0 rfl rfl 19 (by decide) (hts _ kf_X5_122) (fun _ h9 => h9) rfl dX5_orders_1 ?_
  exact rt_i (v := (nI (sTc σ))) (u := σ) hx hb hr hlocks hS hP (⟨rfl, rfl⟩) dX5_orders_4
set_option maxHeartbeats 4000000 in
set_option maxRecDepth 100000 in
theorem c_X5_hung (l : Launch) (D : va_G) (cA : ClassId) (ad : Nat → Nat) (A : Nat → Prop) (hDD : ∀ u, va_D A (rW ad cA u)) (σ : CS) (v h : Int32) (hI : Inv σ) (hg : sGr σ = 0) (hb9 : sBc σ ≤ 1000000000) : Ct l D cA (rW ad cA) A yX5_hung cX5_hung 3 (some .int) 1 21 [.ref (ad 0), .int v, .int h] σ (fun r u => r = f_hung σ v h ∧ u = σ) := by
  refine Ct.of (by decide) (Nat.le_of_ble_eq_true rfl) ?_
  intro p e s m below meth c ls S0 hr hlocks hK hP hS hl
  obtain ⟨hx, hb, hml, hown, hts⟩ := id S0
  have hl : lv_has ls 3 [(0, .ref (ad 0)), (1, .int v), (2, .int h)] := hl
  have hkc := hI.kc
  have hvc := hI.vc
  have hgc := hI.gr
  have htc := hI.tc
  rcases ix_cases (n := sVc σ) v (by omega) with h0 | ⟨j, hj, rfl⟩
  · refine lv_aload_n hx hb dX5_hung_0 rfl (lv_at hl 0 rfl) ?_
    refine lv_iload_n hx hb dX5_hung_1 rfl (lv_at hl 1 rfl) ?_
    refine cl_i (rest := []) (c_X5_isVault l D cA ad A hDD σ v ) ⟨hx, hb, hml, hown, hts⟩ hK hP hS kv_X5_67 ⟨Nat.le_of_ble_eq_true rfl, Nat.le_of_ble_eq_true rfl⟩ ⟨Nat.zero_le _, Nat.zero_le _⟩ 0 rfl rfl rfl hl.1 rfl (Nat.le_of_ble_eq_true rfl) (fun q h => h) dX5_hung_2 (fun r u H locs hw hP hS _ => ?_)
    rw [hw.2] at hP
    refine tp_i (z := (hz (sVc σ) v)) hw.1 ?_
    refine tp_i (z := 0) (hz_0 h0) ?_
    refine lv_if_eq (tgt := 28) hx hb dX5_hung_5 (by decide) (fun _ => ?_) (fun c9 => absurd (by decide) c9)
    refine lv_bipush (v := (-2)) hx hb dX5_hung_28 (by decide) ?_
    exact rt_i (v := (-2)) (u := σ) hx hb hr hlocks hS hP (⟨(hung_n h0).symm, rfl⟩) dX5_hung_30
  · have h0 := ix_nI hj (n := sVc σ) (by omega)
    refine lv_aload_n hx hb dX5_hung_0 rfl (lv_at hl 0 rfl) ?_
    refine lv_iload_n hx hb dX5_hung_1 rfl (lv_at hl 1 rfl) ?_
    refine cl_i (rest := []) (c_X5_isVault l D cA ad A hDD σ (nI j) ) ⟨hx, hb, hml, hown, hts⟩ hK hP hS kv_X5_67 ⟨Nat.le_of_ble_eq_true rfl, Nat.le_of_ble_eq_true rfl⟩ ⟨Nat.zero_le _, Nat.zero_le _⟩ 0 rfl rfl rfl hl.1 rfl (Nat.le_of_ble_eq_true rfl) (fun q h => h) dX5_hung_2 (fun r u H locs hw hP hS _ => ?_)
    rw [hw.2] at hP
    refine tp_i (z := (hz (sVc σ) (nI j))) hw.1 ?_
    refine tp_i (z := 1) (hz_1 h0) ?_
    refine lv_if_eq (tgt := 28) hx hb dX5_hung_5 (by decide) (fun c9 => absurd c9 (by decide)) (fun _ => ?_)
    by_cases hh : okh h
    · skip
      refine lv_iload_n hx hb dX5_hung_8 rfl (lv_at hl 2 rfl) ?_
      refine cl_s (rest := []) (c_X5_isHand l D cA ad A hDD σ h ) ⟨hx, hb, hml, hown, hts⟩ hK hP hS kv_X5_70 ⟨Nat.le_of_ble_eq_true rfl, Nat.le_of_ble_eq_true rfl⟩ ⟨Nat.zero_le _, Nat.zero_le _⟩ rfl hl.1 rfl (Nat.le_of_ble_eq_true rfl) (fun q h => h) dX5_hung_9 (fun r u H locs hw hP hS => ?_)
      rw [hw.2] at hP
      refine tp_i (z := (bz (okh h))) hw.1 ?_
      refine tp_i (z := 1) (bz_1 hh) ?_
      refine lv_if_eq (tgt := 28) hx hb dX5_hung_12 (by decide) (fun c9 => absurd c9 (by decide)) (fun _ => ?_)
      rcases hh with rfl | rfl
      · skip
        refine lv_aload_n hx hb dX5_hung_15 rfl (lv_at hl 0 rfl) ?_
        refine va_get (D := D) (ci := 5) (v := .ref (ad 8)) (C := RX5) (T := TX5) (N := 20) hx hb hts in_X5 hown hK hP 0 rfl rfl 8 (by decide) (hts _ kf_X5_31) (fun _ h9 => h9) rfl dX5_hung_16 ?_
        refine lv_iconst (v := 2) hx hb dX5_hung_19 (by decide) ?_
        refine lv_iload_n hx hb dX5_hung_20 rfl (lv_at hl 1 rfl) ?_
        refine lv_imul hx hb dX5_hung_21 ?_
        refine tp_i (z := (nI (2 * j))) (pk_mul 2 _) ?_
        refine lv_iload_n hx hb dX5_hung_22 rfl (lv_at hl 2 rfl) ?_
        refine lv_iadd hx hb dX5_hung_23 ?_
        refine tp_i (z := (nI (2 * j))) (Int32.add_zero _) ?_
        refine ar_g hx hb hK hP 8 rfl (by omega) (by decide) dX5_hung_24 ?_
        refine tp_i (z := (sLf σ j)) (mix_0 _ _ _) ?_
        refine lv_goto (tgt := 30) hx hb dX5_hung_25 (by decide) ?_
        exact rt_i (v := (sLf σ j)) (u := σ) hx hb hr hlocks hS hP (⟨((hung_s h0 (Or.inl rfl)).trans (hd_0 _ _)).symm, rfl⟩) dX5_hung_30
      · skip
        refine lv_aload_n hx hb dX5_hung_15 rfl (lv_at hl 0 rfl) ?_
        refine va_get (D := D) (ci := 5) (v := .ref (ad 8)) (C := RX5) (T := TX5) (N := 20) hx hb hts in_X5 hown hK hP 0 rfl rfl 8 (by decide) (hts _ kf_X5_31) (fun _ h9 => h9) rfl dX5_hung_16 ?_
        refine lv_iconst (v := 2) hx hb dX5_hung_19 (by decide) ?_
        refine lv_iload_n hx hb dX5_hung_20 rfl (lv_at hl 1 rfl) ?_
        refine lv_imul hx hb dX5_hung_21 ?_
        refine tp_i (z := (nI (2 * j))) (pk_mul 2 _) ?_
        refine lv_iload_n hx hb dX5_hung_22 rfl (lv_at hl 2 rfl) ?_
        refine lv_iadd hx hb dX5_hung_23 ?_
        refine tp_i (z := (nI ((2 * j) + 1))) (nI_1 _) ?_
        refine ar_g hx hb hK hP 8 rfl (by omega) (by decide) dX5_hung_24 ?_
        refine tp_i (z := (sRt σ j)) (mix_1 _ _ _) ?_
        refine lv_goto (tgt := 30) hx hb dX5_hung_25 (by decide) ?_
        exact rt_i (v := (sRt σ j)) (u := σ) hx hb hr hlocks hS hP (⟨((hung_s h0 (Or.inr rfl)).trans (hd_1 _ _)).symm, rfl⟩) dX5_hung_30
    · skip
      refine lv_iload_n hx hb dX5_hung_8 rfl (lv_at hl 2 rfl) ?_
      refine cl_s (rest := []) (c_X5_isHand l D cA ad A hDD σ h ) ⟨hx, hb, hml, hown, hts⟩ hK hP hS kv_X5_70 ⟨Nat.le_of_ble_eq_true rfl, Nat.le_of_ble_eq_true rfl⟩ ⟨Nat.zero_le _, Nat.zero_le _⟩ rfl hl.1 rfl (Nat.le_of_ble_eq_true rfl) (fun q h => h) dX5_hung_9 (fun r u H locs hw hP hS => ?_)
      rw [hw.2] at hP
      refine tp_i (z := (bz (okh h))) hw.1 ?_
      refine tp_i (z := 0) (bz_0 hh) ?_
      refine lv_if_eq (tgt := 28) hx hb dX5_hung_12 (by decide) (fun _ => ?_) (fun c9 => absurd (by decide) c9)
      refine lv_bipush (v := (-2)) hx hb dX5_hung_28 (by decide) ?_
      exact rt_i (v := (-2)) (u := σ) hx hb hr hlocks hS hP (⟨(hung_b h0 hh).symm, rfl⟩) dX5_hung_30
set_option maxHeartbeats 4000000 in
set_option maxRecDepth 100000 in
theorem c_X5_isOrder (l : Launch) (D : va_G) (cA : ClassId) (ad : Nat → Nat) (A : Nat → Prop) (hDD : ∀ u, va_D A (rW ad cA u)) (σ : CS) (o v w n : Int32) (hI : Inv σ) : Ct l D cA (rW ad cA) A yX5_isOrder cX5_isOrder 5 (some .boolean) 1 21 [.ref (ad 0), .int o, .int v, .int w, .int n] σ (fun r u => r = bz (isO σ o v w n) ∧ u = σ) := by
  refine Ct.of (by decide) (Nat.le_of_ble_eq_true rfl) ?_
  intro p e s m below meth c ls S0 hr hlocks hK hP hS hl
  obtain ⟨hx, hb, hml, hown, hts⟩ := id S0
  have hl : lv_has ls 5 [(0, .ref (ad 0)), (1, .int o), (2, .int v), (3, .int w), (4, .int n)] := hl
  have hkc := hI.kc
  have hvc := hI.vc
  have hgc := hI.gr
  have htc := hI.tc
  rcases o5 o with rfl | rfl | rfl | rfl | rfl | ho
  · skip
    refine lv_iload_n hx hb dX5_isOrder_0 rfl (lv_at hl 1 rfl) ?_
    refine lv_iconst (v := 4) hx hb dX5_isOrder_1 (by decide) ?_
    refine lv_icmp_ne (tgt := 7) hx hb dX5_isOrder_2 (by decide) (fun _ => ?_) (fun c9 => absurd c9 (by decide))
    refine lv_iload_n hx hb dX5_isOrder_7 rfl (lv_at hl 1 rfl) ?_
    refine lv_if_lt (tgt := 24) hx hb dX5_isOrder_8 (by decide) (fun c9 => absurd c9 (by decide)) (fun _ => ?_)
    refine lv_iload_n hx hb dX5_isOrder_11 rfl (lv_at hl 1 rfl) ?_
    refine lv_iconst (v := 4) hx hb dX5_isOrder_12 (by decide) ?_
    refine lv_icmp_gt (tgt := 24) hx hb dX5_isOrder_13 (by decide) (fun c9 => absurd c9 (by decide)) (fun _ => ?_)
    rcases ix_cases (n := sVc σ) v (by omega) with h0 | ⟨j, hj, rfl⟩
    · refine lv_aload_n hx hb dX5_isOrder_16 rfl (lv_at hl 0 rfl) ?_
      refine lv_iload_n hx hb dX5_isOrder_17 rfl (lv_at hl 2 rfl) ?_
      refine cl_i (rest := []) (c_X5_isVault l D cA ad A hDD σ v ) ⟨hx, hb, hml, hown, hts⟩ hK hP hS kv_X5_67 ⟨Nat.le_of_ble_eq_true rfl, Nat.le_of_ble_eq_true rfl⟩ ⟨Nat.zero_le _, Nat.zero_le _⟩ 0 rfl rfl rfl hl.1 rfl (Nat.le_of_ble_eq_true rfl) (fun q h => h) dX5_isOrder_18 (fun r u H locs hw hP hS _ => ?_)
      rw [hw.2] at hP
      refine tp_i (z := (hz (sVc σ) v)) hw.1 ?_
      refine tp_i (z := 0) (hz_0 h0) ?_
      refine lv_if_ne (tgt := 26) hx hb dX5_isOrder_21 (by decide) (fun c9 => absurd (by decide) c9) (fun _ => ?_)
      refine lv_iconst (v := 0) hx hb dX5_isOrder_24 (by decide) ?_
      exact rt_z (v := 0) (u := σ) hx hb hr hlocks rfl hS hP (⟨(bz_0 (fun q => ix_none_s h0 (isO_v q (by decide)))).symm, rfl⟩) dX5_isOrder_25
    · have h0 := ix_nI hj (n := sVc σ) (by omega)
      refine lv_aload_n hx hb dX5_isOrder_16 rfl (lv_at hl 0 rfl) ?_
      refine lv_iload_n hx hb dX5_isOrder_17 rfl (lv_at hl 2 rfl) ?_
      refine cl_i (rest := []) (c_X5_isVault l D cA ad A hDD σ (nI j) ) ⟨hx, hb, hml, hown, hts⟩ hK hP hS kv_X5_67 ⟨Nat.le_of_ble_eq_true rfl, Nat.le_of_ble_eq_true rfl⟩ ⟨Nat.zero_le _, Nat.zero_le _⟩ 0 rfl rfl rfl hl.1 rfl (Nat.le_of_ble_eq_true rfl) (fun q h => h) dX5_isOrder_18 (fun r u H locs hw hP hS _ => ?_)
      rw [hw.2] at hP
      refine tp_i (z := (hz (sVc σ) (nI j))) hw.1 ?_
      refine tp_i (z := 1) (hz_1 h0) ?_
      refine lv_if_ne (tgt := 26) hx hb dX5_isOrder_21 (by decide) (fun _ => ?_) (fun c9 => absurd c9 (by decide))
      refine lv_iload_n hx hb dX5_isOrder_26 rfl (lv_at hl 1 rfl) ?_
      refine lv_iconst (v := 3) hx hb dX5_isOrder_27 (by decide) ?_
      refine lv_icmp_ne (tgt := 33) hx hb dX5_isOrder_28 (by decide) (fun _ => ?_) (fun c9 => absurd c9 (by decide))
      by_cases hn : amt n
      · skip
        refine lv_iload hx hb dX5_isOrder_33 (lv_at hl 4 rfl) ?_
        refine cl_s (rest := []) (c_X5_isAmount l D cA ad A hDD σ n ) ⟨hx, hb, hml, hown, hts⟩ hK hP hS kv_X5_63 ⟨Nat.le_of_ble_eq_true rfl, Nat.le_of_ble_eq_true rfl⟩ ⟨Nat.zero_le _, Nat.zero_le _⟩ rfl hl.1 rfl (Nat.le_of_ble_eq_true rfl) (fun q h => h) dX5_isOrder_35 (fun r u H locs hw hP hS => ?_)
        rw [hw.2] at hP
        refine tp_i (z := (bz (amt n))) hw.1 ?_
        refine tp_i (z := 1) (bz_1 hn) ?_
        refine lv_if_eq (tgt := 58) hx hb dX5_isOrder_38 (by decide) (fun c9 => absurd c9 (by decide)) (fun _ => ?_)
        refine lv_iload_n hx hb dX5_isOrder_41 rfl (lv_at hl 1 rfl) ?_
        refine lv_iconst (v := 2) hx hb dX5_isOrder_42 (by decide) ?_
        refine lv_icmp_ne (tgt := 54) hx hb dX5_isOrder_43 (by decide) (fun _ => ?_) (fun c9 => absurd c9 (by decide))
        refine lv_iconst (v := 1) hx hb dX5_isOrder_54 (by decide) ?_
        refine lv_goto (tgt := 59) hx hb dX5_isOrder_55 (by decide) ?_
        exact rt_z (v := 1) (u := σ) hx hb hr hlocks rfl hS hP (⟨(bz_1 (Or.inl ⟨Or.inl rfl, ix_some_s h0, hn⟩)).symm, rfl⟩) dX5_isOrder_59
      · skip
        refine lv_iload hx hb dX5_isOrder_33 (lv_at hl 4 rfl) ?_
        refine cl_s (rest := []) (c_X5_isAmount l D cA ad A hDD σ n ) ⟨hx, hb, hml, hown, hts⟩ hK hP hS kv_X5_63 ⟨Nat.le_of_ble_eq_true rfl, Nat.le_of_ble_eq_true rfl⟩ ⟨Nat.zero_le _, Nat.zero_le _⟩ rfl hl.1 rfl (Nat.le_of_ble_eq_true rfl) (fun q h => h) dX5_isOrder_35 (fun r u H locs hw hP hS => ?_)
        rw [hw.2] at hP
        refine tp_i (z := (bz (amt n))) hw.1 ?_
        refine tp_i (z := 0) (bz_0 hn) ?_
        refine lv_if_eq (tgt := 58) hx hb dX5_isOrder_38 (by decide) (fun _ => ?_) (fun c9 => absurd (by decide) c9)
        refine lv_iconst (v := 0) hx hb dX5_isOrder_58 (by decide) ?_
        exact rt_z (v := 0) (u := σ) hx hb hr hlocks rfl hS hP (⟨(bz_0 (fun q => hn (isO_n q (by decide) (by decide)))).symm, rfl⟩) dX5_isOrder_59
  · skip
    refine lv_iload_n hx hb dX5_isOrder_0 rfl (lv_at hl 1 rfl) ?_
    refine lv_iconst (v := 4) hx hb dX5_isOrder_1 (by decide) ?_
    refine lv_icmp_ne (tgt := 7) hx hb dX5_isOrder_2 (by decide) (fun _ => ?_) (fun c9 => absurd c9 (by decide))
    refine lv_iload_n hx hb dX5_isOrder_7 rfl (lv_at hl 1 rfl) ?_
    refine lv_if_lt (tgt := 24) hx hb dX5_isOrder_8 (by decide) (fun c9 => absurd c9 (by decide)) (fun _ => ?_)
    refine lv_iload_n hx hb dX5_isOrder_11 rfl (lv_at hl 1 rfl) ?_
    refine lv_iconst (v := 4) hx hb dX5_isOrder_12 (by decide) ?_
    refine lv_icmp_gt (tgt := 24) hx hb dX5_isOrder_13 (by decide) (fun c9 => absurd c9 (by decide)) (fun _ => ?_)
    rcases ix_cases (n := sVc σ) v (by omega) with h0 | ⟨j, hj, rfl⟩
    · refine lv_aload_n hx hb dX5_isOrder_16 rfl (lv_at hl 0 rfl) ?_
      refine lv_iload_n hx hb dX5_isOrder_17 rfl (lv_at hl 2 rfl) ?_
      refine cl_i (rest := []) (c_X5_isVault l D cA ad A hDD σ v ) ⟨hx, hb, hml, hown, hts⟩ hK hP hS kv_X5_67 ⟨Nat.le_of_ble_eq_true rfl, Nat.le_of_ble_eq_true rfl⟩ ⟨Nat.zero_le _, Nat.zero_le _⟩ 0 rfl rfl rfl hl.1 rfl (Nat.le_of_ble_eq_true rfl) (fun q h => h) dX5_isOrder_18 (fun r u H locs hw hP hS _ => ?_)
      rw [hw.2] at hP
      refine tp_i (z := (hz (sVc σ) v)) hw.1 ?_
      refine tp_i (z := 0) (hz_0 h0) ?_
      refine lv_if_ne (tgt := 26) hx hb dX5_isOrder_21 (by decide) (fun c9 => absurd (by decide) c9) (fun _ => ?_)
      refine lv_iconst (v := 0) hx hb dX5_isOrder_24 (by decide) ?_
      exact rt_z (v := 0) (u := σ) hx hb hr hlocks rfl hS hP (⟨(bz_0 (fun q => ix_none_s h0 (isO_v q (by decide)))).symm, rfl⟩) dX5_isOrder_25
    · have h0 := ix_nI hj (n := sVc σ) (by omega)
      refine lv_aload_n hx hb dX5_isOrder_16 rfl (lv_at hl 0 rfl) ?_
      refine lv_iload_n hx hb dX5_isOrder_17 rfl (lv_at hl 2 rfl) ?_
      refine cl_i (rest := []) (c_X5_isVault l D cA ad A hDD σ (nI j) ) ⟨hx, hb, hml, hown, hts⟩ hK hP hS kv_X5_67 ⟨Nat.le_of_ble_eq_true rfl, Nat.le_of_ble_eq_true rfl⟩ ⟨Nat.zero_le _, Nat.zero_le _⟩ 0 rfl rfl rfl hl.1 rfl (Nat.le_of_ble_eq_true rfl) (fun q h => h) dX5_isOrder_18 (fun r u H locs hw hP hS _ => ?_)
      rw [hw.2] at hP
      refine tp_i (z := (hz (sVc σ) (nI j))) hw.1 ?_
      refine tp_i (z := 1) (hz_1 h0) ?_
      refine lv_if_ne (tgt := 26) hx hb dX5_isOrder_21 (by decide) (fun _ => ?_) (fun c9 => absurd c9 (by decide))
      refine lv_iload_n hx hb dX5_isOrder_26 rfl (lv_at hl 1 rfl) ?_
      refine lv_iconst (v := 3) hx hb dX5_isOrder_27 (by decide) ?_
      refine lv_icmp_ne (tgt := 33) hx hb dX5_isOrder_28 (by decide) (fun _ => ?_) (fun c9 => absurd c9 (by decide))
      by_cases hn : amt n
      · skip
        refine lv_iload hx hb dX5_isOrder_33 (lv_at hl 4 rfl) ?_
        refine cl_s (rest := []) (c_X5_isAmount l D cA ad A hDD σ n ) ⟨hx, hb, hml, hown, hts⟩ hK hP hS kv_X5_63 ⟨Nat.le_of_ble_eq_true rfl, Nat.le_of_ble_eq_true rfl⟩ ⟨Nat.zero_le _, Nat.zero_le _⟩ rfl hl.1 rfl (Nat.le_of_ble_eq_true rfl) (fun q h => h) dX5_isOrder_35 (fun r u H locs hw hP hS => ?_)
        rw [hw.2] at hP
        refine tp_i (z := (bz (amt n))) hw.1 ?_
        refine tp_i (z := 1) (bz_1 hn) ?_
        refine lv_if_eq (tgt := 58) hx hb dX5_isOrder_38 (by decide) (fun c9 => absurd c9 (by decide)) (fun _ => ?_)
        refine lv_iload_n hx hb dX5_isOrder_41 rfl (lv_at hl 1 rfl) ?_
        refine lv_iconst (v := 2) hx hb dX5_isOrder_42 (by decide) ?_
        refine lv_icmp_ne (tgt := 54) hx hb dX5_isOrder_43 (by decide) (fun _ => ?_) (fun c9 => absurd c9 (by decide))
        refine lv_iconst (v := 1) hx hb dX5_isOrder_54 (by decide) ?_
        refine lv_goto (tgt := 59) hx hb dX5_isOrder_55 (by decide) ?_
        exact rt_z (v := 1) (u := σ) hx hb hr hlocks rfl hS hP (⟨(bz_1 (Or.inl ⟨Or.inr rfl, ix_some_s h0, hn⟩)).symm, rfl⟩) dX5_isOrder_59
      · skip
        refine lv_iload hx hb dX5_isOrder_33 (lv_at hl 4 rfl) ?_
        refine cl_s (rest := []) (c_X5_isAmount l D cA ad A hDD σ n ) ⟨hx, hb, hml, hown, hts⟩ hK hP hS kv_X5_63 ⟨Nat.le_of_ble_eq_true rfl, Nat.le_of_ble_eq_true rfl⟩ ⟨Nat.zero_le _, Nat.zero_le _⟩ rfl hl.1 rfl (Nat.le_of_ble_eq_true rfl) (fun q h => h) dX5_isOrder_35 (fun r u H locs hw hP hS => ?_)
        rw [hw.2] at hP
        refine tp_i (z := (bz (amt n))) hw.1 ?_
        refine tp_i (z := 0) (bz_0 hn) ?_
        refine lv_if_eq (tgt := 58) hx hb dX5_isOrder_38 (by decide) (fun _ => ?_) (fun c9 => absurd (by decide) c9)
        refine lv_iconst (v := 0) hx hb dX5_isOrder_58 (by decide) ?_
        exact rt_z (v := 0) (u := σ) hx hb hr hlocks rfl hS hP (⟨(bz_0 (fun q => hn (isO_n q (by decide) (by decide)))).symm, rfl⟩) dX5_isOrder_59
  · skip
    refine lv_iload_n hx hb dX5_isOrder_0 rfl (lv_at hl 1 rfl) ?_
    refine lv_iconst (v := 4) hx hb dX5_isOrder_1 (by decide) ?_
    refine lv_icmp_ne (tgt := 7) hx hb dX5_isOrder_2 (by decide) (fun _ => ?_) (fun c9 => absurd c9 (by decide))
    refine lv_iload_n hx hb dX5_isOrder_7 rfl (lv_at hl 1 rfl) ?_
    refine lv_if_lt (tgt := 24) hx hb dX5_isOrder_8 (by decide) (fun c9 => absurd c9 (by decide)) (fun _ => ?_)
    refine lv_iload_n hx hb dX5_isOrder_11 rfl (lv_at hl 1 rfl) ?_
    refine lv_iconst (v := 4) hx hb dX5_isOrder_12 (by decide) ?_
    refine lv_icmp_gt (tgt := 24) hx hb dX5_isOrder_13 (by decide) (fun c9 => absurd c9 (by decide)) (fun _ => ?_)
    rcases ix_cases (n := sVc σ) v (by omega) with h0 | ⟨j, hj, rfl⟩
    · refine lv_aload_n hx hb dX5_isOrder_16 rfl (lv_at hl 0 rfl) ?_
      refine lv_iload_n hx hb dX5_isOrder_17 rfl (lv_at hl 2 rfl) ?_
      refine cl_i (rest := []) (c_X5_isVault l D cA ad A hDD σ v ) ⟨hx, hb, hml, hown, hts⟩ hK hP hS kv_X5_67 ⟨Nat.le_of_ble_eq_true rfl, Nat.le_of_ble_eq_true rfl⟩ ⟨Nat.zero_le _, Nat.zero_le _⟩ 0 rfl rfl rfl hl.1 rfl (Nat.le_of_ble_eq_true rfl) (fun q h => h) dX5_isOrder_18 (fun r u H locs hw hP hS _ => ?_)
      rw [hw.2] at hP
      refine tp_i (z := (hz (sVc σ) v)) hw.1 ?_
      refine tp_i (z := 0) (hz_0 h0) ?_
      refine lv_if_ne (tgt := 26) hx hb dX5_isOrder_21 (by decide) (fun c9 => absurd (by decide) c9) (fun _ => ?_)
      refine lv_iconst (v := 0) hx hb dX5_isOrder_24 (by decide) ?_
      exact rt_z (v := 0) (u := σ) hx hb hr hlocks rfl hS hP (⟨(bz_0 (fun q => ix_none_s h0 (isO_v q (by decide)))).symm, rfl⟩) dX5_isOrder_25
    · have h0 := ix_nI hj (n := sVc σ) (by omega)
      refine lv_aload_n hx hb dX5_isOrder_16 rfl (lv_at hl 0 rfl) ?_
      refine lv_iload_n hx hb dX5_isOrder_17 rfl (lv_at hl 2 rfl) ?_
      refine cl_i (rest := []) (c_X5_isVault l D cA ad A hDD σ (nI j) ) ⟨hx, hb, hml, hown, hts⟩ hK hP hS kv_X5_67 ⟨Nat.le_of_ble_eq_true rfl, Nat.le_of_ble_eq_true rfl⟩ ⟨Nat.zero_le _, Nat.zero_le _⟩ 0 rfl rfl rfl hl.1 rfl (Nat.le_of_ble_eq_true rfl) (fun q h => h) dX5_isOrder_18 (fun r u H locs hw hP hS _ => ?_)
      rw [hw.2] at hP
      refine tp_i (z := (hz (sVc σ) (nI j))) hw.1 ?_
      refine tp_i (z := 1) (hz_1 h0) ?_
      refine lv_if_ne (tgt := 26) hx hb dX5_isOrder_21 (by decide) (fun _ => ?_) (fun c9 => absurd c9 (by decide))
      refine lv_iload_n hx hb dX5_isOrder_26 rfl (lv_at hl 1 rfl) ?_
      refine lv_iconst (v := 3) hx hb dX5_isOrder_27 (by decide) ?_
      refine lv_icmp_ne (tgt := 33) hx hb dX5_isOrder_28 (by decide) (fun _ => ?_) (fun c9 => absurd c9 (by decide))
      by_cases hn : amt n
      · skip
        refine lv_iload hx hb dX5_isOrder_33 (lv_at hl 4 rfl) ?_
        refine cl_s (rest := []) (c_X5_isAmount l D cA ad A hDD σ n ) ⟨hx, hb, hml, hown, hts⟩ hK hP hS kv_X5_63 ⟨Nat.le_of_ble_eq_true rfl, Nat.le_of_ble_eq_true rfl⟩ ⟨Nat.zero_le _, Nat.zero_le _⟩ rfl hl.1 rfl (Nat.le_of_ble_eq_true rfl) (fun q h => h) dX5_isOrder_35 (fun r u H locs hw hP hS => ?_)
        rw [hw.2] at hP
        refine tp_i (z := (bz (amt n))) hw.1 ?_
        refine tp_i (z := 1) (bz_1 hn) ?_
        refine lv_if_eq (tgt := 58) hx hb dX5_isOrder_38 (by decide) (fun c9 => absurd c9 (by decide)) (fun _ => ?_)
        refine lv_iload_n hx hb dX5_isOrder_41 rfl (lv_at hl 1 rfl) ?_
        refine lv_iconst (v := 2) hx hb dX5_isOrder_42 (by decide) ?_
        refine lv_icmp_ne (tgt := 54) hx hb dX5_isOrder_43 (by decide) (fun c9 => absurd (by decide) c9) (fun _ => ?_)
        rcases ix_cases (n := sVc σ) w (by omega) with hq | ⟨i, hi, rfl⟩
        · refine lv_aload_n hx hb dX5_isOrder_46 rfl (lv_at hl 0 rfl) ?_
          refine lv_iload_n hx hb dX5_isOrder_47 rfl (lv_at hl 3 rfl) ?_
          refine cl_i (rest := []) (c_X5_isVault l D cA ad A hDD σ w ) ⟨hx, hb, hml, hown, hts⟩ hK hP hS kv_X5_67 ⟨Nat.le_of_ble_eq_true rfl, Nat.le_of_ble_eq_true rfl⟩ ⟨Nat.zero_le _, Nat.zero_le _⟩ 0 rfl rfl rfl hl.1 rfl (Nat.le_of_ble_eq_true rfl) (fun q h => h) dX5_isOrder_48 (fun r u H locs hw hP hS _ => ?_)
          rw [hw.2] at hP
          refine tp_i (z := (hz (sVc σ) w)) hw.1 ?_
          refine tp_i (z := 0) (hz_0 hq) ?_
          refine lv_if_eq (tgt := 58) hx hb dX5_isOrder_51 (by decide) (fun _ => ?_) (fun c9 => absurd (by decide) c9)
          refine lv_iconst (v := 0) hx hb dX5_isOrder_58 (by decide) ?_
          exact rt_z (v := 0) (u := σ) hx hb hr hlocks rfl hS hP (⟨(bz_0 (fun q => ix_none_s hq (isO_w q))).symm, rfl⟩) dX5_isOrder_59
        · have hq := ix_nI hi (n := sVc σ) (by omega)
          refine lv_aload_n hx hb dX5_isOrder_46 rfl (lv_at hl 0 rfl) ?_
          refine lv_iload_n hx hb dX5_isOrder_47 rfl (lv_at hl 3 rfl) ?_
          refine cl_i (rest := []) (c_X5_isVault l D cA ad A hDD σ (nI i) ) ⟨hx, hb, hml, hown, hts⟩ hK hP hS kv_X5_67 ⟨Nat.le_of_ble_eq_true rfl, Nat.le_of_ble_eq_true rfl⟩ ⟨Nat.zero_le _, Nat.zero_le _⟩ 0 rfl rfl rfl hl.1 rfl (Nat.le_of_ble_eq_true rfl) (fun q h => h) dX5_isOrder_48 (fun r u H locs hw hP hS _ => ?_)
          rw [hw.2] at hP
          refine tp_i (z := (hz (sVc σ) (nI i))) hw.1 ?_
          refine tp_i (z := 1) (hz_1 hq) ?_
          refine lv_if_eq (tgt := 58) hx hb dX5_isOrder_51 (by decide) (fun c9 => absurd c9 (by decide)) (fun _ => ?_)
          refine lv_iconst (v := 1) hx hb dX5_isOrder_54 (by decide) ?_
          refine lv_goto (tgt := 59) hx hb dX5_isOrder_55 (by decide) ?_
          exact rt_z (v := 1) (u := σ) hx hb hr hlocks rfl hS hP (⟨(bz_1 (Or.inr (Or.inl ⟨rfl, ix_some_s h0, ix_some_s hq, hn⟩))).symm, rfl⟩) dX5_isOrder_59
      · skip
        refine lv_iload hx hb dX5_isOrder_33 (lv_at hl 4 rfl) ?_
        refine cl_s (rest := []) (c_X5_isAmount l D cA ad A hDD σ n ) ⟨hx, hb, hml, hown, hts⟩ hK hP hS kv_X5_63 ⟨Nat.le_of_ble_eq_true rfl, Nat.le_of_ble_eq_true rfl⟩ ⟨Nat.zero_le _, Nat.zero_le _⟩ rfl hl.1 rfl (Nat.le_of_ble_eq_true rfl) (fun q h => h) dX5_isOrder_35 (fun r u H locs hw hP hS => ?_)
        rw [hw.2] at hP
        refine tp_i (z := (bz (amt n))) hw.1 ?_
        refine tp_i (z := 0) (bz_0 hn) ?_
        refine lv_if_eq (tgt := 58) hx hb dX5_isOrder_38 (by decide) (fun _ => ?_) (fun c9 => absurd (by decide) c9)
        refine lv_iconst (v := 0) hx hb dX5_isOrder_58 (by decide) ?_
        exact rt_z (v := 0) (u := σ) hx hb hr hlocks rfl hS hP (⟨(bz_0 (fun q => hn (isO_n q (by decide) (by decide)))).symm, rfl⟩) dX5_isOrder_59
  · skip
    refine lv_iload_n hx hb dX5_isOrder_0 rfl (lv_at hl 1 rfl) ?_
    refine lv_iconst (v := 4) hx hb dX5_isOrder_1 (by decide) ?_
    refine lv_icmp_ne (tgt := 7) hx hb dX5_isOrder_2 (by decide) (fun _ => ?_) (fun c9 => absurd c9 (by decide))
    refine lv_iload_n hx hb dX5_isOrder_7 rfl (lv_at hl 1 rfl) ?_
    refine lv_if_lt (tgt := 24) hx hb dX5_isOrder_8 (by decide) (fun c9 => absurd c9 (by decide)) (fun _ => ?_)
    refine lv_iload_n hx hb dX5_isOrder_11 rfl (lv_at hl 1 rfl) ?_
    refine lv_iconst (v := 4) hx hb dX5_isOrder_12 (by decide) ?_
    refine lv_icmp_gt (tgt := 24) hx hb dX5_isOrder_13 (by decide) (fun c9 => absurd c9 (by decide)) (fun _ => ?_)
    rcases ix_cases (n := sVc σ) v (by omega) with h0 | ⟨j, hj, rfl⟩
    · refine lv_aload_n hx hb dX5_isOrder_16 rfl (lv_at hl 0 rfl) ?_
      refine lv_iload_n hx hb dX5_isOrder_17 rfl (lv_at hl 2 rfl) ?_
      refine cl_i (rest := []) (c_X5_isVault l D cA ad A hDD σ v ) ⟨hx, hb, hml, hown, hts⟩ hK hP hS kv_X5_67 ⟨Nat.le_of_ble_eq_true rfl, Nat.le_of_ble_eq_true rfl⟩ ⟨Nat.zero_le _, Nat.zero_le _⟩ 0 rfl rfl rfl hl.1 rfl (Nat.le_of_ble_eq_true rfl) (fun q h => h) dX5_isOrder_18 (fun r u H locs hw hP hS _ => ?_)
      rw [hw.2] at hP
      refine tp_i (z := (hz (sVc σ) v)) hw.1 ?_
      refine tp_i (z := 0) (hz_0 h0) ?_
      refine lv_if_ne (tgt := 26) hx hb dX5_isOrder_21 (by decide) (fun c9 => absurd (by decide) c9) (fun _ => ?_)
      refine lv_iconst (v := 0) hx hb dX5_isOrder_24 (by decide) ?_
      exact rt_z (v := 0) (u := σ) hx hb hr hlocks rfl hS hP (⟨(bz_0 (fun q => ix_none_s h0 (isO_v q (by decide)))).symm, rfl⟩) dX5_isOrder_25
    · have h0 := ix_nI hj (n := sVc σ) (by omega)
      refine lv_aload_n hx hb dX5_isOrder_16 rfl (lv_at hl 0 rfl) ?_
      refine lv_iload_n hx hb dX5_isOrder_17 rfl (lv_at hl 2 rfl) ?_
      refine cl_i (rest := []) (c_X5_isVault l D cA ad A hDD σ (nI j) ) ⟨hx, hb, hml, hown, hts⟩ hK hP hS kv_X5_67 ⟨Nat.le_of_ble_eq_true rfl, Nat.le_of_ble_eq_true rfl⟩ ⟨Nat.zero_le _, Nat.zero_le _⟩ 0 rfl rfl rfl hl.1 rfl (Nat.le_of_ble_eq_true rfl) (fun q h => h) dX5_isOrder_18 (fun r u H locs hw hP hS _ => ?_)
      rw [hw.2] at hP
      refine tp_i (z := (hz (sVc σ) (nI j))) hw.1 ?_
      refine tp_i (z := 1) (hz_1 h0) ?_
      refine lv_if_ne (tgt := 26) hx hb dX5_isOrder_21 (by decide) (fun _ => ?_) (fun c9 => absurd c9 (by decide))
      refine lv_iload_n hx hb dX5_isOrder_26 rfl (lv_at hl 1 rfl) ?_
      refine lv_iconst (v := 3) hx hb dX5_isOrder_27 (by decide) ?_
      refine lv_icmp_ne (tgt := 33) hx hb dX5_isOrder_28 (by decide) (fun c9 => absurd (by decide) c9) (fun _ => ?_)
      refine lv_iconst (v := 1) hx hb dX5_isOrder_31 (by decide) ?_
      exact rt_z (v := 1) (u := σ) hx hb hr hlocks rfl hS hP (⟨(bz_1 (Or.inr (Or.inr (Or.inl ⟨rfl, ix_some_s h0⟩)))).symm, rfl⟩) dX5_isOrder_32
  · skip
    refine lv_iload_n hx hb dX5_isOrder_0 rfl (lv_at hl 1 rfl) ?_
    refine lv_iconst (v := 4) hx hb dX5_isOrder_1 (by decide) ?_
    refine lv_icmp_ne (tgt := 7) hx hb dX5_isOrder_2 (by decide) (fun c9 => absurd (by decide) c9) (fun _ => ?_)
    refine lv_iconst (v := 1) hx hb dX5_isOrder_5 (by decide) ?_
    exact rt_z (v := 1) (u := σ) hx hb hr hlocks rfl hS hP (⟨(bz_1 (Or.inr (Or.inr (Or.inr rfl)))).symm, rfl⟩) dX5_isOrder_6
  · skip
    refine lv_iload_n hx hb dX5_isOrder_0 rfl (lv_at hl 1 rfl) ?_
    refine lv_iconst (v := 4) hx hb dX5_isOrder_1 (by decide) ?_
    refine lv_icmp_ne (tgt := 7) hx hb dX5_isOrder_2 (by decide) (fun _ => ?_) (fun c9 => absurd c9 (o_ne ho (by decide)))
    refine lv_iload_n hx hb dX5_isOrder_7 rfl (lv_at hl 1 rfl) ?_
    refine lv_if_lt (tgt := 24) hx hb dX5_isOrder_8 (by decide) (fun c8 => ?_) (fun c8 => ?_)
    · refine lv_iconst (v := 0) hx hb dX5_isOrder_24 (by decide) ?_
      exact rt_z (v := 0) (u := σ) hx hb hr hlocks rfl hS hP (⟨(bz_0 (isO_out ho)).symm, rfl⟩) dX5_isOrder_25
    · refine lv_iload_n hx hb dX5_isOrder_11 rfl (lv_at hl 1 rfl) ?_
      refine lv_iconst (v := 4) hx hb dX5_isOrder_12 (by decide) ?_
      refine lv_icmp_gt (tgt := 24) hx hb dX5_isOrder_13 (by decide) (fun _ => ?_) (fun c9 => absurd (o_out ho c8) c9)
      refine lv_iconst (v := 0) hx hb dX5_isOrder_24 (by decide) ?_
      exact rt_z (v := 0) (u := σ) hx hb hr hlocks rfl hS hP (⟨(bz_0 (isO_out ho)).symm, rfl⟩) dX5_isOrder_25
set_option maxHeartbeats 4000000 in
set_option maxRecDepth 100000 in
theorem c_X5_order (l : Launch) (D : va_G) (cA : ClassId) (ad : Nat → Nat) (A : Nat → Prop) (hDD : ∀ u, va_D A (rW ad cA u)) (σ : CS) (o v w n : Int32) (hI : Inv σ) (hg : sGr σ = 0) (hb9 : sBc σ ≤ 1000000000) : Ct l D cA (rW ad cA) A yX5_order cX5_order 5 (some .int) 2 45 [.ref (ad 0), .int o, .int v, .int w, .int n] σ (fun r u => r = (f_order σ o v w n).1 ∧ u = (f_order σ o v w n).2) := by
  refine Ct.of (by decide) (Nat.le_of_ble_eq_true rfl) ?_
  intro p e s m below meth c ls S0 hr hlocks hK hP hS hl
  obtain ⟨hx, hb, hml, hown, hts⟩ := id S0
  have hl : lv_has ls 5 [(0, .ref (ad 0)), (1, .int o), (2, .int v), (3, .int w), (4, .int n)] := hl
  have hkc := hI.kc
  have hvc := hI.vc
  have hgc := hI.gr
  have htc := hI.tc
  by_cases hq : isO σ o v w n
  · skip
    refine lv_aload_n hx hb dX5_order_0 rfl (lv_at hl 0 rfl) ?_
    refine lv_iload_n hx hb dX5_order_1 rfl (lv_at hl 1 rfl) ?_
    refine lv_iload_n hx hb dX5_order_2 rfl (lv_at hl 2 rfl) ?_
    refine lv_iload_n hx hb dX5_order_3 rfl (lv_at hl 3 rfl) ?_
    refine lv_iload hx hb dX5_order_4 (lv_at hl 4 rfl) ?_
    refine cl_i (rest := []) (c_X5_isOrder l D cA ad A hDD σ o v w n hI) ⟨hx, hb, hml, hown, hts⟩ hK hP hS kv_X5_118 ⟨Nat.le_of_ble_eq_true rfl, Nat.le_of_ble_eq_true rfl⟩ ⟨Nat.zero_le _, Nat.zero_le _⟩ 0 rfl rfl rfl hl.1 rfl (Nat.le_of_ble_eq_true rfl) (fun q h => h) dX5_order_6 (fun r u H locs hw hP hS _ => ?_)
    rw [hw.2] at hP
    refine tp_i (z := (bz (isO σ o v w n))) hw.1 ?_
    refine tp_i (z := 1) (bz_1 hq) ?_
    refine lv_if_ne (tgt := 15) hx hb dX5_order_9 (by decide) (fun _ => ?_) (fun c9 => absurd c9 (by decide))
    refine lv_aload_n hx hb dX5_order_15 rfl (lv_at hl 0 rfl) ?_
    refine va_get (D := D) (ci := 5) (v := .int (nI (sTc σ))) (C := RX5) (T := TX5) (N := 20) hx hb hts in_X5 hown hK hP 0 rfl rfl 19 (by decide) (hts _ kf_X5_122) (fun _ h9 => h9) rfl dX5_order_16 ?_
    refine lv_bipush (v := 32) hx hb dX5_order_19 (by decide) ?_
    refine lv_icmp_ne (tgt := 27) hx hb dX5_order_21 (by decide) (fun c21 => ?_) (fun c21 => ?_)
    · have h4 : sTc σ < 32 := by rcases Nat.lt_or_ge (sTc σ) 32 with q | q; exact q; exact absurd (by rw [Nat.le_antisymm htc q]; rfl) c21
      refine lv_aload_n hx hb dX5_order_27 rfl (lv_at hl 0 rfl) ?_
      refine va_get (D := D) (ci := 5) (v := .ref (ad 11)) (C := RX5) (T := TX5) (N := 20) hx hb hts in_X5 hown hK hP 0 rfl rfl 15 (by decide) (hts _ kf_X5_40) (fun _ h9 => h9) rfl dX5_order_28 ?_
      refine lv_aload_n hx hb dX5_order_31 rfl (lv_at hl 0 rfl) ?_
      refine va_get (D := D) (ci := 5) (v := .int (nI (sTc σ))) (C := RX5) (T := TX5) (N := 20) hx hb hts in_X5 hown hK hP 0 rfl rfl 19 (by decide) (hts _ kf_X5_122) (fun _ h9 => h9) rfl dX5_order_32 ?_
      refine lv_iload_n hx hb dX5_order_35 rfl (lv_at hl 1 rfl) ?_
      refine ar_p hx hb hK hP (hDD _) hS 11 rfl (x := o) (by omega) (by decide) dX5_order_36 (fun H locs hP hS => ?_)
      have hP : va_P D vwCl (rW ad cA (σ.1, σ.2.1, σ.2.2.1, ((upd (sOp σ) (sTc σ) o), (sFi σ), (sSe σ), (sAm σ), (sTc σ)), σ.2.2.2.2)) H := hP
      refine lv_aload_n hx hb dX5_order_37 rfl (lv_at hl 0 rfl) ?_
      refine va_get (D := D) (ci := 5) (v := .ref (ad 12)) (C := RX5) (T := TX5) (N := 20) hx hb hts in_X5 hown hK hP 0 rfl rfl 16 (by decide) (hts _ kf_X5_43) (fun _ h9 => h9) rfl dX5_order_38 ?_
      refine lv_aload_n hx hb dX5_order_41 rfl (lv_at hl 0 rfl) ?_
      refine va_get (D := D) (ci := 5) (v := .int (nI (sTc σ))) (C := RX5) (T := TX5) (N := 20) hx hb hts in_X5 hown hK hP 0 rfl rfl 19 (by decide) (hts _ kf_X5_122) (fun _ h9 => h9) rfl dX5_order_42 ?_
      refine lv_iload_n hx hb dX5_order_45 rfl (lv_at hl 2 rfl) ?_
      refine ar_p hx hb hK hP (hDD _) hS 12 rfl (x := v) (by omega) (by decide) dX5_order_46 (fun H locs hP hS => ?_)
      have hP : va_P D vwCl (rW ad cA (σ.1, σ.2.1, σ.2.2.1, ((upd (sOp σ) (sTc σ) o), (upd (sFi σ) (sTc σ) v), (sSe σ), (sAm σ), (sTc σ)), σ.2.2.2.2)) H := hP
      refine lv_aload_n hx hb dX5_order_47 rfl (lv_at hl 0 rfl) ?_
      refine va_get (D := D) (ci := 5) (v := .ref (ad 13)) (C := RX5) (T := TX5) (N := 20) hx hb hts in_X5 hown hK hP 0 rfl rfl 17 (by decide) (hts _ kf_X5_46) (fun _ h9 => h9) rfl dX5_order_48 ?_
      refine lv_aload_n hx hb dX5_order_51 rfl (lv_at hl 0 rfl) ?_
      refine va_get (D := D) (ci := 5) (v := .int (nI (sTc σ))) (C := RX5) (T := TX5) (N := 20) hx hb hts in_X5 hown hK hP 0 rfl rfl 19 (by decide) (hts _ kf_X5_122) (fun _ h9 => h9) rfl dX5_order_52 ?_
      refine lv_iload_n hx hb dX5_order_55 rfl (lv_at hl 3 rfl) ?_
      refine ar_p hx hb hK hP (hDD _) hS 13 rfl (x := w) (by omega) (by decide) dX5_order_56 (fun H locs hP hS => ?_)
      have hP : va_P D vwCl (rW ad cA (σ.1, σ.2.1, σ.2.2.1, ((upd (sOp σ) (sTc σ) o), (upd (sFi σ) (sTc σ) v), (upd (sSe σ) (sTc σ) w), (sAm σ), (sTc σ)), σ.2.2.2.2)) H := hP
      refine lv_aload_n hx hb dX5_order_57 rfl (lv_at hl 0 rfl) ?_
      refine va_get (D := D) (ci := 5) (v := .ref (ad 14)) (C := RX5) (T := TX5) (N := 20) hx hb hts in_X5 hown hK hP 0 rfl rfl 18 (by decide) (hts _ kf_X5_49) (fun _ h9 => h9) rfl dX5_order_58 ?_
      refine lv_aload_n hx hb dX5_order_61 rfl (lv_at hl 0 rfl) ?_
      refine va_get (D := D) (ci := 5) (v := .int (nI (sTc σ))) (C := RX5) (T := TX5) (N := 20) hx hb hts in_X5 hown hK hP 0 rfl rfl 19 (by decide) (hts _ kf_X5_122) (fun _ h9 => h9) rfl dX5_order_62 ?_
      refine lv_iload hx hb dX5_order_65 (lv_at hl 4 rfl) ?_
      refine ar_p hx hb hK hP (hDD _) hS 14 rfl (x := n) (by omega) (by decide) dX5_order_67 (fun H locs hP hS => ?_)
      have hP : va_P D vwCl (rW ad cA (σ.1, σ.2.1, σ.2.2.1, ((upd (sOp σ) (sTc σ) o), (upd (sFi σ) (sTc σ) v), (upd (sSe σ) (sTc σ) w), (upd (sAm σ) (sTc σ) n), (sTc σ)), σ.2.2.2.2)) H := hP
      refine lv_aload_n hx hb dX5_order_68 rfl (lv_at hl 0 rfl) ?_
      refine lv_dup hx hb dX5_order_69 rfl ?_
      refine va_get (D := D) (ci := 5) (v := .int (nI (sTc σ))) (C := RX5) (T := TX5) (N := 20) hx hb hts in_X5 hown hK hP 0 rfl rfl 19 (by decide) (hts _ kf_X5_122) (fun _ h9 => h9) rfl dX5_order_70 ?_
      refine lv_iconst (v := 1) hx hb dX5_order_73 (by decide) ?_
      refine lv_iadd hx hb dX5_order_74 ?_
      refine tp_i (z := (nI ((sTc σ) + 1))) (nI_1 _) ?_
      refine va_put (D := D) (ci := 5) (v := .int (nI ((sTc σ) + 1))) (ty := .int) (C := RX5) (T := TX5) (N := 20) hx hb hts in_X5 tyX5 tyX5_ok nmX5 hown hK hP (hDD _) hS 0 rfl rfl 19 (by decide) (hts _ kf_X5_122) (fun _ h9 => h9) rfl (by decide +kernel) rfl rfl (Nat.le_of_ble_eq_true rfl) dX5_order_75 (fun H locs hP _ hS => ?_)
      have hP : va_P D vwCl (rW ad cA (σ.1, σ.2.1, σ.2.2.1, ((upd (sOp σ) (sTc σ) o), (upd (sFi σ) (sTc σ) v), (upd (sSe σ) (sTc σ) w), (upd (sAm σ) (sTc σ) n), ((sTc σ) + 1)), σ.2.2.2.2)) H := hP
      refine lv_aload_n hx hb dX5_order_78 rfl (lv_at hl 0 rfl) ?_
      refine va_get (D := D) (ci := 5) (v := .int (nI ((sTc σ) + 1))) (C := RX5) (T := TX5) (N := 20) hx hb hts in_X5 hown hK hP 0 rfl rfl 19 (by decide) (hts _ kf_X5_122) (fun _ h9 => h9) rfl dX5_order_79 ?_
      exact rt_i (v := (nI ((sTc σ) + 1))) (u := (σ.1, σ.2.1, σ.2.2.1, ((upd (sOp σ) (sTc σ) o), (upd (sFi σ) (sTc σ) v), (upd (sSe σ) (sTc σ) w), (upd (sAm σ) (sTc σ) n), ((sTc σ) + 1)), σ.2.2.2.2)) hx hb hr hlocks hS hP ((by rw [order_a hq]; exact pr2 (if_neg (fun q => c21 (by rw [q]; rfl))))) dX5_order_82
    · refine lv_bipush (v := (-3)) hx hb dX5_order_24 (by decide) ?_
      exact rt_i (v := (-3)) (u := σ) hx hb hr hlocks hS hP ((by rw [order_a hq]; exact pr2 (if_pos (nI_inj (b := 32) (by omega) (by decide) c21)))) dX5_order_26
  · skip
    refine lv_aload_n hx hb dX5_order_0 rfl (lv_at hl 0 rfl) ?_
    refine lv_iload_n hx hb dX5_order_1 rfl (lv_at hl 1 rfl) ?_
    refine lv_iload_n hx hb dX5_order_2 rfl (lv_at hl 2 rfl) ?_
    refine lv_iload_n hx hb dX5_order_3 rfl (lv_at hl 3 rfl) ?_
    refine lv_iload hx hb dX5_order_4 (lv_at hl 4 rfl) ?_
    refine cl_i (rest := []) (c_X5_isOrder l D cA ad A hDD σ o v w n hI) ⟨hx, hb, hml, hown, hts⟩ hK hP hS kv_X5_118 ⟨Nat.le_of_ble_eq_true rfl, Nat.le_of_ble_eq_true rfl⟩ ⟨Nat.zero_le _, Nat.zero_le _⟩ 0 rfl rfl rfl hl.1 rfl (Nat.le_of_ble_eq_true rfl) (fun q h => h) dX5_order_6 (fun r u H locs hw hP hS _ => ?_)
    rw [hw.2] at hP
    refine tp_i (z := (bz (isO σ o v w n))) hw.1 ?_
    refine tp_i (z := 0) (bz_0 hq) ?_
    refine lv_if_ne (tgt := 15) hx hb dX5_order_9 (by decide) (fun c9 => absurd (by decide) c9) (fun _ => ?_)
    refine lv_bipush (v := (-2)) hx hb dX5_order_12 (by decide) ?_
    exact rt_i (v := (-2)) (u := σ) hx hb hr hlocks hS hP (pr2 (order_b hq)) dX5_order_14
