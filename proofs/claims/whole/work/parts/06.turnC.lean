set_option maxHeartbeats 4000000 in
set_option maxRecDepth 100000 in
theorem c_X4_turnKey (l : Launch) (D : va_G) (cA : ClassId) (ad : Nat → Nat) (A : Nat → Prop) (hDD : ∀ u, va_D A (cW ad cA u)) (σ : CS) (k : Nat) (hI : Inv σ) (hk : k < sKc σ) (hg : sGr σ < 60) (hb9 : sBc σ < 2147483647) : Ct l D cA (cW ad cA) A yX4_turnKey cX4_turnKey 2 (some .int) 1 21 [.ref (ad 0), .int (nI k)] σ (fun r u => r = (tkc σ k).1 ∧ u = (tkc σ k).2) := by
  refine Ct.of (by decide) (Nat.le_of_ble_eq_true rfl) ?_
  intro p e s m below meth c ls S0 hr hlocks hK hP hS hl
  obtain ⟨hx, hb, hml, hown, hts⟩ := id S0
  have hl : lv_has ls 2 [(0, .ref (ad 0)), (1, .int (nI k))] := hl
  have hkc := hI.kc
  have hvc := hI.vc
  have hgc := hI.gr
  have htc := hI.tc
  refine lv_aload_n hx hb dX4_turnKey_0 rfl (lv_at hl 0 rfl) ?_
  refine va_get (D := D) (ci := 4) (v := .ref (ad 1)) (C := RX4) (T := TX4) (N := 7) hx hb hts in_X4 hown hK hP 0 rfl rfl 0 (by decide) (hts _ kf_X4_10) (fun _ h9 => h9) rfl dX4_turnKey_1 ?_
  refine va_get (D := D) (ci := 1) (v := .ref (ad 9)) (C := RX1) (T := TX1) (N := 5) hx hb hts in_X1 hown hK hP 1 rfl rfl 3 (by decide) (hts _ kf_X4_135) (fun _ h9 => h9) rfl dX4_turnKey_4 ?_
  refine lv_iload_n hx hb dX4_turnKey_7 rfl (lv_at hl 1 rfl) ?_
  refine ar_g hx hb hK hP 9 rfl (by omega) (by decide) dX4_turnKey_8 ?_
  refine lv_aload_n hx hb dX4_turnKey_9 rfl (lv_at hl 0 rfl) ?_
  refine va_get (D := D) (ci := 4) (v := .ref (ad 1)) (C := RX4) (T := TX4) (N := 7) hx hb hts in_X4 hown hK hP 0 rfl rfl 0 (by decide) (hts _ kf_X4_10) (fun _ h9 => h9) rfl dX4_turnKey_10 ?_
  refine va_get (D := D) (ci := 1) (v := .ref (ad 6)) (C := RX1) (T := TX1) (N := 5) hx hb hts in_X1 hown hK hP 1 rfl rfl 0 (by decide) (hts _ kf_X4_138) (fun _ h9 => h9) rfl dX4_turnKey_13 ?_
  refine lv_iload_n hx hb dX4_turnKey_16 rfl (lv_at hl 1 rfl) ?_
  refine ar_g hx hb hK hP 6 rfl (by omega) (by decide) dX4_turnKey_17 ?_
  refine lv_icmp_ge (tgt := 33) hx hb dX4_turnKey_18 (by decide) (fun c18 => ?_) (fun c18 => ?_)
  · refine lv_aload_n hx hb dX4_turnKey_33 rfl (lv_at hl 0 rfl) ?_
    refine va_get (D := D) (ci := 4) (v := .ref (ad 3)) (C := RX4) (T := TX4) (N := 7) hx hb hts in_X4 hown hK hP 0 rfl rfl 2 (by decide) (hts _ kf_X4_26) (fun _ h9 => h9) rfl dX4_turnKey_34 ?_
    refine lv_sipush (v := 700) hx hb dX4_turnKey_37 (by decide) ?_
    refine lv_iload_n hx hb dX4_turnKey_40 rfl (lv_at hl 1 rfl) ?_
    refine lv_iadd hx hb dX4_turnKey_41 ?_
    refine cl_v (rest := []) (c_X0_write l D cA ad A hDD σ (700 + (nI k)) hb9) ⟨hx, hb, hml, hown, hts⟩ hK hP hS kv_X4_131 ⟨Nat.le_of_ble_eq_true rfl, Nat.le_of_ble_eq_true rfl⟩ ⟨Nat.zero_le _, Nat.zero_le _⟩ 3 rfl rfl rfl hl.1 rfl (Nat.le_of_ble_eq_true rfl) (fun q h => h) dX4_turnKey_42 (fun u H locs hw hP hS _ => ?_)
    rw [hw] at hP
    refine lv_bipush (v := (-7)) hx hb dX4_turnKey_45 (by decide) ?_
    exact rt_i (v := (-7)) (u := (wr (700 + (nI k)) σ)) hx hb hr hlocks hS hP (pr2 (by first | (unfold tkc; rw [if_pos ((hel_ge hI hk).mp c18)]; done) | (unfold tkc; rw [if_pos ((hel_ge hI hk).mp c18)]; rfl))) dX4_turnKey_47
  · refine lv_aload_n hx hb dX4_turnKey_21 rfl (lv_at hl 0 rfl) ?_
    refine va_get (D := D) (ci := 4) (v := .int (nI (sGr σ))) (C := RX4) (T := TX4) (N := 7) hx hb hts in_X4 hown hK hP 0 rfl rfl 5 (by decide) (hts _ kf_X4_41) (fun _ h9 => h9) rfl dX4_turnKey_22 ?_
    refine lv_aload_n hx hb dX4_turnKey_25 rfl (lv_at hl 0 rfl) ?_
    refine va_get (D := D) (ci := 4) (v := .ref (ad 5)) (C := RX4) (T := TX4) (N := 7) hx hb hts in_X4 hown hK hP 0 rfl rfl 4 (by decide) (hts _ kf_X4_37) (fun _ h9 => h9) rfl dX4_turnKey_26 ?_
    refine va_alen (v := 60) hx hb hK hP 5 0 rfl rfl rfl dX4_turnKey_29 ?_
    refine lv_icmp_lt (tgt := 48) hx hb dX4_turnKey_30 (by decide) (fun _ => ?_) (fun c9 => absurd (nI_lt (b := 60) hg (by decide)) c9)
    refine lv_aload_n hx hb dX4_turnKey_48 rfl (lv_at hl 0 rfl) ?_
    refine va_get (D := D) (ci := 4) (v := .ref (ad 1)) (C := RX4) (T := TX4) (N := 7) hx hb hts in_X4 hown hK hP 0 rfl rfl 0 (by decide) (hts _ kf_X4_10) (fun _ h9 => h9) rfl dX4_turnKey_49 ?_
    refine va_get (D := D) (ci := 1) (v := .ref (ad 8)) (C := RX1) (T := TX1) (N := 5) hx hb hts in_X1 hown hK hP 1 rfl rfl 2 (by decide) (hts _ kf_X4_100) (fun _ h9 => h9) rfl dX4_turnKey_52 ?_
    refine lv_iload_n hx hb dX4_turnKey_55 rfl (lv_at hl 1 rfl) ?_
    refine lv_dup2_11 hx hb dX4_turnKey_56 rfl rfl ?_
    refine ar_g hx hb hK hP 8 rfl (by omega) (by decide) dX4_turnKey_57 ?_
    refine lv_aload_n hx hb dX4_turnKey_58 rfl (lv_at hl 0 rfl) ?_
    refine va_get (D := D) (ci := 4) (v := .ref (ad 1)) (C := RX4) (T := TX4) (N := 7) hx hb hts in_X4 hown hK hP 0 rfl rfl 0 (by decide) (hts _ kf_X4_10) (fun _ h9 => h9) rfl dX4_turnKey_59 ?_
    refine va_get (D := D) (ci := 1) (v := .ref (ad 7)) (C := RX1) (T := TX1) (N := 5) hx hb hts in_X1 hown hK hP 1 rfl rfl 1 (by decide) (hts _ kf_X4_141) (fun _ h9 => h9) rfl dX4_turnKey_62 ?_
    refine lv_iload_n hx hb dX4_turnKey_65 rfl (lv_at hl 1 rfl) ?_
    refine ar_g hx hb hK hP 7 rfl (by omega) (by decide) dX4_turnKey_66 ?_
    refine lv_iadd hx hb dX4_turnKey_67 ?_
    refine ar_p hx hb hK hP (hDD _) hS 8 rfl (x := ((sWea σ k) + (sStr σ k))) (by omega) (by decide) dX4_turnKey_68 (fun H locs hP hS => ?_)
    have hP : va_P D vwCl (cW ad cA (((sTee σ), (sStr σ), (upd (sWea σ) k ((sWea σ k) + (sStr σ k))), (sHel σ), (sKc σ)), σ.2.1, σ.2.2.1, σ.2.2.2.1, σ.2.2.2.2)) H := hP
    refine lv_aload_n hx hb dX4_turnKey_69 rfl (lv_at hl 0 rfl) ?_
    refine va_get (D := D) (ci := 4) (v := .ref (ad 1)) (C := RX4) (T := TX4) (N := 7) hx hb hts in_X4 hown hK hP 0 rfl rfl 0 (by decide) (hts _ kf_X4_10) (fun _ h9 => h9) rfl dX4_turnKey_70 ?_
    refine va_get (D := D) (ci := 1) (v := .ref (ad 9)) (C := RX1) (T := TX1) (N := 5) hx hb hts in_X1 hown hK hP 1 rfl rfl 3 (by decide) (hts _ kf_X4_135) (fun _ h9 => h9) rfl dX4_turnKey_73 ?_
    refine lv_iload_n hx hb dX4_turnKey_76 rfl (lv_at hl 1 rfl) ?_
    refine lv_dup2_11 hx hb dX4_turnKey_77 rfl rfl ?_
    refine ar_g hx hb hK hP 9 rfl (by omega) (by decide) dX4_turnKey_78 ?_
    refine lv_iconst (v := 1) hx hb dX4_turnKey_79 (by decide) ?_
    refine lv_iadd hx hb dX4_turnKey_80 ?_
    refine ar_p hx hb hK hP (hDD _) hS 9 rfl (x := ((sHel σ k) + 1)) (by omega) (by decide) dX4_turnKey_81 (fun H locs hP hS => ?_)
    have hP : va_P D vwCl (cW ad cA (((sTee σ), (sStr σ), (upd (sWea σ) k ((sWea σ k) + (sStr σ k))), (upd (sHel σ) k ((sHel σ k) + 1)), (sKc σ)), σ.2.1, σ.2.2.1, σ.2.2.2.1, σ.2.2.2.2)) H := hP
    refine lv_aload_n hx hb dX4_turnKey_82 rfl (lv_at hl 0 rfl) ?_
    refine va_get (D := D) (ci := 4) (v := .ref (ad 5)) (C := RX4) (T := TX4) (N := 7) hx hb hts in_X4 hown hK hP 0 rfl rfl 4 (by decide) (hts _ kf_X4_37) (fun _ h9 => h9) rfl dX4_turnKey_83 ?_
    refine lv_aload_n hx hb dX4_turnKey_86 rfl (lv_at hl 0 rfl) ?_
    refine va_get (D := D) (ci := 4) (v := .int (nI (sGr σ))) (C := RX4) (T := TX4) (N := 7) hx hb hts in_X4 hown hK hP 0 rfl rfl 5 (by decide) (hts _ kf_X4_41) (fun _ h9 => h9) rfl dX4_turnKey_87 ?_
    refine lv_iload_n hx hb dX4_turnKey_90 rfl (lv_at hl 1 rfl) ?_
    refine ar_p hx hb hK hP (hDD _) hS 5 rfl (x := (nI k)) hg (by decide) dX4_turnKey_91 (fun H locs hP hS => ?_)
    have hP : va_P D vwCl (cW ad cA (((sTee σ), (sStr σ), (upd (sWea σ) k ((sWea σ k) + (sStr σ k))), (upd (sHel σ) k ((sHel σ k) + 1)), (sKc σ)), σ.2.1, σ.2.2.1, σ.2.2.2.1, ((upd (sGp σ) (sGr σ) (nI k)), (sGr σ), (sAl σ)))) H := hP
    refine lv_aload_n hx hb dX4_turnKey_92 rfl (lv_at hl 0 rfl) ?_
    refine lv_dup hx hb dX4_turnKey_93 rfl ?_
    refine va_get (D := D) (ci := 4) (v := .int (nI (sGr σ))) (C := RX4) (T := TX4) (N := 7) hx hb hts in_X4 hown hK hP 0 rfl rfl 5 (by decide) (hts _ kf_X4_41) (fun _ h9 => h9) rfl dX4_turnKey_94 ?_
    refine lv_iconst (v := 1) hx hb dX4_turnKey_97 (by decide) ?_
    refine lv_iadd hx hb dX4_turnKey_98 ?_
    refine tp_i (z := (nI ((sGr σ) + 1))) (nI_1 _) ?_
    refine va_put (D := D) (ci := 4) (v := .int (nI ((sGr σ) + 1))) (ty := .int) (C := RX4) (T := TX4) (N := 7) hx hb hts in_X4 tyX4 tyX4_ok nmX4 hown hK hP (hDD _) hS 0 rfl rfl 5 (by decide) (hts _ kf_X4_41) (fun _ h9 => h9) rfl (by decide +kernel) rfl rfl (Nat.le_of_ble_eq_true rfl) dX4_turnKey_99 (fun H locs hP _ hS => ?_)
    have hP : va_P D vwCl (cW ad cA (((sTee σ), (sStr σ), (upd (sWea σ) k ((sWea σ k) + (sStr σ k))), (upd (sHel σ) k ((sHel σ k) + 1)), (sKc σ)), σ.2.1, σ.2.2.1, σ.2.2.2.1, ((upd (sGp σ) (sGr σ) (nI k)), ((sGr σ) + 1), (sAl σ)))) H := hP
    refine lv_aload_n hx hb dX4_turnKey_102 rfl (lv_at hl 0 rfl) ?_
    refine va_get (D := D) (ci := 4) (v := .ref (ad 3)) (C := RX4) (T := TX4) (N := 7) hx hb hts in_X4 hown hK hP 0 rfl rfl 2 (by decide) (hts _ kf_X4_26) (fun _ h9 => h9) rfl dX4_turnKey_103 ?_
    refine lv_bipush (v := 100) hx hb dX4_turnKey_106 (by decide) ?_
    refine lv_iload_n hx hb dX4_turnKey_108 rfl (lv_at hl 1 rfl) ?_
    refine lv_iadd hx hb dX4_turnKey_109 ?_
    refine cl_v (rest := []) (c_X0_write l D cA ad A hDD (((sTee σ), (sStr σ), (upd (sWea σ) k ((sWea σ k) + (sStr σ k))), (upd (sHel σ) k ((sHel σ k) + 1)), (sKc σ)), σ.2.1, σ.2.2.1, σ.2.2.2.1, ((upd (sGp σ) (sGr σ) (nI k)), ((sGr σ) + 1), (sAl σ))) (100 + (nI k)) hb9) ⟨hx, hb, hml, hown, hts⟩ hK hP hS kv_X4_131 ⟨Nat.le_of_ble_eq_true rfl, Nat.le_of_ble_eq_true rfl⟩ ⟨Nat.zero_le _, Nat.zero_le _⟩ 3 rfl rfl rfl hl.1 rfl (Nat.le_of_ble_eq_true rfl) (fun q h => h) dX4_turnKey_110 (fun u H locs hw hP hS _ => ?_)
    rw [hw] at hP
    refine lv_iconst (v := 0) hx hb dX4_turnKey_113 (by decide) ?_
    exact rt_i (v := 0) (u := (wr (100 + (nI k)) (((sTee σ), (sStr σ), (upd (sWea σ) k ((sWea σ k) + (sStr σ k))), (upd (sHel σ) k ((sHel σ k) + 1)), (sKc σ)), σ.2.1, σ.2.2.1, σ.2.2.2.1, ((upd (sGp σ) (sGr σ) (nI k)), ((sGr σ) + 1), (sAl σ))))) hx hb hr hlocks hS hP (pr2 (by first | (unfold tkc; rw [if_neg (fun q => c18 ((hel_ge hI hk).mpr q))]; done) | (unfold tkc; rw [if_neg (fun q => c18 ((hel_ge hI hk).mpr q))]; rfl))) dX4_turnKey_114
set_option maxHeartbeats 4000000 in
set_option maxRecDepth 100000 in
theorem c_X4_turnHand (l : Launch) (D : va_G) (cA : ClassId) (ad : Nat → Nat) (A : Nat → Prop) (hDD : ∀ u, va_D A (cW ad cA u)) (σ : CS) (j : Nat) (h x : Int32) (hxe : hd σ j h = x) (hX : HX (sKc σ) x) (hI : Inv σ) (hj : j < sVc σ) (hg : sGr σ < 60) (hb9 : sBc σ < 2147483647) : Ct l D cA (cW ad cA) A yX4_turnHand cX4_turnHand 4 (some .int) 2 43 [.ref (ad 0), .int (nI j), .int h] σ (fun r u => r = thc (th σ x h).1 ∧ u = (th σ x h).2) := by
  refine Ct.of (by decide) (Nat.le_of_ble_eq_true rfl) ?_
  intro p e s m below meth c ls S0 hr hlocks hK hP hS hl
  obtain ⟨hx, hb, hml, hown, hts⟩ := id S0
  have hl : lv_has ls 4 [(0, .ref (ad 0)), (1, .int (nI j)), (2, .int h)] := hl
  have hkc := hI.kc
  have hvc := hI.vc
  have hgc := hI.gr
  have htc := hI.tc
  refine lv_aload_n hx hb dX4_turnHand_0 rfl (lv_at hl 0 rfl) ?_
  refine va_get (D := D) (ci := 4) (v := .ref (ad 2)) (C := RX4) (T := TX4) (N := 7) hx hb hts in_X4 hown hK hP 0 rfl rfl 1 (by decide) (hts _ kf_X4_19) (fun _ h9 => h9) rfl dX4_turnHand_1 ?_
  refine lv_iload_n hx hb dX4_turnHand_4 rfl (lv_at hl 1 rfl) ?_
  refine lv_iload_n hx hb dX4_turnHand_5 rfl (lv_at hl 2 rfl) ?_
  refine cl_i (rest := []) (c_X3_keyAt l D cA ad A hDD σ j h hj hvc) ⟨hx, hb, hml, hown, hts⟩ hK hP hS kv_X4_68 ⟨Nat.le_of_ble_eq_true rfl, Nat.le_of_ble_eq_true rfl⟩ ⟨Nat.zero_le _, Nat.zero_le _⟩ 2 rfl rfl rfl hl.1 rfl (Nat.le_of_ble_eq_true rfl) (fun q h => h) dX4_turnHand_6 (fun r u H locs hw hP hS _ => ?_)
  rw [hw.2] at hP
  refine tp_i (z := (hd σ j h)) hw.1 ?_
  refine tp_i (z := x) (hxe) ?_
  refine lv_istore_n (lv' := [(3, .int x), (0, .ref (ad 0)), (1, .int (nI j)), (2, .int h)]) hx hb dX4_turnHand_9 rfl hl (by decide) rfl (fun ls hl => ?_)
  rcases hX with rfl | ⟨k, hk, rfl⟩
  · have h0 : ix (sKc σ) (-1) = none := ix_lt0 (by decide)
    refine lv_aload_n hx hb dX4_turnHand_10 rfl (lv_at hl 1 rfl) ?_
    refine va_get (D := D) (ci := 4) (v := .ref (ad 1)) (C := RX4) (T := TX4) (N := 7) hx hb hts in_X4 hown hK hP 0 rfl rfl 0 (by decide) (hts _ kf_X4_10) (fun _ h9 => h9) rfl dX4_turnHand_11 ?_
    refine lv_iload_n hx hb dX4_turnHand_14 rfl (lv_at hl 0 rfl) ?_
    refine cl_i (rest := []) (c_X1_has l D cA ad A hDD σ (-1) ) ⟨hx, hb, hml, hown, hts⟩ hK hP hS kv_X4_64 ⟨Nat.le_of_ble_eq_true rfl, Nat.le_of_ble_eq_true rfl⟩ ⟨Nat.zero_le _, Nat.zero_le _⟩ 1 rfl rfl rfl hl.1 rfl (Nat.le_of_ble_eq_true rfl) (fun q h => h) dX4_turnHand_15 (fun r u H locs hw hP hS _ => ?_)
    rw [hw.2] at hP
    refine tp_i (z := (hz (sKc σ) (-1))) hw.1 ?_
    refine tp_i (z := 0) (hz_0 h0) ?_
    refine lv_if_ne (tgt := 34) hx hb dX4_turnHand_18 (by decide) (fun c9 => absurd (by decide) c9) (fun _ => ?_)
    refine lv_aload_n hx hb dX4_turnHand_21 rfl (lv_at hl 1 rfl) ?_
    refine va_get (D := D) (ci := 4) (v := .ref (ad 3)) (C := RX4) (T := TX4) (N := 7) hx hb hts in_X4 hown hK hP 0 rfl rfl 2 (by decide) (hts _ kf_X4_26) (fun _ h9 => h9) rfl dX4_turnHand_22 ?_
    refine lv_bipush (v := 10) hx hb dX4_turnHand_25 (by decide) ?_
    refine lv_iload_n hx hb dX4_turnHand_27 rfl (lv_at hl 3 rfl) ?_
    refine lv_iadd hx hb dX4_turnHand_28 ?_
    refine cl_v (rest := []) (c_X0_write l D cA ad A hDD σ (10 + h) hb9) ⟨hx, hb, hml, hown, hts⟩ hK hP hS kv_X4_131 ⟨Nat.le_of_ble_eq_true rfl, Nat.le_of_ble_eq_true rfl⟩ ⟨Nat.zero_le _, Nat.zero_le _⟩ 3 rfl rfl rfl hl.1 rfl (Nat.le_of_ble_eq_true rfl) (fun q h => h) dX4_turnHand_29 (fun u H locs hw hP hS _ => ?_)
    rw [hw] at hP
    refine lv_iconst (v := 1) hx hb dX4_turnHand_32 (by decide) ?_
    exact rt_i (v := 1) (u := (wr (10 + h) σ)) hx hb hr hlocks hS hP ((by rw [th_b]; exact ⟨rfl, rfl⟩)) dX4_turnHand_33
  · have h0 := ix_nI hk (n := sKc σ) (by omega)
    refine lv_aload_n hx hb dX4_turnHand_10 rfl (lv_at hl 1 rfl) ?_
    refine va_get (D := D) (ci := 4) (v := .ref (ad 1)) (C := RX4) (T := TX4) (N := 7) hx hb hts in_X4 hown hK hP 0 rfl rfl 0 (by decide) (hts _ kf_X4_10) (fun _ h9 => h9) rfl dX4_turnHand_11 ?_
    refine lv_iload_n hx hb dX4_turnHand_14 rfl (lv_at hl 0 rfl) ?_
    refine cl_i (rest := []) (c_X1_has l D cA ad A hDD σ (nI k) ) ⟨hx, hb, hml, hown, hts⟩ hK hP hS kv_X4_64 ⟨Nat.le_of_ble_eq_true rfl, Nat.le_of_ble_eq_true rfl⟩ ⟨Nat.zero_le _, Nat.zero_le _⟩ 1 rfl rfl rfl hl.1 rfl (Nat.le_of_ble_eq_true rfl) (fun q h => h) dX4_turnHand_15 (fun r u H locs hw hP hS _ => ?_)
    rw [hw.2] at hP
    refine tp_i (z := (hz (sKc σ) (nI k))) hw.1 ?_
    refine tp_i (z := 1) (hz_1 h0) ?_
    refine lv_if_ne (tgt := 34) hx hb dX4_turnHand_18 (by decide) (fun _ => ?_) (fun c9 => absurd c9 (by decide))
    refine lv_aload_n hx hb dX4_turnHand_34 rfl (lv_at hl 1 rfl) ?_
    refine lv_iload_n hx hb dX4_turnHand_35 rfl (lv_at hl 0 rfl) ?_
    refine cl_i (rest := []) (c_X4_turnKey l D cA ad A hDD σ k hI hk hg hb9) ⟨hx, hb, hml, hown, hts⟩ hK hP hS kv_X4_97 ⟨Nat.le_of_ble_eq_true rfl, Nat.le_of_ble_eq_true rfl⟩ ⟨Nat.zero_le _, Nat.zero_le _⟩ 0 rfl rfl rfl hl.1 rfl (Nat.le_of_ble_eq_true rfl) (fun q h => h) dX4_turnHand_36 (fun r u H locs hw hP hS _ => ?_)
    rw [hw.2] at hP
    refine tp_i (z := (tkc σ k).1) hw.1 ?_
    exact rt_i (v := (tkc σ k).1) (u := (tkc σ k).2) hx hb hr hlocks hS hP (tkc_th h (by omega)) dX4_turnHand_39
set_option maxHeartbeats 4000000 in
set_option maxRecDepth 100000 in
theorem c_X4_letGo (l : Launch) (D : va_G) (cA : ClassId) (ad : Nat → Nat) (A : Nat → Prop) (hDD : ∀ u, va_D A (cW ad cA u)) (σ : CS) (w a : Int32) (hI : Inv σ) (hb9 : sBc σ + sGr σ < 2147483647) : Ct l D cA (cW ad cA) A yX4_letGo cX4_letGo 5 (some .int) 1 21 [.ref (ad 0), .int w, .int a] σ (fun r u => r = a ∧ u = da w σ) := by
  refine Ct.of (by decide) (Nat.le_of_ble_eq_true rfl) ?_
  intro p e s m below meth c ls S0 hr hlocks hK hP hS hl
  obtain ⟨hx, hb, hml, hown, hts⟩ := id S0
  have hl : lv_has ls 5 [(0, .ref (ad 0)), (1, .int w), (2, .int a)] := hl
  have loop : ∀ (j : Nat) (τ : CS) (H : Heap) (locs : List Loc) (ls : Array Slot), InvK τ.1 (sGp σ, j, sAl σ) → sGp τ = sGp σ → sBc τ + j < 2147483647 → sgr (dr w (sGp σ) j τ) 0 = da w σ → va_P D vwCl (cW ad cA τ) H → va_S A s.heap H locs → lv_has ls 5 [(3, .int (nI j - 1)), (0, .ref (ad 0)), (1, .int w), (2, .int a)] → W p l e { frames := 1, cells := 0, slots := 0, locals := 21 } s m ([.ref (ad 0), .int w, .int a] : List Value).toArray below meth c H locs 0 0 (MQ below (va_Qi (fun r u => r = a ∧ u = da w σ) (fun u t => va_P D vwCl (cW ad cA u) t.heap) A) ([.ref (ad 0), .int w, .int a] : List Value).toArray s 0 0 A) (F0 m 7 ls []) := by
    intro j
    induction j with
    | zero =>
      intro τ H locs ls hK1 hg hb1 hE hP hS hl
      refine lv_iload_n hx hb dX4_letGo_7 rfl (lv_at hl 0 rfl) ?_
      refine lv_if_lt (tgt := 50) hx hb dX4_letGo_8 (by decide) (fun _ => ?_) (fun c9 => absurd (by decide) c9)
      refine lv_aload_n hx hb dX4_letGo_50 rfl (lv_at hl 1 rfl) ?_
      refine lv_iconst (v := 0) hx hb dX4_letGo_51 (by decide) ?_
      refine tp_i (z := (nI 0)) nI_0.symm ?_
      refine va_put (D := D) (ci := 4) (v := .int (nI 0)) (ty := .int) (C := RX4) (T := TX4) (N := 7) hx hb hts in_X4 tyX4 tyX4_ok nmX4 hown hK hP (hDD _) hS 0 rfl rfl 5 (by decide) (hts _ kf_X4_41) (fun _ h9 => h9) rfl (by decide +kernel) rfl rfl (Nat.le_of_ble_eq_true rfl) dX4_letGo_52 (fun H locs hP _ hS => ?_)
      have hP : va_P D vwCl (cW ad cA (τ.1, τ.2.1, τ.2.2.1, τ.2.2.2.1, ((sGp τ), 0, (sAl τ)))) H := hP
      refine lv_iload_n hx hb dX4_letGo_55 rfl (lv_at hl 3 rfl) ?_
      exact rt_i (v := a) (u := (τ.1, τ.2.1, τ.2.2.1, τ.2.2.2.1, ((sGp τ), 0, (sAl τ)))) hx hb hr hlocks hS hP (⟨rfl, hE⟩) dX4_letGo_56
    | succ j ih =>
      intro τ H locs ls hK1 hg hb1 hE hP hS hl
      have hj60 : j + 1 ≤ 60 := hK1.2.1
      obtain ⟨k, hk, ek⟩ := hK1.2.2.2.2.2 j (Nat.lt_succ_self j)
      have ek : sGp σ j = nI k := ek
      have hk40 : k < 40 := Nat.lt_of_lt_of_le hk hK1.1
      have hd := InvK.d1 (w := w) (σ := τ) (g := sGp σ) (j := j) (al := sAl σ) hK1
      rw [d1_k ek (by omega)] at hd
      refine lv_iload_n hx hb dX4_letGo_7 rfl (lv_at hl 0 rfl) ?_
      refine tp_i (z := (nI j)) (nI_pred _) ?_
      refine lv_if_lt (tgt := 50) hx hb dX4_letGo_8 (by decide) (fun c9 => absurd c9 (nI_pos (by omega))) (fun _ => ?_)
      refine lv_aload_n hx hb dX4_letGo_11 rfl (lv_at hl 1 rfl) ?_
      refine va_get (D := D) (ci := 4) (v := .ref (ad 5)) (C := RX4) (T := TX4) (N := 7) hx hb hts in_X4 hown hK hP 0 rfl rfl 4 (by decide) (hts _ kf_X4_37) (fun _ h9 => h9) rfl dX4_letGo_12 ?_
      refine lv_iload_n hx hb dX4_letGo_15 rfl (lv_at hl 0 rfl) ?_
      refine tp_i (z := (nI j)) (nI_pred _) ?_
      refine ar_g hx hb hK hP 5 rfl (by omega) (by decide) dX4_letGo_16 ?_
      refine tp_i (z := (nI k)) (by rw [hg]; exact ek) ?_
      refine lv_istore (lv' := [(4, .int (nI k)), (3, .int (nI (j + 1) - 1)), (0, .ref (ad 0)), (1, .int w), (2, .int a)]) hx hb dX4_letGo_17 hl (by decide) rfl (fun ls hl => ?_)
      refine lv_aload_n hx hb dX4_letGo_19 rfl (lv_at hl 2 rfl) ?_
      refine va_get (D := D) (ci := 4) (v := .ref (ad 1)) (C := RX4) (T := TX4) (N := 7) hx hb hts in_X4 hown hK hP 0 rfl rfl 0 (by decide) (hts _ kf_X4_10) (fun _ h9 => h9) rfl dX4_letGo_20 ?_
      refine va_get (D := D) (ci := 1) (v := .ref (ad 9)) (C := RX1) (T := TX1) (N := 5) hx hb hts in_X1 hown hK hP 1 rfl rfl 3 (by decide) (hts _ kf_X4_135) (fun _ h9 => h9) rfl dX4_letGo_23 ?_
      refine lv_iload hx hb dX4_letGo_26 (lv_at hl 0 rfl) ?_
      refine lv_dup2_11 hx hb dX4_letGo_28 rfl rfl ?_
      refine ar_g hx hb hK hP 9 rfl (by omega) (by decide) dX4_letGo_29 ?_
      refine lv_iconst (v := 1) hx hb dX4_letGo_30 (by decide) ?_
      refine lv_isub hx hb dX4_letGo_31 ?_
      refine ar_p hx hb hK hP (hDD _) hS 9 rfl (x := ((sHel τ k) - 1)) (by omega) (by decide) dX4_letGo_32 (fun H locs hP hS => ?_)
      have hP : va_P D vwCl (cW ad cA (((sTee τ), (sStr τ), (sWea τ), (upd (sHel τ) k ((sHel τ k) - 1)), (sKc τ)), τ.2.1, τ.2.2.1, τ.2.2.2.1, τ.2.2.2.2)) H := hP
      refine lv_aload_n hx hb dX4_letGo_33 rfl (lv_at hl 2 rfl) ?_
      refine va_get (D := D) (ci := 4) (v := .ref (ad 3)) (C := RX4) (T := TX4) (N := 7) hx hb hts in_X4 hown hK hP 0 rfl rfl 2 (by decide) (hts _ kf_X4_26) (fun _ h9 => h9) rfl dX4_letGo_34 ?_
      refine lv_iload_n hx hb dX4_letGo_37 rfl (lv_at hl 3 rfl) ?_
      refine lv_iload hx hb dX4_letGo_38 (lv_at hl 0 rfl) ?_
      refine lv_iadd hx hb dX4_letGo_40 ?_
      refine cl_v (rest := []) (c_X0_write l D cA ad A hDD (((sTee τ), (sStr τ), (sWea τ), (upd (sHel τ) k ((sHel τ k) - 1)), (sKc τ)), τ.2.1, τ.2.2.1, τ.2.2.2.1, τ.2.2.2.2) (w + (nI k)) (by show sBc τ < 2147483647; omega)) ⟨hx, hb, hml, hown, hts⟩ hK hP hS kv_X4_131 ⟨Nat.le_of_ble_eq_true rfl, Nat.le_of_ble_eq_true rfl⟩ ⟨Nat.zero_le _, Nat.zero_le _⟩ 3 rfl rfl rfl hl.1 rfl (Nat.le_of_ble_eq_true rfl) (fun q h => h) dX4_letGo_41 (fun u H locs hw hP hS _ => ?_)
      rw [hw] at hP
      refine lv_iinc (v := (nI j - 1)) (lv' := [(3, .int (nI j - 1)), (4, .int (nI k)), (0, .ref (ad 0)), (1, .int w), (2, .int a)]) hx hb dX4_letGo_44 hl (k := 1) rfl (by rw [nI_pred]; exact m1_sub _) (by decide) rfl (fun ls hl => ?_)
      refine lv_goto (tgt := 7) hx hb dX4_letGo_47 (by decide) ?_
      exact ih _ _ _ ls hd hg (by show sBc τ + 1 + j < 2147483647; omega) (by rw [← hE]; show _ = sgr (dr w (sGp σ) j (d1 w (sGp σ j) τ)) 0; rw [d1_k ek (by omega)]) hP hS (lv_sub hl [0, 2, 3, 4] rfl)
  refine lv_aload_n hx hb dX4_letGo_0 rfl (lv_at hl 0 rfl) ?_
  refine va_get (D := D) (ci := 4) (v := .int (nI (sGr σ))) (C := RX4) (T := TX4) (N := 7) hx hb hts in_X4 hown hK hP 0 rfl rfl 5 (by decide) (hts _ kf_X4_41) (fun _ h9 => h9) rfl dX4_letGo_1 ?_
  refine lv_iconst (v := 1) hx hb dX4_letGo_4 (by decide) ?_
  refine lv_isub hx hb dX4_letGo_5 ?_
  refine lv_istore_n (lv' := [(3, .int ((nI (sGr σ)) - 1)), (0, .ref (ad 0)), (1, .int w), (2, .int a)]) hx hb dX4_letGo_6 rfl hl (by decide) rfl (fun ls hl => ?_)
  exact loop (sGr σ) σ _ _ ls hI.1 rfl hb9 rfl hP hS (lv_sub hl [0, 1, 2, 3] rfl)
set_option maxHeartbeats 4000000 in
set_option maxRecDepth 100000 in
theorem c_X4_raiseAlarm (l : Launch) (D : va_G) (cA : ClassId) (ad : Nat → Nat) (A : Nat → Prop) (hDD : ∀ u, va_D A (cW ad cA u)) (σ : CS) (a : Int32) (hI : Inv σ) (hb9 : sBc σ + sGr σ < 2147483647) : Ct l D cA (cW ad cA) A yX4_raiseAlarm cX4_raiseAlarm 2 (some .int) 2 45 [.ref (ad 0), .int a] σ (fun r u => r = a ∧ u = ra σ) := by
  refine Ct.of (by decide) (Nat.le_of_ble_eq_true rfl) ?_
  intro p e s m below meth c ls S0 hr hlocks hK hP hS hl
  obtain ⟨hx, hb, hml, hown, hts⟩ := id S0
  have hl : lv_has ls 2 [(0, .ref (ad 0)), (1, .int a)] := hl
  refine lv_aload_n hx hb dX4_raiseAlarm_0 rfl (lv_at hl 0 rfl) ?_
  refine lv_dup hx hb dX4_raiseAlarm_1 rfl ?_
  refine va_get (D := D) (ci := 4) (v := .int (sAl σ)) (C := RX4) (T := TX4) (N := 7) hx hb hts in_X4 hown hK hP 0 rfl rfl 6 (by decide) (hts _ kf_X4_45) (fun _ h9 => h9) rfl dX4_raiseAlarm_2 ?_
  refine lv_iconst (v := 1) hx hb dX4_raiseAlarm_5 (by decide) ?_
  refine lv_iadd hx hb dX4_raiseAlarm_6 ?_
  refine va_put (D := D) (ci := 4) (v := .int ((sAl σ) + 1)) (ty := .int) (C := RX4) (T := TX4) (N := 7) hx hb hts in_X4 tyX4 tyX4_ok nmX4 hown hK hP (hDD _) hS 0 rfl rfl 6 (by decide) (hts _ kf_X4_45) (fun _ h9 => h9) rfl (by decide +kernel) rfl rfl (Nat.le_of_ble_eq_true rfl) dX4_raiseAlarm_7 (fun H locs hP _ hS => ?_)
  have hP : va_P D vwCl (cW ad cA (σ.1, σ.2.1, σ.2.2.1, σ.2.2.2.1, ((sGp σ), (sGr σ), ((sAl σ) + 1)))) H := hP
  refine lv_aload_n hx hb dX4_raiseAlarm_10 rfl (lv_at hl 0 rfl) ?_
  refine lv_sipush (v := 600) hx hb dX4_raiseAlarm_11 (by decide) ?_
  refine lv_iload_n hx hb dX4_raiseAlarm_14 rfl (lv_at hl 1 rfl) ?_
  refine cl_i (rest := []) (c_X4_letGo l D cA ad A hDD (σ.1, σ.2.1, σ.2.2.1, σ.2.2.2.1, ((sGp σ), (sGr σ), ((sAl σ) + 1))) 600 a hI hb9) ⟨hx, hb, hml, hown, hts⟩ hK hP hS kv_X4_88 ⟨Nat.le_of_ble_eq_true rfl, Nat.le_of_ble_eq_true rfl⟩ ⟨Nat.zero_le _, Nat.zero_le _⟩ 0 rfl rfl rfl hl.1 rfl (Nat.le_of_ble_eq_true rfl) (fun q h => h) dX4_raiseAlarm_15 (fun r u H locs hw hP hS _ => ?_)
  rw [hw.2] at hP
  refine tp_i (z := a) hw.1 ?_
  exact rt_i (v := a) (u := (da 600 (σ.1, σ.2.1, σ.2.2.1, σ.2.2.2.1, ((sGp σ), (sGr σ), ((sAl σ) + 1))))) hx hb hr hlocks hS hP (⟨rfl, rfl⟩) dX4_raiseAlarm_18
set_option maxHeartbeats 4000000 in
set_option maxRecDepth 100000 in
theorem c_X4_turnBoth (l : Launch) (D : va_G) (cA : ClassId) (ad : Nat → Nat) (A : Nat → Prop) (hDD : ∀ u, va_D A (cW ad cA u)) (σ : CS) (j : Nat) (hI : Inv σ) (hj : j < sVc σ) (hg : sGr σ + 2 ≤ 60) (hb9 : sBc σ + sGr σ ≤ 2000000000) : Ct l D cA (cW ad cA) A yX4_turnBoth cX4_turnBoth 3 (some .int) 3 66 [.ref (ad 0), .int (nI j)] σ (fun r u => r = (tb σ j).1 ∧ u = (tb σ j).2) := by
  refine Ct.of (by decide) (Nat.le_of_ble_eq_true rfl) ?_
  intro p e s m below meth c ls S0 hr hlocks hK hP hS hl
  obtain ⟨hx, hb, hml, hown, hts⟩ := id S0
  have hl : lv_has ls 3 [(0, .ref (ad 0)), (1, .int (nI j))] := hl
  have hkc := hI.kc
  have hvc := hI.vc
  have hgc := hI.gr
  have htc := hI.tc
  have s1 := th_st (h := 0) hI (hI.lf hj) (by omega)
  have g1 := th_gr (σ := σ) (x := sLf σ j) (h := 0)
  have hX2 : HX (sKc (th σ (sLf σ j) 0).2) (sRt σ j) := by rw [s1.2.2.2.1]; exact hI.rt hj
  have s2 := th_st (h := 1) s1.1 (x := sRt σ j) hX2 (by omega)
  have b1 := s1.2.2.2.2
  have b2 := s2.2.2.2.2
  have hj2 : j < sVc (th σ (sLf σ j) 0).2 := by rw [s1.2.1]; exact hj
  refine lv_aload_n hx hb dX4_turnBoth_0 rfl (lv_at hl 0 rfl) ?_
  refine lv_iload_n hx hb dX4_turnBoth_1 rfl (lv_at hl 1 rfl) ?_
  refine lv_iconst (v := 0) hx hb dX4_turnBoth_2 (by decide) ?_
  refine cl_i (rest := []) (c_X4_turnHand l D cA ad A hDD σ j 0 (sLf σ j) (hd_0 _ _) (hI.lf hj) hI hj (by omega) (by omega)) ⟨hx, hb, hml, hown, hts⟩ hK hP hS kv_X4_106 ⟨Nat.le_of_ble_eq_true rfl, Nat.le_of_ble_eq_true rfl⟩ ⟨Nat.zero_le _, Nat.zero_le _⟩ 0 rfl rfl rfl hl.1 rfl (Nat.le_of_ble_eq_true rfl) (fun q h => h) dX4_turnBoth_3 (fun r u H locs hw hP hS _ => ?_)
  rw [hw.2] at hP
  refine tp_i (z := (thc (th σ (sLf σ j) 0).1)) hw.1 ?_
  rcases th_012 σ (sLf σ j) 0 with q | q | q
  · skip
    refine tp_i (z := 0) (by rw [q]; rfl) ?_
    refine lv_istore_n (lv' := [(2, .int 0), (0, .ref (ad 0)), (1, .int (nI j))]) hx hb dX4_turnBoth_6 rfl hl (by decide) rfl (fun ls hl => ?_)
    refine lv_iload_n hx hb dX4_turnBoth_7 rfl (lv_at hl 0 rfl) ?_
    refine lv_if_ne (tgt := 18) hx hb dX4_turnBoth_8 (by decide) (fun c9 => absurd (by decide) c9) (fun _ => ?_)
    refine lv_aload_n hx hb dX4_turnBoth_11 rfl (lv_at hl 1 rfl) ?_
    refine lv_iload_n hx hb dX4_turnBoth_12 rfl (lv_at hl 2 rfl) ?_
    refine lv_iconst (v := 1) hx hb dX4_turnBoth_13 (by decide) ?_
    refine cl_i (rest := []) (c_X4_turnHand l D cA ad A hDD (th σ (sLf σ j) 0).2 j 1 (sRt σ j) th_rt hX2 s1.1 hj2 (by omega) (by omega)) ⟨hx, hb, hml, hown, hts⟩ hK hP hS kv_X4_106 ⟨Nat.le_of_ble_eq_true rfl, Nat.le_of_ble_eq_true rfl⟩ ⟨Nat.zero_le _, Nat.zero_le _⟩ 0 rfl rfl rfl hl.1 rfl (Nat.le_of_ble_eq_true rfl) (fun q h => h) dX4_turnBoth_14 (fun r u H locs hw hP hS _ => ?_)
    rw [hw.2] at hP
    refine tp_i (z := (thc (th (th σ (sLf σ j) 0).2 (sRt σ j) 1).1)) hw.1 ?_
    rcases th_012 (th σ (sLf σ j) 0).2 (sRt σ j) 1 with y | y | y
    · skip
      refine tp_i (z := 0) (by rw [y]; rfl) ?_
      refine lv_istore_n (lv' := [(2, .int 0), (0, .ref (ad 0)), (1, .int (nI j))]) hx hb dX4_turnBoth_17 rfl hl (by decide) rfl (fun ls hl => ?_)
      refine lv_iload_n hx hb dX4_turnBoth_18 rfl (lv_at hl 0 rfl) ?_
      refine lv_bipush (v := (-7)) hx hb dX4_turnBoth_19 (by decide) ?_
      refine lv_icmp_ne (tgt := 31) hx hb dX4_turnBoth_21 (by decide) (fun _ => ?_) (fun c9 => absurd c9 (by decide))
      refine lv_iload_n hx hb dX4_turnBoth_31 rfl (lv_at hl 0 rfl) ?_
      refine lv_iconst (v := 1) hx hb dX4_turnBoth_32 (by decide) ?_
      refine lv_icmp_ne (tgt := 46) hx hb dX4_turnBoth_33 (by decide) (fun _ => ?_) (fun c9 => absurd c9 (by decide))
      refine lv_iconst (v := 0) hx hb dX4_turnBoth_46 (by decide) ?_
      exact rt_i (v := 0) (u := (th (th σ (sLf σ j) 0).2 (sRt σ j) 1).2) hx hb hr hlocks hS hP (pr2 (by first | (unfold tb; rw [if_neg (by rw [q]; decide), if_neg (by rw [q]; decide), if_neg (by rw [y]; decide), if_neg (by rw [y]; decide)]; done) | (unfold tb; rw [if_neg (by rw [q]; decide), if_neg (by rw [q]; decide), if_neg (by rw [y]; decide), if_neg (by rw [y]; decide)]; rfl))) dX4_turnBoth_47
    · skip
      refine tp_i (z := 1) (by rw [y]; rfl) ?_
      refine lv_istore_n (lv' := [(2, .int 1), (0, .ref (ad 0)), (1, .int (nI j))]) hx hb dX4_turnBoth_17 rfl hl (by decide) rfl (fun ls hl => ?_)
      refine lv_iload_n hx hb dX4_turnBoth_18 rfl (lv_at hl 0 rfl) ?_
      refine lv_bipush (v := (-7)) hx hb dX4_turnBoth_19 (by decide) ?_
      refine lv_icmp_ne (tgt := 31) hx hb dX4_turnBoth_21 (by decide) (fun _ => ?_) (fun c9 => absurd c9 (by decide))
      refine lv_iload_n hx hb dX4_turnBoth_31 rfl (lv_at hl 0 rfl) ?_
      refine lv_iconst (v := 1) hx hb dX4_turnBoth_32 (by decide) ?_
      refine lv_icmp_ne (tgt := 46) hx hb dX4_turnBoth_33 (by decide) (fun c9 => absurd (by decide) c9) (fun _ => ?_)
      refine lv_aload_n hx hb dX4_turnBoth_36 rfl (lv_at hl 1 rfl) ?_
      refine lv_sipush (v := 300) hx hb dX4_turnBoth_37 (by decide) ?_
      refine lv_bipush (v := (-4)) hx hb dX4_turnBoth_40 (by decide) ?_
      refine cl_i (rest := []) (c_X4_letGo l D cA ad A hDD (th (th σ (sLf σ j) 0).2 (sRt σ j) 1).2 300 (-4) s2.1 (by omega)) ⟨hx, hb, hml, hown, hts⟩ hK hP hS kv_X4_88 ⟨Nat.le_of_ble_eq_true rfl, Nat.le_of_ble_eq_true rfl⟩ ⟨Nat.zero_le _, Nat.zero_le _⟩ 0 rfl rfl rfl hl.1 rfl (Nat.le_of_ble_eq_true rfl) (fun q h => h) dX4_turnBoth_42 (fun r u H locs hw hP hS _ => ?_)
      rw [hw.2] at hP
      refine tp_i (z := (-4)) hw.1 ?_
      exact rt_i (v := (-4)) (u := (da 300 (th (th σ (sLf σ j) 0).2 (sRt σ j) 1).2)) hx hb hr hlocks hS hP (pr2 (by first | (unfold tb; rw [if_neg (by rw [q]; decide), if_neg (by rw [q]; decide), if_pos y]; done) | (unfold tb; rw [if_neg (by rw [q]; decide), if_neg (by rw [q]; decide), if_pos y]; rfl))) dX4_turnBoth_45
    · skip
      refine tp_i (z := (-7)) (by rw [y]; rfl) ?_
      refine lv_istore_n (lv' := [(2, .int (-7)), (0, .ref (ad 0)), (1, .int (nI j))]) hx hb dX4_turnBoth_17 rfl hl (by decide) rfl (fun ls hl => ?_)
      refine lv_iload_n hx hb dX4_turnBoth_18 rfl (lv_at hl 0 rfl) ?_
      refine lv_bipush (v := (-7)) hx hb dX4_turnBoth_19 (by decide) ?_
      refine lv_icmp_ne (tgt := 31) hx hb dX4_turnBoth_21 (by decide) (fun c9 => absurd (by decide) c9) (fun _ => ?_)
      refine lv_aload_n hx hb dX4_turnBoth_24 rfl (lv_at hl 1 rfl) ?_
      refine lv_bipush (v := (-7)) hx hb dX4_turnBoth_25 (by decide) ?_
      refine cl_i (rest := []) (c_X4_raiseAlarm l D cA ad A hDD (th (th σ (sLf σ j) 0).2 (sRt σ j) 1).2 (-7) s2.1 (by omega)) ⟨hx, hb, hml, hown, hts⟩ hK hP hS kv_X4_94 ⟨Nat.le_of_ble_eq_true rfl, Nat.le_of_ble_eq_true rfl⟩ ⟨Nat.zero_le _, Nat.zero_le _⟩ 0 rfl rfl rfl hl.1 rfl (Nat.le_of_ble_eq_true rfl) (fun q h => h) dX4_turnBoth_27 (fun r u H locs hw hP hS _ => ?_)
      rw [hw.2] at hP
      refine tp_i (z := (-7)) hw.1 ?_
      exact rt_i (v := (-7)) (u := (ra (th (th σ (sLf σ j) 0).2 (sRt σ j) 1).2)) hx hb hr hlocks hS hP (pr2 (by first | (unfold tb; rw [if_neg (by rw [q]; decide), if_neg (by rw [q]; decide), if_neg (by rw [y]; decide), if_pos y]; done) | (unfold tb; rw [if_neg (by rw [q]; decide), if_neg (by rw [q]; decide), if_neg (by rw [y]; decide), if_pos y]; rfl))) dX4_turnBoth_30
  · skip
    refine tp_i (z := 1) (by rw [q]; rfl) ?_
    refine lv_istore_n (lv' := [(2, .int 1), (0, .ref (ad 0)), (1, .int (nI j))]) hx hb dX4_turnBoth_6 rfl hl (by decide) rfl (fun ls hl => ?_)
    refine lv_iload_n hx hb dX4_turnBoth_7 rfl (lv_at hl 0 rfl) ?_
    refine lv_if_ne (tgt := 18) hx hb dX4_turnBoth_8 (by decide) (fun _ => ?_) (fun c9 => absurd c9 (by decide))
    refine lv_iload_n hx hb dX4_turnBoth_18 rfl (lv_at hl 0 rfl) ?_
    refine lv_bipush (v := (-7)) hx hb dX4_turnBoth_19 (by decide) ?_
    refine lv_icmp_ne (tgt := 31) hx hb dX4_turnBoth_21 (by decide) (fun _ => ?_) (fun c9 => absurd c9 (by decide))
    refine lv_iload_n hx hb dX4_turnBoth_31 rfl (lv_at hl 0 rfl) ?_
    refine lv_iconst (v := 1) hx hb dX4_turnBoth_32 (by decide) ?_
    refine lv_icmp_ne (tgt := 46) hx hb dX4_turnBoth_33 (by decide) (fun c9 => absurd (by decide) c9) (fun _ => ?_)
    refine lv_aload_n hx hb dX4_turnBoth_36 rfl (lv_at hl 1 rfl) ?_
    refine lv_sipush (v := 300) hx hb dX4_turnBoth_37 (by decide) ?_
    refine lv_bipush (v := (-4)) hx hb dX4_turnBoth_40 (by decide) ?_
    refine cl_i (rest := []) (c_X4_letGo l D cA ad A hDD (th σ (sLf σ j) 0).2 300 (-4) s1.1 (by omega)) ⟨hx, hb, hml, hown, hts⟩ hK hP hS kv_X4_88 ⟨Nat.le_of_ble_eq_true rfl, Nat.le_of_ble_eq_true rfl⟩ ⟨Nat.zero_le _, Nat.zero_le _⟩ 0 rfl rfl rfl hl.1 rfl (Nat.le_of_ble_eq_true rfl) (fun q h => h) dX4_turnBoth_42 (fun r u H locs hw hP hS _ => ?_)
    rw [hw.2] at hP
    refine tp_i (z := (-4)) hw.1 ?_
    exact rt_i (v := (-4)) (u := (da 300 (th σ (sLf σ j) 0).2)) hx hb hr hlocks hS hP (pr2 (by first | (unfold tb; rw [if_pos q]; done) | (unfold tb; rw [if_pos q]; rfl))) dX4_turnBoth_45
  · skip
    refine tp_i (z := (-7)) (by rw [q]; rfl) ?_
    refine lv_istore_n (lv' := [(2, .int (-7)), (0, .ref (ad 0)), (1, .int (nI j))]) hx hb dX4_turnBoth_6 rfl hl (by decide) rfl (fun ls hl => ?_)
    refine lv_iload_n hx hb dX4_turnBoth_7 rfl (lv_at hl 0 rfl) ?_
    refine lv_if_ne (tgt := 18) hx hb dX4_turnBoth_8 (by decide) (fun _ => ?_) (fun c9 => absurd c9 (by decide))
    refine lv_iload_n hx hb dX4_turnBoth_18 rfl (lv_at hl 0 rfl) ?_
    refine lv_bipush (v := (-7)) hx hb dX4_turnBoth_19 (by decide) ?_
    refine lv_icmp_ne (tgt := 31) hx hb dX4_turnBoth_21 (by decide) (fun c9 => absurd (by decide) c9) (fun _ => ?_)
    refine lv_aload_n hx hb dX4_turnBoth_24 rfl (lv_at hl 1 rfl) ?_
    refine lv_bipush (v := (-7)) hx hb dX4_turnBoth_25 (by decide) ?_
    refine cl_i (rest := []) (c_X4_raiseAlarm l D cA ad A hDD (th σ (sLf σ j) 0).2 (-7) s1.1 (by omega)) ⟨hx, hb, hml, hown, hts⟩ hK hP hS kv_X4_94 ⟨Nat.le_of_ble_eq_true rfl, Nat.le_of_ble_eq_true rfl⟩ ⟨Nat.zero_le _, Nat.zero_le _⟩ 0 rfl rfl rfl hl.1 rfl (Nat.le_of_ble_eq_true rfl) (fun q h => h) dX4_turnBoth_27 (fun r u H locs hw hP hS _ => ?_)
    rw [hw.2] at hP
    refine tp_i (z := (-7)) hw.1 ?_
    exact rt_i (v := (-7)) (u := (ra (th σ (sLf σ j) 0).2)) hx hb hr hlocks hS hP (pr2 (by first | (unfold tb; rw [if_neg (by rw [q]; decide), if_pos q]; done) | (unfold tb; rw [if_neg (by rw [q]; decide), if_pos q]; rfl))) dX4_turnBoth_30
