set_option maxHeartbeats 4000000 in
set_option maxRecDepth 100000 in
theorem c_X5_dropTop (l : Launch) (D : va_G) (cA : ClassId) (ad : Nat → Nat) (A : Nat → Prop) (hDD : ∀ u, va_D A (rW ad cA u)) (σ : CS) (w : Int32) (j k : Nat) (hgr : sGr σ = j + 1) (hj : j < 60) (hk : k < 40) (ek : sGp σ j = nI k) (hb9 : sBc σ < 2147483647) : Cv l D cA (rW ad cA) A yX5_dropTop cX5_dropTop 3 1 21 [.ref (ad 0), .int w] σ (fun u => u = sgr (wr (w + nI k) (dec σ k)) j) := by
  refine Cv.of (by decide) (Nat.le_of_ble_eq_true rfl) ?_
  intro p e s m below meth c ls S0 hr hlocks hK hP hS hl
  obtain ⟨hx, hb, hml, hown, hts⟩ := id S0
  have hl : lv_has ls 3 [(0, .ref (ad 0)), (1, .int w)] := hl
  refine lv_aload_n hx hb dX5_dropTop_0 rfl (lv_at hl 0 rfl) ?_
  refine lv_dup hx hb dX5_dropTop_1 rfl ?_
  refine va_get (D := D) (ci := 5) (v := .int (nI (sGr σ))) (C := RX5) (T := TX5) (N := 20) hx hb hts in_X5 hown hK hP 0 rfl rfl 11 (by decide) (hts _ kf_X5_76) (fun _ h9 => h9) rfl dX5_dropTop_2 ?_
  refine tp_i (z := (nI (j + 1))) (by rw [hgr]) ?_
  refine lv_iconst (v := 1) hx hb dX5_dropTop_5 (by decide) ?_
  refine lv_isub hx hb dX5_dropTop_6 ?_
  refine tp_i (z := (nI j)) (nI_pred _) ?_
  refine va_put (D := D) (ci := 5) (v := .int (nI j)) (ty := .int) (C := RX5) (T := TX5) (N := 20) hx hb hts in_X5 tyX5 tyX5_ok nmX5 hown hK hP (hDD _) hS 0 rfl rfl 11 (by decide) (hts _ kf_X5_76) (fun _ h9 => h9) rfl (by decide +kernel) rfl rfl (Nat.le_of_ble_eq_true rfl) dX5_dropTop_7 (fun H locs hP _ hS => ?_)
  have hP : va_P D vwCl (rW ad cA (σ.1, σ.2.1, σ.2.2.1, σ.2.2.2.1, ((sGp σ), j, (sAl σ)))) H := hP
  refine lv_aload_n hx hb dX5_dropTop_10 rfl (lv_at hl 0 rfl) ?_
  refine va_get (D := D) (ci := 5) (v := .ref (ad 9)) (C := RX5) (T := TX5) (N := 20) hx hb hts in_X5 hown hK hP 0 rfl rfl 10 (by decide) (hts _ kf_X5_34) (fun _ h9 => h9) rfl dX5_dropTop_11 ?_
  refine lv_aload_n hx hb dX5_dropTop_14 rfl (lv_at hl 0 rfl) ?_
  refine va_get (D := D) (ci := 5) (v := .int (nI j)) (C := RX5) (T := TX5) (N := 20) hx hb hts in_X5 hown hK hP 0 rfl rfl 11 (by decide) (hts _ kf_X5_76) (fun _ h9 => h9) rfl dX5_dropTop_15 ?_
  refine ar_g hx hb hK hP 9 rfl (by omega) (by decide) dX5_dropTop_18 ?_
  refine tp_i (z := (nI k)) (ek) ?_
  refine lv_istore_n (lv' := [(2, .int (nI k)), (0, .ref (ad 0)), (1, .int w)]) hx hb dX5_dropTop_19 rfl hl (by decide) rfl (fun ls hl => ?_)
  refine lv_aload_n hx hb dX5_dropTop_20 rfl (lv_at hl 1 rfl) ?_
  refine va_get (D := D) (ci := 5) (v := .ref (ad 4)) (C := RX5) (T := TX5) (N := 20) hx hb hts in_X5 hown hK hP 0 rfl rfl 3 (by decide) (hts _ kf_X5_19) (fun _ h9 => h9) rfl dX5_dropTop_21 ?_
  refine lv_iload_n hx hb dX5_dropTop_24 rfl (lv_at hl 0 rfl) ?_
  refine lv_dup2_11 hx hb dX5_dropTop_25 rfl rfl ?_
  refine ar_g hx hb hK hP 4 rfl (by omega) (by decide) dX5_dropTop_26 ?_
  refine lv_iconst (v := 1) hx hb dX5_dropTop_27 (by decide) ?_
  refine lv_isub hx hb dX5_dropTop_28 ?_
  refine ar_p hx hb hK hP (hDD _) hS 4 rfl (x := ((sHel σ k) - 1)) (by omega) (by decide) dX5_dropTop_29 (fun H locs hP hS => ?_)
  have hP : va_P D vwCl (rW ad cA (((sTee σ), (sStr σ), (sWea σ), (upd (sHel σ) k ((sHel σ k) - 1)), (sKc σ)), σ.2.1, σ.2.2.1, σ.2.2.2.1, ((sGp σ), j, (sAl σ)))) H := hP
  refine lv_aload_n hx hb dX5_dropTop_30 rfl (lv_at hl 1 rfl) ?_
  refine lv_iload_n hx hb dX5_dropTop_31 rfl (lv_at hl 2 rfl) ?_
  refine lv_iload_n hx hb dX5_dropTop_32 rfl (lv_at hl 0 rfl) ?_
  refine lv_iadd hx hb dX5_dropTop_33 ?_
  refine cl_v (rest := []) (c_X5_enter l D cA ad A hDD (((sTee σ), (sStr σ), (sWea σ), (upd (sHel σ) k ((sHel σ k) - 1)), (sKc σ)), σ.2.1, σ.2.2.1, σ.2.2.2.1, ((sGp σ), j, (sAl σ))) (w + (nI k)) hb9) ⟨hx, hb, hml, hown, hts⟩ hK hP hS kv_X5_79 ⟨Nat.le_of_ble_eq_true rfl, Nat.le_of_ble_eq_true rfl⟩ ⟨Nat.zero_le _, Nat.zero_le _⟩ 0 rfl rfl rfl hl.1 rfl (Nat.le_of_ble_eq_true rfl) (fun q h => h) dX5_dropTop_34 (fun u H locs hw hP hS _ => ?_)
  rw [hw] at hP
  exact rt_v (u := (wr (w + (nI k)) (((sTee σ), (sStr σ), (sWea σ), (upd (sHel σ) k ((sHel σ k) - 1)), (sKc σ)), σ.2.1, σ.2.2.1, σ.2.2.2.1, ((sGp σ), j, (sAl σ))))) hx hb hr hlocks hS hP (rfl) dX5_dropTop_37
set_option maxHeartbeats 4000000 in
set_option maxRecDepth 100000 in
theorem c_X5_dropAll (l : Launch) (D : va_G) (cA : ClassId) (ad : Nat → Nat) (A : Nat → Prop) (hDD : ∀ u, va_D A (rW ad cA u)) (σ : CS) (w : Int32) (hI : Inv σ) (hb9 : sBc σ + sGr σ < 2147483647) : Cv l D cA (rW ad cA) A yX5_dropAll cX5_dropAll 2 2 43 [.ref (ad 0), .int w] σ (fun u => u = da w σ) := by
  refine Cv.of (by decide) (Nat.le_of_ble_eq_true rfl) ?_
  intro p e s m below meth c ls S0 hr hlocks hK hP hS hl
  obtain ⟨hx, hb, hml, hown, hts⟩ := id S0
  have hl : lv_has ls 2 [(0, .ref (ad 0)), (1, .int w)] := hl
  have loop : ∀ (j : Nat) (τ : CS) (H : Heap) (locs : List Loc) (ls : Array Slot), sGr τ = j → InvK τ.1 (sGp σ, j, sAl σ) → sGp τ = sGp σ → sBc τ + j < 2147483647 → sgr (dr w (sGp σ) j τ) 0 = da w σ → va_P D vwCl (rW ad cA τ) H → va_S A s.heap H locs → lv_has ls 2 [(0, .ref (ad 0)), (1, .int w)] → W p l e { frames := 2, cells := 0, slots := 0, locals := 43 } s m ([.ref (ad 0), .int w] : List Value).toArray below meth c H locs 0 0 (MQ below (va_Qv (fun u => u = da w σ) (fun u t => va_P D vwCl (rW ad cA u) t.heap) A) ([.ref (ad 0), .int w] : List Value).toArray s 0 0 A) (F0 m 0 ls []) := by
    intro j
    induction j with
    | zero =>
      intro τ H locs ls hgr hK1 hg hb1 hE hP hS hl
      refine lv_aload_n hx hb dX5_dropAll_0 rfl (lv_at hl 0 rfl) ?_
      refine va_get (D := D) (ci := 5) (v := .int (nI (sGr τ))) (C := RX5) (T := TX5) (N := 20) hx hb hts in_X5 hown hK hP 0 rfl rfl 11 (by decide) (hts _ kf_X5_76) (fun _ h9 => h9) rfl dX5_dropAll_1 ?_
      refine tp_i (z := 0) (by rw [hgr]; rfl) ?_
      refine lv_if_le (tgt := 15) hx hb dX5_dropAll_4 (by decide) (fun _ => ?_) (fun c9 => absurd (by decide) c9)
      exact rt_v (u := τ) hx hb hr hlocks hS hP ((sgr_self hgr).symm.trans hE) dX5_dropAll_15
    | succ j ih =>
      intro τ H locs ls hgr hK1 hg hb1 hE hP hS hl
      have hj60 : j + 1 ≤ 60 := hK1.2.1
      obtain ⟨k, hk, ek⟩ := hK1.2.2.2.2.2 j (Nat.lt_succ_self j)
      have ek : sGp σ j = nI k := ek
      have hk40 : k < 40 := Nat.lt_of_lt_of_le hk hK1.1
      have hd := InvK.d1 (w := w) (σ := τ) (g := sGp σ) (j := j) (al := sAl σ) hK1
      rw [d1_k ek (by omega)] at hd
      refine lv_aload_n hx hb dX5_dropAll_0 rfl (lv_at hl 0 rfl) ?_
      refine va_get (D := D) (ci := 5) (v := .int (nI (sGr τ))) (C := RX5) (T := TX5) (N := 20) hx hb hts in_X5 hown hK hP 0 rfl rfl 11 (by decide) (hts _ kf_X5_76) (fun _ h9 => h9) rfl dX5_dropAll_1 ?_
      refine tp_i (z := (nI (j + 1))) (by rw [hgr]) ?_
      refine lv_if_le (tgt := 15) hx hb dX5_dropAll_4 (by decide) (fun c9 => absurd c9 (nI_nle (by omega) (by omega))) (fun _ => ?_)
      refine lv_aload_n hx hb dX5_dropAll_7 rfl (lv_at hl 0 rfl) ?_
      refine lv_iload_n hx hb dX5_dropAll_8 rfl (lv_at hl 1 rfl) ?_
      refine cl_v (rest := []) (c_X5_dropTop l D cA ad A hDD τ w j k hgr (by omega) hk40 (by rw [hg]; exact ek) (by omega)) ⟨hx, hb, hml, hown, hts⟩ hK hP hS kv_X5_83 ⟨Nat.le_of_ble_eq_true rfl, Nat.le_of_ble_eq_true rfl⟩ ⟨Nat.zero_le _, Nat.zero_le _⟩ 0 rfl rfl rfl hl.1 rfl (Nat.le_of_ble_eq_true rfl) (fun q h => h) dX5_dropAll_9 (fun u H locs hw hP hS _ => ?_)
      rw [hw] at hP
      refine lv_goto (tgt := 0) hx hb dX5_dropAll_12 (by decide) ?_
      exact ih (sgr (wr (w + nI k) (dec τ k)) j) _ _ ls rfl hd hg (by show sBc τ + 1 + j < 2147483647; omega) (by rw [← hE, dr_sgr]; show sgr (dr w (sGp σ) j _) 0 = sgr (dr w (sGp σ) j (d1 w (sGp σ j) τ)) 0; rw [d1_k ek (by omega)]) hP hS (lv_sub hl [0, 1] rfl)
  exact loop (sGr σ) σ _ _ ls rfl hI.1 rfl hb9 rfl hP hS (lv_sub hl [0, 1] rfl)
set_option maxHeartbeats 4000000 in
set_option maxRecDepth 100000 in
theorem c_X5_alarm (l : Launch) (D : va_G) (cA : ClassId) (ad : Nat → Nat) (A : Nat → Prop) (hDD : ∀ u, va_D A (rW ad cA u)) (σ : CS) (hI : Inv σ) (hb9 : sBc σ + sGr σ < 2147483647) : Cv l D cA (rW ad cA) A yX5_alarm cX5_alarm 1 3 64 [.ref (ad 0)] σ (fun u => u = ra σ) := by
  refine Cv.of (by decide) (Nat.le_of_ble_eq_true rfl) ?_
  intro p e s m below meth c ls S0 hr hlocks hK hP hS hl
  obtain ⟨hx, hb, hml, hown, hts⟩ := id S0
  have hl : lv_has ls 1 [(0, .ref (ad 0))] := hl
  refine lv_aload_n hx hb dX5_alarm_0 rfl (lv_at hl 0 rfl) ?_
  refine lv_sipush (v := 600) hx hb dX5_alarm_1 (by decide) ?_
  refine cl_v (rest := []) (c_X5_dropAll l D cA ad A hDD σ 600 hI hb9) ⟨hx, hb, hml, hown, hts⟩ hK hP hS kv_X5_86 ⟨Nat.le_of_ble_eq_true rfl, Nat.le_of_ble_eq_true rfl⟩ ⟨Nat.zero_le _, Nat.zero_le _⟩ 0 rfl rfl rfl hl.1 rfl (Nat.le_of_ble_eq_true rfl) (fun q h => h) dX5_alarm_4 (fun u H locs hw hP hS _ => ?_)
  rw [hw] at hP
  refine lv_aload_n hx hb dX5_alarm_7 rfl (lv_at hl 0 rfl) ?_
  refine lv_dup hx hb dX5_alarm_8 rfl ?_
  refine va_get (D := D) (ci := 5) (v := .int (sAl (da 600 σ))) (C := RX5) (T := TX5) (N := 20) hx hb hts in_X5 hown hK hP 0 rfl rfl 14 (by decide) (hts _ kf_X5_89) (fun _ h9 => h9) rfl dX5_alarm_9 ?_
  refine lv_iconst (v := 1) hx hb dX5_alarm_12 (by decide) ?_
  refine lv_iadd hx hb dX5_alarm_13 ?_
  refine va_put (D := D) (ci := 5) (v := .int ((sAl (da 600 σ)) + 1)) (ty := .int) (C := RX5) (T := TX5) (N := 20) hx hb hts in_X5 tyX5 tyX5_ok nmX5 hown hK hP (hDD _) hS 0 rfl rfl 14 (by decide) (hts _ kf_X5_89) (fun _ h9 => h9) rfl (by decide +kernel) rfl rfl (Nat.le_of_ble_eq_true rfl) dX5_alarm_14 (fun H locs hP _ hS => ?_)
  have hP : va_P D vwCl (rW ad cA ((da 600 σ).1, (da 600 σ).2.1, (da 600 σ).2.2.1, (da 600 σ).2.2.2.1, ((sGp (da 600 σ)), (sGr (da 600 σ)), ((sAl (da 600 σ)) + 1)))) H := hP
  exact rt_v (u := ((da 600 σ).1, (da 600 σ).2.1, (da 600 σ).2.2.1, (da 600 σ).2.2.2.1, ((sGp (da 600 σ)), (sGr (da 600 σ)), ((sAl (da 600 σ)) + 1)))) hx hb hr hlocks hS hP (ra_alt σ) dX5_alarm_17
set_option maxHeartbeats 4000000 in
set_option maxRecDepth 100000 in
theorem c_X5_ended (l : Launch) (D : va_G) (cA : ClassId) (ad : Nat → Nat) (A : Nat → Prop) (hDD : ∀ u, va_D A (rW ad cA u)) (σ : CS) (a : Int32) (hI : Inv σ) (hb9 : sBc σ + sGr σ < 2147483647) : Ct l D cA (rW ad cA) A yX5_ended cX5_ended 2 (some .int) 3 64 [.ref (ad 0), .int a] σ (fun r u => r = a ∧ u = da 200 σ) := by
  refine Ct.of (by decide) (Nat.le_of_ble_eq_true rfl) ?_
  intro p e s m below meth c ls S0 hr hlocks hK hP hS hl
  obtain ⟨hx, hb, hml, hown, hts⟩ := id S0
  have hl : lv_has ls 2 [(0, .ref (ad 0)), (1, .int a)] := hl
  refine lv_aload_n hx hb dX5_ended_0 rfl (lv_at hl 0 rfl) ?_
  refine lv_sipush (v := 200) hx hb dX5_ended_1 (by decide) ?_
  refine cl_v (rest := []) (c_X5_dropAll l D cA ad A hDD σ 200 hI hb9) ⟨hx, hb, hml, hown, hts⟩ hK hP hS kv_X5_86 ⟨Nat.le_of_ble_eq_true rfl, Nat.le_of_ble_eq_true rfl⟩ ⟨Nat.zero_le _, Nat.zero_le _⟩ 0 rfl rfl rfl hl.1 rfl (Nat.le_of_ble_eq_true rfl) (fun q h => h) dX5_ended_4 (fun u H locs hw hP hS _ => ?_)
  rw [hw] at hP
  refine lv_iload_n hx hb dX5_ended_7 rfl (lv_at hl 1 rfl) ?_
  exact rt_i (v := a) (u := (da 200 σ)) hx hb hr hlocks hS hP (⟨rfl, rfl⟩) dX5_ended_8
set_option maxHeartbeats 4000000 in
set_option maxRecDepth 100000 in
theorem c_X5_answered (l : Launch) (D : va_G) (cA : ClassId) (ad : Nat → Nat) (A : Nat → Prop) (hDD : ∀ u, va_D A (rW ad cA u)) (σ : CS) (a : Int32) (hI : Inv σ) (hb9 : sBc σ + sGr σ < 2147483647) : Ct l D cA (rW ad cA) A yX5_answered cX5_answered 2 (some .int) 3 64 [.ref (ad 0), .int a] σ (fun r u => r = a ∧ u = da 300 σ) := by
  refine Ct.of (by decide) (Nat.le_of_ble_eq_true rfl) ?_
  intro p e s m below meth c ls S0 hr hlocks hK hP hS hl
  obtain ⟨hx, hb, hml, hown, hts⟩ := id S0
  have hl : lv_has ls 2 [(0, .ref (ad 0)), (1, .int a)] := hl
  refine lv_aload_n hx hb dX5_answered_0 rfl (lv_at hl 0 rfl) ?_
  refine lv_sipush (v := 300) hx hb dX5_answered_1 (by decide) ?_
  refine cl_v (rest := []) (c_X5_dropAll l D cA ad A hDD σ 300 hI hb9) ⟨hx, hb, hml, hown, hts⟩ hK hP hS kv_X5_86 ⟨Nat.le_of_ble_eq_true rfl, Nat.le_of_ble_eq_true rfl⟩ ⟨Nat.zero_le _, Nat.zero_le _⟩ 0 rfl rfl rfl hl.1 rfl (Nat.le_of_ble_eq_true rfl) (fun q h => h) dX5_answered_4 (fun u H locs hw hP hS _ => ?_)
  rw [hw] at hP
  refine lv_iload_n hx hb dX5_answered_7 rfl (lv_at hl 1 rfl) ?_
  exact rt_i (v := a) (u := (da 300 σ)) hx hb hr hlocks hS hP (⟨rfl, rfl⟩) dX5_answered_8
set_option maxHeartbeats 4000000 in
set_option maxRecDepth 100000 in
theorem c_X5_alarmed (l : Launch) (D : va_G) (cA : ClassId) (ad : Nat → Nat) (A : Nat → Prop) (hDD : ∀ u, va_D A (rW ad cA u)) (σ : CS) (a : Int32) (hI : Inv σ) (hb9 : sBc σ + sGr σ < 2147483647) : Ct l D cA (rW ad cA) A yX5_alarmed cX5_alarmed 2 (some .int) 4 84 [.ref (ad 0), .int a] σ (fun r u => r = a ∧ u = ra σ) := by
  refine Ct.of (by decide) (Nat.le_of_ble_eq_true rfl) ?_
  intro p e s m below meth c ls S0 hr hlocks hK hP hS hl
  obtain ⟨hx, hb, hml, hown, hts⟩ := id S0
  have hl : lv_has ls 2 [(0, .ref (ad 0)), (1, .int a)] := hl
  refine lv_aload_n hx hb dX5_alarmed_0 rfl (lv_at hl 0 rfl) ?_
  refine cl_v (rest := []) (c_X5_alarm l D cA ad A hDD σ  hI hb9) ⟨hx, hb, hml, hown, hts⟩ hK hP hS kv_X5_92 ⟨Nat.le_of_ble_eq_true rfl, Nat.le_of_ble_eq_true rfl⟩ ⟨Nat.zero_le _, Nat.zero_le _⟩ 0 rfl rfl rfl hl.1 rfl (Nat.le_of_ble_eq_true rfl) (fun q h => h) dX5_alarmed_1 (fun u H locs hw hP hS _ => ?_)
  rw [hw] at hP
  refine lv_iload_n hx hb dX5_alarmed_4 rfl (lv_at hl 1 rfl) ?_
  exact rt_i (v := a) (u := (ra σ)) hx hb hr hlocks hS hP (⟨rfl, rfl⟩) dX5_alarmed_5
set_option maxHeartbeats 4000000 in
set_option maxRecDepth 100000 in
theorem c_X5_turnKey (l : Launch) (D : va_G) (cA : ClassId) (ad : Nat → Nat) (A : Nat → Prop) (hDD : ∀ u, va_D A (rW ad cA u)) (σ : CS) (k : Nat) (hI : Inv σ) (hk : k < sKc σ) (hg : sGr σ < 60) (hb9 : sBc σ + sGr σ ≤ 2000000010) : Ct l D cA (rW ad cA) A yX5_turnKey cX5_turnKey 2 (some .int) 4 84 [.ref (ad 0), .int (nI k)] σ (fun r u => r = (tkm σ k).1 ∧ u = (tkm σ k).2) := by
  refine Ct.of (by decide) (Nat.le_of_ble_eq_true rfl) ?_
  intro p e s m below meth c ls S0 hr hlocks hK hP hS hl
  obtain ⟨hx, hb, hml, hown, hts⟩ := id S0
  have hl : lv_has ls 2 [(0, .ref (ad 0)), (1, .int (nI k))] := hl
  have hkc := hI.kc
  have hvc := hI.vc
  have hgc := hI.gr
  have htc := hI.tc
  refine lv_aload_n hx hb dX5_turnKey_0 rfl (lv_at hl 0 rfl) ?_
  refine va_get (D := D) (ci := 5) (v := .ref (ad 4)) (C := RX5) (T := TX5) (N := 20) hx hb hts in_X5 hown hK hP 0 rfl rfl 3 (by decide) (hts _ kf_X5_19) (fun _ h9 => h9) rfl dX5_turnKey_1 ?_
  refine lv_iload_n hx hb dX5_turnKey_4 rfl (lv_at hl 1 rfl) ?_
  refine ar_g hx hb hK hP 4 rfl (by omega) (by decide) dX5_turnKey_5 ?_
  refine lv_aload_n hx hb dX5_turnKey_6 rfl (lv_at hl 0 rfl) ?_
  refine va_get (D := D) (ci := 5) (v := .ref (ad 1)) (C := RX5) (T := TX5) (N := 20) hx hb hts in_X5 hown hK hP 0 rfl rfl 0 (by decide) (hts _ kf_X5_7) (fun _ h9 => h9) rfl dX5_turnKey_7 ?_
  refine lv_iload_n hx hb dX5_turnKey_10 rfl (lv_at hl 1 rfl) ?_
  refine ar_g hx hb hK hP 1 rfl (by omega) (by decide) dX5_turnKey_11 ?_
  refine lv_icmp_ne (tgt := 31) hx hb dX5_turnKey_12 (by decide) (fun c12 => ?_) (fun c12 => ?_)
  · refine lv_aload_n hx hb dX5_turnKey_31 rfl (lv_at hl 0 rfl) ?_
    refine va_get (D := D) (ci := 5) (v := .ref (ad 3)) (C := RX5) (T := TX5) (N := 20) hx hb hts in_X5 hown hK hP 0 rfl rfl 2 (by decide) (hts _ kf_X5_16) (fun _ h9 => h9) rfl dX5_turnKey_32 ?_
    refine lv_iload_n hx hb dX5_turnKey_35 rfl (lv_at hl 1 rfl) ?_
    refine lv_dup2_11 hx hb dX5_turnKey_36 rfl rfl ?_
    refine ar_g hx hb hK hP 3 rfl (by omega) (by decide) dX5_turnKey_37 ?_
    refine lv_aload_n hx hb dX5_turnKey_38 rfl (lv_at hl 0 rfl) ?_
    refine va_get (D := D) (ci := 5) (v := .ref (ad 2)) (C := RX5) (T := TX5) (N := 20) hx hb hts in_X5 hown hK hP 0 rfl rfl 1 (by decide) (hts _ kf_X5_13) (fun _ h9 => h9) rfl dX5_turnKey_39 ?_
    refine lv_iload_n hx hb dX5_turnKey_42 rfl (lv_at hl 1 rfl) ?_
    refine ar_g hx hb hK hP 2 rfl (by omega) (by decide) dX5_turnKey_43 ?_
    refine lv_iadd hx hb dX5_turnKey_44 ?_
    refine ar_p hx hb hK hP (hDD _) hS 3 rfl (x := ((sWea σ k) + (sStr σ k))) (by omega) (by decide) dX5_turnKey_45 (fun H locs hP hS => ?_)
    have hP : va_P D vwCl (rW ad cA (((sTee σ), (sStr σ), (upd (sWea σ) k ((sWea σ k) + (sStr σ k))), (sHel σ), (sKc σ)), σ.2.1, σ.2.2.1, σ.2.2.2.1, σ.2.2.2.2)) H := hP
    refine lv_aload_n hx hb dX5_turnKey_46 rfl (lv_at hl 0 rfl) ?_
    refine va_get (D := D) (ci := 5) (v := .ref (ad 4)) (C := RX5) (T := TX5) (N := 20) hx hb hts in_X5 hown hK hP 0 rfl rfl 3 (by decide) (hts _ kf_X5_19) (fun _ h9 => h9) rfl dX5_turnKey_47 ?_
    refine lv_iload_n hx hb dX5_turnKey_50 rfl (lv_at hl 1 rfl) ?_
    refine lv_dup2_11 hx hb dX5_turnKey_51 rfl rfl ?_
    refine ar_g hx hb hK hP 4 rfl (by omega) (by decide) dX5_turnKey_52 ?_
    refine lv_iconst (v := 1) hx hb dX5_turnKey_53 (by decide) ?_
    refine lv_iadd hx hb dX5_turnKey_54 ?_
    refine ar_p hx hb hK hP (hDD _) hS 4 rfl (x := ((sHel σ k) + 1)) (by omega) (by decide) dX5_turnKey_55 (fun H locs hP hS => ?_)
    have hP : va_P D vwCl (rW ad cA (((sTee σ), (sStr σ), (upd (sWea σ) k ((sWea σ k) + (sStr σ k))), (upd (sHel σ) k ((sHel σ k) + 1)), (sKc σ)), σ.2.1, σ.2.2.1, σ.2.2.2.1, σ.2.2.2.2)) H := hP
    refine lv_aload_n hx hb dX5_turnKey_56 rfl (lv_at hl 0 rfl) ?_
    refine va_get (D := D) (ci := 5) (v := .ref (ad 9)) (C := RX5) (T := TX5) (N := 20) hx hb hts in_X5 hown hK hP 0 rfl rfl 10 (by decide) (hts _ kf_X5_34) (fun _ h9 => h9) rfl dX5_turnKey_57 ?_
    refine lv_aload_n hx hb dX5_turnKey_60 rfl (lv_at hl 0 rfl) ?_
    refine va_get (D := D) (ci := 5) (v := .int (nI (sGr σ))) (C := RX5) (T := TX5) (N := 20) hx hb hts in_X5 hown hK hP 0 rfl rfl 11 (by decide) (hts _ kf_X5_76) (fun _ h9 => h9) rfl dX5_turnKey_61 ?_
    refine lv_iload_n hx hb dX5_turnKey_64 rfl (lv_at hl 1 rfl) ?_
    refine ar_p hx hb hK hP (hDD _) hS 9 rfl (x := (nI k)) (by omega) (by decide) dX5_turnKey_65 (fun H locs hP hS => ?_)
    have hP : va_P D vwCl (rW ad cA (((sTee σ), (sStr σ), (upd (sWea σ) k ((sWea σ k) + (sStr σ k))), (upd (sHel σ) k ((sHel σ k) + 1)), (sKc σ)), σ.2.1, σ.2.2.1, σ.2.2.2.1, ((upd (sGp σ) (sGr σ) (nI k)), (sGr σ), (sAl σ)))) H := hP
    refine lv_aload_n hx hb dX5_turnKey_66 rfl (lv_at hl 0 rfl) ?_
    refine lv_dup hx hb dX5_turnKey_67 rfl ?_
    refine va_get (D := D) (ci := 5) (v := .int (nI (sGr σ))) (C := RX5) (T := TX5) (N := 20) hx hb hts in_X5 hown hK hP 0 rfl rfl 11 (by decide) (hts _ kf_X5_76) (fun _ h9 => h9) rfl dX5_turnKey_68 ?_
    refine lv_iconst (v := 1) hx hb dX5_turnKey_71 (by decide) ?_
    refine lv_iadd hx hb dX5_turnKey_72 ?_
    refine tp_i (z := (nI ((sGr σ) + 1))) (nI_1 _) ?_
    refine va_put (D := D) (ci := 5) (v := .int (nI ((sGr σ) + 1))) (ty := .int) (C := RX5) (T := TX5) (N := 20) hx hb hts in_X5 tyX5 tyX5_ok nmX5 hown hK hP (hDD _) hS 0 rfl rfl 11 (by decide) (hts _ kf_X5_76) (fun _ h9 => h9) rfl (by decide +kernel) rfl rfl (Nat.le_of_ble_eq_true rfl) dX5_turnKey_73 (fun H locs hP _ hS => ?_)
    have hP : va_P D vwCl (rW ad cA (((sTee σ), (sStr σ), (upd (sWea σ) k ((sWea σ k) + (sStr σ k))), (upd (sHel σ) k ((sHel σ k) + 1)), (sKc σ)), σ.2.1, σ.2.2.1, σ.2.2.2.1, ((upd (sGp σ) (sGr σ) (nI k)), ((sGr σ) + 1), (sAl σ)))) H := hP
    refine lv_aload_n hx hb dX5_turnKey_76 rfl (lv_at hl 0 rfl) ?_
    refine lv_bipush (v := 100) hx hb dX5_turnKey_77 (by decide) ?_
    refine lv_iload_n hx hb dX5_turnKey_79 rfl (lv_at hl 1 rfl) ?_
    refine lv_iadd hx hb dX5_turnKey_80 ?_
    refine cl_v (rest := []) (c_X5_enter l D cA ad A hDD (((sTee σ), (sStr σ), (upd (sWea σ) k ((sWea σ k) + (sStr σ k))), (upd (sHel σ) k ((sHel σ k) + 1)), (sKc σ)), σ.2.1, σ.2.2.1, σ.2.2.2.1, ((upd (sGp σ) (sGr σ) (nI k)), ((sGr σ) + 1), (sAl σ))) (100 + (nI k)) (by show sBc σ < 2147483647; omega)) ⟨hx, hb, hml, hown, hts⟩ hK hP hS kv_X5_79 ⟨Nat.le_of_ble_eq_true rfl, Nat.le_of_ble_eq_true rfl⟩ ⟨Nat.zero_le _, Nat.zero_le _⟩ 0 rfl rfl rfl hl.1 rfl (Nat.le_of_ble_eq_true rfl) (fun q h => h) dX5_turnKey_81 (fun u H locs hw hP hS _ => ?_)
    rw [hw] at hP
    refine lv_iconst (v := 0) hx hb dX5_turnKey_84 (by decide) ?_
    exact rt_i (v := 0) (u := (wr (100 + (nI k)) (((sTee σ), (sStr σ), (upd (sWea σ) k ((sWea σ k) + (sStr σ k))), (upd (sHel σ) k ((sHel σ k) + 1)), (sKc σ)), σ.2.1, σ.2.2.1, σ.2.2.2.1, ((upd (sGp σ) (sGr σ) (nI k)), ((sGr σ) + 1), (sAl σ))))) hx hb hr hlocks hS hP (pr2 (by first | (unfold tkm; rw [if_neg c12]; done) | (unfold tkm; rw [if_neg c12]; rfl))) dX5_turnKey_85
  · refine lv_aload_n hx hb dX5_turnKey_15 rfl (lv_at hl 0 rfl) ?_
    refine lv_sipush (v := 700) hx hb dX5_turnKey_16 (by decide) ?_
    refine lv_iload_n hx hb dX5_turnKey_19 rfl (lv_at hl 1 rfl) ?_
    refine lv_iadd hx hb dX5_turnKey_20 ?_
    refine cl_v (rest := []) (c_X5_enter l D cA ad A hDD σ (700 + (nI k)) (by omega)) ⟨hx, hb, hml, hown, hts⟩ hK hP hS kv_X5_79 ⟨Nat.le_of_ble_eq_true rfl, Nat.le_of_ble_eq_true rfl⟩ ⟨Nat.zero_le _, Nat.zero_le _⟩ 0 rfl rfl rfl hl.1 rfl (Nat.le_of_ble_eq_true rfl) (fun q h => h) dX5_turnKey_21 (fun u H locs hw hP hS _ => ?_)
    rw [hw] at hP
    refine lv_aload_n hx hb dX5_turnKey_24 rfl (lv_at hl 0 rfl) ?_
    refine cl_v (rest := []) (c_X5_alarm l D cA ad A hDD (wr (700 + (nI k)) σ)  hI (by show sBc σ + 1 + sGr σ < 2147483647; omega)) ⟨hx, hb, hml, hown, hts⟩ hK hP hS kv_X5_92 ⟨Nat.le_of_ble_eq_true rfl, Nat.le_of_ble_eq_true rfl⟩ ⟨Nat.zero_le _, Nat.zero_le _⟩ 0 rfl rfl rfl hl.1 rfl (Nat.le_of_ble_eq_true rfl) (fun q h => h) dX5_turnKey_25 (fun u H locs hw hP hS _ => ?_)
    rw [hw] at hP
    refine lv_bipush (v := (-7)) hx hb dX5_turnKey_28 (by decide) ?_
    exact rt_i (v := (-7)) (u := (ra (wr (700 + (nI k)) σ))) hx hb hr hlocks hS hP (pr2 (by first | (unfold tkm; rw [if_pos c12]; done) | (unfold tkm; rw [if_pos c12]; rfl))) dX5_turnKey_30
set_option maxHeartbeats 4000000 in
set_option maxRecDepth 100000 in
theorem c_X5_turnHand0 (l : Launch) (D : va_G) (cA : ClassId) (ad : Nat → Nat) (A : Nat → Prop) (hDD : ∀ u, va_D A (rW ad cA u)) (σ : CS) (j : Nat) (x : Int32) (hxe : sLf σ j = x) (hX : HX (sKc σ) x) (hI : Inv σ) (hj : j < sVc σ) (hg : sGr σ < 60) (hb9 : sBc σ + sGr σ ≤ 2000000010) : Ct l D cA (rW ad cA) A yX5_turnHand cX5_turnHand 4 (some .int) 5 105 [.ref (ad 0), .int (nI j), .int 0] σ (fun r u => r = thr (th σ x 0).1 ∧ u = thu (th σ x 0)) := by
  refine Ct.of (by decide) (Nat.le_of_ble_eq_true rfl) ?_
  intro p e s m below meth c ls S0 hr hlocks hK hP hS hl
  obtain ⟨hx, hb, hml, hown, hts⟩ := id S0
  have hl : lv_has ls 4 [(0, .ref (ad 0)), (1, .int (nI j)), (2, .int 0)] := hl
  have hkc := hI.kc
  have hvc := hI.vc
  have hgc := hI.gr
  have htc := hI.tc
  refine lv_aload_n hx hb dX5_turnHand_0 rfl (lv_at hl 0 rfl) ?_
  refine va_get (D := D) (ci := 5) (v := .ref (ad 8)) (C := RX5) (T := TX5) (N := 20) hx hb hts in_X5 hown hK hP 0 rfl rfl 8 (by decide) (hts _ kf_X5_31) (fun _ h9 => h9) rfl dX5_turnHand_1 ?_
  refine lv_iconst (v := 2) hx hb dX5_turnHand_4 (by decide) ?_
  refine lv_iload_n hx hb dX5_turnHand_5 rfl (lv_at hl 1 rfl) ?_
  refine lv_imul hx hb dX5_turnHand_6 ?_
  refine tp_i (z := (nI (2 * j))) (pk_mul 2 _) ?_
  refine lv_iload_n hx hb dX5_turnHand_7 rfl (lv_at hl 2 rfl) ?_
  refine lv_iadd hx hb dX5_turnHand_8 ?_
  refine tp_i (z := (nI (2 * j))) (Int32.add_zero _) ?_
  refine ar_g hx hb hK hP 8 rfl (by omega) (by decide) dX5_turnHand_9 ?_
  refine tp_i (z := (sLf σ j)) (mix_0 _ _ _) ?_
  refine tp_i (z := x) (hxe) ?_
  refine lv_istore_n (lv' := [(3, .int x), (0, .ref (ad 0)), (1, .int (nI j)), (2, .int 0)]) hx hb dX5_turnHand_10 rfl hl (by decide) rfl (fun ls hl => ?_)
  rcases hX with rfl | ⟨k, hk, rfl⟩
  · skip
    refine lv_iload_n hx hb dX5_turnHand_11 rfl (lv_at hl 0 rfl) ?_
    refine lv_iconst (v := (-1)) hx hb dX5_turnHand_12 (by decide) ?_
    refine lv_icmp_ne (tgt := 27) hx hb dX5_turnHand_13 (by decide) (fun c9 => absurd (rfl) c9) (fun _ => ?_)
    refine lv_aload_n hx hb dX5_turnHand_16 rfl (lv_at hl 1 rfl) ?_
    refine lv_bipush (v := 10) hx hb dX5_turnHand_17 (by decide) ?_
    refine lv_iload_n hx hb dX5_turnHand_19 rfl (lv_at hl 3 rfl) ?_
    refine lv_iadd hx hb dX5_turnHand_20 ?_
    refine cl_v (rest := []) (c_X5_enter l D cA ad A hDD σ (10 + 0) (by omega)) ⟨hx, hb, hml, hown, hts⟩ hK hP hS kv_X5_79 ⟨Nat.le_of_ble_eq_true rfl, Nat.le_of_ble_eq_true rfl⟩ ⟨Nat.zero_le _, Nat.zero_le _⟩ 0 rfl rfl rfl hl.1 rfl (Nat.le_of_ble_eq_true rfl) (fun q h => h) dX5_turnHand_21 (fun u H locs hw hP hS _ => ?_)
    rw [hw] at hP
    refine lv_bipush (v := (-4)) hx hb dX5_turnHand_24 (by decide) ?_
    exact rt_i (v := (-4)) (u := (wr (10 + 0) σ)) hx hb hr hlocks hS hP ((by rw [th_b]; exact ⟨rfl, rfl⟩)) dX5_turnHand_26
  · skip
    refine lv_iload_n hx hb dX5_turnHand_11 rfl (lv_at hl 0 rfl) ?_
    refine lv_iconst (v := (-1)) hx hb dX5_turnHand_12 (by decide) ?_
    refine lv_icmp_ne (tgt := 27) hx hb dX5_turnHand_13 (by decide) (fun _ => ?_) (fun c9 => absurd c9 (nI_nm1 (by omega)))
    refine lv_aload_n hx hb dX5_turnHand_27 rfl (lv_at hl 1 rfl) ?_
    refine lv_iload_n hx hb dX5_turnHand_28 rfl (lv_at hl 0 rfl) ?_
    refine cl_i (rest := []) (c_X5_turnKey l D cA ad A hDD σ k hI hk hg hb9) ⟨hx, hb, hml, hown, hts⟩ hK hP hS kv_X5_95 ⟨Nat.le_of_ble_eq_true rfl, Nat.le_of_ble_eq_true rfl⟩ ⟨Nat.zero_le _, Nat.zero_le _⟩ 0 rfl rfl rfl hl.1 rfl (Nat.le_of_ble_eq_true rfl) (fun q h => h) dX5_turnHand_29 (fun r u H locs hw hP hS _ => ?_)
    rw [hw.2] at hP
    refine tp_i (z := (tkm σ k).1) hw.1 ?_
    exact rt_i (v := (tkm σ k).1) (u := (tkm σ k).2) hx hb hr hlocks hS hP (tkm_th 0 (by omega)) dX5_turnHand_32
set_option maxHeartbeats 4000000 in
set_option maxRecDepth 100000 in
theorem c_X5_turnHand1 (l : Launch) (D : va_G) (cA : ClassId) (ad : Nat → Nat) (A : Nat → Prop) (hDD : ∀ u, va_D A (rW ad cA u)) (σ : CS) (j : Nat) (x : Int32) (hxe : sRt σ j = x) (hX : HX (sKc σ) x) (hI : Inv σ) (hj : j < sVc σ) (hg : sGr σ < 60) (hb9 : sBc σ + sGr σ ≤ 2000000010) : Ct l D cA (rW ad cA) A yX5_turnHand cX5_turnHand 4 (some .int) 5 105 [.ref (ad 0), .int (nI j), .int 1] σ (fun r u => r = thr (th σ x 1).1 ∧ u = thu (th σ x 1)) := by
  refine Ct.of (by decide) (Nat.le_of_ble_eq_true rfl) ?_
  intro p e s m below meth c ls S0 hr hlocks hK hP hS hl
  obtain ⟨hx, hb, hml, hown, hts⟩ := id S0
  have hl : lv_has ls 4 [(0, .ref (ad 0)), (1, .int (nI j)), (2, .int 1)] := hl
  have hkc := hI.kc
  have hvc := hI.vc
  have hgc := hI.gr
  have htc := hI.tc
  refine lv_aload_n hx hb dX5_turnHand_0 rfl (lv_at hl 0 rfl) ?_
  refine va_get (D := D) (ci := 5) (v := .ref (ad 8)) (C := RX5) (T := TX5) (N := 20) hx hb hts in_X5 hown hK hP 0 rfl rfl 8 (by decide) (hts _ kf_X5_31) (fun _ h9 => h9) rfl dX5_turnHand_1 ?_
  refine lv_iconst (v := 2) hx hb dX5_turnHand_4 (by decide) ?_
  refine lv_iload_n hx hb dX5_turnHand_5 rfl (lv_at hl 1 rfl) ?_
  refine lv_imul hx hb dX5_turnHand_6 ?_
  refine tp_i (z := (nI (2 * j))) (pk_mul 2 _) ?_
  refine lv_iload_n hx hb dX5_turnHand_7 rfl (lv_at hl 2 rfl) ?_
  refine lv_iadd hx hb dX5_turnHand_8 ?_
  refine tp_i (z := (nI ((2 * j) + 1))) (nI_1 _) ?_
  refine ar_g hx hb hK hP 8 rfl (by omega) (by decide) dX5_turnHand_9 ?_
  refine tp_i (z := (sRt σ j)) (mix_1 _ _ _) ?_
  refine tp_i (z := x) (hxe) ?_
  refine lv_istore_n (lv' := [(3, .int x), (0, .ref (ad 0)), (1, .int (nI j)), (2, .int 1)]) hx hb dX5_turnHand_10 rfl hl (by decide) rfl (fun ls hl => ?_)
  rcases hX with rfl | ⟨k, hk, rfl⟩
  · skip
    refine lv_iload_n hx hb dX5_turnHand_11 rfl (lv_at hl 0 rfl) ?_
    refine lv_iconst (v := (-1)) hx hb dX5_turnHand_12 (by decide) ?_
    refine lv_icmp_ne (tgt := 27) hx hb dX5_turnHand_13 (by decide) (fun c9 => absurd (rfl) c9) (fun _ => ?_)
    refine lv_aload_n hx hb dX5_turnHand_16 rfl (lv_at hl 1 rfl) ?_
    refine lv_bipush (v := 10) hx hb dX5_turnHand_17 (by decide) ?_
    refine lv_iload_n hx hb dX5_turnHand_19 rfl (lv_at hl 3 rfl) ?_
    refine lv_iadd hx hb dX5_turnHand_20 ?_
    refine cl_v (rest := []) (c_X5_enter l D cA ad A hDD σ (10 + 1) (by omega)) ⟨hx, hb, hml, hown, hts⟩ hK hP hS kv_X5_79 ⟨Nat.le_of_ble_eq_true rfl, Nat.le_of_ble_eq_true rfl⟩ ⟨Nat.zero_le _, Nat.zero_le _⟩ 0 rfl rfl rfl hl.1 rfl (Nat.le_of_ble_eq_true rfl) (fun q h => h) dX5_turnHand_21 (fun u H locs hw hP hS _ => ?_)
    rw [hw] at hP
    refine lv_bipush (v := (-4)) hx hb dX5_turnHand_24 (by decide) ?_
    exact rt_i (v := (-4)) (u := (wr (10 + 1) σ)) hx hb hr hlocks hS hP ((by rw [th_b]; exact ⟨rfl, rfl⟩)) dX5_turnHand_26
  · skip
    refine lv_iload_n hx hb dX5_turnHand_11 rfl (lv_at hl 0 rfl) ?_
    refine lv_iconst (v := (-1)) hx hb dX5_turnHand_12 (by decide) ?_
    refine lv_icmp_ne (tgt := 27) hx hb dX5_turnHand_13 (by decide) (fun _ => ?_) (fun c9 => absurd c9 (nI_nm1 (by omega)))
    refine lv_aload_n hx hb dX5_turnHand_27 rfl (lv_at hl 1 rfl) ?_
    refine lv_iload_n hx hb dX5_turnHand_28 rfl (lv_at hl 0 rfl) ?_
    refine cl_i (rest := []) (c_X5_turnKey l D cA ad A hDD σ k hI hk hg hb9) ⟨hx, hb, hml, hown, hts⟩ hK hP hS kv_X5_95 ⟨Nat.le_of_ble_eq_true rfl, Nat.le_of_ble_eq_true rfl⟩ ⟨Nat.zero_le _, Nat.zero_le _⟩ 0 rfl rfl rfl hl.1 rfl (Nat.le_of_ble_eq_true rfl) (fun q h => h) dX5_turnHand_29 (fun r u H locs hw hP hS _ => ?_)
    rw [hw.2] at hP
    refine tp_i (z := (tkm σ k).1) hw.1 ?_
    exact rt_i (v := (tkm σ k).1) (u := (tkm σ k).2) hx hb hr hlocks hS hP (tkm_th 1 (by omega)) dX5_turnHand_32
set_option maxHeartbeats 4000000 in
set_option maxRecDepth 100000 in
theorem c_X5_turnBoth (l : Launch) (D : va_G) (cA : ClassId) (ad : Nat → Nat) (A : Nat → Prop) (hDD : ∀ u, va_D A (rW ad cA u)) (σ : CS) (j : Nat) (hI : Inv σ) (hj : j < sVc σ) (hg : sGr σ + 2 ≤ 60) (hb9 : sBc σ + sGr σ ≤ 2000000000) : Ct l D cA (rW ad cA) A yX5_turnBoth cX5_turnBoth 3 (some .int) 6 128 [.ref (ad 0), .int (nI j)] σ (fun r u => r = (tb σ j).1 ∧ u = (tb σ j).2) := by
  refine Ct.of (by decide) (Nat.le_of_ble_eq_true rfl) ?_
  intro p e s m below meth c ls S0 hr hlocks hK hP hS hl
  obtain ⟨hx, hb, hml, hown, hts⟩ := id S0
  have hl : lv_has ls 3 [(0, .ref (ad 0)), (1, .int (nI j))] := hl
  have hkc := hI.kc
  have hvc := hI.vc
  have hgc := hI.gr
  have htc := hI.tc
  have s1 := th_st (h := 0) hI (hI.lf hj) (by omega)
  have g1 := th_gr (σ := σ) (x := sLf σ j) (h := 0)
  have hX2 : HX (sKc (th σ (sLf σ j) 0).2) (sRt σ j) := by rw [s1.2.2.2.1]; exact hI.rt hj
  have s2 := th_st (h := 1) s1.1 (x := sRt σ j) hX2 (by omega)
  have b1 := s1.2.2.2.2
  have b2 := s2.2.2.2.2
  have hj2 : j < sVc (th σ (sLf σ j) 0).2 := by rw [s1.2.1]; exact hj
  refine lv_aload_n hx hb dX5_turnBoth_0 rfl (lv_at hl 0 rfl) ?_
  refine lv_iload_n hx hb dX5_turnBoth_1 rfl (lv_at hl 1 rfl) ?_
  refine lv_iconst (v := 0) hx hb dX5_turnBoth_2 (by decide) ?_
  refine cl_i (rest := []) (c_X5_turnHand0 l D cA ad A hDD σ j (sLf σ j) rfl (hI.lf hj) hI hj (by omega) (by omega)) ⟨hx, hb, hml, hown, hts⟩ hK hP hS kv_X5_99 ⟨Nat.le_of_ble_eq_true rfl, Nat.le_of_ble_eq_true rfl⟩ ⟨Nat.zero_le _, Nat.zero_le _⟩ 0 rfl rfl rfl hl.1 rfl (Nat.le_of_ble_eq_true rfl) (fun q h => h) dX5_turnBoth_3 (fun r u H locs hw hP hS _ => ?_)
  rw [hw.2] at hP
  refine tp_i (z := (thr (th σ (sLf σ j) 0).1)) hw.1 ?_
  rcases th_012 σ (sLf σ j) 0 with q | q | q
  · rw [show thu (th σ (sLf σ j) 0) = (th σ (sLf σ j) 0).2 from by unfold thu; rw [if_neg (by rw [q]; decide)]] at hP
    refine tp_i (z := 0) (by rw [q]; rfl) ?_
    refine lv_istore_n (lv' := [(2, .int 0), (0, .ref (ad 0)), (1, .int (nI j))]) hx hb dX5_turnBoth_6 rfl hl (by decide) rfl (fun ls hl => ?_)
    refine lv_iload_n hx hb dX5_turnBoth_7 rfl (lv_at hl 0 rfl) ?_
    refine lv_if_ne (tgt := 18) hx hb dX5_turnBoth_8 (by decide) (fun c9 => absurd (by decide) c9) (fun _ => ?_)
    refine lv_aload_n hx hb dX5_turnBoth_11 rfl (lv_at hl 1 rfl) ?_
    refine lv_iload_n hx hb dX5_turnBoth_12 rfl (lv_at hl 2 rfl) ?_
    refine lv_iconst (v := 1) hx hb dX5_turnBoth_13 (by decide) ?_
    refine cl_i (rest := []) (c_X5_turnHand1 l D cA ad A hDD (th σ (sLf σ j) 0).2 j (sRt σ j) (by rw [← hd_1]; exact th_rt) hX2 s1.1 hj2 (by omega) (by omega)) ⟨hx, hb, hml, hown, hts⟩ hK hP hS kv_X5_99 ⟨Nat.le_of_ble_eq_true rfl, Nat.le_of_ble_eq_true rfl⟩ ⟨Nat.zero_le _, Nat.zero_le _⟩ 0 rfl rfl rfl hl.1 rfl (Nat.le_of_ble_eq_true rfl) (fun q h => h) dX5_turnBoth_14 (fun r u H locs hw hP hS _ => ?_)
    rw [hw.2] at hP
    refine tp_i (z := (thr (th (th σ (sLf σ j) 0).2 (sRt σ j) 1).1)) hw.1 ?_
    rcases th_012 (th σ (sLf σ j) 0).2 (sRt σ j) 1 with y | y | y
    · rw [show thu (th (th σ (sLf σ j) 0).2 (sRt σ j) 1) = (th (th σ (sLf σ j) 0).2 (sRt σ j) 1).2 from by unfold thu; rw [if_neg (by rw [y]; decide)]] at hP
      refine tp_i (z := 0) (by rw [y]; rfl) ?_
      refine lv_istore_n (lv' := [(2, .int 0), (0, .ref (ad 0)), (1, .int (nI j))]) hx hb dX5_turnBoth_17 rfl hl (by decide) rfl (fun ls hl => ?_)
      refine lv_iload_n hx hb dX5_turnBoth_18 rfl (lv_at hl 0 rfl) ?_
      refine lv_bipush (v := (-4)) hx hb dX5_turnBoth_19 (by decide) ?_
      refine lv_icmp_ne (tgt := 31) hx hb dX5_turnBoth_21 (by decide) (fun _ => ?_) (fun c9 => absurd c9 (by decide))
      refine lv_iload_n hx hb dX5_turnBoth_31 rfl (lv_at hl 0 rfl) ?_
      exact rt_i (v := 0) (u := (th (th σ (sLf σ j) 0).2 (sRt σ j) 1).2) hx hb hr hlocks hS hP (pr2 (by first | (unfold tb; rw [if_neg (by rw [q]; decide), if_neg (by rw [q]; decide), if_neg (by rw [y]; decide), if_neg (by rw [y]; decide)]; done) | (unfold tb; rw [if_neg (by rw [q]; decide), if_neg (by rw [q]; decide), if_neg (by rw [y]; decide), if_neg (by rw [y]; decide)]; rfl))) dX5_turnBoth_32
    · rw [show thu (th (th σ (sLf σ j) 0).2 (sRt σ j) 1) = (th (th σ (sLf σ j) 0).2 (sRt σ j) 1).2 from by unfold thu; rw [if_neg (by rw [y]; decide)]] at hP
      refine tp_i (z := (-4)) (by rw [y]; rfl) ?_
      refine lv_istore_n (lv' := [(2, .int (-4)), (0, .ref (ad 0)), (1, .int (nI j))]) hx hb dX5_turnBoth_17 rfl hl (by decide) rfl (fun ls hl => ?_)
      refine lv_iload_n hx hb dX5_turnBoth_18 rfl (lv_at hl 0 rfl) ?_
      refine lv_bipush (v := (-4)) hx hb dX5_turnBoth_19 (by decide) ?_
      refine lv_icmp_ne (tgt := 31) hx hb dX5_turnBoth_21 (by decide) (fun c9 => absurd (by decide) c9) (fun _ => ?_)
      refine lv_aload_n hx hb dX5_turnBoth_24 rfl (lv_at hl 1 rfl) ?_
      refine lv_sipush (v := 300) hx hb dX5_turnBoth_25 (by decide) ?_
      refine cl_v (rest := []) (c_X5_dropAll l D cA ad A hDD (th (th σ (sLf σ j) 0).2 (sRt σ j) 1).2 300 s2.1 (by omega)) ⟨hx, hb, hml, hown, hts⟩ hK hP hS kv_X5_86 ⟨Nat.le_of_ble_eq_true rfl, Nat.le_of_ble_eq_true rfl⟩ ⟨Nat.zero_le _, Nat.zero_le _⟩ 0 rfl rfl rfl hl.1 rfl (Nat.le_of_ble_eq_true rfl) (fun q h => h) dX5_turnBoth_28 (fun u H locs hw hP hS _ => ?_)
      rw [hw] at hP
      refine lv_iload_n hx hb dX5_turnBoth_31 rfl (lv_at hl 0 rfl) ?_
      exact rt_i (v := (-4)) (u := (da 300 (th (th σ (sLf σ j) 0).2 (sRt σ j) 1).2)) hx hb hr hlocks hS hP (pr2 (by first | (unfold tb; rw [if_neg (by rw [q]; decide), if_neg (by rw [q]; decide), if_pos y]; done) | (unfold tb; rw [if_neg (by rw [q]; decide), if_neg (by rw [q]; decide), if_pos y]; rfl))) dX5_turnBoth_32
    · rw [show thu (th (th σ (sLf σ j) 0).2 (sRt σ j) 1) = ra (th (th σ (sLf σ j) 0).2 (sRt σ j) 1).2 from by unfold thu; rw [if_pos y]] at hP
      refine tp_i (z := (-7)) (by rw [y]; rfl) ?_
      refine lv_istore_n (lv' := [(2, .int (-7)), (0, .ref (ad 0)), (1, .int (nI j))]) hx hb dX5_turnBoth_17 rfl hl (by decide) rfl (fun ls hl => ?_)
      refine lv_iload_n hx hb dX5_turnBoth_18 rfl (lv_at hl 0 rfl) ?_
      refine lv_bipush (v := (-4)) hx hb dX5_turnBoth_19 (by decide) ?_
      refine lv_icmp_ne (tgt := 31) hx hb dX5_turnBoth_21 (by decide) (fun _ => ?_) (fun c9 => absurd c9 (by decide))
      refine lv_iload_n hx hb dX5_turnBoth_31 rfl (lv_at hl 0 rfl) ?_
      exact rt_i (v := (-7)) (u := (ra (th (th σ (sLf σ j) 0).2 (sRt σ j) 1).2)) hx hb hr hlocks hS hP (pr2 (by first | (unfold tb; rw [if_neg (by rw [q]; decide), if_neg (by rw [q]; decide), if_neg (by rw [y]; decide), if_pos y]; done) | (unfold tb; rw [if_neg (by rw [q]; decide), if_neg (by rw [q]; decide), if_neg (by rw [y]; decide), if_pos y]; rfl))) dX5_turnBoth_32
  · rw [show thu (th σ (sLf σ j) 0) = (th σ (sLf σ j) 0).2 from by unfold thu; rw [if_neg (by rw [q]; decide)]] at hP
    refine tp_i (z := (-4)) (by rw [q]; rfl) ?_
    refine lv_istore_n (lv' := [(2, .int (-4)), (0, .ref (ad 0)), (1, .int (nI j))]) hx hb dX5_turnBoth_6 rfl hl (by decide) rfl (fun ls hl => ?_)
    refine lv_iload_n hx hb dX5_turnBoth_7 rfl (lv_at hl 0 rfl) ?_
    refine lv_if_ne (tgt := 18) hx hb dX5_turnBoth_8 (by decide) (fun _ => ?_) (fun c9 => absurd c9 (by decide))
    refine lv_iload_n hx hb dX5_turnBoth_18 rfl (lv_at hl 0 rfl) ?_
    refine lv_bipush (v := (-4)) hx hb dX5_turnBoth_19 (by decide) ?_
    refine lv_icmp_ne (tgt := 31) hx hb dX5_turnBoth_21 (by decide) (fun c9 => absurd (by decide) c9) (fun _ => ?_)
    refine lv_aload_n hx hb dX5_turnBoth_24 rfl (lv_at hl 1 rfl) ?_
    refine lv_sipush (v := 300) hx hb dX5_turnBoth_25 (by decide) ?_
    refine cl_v (rest := []) (c_X5_dropAll l D cA ad A hDD (th σ (sLf σ j) 0).2 300 s1.1 (by omega)) ⟨hx, hb, hml, hown, hts⟩ hK hP hS kv_X5_86 ⟨Nat.le_of_ble_eq_true rfl, Nat.le_of_ble_eq_true rfl⟩ ⟨Nat.zero_le _, Nat.zero_le _⟩ 0 rfl rfl rfl hl.1 rfl (Nat.le_of_ble_eq_true rfl) (fun q h => h) dX5_turnBoth_28 (fun u H locs hw hP hS _ => ?_)
    rw [hw] at hP
    refine lv_iload_n hx hb dX5_turnBoth_31 rfl (lv_at hl 0 rfl) ?_
    exact rt_i (v := (-4)) (u := (da 300 (th σ (sLf σ j) 0).2)) hx hb hr hlocks hS hP (pr2 (by first | (unfold tb; rw [if_pos q]; done) | (unfold tb; rw [if_pos q]; rfl))) dX5_turnBoth_32
  · rw [show thu (th σ (sLf σ j) 0) = ra (th σ (sLf σ j) 0).2 from by unfold thu; rw [if_pos q]] at hP
    refine tp_i (z := (-7)) (by rw [q]; rfl) ?_
    refine lv_istore_n (lv' := [(2, .int (-7)), (0, .ref (ad 0)), (1, .int (nI j))]) hx hb dX5_turnBoth_6 rfl hl (by decide) rfl (fun ls hl => ?_)
    refine lv_iload_n hx hb dX5_turnBoth_7 rfl (lv_at hl 0 rfl) ?_
    refine lv_if_ne (tgt := 18) hx hb dX5_turnBoth_8 (by decide) (fun _ => ?_) (fun c9 => absurd c9 (by decide))
    refine lv_iload_n hx hb dX5_turnBoth_18 rfl (lv_at hl 0 rfl) ?_
    refine lv_bipush (v := (-4)) hx hb dX5_turnBoth_19 (by decide) ?_
    refine lv_icmp_ne (tgt := 31) hx hb dX5_turnBoth_21 (by decide) (fun _ => ?_) (fun c9 => absurd c9 (by decide))
    refine lv_iload_n hx hb dX5_turnBoth_31 rfl (lv_at hl 0 rfl) ?_
    exact rt_i (v := (-7)) (u := (ra (th σ (sLf σ j) 0).2)) hx hb hr hlocks hS hP (pr2 (by first | (unfold tb; rw [if_neg (by rw [q]; decide), if_pos q]; done) | (unfold tb; rw [if_neg (by rw [q]; decide), if_pos q]; rfl))) dX5_turnBoth_32
