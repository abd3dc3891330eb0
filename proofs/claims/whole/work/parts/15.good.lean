-- what every call leaves
def Gd (σ u : CS) : Prop := Inv u ∧ sGr u = 0 ∧ sBc u ≤ sBc σ + 300
theorem Gd.rf {σ : CS} (h : Inv σ) (hg : sGr σ = 0) : Gd σ σ := ⟨h, hg, Nat.le_add_right _ _⟩
theorem Gd.of {σ u : CS} {d : Nat} (h : Stq σ u d) (hg0 : sGr σ = 0) (hg : sGr u = 0) (hd : d ≤ 300) : Gd σ u := ⟨h.1, hg, by have := h.2.2.2.2; omega⟩
theorem HX.mono {a b : Nat} {x : Int32} (h : HX a x) (hab : a ≤ b) : HX b x := by
  rcases h with h | ⟨k, hk, e⟩
  · exact Or.inl h
  · exact Or.inr ⟨k, by omega, e⟩
theorem ix_hx {n : Nat} {x : Int32} (hn : n < 2 ^ 31) (h : x = -1 ∨ (ix n x).isSome = true) : HX n x := by
  rcases h with h | h
  · exact Or.inl h
  · rcases ix_cases x hn with q | ⟨j, hj, e⟩
    · rw [q] at h; cases h
    · exact Or.inr ⟨j, hj, e⟩
theorem gd_key {σ : CS} {t m : Int32} (hI : Inv σ) (hg : sGr σ = 0) : Gd σ (f_key σ t m).2 := by
  unfold f_key
  split
  · next ht =>
    split
    · exact Gd.rf hI hg
    · next hk =>
      have hkc := hI.kc
      obtain ⟨tt, ht1, ht2, rfl⟩ := rng (lo := 1) (hi := 9) (by decide) (by decide) ht
      refine ⟨⟨⟨by show sKc σ + 1 ≤ 40; omega, by show sGr σ ≤ 60; omega, fun k hk2 => ?_, fun k hk2 => ?_, fun k hk2 => ?_, fun i hi => ?_⟩, ⟨hI.2.1.1, fun v hv => ⟨(hI.lf hv).mono (Nat.le_succ _), (hI.rt hv).mono (Nat.le_succ _), hI.nx hv⟩, hI.2.1.2.2⟩, hI.2.2⟩, hg, Nat.le_add_right _ _⟩
      · have hk2 : k < sKc σ + 1 := hk2
        show ∃ q, 1 ≤ q ∧ q ≤ 9 ∧ upd (sTee σ) (sKc σ) (nI tt) k = nI q ∧ cnt (sGp σ) k (sGr σ) ≤ q
        by_cases e : k = sKc σ
        · exact ⟨tt, ht1, ht2, by rw [e, upd_eq], by rw [hg]; exact Nat.zero_le _⟩
        · rw [upd_ne e]; exact hI.1.2.2.1 k (by show k < sKc σ; omega)
      · have hk2 : sKc σ + 1 ≤ k := hk2
        show upd (sWea σ) (sKc σ) 0 k = 0
        rw [upd_ne (by omega)]; exact hI.1.2.2.2.1 k (by show sKc σ ≤ k; omega)
      · show upd (sHel σ) (sKc σ) 0 k = nI (cnt (sGp σ) k (sGr σ))
        by_cases e : k = sKc σ
        · rw [e, upd_eq, hg]; rfl
        · rw [upd_ne e]; exact hI.1.2.2.2.2.1 k hk2
      · have hi : i < sGr σ := hi
        omega
  · exact Gd.rf hI hg
theorem gd_vault {σ : CS} {x : Int32} (hI : Inv σ) (hg : sGr σ = 0) : Gd σ (f_vault σ x).2 := by
  unfold f_vault
  split
  · next hx =>
    split
    · exact Gd.rf hI hg
    · next hv =>
      have hvc := hI.vc
      obtain ⟨b, hb, rfl⟩ := amt_n hx
      refine ⟨⟨hI.1, ⟨by show sVc σ + 1 ≤ 12; omega, fun v hv2 => ?_, fun v => ?_, fun v hv2 => ?_, fun v hv2 => ?_⟩, hI.2.2⟩, hg, Nat.le_add_right _ _⟩
      · have hv2 : v < sVc σ + 1 := hv2
        show HX (sKc σ) (upd (sLf σ) (sVc σ) (-1) v) ∧ HX (sKc σ) (upd (sRt σ) (sVc σ) (-1) v) ∧ HX (sVc σ + 1) (upd (sNx σ) (sVc σ) (-1) v)
        by_cases e : v = sVc σ
        · rw [e, upd_eq, upd_eq, upd_eq]; exact ⟨Or.inl rfl, Or.inl rfl, Or.inl rfl⟩
        · rw [upd_ne e, upd_ne e, upd_ne e]
          exact ⟨hI.lf (by omega), hI.rt (by omega), (hI.nx (v := v) (by omega)).mono (Nat.le_succ _)⟩
      · show ∃ a, a ≤ 1000000 ∧ upd (sSm σ) (sVc σ) 0 v = nI a
        rw [upd_same (hI.sm0 (Nat.le_refl _))]; exact hI.sm v
      · have hv2 : sVc σ + 1 ≤ v := hv2
        show upd (sSm σ) (sVc σ) 0 v = 0
        rw [upd_same (hI.sm0 (Nat.le_refl _))]; exact hI.sm0 (by omega)
      · have hv2 : v < sVc σ + 1 := hv2
        show ∃ a, a ≤ 1000000 ∧ upd (sLim σ) (sVc σ) (nI b) v = nI a
        by_cases e : v = sVc σ
        · exact ⟨b, hb, by rw [e, upd_eq]⟩
        · rw [upd_ne e]; exact hI.lim (by omega)
  · exact Gd.rf hI hg
theorem gd_hang {σ : CS} {v h k : Int32} (hI : Inv σ) (hg : sGr σ = 0) : Gd σ (f_hang σ v h k).2 := by
  have hkc := hI.kc
  unfold f_hang
  split
  · exact Gd.rf hI hg
  · split
    · next hc =>
      have hx := ix_hx (by omega) hc.2
      split
      · exact ⟨hands_inv hI (upd_hx (fun v hv => hI.lf hv) hx) (fun v hv => hI.rt hv), hg, Nat.le_add_right _ _⟩
      · exact ⟨hands_inv hI (fun v hv => hI.lf hv) (upd_hx (fun v hv => hI.rt hv) hx), hg, Nat.le_add_right _ _⟩
    · exact Gd.rf hI hg
theorem gd_link {σ : CS} {v w : Int32} (hI : Inv σ) (hg : sGr σ = 0) : Gd σ (f_link σ v w).2 := by
  have hvc := hI.vc
  unfold f_link
  split
  · exact Gd.rf hI hg
  · split
    · next hc =>
      have hx := ix_hx (by omega) hc
      exact ⟨⟨hI.1, ⟨hI.2.1.1, fun v hv => ⟨hI.lf hv, hI.rt hv, upd_hx (fun v hv => hI.nx hv) hx v hv⟩, hI.2.1.2.2⟩, hI.2.2⟩, hg, Nat.le_add_right _ _⟩
    · exact Gd.rf hI hg
theorem gd_put {σ : CS} {v n : Int32} (hI : Inv σ) (hg : sGr σ = 0) : Gd σ (f_put σ v n).2 := Gd.of (put_st hI hg).1 hg (put_st hI hg).2 (by decide)
theorem gd_take {σ : CS} {v n : Int32} (hI : Inv σ) (hg : sGr σ = 0) : Gd σ (f_take σ v n).2 := Gd.of (take_st hI hg).1 hg (take_st hI hg).2 (by decide)
theorem gd_move {σ : CS} {a b n : Int32} (hI : Inv σ) (hg : sGr σ = 0) : Gd σ (f_move σ a b n).2 := Gd.of (move_st hI hg).1 hg (move_st hI hg).2 (by decide)
theorem gd_split {σ : CS} {v n : Int32} (hI : Inv σ) (hg : sGr σ = 0) : Gd σ (f_split σ v n).2 := Gd.of (split_st hI hg).1 hg (split_st hI hg).2 (by decide)
theorem gd_swap {σ : CS} {v : Int32} (hI : Inv σ) (hg : sGr σ = 0) : Gd σ (f_swap σ v).2 := Gd.of (swap_st hI hg).1 hg (swap_st hI hg).2 (by decide)
theorem gd_polish {σ : CS} {k : Int32} (hI : Inv σ) (hg : sGr σ = 0) : Gd σ (f_polish σ k).2 := by
  have hkc := hI.kc
  rcases ix_cases (n := sKc σ) k (by omega) with h0 | ⟨j, hj, rfl⟩
  · rw [pol_b h0]; exact Gd.rf hI hg
  · rw [pol_g (ix_nI hj (by omega))]
    have h1 := tn_inv hI hj (key_free hI hj hg) (by omega)
    have h2 := da_st (w := 200) (pol_inv h1 hj)
    exact ⟨h2.1, rfl, by show sBc (da 200 (swe (tn σ j) (upd (sWea (tn σ j)) j 0))) ≤ _; have := h2.2.2.2.2; have e : sBc (swe (tn σ j) (upd (sWea (tn σ j)) j 0)) + sGr (swe (tn σ j) (upd (sWea (tn σ j)) j 0)) = sBc σ + 1 + (sGr σ + 1) := rfl; omega⟩
theorem rl_st {n : Nat} : ∀ (f v less : Nat) {σ : CS}, Inv σ → sGr σ = 0 → v + f ≤ sVc σ → Stq σ (rl n f v less σ).2 (2 * f) ∧ sGr (rl n f v less σ).2 = 0
  | 0, _, _, σ, hI, hg, _ => ⟨Stq.rf hI, hg⟩
  | f + 1, v, less, σ, hI, hg, hv => by
    have s1 := th_st (h := 0) hI (hI.lf (v := v) (by omega)) (by omega)
    have e1 : sSm (th σ (sLf σ v) 0).2 = sSm σ := th_sm
    have hv1 : v + 1 + f ≤ sVc (th σ (sLf σ v) 0).2 := by rw [s1.2.1]; omega
    have nj := th_nojam (h := 0) hI (hI.lf (v := v) (by omega)) hg
    rcases th_012 σ (sLf σ v) 0 with q | q | q
    · generalize hu : (th σ (sLf σ v) 0).2 = u at s1 e1 hv1
      by_cases hs : sSm u v = 0
      · rw [rl_2 hu.symm q hs]
        have s2 := Stq.da (w := 500) s1
        have r := rl_st (n := n) f (v + 1) less s2.1 rfl (by rw [s2.2.1]; omega)
        exact ⟨(s2.tr r.1).le (by omega), r.2⟩
      · have i2 := dec_inv s1.1 (j := v) (by omega) hs
        by_cases hl : less + 1 = n
        · rw [rl_3 hu.symm q hs hl]
          exact ⟨(Stq.da (Stq.ssm s1 i2)).le (by omega), rfl⟩
        · rw [rl_4 hu.symm q hs hl]
          have s2 := Stq.da (w := 200) (Stq.ssm s1 i2)
          have r := rl_st (n := n) f (v + 1) (less + 1) s2.1 rfl (by rw [s2.2.1]; omega)
          exact ⟨(s2.tr r.1).le (by omega), r.2⟩
    · rw [rl_1 rfl q]
      have r := rl_st (n := n) f (v + 1) less s1.1 ((th_gr1 (by rw [q]; decide)).trans hg) hv1
      exact ⟨(s1.tr r.1).le (by omega), r.2⟩
    · exact absurd q nj
theorem gd_rounds {σ : CS} {a m n : Int32} (hI : Inv σ) (hg : sGr σ = 0) : Gd σ (f_rounds σ a m n).2 := by
  rcases hr : row σ a m with _ | ⟨i, k⟩
  · rw [rounds_b hr]; exact Gd.rf hI hg
  · obtain ⟨rfl, rfl, hk1, hk2, hik⟩ := row_f hI.vc hr
    by_cases hn : 1 ≤ n ∧ n ≤ 12
    · obtain ⟨nn, h1, h2, rfl⟩ := rng (lo := 1) (hi := 12) (by decide) (by decide) hn
      rw [rounds_g hr h1 h2]
      have r := rl_st (n := nn) k i 0 hI hg hik
      exact Gd.of r.1 hg r.2 (by omega)
    · rw [rounds_b2 hr hn]; exact Gd.rf hI hg
theorem sl_st {n : Int32} : ∀ (f v w : Nat) {σ : CS}, w ≤ 1000000 → Inv σ → sGr σ = 0 → v + f ≤ sVc σ → Stq σ (sl n f v (nI w) σ).2 (4 * f) ∧ sGr (sl n f v (nI w) σ).2 = 0
  | 0, _, _, σ, _, hI, hg, _ => ⟨Stq.rf hI, hg⟩
  | f + 1, v, w, σ, hw, hI, hg, hv => by
    have s1 := th_st (h := 0) hI (hI.lf (v := v) (by omega)) (by omega)
    have g1 := th_gr (σ := σ) (x := sLf σ v) (h := 0)
    have hv1 : v + 1 + f ≤ sVc (th σ (sLf σ v) 0).2 := by rw [s1.2.1]; omega
    have k1 : sKc (th σ (sLf σ v) 0).2 = sKc σ := s1.2.2.2.1
    rcases th_012 σ (sLf σ v) 0 with q | q | q
    · generalize hu : (th σ (sLf σ v) 0).2 = u at s1 g1 hv1 k1
      have s2 := th_st (h := 1) s1.1 (x := sRt σ v) (by rw [k1]; exact hI.rt (by omega)) (by omega)
      have s3 := s1.tr s2
      have hv2 : v + 1 + f ≤ sVc (th u (sRt σ v) 1).2 := by rw [s2.2.1]; omega
      rcases th_012 u (sRt σ v) 1 with y | y | y
      · generalize hz : (th u (sRt σ v) 1).2 = z at s2 s3 hv2
        rw [sl_5 hu.symm q hz.symm y]
        obtain ⟨w2, hw2, e2⟩ := swp_w (v := v) s2.1 hw
        have i2 := swp_inv s2.1 (v := v) (by omega) hw
        by_cases hq : nI w2 = 0
        · rw [swp_0 e2 hq]; exact ⟨(Stq.da (Stq.ssm s3 i2)).le (by omega), rfl⟩
        · rw [swp_1 e2 hq]
          have s4 := Stq.da (w := 200) (Stq.ssm s3 i2)
          have r := sl_st (n := n) f (v + 1) w2 hw2 s4.1 rfl (by rw [s4.2.1]; omega)
          exact ⟨(s4.tr r.1).le (by omega), r.2⟩
      · rw [sl_3 hu.symm q rfl y]
        have s4 := Stq.da (w := 500) s3
        have r := sl_st (n := n) f (v + 1) w hw s4.1 rfl (by rw [s4.2.1]; omega)
        exact ⟨(s4.tr r.1).le (by omega), r.2⟩
      · rw [sl_4 hu.symm q rfl y]; exact ⟨(Stq.ra s3).le (by omega), rfl⟩
    · rw [sl_1 rfl q]
      have r := sl_st (n := n) f (v + 1) w hw s1.1 ((th_gr1 (by rw [q]; decide)).trans hg) hv1
      exact ⟨(s1.tr r.1).le (by omega), r.2⟩
    · rw [sl_2 rfl q]; exact ⟨(Stq.ra s1).le (by omega), rfl⟩
theorem gd_sweep {σ : CS} {a m n : Int32} (hI : Inv σ) (hg : sGr σ = 0) : Gd σ (f_sweep σ a m n).2 := by
  rcases hr : row σ a m with _ | ⟨i, k⟩
  · rw [sweep_b hr]; exact Gd.rf hI hg
  · obtain ⟨rfl, rfl, hk1, hk2, hik⟩ := row_f hI.vc hr
    by_cases hn : 1 ≤ n ∧ n ≤ 1000000
    · rw [sweep_g hr hn]
      obtain ⟨nn, h1, h2, rfl⟩ := rng (lo := 1) (hi := 1000000) (by decide) (by decide) hn
      have r := sl_st (n := nI nn) k i nn h2 hI hg hik
      exact Gd.of r.1 hg r.2 (by omega)
    · rw [sweep_b2 hr hn]; exact Gd.rf hI hg
theorem wl_st {n : Int32} : ∀ (f : Nat) (x t : Int32) {σ : CS}, HX (sVc σ) x → Inv σ → sGr σ + f ≤ 60 → Stq σ (wl n f x t σ).2 (2 * f) ∧ sGr (wl n f x t σ).2 = 0
  | 0, x, t, σ, _, hI, _ => ⟨(da_st hI).le (by omega), rfl⟩
  | f + 1, x, t, σ, hx, hI, hg => by
    have hvc := hI.vc
    rcases hx with rfl | ⟨j, hj, rfl⟩
    · rw [wl_n]; exact ⟨(da_st hI).le (by omega), rfl⟩
    · have s1 := th_st (h := 0) hI (hI.lf hj) (by omega)
      have g1 := th_gr (σ := σ) (x := sLf σ j) (h := 0)
      rcases th_012 σ (sLf σ j) 0 with q | q | q
      · generalize hu : (th σ (sLf σ j) 0).2 = u at s1 g1
        by_cases hn : n < t + sSm u j
        · rw [wl_3 (by omega) hu.symm q hn]; exact ⟨(Stq.ra s1).le (by omega), rfl⟩
        · rw [wl_4 (by omega) hu.symm q hn]
          have r := wl_st (n := n) f (sNx u j) (t + sSm u j) (s1.1.nx (by rw [s1.2.1]; exact hj)) s1.1 (by omega)
          exact ⟨(s1.tr r.1).le (by omega), r.2⟩
      · rw [wl_1 (by omega) rfl q]; exact ⟨(Stq.da s1).le (by omega), rfl⟩
      · rw [wl_2 (by omega) rfl q]; exact ⟨(Stq.ra s1).le (by omega), rfl⟩
theorem gd_walk {σ : CS} {v m n : Int32} (hI : Inv σ) (hg : sGr σ = 0) : Gd σ (f_walk σ v m n).2 := by
  have hvc := hI.vc
  unfold f_walk
  split
  · next h =>
    obtain ⟨k, h1, h2, rfl⟩ := rng (lo := 1) (hi := 60) (by decide) (by decide) h.2.1
    rw [nI_clamp (by omega)]
    have r := wl_st (n := n) k v 0 (ix_hx (by omega) (Or.inr h.1)) hI (by omega)
    exact Gd.of r.1 hg r.2 (by omega)
  · exact Gd.rf hI hg
theorem gd_order {σ : CS} {o v w n : Int32} (hI : Inv σ) (hg : sGr σ = 0) : Gd σ (f_order σ o v w n).2 := by
  unfold f_order
  split
  · next h =>
    split
    · exact Gd.rf hI hg
    · next ht =>
      have htc := hI.tc
      refine ⟨⟨hI.1, hI.2.1, ⟨by show sTc σ + 1 ≤ 32; omega, fun i hi => ?_⟩⟩, hg, Nat.le_add_right _ _⟩
      have hi : i < sTc σ + 1 := hi
      show upd (sOp σ) (sTc σ) o i = 0 ∨ upd (sOp σ) (sTc σ) o i = 1 ∨ upd (sOp σ) (sTc σ) o i = 2 ∨ upd (sOp σ) (sTc σ) o i = 3 ∨ upd (sOp σ) (sTc σ) o i = 4
      by_cases e : i = sTc σ
      · rw [e, upd_eq]; exact isO_r h
      · rw [upd_ne e]; exact hI.2.2.2 i (by show i < sTc σ; omega)
  · exact Gd.rf hI hg
theorem rn_st : ∀ (f i : Nat) {σ : CS}, Inv σ → sGr σ = 0 → Stq σ (rn f i σ).2 (8 * f) ∧ sGr (rn f i σ).2 = 0
  | 0, _, σ, hI, hg => ⟨Stq.rf hI, hg⟩
  | f + 1, i, σ, hI, hg => by
    have s1 := ex_st (i := i) hI hg
    by_cases h4 : sOp σ i = 4
    · rw [rn_1 h4]; exact ⟨Stq.rf hI, hg⟩
    · by_cases qa : (ex σ i).1 = -6 ∨ (ex σ i).1 = -7
      · rw [rn_2 h4 qa]; exact ⟨s1.1.le (by omega), s1.2⟩
      · rw [rn_3 h4 qa]
        have r := rn_st f (i + 1) s1.1.1 s1.2
        exact ⟨(s1.1.tr r.1).le (by omega), r.2⟩
theorem gd_run {σ : CS} (hI : Inv σ) (hg : sGr σ = 0) : Gd σ (f_run σ).2 := by
  have htc := hI.tc
  have r := rn_st (sTc σ) 0 hI hg
  unfold f_run
  refine ⟨⟨r.1.1.1, r.1.1.2.1, ⟨Nat.zero_le _, fun i hi => absurd hi (Nat.not_lt_zero i)⟩⟩, r.2, ?_⟩
  have h1 := r.1.2.2.2.2
  have h2 := r.2
  show sBc (rn (sTc σ) 0 σ).2 ≤ sBc σ + 300
  omega
theorem gd_clear {σ : CS} (hI : Inv σ) (hg : sGr σ = 0) : Gd σ (sbc σ 0) := ⟨hI, hg, Nat.zero_le _⟩
def z0 : Ar := fun _ => 0
/-- a new object -/
def s0 : CS := ((z0, z0, z0, z0, 0), (z0, z0, z0, z0, z0, 0), (z0, 0), (z0, z0, z0, z0, 0), (z0, 0, 0))
theorem s0_inv : Inv s0 := by
  refine ⟨⟨by decide, by decide, fun k hk => absurd hk (Nat.not_lt_zero k), fun _ _ => rfl, fun _ _ => rfl, fun i hi => absurd hi (Nat.not_lt_zero i)⟩, ⟨by decide, fun v hv => absurd hv (Nat.not_lt_zero v), fun v => ⟨0, by decide, rfl⟩, fun _ _ => rfl, fun v hv => absurd hv (Nat.not_lt_zero v)⟩, ⟨by decide, fun i hi => absurd hi (Nat.not_lt_zero i)⟩⟩
