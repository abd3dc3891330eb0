-- rows and loops, pure
theorem row_ok {σ : CS} {a : Int32} {i k : Nat} (h0 : ix (sVc σ) a = some i) (h1 : 1 ≤ k) (h2 : k ≤ 12) (h : i + k ≤ sVc σ) : row σ a (nI k) = some (i, k) := by
  have e := row_s (m := nI k) h0 ⟨nI_le (a := 1) h1 (by omega), nI_le (b := 12) h2 (by decide), by rw [nI_clamp (by omega)]; exact h⟩
  rw [nI_clamp (by omega)] at e
  exact e
theorem row_no {σ : CS} {a : Int32} {i k : Nat} (h0 : ix (sVc σ) a = some i) (h2 : k ≤ 12) (h : ¬ i + k ≤ sVc σ) : row σ a (nI k) = none :=
  row_b h0 (fun q => h (by have := q.2.2; rw [nI_clamp (by omega)] at this; exact this))
theorem row_f {σ : CS} {a m : Int32} {i k : Nat} (hv : sVc σ ≤ 12) (h : row σ a m = some (i, k)) : a = nI i ∧ m = nI k ∧ 1 ≤ k ∧ k ≤ 12 ∧ i + k ≤ sVc σ := by
  rcases ix_cases (n := sVc σ) a (by omega) with h0 | ⟨j, hj, rfl⟩
  · rw [row_n h0] at h; cases h
  · have h0 := ix_nI hj (n := sVc σ) (by omega)
    by_cases hm : 1 ≤ m ∧ m ≤ 12
    · obtain ⟨q, h1, h2, rfl⟩ := rng (lo := 1) (hi := 12) (by decide) (by decide) hm
      by_cases hs : j + q ≤ sVc σ
      · rw [row_ok h0 h1 h2 hs] at h; cases h; exact ⟨rfl, rfl, h1, h2, hs⟩
      · rw [row_no h0 h2 hs] at h; cases h
    · rw [row_b h0 (fun q => hm ⟨q.1, q.2.1⟩)] at h; cases h
theorem ix_none_ge {n : Nat} {x : Int32} (h : ix n x = none) (h1 : ¬ x < 0) : nI n ≤ x := by
  rcases Int32.le_total (nI n) x with q | q
  · exact q
  · by_cases e : nI n ≤ x
    · exact e
    · rw [ix_in h1 e] at h; cases h
theorem isS_0 {α : Type} {o : Option α} (h : o = none) : ¬ o.isSome = true := by rw [h]; exact Bool.false_ne_true
theorem isS_1 {α : Type} {o : Option α} {a : α} (h : o = some a) : o.isSome = true := by rw [h]; rfl
theorem rounds_b {σ : CS} {a m n : Int32} (h : row σ a m = none) : f_rounds σ a m n = (-2, σ) := by unfold f_rounds; rw [h]
theorem rounds_b2 {σ : CS} {a m n : Int32} {q : Nat × Nat} (h : row σ a m = some q) (hn : ¬ (1 ≤ n ∧ n ≤ 12)) : f_rounds σ a m n = (-2, σ) := by unfold f_rounds; rw [h]; exact if_neg hn
theorem rounds_g {σ : CS} {a m : Int32} {i k n : Nat} (h : row σ a m = some (i, k)) (h1 : 1 ≤ n) (h2 : n ≤ 12) : f_rounds σ a m (nI n) = (nI (rl n k i 0 σ).1, (rl n k i 0 σ).2) := by
  unfold f_rounds; rw [h]; dsimp only
  rw [if_pos ⟨nI_le (a := 1) h1 (by omega), nI_le (b := 12) h2 (by decide)⟩, nI_clamp (by omega)]
theorem sweep_b {σ : CS} {a m n : Int32} (h : row σ a m = none) : f_sweep σ a m n = (-2, σ) := by unfold f_sweep; rw [h]
theorem sweep_b2 {σ : CS} {a m n : Int32} {q : Nat × Nat} (h : row σ a m = some q) (hn : ¬ (1 ≤ n ∧ n ≤ 1000000)) : f_sweep σ a m n = (-2, σ) := by unfold f_sweep; rw [h]; exact if_neg hn
theorem sweep_g {σ : CS} {a m n : Int32} {i k : Nat} (h : row σ a m = some (i, k)) (hn : 1 ≤ n ∧ n ≤ 1000000) : f_sweep σ a m n = sl n k i n σ := by unfold f_sweep; rw [h]; exact if_pos hn
theorem th_sm {σ : CS} {x h : Int32} : sSm (th σ x h).2 = sSm σ := by show (th σ x h).2.2.1.2.1 = _; rw [th_v]
theorem th_nx {σ : CS} {x h : Int32} : sNx (th σ x h).2 = sNx σ := by show (th σ x h).2.2.1.2.2.1 = _; rw [th_v]
section RL
variable {n f v less : Nat} {σ u : CS}
theorem rl_1 (hu : u = (th σ (sLf σ v) 0).2) (q : (th σ (sLf σ v) 0).1 = 1) : rl n (f + 1) v less σ = rl n f (v + 1) less u := by
  rw [hu]; show (if _ then _ else _) = _; rw [if_pos q]
theorem rl_2 (hu : u = (th σ (sLf σ v) 0).2) (q : (th σ (sLf σ v) 0).1 = 0) (hs : sSm u v = 0) : rl n (f + 1) v less σ = rl n f (v + 1) less (da 500 u) := by
  rw [hu, th_sm] at hs
  rw [hu]; show (if _ then _ else _) = _; rw [if_neg (by rw [q]; decide), if_pos hs]
theorem rl_3 (hu : u = (th σ (sLf σ v) 0).2) (q : (th σ (sLf σ v) 0).1 = 0) (hs : ¬ sSm u v = 0) (hl : less + 1 = n) : rl n (f + 1) v less σ = (less + 1, da 400 (ssm u (upd (sSm u) v (sSm u v - 1)))) := by
  have e : sSm u = sSm σ := by rw [hu, th_sm]
  rw [e] at hs ⊢
  rw [hu]; show (if _ then _ else _) = _; rw [if_neg (by rw [q]; decide), if_neg hs, if_pos hl]
theorem rl_4 (hu : u = (th σ (sLf σ v) 0).2) (q : (th σ (sLf σ v) 0).1 = 0) (hs : ¬ sSm u v = 0) (hl : ¬ less + 1 = n) : rl n (f + 1) v less σ = rl n f (v + 1) (less + 1) (da 200 (ssm u (upd (sSm u) v (sSm u v - 1)))) := by
  have e : sSm u = sSm σ := by rw [hu, th_sm]
  rw [e] at hs ⊢
  rw [hu]; show (if _ then _ else _) = _; rw [if_neg (by rw [q]; decide), if_neg hs, if_neg hl]
end RL
theorem mn_c {x w : Int32} : (if w < x then w else x) = mn x w := by
  unfold mn
  by_cases h : w < x
  · rw [if_pos h, if_neg (fun q => Int32.lt_irrefl (Int32.lt_trans h q))]
  · by_cases h2 : x < w
    · rw [if_neg h, if_pos h2]
    · rw [if_neg h, if_neg h2]; exact Int32.le_antisymm (i_nlt.mp h) (i_nlt.mp h2)
theorem mn_nI {a b : Nat} (ha : a < 2 ^ 31) (hb : b < 2 ^ 31) : mn (nI a) (nI b) = nI (min a b) := by
  unfold mn
  by_cases h : a < b
  · rw [if_pos (nI_lt h hb), Nat.min_eq_left (by omega)]
  · rw [if_neg (nI_nlt (by omega) ha), Nat.min_eq_right (by omega)]
theorem swp_w {σ : CS} {v w : Nat} (h : Inv σ) (hw : w ≤ 1000000) : ∃ z, z ≤ 1000000 ∧ nI w - mn (sSm σ v) (nI w) = nI z := by
  obtain ⟨a, ha, ea⟩ := h.sm v
  refine ⟨w - min a w, by omega, ?_⟩
  rw [ea, mn_nI (by omega) (by omega), pk_sub (by omega)]
theorem swp_inv {σ : CS} {v w : Nat} (h : Inv σ) (hv : v < sVc σ) (hw : w ≤ 1000000) : Inv (ssm σ (upd (sSm σ) v (sSm σ v - mn (sSm σ v) (nI w)))) := by
  obtain ⟨a, ha, ea⟩ := h.sm v
  exact upd_inv h hv (a := a - min a w) (by omega) (by rw [ea, mn_nI (by omega) (by omega), pk_sub (by omega)])
section SL
variable {n w : Int32} {f v : Nat} {σ u y : CS}
theorem sl_1 (hu : u = (th σ (sLf σ v) 0).2) (q : (th σ (sLf σ v) 0).1 = 1) : sl n (f + 1) v w σ = sl n f (v + 1) w u := by
  rw [hu]; show (if _ then _ else _) = _; rw [if_pos q]
theorem sl_2 (hu : u = (th σ (sLf σ v) 0).2) (q : (th σ (sLf σ v) 0).1 = 2) : sl n (f + 1) v w σ = (-7, ra u) := by
  rw [hu]; show (if _ then _ else _) = _; rw [if_neg (by rw [q]; decide), if_pos q]
theorem sl_3 (hu : u = (th σ (sLf σ v) 0).2) (q : (th σ (sLf σ v) 0).1 = 0) (hy : y = (th u (sRt σ v) 1).2) (q2 : (th u (sRt σ v) 1).1 = 1) : sl n (f + 1) v w σ = sl n f (v + 1) w (da 500 y) := by
  subst hu
  rw [hy]; show (if _ then _ else _) = _; rw [if_neg (by rw [q]; decide), if_neg (by rw [q]; decide), if_pos q2]
theorem sl_4 (hu : u = (th σ (sLf σ v) 0).2) (q : (th σ (sLf σ v) 0).1 = 0) (hy : y = (th u (sRt σ v) 1).2) (q2 : (th u (sRt σ v) 1).1 = 2) : sl n (f + 1) v w σ = (-7, ra y) := by
  subst hu
  rw [hy]; show (if _ then _ else _) = _; rw [if_neg (by rw [q]; decide), if_neg (by rw [q]; decide), if_neg (by rw [q2]; decide), if_pos q2]
theorem sl_5 (hu : u = (th σ (sLf σ v) 0).2) (q : (th σ (sLf σ v) 0).1 = 0) (hy : y = (th u (sRt σ v) 1).2) (q2 : (th u (sRt σ v) 1).1 = 0) : sl n (f + 1) v w σ = swp n (sl n f (v + 1)) v w y := by
  subst hu
  rw [hy]; show (if _ then _ else _) = _; rw [if_neg (by rw [q]; decide), if_neg (by rw [q]; decide), if_neg (by rw [q2]; decide), if_neg (by rw [q2]; decide)]
end SL
section WL
variable {n t : Int32} {f j : Nat} {σ u : CS}
theorem wl_e (x : Int32) : wl n 0 x t σ = (t, da 200 σ) := rfl
theorem wl_n : wl n f (-1) t σ = (t, da 200 σ) := by
  cases f
  · rfl
  · show (if _ then _ else _) = _; rw [if_pos rfl]
theorem wl_1 (hj : j < 2 ^ 31) (hu : u = (th σ (sLf σ j) 0).2) (q : (th σ (sLf σ j) 0).1 = 1) : wl n (f + 1) (nI j) t σ = (t, da 200 u) := by
  rw [hu]; show (if _ then _ else _) = _; rw [if_neg (nI_nm1 hj), nI_clamp hj, if_pos q]
theorem wl_2 (hj : j < 2 ^ 31) (hu : u = (th σ (sLf σ j) 0).2) (q : (th σ (sLf σ j) 0).1 = 2) : wl n (f + 1) (nI j) t σ = (-7, ra u) := by
  rw [hu]; show (if _ then _ else _) = _; rw [if_neg (nI_nm1 hj), nI_clamp hj, if_neg (by rw [q]; decide), if_pos q]
theorem wl_3 (hj : j < 2 ^ 31) (hu : u = (th σ (sLf σ j) 0).2) (q : (th σ (sLf σ j) 0).1 = 0) (hn : n < t + sSm u j) : wl n (f + 1) (nI j) t σ = (-6, ra u) := by
  have e : sSm u = sSm σ := by rw [hu, th_sm]
  rw [e] at hn
  rw [hu]; show (if _ then _ else _) = _; rw [if_neg (nI_nm1 hj), nI_clamp hj, if_neg (by rw [q]; decide), if_neg (by rw [q]; decide), if_pos hn]
theorem wl_4 (hj : j < 2 ^ 31) (hu : u = (th σ (sLf σ j) 0).2) (q : (th σ (sLf σ j) 0).1 = 0) (hn : ¬ n < t + sSm u j) : wl n (f + 1) (nI j) t σ = wl n f (sNx u j) (t + sSm u j) u := by
  have e : sSm u = sSm σ := by rw [hu, th_sm]
  have e2 : sNx u = sNx σ := by rw [hu, th_nx]
  rw [e] at hn
  rw [e, e2]
  rw [hu]; show (if _ then _ else _) = _; rw [if_neg (nI_nm1 hj), nI_clamp hj, if_neg (by rw [q]; decide), if_neg (by rw [q]; decide), if_neg hn]
end WL
theorem walk_b {σ : CS} {v m n : Int32} (h : ¬ ((ix (sVc σ) v).isSome = true ∧ (1 ≤ m ∧ m ≤ 60) ∧ 0 ≤ n)) : f_walk σ v m n = (-2, σ) := if_neg h
theorem walk_g {σ : CS} {j k : Nat} {n : Int32} (h0 : ix (sVc σ) (nI j) = some j) (h1 : 1 ≤ k) (h2 : k ≤ 60) (hn : 0 ≤ n) : f_walk σ (nI j) (nI k) n = wl n k (nI j) 0 σ := by
  unfold f_walk
  rw [if_pos ⟨ix_some_s h0, ⟨nI_le (a := 1) h1 (by omega), nI_le (b := 60) h2 (by decide)⟩, hn⟩, nI_clamp (by omega)]
theorem d_one {σ : CS} {w : Int32} {k : Nat} (hg : sGr σ = 1) (ek : sGp σ 0 = nI k) (hk : k < 2 ^ 31) : sgr (wr (w + nI k) (dec σ k)) 0 = da w σ := by
  unfold da
  rw [hg]
  show _ = sgr (d1 w (sGp σ 0) σ) 0
  rw [d1_k ek hk]
theorem Stq.da {σ u : CS} {d : Nat} {w : Int32} (h : Stq σ u d) : Stq σ (da w u) d := (h.tr (da_st h.1)).le (by omega)
theorem Stq.ra {σ u : CS} {d : Nat} (h : Stq σ u d) : Stq σ (ra u) d := (h.tr (ra_st h.1)).le (by omega)
theorem Stq.ssm {σ u : CS} {d : Nat} {f : Ar} (h : Stq σ u d) (hI : Inv (ssm u f)) : Stq σ (ssm u f) d := ⟨hI, h.2.1, h.2.2.1, h.2.2.2.1, h.2.2.2.2⟩
-- what the calls of an order leave
theorem put_st {σ : CS} {v n : Int32} (hI : Inv σ) (hg : sGr σ = 0) : Stq σ (f_put σ v n).2 8 ∧ sGr (f_put σ v n).2 = 0 := by
  have hvc := hI.vc
  rcases ix_cases (n := sVc σ) v (by omega) with h0 | ⟨j, hj, rfl⟩
  · rw [put_b1 h0]; exact ⟨Stq.rf hI, hg⟩
  · have h0 := ix_nI hj (n := sVc σ) (by omega)
    by_cases hn : amt n
    · have s1 := tb_st (v := j) hI hj (by omega)
      have hj1 : j < sVc (tb σ j).2 := by rw [s1.2.1]; exact hj
      rw [put_g h0 hn]; unfold g_put
      split
      · split
        · exact ⟨(Stq.da s1).le (by omega), rfl⟩
        · next hc => exact ⟨(Stq.da (Stq.ssm s1 (put_inv s1.1 hj1 hn hc))).le (by omega), rfl⟩
      · next q => exact ⟨s1.le (by omega), tb_gr1 q⟩
    · rw [put_b2 h0 hn]; exact ⟨Stq.rf hI, hg⟩
theorem take_st {σ : CS} {v n : Int32} (hI : Inv σ) (hg : sGr σ = 0) : Stq σ (f_take σ v n).2 8 ∧ sGr (f_take σ v n).2 = 0 := by
  have hvc := hI.vc
  rcases ix_cases (n := sVc σ) v (by omega) with h0 | ⟨j, hj, rfl⟩
  · rw [take_b1 h0]; exact ⟨Stq.rf hI, hg⟩
  · have h0 := ix_nI hj (n := sVc σ) (by omega)
    by_cases hn : amt n
    · have s1 := tb_st (v := j) hI hj (by omega)
      have hj1 : j < sVc (tb σ j).2 := by rw [s1.2.1]; exact hj
      rw [take_g h0 hn]; unfold g_take
      split
      · split
        · exact ⟨(Stq.ra s1).le (by omega), rfl⟩
        · next hc => exact ⟨(Stq.da (Stq.ssm s1 (take_inv s1.1 hj1 hn hc))).le (by omega), rfl⟩
      · next q => exact ⟨s1.le (by omega), tb_gr1 q⟩
    · rw [take_b2 h0 hn]; exact ⟨Stq.rf hI, hg⟩
theorem split_st {σ : CS} {v n : Int32} (hI : Inv σ) (hg : sGr σ = 0) : Stq σ (f_split σ v n).2 8 ∧ sGr (f_split σ v n).2 = 0 := by
  have hvc := hI.vc
  rcases ix_cases (n := sVc σ) v (by omega) with h0 | ⟨j, hj, rfl⟩
  · rw [split_b1 h0]; exact ⟨Stq.rf hI, hg⟩
  · have h0 := ix_nI hj (n := sVc σ) (by omega)
    by_cases hn : 0 ≤ n ∧ n ≤ 1000
    · have s1 := tb_st (v := j) hI hj (by omega)
      rw [split_g h0 hn]; unfold g_split
      split
      · split
        · exact ⟨(Stq.ra s1).le (by omega), rfl⟩
        · exact ⟨(Stq.da s1).le (by omega), rfl⟩
      · next q => exact ⟨s1.le (by omega), tb_gr1 q⟩
    · rw [split_b2 h0 hn]; exact ⟨Stq.rf hI, hg⟩
theorem swap_st {σ : CS} {v : Int32} (hI : Inv σ) (hg : sGr σ = 0) : Stq σ (f_swap σ v).2 8 ∧ sGr (f_swap σ v).2 = 0 := by
  have hvc := hI.vc
  rcases ix_cases (n := sVc σ) v (by omega) with h0 | ⟨j, hj, rfl⟩
  · rw [swap_b1 h0]; exact ⟨Stq.rf hI, hg⟩
  · have h0 := ix_nI hj (n := sVc σ) (by omega)
    have s1 := tb_st (v := j) hI hj (by omega)
    have hj1 : j < sVc (tb σ j).2 := by rw [s1.2.1]; exact hj
    rw [swap_g h0]; unfold g_swap
    split
    · exact ⟨(Stq.da (⟨swap_inv s1.1 hj1, s1.2.1, s1.2.2.1, s1.2.2.2.1, s1.2.2.2.2⟩ : Stq σ _ 4)).le (by omega), rfl⟩
    · next q => exact ⟨s1.le (by omega), tb_gr1 q⟩
theorem move_st {σ : CS} {a b n : Int32} (hI : Inv σ) (hg : sGr σ = 0) : Stq σ (f_move σ a b n).2 8 ∧ sGr (f_move σ a b n).2 = 0 := by
  have hvc := hI.vc
  rcases ix_cases (n := sVc σ) a (by omega) with h0 | ⟨i, hi, rfl⟩
  · rw [move_b1 h0]; exact ⟨Stq.rf hI, hg⟩
  · have h0 := ix_nI hi (n := sVc σ) (by omega)
    rcases ix_cases (n := sVc σ) b (by omega) with h1 | ⟨j, hj, rfl⟩
    · rw [move_b2 h0 h1]; exact ⟨Stq.rf hI, hg⟩
    · have h1 := ix_nI hj (n := sVc σ) (by omega)
      by_cases hn : amt n
      · have s1 := tb_st (v := i) hI hi (by omega)
        have g1 := tb_gr (σ := σ) (v := i)
        by_cases q : (tb σ i).1 = 0
        · rw [move_g h0 h1 hn q]
          generalize hu : (tb σ i).2 = u at s1 g1
          have hj1 : j < sVc u := by rw [s1.2.1]; exact hj
          have hi1 : i < sVc u := by rw [s1.2.1]; exact hi
          have s2 := tb_st (v := j) s1.1 hj1 (by omega)
          have s3 := s1.tr s2
          have q1 := tb_gr1 (σ := u) (v := j)
          generalize tb u j = t at s2 s3 q1
          have hj2 : j < sVc t.2 := by rw [s2.2.1]; exact hj1
          have hi2 : i < sVc t.2 := by rw [s2.2.1]; exact hi1
          unfold g_move
          split
          · split
            · exact ⟨(Stq.ra s3).le (by omega), rfl⟩
            · next hc =>
              split
              · exact ⟨(Stq.da s3).le (by omega), rfl⟩
              · next hd => exact ⟨(Stq.da (Stq.ssm s3 (move_inv s2.1 hi2 hj2 hn hc hd))).le (by omega), rfl⟩
          · next q2 => exact ⟨s3.le (by omega), q1 q2⟩
        · rw [move_g1 h0 h1 hn q]; exact ⟨s1.le (by omega), tb_gr1 q⟩
      · rw [move_b3 h0 h1 hn]; exact ⟨Stq.rf hI, hg⟩
theorem ex_st {σ : CS} {i : Nat} (hI : Inv σ) (hg : sGr σ = 0) : Stq σ (ex σ i).2 8 ∧ sGr (ex σ i).2 = 0 := by
  unfold ex
  split
  · exact put_st hI hg
  · split
    · exact take_st hI hg
    · split
      · exact move_st hI hg
      · exact swap_st hI hg
/-- an order as the desk does it -/
def dor (σ : CS) (i : Nat) : Int32 × CS := if sOp σ i = 4 then (0, σ) else (bz (¬ ((ex σ i).1 = -6 ∨ (ex σ i).1 = -7)), (ex σ i).2)
section RN
variable {f i : Nat} {σ : CS}
theorem rn_1 (h : sOp σ i = 4) : rn (f + 1) i σ = (i, σ) := by show (if _ then _ else _) = _; rw [if_pos h]
theorem rn_2 (h : ¬ sOp σ i = 4) (q : (ex σ i).1 = -6 ∨ (ex σ i).1 = -7) : rn (f + 1) i σ = (i, (ex σ i).2) := by show (if _ then _ else _) = _; rw [if_neg h, if_pos q]
theorem rn_3 (h : ¬ sOp σ i = 4) (q : ¬ ((ex σ i).1 = -6 ∨ (ex σ i).1 = -7)) : rn (f + 1) i σ = rn f (i + 1) (ex σ i).2 := by show (if _ then _ else _) = _; rw [if_neg h, if_neg q]
theorem ex_0 (h : sOp σ i = 0) : ex σ i = f_put σ (sFi σ i) (sAm σ i) := if_pos h
theorem ex_1 (h : sOp σ i = 1) : ex σ i = f_take σ (sFi σ i) (sAm σ i) := by unfold ex; rw [if_neg (by rw [h]; decide), if_pos h]
theorem ex_2 (h : sOp σ i = 2) : ex σ i = f_move σ (sFi σ i) (sSe σ i) (sAm σ i) := by unfold ex; rw [if_neg (by rw [h]; decide), if_neg (by rw [h]; decide), if_pos h]
theorem ex_3 (h : sOp σ i = 3) : ex σ i = f_swap σ (sFi σ i) := by unfold ex; rw [if_neg (by rw [h]; decide), if_neg (by rw [h]; decide), if_neg (by rw [h]; decide)]
end RN
