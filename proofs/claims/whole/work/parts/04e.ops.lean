theorem f_key_a {σ : CS} {t m w : Int32} (hI : Inv σ) (hg : sGr σ = 0) (ht : 1 ≤ t ∧ t ≤ 9) (hw : (if m = 0 then (1 : Int32) else 2) = w) : f_key σ t m = a_key σ t w := by
  unfold f_key a_key
  rw [if_pos ht, hw]
  have hkc := hI.kc
  by_cases e : sKc σ = 40
  · rw [if_pos e, if_pos e]
  · have e1 : upd (sWea σ) (sKc σ) 0 = sWea σ := upd_same (hI.1.2.2.2.1 _ (Nat.le_refl _))
    have e2 : upd (sHel σ) (sKc σ) 0 = sHel σ := upd_same (by
      have h5 : sHel σ (sKc σ) = nI (cnt (sGp σ) (sKc σ) (sGr σ)) := hI.1.2.2.2.2.1 (sKc σ) (by omega)
      rw [h5, hg]; rfl)
    rw [if_neg e, if_neg e, e1, e2]
theorem f_vault_a {σ : CS} {x : Int32} (hI : Inv σ) (hx : amt x) : f_vault σ x = a_vault σ x := by
  unfold f_vault a_vault
  rw [if_pos hx, upd_same (hI.sm0 (Nat.le_refl _))]
theorem hang_ok {σ : CS} {v h k : Int32} {j : Nat} (h0 : ix (sVc σ) v = some j) (hh : okh h) (hk : k = -1 ∨ (ix (sKc σ) k).isSome = true) : f_hang σ v h k = (hd σ j h, shk σ j h k) := by
  unfold f_hang; rw [h0]; dsimp only; rw [if_pos ⟨hh, hk⟩]; unfold hd shk
  split <;> rfl
theorem hang_b1 {σ : CS} {v h k : Int32} (h0 : ix (sVc σ) v = none) : f_hang σ v h k = (-2, σ) := by unfold f_hang; rw [h0]
theorem hang_b2 {σ : CS} {v h k : Int32} {j : Nat} (h0 : ix (sVc σ) v = some j) (hh : ¬ (okh h ∧ (k = -1 ∨ (ix (sKc σ) k).isSome = true))) : f_hang σ v h k = (-2, σ) := by
  unfold f_hang; rw [h0]; dsimp only; rw [if_neg hh]
theorem link_ok {σ : CS} {v w : Int32} {j : Nat} (h0 : ix (sVc σ) v = some j) (hk : w = -1 ∨ (ix (sVc σ) w).isSome = true) : f_link σ v w = (sNx σ j, (σ.1, (sLim σ, sSm σ, upd (sNx σ) j w, sLf σ, sRt σ, sVc σ), σ.2.2)) := by
  unfold f_link; rw [h0]; dsimp only; rw [if_pos hk]
theorem link_b1 {σ : CS} {v w : Int32} (h0 : ix (sVc σ) v = none) : f_link σ v w = (-2, σ) := by unfold f_link; rw [h0]
theorem link_b2 {σ : CS} {v w : Int32} {j : Nat} (h0 : ix (sVc σ) v = some j) (hk : ¬ (w = -1 ∨ (ix (sVc σ) w).isSome = true)) : f_link σ v w = (-2, σ) := by
  unfold f_link; rw [h0]; dsimp only; rw [if_neg hk]
theorem put_b1 {σ : CS} {v n : Int32} (h0 : ix (sVc σ) v = none) : f_put σ v n = (-2, σ) := by unfold f_put; rw [h0]
theorem put_b2 {σ : CS} {v n : Int32} {j : Nat} (h0 : ix (sVc σ) v = some j) (hn : ¬ amt n) : f_put σ v n = (-2, σ) := by unfold f_put; rw [h0]; exact if_neg hn
theorem put_g {σ : CS} {v n : Int32} {j : Nat} (h0 : ix (sVc σ) v = some j) (hn : amt n) : f_put σ v n = g_put (tb σ j) j n := by unfold f_put; rw [h0]; exact if_pos hn
theorem take_b1 {σ : CS} {v n : Int32} (h0 : ix (sVc σ) v = none) : f_take σ v n = (-2, σ) := by unfold f_take; rw [h0]
theorem take_b2 {σ : CS} {v n : Int32} {j : Nat} (h0 : ix (sVc σ) v = some j) (hn : ¬ amt n) : f_take σ v n = (-2, σ) := by unfold f_take; rw [h0]; exact if_neg hn
theorem take_g {σ : CS} {v n : Int32} {j : Nat} (h0 : ix (sVc σ) v = some j) (hn : amt n) : f_take σ v n = g_take (tb σ j) j n := by unfold f_take; rw [h0]; exact if_pos hn
theorem split_b1 {σ : CS} {v n : Int32} (h0 : ix (sVc σ) v = none) : f_split σ v n = (-2, σ) := by unfold f_split; rw [h0]
theorem split_b2 {σ : CS} {v n : Int32} {j : Nat} (h0 : ix (sVc σ) v = some j) (hn : ¬ (0 ≤ n ∧ n ≤ 1000)) : f_split σ v n = (-2, σ) := by unfold f_split; rw [h0]; exact if_neg hn
theorem split_g {σ : CS} {v n : Int32} {j : Nat} (h0 : ix (sVc σ) v = some j) (hn : 0 ≤ n ∧ n ≤ 1000) : f_split σ v n = g_split (tb σ j) j n := by unfold f_split; rw [h0]; exact if_pos hn
theorem swap_b1 {σ : CS} {v : Int32} (h0 : ix (sVc σ) v = none) : f_swap σ v = (-2, σ) := by unfold f_swap; rw [h0]
theorem swap_g {σ : CS} {v : Int32} {j : Nat} (h0 : ix (sVc σ) v = some j) : f_swap σ v = g_swap (tb σ j) j := by unfold f_swap; rw [h0]
theorem move_b1 {σ : CS} {a b n : Int32} (h0 : ix (sVc σ) a = none) : f_move σ a b n = (-2, σ) := by unfold f_move; rw [h0]
theorem move_b2 {σ : CS} {a b n : Int32} {i : Nat} (h0 : ix (sVc σ) a = some i) (h1 : ix (sVc σ) b = none) : f_move σ a b n = (-2, σ) := by unfold f_move; rw [h0]; dsimp only; rw [h1]
theorem move_b3 {σ : CS} {a b n : Int32} {i j : Nat} (h0 : ix (sVc σ) a = some i) (h1 : ix (sVc σ) b = some j) (hn : ¬ amt n) : f_move σ a b n = (-2, σ) := by unfold f_move; rw [h0]; dsimp only; rw [h1]; exact if_neg hn
theorem move_g1 {σ : CS} {a b n : Int32} {i j : Nat} (h0 : ix (sVc σ) a = some i) (h1 : ix (sVc σ) b = some j) (hn : amt n) (q : ¬ (tb σ i).1 = 0) : f_move σ a b n = tb σ i := by unfold f_move; rw [h0]; dsimp only; rw [h1]; dsimp only; rw [if_pos hn, if_neg q]
theorem move_g {σ : CS} {a b n : Int32} {i j : Nat} (h0 : ix (sVc σ) a = some i) (h1 : ix (sVc σ) b = some j) (hn : amt n) (q : (tb σ i).1 = 0) : f_move σ a b n = g_move (tb (tb σ i).2 j) i j n := by unfold f_move; rw [h0]; dsimp only; rw [h1]; dsimp only; rw [if_pos hn, if_pos q]
theorem pol_b {σ : CS} {k : Int32} (h0 : ix (sKc σ) k = none) : f_polish σ k = (-2, σ) := by unfold f_polish; rw [h0]
theorem pol_g {σ : CS} {k : Int32} {j : Nat} (h0 : ix (sKc σ) k = some j) : f_polish σ k = (sWea (tn σ j) j, da 200 (swe (tn σ j) (upd (sWea (tn σ j)) j 0))) := by unfold f_polish; rw [h0]
theorem tkc_free {σ : CS} {k : Nat} (hI : Inv σ) (hk : k < sKc σ) (hg : sGr σ = 0) : tkc σ k = (0, tn σ k) := if_neg (key_free hI hk hg)
theorem tkm_free {σ : CS} {k : Nat} (hI : Inv σ) (hk : k < sKc σ) (hg : sGr σ = 0) : tkm σ k = (0, tn σ k) := if_neg (key_free hI hk hg)
theorem sum_n {σ : CS} {v : Int32} (h0 : ix (sVc σ) v = none) : f_sum σ v = -2 := by unfold f_sum; rw [h0]
theorem sum_s {σ : CS} {v : Int32} {j : Nat} (h0 : ix (sVc σ) v = some j) : f_sum σ v = sSm σ j := by unfold f_sum; rw [h0]
theorem wear_n {σ : CS} {v : Int32} (h0 : ix (sKc σ) v = none) : f_wear σ v = -2 := by unfold f_wear; rw [h0]
theorem wear_s {σ : CS} {v : Int32} {j : Nat} (h0 : ix (sKc σ) v = some j) : f_wear σ v = sWea σ j := by unfold f_wear; rw [h0]
theorem hung_n {σ : CS} {v h : Int32} (h0 : ix (sVc σ) v = none) : f_hung σ v h = -2 := by unfold f_hung; rw [h0]
theorem hung_s {σ : CS} {v h : Int32} {j : Nat} (h0 : ix (sVc σ) v = some j) (hh : okh h) : f_hung σ v h = hd σ j h := by
  unfold f_hung; rw [h0]; dsimp only; unfold hd
  rcases hh with rfl | rfl
  · rw [if_pos rfl, if_pos rfl]
  · rw [if_neg (by decide), if_pos rfl, if_neg (by decide)]
theorem hung_b {σ : CS} {v h : Int32} {j : Nat} (h0 : ix (sVc σ) v = some j) (hh : ¬ okh h) : f_hung σ v h = -2 := by
  unfold f_hung; rw [h0]; dsimp only
  rw [if_neg (fun q => hh (Or.inl q)), if_neg (fun q => hh (Or.inr q))]
theorem o5 (o : Int32) : o = 0 ∨ o = 1 ∨ o = 2 ∨ o = 3 ∨ o = 4 ∨ (o.toInt < 0 ∨ 4 < o.toInt) := by
  have h : o.toInt < 0 ∨ 4 < o.toInt ∨ o.toInt = 0 ∨ o.toInt = 1 ∨ o.toInt = 2 ∨ o.toInt = 3 ∨ o.toInt = 4 := by omega
  rcases h with h | h | h | h | h | h | h
  · exact Or.inr (Or.inr (Or.inr (Or.inr (Or.inr (Or.inl h)))))
  · exact Or.inr (Or.inr (Or.inr (Or.inr (Or.inr (Or.inr h)))))
  · exact Or.inl (Int32.toInt_inj.mp h)
  · exact Or.inr (Or.inl (Int32.toInt_inj.mp h))
  · exact Or.inr (Or.inr (Or.inl (Int32.toInt_inj.mp h)))
  · exact Or.inr (Or.inr (Or.inr (Or.inl (Int32.toInt_inj.mp h))))
  · exact Or.inr (Or.inr (Or.inr (Or.inr (Or.inl (Int32.toInt_inj.mp h)))))
theorem o_ne {o c : Int32} (ho : o.toInt < 0 ∨ 4 < o.toInt) (hc : ¬ (c.toInt < 0 ∨ 4 < c.toInt)) : ¬ o = c := fun e => hc (e ▸ ho)
theorem o_out {o : Int32} (ho : o.toInt < 0 ∨ 4 < o.toInt) (c : ¬ o < 0) : 4 < o := by
  rcases ho with h | h
  · exact absurd (Int32.lt_iff_toInt_lt.mpr h) c
  · exact Int32.lt_iff_toInt_lt.mpr h
theorem isO_v {σ : CS} {o v w n : Int32} (h : isO σ o v w n) (ho : ¬ o = 4) : (ix (sVc σ) v).isSome = true := by
  rcases h with ⟨-, h, -⟩ | ⟨-, h, -⟩ | ⟨-, h⟩ | h
  · exact h
  · exact h
  · exact h
  · exact absurd h ho
theorem isO_n {σ : CS} {o v w n : Int32} (h : isO σ o v w n) (h3 : ¬ o = 3) (ho : ¬ o = 4) : amt n := by
  rcases h with ⟨-, -, h⟩ | ⟨-, -, -, h⟩ | ⟨h, -⟩ | h
  · exact h
  · exact h
  · exact absurd h h3
  · exact absurd h ho
theorem isO_w {σ : CS} {v w n : Int32} (h : isO σ 2 v w n) : (ix (sVc σ) w).isSome = true := by
  rcases h with ⟨h, -⟩ | ⟨-, -, h, -⟩ | ⟨h, -⟩ | h
  · exact absurd h (by decide)
  · exact h
  · exact absurd h (by decide)
  · exact absurd h (by decide)
theorem isO_r {σ : CS} {o v w n : Int32} (h : isO σ o v w n) : o = 0 ∨ o = 1 ∨ o = 2 ∨ o = 3 ∨ o = 4 := by
  rcases h with ⟨h | h, -⟩ | ⟨h, -⟩ | ⟨h, -⟩ | h
  · exact Or.inl h
  · exact Or.inr (Or.inl h)
  · exact Or.inr (Or.inr (Or.inl h))
  · exact Or.inr (Or.inr (Or.inr (Or.inl h)))
  · exact Or.inr (Or.inr (Or.inr (Or.inr h)))
theorem isO_out {σ : CS} {o v w n : Int32} (ho : o.toInt < 0 ∨ 4 < o.toInt) (h : isO σ o v w n) : False := by
  rcases isO_r h with rfl | rfl | rfl | rfl | rfl <;> exact absurd ho (by decide)
theorem order_a {σ : CS} {o v w n : Int32} (h : isO σ o v w n) : f_order σ o v w n = a_ord σ o v w n := if_pos h
theorem order_b {σ : CS} {o v w n : Int32} (h : ¬ isO σ o v w n) : f_order σ o v w n = (-2, σ) := if_neg h
