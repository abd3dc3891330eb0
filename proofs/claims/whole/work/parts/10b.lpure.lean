theorem da_0 {σ : CS} {w : Int32} (hg : sGr σ = 0) : da w σ = σ := by unfold da; rw [hg]; exact sgr_self hg
theorem swp_0 {n w z : Int32} {rec : Int32 → CS → Int32 × CS} {v : Nat} {u : CS} (e : w - mn (sSm u v) w = z) (hz : z = 0) : swp n rec v w u = (n, da 400 (ssm u (upd (sSm u) v (sSm u v - mn (sSm u v) w)))) := by
  unfold swp; rw [e, if_pos hz]
theorem swp_1 {n w z : Int32} {rec : Int32 → CS → Int32 × CS} {v : Nat} {u : CS} (e : w - mn (sSm u v) w = z) (hz : ¬ z = 0) : swp n rec v w u = rec z (da 200 (ssm u (upd (sSm u) v (sSm u v - mn (sSm u v) w)))) := by
  unfold swp; rw [e, if_neg hz]
theorem th_rtu {σ u : CS} {x h : Int32} {j : Nat} (hu : u = (th σ x h).2) : sRt u j = sRt σ j := by
  rw [hu]; show (th σ x h).2.2.1.2.2.2.2.1 j = _; rw [th_v]
theorem dor_4 {σ : CS} {i : Nat} (h : sOp σ i = 4) : dor σ i = (0, σ) := if_pos h
theorem dor_0 {σ : CS} {i : Nat} (h : ¬ sOp σ i = 4) (q : (ex σ i).1 = -6 ∨ (ex σ i).1 = -7) : dor σ i = (0, (ex σ i).2) := by unfold dor; rw [if_neg h, bz_0 (fun y => y q)]
theorem dor_1 {σ : CS} {i : Nat} (h : ¬ sOp σ i = 4) (q : ¬ ((ex σ i).1 = -6 ∨ (ex σ i).1 = -7)) : dor σ i = (1, (ex σ i).2) := by unfold dor; rw [if_neg h, bz_1 q]
