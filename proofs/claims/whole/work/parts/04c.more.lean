theorem hel_ge {σ : CS} {k : Nat} (hI : Inv σ) (hk : k < sKc σ) : sTee σ k ≤ sHel σ k ↔ sHel σ k = sTee σ k := by
  obtain ⟨t, a, b, c, d⟩ := hI.1.2.2.1 k hk
  have hkc := hI.kc
  have e : sHel σ k = nI (cnt (sGp σ) k (sGr σ)) := hI.1.2.2.2.2.1 k (by omega)
  have c' : sTee σ k = nI t := c
  have d' : cnt (sGp σ) k (sGr σ) ≤ t := d
  rw [e, c', nI_leI (by omega) (by omega), nI_eq (by omega) (by omega)]
  omega
theorem th_012 (σ : CS) (x h : Int32) : (th σ x h).1 = 0 ∨ (th σ x h).1 = 1 ∨ (th σ x h).1 = 2 := by
  have := th_le (σ := σ) (x := x) (h := h)
  omega
theorem th_rt {σ : CS} {x h : Int32} {j : Nat} : hd (th σ x h).2 j 1 = sRt σ j := by
  rw [hd_1]; show (th σ x h).2.2.1.2.2.2.2.1 j = _; rw [th_v]
