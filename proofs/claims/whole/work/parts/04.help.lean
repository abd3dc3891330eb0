theorem i_nlt {x y : Int32} : ¬ x < y ↔ y ≤ x := Int32.not_lt
theorem i_nle {x y : Int32} : ¬ x ≤ y ↔ y < x := Int32.not_le
theorem ix_lt0 {n : Nat} {x : Int32} (h : x < 0) : ix n x = none := by
  unfold ix; rw [if_neg (fun q => (i_nlt.mpr q.1) h)]
theorem ix_ge {n : Nat} {x : Int32} (h : nI n ≤ x) : ix n x = none := by
  unfold ix; rw [if_neg (fun q => (i_nle.mpr q.2) h)]
theorem ix_in {n : Nat} {x : Int32} (h1 : ¬ x < 0) (h2 : ¬ nI n ≤ x) : ix n x = some x.toNatClampNeg := by
  unfold ix; rw [if_pos ⟨i_nlt.mp h1, i_nle.mp h2⟩]
theorem ix_nI {n j : Nat} (h : j < n) (hn : n < 2 ^ 31) : ix n (nI j) = some j := by
  rw [ix_in (nI_pos (by omega)) (nI_ge h hn), nI_clamp (by omega)]
theorem ix_cases {n : Nat} (x : Int32) (hn : n < 2 ^ 31) : ix n x = none ∨ ∃ j, j < n ∧ x = nI j := by
  rcases pk_ix x hn with h | h | h
  · exact Or.inl (ix_lt0 h)
  · exact Or.inl (ix_ge h)
  · exact Or.inr h
theorem ix_some {n j : Nat} {x : Int32} (hn : n < 2 ^ 31) (h : ix n x = some j) : j < n ∧ x = nI j := by
  rcases ix_cases x hn with q | ⟨i, hi, rfl⟩
  · rw [q] at h; cases h
  · rw [ix_nI hi hn] at h; cases h; exact ⟨hi, rfl⟩
/-- has, as a number -/
def hz (n : Nat) (x : Int32) : Int32 := if (ix n x).isSome then 1 else 0
theorem hz_0 {n : Nat} {x : Int32} (h : ix n x = none) : hz n x = 0 := by unfold hz; rw [h]; rfl
theorem hz_1 {n j : Nat} {x : Int32} (h : ix n x = some j) : hz n x = 1 := by unfold hz; rw [h]; rfl
/-- a condition, as a number -/
def bz (b : Prop) [Decidable b] : Int32 := if b then 1 else 0
theorem bz_1 {b : Prop} [Decidable b] (h : b) : bz b = 1 := if_pos h
theorem bz_0 {b : Prop} [Decidable b] (h : ¬ b) : bz b = 0 := if_neg h
theorem wr_lo {x : Int32} {σ : CS} (h : sBc σ < 400) : wr x σ = (σ.1, σ.2.1, (upd (sKp σ) (sBc σ) x, sBc σ + 1), σ.2.2.2) := by unfold wr; rw [if_pos h]
theorem wr_hi {x : Int32} {σ : CS} (h : ¬ sBc σ < 400) : wr x σ = (σ.1, σ.2.1, (sKp σ, sBc σ + 1), σ.2.2.2) := by unfold wr; rw [if_neg h]
theorem lt_of_c {a b : Nat} {x y : Int32} (hx : x = nI a) (hy : y = nI b) (ha : a < 2 ^ 31) (hb : b < 2 ^ 31) (h : ¬ x ≤ y) : b < a := by
  rw [hx, hy] at h
  rcases Nat.lt_or_ge b a with q | q
  · exact q
  · exact absurd (nI_le q hb) h
theorem ge_of_c {a b : Nat} {x y : Int32} (hx : x = nI a) (hy : y = nI b) (ha : a < 2 ^ 31) (hb : b < 2 ^ 31) (h : x ≤ y) : a ≤ b := by
  rw [hx, hy] at h
  exact (nI_leI ha hb).mp h
