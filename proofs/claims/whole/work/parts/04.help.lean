theorem i_nlt {x y : Int32} : ¬ x < y ↔ y ≤ x := Int32.not_lt
theorem i_nle {x y : Int32} : ¬ x ≤ y ↔ y < x := Int32.not_le
theorem ix_lt0 {n : Nat} {x : Int32} (h : x < 0) : ix n x = none := by
  unfold ix; rw [if_neg (fun q => (i_nlt.mpr q.1) h)]
theorem ix_ge {n : Nat} {x : Int32} (h : nI n ≤ x) : ix n x = none := by
  unfold ix; rw [if_neg (fun q => (i_nle.mpr q.2) h)]
theorem ix_in {n : Nat} {x : Int32} (h1 : ¬ x < 0) (h2 : ¬ nI n ≤ x) : ix n x = some x.toNatClampNeg := by
  unfold ix; rw [if_pos ⟨i_nlt.mp h1, i_nle.mp h2⟩]
theorem ix_nI {n j : Nat} (h : j < n) (hn : n < 2 ^ 31) : ix n (nI j) = some j := by
  rw [ix_in (nI_pos (by omega)) (nI_ge h hn), nI_clamp (by omega)]
theorem ix_cases {n : Nat} (x : Int32) (hn : n < 2 ^ 31) : ix n x = none ∨ ∃ j, j < n ∧ x = nI j := by
  rcases pk_ix x hn with h | h | h
  · exact Or.inl (ix_lt0 h)
  · exact Or.inl (ix_ge h)
  · exact Or.inr h
theorem ix_some {n j : Nat} {x : Int32} (hn : n < 2 ^ 31) (h : ix n x = some j) : j < n ∧ x = nI j := by
  rcases ix_cases x hn with q | ⟨i, hi, rfl⟩
  · rw [q] at h; cases h
  · rw [ix_nI hi hn] at h; cases h; exact ⟨hi, rfl⟩
/-- has, as a number -/
def hz (n : Nat) (x : Int32) : Int32 := if (ix n x).isSome then 1 else 0
theorem hz_0 {n : Nat} {x : Int32} (h : ix n x = none) : hz n x = 0 := by unfold hz; rw [h]; rfl
theorem hz_1 {n j : Nat} {x : Int32} (h : ix n x = some j) : hz n x = 1 := by unfold hz; rw [h]; rfl
/-- a condition, as a number -/
def bz (b : Prop) [Decidable b] : Int32 := if b then 1 else 0
theorem bz_1 {b : Prop} [Decidable b] (h : b) : bz b = 1 := if_pos h
theorem bz_0 {b : Prop} [Decidable b] (h : ¬ b) : bz b = 0 := if_neg h
theorem wr_lo {x : Int32} {σ : CS} (h : sBc σ < 400) : wr x σ = (σ.1, σ.2.1, (upd (sKp σ) (sBc σ) x, sBc σ + 1), σ.2.2.2) := by unfold wr; rw [if_pos h]
theorem wr_hi {x : Int32} {σ : CS} (h : ¬ sBc σ < 400) : wr x σ = (σ.1, σ.2.1, (sKp σ, sBc σ + 1), σ.2.2.2) := by unfold wr; rw [if_neg h]
theorem lt_of_c {a b : Nat} {x y : Int32} (hx : x = nI a) (hy : y = nI b) (ha : a < 2 ^ 31) (hb : b < 2 ^ 31) (h : ¬ x ≤ y) : b < a := by
  rw [hx, hy] at h
  rcases Nat.lt_or_ge b a with q | q
  · exact q
  · exact absurd (nI_le q hb) h
theorem ge_of_c {a b : Nat} {x y : Int32} (hx : x = nI a) (hy : y = nI b) (ha : a < 2 ^ 31) (hb : b < 2 ^ 31) (h : x ≤ y) : a ≤ b := by
  rw [hx, hy] at h
  exact (nI_leI ha hb).mp h
theorem bz_nar {b : Prop} [Decidable b] : narrow .boolean (.int (bz b)) = .int (bz b) := by unfold bz; split <;> rfl
theorem hz_nar {n : Nat} {x : Int32} : narrow .boolean (.int (hz n x)) = .int (hz n x) := by unfold hz; split <;> rfl
theorem pr2 {α β : Type} {x : α × β} {a : α} {b : β} (e : x = (a, b)) : a = x.1 ∧ b = x.2 := by rw [e]; exact ⟨rfl, rfl⟩
theorem ix_ex {n : Nat} {x : Int32} (hn : n < 2 ^ 31) (h1 : ¬ x < 0) (h2 : ¬ nI n ≤ x) : ∃ j, j < n ∧ x = nI j := ⟨_, ix_some hn (ix_in h1 h2)⟩
theorem ix_none_s {n : Nat} {x : Int32} (h : ix n x = none) : ¬ (ix n x).isSome = true := by rw [h]; decide
theorem ix_some_s {n j : Nat} {x : Int32} (h : ix n x = some j) : (ix n x).isSome = true := by rw [h]; rfl
theorem m1_sub (x : Int32) : x + (-1) = x - 1 := (Int32.sub_eq_add_neg x 1).symm
-- the desk's own answers of its parts
def a_key (σ : CS) (t s : Int32) : Int32 × CS := if sKc σ = 40 then (-3, σ) else (nI (sKc σ), ((upd (sTee σ) (sKc σ) t, upd (sStr σ) (sKc σ) s, sWea σ, sHel σ, sKc σ + 1), σ.2))
def a_vault (σ : CS) (x : Int32) : Int32 × CS := if sVc σ = 12 then (-3, σ) else (nI (sVc σ), (σ.1, (upd (sLim σ) (sVc σ) x, sSm σ, upd (sNx σ) (sVc σ) (-1), upd (sLf σ) (sVc σ) (-1), upd (sRt σ) (sVc σ) (-1), sVc σ + 1), σ.2.2))
def a_ord (σ : CS) (o v w n : Int32) : Int32 × CS := if sTc σ = 32 then (-3, σ) else (nI (sTc σ + 1), (σ.1, σ.2.1, σ.2.2.1, (upd (sOp σ) (sTc σ) o, upd (sFi σ) (sTc σ) v, upd (sSe σ) (sTc σ) w, upd (sAm σ) (sTc σ) n, sTc σ + 1), σ.2.2.2.2))
def hd (σ : CS) (j : Nat) (h : Int32) : Int32 := if h = 0 then sLf σ j else sRt σ j
theorem hd_0 (σ : CS) (j : Nat) : hd σ j 0 = sLf σ j := if_pos rfl
theorem hd_1 (σ : CS) (j : Nat) : hd σ j 1 = sRt σ j := if_neg (by decide)
def shk (σ : CS) (j : Nat) (h k : Int32) : CS := if h = 0 then (σ.1, (sLim σ, sSm σ, sNx σ, upd (sLf σ) j k, sRt σ, sVc σ), σ.2.2) else (σ.1, (sLim σ, sSm σ, sNx σ, sLf σ, upd (sRt σ) j k, sVc σ), σ.2.2)
def tkc (σ : CS) (k : Nat) : Int32 × CS := if sHel σ k = sTee σ k then (-7, wr (700 + nI k) σ) else (0, tn σ k)
def tkm (σ : CS) (k : Nat) : Int32 × CS := if sHel σ k = sTee σ k then (-7, ra (wr (700 + nI k) σ)) else (0, tn σ k)
def thc (n : Nat) : Int32 := if n = 1 then 1 else if n = 2 then -7 else 0
def thr (n : Nat) : Int32 := if n = 1 then -4 else if n = 2 then -7 else 0
def thu (t : Nat × CS) : CS := if t.1 = 2 then ra t.2 else t.2
theorem th_b (σ : CS) (h : Int32) : th σ (-1) h = (1, wr (10 + h) σ) := if_pos rfl
theorem th_j {σ : CS} {k : Nat} {h : Int32} (hk : k < 2 ^ 31) (e : sHel σ k = sTee σ k) : th σ (nI k) h = (2, wr (700 + nI k) σ) := by
  unfold th
  rw [if_neg (fun q => nI_pos hk (by rw [q]; decide)), nI_clamp hk, if_pos e]
theorem th_t {σ : CS} {k : Nat} {h : Int32} (hk : k < 2 ^ 31) (e : ¬ sHel σ k = sTee σ k) : th σ (nI k) h = (0, tn σ k) := by
  unfold th
  rw [if_neg (fun q => nI_pos hk (by rw [q]; decide)), nI_clamp hk, if_neg e]
theorem tkc_th {σ : CS} {k : Nat} (h : Int32) (hk : k < 2 ^ 31) : (tkc σ k).1 = thc (th σ (nI k) h).1 ∧ (tkc σ k).2 = (th σ (nI k) h).2 := by
  unfold tkc
  split
  · next e => rw [th_j hk e]; exact ⟨rfl, rfl⟩
  · next e => rw [th_t hk e]; exact ⟨rfl, rfl⟩
theorem tkm_th {σ : CS} {k : Nat} (h : Int32) (hk : k < 2 ^ 31) : (tkm σ k).1 = thr (th σ (nI k) h).1 ∧ (tkm σ k).2 = thu (th σ (nI k) h) := by
  unfold tkm
  split
  · next e => rw [th_j hk e]; exact ⟨rfl, rfl⟩
  · next e => rw [th_t hk e]; exact ⟨rfl, rfl⟩
theorem fe_n {σ : CS} {x : Int32} (h : ix (sBc σ) x = none) : f_entry σ x = -1 := by unfold f_entry; rw [h]
theorem fe_s {σ : CS} {x : Int32} {j : Nat} (h : ix (sBc σ) x = some j) (hj : j < 400) : f_entry σ x = sKp σ j := by unfold f_entry; rw [h]; exact if_pos hj
theorem fe_h {σ : CS} {x : Int32} {j : Nat} (h : ix (sBc σ) x = some j) (hj : ¬ j < 400) : f_entry σ x = -1 := by unfold f_entry; rw [h]; exact if_neg hj
theorem sgr_self {σ : CS} {g : Nat} (h : sGr σ = g) : sgr σ g = σ := by subst h; rfl
theorem dr_sgr {w : Int32} {g : Ar} {a : Nat} : ∀ {j : Nat} {σ : CS}, dr w g j (sgr σ a) = sgr (dr w g j σ) a
  | 0, _ => rfl
  | j + 1, σ => by unfold dr; exact dr_sgr (j := j) (σ := d1 w (g j) σ)
theorem dr_sal {w : Int32} {g : Ar} {a : Int32} : ∀ {j : Nat} {σ : CS}, dr w g j (sal σ a) = sal (dr w g j σ) a
  | 0, _ => rfl
  | j + 1, σ => by unfold dr; exact dr_sal (j := j) (σ := d1 w (g j) σ)
theorem dr_al {w : Int32} {g : Ar} : ∀ {j : Nat} {σ : CS}, sAl (dr w g j σ) = sAl σ
  | 0, _ => rfl
  | j + 1, σ => by unfold dr; exact dr_al (j := j) (σ := d1 w (g j) σ)
theorem dr_gp {w : Int32} {g : Ar} : ∀ {j : Nat} {σ : CS}, sGp (dr w g j σ) = sGp σ
  | 0, _ => rfl
  | j + 1, σ => by unfold dr; exact dr_gp (j := j) (σ := d1 w (g j) σ)
theorem ra_alt (σ : CS) : sal (da 600 σ) (sAl (da 600 σ) + 1) = ra σ := by
  unfold ra da
  show sal (sgr (dr 600 (sGp σ) (sGr σ) σ) 0) (sAl (dr 600 (sGp σ) (sGr σ) σ) + 1) = sgr (dr 600 (sGp σ) (sGr σ) (sal σ (sAl σ + 1))) 0
  rw [dr_al, dr_sal]
  rfl
theorem d1_k {w x : Int32} {σ : CS} {k : Nat} (e : x = nI k) (hk : k < 2 ^ 31) : d1 w x σ = wr (w + nI k) (dec σ k) := by
  unfold d1; rw [e, nI_clamp hk]
theorem row_n {σ : CS} {a m : Int32} (h : ix (sVc σ) a = none) : row σ a m = none := by unfold row; rw [h]
theorem row_b {σ : CS} {a m : Int32} {i : Nat} (h : ix (sVc σ) a = some i) (hm : ¬ (1 ≤ m ∧ m ≤ 12 ∧ i + m.toNatClampNeg ≤ sVc σ)) : row σ a m = none := by unfold row; rw [h]; exact if_neg hm
theorem row_s {σ : CS} {a m : Int32} {i : Nat} (h : ix (sVc σ) a = some i) (hm : 1 ≤ m ∧ m ≤ 12 ∧ i + m.toNatClampNeg ≤ sVc σ) : row σ a m = some (i, m.toNatClampNeg) := by unfold row; rw [h]; exact if_pos hm
theorem rng {m : Int32} {lo hi : Nat} (hlo : lo < 2 ^ 31) (hhi : hi < 2 ^ 31) (h : nI lo ≤ m ∧ m ≤ nI hi) : ∃ k, lo ≤ k ∧ k ≤ hi ∧ m = nI k := by
  obtain ⟨j, hj, rfl⟩ := nI_of2 (M := nI hi) (n := hi) (nI_toInt hhi) (i_nlt.mpr (Int32.le_trans (nI_pos' hlo) h.1)) h.2
  exact ⟨j, (nI_leI hlo (by omega)).mp h.1, hj, rfl⟩
