-- WHAT ALWAYS HOLDS
def cnt (g : Ar) (k : Nat) : Nat → Nat
  | 0 => 0
  | n + 1 => cnt g k n + (if g n = nI k then 1 else 0)
theorem cnt_congr {g g' : Ar} {k : Nat} : ∀ {n : Nat}, (∀ i, i < n → g i = g' i) → cnt g k n = cnt g' k n
  | 0, _ => rfl
  | n + 1, h => by
    unfold cnt
    rw [cnt_congr (fun i hi => h i (by omega)), h n (by omega)]
theorem cnt_upd {g : Ar} {k n : Nat} {x : Int32} : cnt (upd g n x) k n = cnt g k n := cnt_congr (fun i hi => upd_ne (by omega))
theorem cnt_le {g : Ar} {k : Nat} : ∀ {n : Nat}, cnt g k n ≤ n
  | 0 => Nat.le_refl 0
  | n + 1 => by
    have := cnt_le (g := g) (k := k) (n := n)
    unfold cnt
    split <;> omega
def HX (kc : Nat) (x : Int32) : Prop := x = -1 ∨ ∃ k, k < kc ∧ x = nI k
def InvK (K : SK) (G : SG) : Prop :=
  K.2.2.2.2 ≤ 40 ∧ G.2.1 ≤ 60 ∧ (∀ k, k < K.2.2.2.2 → ∃ t, 1 ≤ t ∧ t ≤ 9 ∧ K.1 k = nI t ∧ cnt G.1 k G.2.1 ≤ t) ∧ (∀ k, K.2.2.2.2 ≤ k → K.2.2.1 k = 0) ∧ (∀ k, k < 40 → K.2.2.2.1 k = nI (cnt G.1 k G.2.1)) ∧ (∀ i, i < G.2.1 → ∃ k, k < K.2.2.2.2 ∧ G.1 i = nI k)
def InvV (V : SV) (kc : Nat) : Prop :=
  V.2.2.2.2.2 ≤ 12 ∧ (∀ v, v < V.2.2.2.2.2 → HX kc (V.2.2.2.1 v) ∧ HX kc (V.2.2.2.2.1 v) ∧ HX V.2.2.2.2.2 (V.2.2.1 v)) ∧ (∀ v, ∃ a, a ≤ 1000000 ∧ V.2.1 v = nI a) ∧ (∀ v, V.2.2.2.2.2 ≤ v → V.2.1 v = 0) ∧ (∀ v, v < V.2.2.2.2.2 → ∃ a, a ≤ 1000000 ∧ V.1 v = nI a)
def InvT (T : ST) : Prop := T.2.2.2.2 ≤ 32 ∧ ∀ i, i < T.2.2.2.2 → T.1 i = 0 ∨ T.1 i = 1 ∨ T.1 i = 2 ∨ T.1 i = 3 ∨ T.1 i = 4
def Inv (σ : CS) : Prop := InvK σ.1 σ.2.2.2.2 ∧ InvV σ.2.1 (sKc σ) ∧ InvT σ.2.2.2.1
theorem Inv.kc {σ : CS} (h : Inv σ) : sKc σ ≤ 40 := h.1.1
theorem Inv.gr {σ : CS} (h : Inv σ) : sGr σ ≤ 60 := h.1.2.1
theorem Inv.vc {σ : CS} (h : Inv σ) : sVc σ ≤ 12 := h.2.1.1
theorem Inv.tc {σ : CS} (h : Inv σ) : sTc σ ≤ 32 := h.2.2.1
theorem Inv.lf {σ : CS} (h : Inv σ) {v : Nat} (hv : v < sVc σ) : HX (sKc σ) (sLf σ v) := (h.2.1.2.1 v hv).1
theorem Inv.rt {σ : CS} (h : Inv σ) {v : Nat} (hv : v < sVc σ) : HX (sKc σ) (sRt σ v) := (h.2.1.2.1 v hv).2.1
theorem Inv.nx {σ : CS} (h : Inv σ) {v : Nat} (hv : v < sVc σ) : HX (sVc σ) (sNx σ v) := (h.2.1.2.1 v hv).2.2
theorem Inv.gp {σ : CS} (h : Inv σ) {i : Nat} (hi : i < sGr σ) : ∃ k, k < sKc σ ∧ sGp σ i = nI k := h.1.2.2.2.2.2 i hi
theorem nI_inj {a b : Nat} (ha : a < 2 ^ 31) (hb : b < 2 ^ 31) (h : nI a = nI b) : a = b := (nI_eq ha hb).mp h
theorem nI_nm1 {a : Nat} (ha : a < 2 ^ 31) : ¬ nI a = -1 := fun h => nI_pos ha (by rw [h]; decide)
theorem InvK.tn {σ : CS} {k : Nat} (h : InvK σ.1 σ.2.2.2.2) (hk : k < sKc σ) (hne : ¬ sHel σ k = sTee σ k) (hg : sGr σ < 60) : InvK (tn σ k).1 (tn σ k).2.2.2.2 := by
  obtain ⟨h1, h2, h3, h4, h5, h6⟩ := h
  have h1 : sKc σ ≤ 40 := h1
  have h5 : ∀ k, k < 40 → sHel σ k = nI (cnt (sGp σ) k (sGr σ)) := h5
  have h6 : ∀ i, i < sGr σ → ∃ k, k < sKc σ ∧ sGp σ i = nI k := h6
  refine ⟨h1, hg, fun k' hk' => ?_, fun k' hk' => ?_, fun k' hk' => ?_, fun i hi => ?_⟩
  · have hk' : k' < sKc σ := hk'
    obtain ⟨t, a, b, c, d⟩ := h3 k' hk'
    refine ⟨t, a, b, c, ?_⟩
    show cnt (upd (sGp σ) (sGr σ) (nI k)) k' (sGr σ + 1) ≤ t
    unfold cnt
    rw [cnt_upd, upd_eq]
    split
    · next e =>
      have e' := nI_inj (by omega) (by omega) e
      subst e'
      have d' : cnt (sGp σ) k (sGr σ) ≤ t := d
      have e2 : sHel σ k = nI (cnt (sGp σ) k (sGr σ)) := h5 k (by omega)
      have e3 : sTee σ k = nI t := c
      have : cnt (sGp σ) k (sGr σ) ≠ t := fun q => hne (by rw [e2, e3, q])
      omega
    · exact d
  · show upd (sWea σ) k (sWea σ k + sStr σ k) k' = 0
    have hk'2 : sKc σ ≤ k' := hk'
    rw [upd_ne (by omega)]
    exact h4 k' hk'
  · show upd (sHel σ) k (sHel σ k + 1) k' = nI (cnt (upd (sGp σ) (sGr σ) (nI k)) k' (sGr σ + 1))
    unfold cnt
    rw [cnt_upd, upd_eq]
    by_cases e : k' = k
    · subst e
      rw [upd_eq, if_pos rfl, h5 k' hk']
      exact nI_1 _
    · rw [upd_ne e, if_neg (fun q => e (nI_inj (by omega) (by omega) q).symm)]
      exact h5 k' hk'
  · show ∃ k', k' < sKc σ ∧ upd (sGp σ) (sGr σ) (nI k) i = nI k'
    have hi' : i < sGr σ + 1 := hi
    by_cases e : i = sGr σ
    · exact ⟨k, hk, by rw [e, upd_eq]⟩
    · rw [upd_ne e]
      exact h6 i (by omega)
theorem InvK.d1 {σ : CS} {g : Ar} {j : Nat} {al w : Int32} (h : InvK σ.1 (g, j + 1, al)) : InvK (d1 w (g j) σ).1 (g, j, al) := by
  obtain ⟨h1, h2, h3, h4, h5, h6⟩ := h
  obtain ⟨k, hk, ek⟩ := h6 j (Nat.lt_succ_self j)
  have h5 : ∀ k, k < 40 → sHel σ k = nI (cnt g k (j + 1)) := h5
  have hk2 : k < 40 := Nat.lt_of_lt_of_le hk h1
  have hc : (g j).toNatClampNeg = k := by rw [show g j = nI k from ek]; exact nI_clamp (by omega)
  refine ⟨h1, by have : j + 1 ≤ 60 := h2; show j ≤ 60; omega, fun k' hk' => ?_, h4, fun k' hk' => ?_, fun i hi => h6 i (Nat.lt_succ_of_lt hi)⟩
  · obtain ⟨t, a, b, c, d⟩ := h3 k' hk'
    refine ⟨t, a, b, c, ?_⟩
    have d' : cnt g k' (j + 1) ≤ t := d
    unfold cnt at d'
    show cnt g k' j ≤ t
    omega
  · show upd (sHel σ) (g j).toNatClampNeg (sHel σ (g j).toNatClampNeg - 1) k' = nI (cnt g k' j)
    rw [hc]
    have e5 : sHel σ k' = nI (cnt g k' (j + 1)) := h5 k' hk'
    unfold cnt at e5
    by_cases e : k' = k
    · subst e
      rw [upd_eq, e5, if_pos (show g j = nI k' from ek)]
      exact nI_pred _
    · rw [upd_ne e, e5, if_neg (fun q => e (nI_inj (by omega) (by omega) ((show g j = nI k from ek).symm.trans q)).symm)]
      rfl
/-- what letting go leaves -/
theorem dr_inv {w : Int32} {g : Ar} {al : Int32} : ∀ {j : Nat} {σ : CS}, InvK σ.1 (g, j, al) → InvK (dr w g j σ).1 (g, 0, al) ∧ (dr w g j σ).2.1 = σ.2.1 ∧ (dr w g j σ).2.2.2 = σ.2.2.2 ∧ sBc (dr w g j σ) = sBc σ + j ∧ sKc (dr w g j σ) = sKc σ
  | 0, σ, h => ⟨h, rfl, rfl, rfl, rfl⟩
  | j + 1, σ, h => by
    obtain ⟨a, b, c, d, e⟩ := dr_inv (w := w) (InvK.d1 (w := w) h)
    unfold dr
    exact ⟨a, b, c, by rw [d]; show sBc σ + 1 + j = sBc σ + (j + 1); omega, e⟩
/-- a step: what holds still holds; vaults' number, tray and keys' number are as before; the book and what is to be told are no more than d on -/
def Stq (σ u : CS) (d : Nat) : Prop := Inv u ∧ sVc u = sVc σ ∧ u.2.2.2.1 = σ.2.2.2.1 ∧ sKc u = sKc σ ∧ sBc u + sGr u ≤ sBc σ + sGr σ + d
theorem Stq.rf {σ : CS} (h : Inv σ) {d : Nat} : Stq σ σ d := ⟨h, rfl, rfl, rfl, Nat.le_add_right _ _⟩
theorem Stq.tr {σ u w : CS} {a b : Nat} (h : Stq σ u a) (k : Stq u w b) : Stq σ w (a + b) := ⟨k.1, k.2.1.trans h.2.1, k.2.2.1.trans h.2.2.1, k.2.2.2.1.trans h.2.2.2.1, by have := h.2.2.2.2; have := k.2.2.2.2; omega⟩
theorem Stq.le {σ u : CS} {a b : Nat} (h : Stq σ u a) (k : a ≤ b) : Stq σ u b := ⟨h.1, h.2.1, h.2.2.1, h.2.2.2.1, by have := h.2.2.2.2; omega⟩
theorem da_inv {w : Int32} {σ : CS} (h : Inv σ) : Inv (da w σ) ∧ (da w σ).2.1 = σ.2.1 ∧ (da w σ).2.2.2.1 = σ.2.2.2.1 ∧ sBc (da w σ) = sBc σ + sGr σ ∧ sKc (da w σ) = sKc σ ∧ sGr (da w σ) = 0 := by
  obtain ⟨a, b, c, d, e⟩ := dr_inv (w := w) (g := sGp σ) (al := sAl σ) (j := sGr σ) (σ := σ) h.1
  have c1 : (dr w (sGp σ) (sGr σ) σ).2.2.2.1 = σ.2.2.2.1 := by rw [c]
  have c2 : sGp (dr w (sGp σ) (sGr σ) σ) = sGp σ := by show (dr w (sGp σ) (sGr σ) σ).2.2.2.2.1 = _; rw [c]
  have c3 : sAl (dr w (sGp σ) (sGr σ) σ) = sAl σ := by show (dr w (sGp σ) (sGr σ) σ).2.2.2.2.2.2 = _; rw [c]
  refine ⟨⟨?_, ?_, ?_⟩, b, c1, d, e, rfl⟩
  · show InvK (dr w (sGp σ) (sGr σ) σ).1 (sGp (dr w (sGp σ) (sGr σ) σ), 0, sAl (dr w (sGp σ) (sGr σ) σ))
    rw [c2, c3]; exact a
  · show InvV (dr w (sGp σ) (sGr σ) σ).2.1 (sKc (dr w (sGp σ) (sGr σ) σ))
    rw [b, e]; exact h.2.1
  · show InvT (dr w (sGp σ) (sGr σ) σ).2.2.2.1
    rw [c1]; exact h.2.2
theorem da_st {w : Int32} {σ : CS} (h : Inv σ) : Stq σ (da w σ) 0 := by
  obtain ⟨a, b, c, d, e, f⟩ := da_inv (w := w) h
  exact ⟨a, by show (da w σ).2.1.2.2.2.2.2 = _; rw [b], c, e, by rw [d, f]; omega⟩
theorem da_gr {w : Int32} {σ : CS} : sGr (da w σ) = 0 := rfl
theorem sal_inv {σ : CS} {x : Int32} (h : Inv σ) : Inv (sal σ x) := h
theorem ra_st {σ : CS} (h : Inv σ) : Stq σ (ra σ) 0 := by
  obtain ⟨a, b, c, d, e⟩ := da_st (w := 600) (sal_inv (x := sAl σ + 1) h)
  exact ⟨a, b, c, d, e⟩
theorem ra_gr {σ : CS} : sGr (ra σ) = 0 := rfl
theorem ra_v {σ : CS} (h : Inv σ) : (ra σ).2.1 = σ.2.1 := (da_inv (w := 600) (sal_inv (x := sAl σ + 1) h)).2.1
theorem da_v {w : Int32} {σ : CS} (h : Inv σ) : (da w σ).2.1 = σ.2.1 := (da_inv h).2.1
theorem th_v {σ : CS} {x h : Int32} : (th σ x h).2.2.1 = σ.2.1 := by
  unfold th; split
  · rfl
  · split <;> rfl
theorem th_st {σ : CS} {x h : Int32} (hI : Inv σ) (hx : HX (sKc σ) x) (hg : sGr σ < 60) : Stq σ (th σ x h).2 2 := by
  unfold th
  split
  · exact ⟨hI, rfl, rfl, rfl, by show sBc σ + 1 + sGr σ ≤ _; omega⟩
  · next h1 =>
    split
    · exact ⟨hI, rfl, rfl, rfl, by show sBc σ + 1 + sGr σ ≤ _; omega⟩
    · next h2 =>
      rcases hx with hx | ⟨k, hk, rfl⟩
      · exact absurd hx h1
      · rw [nI_clamp (by have := hI.kc; omega)] at h2 ⊢
        exact ⟨⟨InvK.tn hI.1 hk h2 hg, hI.2.1, hI.2.2⟩, rfl, rfl, rfl, by show sBc σ + 1 + (sGr σ + 1) ≤ _; omega⟩
theorem th_gr {σ : CS} {x h : Int32} : sGr (th σ x h).2 ≤ sGr σ + 1 := by
  unfold th
  split
  · show sGr σ ≤ _; omega
  · split
    · show sGr σ ≤ _; omega
    · exact Nat.le_refl _
theorem th_le {σ : CS} {x h : Int32} : (th σ x h).1 ≤ 2 := by
  unfold th
  split
  · show 1 ≤ 2; decide
  · split
    · show 2 ≤ 2; decide
    · show 0 ≤ 2; decide
theorem th_gr0 {σ : CS} {x h : Int32} (q : (th σ x h).1 = 0) : sGr (th σ x h).2 = sGr σ + 1 := by
  unfold th at q ⊢
  split at q
  · cases q
  · split at q
    · cases q
    · next a b => rw [if_neg a, if_neg b]; rfl
theorem th_gr1 {σ : CS} {x h : Int32} (q : ¬ (th σ x h).1 = 0) : sGr (th σ x h).2 = sGr σ := by
  unfold th at q ⊢
  split at q
  · next a => rw [if_pos a]; rfl
  · next a =>
    split at q
    · next b => rw [if_neg a, if_pos b]; rfl
    · exact absurd rfl q
/-- nothing is held: no hand jams -/
theorem th_nojam {σ : CS} {x h : Int32} (hI : Inv σ) (hx : HX (sKc σ) x) (hg : sGr σ = 0) : ¬ (th σ x h).1 = 2 := by
  unfold th
  split
  · show ¬ 1 = 2; decide
  · next h1 =>
    split
    · next h2 =>
      rcases hx with hx | ⟨k, hk, rfl⟩
      · exact absurd hx h1
      · rw [nI_clamp (by have := hI.kc; omega)] at h2
        obtain ⟨t, a, b, c, -⟩ := hI.1.2.2.1 k hk
        have e : sHel σ k = nI (cnt (sGp σ) k (sGr σ)) := hI.1.2.2.2.2.1 k (by have := hI.kc; omega)
        rw [hg] at e
        rw [e, show sTee σ k = nI t from c] at h2
        have : 0 = t := nI_inj (by decide) (by omega) h2
        omega
    · show ¬ 0 = 2; decide
theorem key_free {σ : CS} {k : Nat} (hI : Inv σ) (hk : k < sKc σ) (hg : sGr σ = 0) : ¬ sHel σ k = sTee σ k := by
  have := th_nojam (x := nI k) (h := 0) hI (Or.inr ⟨k, hk, rfl⟩) hg
  unfold th at this
  rw [if_neg (nI_nm1 (by have := hI.kc; omega)), nI_clamp (by have := hI.kc; omega)] at this
  intro e
  rw [if_pos e] at this
  exact this rfl
theorem tb_st {σ : CS} {v : Nat} (hI : Inv σ) (hv : v < sVc σ) (hg : sGr σ + 2 ≤ 60) : Stq σ (tb σ v).2 4 := by
  have s1 := th_st (h := 0) hI (hI.lf hv) (by omega)
  have g1 := th_gr (σ := σ) (x := sLf σ v) (h := 0)
  have s2 := th_st (h := 1) s1.1 (x := sRt σ v) (by rw [s1.2.2.2.1]; exact hI.rt hv) (by omega)
  have s3 := s1.tr s2
  unfold tb
  split
  · exact (s1.tr (da_st s1.1)).le (by omega)
  · split
    · exact (s1.tr (ra_st s1.1)).le (by omega)
    · split
      · exact (s3.tr (da_st s2.1)).le (by omega)
      · split
        · exact (s3.tr (ra_st s2.1)).le (by omega)
        · exact s3
theorem tb_v {σ : CS} {v : Nat} (hI : Inv σ) (hv : v < sVc σ) (hg : sGr σ + 2 ≤ 60) : (tb σ v).2.2.1 = σ.2.1 := by
  have s1 := th_st (h := 0) hI (hI.lf hv) (by omega)
  have g1 := th_gr (σ := σ) (x := sLf σ v) (h := 0)
  have s2 := th_st (h := 1) s1.1 (x := sRt σ v) (by rw [s1.2.2.2.1]; exact hI.rt hv) (by omega)
  unfold tb
  split
  · exact (da_v s1.1).trans th_v
  · split
    · exact (ra_v s1.1).trans th_v
    · split
      · exact (da_v s2.1).trans (th_v.trans th_v)
      · split
        · exact (ra_v s2.1).trans (th_v.trans th_v)
        · exact th_v.trans th_v
theorem tb_gr {σ : CS} {v : Nat} : sGr (tb σ v).2 ≤ sGr σ + 2 := by
  have g1 := th_gr (σ := σ) (x := sLf σ v) (h := 0)
  have g2 := th_gr (σ := (th σ (sLf σ v) 0).2) (x := sRt σ v) (h := 1)
  unfold tb
  split
  · exact Nat.zero_le _
  · split
    · exact Nat.zero_le _
    · split
      · exact Nat.zero_le _
      · split
        · exact Nat.zero_le _
        · exact Nat.le_trans g2 (by omega)
theorem tb_gr1 {σ : CS} {v : Nat} (q : ¬ (tb σ v).1 = 0) : sGr (tb σ v).2 = 0 := by
  unfold tb at q ⊢
  split at q
  · next a => rw [if_pos a]; rfl
  · next a =>
    split at q
    · next b => rw [if_neg a, if_pos b]; rfl
    · next b =>
      split at q
      · next c => rw [if_neg a, if_neg b, if_pos c]; rfl
      · next c =>
        split at q
        · next d => rw [if_neg a, if_neg b, if_neg c, if_pos d]; rfl
        · exact absurd rfl q
