theorem InvV.sm {V : SV} {kc : Nat} {f : Ar} (h : InvV V kc) (hf : ∀ v, ∃ a, a ≤ 1000000 ∧ f v = nI a) (h0 : ∀ v, V.2.2.2.2.2 ≤ v → f v = 0) : InvV (V.1, f, V.2.2) kc := ⟨h.1, h.2.1, hf, h0, h.2.2.2.2⟩
theorem Inv.sm {σ : CS} (h : Inv σ) (v : Nat) : ∃ a, a ≤ 1000000 ∧ sSm σ v = nI a := h.2.1.2.2.1 v
theorem Inv.sm0 {σ : CS} (h : Inv σ) {v : Nat} (hv : sVc σ ≤ v) : sSm σ v = 0 := h.2.1.2.2.2.1 v hv
theorem Inv.lim {σ : CS} (h : Inv σ) {v : Nat} (hv : v < sVc σ) : ∃ a, a ≤ 1000000 ∧ sLim σ v = nI a := h.2.1.2.2.2.2 v hv
theorem upd_inv {σ : CS} {j a : Nat} {x : Int32} (h : Inv σ) (hj : j < sVc σ) (ha : a ≤ 1000000) (hx : x = nI a) : Inv (ssm σ (upd (sSm σ) j x)) := by
  refine ⟨h.1, InvV.sm h.2.1 (fun v => ?_) (fun v hv => ?_), h.2.2⟩
  · by_cases e : v = j
    · exact ⟨a, ha, by rw [e, upd_eq, hx]⟩
    · rw [upd_ne e]; exact h.sm v
  · have hv : sVc σ ≤ v := hv
    rw [upd_ne (by omega)]; exact h.sm0 hv
theorem amt_n {n : Int32} (h : amt n) : ∃ b, b ≤ 1000000 ∧ n = nI b := by
  obtain ⟨k, -, hk, rfl⟩ := rng (lo := 0) (hi := 1000000) (by decide) (by decide) h
  exact ⟨k, hk, rfl⟩
theorem put_inv {σ : CS} {j : Nat} {n : Int32} (h : Inv σ) (hj : j < sVc σ) (hn : amt n) (hc : ¬ sLim σ j < sSm σ j + n) : Inv (ssm σ (upd (sSm σ) j (sSm σ j + n))) := by
  obtain ⟨a, ha, ea⟩ := h.sm j
  obtain ⟨b, hb, rfl⟩ := amt_n hn
  obtain ⟨c, hc2, ec⟩ := h.lim hj
  rw [ea, ec, nI_add] at hc
  have : a + b ≤ c := Nat.not_lt.mp fun q => hc (nI_lt q (by omega))
  exact upd_inv h hj (a := a + b) (by omega) (by rw [ea, nI_add])
theorem take_inv {σ : CS} {j : Nat} {n : Int32} (h : Inv σ) (hj : j < sVc σ) (hn : amt n) (hc : ¬ sSm σ j < n) : Inv (ssm σ (upd (sSm σ) j (sSm σ j - n))) := by
  obtain ⟨a, ha, ea⟩ := h.sm j
  obtain ⟨b, hb, rfl⟩ := amt_n hn
  rw [ea] at hc
  have : b ≤ a := Nat.not_lt.mp fun q => hc (nI_lt q (by omega))
  exact upd_inv h hj (a := a - b) (by omega) (by rw [ea, pk_sub this])
theorem move_inv {σ : CS} {i j : Nat} {n : Int32} (h : Inv σ) (hi : i < sVc σ) (hj : j < sVc σ) (hn : amt n) (hc : ¬ sSm σ i < n) (hd : ¬ sLim σ j < sSm σ j + n) : Inv (ssm σ (mvs (sSm σ) i j n)) := by
  have h1 := take_inv h hi hn hc
  unfold mvs
  by_cases e : j = i
  · subst e
    obtain ⟨a, ha, ea⟩ := h.sm j
    obtain ⟨b, hb, rfl⟩ := amt_n hn
    rw [ea] at hc
    have hba : b ≤ a := Nat.not_lt.mp fun q => hc (nI_lt q (by omega))
    exact upd_inv h1 hj (a := a) ha (by rw [upd_eq, ea, pk_sub hba, nI_add]; congr 1; omega)
  · have e2 : upd (sSm σ) i (sSm σ i - n) j = sSm σ j := upd_ne e
    refine put_inv (σ := ssm σ (upd (sSm σ) i (sSm σ i - n))) h1 hj hn ?_
    show ¬ sLim σ j < upd (sSm σ) i (sSm σ i - n) j + n
    rw [e2]; exact hd
theorem dec_inv {σ : CS} {j : Nat} (h : Inv σ) (hj : j < sVc σ) (hc : ¬ sSm σ j = 0) : Inv (ssm σ (upd (sSm σ) j (sSm σ j - 1))) := by
  obtain ⟨a, ha, ea⟩ := h.sm j
  rw [ea] at hc
  have : 0 < a := Nat.pos_of_ne_zero fun q => hc (by rw [q]; rfl)
  exact upd_inv h hj (a := a - 1) (by omega) (by rw [ea]; exact pk_sub (b := 1) this)
theorem hands_inv {σ : CS} {f g : Ar} (h : Inv σ) (hf : ∀ v, v < sVc σ → HX (sKc σ) (f v)) (hg : ∀ v, v < sVc σ → HX (sKc σ) (g v)) : Inv (σ.1, (sLim σ, sSm σ, sNx σ, f, g, sVc σ), σ.2.2) :=
  ⟨h.1, ⟨h.2.1.1, fun v hv => ⟨hf v hv, hg v hv, h.nx hv⟩, h.2.1.2.2⟩, h.2.2⟩
theorem upd_hx {kc n j : Nat} {f : Ar} {x : Int32} (hf : ∀ v, v < n → HX kc (f v)) (hx : HX kc x) : ∀ v, v < n → HX kc (upd f j x v) := by
  intro v hv
  by_cases e : v = j
  · rw [e, upd_eq]; exact hx
  · rw [upd_ne e]; exact hf v hv
theorem swap_inv {σ : CS} {j : Nat} (h : Inv σ) (hj : j < sVc σ) : Inv (σ.1, (sLim σ, sSm σ, sNx σ, upd (sLf σ) j (sRt σ j), upd (sRt σ) j (sLf σ j), sVc σ), σ.2.2) :=
  hands_inv h (upd_hx (fun v hv => h.lf hv) (h.rt hj)) (upd_hx (fun v hv => h.rt hv) (h.lf hj))
theorem swe_inv {σ : CS} {f : Ar} (h : Inv σ) (hf : ∀ k, sKc σ ≤ k → f k = 0) : Inv (swe σ f) := ⟨⟨h.1.1, h.1.2.1, h.1.2.2.1, hf, h.1.2.2.2.2⟩, h.2⟩
theorem tn_inv {σ : CS} {k : Nat} (h : Inv σ) (hk : k < sKc σ) (hne : ¬ sHel σ k = sTee σ k) (hg : sGr σ < 60) : Inv (tn σ k) := ⟨InvK.tn h.1 hk hne hg, h.2⟩
theorem pol_inv {σ : CS} {k : Nat} (h : Inv σ) (hk : k < sKc σ) : Inv (swe σ (upd (sWea σ) k 0)) := by
  refine swe_inv h (fun j hj => ?_)
  rw [upd_ne (by omega)]
  exact h.1.2.2.2.1 j hj
