theorem ns_ok : ∀ w ∈ nsW, ∃ (a : String) (i : Nat) (z : MethodName) (h : String), w = .methodLinkNest a i z h := by
  intro w hw
  rcases List.mem_cons.mp hw with rfl | hw
  · exact ⟨_, _, _, _, rfl⟩
  rcases List.mem_cons.mp hw with rfl | hw
  · exact ⟨_, _, _, _, rfl⟩
  rcases List.mem_cons.mp hw with rfl | hw
  · exact ⟨_, _, _, _, rfl⟩
  rcases List.mem_cons.mp hw with rfl | hw
  · exact ⟨_, _, _, _, rfl⟩
  exact absurd hw List.not_mem_nil
set_option maxRecDepth 20000 in
theorem ns_in : ∀ w ∈ nsW, w ∈ lw_tbl := by decide +kernel
set_option maxHeartbeats 4000000 in
set_option maxRecDepth 100000 in
theorem whole_start {p : Program} {e : Env} {s : State} {m : MethodId} {below : List Frame} {meth : Method} {c : Code} (l : Launch) {b L : Nat} {xs : Nat → Int32} (hL : L ≤ 2560) (C0 : lw_At p s m meth c b L xs) : W p l e room_1 s m #[Value.ref b] below meth c s.heap [] 0 0 (lw_Z below #[Value.ref b] s) (entryFrame m ([Value.ref b] : List Value).toArray 4) := by
  obtain ⟨hx, hb, hr, hml, hown, hts0, hX, hbl, hlocks, hgv⟩ := id C0
  have hown : s.vm.findClass RL = some m.cls := hown
  have hts : ∀ w ∈ TG, w.before #[Value.ref b] s = true := fun w h => hts0 w (tg_sub w h)
  have hA : ∀ q : Nat, s.heap.size ≤ q → (fun q : Nat => s.heap.size ≤ q) q := fun _ h => h
  obtain ⟨c0, i0, k0⟩ := u_known (C := RX0) (T := TX0) (N := 2) (n := 2) hts in_X0 (hts _ kn_X0)
  obtain ⟨c1, i1, k1⟩ := u_known (C := RX1) (T := TX1) (N := 5) (n := 5) hts in_X1 (hts _ kn_X1)
  obtain ⟨c2, i2, k2⟩ := u_known (C := RX2) (T := TX2) (N := 5) (n := 5) hts in_X2 (hts _ kn_X2)
  obtain ⟨c3, i3, k3⟩ := u_known (C := RX3) (T := TX3) (N := 6) (n := 6) hts in_X3 (hts _ kn_X3)
  obtain ⟨c4, i4, k4⟩ := u_known (C := RX4) (T := TX4) (N := 7) (n := 7) hts in_X4 (hts _ kn_X4)
  obtain ⟨c5, i5, k5⟩ := u_known (C := RX5) (T := TX5) (N := 20) (n := 20) hts in_X5 (hts _ kn_X5)
  obtain ⟨dC, dI, hKc⟩ : ∃ (dC : Nat → ClassId) (dI : Nat → Nat → Nat), ∀ (k : Nat) (q : vw_C), vwCl[k]? = some q → u_Kn s q.1 q.2.1 q.2.2 (dC k) (dI k) := by
    refine ⟨fun k => if k = 0 then c0 else if k = 1 then c1 else if k = 2 then c2 else if k = 3 then c3 else if k = 4 then c4 else c5, fun k => if k = 0 then i0 else if k = 1 then i1 else if k = 2 then i2 else if k = 3 then i3 else if k = 4 then i4 else i5, ?_⟩
    intro k q hq
    match k, hq with
    | 0, hq => cases hq; exact k0
    | 1, hq => cases hq; exact k1
    | 2, hq => cases hq; exact k2
    | 3, hq => cases hq; exact k3
    | 4, hq => cases hq; exact k4
    | 5, hq => cases hq; exact k5
    | k + 6, hq => simp [vwCl] at hq
  obtain ⟨cA, kA, comp, hfind, hkA, hkind⟩ := Cond.arrayClass_spec (hts _ ka_int)
  obtain ⟨D, hDe⟩ : ∃ D : va_G, D = (dC, dI) := ⟨_, rfl⟩
  have hK : va_K D vwCl [(cA, .int)] s := by
    rw [hDe]
    refine ⟨hKc, fun k q hk => ?_⟩
    have hz : k < 1 := (List.getElem?_eq_some_iff.mp hk).1
    rw [show k = 0 by omega] at hk
    cases hk
    exact ⟨fun n z => ⟨fun k h => (by cases h), kA, hkA, comp, hkind⟩, hfind⟩
  have hS : va_S (fun q : Nat => s.heap.size ≤ q) s.heap s.heap [] := va_S.rf
  have hP : va_P D vwCl [] s.heap := fun k q h => by simp at h
  have hD : va_D (fun q : Nat => s.heap.size ≤ q) [] := ⟨fun i j p q h => by simp at h, fun k q h => by simp at h⟩
  have hl := lv_entry ([.ref b]) (n := 4) (Nat.le_of_ble_eq_true rfl)
  rw [lg_entry_eq]
  generalize (lg_sl ([.ref b]) ++ List.replicate (4 - (lg_sl ([.ref b])).length) Slot.unset).toArray = ls at hl ⊢
  have hl : lv_has ls 4 [(0, .ref b)] := hl
  refine va_new (ci := 4) (fs := [.null, .null, .null, .null, .null, .int 0, .int 0]) (C := RX4) (T := TX4) (N := 7) hx hb hts in_X4 tyX4 tyX4_ok hown (hts _ kl_L_7) (hts _ kn_X4) (hts _ ki_X4) hK hP hD hS hA rfl (fun j hj => by rcases (show j = 0 ∨ j = 1 ∨ j = 2 ∨ j = 3 ∨ j = 4 ∨ j = 5 ∨ j = 6 by omega) with rfl | rfl | rfl | rfl | rfl | rfl | rfl <;> rfl) (Nat.le_of_ble_eq_true rfl) (Nat.le_of_ble_eq_true rfl) dL_law_0 (fun q0 H hP hD hS => ?_)
  have hP : va_P D vwCl [(q0, .inr (4, [.null, .null, .null, .null, .null, .int 0, .int 0]))] H := hP
  have hD : va_D (fun q : Nat => s.heap.size ≤ q) [(q0, .inr (4, [.null, .null, .null, .null, .null, .int 0, .int 0]))] := hD
  refine lv_dup hx hb dL_law_3 rfl ?_
  refine cl_c (rest := [.ref q0]) (wr := []) ns_ok (fun w h => va_Nw.of (by obtain ⟨a, i, z, h9, rfl⟩ := ns_ok w h; rfl) (hts0 w (ns_in w h))) 0 (c_X4_init l D cA q0 H.size) ⟨hx, hb, hml, hown, hts⟩ hK hP hD hS hA rfl [] rfl (by decide) (by decide) kx_L_9 ko_X4_init ki_X4 km_X4 rfl (by decide +kernel) ⟨Nat.le_of_ble_eq_true rfl, Nat.le_of_ble_eq_true rfl⟩ ⟨Nat.le_of_ble_eq_true rfl, Nat.le_of_ble_eq_true rfl⟩ hl.1 rfl (Nat.le_of_ble_eq_true rfl) dL_law_4 (fun adC H locs hw hP hD hS => ?_)
  have hwC : adC 0 = q0 := hw
  have hP : va_P D vwCl (cW adC cA s0) H := hP
  have hD : va_D (fun q : Nat => s.heap.size ≤ q) (cW adC cA s0) := hD
  rw [← hwC]
  refine lv_astore_n (lv' := [(1, .ref (adC 0)), (0, .ref b)]) hx hb dL_law_7 rfl hl (by decide) rfl (fun ls hl => ?_)
  refine va_new (ci := 5) (fs := [.null, .null, .null, .null, .int 0, .null, .null, .null, .null, .int 0, .null, .int 0, .null, .int 0, .int 0, .null, .null, .null, .null, .int 0]) (C := RX5) (T := TX5) (N := 20) hx hb hts in_X5 tyX5 tyX5_ok hown (hts _ kl_L_10) (hts _ kn_X5) (hts _ ki_X5) hK hP hD hS hA rfl (fun j hj => by rcases (show j = 0 ∨ j = 1 ∨ j = 2 ∨ j = 3 ∨ j = 4 ∨ j = 5 ∨ j = 6 ∨ j = 7 ∨ j = 8 ∨ j = 9 ∨ j = 10 ∨ j = 11 ∨ j = 12 ∨ j = 13 ∨ j = 14 ∨ j = 15 ∨ j = 16 ∨ j = 17 ∨ j = 18 ∨ j = 19 by omega) with rfl | rfl | rfl | rfl | rfl | rfl | rfl | rfl | rfl | rfl | rfl | rfl | rfl | rfl | rfl | rfl | rfl | rfl | rfl | rfl <;> rfl) (Nat.le_of_ble_eq_true rfl) (Nat.le_of_ble_eq_true rfl) dL_law_8 (fun q1 H hP hD hS => ?_)
  refine lv_dup hx hb dL_law_11 rfl ?_
  refine cl_c (rest := [.ref q1]) (Ns := []) (wr := cW adC cA s0) (fun w h => absurd h List.not_mem_nil) (fun w h => absurd h List.not_mem_nil) 20 (c_X5_init l D cA q1 H.size) ⟨hx, hb, hml, hown, hts⟩ hK hP hD hS hA rfl [0, 1, 2, 3, 4, 5, 6, 7, 8, 9, 10, 11, 12, 13, 14, 15, 16, 17, 18, 19] rfl (by decide) (by decide) kx_L_12 ko_X5_init ki_X5 km_X5 rfl (by decide +kernel) ⟨Nat.le_of_ble_eq_true rfl, Nat.le_of_ble_eq_true rfl⟩ ⟨Nat.le_of_ble_eq_true rfl, Nat.le_of_ble_eq_true rfl⟩ hl.1 rfl (Nat.le_of_ble_eq_true rfl) dL_law_12 (fun adR H locs hw hP hD hS => ?_)
  have hwR : adR 0 = q1 := hw
  have hP : va_P D vwCl (cW adC cA s0 ++ rW adR cA s0) H := hP
  have hD : va_D (fun q : Nat => s.heap.size ≤ q) (cW adC cA s0 ++ rW adR cA s0) := hD
  rw [← hwR]
  refine lv_astore_n (lv' := [(2, .ref (adR 0)), (1, .ref (adC 0)), (0, .ref b)]) hx hb dL_law_15 rfl hl (by decide) rfl (fun ls hl => ?_)
  refine lv_iconst (v := 0) hx hb dL_law_16 (by decide) ?_
  refine lv_istore_n (lv' := [(3, .int 0), (2, .ref (adR 0)), (1, .ref (adC 0)), (0, .ref b)]) hx hb dL_law_17 rfl hl (by decide) rfl (fun ls hl => ?_)
  have hPc : va_P D vwCl (cW adC cA s0) H := hP.sub [0, 1, 2, 3, 4, 5, 6, 7, 8, 9, 10, 11, 12, 13, 14, 15, 16, 17, 18, 19] rfl
  have hPr : va_P D vwCl (rW adR cA s0) H := hP.sub [20, 21, 22, 23, 24, 25, 26, 27, 28, 29, 30, 31, 32, 33, 34] rfl
  have hDc : va_D (fun q : Nat => s.heap.size ≤ q) (cW adC cA s0) := hD.sub [0, 1, 2, 3, 4, 5, 6, 7, 8, 9, 10, 11, 12, 13, 14, 15, 16, 17, 18, 19] (by decide) rfl
  have hDr : va_D (fun q : Nat => s.heap.size ≤ q) (rW adR cA s0) := hD.sub [20, 21, 22, 23, 24, 25, 26, 27, 28, 29, 30, 31, 32, 33, 34] (by decide) rfl
  have inC : ∀ q, aC adC q → ∃ (k : Nat) (z : Nat × va_E), k < 20 ∧ (cW adC cA s0)[k]? = some z ∧ z.1 = q := by
    rintro q ⟨k, hk, rfl⟩
    have hlen : k < ((cW adC cA s0).map Prod.fst).length := hk
    have h1 : ((cW adC cA s0).map Prod.fst)[k]? = some (adC k) := by
      rw [cW_map, show [adC 0, adC 1, adC 2, adC 3, adC 4, adC 5, adC 6, adC 7, adC 8, adC 9, adC 10, adC 11, adC 12, adC 13, adC 14, adC 15, adC 16, adC 17, adC 18, adC 19] = (List.range 20).map adC from rfl, List.getElem?_map, List.getElem?_range hk]
      rfl
    rw [List.getElem?_map] at h1
    rcases hz : (cW adC cA s0)[k]? with _ | z
    · rw [hz] at h1; cases h1
    · rw [hz] at h1; exact ⟨k, z, hk, hz, Option.some.inj h1⟩
  have inR : ∀ q, aR adR q → ∃ (k : Nat) (z : Nat × va_E), k < 15 ∧ (rW adR cA s0)[k]? = some z ∧ z.1 = q := by
    rintro q ⟨k, hk, rfl⟩
    have h1 : ((rW adR cA s0).map Prod.fst)[k]? = some (adR k) := by
      rw [rW_map, show [adR 0, adR 1, adR 2, adR 3, adR 4, adR 5, adR 6, adR 7, adR 8, adR 9, adR 10, adR 11, adR 12, adR 13, adR 14] = (List.range 15).map adR from rfl, List.getElem?_map, List.getElem?_range hk]
      rfl
    rw [List.getElem?_map] at h1
    rcases hz : (rW adR cA s0)[k]? with _ | z
    · rw [hz] at h1; cases h1
    · rw [hz] at h1; exact ⟨k, z, hk, hz, Option.some.inj h1⟩
  have X0 : lw_Cx D cA adC adR s := by
    refine ⟨hK, fun u => D_any hDc (by rw [cW_map, cW_map]) (fun k q h => cW_in h), fun u => D_any hDr (by rw [rW_map, rW_map]) (fun k q h => rW_in h), fun q h1 h2 => ?_, fun q h1 => ?_, fun q h1 => ?_⟩
    · obtain ⟨k, z, hk, hz, ez⟩ := inC q h1
      obtain ⟨j, y, hj, hy, ey⟩ := inR q h2
      have e1 : (cW adC cA s0 ++ rW adR cA s0)[k]? = some z := by rw [List.getElem?_append_left (show k < (cW adC cA s0).length from hk)]; exact hz
      have e2 : (cW adC cA s0 ++ rW adR cA s0)[20 + j]? = some y := by rw [List.getElem?_append_right (show (cW adC cA s0).length ≤ 20 + j from Nat.le_add_right 20 j), show 20 + j - (cW adC cA s0).length = j from Nat.add_sub_cancel_left 20 j]; exact hy
      have e3 := hD.1 k (20 + j) z y e1 e2 (by rw [ez, ey])
      omega
    · obtain ⟨k, z, hk, hz, ez⟩ := inC q h1
      rw [← ez]; exact hDc.2 k z hz
    · obtain ⟨k, z, hk, hz, ez⟩ := inR q h1
      rw [← ez]; exact hDr.2 k z hz
  refine W.widen (k := 35) (n := 1665) (Nat.le_of_ble_eq_true rfl) (Nat.le_of_ble_eq_true rfl) ?_
  exact law_loop hL C0 X0 L 0 s0 H _ ls (Nat.zero_le L) (by omega) s0_inv rfl (Nat.zero_le _) hPc hPr hS (lv_sub hl [0, 3, 2, 1] rfl)
