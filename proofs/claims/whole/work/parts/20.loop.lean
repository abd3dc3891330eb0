set_option maxHeartbeats 4000000 in
set_option maxRecDepth 100000 in
theorem law_loop {p : Program} {l : Launch} {e : Env} {s : State} {m : MethodId} {below : List Frame} {meth : Method} {c : Code} {D : va_G} {cA : ClassId} {adC adR : Nat → Nat} {b L : Nat} {xs : Nat → Int32} (hL : L ≤ 2560) (C0 : lw_At p s m meth c b L xs) (X0 : lw_Cx D cA adC adR s) : ∀ (f i : Nat) (σ : CS) (H : Heap) (locs : List Loc) (ls : Array Slot), i ≤ L → L ≤ i + 5 * f → Inv σ → sGr σ = 0 → sBc σ ≤ 60 * i → va_P D vwCl (cW adC cA σ) H → va_P D vwCl (rW adR cA σ) H → va_S (fun q : Nat => s.heap.size ≤ q) s.heap H locs → lv_has ls 4 [(3, .int (nI i)), (0, .ref b), (1, .ref (adC 0)), (2, .ref (adR 0))] → W p l e room_1 s m #[Value.ref b] below meth c H locs 35 1665 (lw_Z below #[Value.ref b] s) (F0 m 18 ls []) := by
  obtain ⟨hx, hb, hr, hml, hown, hts0, hX, hbl, hlocks, hgv⟩ := id C0
  have hbA : ¬ (fun q : Nat => s.heap.size ≤ q) b := Nat.not_le.mpr hbl
  intro f
  induction f with
  | zero =>
    intro i σ H locs ls hiL hLf hI hg hbc hPc hPr hS hl
    refine lv_iload_n hx hb dL_law_18 rfl (lv_at hl 0 rfl) ?_
    refine lv_aload_n hx hb dL_law_19 rfl (lv_at hl 1 rfl) ?_
    refine va_slen hx hb hX hbl hbA hS dL_law_20 ?_
    refine lv_iconst (v := 5) hx hb dL_law_21 (by decide) ?_
    refine lv_isub hx hb dL_law_22 ?_
    refine lv_icmp_gt (tgt := 831) hx hb dL_law_23 (by decide) (fun _ => ?_) (fun c9 => absurd ((lt_sub hL hiL).mpr (by omega)) c9)
    refine lv_iconst (v := 1) hx hb dL_law_831 (by decide) ?_
    refine va_forget (fun q hq => hS.2.2 q hq) ?_
    exact lw_ret hx hb hr hlocks dL_law_832
  | succ f ih =>
    intro i σ H locs ls hiL hLf hI hg hbc hPc hPr hS hl
    refine lv_iload_n hx hb dL_law_18 rfl (lv_at hl 0 rfl) ?_
    refine lv_aload_n hx hb dL_law_19 rfl (lv_at hl 1 rfl) ?_
    refine va_slen hx hb hX hbl hbA hS dL_law_20 ?_
    refine lv_iconst (v := 5) hx hb dL_law_21 (by decide) ?_
    refine lv_isub hx hb dL_law_22 ?_
    refine lv_icmp_gt (tgt := 831) hx hb dL_law_23 (by decide) (fun _ => ?_) (fun ce => ?_)
    · refine lv_iconst (v := 1) hx hb dL_law_831 (by decide) ?_
      refine va_forget (fun q hq => hS.2.2 q hq) ?_
      exact lw_ret hx hb hr hlocks dL_law_832
    · have hi5 : i + 5 ≤ L := Nat.not_lt.mp fun q => ce ((lt_sub hL hiL).mpr q)
      have next : ∀ (σ2 : CS) (H2 : Heap) (locs2 : List Loc) (ls2 : Array Slot), Gd σ σ2 → va_P D vwCl (cW adC cA σ2) H2 → va_P D vwCl (rW adR cA σ2) H2 → va_S (fun q : Nat => s.heap.size ≤ q) s.heap H2 locs2 → lv_has ls2 4 [(3, .int (nI i)), (0, .ref b), (1, .ref (adC 0)), (2, .ref (adR 0))] → W p l e room_1 s m #[Value.ref b] below meth c H2 locs2 35 1665 (lw_Z below #[Value.ref b] s) (F0 m 825 ls2 []) := by
        intro σ2 H2 locs2 ls2 hgd hPc2 hPr2 hS2 hl2
        refine lv_iinc (v := nI (i + 5)) (lv' := [(3, .int (nI (i + 5))), (0, .ref b), (1, .ref (adC 0)), (2, .ref (adR 0))]) hx hb dL_law_825 hl2 (k := 0) rfl (nI_add i 5) (by decide) rfl (fun ls hl => ?_)
        refine lv_goto (tgt := 18) hx hb dL_law_828 (by decide) ?_
        exact ih (i + 5) σ2 H2 locs2 ls hi5 (by omega) hgd.1 hgd.2.1 (by have := hgd.2.2; omega) hPc2 hPr2 hS2 (lv_sub hl [0, 1, 2, 3] rfl)
      refine lv_aload_n hx hb dL_law_26 rfl (lv_at hl 1 rfl) ?_
      refine lv_iload_n hx hb dL_law_27 rfl (lv_at hl 0 rfl) ?_
      refine ld_s hx hb hX hbl hbA hS (j := i) (by omega) hL dL_law_28 ?_
      refine lv_bipush (v := 31) hx hb dL_law_29 (by decide) ?_
      refine lv_iand hx hb dL_law_31 ?_
      obtain ⟨o, ho, eo⟩ := pk_andE (xs i) (m := 31) 5 (by decide)
      refine tp_i (z := nI o) eo ?_
      rcases o23 o with rfl | rfl | rfl | rfl | rfl | rfl | rfl | rfl | rfl | rfl | rfl | rfl | rfl | rfl | rfl | rfl | rfl | rfl | rfl | rfl | rfl | rfl | rfl | ho23
      · refine lv_tableIn (x := nI 0) (off := 108) (tgt := 140) hx hb dL_law_32 (by decide) (by decide) (by decide) (by decide) ?_
        exact lw_c0 hL C0 X0 i σ H locs ls hi5 hI hg hbc hPc hPr hS hl next
      · refine lv_tableIn (x := nI 1) (off := 157) (tgt := 189) hx hb dL_law_32 (by decide) (by decide) (by decide) (by decide) ?_
        exact lw_c1 hL C0 X0 i σ H locs ls hi5 hI hg hbc hPc hPr hS hl next
      · refine lv_tableIn (x := nI 2) (off := 180) (tgt := 212) hx hb dL_law_32 (by decide) (by decide) (by decide) (by decide) ?_
        exact lw_c2 hL C0 X0 i σ H locs ls hi5 hI hg hbc hPc hPr hS hl next
      · refine lv_tableIn (x := nI 3) (off := 223) (tgt := 255) hx hb dL_law_32 (by decide) (by decide) (by decide) (by decide) ?_
        exact lw_c3 hL C0 X0 i σ H locs ls hi5 hI hg hbc hPc hPr hS hl next
      · refine lv_tableIn (x := nI 4) (off := 256) (tgt := 288) hx hb dL_law_32 (by decide) (by decide) (by decide) (by decide) ?_
        exact lw_c4 hL C0 X0 i σ H locs ls hi5 hI hg hbc hPc hPr hS hl next
      · refine lv_tableIn (x := nI 5) (off := 289) (tgt := 321) hx hb dL_law_32 (by decide) (by decide) (by decide) (by decide) ?_
        exact lw_c5 hL C0 X0 i σ H locs ls hi5 hI hg hbc hPc hPr hS hl next
      · refine lv_tableIn (x := nI 6) (off := 322) (tgt := 354) hx hb dL_law_32 (by decide) (by decide) (by decide) (by decide) ?_
        exact lw_c6 hL C0 X0 i σ H locs ls hi5 hI hg hbc hPc hPr hS hl next
      · refine lv_tableIn (x := nI 7) (off := 365) (tgt := 397) hx hb dL_law_32 (by decide) (by decide) (by decide) (by decide) ?_
        exact lw_c7 hL C0 X0 i σ H locs ls hi5 hI hg hbc hPc hPr hS hl next
      · refine lv_tableIn (x := nI 8) (off := 398) (tgt := 430) hx hb dL_law_32 (by decide) (by decide) (by decide) (by decide) ?_
        exact lw_c8 hL C0 X0 i σ H locs ls hi5 hI hg hbc hPc hPr hS hl next
      · refine lv_tableIn (x := nI 9) (off := 421) (tgt := 453) hx hb dL_law_32 (by decide) (by decide) (by decide) (by decide) ?_
        exact lw_c9 hL C0 X0 i σ H locs ls hi5 hI hg hbc hPc hPr hS hl next
      · refine lv_tableIn (x := nI 10) (off := 444) (tgt := 476) hx hb dL_law_32 (by decide) (by decide) (by decide) (by decide) ?_
        exact lw_c10 hL C0 X0 i σ H locs ls hi5 hI hg hbc hPc hPr hS hl next
      · refine lv_tableIn (x := nI 11) (off := 487) (tgt := 519) hx hb dL_law_32 (by decide) (by decide) (by decide) (by decide) ?_
        exact lw_c11 hL C0 X0 i σ H locs ls hi5 hI hg hbc hPc hPr hS hl next
      · refine lv_tableIn (x := nI 12) (off := 530) (tgt := 562) hx hb dL_law_32 (by decide) (by decide) (by decide) (by decide) ?_
        exact lw_c12 hL C0 X0 i σ H locs ls hi5 hI hg hbc hPc hPr hS hl next
      · refine lv_tableIn (x := nI 13) (off := 573) (tgt := 605) hx hb dL_law_32 (by decide) (by decide) (by decide) (by decide) ?_
        exact lw_c13 hL C0 X0 i σ H locs ls hi5 hI hg hbc hPc hPr hS hl next
      · refine lv_tableIn (x := nI 14) (off := 626) (tgt := 658) hx hb dL_law_32 (by decide) (by decide) (by decide) (by decide) ?_
        exact lw_c14 hL C0 X0 i σ H locs ls hi5 hI hg hbc hPc hPr hS hl next
      · refine lv_tableIn (x := nI 15) (off := 639) (tgt := 671) hx hb dL_law_32 (by decide) (by decide) (by decide) (by decide) ?_
        exact lw_c15 hL C0 X0 i σ H locs ls hi5 hI hg hbc hPc hPr hS hl next
      · refine lv_tableIn (x := nI 16) (off := 662) (tgt := 694) hx hb dL_law_32 (by decide) (by decide) (by decide) (by decide) ?_
        exact lw_c16 hL C0 X0 i σ H locs ls hi5 hI hg hbc hPc hPr hS hl next
      · refine lv_tableIn (x := nI 17) (off := 695) (tgt := 727) hx hb dL_law_32 (by decide) (by decide) (by decide) (by decide) ?_
        exact lw_c17 hL C0 X0 i σ H locs ls hi5 hI hg hbc hPc hPr hS hl next
      · refine lv_tableIn (x := nI 18) (off := 718) (tgt := 750) hx hb dL_law_32 (by decide) (by decide) (by decide) (by decide) ?_
        exact lw_c18 hL C0 X0 i σ H locs ls hi5 hI hg hbc hPc hPr hS hl next
      · refine lv_tableIn (x := nI 19) (off := 731) (tgt := 763) hx hb dL_law_32 (by decide) (by decide) (by decide) (by decide) ?_
        exact lw_c19 hL C0 X0 i σ H locs ls hi5 hI hg hbc hPc hPr hS hl next
      · refine lv_tableIn (x := nI 20) (off := 754) (tgt := 786) hx hb dL_law_32 (by decide) (by decide) (by decide) (by decide) ?_
        exact lw_c20 hL C0 X0 i σ H locs ls hi5 hI hg hbc hPc hPr hS hl next
      · refine lv_tableIn (x := nI 21) (off := 767) (tgt := 799) hx hb dL_law_32 (by decide) (by decide) (by decide) (by decide) ?_
        exact lw_c21 hL C0 X0 i σ H locs ls hi5 hI hg hbc hPc hPr hS hl next
      · refine lv_tableIn (x := nI 22) (off := 780) (tgt := 812) hx hb dL_law_32 (by decide) (by decide) (by decide) (by decide) ?_
        exact lw_c22 hL C0 X0 i σ H locs ls hi5 hI hg hbc hPc hPr hS hl next
      · refine lv_tableOut (tgt := 825) hx hb dL_law_32 (Or.inr (by rw [nI_toInt (by omega)]; omega)) (by decide) ?_
        exact next σ H locs ls (Gd.rf hI hg) hPc hPr hS hl
