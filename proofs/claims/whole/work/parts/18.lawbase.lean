/-! THE CLAIM OUT OF ONE WALK OF THE LAW'S BODY. Your part is whole_start (and what it stands on); all else here is the same for every law, but numbers. -/
def R_law : String := "VaultHandsLaw"
def lw_P (b : Addr) (xs : List Int32) (args : Array Value) (s : State) : Prop := args = #[.ref b] ∧ s.IntsAt b xs ∧ xs.length ≤ 2560 ∧ (Jvm.Cond.and given_1 narrow_1).before args s = true
def lw_Q (_ : Array Value) (s : State) (o : Outcome) (t : State) : Prop := o = .returned (some (.int 1)) ∧ Framed s o t [] 35 1665
def lw_Z (below : List Frame) (a : Array Value) (s : State) : State → Prop := fun t => ∃ o, t.status = .running ∧ Ended t below o ∧ lw_Q a s o t
/-- the law's own end, with 1 on the stack, nothing written that was there before, its room as the claim has it -/
theorem lw_ret {p : Program} {l : Launch} {e : Env} {s : State} {m : MethodId} {below : List Frame} {meth : Method} {c : Code} {b : Nat} (hx : p.tables.exec = Jvm.exec) (hb : c.code = code) (hr : meth.sig.returnType = ret) (hlocks : meth.locks = false) {pc : Nat} {H : Heap} {ls : Array Slot} (hdg : decode code pc = .ok (.ireturn, 1)) : W p l e room_1 s m #[Value.ref b] below meth c H [] 35 1665 (lw_Z below #[Value.ref b] s) (F0 m pc ls [.int 1]) := by
  intro T hT X
  obtain ⟨fs, hret, hrun, hended, hW, hframe⟩ := X.leave (v := some (.int 1)) (hlocks := hlocks) (fun h => by rw [hr] at h; cases h)
  have hmeth' : T.vm.method? m = some meth := X.method'
  refine ⟨T.setFrames fs, ?_, .returned (some (.int 1)), hrun, hended, rfl, ⟨_, rfl⟩, hW, hframe⟩
  jvm_step X.here [X.here.top, hx, hb, hdg, hmeth', hr, ret, narrow_b1]
  (try refine ⟨rfl, ?_⟩); (try refine ⟨rfl, ?_⟩)
  first | (intro acts; rw [hret _ acts rfl rfl rfl]) | rw [hret _ _ rfl rfl rfl]
  exact Steps.refl _
/-- what holds at the law's entry: the machine, the code, the tables' words (any of lw_tbl by 'hts w (by decide +kernel)'), the script of L ints xs at the cell b, what the Statement gives of the start (any of its parts by flat_of_before) -/
def lw_At (p : Program) (s : State) (m : MethodId) (meth : Method) (c : Code) (b L : Nat) (xs : Nat → Int32) : Prop :=
  p.tables.exec = Jvm.exec ∧ c.code = code ∧ meth.sig.returnType = ret ∧ c.maxLocals = 4 ∧ s.vm.findClass R_law = some m.cls ∧ (∀ w ∈ lw_tbl, w.before #[Value.ref b] s = true) ∧ va_X b L xs s s.heap ∧ b < s.heap.size ∧ meth.locks = false ∧ (Jvm.Cond.and given_1 narrow_1).before #[Value.ref b] s = true

def aC (ad : Nat → Nat) : Nat → Prop := fun q => ∃ k, k < 20 ∧ q = ad k
def aR (ad : Nat → Nat) : Nat → Prop := fun q => ∃ k, k < 15 ∧ q = ad k
theorem cW_map (ad : Nat → Nat) (cA : ClassId) (σ : CS) : (cW ad cA σ).map Prod.fst = [ad 0, ad 1, ad 2, ad 3, ad 4, ad 5, ad 6, ad 7, ad 8, ad 9, ad 10, ad 11, ad 12, ad 13, ad 14, ad 15, ad 16, ad 17, ad 18, ad 19] := rfl
theorem rW_map (ad : Nat → Nat) (cA : ClassId) (σ : CS) : (rW ad cA σ).map Prod.fst = [ad 0, ad 1, ad 2, ad 3, ad 4, ad 5, ad 6, ad 7, ad 8, ad 9, ad 10, ad 11, ad 12, ad 13, ad 14] := rfl
theorem in20 {ad : Nat → Nat} {q : Nat} (h : q ∈ [ad 0, ad 1, ad 2, ad 3, ad 4, ad 5, ad 6, ad 7, ad 8, ad 9, ad 10, ad 11, ad 12, ad 13, ad 14, ad 15, ad 16, ad 17, ad 18, ad 19]) : ∃ k, k < 20 ∧ q = ad k := by
  have e : [ad 0, ad 1, ad 2, ad 3, ad 4, ad 5, ad 6, ad 7, ad 8, ad 9, ad 10, ad 11, ad 12, ad 13, ad 14, ad 15, ad 16, ad 17, ad 18, ad 19] = (List.range 20).map ad := rfl
  rw [e] at h
  obtain ⟨k, hk, rfl⟩ := List.mem_map.mp h
  exact ⟨k, List.mem_range.mp hk, rfl⟩
theorem in15 {ad : Nat → Nat} {q : Nat} (h : q ∈ [ad 0, ad 1, ad 2, ad 3, ad 4, ad 5, ad 6, ad 7, ad 8, ad 9, ad 10, ad 11, ad 12, ad 13, ad 14]) : ∃ k, k < 15 ∧ q = ad k := by
  have e : [ad 0, ad 1, ad 2, ad 3, ad 4, ad 5, ad 6, ad 7, ad 8, ad 9, ad 10, ad 11, ad 12, ad 13, ad 14] = (List.range 15).map ad := rfl
  rw [e] at h
  obtain ⟨k, hk, rfl⟩ := List.mem_map.mp h
  exact ⟨k, List.mem_range.mp hk, rfl⟩
theorem cW_in {ad : Nat → Nat} {cA : ClassId} {σ : CS} {k : Nat} {q : Nat × va_E} (h : (cW ad cA σ)[k]? = some q) : aC ad q.1 := by
  have h1 : q.1 ∈ (cW ad cA σ).map Prod.fst := List.mem_map.mpr ⟨q, List.mem_of_getElem? h, rfl⟩
  rw [cW_map] at h1
  exact in20 h1
theorem rW_in {ad : Nat → Nat} {cA : ClassId} {σ : CS} {k : Nat} {q : Nat × va_E} (h : (rW ad cA σ)[k]? = some q) : aR ad q.1 := by
  have h1 : q.1 ∈ (rW ad cA σ).map Prod.fst := List.mem_map.mpr ⟨q, List.mem_of_getElem? h, rfl⟩
  rw [rW_map] at h1
  exact in15 h1
theorem D_any {A B : Nat → Prop} {ws ws' : va_W} (h : va_D A ws) (hm : ws'.map Prod.fst = ws.map Prod.fst) (hB : ∀ (k : Nat) (q : Nat × va_E), ws'[k]? = some q → B q.1) : va_D B ws' := by
  have at' : ∀ (i : Nat) (p : Nat × va_E), ws'[i]? = some p → ∃ p2, ws[i]? = some p2 ∧ p2.1 = p.1 := by
    intro i p hp
    have h1 : (ws'.map Prod.fst)[i]? = some p.1 := by rw [List.getElem?_map, hp]; rfl
    rw [hm, List.getElem?_map] at h1
    rcases hw : ws[i]? with _ | p2
    · rw [hw] at h1; cases h1
    · rw [hw] at h1; exact ⟨p2, rfl, Option.some.inj h1⟩
  refine ⟨fun i j p q hi hj e => ?_, hB⟩
  obtain ⟨p2, h1, e1⟩ := at' i p hi
  obtain ⟨q2, h2, e2⟩ := at' j q hj
  exact h.1 i j p2 q2 h1 h2 (by rw [e1, e2, e])
theorem keepW {D : va_G} {ws : va_W} {H H1 : Heap} {A1 : Nat → Prop} (hP : va_P D vwCl ws H) (hk : ∀ q : Nat, q < H.size → ¬ A1 q → H1[q]? = H[q]?) (hd : ∀ (k : Nat) (q : Nat × va_E), ws[k]? = some q → ¬ A1 q.1) : va_P D vwCl ws H1 := hP.kept (fun k q h => hk q.1 ((hP k q h).lt) (hd k q h))
theorem lt_sub {L i : Nat} (hL : L ≤ 2560) (hi : i ≤ L) : Int32.ofNat L - 5 < nI i ↔ L < i + 5 := by
  have e1 : (nI L - nI 5).toInt = (L : Int) - 5 := pk_sub_toInt (by omega) (by omega)
  have e2 : (nI i).toInt = (i : Int) := nI_toInt (by omega)
  rw [Int32.lt_iff_toInt_lt]
  show (nI L - nI 5).toInt < (nI i).toInt ↔ _
  rw [e1, e2]
  omega
theorem o23 (o : Nat) : o = 0 ∨ o = 1 ∨ o = 2 ∨ o = 3 ∨ o = 4 ∨ o = 5 ∨ o = 6 ∨ o = 7 ∨ o = 8 ∨ o = 9 ∨ o = 10 ∨ o = 11 ∨ o = 12 ∨ o = 13 ∨ o = 14 ∨ o = 15 ∨ o = 16 ∨ o = 17 ∨ o = 18 ∨ o = 19 ∨ o = 20 ∨ o = 21 ∨ o = 22 ∨ 23 ≤ o := by omega
section LS
variable {p : Program} {l : Launch} {e : Env} {s : State} {m : MethodId} {below : List Frame} {meth : Method} {c : Code} {H : Heap} {locs : List Loc} {cells slots : Nat} {Q : State → Prop} {R : Room} {args : Array Value} {pc : Nat} {ls : Array Slot} {rest : List Value} {A : Nat → Prop} {H0 : Heap} {cc : ByteArray}
theorem ld_s (hx : p.tables.exec = Jvm.exec) (hb : c.code = cc) {b L : Nat} {xs : Nat → Int32} (hX : va_X b L xs s H0) (hbl : b < H0.size) (hbA : ¬ A b) (hS : va_S A H0 H locs) {j : Nat} (hj : j < L) (hL : L ≤ 2560) (hdg : decode cc pc = .ok (.iaload, 1))
    (kk : W p l e R s m args below meth c H locs cells slots Q (F0 m (pc + 1) ls (.int (xs j) :: rest))) : W p l e R s m args below meth c H locs cells slots Q (F0 m pc ls (.int (nI j) :: .ref b :: rest)) := by
  refine va_sld hx hb hX hbl hbA hS (vp_in_nI hj (by omega)) hdg ?_
  rw [nI_clamp (by omega)]
  exact kk
end LS
/-- what the law's cases share: the machine, the script, the two worlds' places -/
def lw_Cx (D : va_G) (cA : ClassId) (adC adR : Nat → Nat) (s : State) : Prop := va_K D vwCl [(cA, .int)] s ∧ (∀ u, va_D (aC adC) (cW adC cA u)) ∧ (∀ u, va_D (aR adR) (rW adR cA u)) ∧ (∀ q, aC adC q → ¬ aR adR q) ∧ (∀ q, aC adC q → s.heap.size ≤ q) ∧ (∀ q, aR adR q → s.heap.size ≤ q)
