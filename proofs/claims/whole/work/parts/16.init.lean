-- CONSTRUCTORS
section NW
variable {p : Program} {l : Launch} {e : Env} {R : Room} {s : State} {m : MethodId} {args : Array Value} {below : List Frame} {meth : Method} {c : Code} {H : Heap} {locs : List Loc} {cells slots : Nat} {Q : State → Prop}
variable {pc : Nat} {ls : Array Slot} {rest : List Value} {A : Nat → Prop} {H0 : Heap} {D : va_G} {cA : ClassId} {cc : ByteArray} {ws : va_W}
/-- a new int array, of the kind that is known -/
theorem nw_a (hx : p.tables.exec = Jvm.exec) (hb : c.code = cc) (hts : ∀ w ∈ TG, w.before args s = true) (hK : va_K D vwCl [(cA, .int)] s) (hP : va_P D vwCl ws H) (hD : va_D A ws) (hS : va_S A H0 H locs) (hA : ∀ q, H0.size ≤ q → A q)
    {n : Int32} {N : Nat} (hn : ¬ n < 0) (hN : n.toNatClampNeg = N) (hbytes : N * componentBytes .int ≤ 536870912) (hcells : cells + 1 ≤ R.cells) (hslots : slots + N ≤ R.slots) (hdg : decode cc pc = .ok (.newarray .int, 2))
    (kk : ∀ (q : Nat) (H1 : Heap), va_P D vwCl (ws ++ [(q, .inl (cA, N, .inl z0))]) H1 → va_D A (ws ++ [(q, .inl (cA, N, .inl z0))]) → va_S A H0 H1 locs →
      W p l e R s m args below meth c H1 locs (cells + 1) (slots + N) Q (F0 m (pc + 2) ls (.ref q :: rest))) : W p l e R s m args below meth c H locs cells slots Q (F0 m pc ls (.int n :: rest)) := by
  refine va_newa (atype := .int) (a0 := (N, .inl z0)) (ty := .int) hx hb (show (Cond.arrayClass (newarray.typeOf .int)).before args s = true from hts _ ka_int) rfl hK hP hD hS hA (fun _ => rfl) hn hN hbytes hcells hslots hdg (fun q c2 H1 hK2 hP2 hD2 hS2 => ?_)
  have e1 : s.vm.findClass "[I" = some cA := va_nm_int (hK.2 0 _ rfl).2
  have e2 : s.vm.findClass "[I" = some c2 := va_nm_int (hK2.2 1 _ rfl).2
  have e3 : c2 = cA := Option.some.inj (e2.symm.trans e1)
  subst e3
  exact kk q H1 hP2 hD2 hS2
end NW
theorem D_one {h0 sz : Nat} {x : va_E} : va_D (va_A [(h0, x)] sz) [(h0, x)] := by
  refine ⟨fun i j p q hi hj _ => ?_, fun k q hk => va_A.in hk⟩
  have h1 : i < 1 := (List.getElem?_eq_some_iff.mp hi).1
  have h2 : j < 1 := (List.getElem?_eq_some_iff.mp hj).1
  omega
/-- a constructor's contract: one new object h0 with its default fields comes in, a world of it goes out -/
abbrev Cn (l : Launch) (D : va_G) (cA : ClassId) {S : Type} (Wd : S → va_W) (Ns : List Cond) (y : MethodName) (cy : ByteArray) (n fr mc ms lo : Nat) (h0 sz : Nat) (x : va_E) (post : S → Prop) : Prop :=
  Met l y (mw y cy n none) { frames := fr, cells := mc, slots := ms, locals := lo } (va_Pc [.ref h0] (fun U => U.heap.size = sz ∧ va_P D vwCl [(h0, x)] U.heap ∧ va_K D vwCl [(cA, .int)] U ∧ ∀ w ∈ Ns, va_Nw w U)) (va_Qv post (fun u t => va_P D vwCl (Wd u) t.heap ∧ va_D (va_A [(h0, x)] sz) (Wd u)) (va_A [(h0, x)] sz)) mc ms (va_A [(h0, x)] sz)
theorem Cn.of {l : Launch} {D : va_G} {cA : ClassId} {S : Type} {Wd : S → va_W} {Ns : List Cond} {y : MethodName} {cy : ByteArray} {n fr mc ms lo h0 sz : Nat} {x : va_E} {post : S → Prop} (hy : plainName y.cls = true) (hn : 1 ≤ n) (hnm : y.name = "<init>")
    (body : ∀ (p : Program) (e : Env) (s : State) (m : MethodId) (below : List Frame) (meth : Method) (c : Code) (ls : Array Slot), s.heap.size = sz → CallFix p m c cy n s #[Value.ref h0] TG y.cls → meth.sig.returnType = none → meth.locks = false → meth.name = "<init>" → va_K D vwCl [(cA, .int)] s → (∀ w ∈ Ns, va_Nw w s) → va_P D vwCl [(h0, x)] s.heap → va_D (va_A [(h0, x)] sz) [(h0, x)] → (∀ q, s.heap.size ≤ q → va_A [(h0, x)] sz q) → va_S (va_A [(h0, x)] sz) s.heap s.heap [] → lv_has ls n [(0, .ref h0)] →
      W p l e { frames := fr, cells := mc, slots := ms, locals := lo } s m #[Value.ref h0] below meth c s.heap [] 0 0 (MQ below (va_Qv post (fun u t => va_P D vwCl (Wd u) t.heap ∧ va_D (va_A [(h0, x)] sz) (Wd u)) (va_A [(h0, x)] sz)) #[Value.ref h0] s mc ms (va_A [(h0, x)] sz)) (F0 m 0 ls [])) : Cn l D cA Wd Ns y cy n fr mc ms lo h0 sz x post := by
  refine Met.ofW (cc := cy) (maxL := n) (ret := none) hy rfl ?_
  intro p e s m args below meth c s₁ B hml hv
  obtain ⟨rfl, hsz, hP, hK, hN⟩ := hv
  have hts := atoms_spec (ws := mw y cy n none) B.pre
  have hown : s.vm.findClass y.cls = some m.cls := findClass_of_methodNamed B.named
  have hin : meth.name = "<init>" := (name_of_methodNamed B.named B.method).1.trans hnm
  have hl := lv_entry [Value.ref h0] (n := n) hn
  rw [lg_entry_eq]
  exact body p e s m below meth c _ hsz ⟨B.exec, B.bytes, hml, hown, fun w h => hts w (List.mem_cons_of_mem _ h)⟩ B.returns B.notSynchronized hin hK hN hP D_one (fun q h => Or.inr (by rw [← hsz]; exact h)) va_S.rf hl
theorem rt_n {p : Program} {l : Launch} {e : Env} {R : Room} {s : State} {m : MethodId} {args : Array Value} {below : List Frame} {meth : Method} {c : Code} {H : Heap} {locs : List Loc} {cells slots : Nat} {pc : Nat} {ls : Array Slot} {A : Nat → Prop} {D : va_G} {cc : ByteArray} {S : Type} {Wd : S → va_W} {u : S} {post : S → Prop} (hx : p.tables.exec = Jvm.exec) (hb : c.code = cc) (hr : meth.sig.returnType = none) (hlocks : meth.locks = false) (hS : va_S A s.heap H locs) (hP : va_P D vwCl (Wd u) H) (hD : va_D A (Wd u)) (hw : post u) (hdg : decode cc pc = .ok (.return_, 1)) :
    W p l e R s m args below meth c H locs cells slots (MQ below (va_Qv post (fun u t => va_P D vwCl (Wd u) t.heap ∧ va_D A (Wd u)) A) args s cells slots A) (F0 m pc ls []) :=
  W.vret hx hb hr (fun t ht hW => ⟨⟨u, rfl, hw, by show va_P D vwCl (Wd u) t.heap; rw [ht]; exact hP, hD⟩, hS.F ht⟩) hS.2.2 hdg hlocks
def wB0 (cA : ClassId) (h0 q : Nat) : va_W := [(h0, .inr (0, [.ref q, .int 0])), (q, .inl (cA, 400, .inl z0))]
def wK0 (cA : ClassId) (h0 : Nat) (u : Nat × Nat × Nat × Nat) : va_W := [(h0, .inr (1, [.ref u.1, .ref u.2.1, .ref u.2.2.1, .ref u.2.2.2, .int 0])), (u.1, .inl (cA, 40, .inl z0)), (u.2.1, .inl (cA, 40, .inl z0)), (u.2.2.1, .inl (cA, 40, .inl z0)), (u.2.2.2, .inl (cA, 40, .inl z0))]
def wT0 (cA : ClassId) (h0 : Nat) (u : Nat × Nat × Nat × Nat) : va_W := [(h0, .inr (2, [.ref u.1, .ref u.2.1, .ref u.2.2.1, .ref u.2.2.2, .int 0])), (u.1, .inl (cA, 32, .inl z0)), (u.2.1, .inl (cA, 32, .inl z0)), (u.2.2.1, .inl (cA, 32, .inl z0)), (u.2.2.2, .inl (cA, 32, .inl z0))]
def wV0 (cA : ClassId) (h0 : Nat) (u : Nat × Nat × Nat × Nat × Nat) : va_W := [(h0, .inr (3, [.ref u.1, .ref u.2.1, .ref u.2.2.1, .ref u.2.2.2.1, .ref u.2.2.2.2, .int 0])), (u.1, .inl (cA, 12, .inl z0)), (u.2.1, .inl (cA, 12, .inl z0)), (u.2.2.1, .inl (cA, 12, .inl z0)), (u.2.2.2.1, .inl (cA, 12, .inl z0)), (u.2.2.2.2, .inl (cA, 12, .inl z0))]
theorem mw_good {y : MethodName} {cy : ByteArray} {n : Nat} {ret : Option FieldType} (h : Cond.code y cy n ret ∈ TG) : GoodIn TG (mw y cy n ret) := tg_good (fun w hw => (List.mem_cons.mp hw).elim (fun e => e ▸ h) id)
section CN
variable {p : Program} {l : Launch} {e : Env} {R : Room} {s : State} {m : MethodId} {args : Array Value} {below : List Frame} {meth : Method} {c : Code} {H : Heap} {locs : List Loc} {cells slots : Nat} {Q : State → Prop}
variable {pc : Nat} {ls : Array Slot} {rest st : List Value} {A0 : Nat → Prop} {H0 : Heap} {D : va_G} {cA : ClassId} {cc cy : ByteArray} {y : MethodName} {n nL idx fr lo mc ms : Nat} {own host : String} {b : Addr} {ws wr : va_W} {x : va_E}
theorem blind_n {Ns : List Cond} {sz : Nat} (hNs : ∀ w ∈ Ns, ∃ (a : String) (i : Nat) (z : MethodName) (h : String), w = .methodLinkNest a i z h) : FrameBlind (va_Pc [.ref b] (fun U => U.heap.size = sz ∧ va_P D vwCl [(b, x)] U.heap ∧ va_K D vwCl [(cA, .int)] U ∧ ∀ w ∈ Ns, va_Nw w U)) := by
  intro a U g mk q
  obtain ⟨q0, q1, qP, qK, qN⟩ := q
  refine ⟨q0, q1, qP, va_K.moved (u := U) (U := U.calling g mk a) (Vm.Alike.refl U.vm) qK, fun w hw => ?_⟩
  obtain ⟨a1, i1, z1, h1, rfl⟩ := hNs w hw
  exact va_Nw.same (u := U) rfl rfl (qN _ hw)
theorem one_P {k : Nat} (hP : va_P D vwCl ws H) (hk : ws[k]? = some (b, x)) : va_P D vwCl [(b, x)] H := by
  intro j q hj
  have h1 : j < 1 := (List.getElem?_eq_some_iff.mp hj).1
  rw [show j = 0 by omega] at hj
  cases hj
  exact hP k _ hk
/-- a nested constructor is called on the cell k -/
theorem cl_n {S : Type} {Wd : S → va_W} {post : S → Prop} (k : Nat) (hM : Cn l D cA Wd [] y cy n fr mc ms lo b H.size x post) (S0 : CallFix p m c cc nL s args TG own) (hK : va_K D vwCl [(cA, .int)] s) (hP : va_P D vwCl ws H) (hD : va_D A0 ws) (hS : va_S A0 H0 H locs) (hA : ∀ q, H0.size ≤ q → A0 q) (hk : ws[k]? = some (b, x)) (isR : List Nat) (hRr : isR.map (fun i => ws[i]?) = wr.map some) (hnd : va_nd isR = true) (hdis : ∀ i ∈ isR, i ∉ [k])
    (hl : va_Nw (.methodLinkNest own idx y host) s) (hcode : Cond.code y cy n none ∈ TG) (hini : Cond.initialized y.cls ∈ TG) (him : Cond.instanceMethod y ∈ TG) (hy : y.name = "<init>") (hd : y.cls ≠ "java/lang/invoke/MethodHandle" ∧ y.cls ≠ "java/lang/invoke/VarHandle" ∧ (parseMethodDescriptor y.desc).map (fun d => d.parameters.length) = some 0)
    (hR : fr + 1 ≤ R.frames ∧ 8 + (n + 11) + lo ≤ R.locals) (hf : cells + mc ≤ R.cells ∧ slots + ms ≤ R.slots) (hsz : ls.size = nL) (hst : st = .ref b :: rest) (hW : (rest.map fun v => v.category).sum ≤ 8) (hdg : decode cc pc = .ok (.invokespecial idx, 3))
    (kk : ∀ (u : S) (H1 : Heap) (locs1 : List Loc), post u → va_P D vwCl (wr ++ Wd u) H1 → va_D A0 (wr ++ Wd u) → va_S A0 H0 H1 locs1 → W p l e R s m args below meth c H1 locs1 (cells + mc) (slots + ms) Q (F0 m (pc + 3) ls rest)) : W p l e R s m args below meth c H locs cells slots Q (F0 m pc ls st) := by
  have hC : [k].map (fun i => ws[i]?) = [(b, x)].map some := by show [ws[k]?] = [some (b, x)]; rw [hk]
  have hPc := one_P hP hk
  have hFc := va_free (wc := [(b, x)]) hD hS hA [k] hC
  refine va_callv (va_runIN (As := []) (rest := rest) S0 hM ⟨va_cnB 0 S0.2.2.2.2 (mw_good hcode) rfl rfl rfl hl (S0.2.2.2.2 _ hini) hd hR, hy, S0.2.2.2.2 _ him⟩ ⟨blind_n (fun w h => absurd h List.not_mem_nil), fun U hU hWm => ⟨rfl, by rw [hU], by rw [hU]; exact hPc, va_K.moved hWm.alike hK, fun w h => absurd h List.not_mem_nil⟩⟩ rfl rfl hsz hst (lv_room hW) hdg hf) hS (fun q _ h => hFc q h) hFc (fun u t H1 locs1 ht hvm hw hB hz1 hk1 hS1 => ?_)
  subst ht
  obtain ⟨hP1, hD1⟩ := hB
  obtain ⟨hP2, hD2⟩ := va_join hP hD [k] isR hC hRr hnd hdis hk1 hFc hP1 hD1
  exact kk u _ _ hw hP2 hD2 hS1
/-- a plain constructor call -/
theorem cl_c {S : Type} {Wd : S → va_W} {post : S → Prop} {Ns : List Cond} (hNs : ∀ w ∈ Ns, ∃ (a : String) (i : Nat) (z : MethodName) (h : String), w = .methodLinkNest a i z h) (hN : ∀ w ∈ Ns, va_Nw w s) (k : Nat) (hM : Cn l D cA Wd Ns y cy n fr mc ms lo b H.size x post) (S0 : CallFix p m c cc nL s args TG own) (hK : va_K D vwCl [(cA, .int)] s) (hP : va_P D vwCl ws H) (hD : va_D A0 ws) (hS : va_S A0 H0 H locs) (hA : ∀ q, H0.size ≤ q → A0 q) (hk : ws[k]? = some (b, x)) (isR : List Nat) (hRr : isR.map (fun i => ws[i]?) = wr.map some) (hnd : va_nd isR = true) (hdis : ∀ i ∈ isR, i ∉ [k])
    (hl : Cond.methodLink own idx y ∈ TG) (hcode : Cond.code y cy n none ∈ TG) (hini : Cond.initialized y.cls ∈ TG) (him : Cond.instanceMethod y ∈ TG) (hy : y.name = "<init>") (hd : y.cls ≠ "java/lang/invoke/MethodHandle" ∧ y.cls ≠ "java/lang/invoke/VarHandle" ∧ (parseMethodDescriptor y.desc).map (fun d => d.parameters.length) = some 0)
    (hR : fr + 1 ≤ R.frames ∧ 8 + (n + 11) + lo ≤ R.locals) (hf : cells + mc ≤ R.cells ∧ slots + ms ≤ R.slots) (hsz : ls.size = nL) (hst : st = .ref b :: rest) (hW : (rest.map fun v => v.category).sum ≤ 8) (hdg : decode cc pc = .ok (.invokespecial idx, 3))
    (kk : ∀ (u : S) (H1 : Heap) (locs1 : List Loc), post u → va_P D vwCl (wr ++ Wd u) H1 → va_D A0 (wr ++ Wd u) → va_S A0 H0 H1 locs1 → W p l e R s m args below meth c H1 locs1 (cells + mc) (slots + ms) Q (F0 m (pc + 3) ls rest)) : W p l e R s m args below meth c H locs cells slots Q (F0 m pc ls st) := by
  have hC : [k].map (fun i => ws[i]?) = [(b, x)].map some := by show [ws[k]?] = [some (b, x)]; rw [hk]
  have hPc := one_P hP hk
  have hFc := va_free (wc := [(b, x)]) hD hS hA [k] hC
  refine va_callv (va_runI (As := []) (rest := rest) S0 hM (cwI 0 S0.2.2.2.2 (mw_good hcode) rfl rfl rfl (S0.2.2.2.2 _ hini) (S0.2.2.2.2 _ hl) (S0.2.2.2.2 _ him) hy hd hR) ⟨blind_n hNs, fun U hU hWm => ⟨rfl, by rw [hU], by rw [hU]; exact hPc, va_K.moved hWm.alike hK, fun w h => ?_⟩⟩ rfl rfl hsz hst (lv_room hW) hdg hf) hS (fun q _ h => hFc q h) hFc (fun u t H1 locs1 ht hvm hw hB hz1 hk1 hS1 => ?_)
  · obtain ⟨a1, i1, z1, h1, rfl⟩ := hNs w h
    exact va_Nw.warmM hWm (hN _ h)
  · subst ht
    obtain ⟨hP1, hD1⟩ := hB
    obtain ⟨hP2, hD2⟩ := va_join hP hD [k] isR hC hRr hnd hdis hk1 hFc hP1 hD1
    exact kk u _ _ hw hP2 hD2 hS1
end CN
