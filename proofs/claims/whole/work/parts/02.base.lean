-- one list of words for all methods: the tables' words that outlast a call
def TG : List Cond := lw_tbl.filter goodWord
theorem tg_sub : ∀ w ∈ TG, w ∈ lw_tbl := fun w h => (List.mem_filter.mp h).1
theorem tg_in {w : Cond} (i : Nat) (h : lw_tbl[i]? = some w) (hg : goodWord w = true) : w ∈ TG := List.mem_filter.mpr ⟨List.mem_of_getElem? h, hg⟩
theorem tg_good {ws : List Cond} (h : ∀ w ∈ ws, w ∈ TG) : GoodIn TG ws := fun w hw => ⟨h w hw, good_of_word (List.mem_filter.mp (h w hw)).2⟩
/-- a method's words -/
abbrev mw (y : MethodName) (cy : ByteArray) (n : Nat) (ret : Option FieldType) : List Cond := Cond.code y cy n ret :: TG
/-- a contract over a world Wd of a state: one state in, an int and a state out; nothing made, nothing written but in A -/
abbrev Ct (l : Launch) (D : va_G) (cA : ClassId) {S : Type} (Wd : S → va_W) (A : Nat → Prop) (y : MethodName) (cy : ByteArray) (n : Nat) (ret : Option FieldType) (fr lo : Nat) (av : List Value) (σ : S) (post : Int32 → S → Prop) : Prop :=
  Met l y (mw y cy n ret) { frames := fr, cells := 0, slots := 0, locals := lo } (va_Pc av (fun U => va_P D vwCl (Wd σ) U.heap ∧ va_K D vwCl [(cA, .int)] U)) (va_Qi post (fun u t => va_P D vwCl (Wd u) t.heap) A) 0 0 A
/-- the same, void -/
abbrev Cv (l : Launch) (D : va_G) (cA : ClassId) {S : Type} (Wd : S → va_W) (A : Nat → Prop) (y : MethodName) (cy : ByteArray) (n : Nat) (fr lo : Nat) (av : List Value) (σ : S) (post : S → Prop) : Prop :=
  Met l y (mw y cy n none) { frames := fr, cells := 0, slots := 0, locals := lo } (va_Pc av (fun U => va_P D vwCl (Wd σ) U.heap ∧ va_K D vwCl [(cA, .int)] U)) (va_Qv post (fun u t => va_P D vwCl (Wd u) t.heap) A) 0 0 A
/-- what a virtual call's link is, closed -/
def Lk_v (own : String) (idx : Nat) (C : String) (y : MethodName) (cy : ByteArray) (n : Nat) (ret : Option FieldType) (k : Nat) : Prop :=
  Cond.methodLink own idx y ∈ TG ∧ Cond.instanceMethod y ∈ TG ∧ Cond.selects C y y ∈ TG ∧ Cond.initialized C ∈ TG ∧ Cond.code y cy n ret ∈ TG ∧ (y.cls = C ∧ y.cls ≠ "java/lang/invoke/MethodHandle" ∧ y.cls ≠ "java/lang/invoke/VarHandle" ∧ (parseMethodDescriptor y.desc).map (fun d => d.parameters.length) = some k)
/-- of a static one -/
def Lk_s (own : String) (idx : Nat) (y : MethodName) (cy : ByteArray) (n : Nat) (ret : Option FieldType) (k : Nat) : Prop :=
  Cond.methodLink own idx y ∈ TG ∧ Cond.static y ∈ TG ∧ Cond.initialized own ∈ TG ∧ Cond.code y cy n ret ∈ TG ∧ (y.cls = own ∧ y.cls ≠ "java/lang/invoke/MethodHandle" ∧ y.cls ≠ "java/lang/invoke/VarHandle" ∧ (parseMethodDescriptor y.desc).map (fun d => d.parameters.length) = some k)
theorem Lk_v.good {own C : String} {idx n k : Nat} {y : MethodName} {cy : ByteArray} {ret : Option FieldType} (h : Lk_v own idx C y cy n ret k) : GoodIn TG (wsV own idx C y (mw y cy n ret)) := by
  refine tg_good fun w hw => ?_
  obtain ⟨h1, h2, h3, h4, h5, -⟩ := h
  unfold wsV mw at hw
  simp only [List.mem_append, List.mem_cons, List.not_mem_nil, or_false] at hw
  rcases hw with (rfl | rfl | rfl | rfl) | rfl | hw
  · exact h1
  · exact h2
  · exact h3
  · exact h4
  · exact h5
  · exact hw
theorem Lk_s.good {own : String} {idx n k : Nat} {y : MethodName} {cy : ByteArray} {ret : Option FieldType} (h : Lk_s own idx y cy n ret k) : GoodIn TG (wsS own idx y (mw y cy n ret)) := by
  refine tg_good fun w hw => ?_
  obtain ⟨h1, h2, h3, h4, -⟩ := h
  unfold wsS mw at hw
  simp only [List.mem_append, List.mem_cons, List.not_mem_nil, or_false] at hw
  rcases hw with (rfl | rfl | rfl) | rfl | hw
  · exact h1
  · exact h2
  · exact h3
  · exact h4
  · exact hw
section WB
variable {p : Program} {l : Launch} {e : Env} {R : Room} {s : State} {m : MethodId} {args : Array Value} {below : List Frame} {meth : Method} {c : Code} {H : Heap} {locs : List Loc} {cells slots : Nat} {Q : State → Prop}
variable {pc : Nat} {ls : Array Slot} {rest st : List Value} {A0 A1 A : Nat → Prop} {H0 : Heap} {D : va_G} {cA : ClassId} {cc cy : ByteArray} {y : MethodName} {n nL k idx fr lo : Nat} {ret : Option FieldType} {own C : String} {b : Addr} {As : List Value}
theorem hts_tg (hts : ∀ w ∈ TG, w.before args s = true) {w : Cond} (h : w ∈ TG) : w.before args s = true := hts w h
theorem blind_w {S : Type} {Wd : S → va_W} {av : List Value} {σ : S} : FrameBlind (va_Pc av (fun U => va_P D vwCl (Wd σ) U.heap ∧ va_K D vwCl [(cA, .int)] U)) := by
  intro a U g mk q
  obtain ⟨q0, qP, qK⟩ := q
  exact ⟨q0, qP, va_K.moved (u := U) (U := U.calling g mk a) (Vm.Alike.refl U.vm) qK⟩
/-- a virtual call, an int comes back -/
theorem cl_i {S : Type} {Wd : S → va_W} {σ : S} {post : Int32 → S → Prop} (hM : Ct l D cA Wd A1 y cy n ret fr lo (.ref b :: As) σ post) (S0 : CallFix p m c cc nL s args TG own) (hK : va_K D vwCl [(cA, .int)] s) (hP : va_P D vwCl (Wd σ) H) (hS : va_S A0 H0 H locs) (lk : Lk_v own idx C y cy n ret k)
    (hR : fr + 1 ≤ R.frames ∧ 8 + (n + 11) + lo ≤ R.locals) (hf : cells ≤ R.cells ∧ slots ≤ R.slots) (q0 : Nat) {ci : Nat} {fs : List Value} {T : u_T} {N : Nat} (hq : (Wd σ)[q0]? = some (b, .inr (ci, fs))) (hc : vwCl[ci]? = some (C, T, N))
    (hn : As.length = k) (hl : ls.size = nL) (hst : st = As.reverse ++ .ref b :: rest) (hW : (rest.map fun v => v.category).sum ≤ 8) (hA : ∀ q, A1 q → A0 q) (hdg : decode cc pc = .ok (.invokevirtual idx, 3))
    (kk : ∀ (r : Int32) (u : S) (H1 : Heap) (locs1 : List Loc), post r u → va_P D vwCl (Wd u) H1 → va_S A0 H0 H1 locs1 → (∀ q : Nat, q < H.size → ¬ A1 q → H1[q]? = H[q]?) → W p l e R s m args below meth c H1 locs1 cells slots Q (F0 m (pc + 3) ls (.int r :: rest))) : W p l e R s m args below meth c H locs cells slots Q (F0 m pc ls st) := by
  refine va_calli (va_runV (As := As) (rest := rest) S0 hM (cwV k S0.2.2.2.2 lk.good rfl rfl rfl lk.2.2.2.2.2 hR) ⟨blind_w, va_recv hK hP hc hq, fun U hU hWm => ⟨rfl, by rw [hU]; exact hP, va_K.moved hWm.alike hK⟩⟩ rfl hn hl hst (lv_room hW) hdg hf) hS (fun q _ h => hA q h) hA (fun r u t H1 locs1 ht hvm hw hB hz1 hk1 hS1 => ?_)
  subst ht
  exact kk r u _ _ hw hB hS1 hk1
/-- a virtual call, nothing comes back -/
theorem cl_v {S : Type} {Wd : S → va_W} {σ : S} {post : S → Prop} (hM : Cv l D cA Wd A1 y cy n fr lo (.ref b :: As) σ post) (S0 : CallFix p m c cc nL s args TG own) (hK : va_K D vwCl [(cA, .int)] s) (hP : va_P D vwCl (Wd σ) H) (hS : va_S A0 H0 H locs) (lk : Lk_v own idx C y cy n none k)
    (hR : fr + 1 ≤ R.frames ∧ 8 + (n + 11) + lo ≤ R.locals) (hf : cells ≤ R.cells ∧ slots ≤ R.slots) (q0 : Nat) {ci : Nat} {fs : List Value} {T : u_T} {N : Nat} (hq : (Wd σ)[q0]? = some (b, .inr (ci, fs))) (hc : vwCl[ci]? = some (C, T, N))
    (hn : As.length = k) (hl : ls.size = nL) (hst : st = As.reverse ++ .ref b :: rest) (hW : (rest.map fun v => v.category).sum ≤ 8) (hA : ∀ q, A1 q → A0 q) (hdg : decode cc pc = .ok (.invokevirtual idx, 3))
    (kk : ∀ (u : S) (H1 : Heap) (locs1 : List Loc), post u → va_P D vwCl (Wd u) H1 → va_S A0 H0 H1 locs1 → (∀ q : Nat, q < H.size → ¬ A1 q → H1[q]? = H[q]?) → W p l e R s m args below meth c H1 locs1 cells slots Q (F0 m (pc + 3) ls rest)) : W p l e R s m args below meth c H locs cells slots Q (F0 m pc ls st) := by
  refine va_callv (va_runV (As := As) (rest := rest) S0 hM (cwV k S0.2.2.2.2 lk.good rfl rfl rfl lk.2.2.2.2.2 hR) ⟨blind_w, va_recv hK hP hc hq, fun U hU hWm => ⟨rfl, by rw [hU]; exact hP, va_K.moved hWm.alike hK⟩⟩ rfl hn hl hst (lv_room hW) hdg hf) hS (fun q _ h => hA q h) hA (fun u t H1 locs1 ht hvm hw hB hz1 hk1 hS1 => ?_)
  subst ht
  exact kk u _ _ hw hB hS1 hk1
/-- a static call, an int comes back -/
theorem cl_s {S : Type} {Wd : S → va_W} {σ : S} {post : Int32 → S → Prop} (hM : Ct l D cA Wd A1 y cy n ret fr lo As σ post) (S0 : CallFix p m c cc nL s args TG own) (hK : va_K D vwCl [(cA, .int)] s) (hP : va_P D vwCl (Wd σ) H) (hS : va_S A0 H0 H locs) (lk : Lk_s own idx y cy n ret k)
    (hR : fr + 1 ≤ R.frames ∧ 8 + (n + 11) + lo ≤ R.locals) (hf : cells ≤ R.cells ∧ slots ≤ R.slots)
    (hn : As.length = k) (hl : ls.size = nL) (hst : st = As.reverse ++ rest) (hW : (rest.map fun v => v.category).sum ≤ 8) (hA : ∀ q, A1 q → A0 q) (hdg : decode cc pc = .ok (.invokestatic idx, 3))
    (kk : ∀ (r : Int32) (u : S) (H1 : Heap) (locs1 : List Loc), post r u → va_P D vwCl (Wd u) H1 → va_S A0 H0 H1 locs1 → W p l e R s m args below meth c H1 locs1 cells slots Q (F0 m (pc + 3) ls (.int r :: rest))) : W p l e R s m args below meth c H locs cells slots Q (F0 m pc ls st) := by
  refine va_calli (va_runS (As := As) (rest := rest) S0 hM (cwS k S0.2.2.2.2 lk.good rfl rfl rfl lk.2.2.2.2 hR) ⟨blind_w, fun U hU hWm => ⟨rfl, by rw [hU]; exact hP, va_K.moved hWm.alike hK⟩⟩ rfl hn hl hst (lv_room hW) hdg hf) hS (fun q _ h => hA q h) hA (fun r u t H1 locs1 ht hvm hw hB hz1 hk1 hS1 => ?_)
  subst ht
  exact kk r u _ _ hw hB hS1
/-- the top of the stack by another name -/
theorem tp_i {x z : Int32} (h : x = z) (kk : W p l e R s m args below meth c H locs cells slots Q (F0 m pc ls (.int z :: rest))) : W p l e R s m args below meth c H locs cells slots Q (F0 m pc ls (.int x :: rest)) := by rw [h]; exact kk
/-- a place of an int array, by a number -/
theorem ar_g {ws : va_W} {a : Nat} (hx : p.tables.exec = Jvm.exec) (hb : c.code = cc) (hK : va_K D vwCl [(cA, .int)] s) (hP : va_P D vwCl ws H) (q0 : Nat) {N : Nat} {f : Nat → Int32} (ha : ws[q0]? = some (a, .inl (cA, N, .inl f))) {j : Nat} (hj : j < N) (hN : N < 1000) (hdg : decode cc pc = .ok (.iaload, 1))
    (kk : W p l e R s m args below meth c H locs cells slots Q (F0 m (pc + 1) ls (.int (f j) :: rest))) : W p l e R s m args below meth c H locs cells slots Q (F0 m pc ls (.int (nI j) :: .ref a :: rest)) := by
  refine va_iald hx hb hK hP q0 0 ha rfl (vp_in_nI hj (by omega)) hdg ?_
  rw [nI_clamp (by omega : j < 2 ^ 31)]
  exact kk
theorem ar_p {ws : va_W} {a : Nat} (hx : p.tables.exec = Jvm.exec) (hb : c.code = cc) (hK : va_K D vwCl [(cA, .int)] s) (hP : va_P D vwCl ws H) (hD : va_D A ws) (hS : va_S A H0 H locs) (q0 : Nat) {N : Nat} {f : Nat → Int32} (ha : ws[q0]? = some (a, .inl (cA, N, .inl f))) {j : Nat} {x : Int32} (hj : j < N) (hN : N < 1000) (hdg : decode cc pc = .ok (.iastore, 1))
    (kk : ∀ (H1 : Heap) (locs1 : List Loc), va_P D vwCl (ws.set q0 (a, .inl (cA, N, .inl (upd f j x)))) H1 → va_S A H0 H1 locs1 → W p l e R s m args below meth c H1 locs1 cells slots Q (F0 m (pc + 1) ls rest)) : W p l e R s m args below meth c H locs cells slots Q (F0 m pc ls (.int x :: .int (nI j) :: .ref a :: rest)) := by
  refine va_iast hx hb hK hP hD hS q0 0 ha rfl (vp_in_nI hj (by omega)) hdg (fun H1 locs1 h1 _ h3 => ?_)
  rw [nI_clamp (by omega : j < 2 ^ 31)] at h1
  exact kk H1 locs1 h1 h3
/-- a contract out of a walk from the method's entry -/
theorem Ct.of {S : Type} {Wd : S → va_W} {σ : S} {post : Int32 → S → Prop} {av : List Value} (hy : plainName y.cls = true) (hn : (lg_sl av).length ≤ n)
    (body : ∀ (p : Program) (e : Env) (s : State) (m : MethodId) (below : List Frame) (meth : Method) (c : Code) (ls : Array Slot), CallFix p m c cy n s av.toArray TG y.cls → meth.sig.returnType = ret → meth.locks = false → va_K D vwCl [(cA, .int)] s → va_P D vwCl (Wd σ) s.heap → va_S A s.heap s.heap [] → lv_has ls n (lv_args 0 av) →
      W p l e { frames := fr, cells := 0, slots := 0, locals := lo } s m av.toArray below meth c s.heap [] 0 0 (MQ below (va_Qi post (fun u t => va_P D vwCl (Wd u) t.heap) A) av.toArray s 0 0 A) (F0 m 0 ls [])) : Ct l D cA Wd A y cy n ret fr lo av σ post := by
  refine Met.ofW (cc := cy) (maxL := n) (ret := ret) hy rfl ?_
  intro p e s m args below meth c s₁ B hml hv
  obtain ⟨rfl, hP, hK⟩ := hv
  have hts := atoms_spec (ws := mw y cy n ret) B.pre
  have hown : s.vm.findClass y.cls = some m.cls := findClass_of_methodNamed B.named
  have hl := lv_entry av (n := n) hn
  rw [lg_entry_eq]
  exact body p e s m below meth c _ ⟨B.exec, B.bytes, hml, hown, fun w h => hts w (List.mem_cons_of_mem _ h)⟩ B.returns B.notSynchronized hK hP va_S.rf hl
theorem Cv.of {S : Type} {Wd : S → va_W} {σ : S} {post : S → Prop} {av : List Value} (hy : plainName y.cls = true) (hn : (lg_sl av).length ≤ n)
    (body : ∀ (p : Program) (e : Env) (s : State) (m : MethodId) (below : List Frame) (meth : Method) (c : Code) (ls : Array Slot), CallFix p m c cy n s av.toArray TG y.cls → meth.sig.returnType = none → meth.locks = false → va_K D vwCl [(cA, .int)] s → va_P D vwCl (Wd σ) s.heap → va_S A s.heap s.heap [] → lv_has ls n (lv_args 0 av) →
      W p l e { frames := fr, cells := 0, slots := 0, locals := lo } s m av.toArray below meth c s.heap [] 0 0 (MQ below (va_Qv post (fun u t => va_P D vwCl (Wd u) t.heap) A) av.toArray s 0 0 A) (F0 m 0 ls [])) : Cv l D cA Wd A y cy n fr lo av σ post := by
  refine Met.ofW (cc := cy) (maxL := n) (ret := none) hy rfl ?_
  intro p e s m args below meth c s₁ B hml hv
  obtain ⟨rfl, hP, hK⟩ := hv
  have hts := atoms_spec (ws := mw y cy n none) B.pre
  have hown : s.vm.findClass y.cls = some m.cls := findClass_of_methodNamed B.named
  have hl := lv_entry av (n := n) hn
  rw [lg_entry_eq]
  exact body p e s m below meth c _ ⟨B.exec, B.bytes, hml, hown, fun w h => hts w (List.mem_cons_of_mem _ h)⟩ B.returns B.notSynchronized hK hP va_S.rf hl
/-- the ends -/
theorem rt_i {S : Type} {Wd : S → va_W} {u : S} {post : Int32 → S → Prop} {v : Int32} (hx : p.tables.exec = Jvm.exec) (hb : c.code = cc) (hr : meth.sig.returnType = some .int) (hlocks : meth.locks = false) (hS : va_S A s.heap H locs) (hP : va_P D vwCl (Wd u) H) (hw : post v u) (hdg : decode cc pc = .ok (.ireturn, 1)) :
    W p l e R s m args below meth c H locs cells slots (MQ below (va_Qi post (fun u t => va_P D vwCl (Wd u) t.heap) A) args s cells slots A) (F0 m pc ls [.int v]) :=
  W.iret (v := v) hx hb hr (fun t ht hW => ⟨⟨v, u, rfl, hw, by show va_P D vwCl (Wd u) t.heap; rw [ht]; exact hP⟩, hS.F ht⟩) hS.2.2 hdg hlocks
theorem rt_z {S : Type} {Wd : S → va_W} {u : S} {post : Int32 → S → Prop} {v : Int32} (hx : p.tables.exec = Jvm.exec) (hb : c.code = cc) (hr : meth.sig.returnType = some .boolean) (hlocks : meth.locks = false) (hn : narrow .boolean (.int v) = .int v) (hS : va_S A s.heap H locs) (hP : va_P D vwCl (Wd u) H) (hw : post v u) (hdg : decode cc pc = .ok (.ireturn, 1)) :
    W p l e R s m args below meth c H locs cells slots (MQ below (va_Qi post (fun u t => va_P D vwCl (Wd u) t.heap) A) args s cells slots A) (F0 m pc ls [.int v]) :=
  W.zret (v := v) hx hb hr hn (fun t ht hW => ⟨⟨v, u, rfl, hw, by show va_P D vwCl (Wd u) t.heap; rw [ht]; exact hP⟩, hS.F ht⟩) hS.2.2 hdg hlocks
theorem rt_v {S : Type} {Wd : S → va_W} {u : S} {post : S → Prop} (hx : p.tables.exec = Jvm.exec) (hb : c.code = cc) (hr : meth.sig.returnType = none) (hlocks : meth.locks = false) (hS : va_S A s.heap H locs) (hP : va_P D vwCl (Wd u) H) (hw : post u) (hdg : decode cc pc = .ok (.return_, 1)) :
    W p l e R s m args below meth c H locs cells slots (MQ below (va_Qv post (fun u t => va_P D vwCl (Wd u) t.heap) A) args s cells slots A) (F0 m pc ls []) :=
  W.vret hx hb hr (fun t ht hW => ⟨⟨u, rfl, hw, by show va_P D vwCl (Wd u) t.heap; rw [ht]; exact hP⟩, hS.F ht⟩) hS.2.2 hdg hlocks
end WB
