-- THE STATE: one for both sides of the law
abbrev Ar : Type := Nat → Int32
abbrev SK : Type := Ar × Ar × Ar × Ar × Nat
abbrev SV : Type := Ar × Ar × Ar × Ar × Ar × Nat
abbrev SB : Type := Ar × Nat
abbrev ST : Type := Ar × Ar × Ar × Ar × Nat
abbrev SG : Type := Ar × Nat × Int32
abbrev CS : Type := SK × SV × SB × ST × SG
abbrev sTee (σ : CS) : Ar := σ.1.1
abbrev sStr (σ : CS) : Ar := σ.1.2.1
abbrev sWea (σ : CS) : Ar := σ.1.2.2.1
abbrev sHel (σ : CS) : Ar := σ.1.2.2.2.1
abbrev sKc (σ : CS) : Nat := σ.1.2.2.2.2
abbrev sLim (σ : CS) : Ar := σ.2.1.1
abbrev sSm (σ : CS) : Ar := σ.2.1.2.1
abbrev sNx (σ : CS) : Ar := σ.2.1.2.2.1
abbrev sLf (σ : CS) : Ar := σ.2.1.2.2.2.1
abbrev sRt (σ : CS) : Ar := σ.2.1.2.2.2.2.1
abbrev sVc (σ : CS) : Nat := σ.2.1.2.2.2.2.2
abbrev sKp (σ : CS) : Ar := σ.2.2.1.1
abbrev sBc (σ : CS) : Nat := σ.2.2.1.2
abbrev sOp (σ : CS) : Ar := σ.2.2.2.1.1
abbrev sFi (σ : CS) : Ar := σ.2.2.2.1.2.1
abbrev sSe (σ : CS) : Ar := σ.2.2.2.1.2.2.1
abbrev sAm (σ : CS) : Ar := σ.2.2.2.1.2.2.2.1
abbrev sTc (σ : CS) : Nat := σ.2.2.2.1.2.2.2.2
abbrev sGp (σ : CS) : Ar := σ.2.2.2.2.1
abbrev sGr (σ : CS) : Nat := σ.2.2.2.2.2.1
abbrev sAl (σ : CS) : Int32 := σ.2.2.2.2.2.2
/-- the two hands of the vaults in one row -/
def mix (f g : Ar) : Ar := fun i => if i % 2 = 0 then f (i / 2) else g (i / 2)
theorem mix_0 (f g : Ar) (v : Nat) : mix f g (2 * v) = f v := by
  unfold mix; rw [if_pos (by omega)]; congr 1; omega
theorem mix_1 (f g : Ar) (v : Nat) : mix f g (2 * v + 1) = g v := by
  unfold mix; rw [if_neg (by omega)]; congr 1; omega
theorem mix_u0 (f g : Ar) (v : Nat) (x : Int32) : upd (mix f g) (2 * v) x = mix (upd f v x) g := by
  funext i; unfold upd mix; dsimp only
  by_cases h : i = 2 * v
  · rw [if_pos h, if_pos (by omega : i % 2 = 0), if_pos (by omega : i / 2 = v)]
  · rw [if_neg h]
    by_cases h2 : i % 2 = 0
    · rw [if_pos h2, if_pos h2, if_neg (by omega)]
    · rw [if_neg h2, if_neg h2]
theorem mix_u1 (f g : Ar) (v : Nat) (x : Int32) : upd (mix f g) (2 * v + 1) x = mix f (upd g v x) := by
  funext i; unfold upd mix; dsimp only
  by_cases h : i = 2 * v + 1
  · rw [if_pos h, if_neg (by omega : ¬ i % 2 = 0), if_pos (by omega : i / 2 = v)]
  · rw [if_neg h]
    by_cases h2 : i % 2 = 0
    · rw [if_pos h2, if_pos h2]
    · rw [if_neg h2, if_neg h2, if_neg (by omega)]
theorem upd_same {f : Ar} {k : Nat} {x : Int32} (h : f k = x) : upd f k x = f := by
  funext i; unfold upd
  by_cases e : i = k
  · rw [if_pos e, e, h]
  · rw [if_neg e]
theorem upd_eq {f : Ar} {k : Nat} {x : Int32} : upd f k x k = x := by unfold upd; rw [if_pos rfl]
theorem upd_ne {f : Ar} {k j : Nat} {x : Int32} (h : j ≠ k) : upd f k x j = f j := by unfold upd; rw [if_neg h]
-- THE WORLDS
def cW (ad : Nat → Nat) (cA : ClassId) (σ : CS) : va_W :=
  [(ad 0, .inr (4, [.ref (ad 1), .ref (ad 2), .ref (ad 3), .ref (ad 4), .ref (ad 5), .int (nI (sGr σ)), .int (sAl σ)])),
   (ad 1, .inr (1, [.ref (ad 6), .ref (ad 7), .ref (ad 8), .ref (ad 9), .int (nI (sKc σ))])),
   (ad 2, .inr (3, [.ref (ad 10), .ref (ad 11), .ref (ad 12), .ref (ad 13), .ref (ad 14), .int (nI (sVc σ))])),
   (ad 3, .inr (0, [.ref (ad 15), .int (nI (sBc σ))])),
   (ad 4, .inr (2, [.ref (ad 16), .ref (ad 17), .ref (ad 18), .ref (ad 19), .int (nI (sTc σ))])),
   (ad 5, .inl (cA, 60, .inl (sGp σ))),
   (ad 6, .inl (cA, 40, .inl (sTee σ))), (ad 7, .inl (cA, 40, .inl (sStr σ))), (ad 8, .inl (cA, 40, .inl (sWea σ))), (ad 9, .inl (cA, 40, .inl (sHel σ))),
   (ad 10, .inl (cA, 12, .inl (sLim σ))), (ad 11, .inl (cA, 12, .inl (sSm σ))), (ad 12, .inl (cA, 12, .inl (sNx σ))), (ad 13, .inl (cA, 12, .inl (sLf σ))), (ad 14, .inl (cA, 12, .inl (sRt σ))),
   (ad 15, .inl (cA, 400, .inl (sKp σ))),
   (ad 16, .inl (cA, 32, .inl (sOp σ))), (ad 17, .inl (cA, 32, .inl (sFi σ))), (ad 18, .inl (cA, 32, .inl (sSe σ))), (ad 19, .inl (cA, 32, .inl (sAm σ)))]
def rW (ad : Nat → Nat) (cA : ClassId) (σ : CS) : va_W :=
  [(ad 0, .inr (5, [.ref (ad 1), .ref (ad 2), .ref (ad 3), .ref (ad 4), .int (nI (sKc σ)), .ref (ad 5), .ref (ad 6), .ref (ad 7), .ref (ad 8), .int (nI (sVc σ)), .ref (ad 9), .int (nI (sGr σ)), .ref (ad 10), .int (nI (sBc σ)), .int (sAl σ), .ref (ad 11), .ref (ad 12), .ref (ad 13), .ref (ad 14), .int (nI (sTc σ))])),
   (ad 1, .inl (cA, 40, .inl (sTee σ))), (ad 2, .inl (cA, 40, .inl (sStr σ))), (ad 3, .inl (cA, 40, .inl (sWea σ))), (ad 4, .inl (cA, 40, .inl (sHel σ))),
   (ad 5, .inl (cA, 12, .inl (sSm σ))), (ad 6, .inl (cA, 12, .inl (sLim σ))), (ad 7, .inl (cA, 12, .inl (sNx σ))), (ad 8, .inl (cA, 24, .inl (mix (sLf σ) (sRt σ)))),
   (ad 9, .inl (cA, 64, .inl (sGp σ))), (ad 10, .inl (cA, 400, .inl (sKp σ))),
   (ad 11, .inl (cA, 32, .inl (sOp σ))), (ad 12, .inl (cA, 32, .inl (sFi σ))), (ad 13, .inl (cA, 32, .inl (sSe σ))), (ad 14, .inl (cA, 32, .inl (sAm σ)))]
-- WHAT IS DONE
def wr (x : Int32) (σ : CS) : CS := (σ.1, σ.2.1, (if sBc σ < 400 then upd (sKp σ) (sBc σ) x else sKp σ, sBc σ + 1), σ.2.2.2)
def tn (σ : CS) (k : Nat) : CS := wr (100 + nI k) ((sTee σ, sStr σ, upd (sWea σ) k (sWea σ k + sStr σ k), upd (sHel σ) k (sHel σ k + 1), sKc σ), σ.2.1, σ.2.2.1, σ.2.2.2.1, (upd (sGp σ) (sGr σ) (nI k), sGr σ + 1, sAl σ))
def dec (σ : CS) (k : Nat) : CS := ((sTee σ, sStr σ, sWea σ, upd (sHel σ) k (sHel σ k - 1), sKc σ), σ.2)
def sgr (σ : CS) (g : Nat) : CS := (σ.1, σ.2.1, σ.2.2.1, σ.2.2.2.1, (sGp σ, g, sAl σ))
def sal (σ : CS) (a : Int32) : CS := (σ.1, σ.2.1, σ.2.2.1, σ.2.2.2.1, (sGp σ, sGr σ, a))
def ssm (σ : CS) (f : Ar) : CS := (σ.1, (sLim σ, f, sNx σ, sLf σ, sRt σ, sVc σ), σ.2.2)
def swe (σ : CS) (f : Ar) : CS := ((sTee σ, sStr σ, f, sHel σ, sKc σ), σ.2)
def d1 (w x : Int32) (σ : CS) : CS := wr (w + x) (dec σ x.toNatClampNeg)
def dr (w : Int32) (g : Ar) : Nat → CS → CS
  | 0, σ => σ
  | j + 1, σ => dr w g j (d1 w (g j) σ)
def da (w : Int32) (σ : CS) : CS := sgr (dr w (sGp σ) (sGr σ) σ) 0
def ra (σ : CS) : CS := da 600 (sal σ (sAl σ + 1))
/-- a hand: 0 it is turned, 1 it is bare, 2 it jams -/
def th (σ : CS) (x h : Int32) : Nat × CS := if x = -1 then (1, wr (10 + h) σ) else if sHel σ x.toNatClampNeg = sTee σ x.toNatClampNeg then (2, wr (700 + x) σ) else (0, tn σ x.toNatClampNeg)
def tb (σ : CS) (v : Nat) : Int32 × CS :=
  if (th σ (sLf σ v) 0).1 = 1 then (-4, da 300 (th σ (sLf σ v) 0).2)
  else if (th σ (sLf σ v) 0).1 = 2 then (-7, ra (th σ (sLf σ v) 0).2)
  else if (th (th σ (sLf σ v) 0).2 (sRt σ v) 1).1 = 1 then (-4, da 300 (th (th σ (sLf σ v) 0).2 (sRt σ v) 1).2)
  else if (th (th σ (sLf σ v) 0).2 (sRt σ v) 1).1 = 2 then (-7, ra (th (th σ (sLf σ v) 0).2 (sRt σ v) 1).2)
  else (0, (th (th σ (sLf σ v) 0).2 (sRt σ v) 1).2)
def ix (n : Nat) (x : Int32) : Option Nat := if 0 ≤ x ∧ x < nI n then some x.toNatClampNeg else none
abbrev amt (n : Int32) : Prop := 0 ≤ n ∧ n ≤ 1000000
def f_key (σ : CS) (t m : Int32) : Int32 × CS := if 1 ≤ t ∧ t ≤ 9 then (if sKc σ = 40 then (-3, σ) else (nI (sKc σ), ((upd (sTee σ) (sKc σ) t, upd (sStr σ) (sKc σ) (if m = 0 then 1 else 2), upd (sWea σ) (sKc σ) 0, upd (sHel σ) (sKc σ) 0, sKc σ + 1), σ.2))) else (-2, σ)
def f_vault (σ : CS) (x : Int32) : Int32 × CS := if amt x then (if sVc σ = 12 then (-3, σ) else (nI (sVc σ), (σ.1, (upd (sLim σ) (sVc σ) x, upd (sSm σ) (sVc σ) 0, upd (sNx σ) (sVc σ) (-1), upd (sLf σ) (sVc σ) (-1), upd (sRt σ) (sVc σ) (-1), sVc σ + 1), σ.2.2))) else (-2, σ)
abbrev okh (h : Int32) : Prop := h = 0 ∨ h = 1
def f_hang (σ : CS) (v h k : Int32) : Int32 × CS := match ix (sVc σ) v with
  | none => (-2, σ)
  | some j => if okh h ∧ (k = -1 ∨ (ix (sKc σ) k).isSome) then (if h = 0 then (sLf σ j, (σ.1, (sLim σ, sSm σ, sNx σ, upd (sLf σ) j k, sRt σ, sVc σ), σ.2.2)) else (sRt σ j, (σ.1, (sLim σ, sSm σ, sNx σ, sLf σ, upd (sRt σ) j k, sVc σ), σ.2.2))) else (-2, σ)
def f_link (σ : CS) (v w : Int32) : Int32 × CS := match ix (sVc σ) v with
  | none => (-2, σ)
  | some j => if w = -1 ∨ (ix (sVc σ) w).isSome then (sNx σ j, (σ.1, (sLim σ, sSm σ, upd (sNx σ) j w, sLf σ, sRt σ, sVc σ), σ.2.2)) else (-2, σ)
def g_put (t : Int32 × CS) (j : Nat) (n : Int32) : Int32 × CS := if t.1 = 0 then (if sLim t.2 j < sSm t.2 j + n then (-5, da 300 t.2) else (sSm t.2 j + n, da 200 (ssm t.2 (upd (sSm t.2) j (sSm t.2 j + n))))) else t
def f_put (σ : CS) (v n : Int32) : Int32 × CS := match ix (sVc σ) v with
  | none => (-2, σ)
  | some j => if amt n then g_put (tb σ j) j n else (-2, σ)
def g_take (t : Int32 × CS) (j : Nat) (n : Int32) : Int32 × CS := if t.1 = 0 then (if sSm t.2 j < n then (-6, ra t.2) else (sSm t.2 j - n, da 200 (ssm t.2 (upd (sSm t.2) j (sSm t.2 j - n))))) else t
def f_take (σ : CS) (v n : Int32) : Int32 × CS := match ix (sVc σ) v with
  | none => (-2, σ)
  | some j => if amt n then g_take (tb σ j) j n else (-2, σ)
/-- the sums behind a move -/
def mvs (f : Ar) (i j : Nat) (n : Int32) : Ar := upd (upd f i (f i - n)) j (upd f i (f i - n) j + n)
def g_move (t : Int32 × CS) (i j : Nat) (n : Int32) : Int32 × CS := if t.1 = 0 then (if sSm t.2 i < n then (-6, ra t.2) else if sLim t.2 j < sSm t.2 j + n then (-5, da 300 t.2) else (mvs (sSm t.2) i j n i, da 200 (ssm t.2 (mvs (sSm t.2) i j n)))) else t
def f_move (σ : CS) (a b n : Int32) : Int32 × CS := match ix (sVc σ) a with
  | none => (-2, σ)
  | some i => match ix (sVc σ) b with
    | none => (-2, σ)
    | some j => if amt n then (if (tb σ i).1 = 0 then g_move (tb (tb σ i).2 j) i j n else tb σ i) else (-2, σ)
def g_split (t : Int32 × CS) (j : Nat) (n : Int32) : Int32 × CS := if t.1 = 0 then (if n = 0 then (-8, ra t.2) else (sSm t.2 j / n, da 200 t.2)) else t
def f_split (σ : CS) (v n : Int32) : Int32 × CS := match ix (sVc σ) v with
  | none => (-2, σ)
  | some j => if 0 ≤ n ∧ n ≤ 1000 then g_split (tb σ j) j n else (-2, σ)
def g_swap (t : Int32 × CS) (j : Nat) : Int32 × CS := if t.1 = 0 then (sRt t.2 j, da 200 (t.2.1, (sLim t.2, sSm t.2, sNx t.2, upd (sLf t.2) j (sRt t.2 j), upd (sRt t.2) j (sLf t.2 j), sVc t.2), t.2.2.2)) else t
def f_swap (σ : CS) (v : Int32) : Int32 × CS := match ix (sVc σ) v with
  | none => (-2, σ)
  | some j => g_swap (tb σ j) j
def f_polish (σ : CS) (k : Int32) : Int32 × CS := match ix (sKc σ) k with
  | none => (-2, σ)
  | some j => (sWea (tn σ j) j, da 200 (swe (tn σ j) (upd (sWea (tn σ j)) j 0)))
def row (σ : CS) (a m : Int32) : Option (Nat × Nat) := match ix (sVc σ) a with
  | none => none
  | some i => if 1 ≤ m ∧ m ≤ 12 ∧ i + m.toNatClampNeg ≤ sVc σ then some (i, m.toNatClampNeg) else none
def rl (n : Nat) : Nat → Nat → Nat → CS → Nat × CS
  | 0, _, less, σ => (less, σ)
  | f + 1, v, less, σ => if (th σ (sLf σ v) 0).1 = 1 then rl n f (v + 1) less (th σ (sLf σ v) 0).2
    else if sSm σ v = 0 then rl n f (v + 1) less (da 500 (th σ (sLf σ v) 0).2)
    else if less + 1 = n then (less + 1, da 400 (ssm (th σ (sLf σ v) 0).2 (upd (sSm σ) v (sSm σ v - 1))))
    else rl n f (v + 1) (less + 1) (da 200 (ssm (th σ (sLf σ v) 0).2 (upd (sSm σ) v (sSm σ v - 1))))
def f_rounds (σ : CS) (a m n : Int32) : Int32 × CS := match row σ a m with
  | none => (-2, σ)
  | some q => if 1 ≤ n ∧ n ≤ 12 then (nI (rl n.toNatClampNeg q.2 q.1 0 σ).1, (rl n.toNatClampNeg q.2 q.1 0 σ).2) else (-2, σ)
def mn (x w : Int32) : Int32 := if x < w then x else w
/-- a sweep's vault, both hands turned -/
def swp (n : Int32) (rec : Int32 → CS → Int32 × CS) (v : Nat) (w : Int32) (u : CS) : Int32 × CS :=
  if w - mn (sSm u v) w = 0 then (n, da 400 (ssm u (upd (sSm u) v (sSm u v - mn (sSm u v) w))))
  else rec (w - mn (sSm u v) w) (da 200 (ssm u (upd (sSm u) v (sSm u v - mn (sSm u v) w))))
def sl (n : Int32) : Nat → Nat → Int32 → CS → Int32 × CS
  | 0, _, w, σ => (n - w, σ)
  | f + 1, v, w, σ => if (th σ (sLf σ v) 0).1 = 1 then sl n f (v + 1) w (th σ (sLf σ v) 0).2
    else if (th σ (sLf σ v) 0).1 = 2 then (-7, ra (th σ (sLf σ v) 0).2)
    else if (th (th σ (sLf σ v) 0).2 (sRt σ v) 1).1 = 1 then sl n f (v + 1) w (da 500 (th (th σ (sLf σ v) 0).2 (sRt σ v) 1).2)
    else if (th (th σ (sLf σ v) 0).2 (sRt σ v) 1).1 = 2 then (-7, ra (th (th σ (sLf σ v) 0).2 (sRt σ v) 1).2)
    else swp n (sl n f (v + 1)) v w (th (th σ (sLf σ v) 0).2 (sRt σ v) 1).2
def f_sweep (σ : CS) (a m n : Int32) : Int32 × CS := match row σ a m with
  | none => (-2, σ)
  | some q => if 1 ≤ n ∧ n ≤ 1000000 then sl n q.2 q.1 n σ else (-2, σ)
def wl (n : Int32) : Nat → Int32 → Int32 → CS → Int32 × CS
  | 0, _, t, σ => (t, da 200 σ)
  | f + 1, x, t, σ => if x = -1 then (t, da 200 σ)
    else if (th σ (sLf σ x.toNatClampNeg) 0).1 = 1 then (t, da 200 (th σ (sLf σ x.toNatClampNeg) 0).2)
    else if (th σ (sLf σ x.toNatClampNeg) 0).1 = 2 then (-7, ra (th σ (sLf σ x.toNatClampNeg) 0).2)
    else if n < t + sSm σ x.toNatClampNeg then (-6, ra (th σ (sLf σ x.toNatClampNeg) 0).2)
    else wl n f (sNx σ x.toNatClampNeg) (t + sSm σ x.toNatClampNeg) (th σ (sLf σ x.toNatClampNeg) 0).2
def f_walk (σ : CS) (v m n : Int32) : Int32 × CS := if (ix (sVc σ) v).isSome ∧ (1 ≤ m ∧ m ≤ 60) ∧ 0 ≤ n then wl n m.toNatClampNeg v 0 σ else (-2, σ)
abbrev isO (σ : CS) (o v w n : Int32) : Prop := ((o = 0 ∨ o = 1) ∧ (ix (sVc σ) v).isSome ∧ amt n) ∨ (o = 2 ∧ (ix (sVc σ) v).isSome ∧ (ix (sVc σ) w).isSome ∧ amt n) ∨ (o = 3 ∧ (ix (sVc σ) v).isSome) ∨ o = 4
def f_order (σ : CS) (o v w n : Int32) : Int32 × CS := if isO σ o v w n then (if sTc σ = 32 then (-3, σ) else (nI (sTc σ + 1), (σ.1, σ.2.1, σ.2.2.1, (upd (sOp σ) (sTc σ) o, upd (sFi σ) (sTc σ) v, upd (sSe σ) (sTc σ) w, upd (sAm σ) (sTc σ) n, sTc σ + 1), σ.2.2.2.2))) else (-2, σ)
def ex (σ : CS) (i : Nat) : Int32 × CS := if sOp σ i = 0 then f_put σ (sFi σ i) (sAm σ i) else if sOp σ i = 1 then f_take σ (sFi σ i) (sAm σ i) else if sOp σ i = 2 then f_move σ (sFi σ i) (sSe σ i) (sAm σ i) else f_swap σ (sFi σ i)
def rn : Nat → Nat → CS → Nat × CS
  | 0, i, σ => (i, σ)
  | f + 1, i, σ => if sOp σ i = 4 then (i, σ) else if (ex σ i).1 = -6 ∨ (ex σ i).1 = -7 then (i, (ex σ i).2) else rn f (i + 1) (ex σ i).2
def stc (σ : CS) (n : Nat) : CS := (σ.1, σ.2.1, σ.2.2.1, (sOp σ, sFi σ, sSe σ, sAm σ, n), σ.2.2.2.2)
def f_run (σ : CS) : Int32 × CS := (nI (rn (sTc σ) 0 σ).1, stc (rn (sTc σ) 0 σ).2 0)
def f_sum (σ : CS) (v : Int32) : Int32 := match ix (sVc σ) v with
  | none => -2
  | some j => sSm σ j
def f_hung (σ : CS) (v h : Int32) : Int32 := match ix (sVc σ) v with
  | none => -2
  | some j => if h = 0 then sLf σ j else if h = 1 then sRt σ j else -2
def f_wear (σ : CS) (k : Int32) : Int32 := match ix (sKc σ) k with
  | none => -2
  | some j => sWea σ j
def f_entry (σ : CS) (i : Int32) : Int32 := match ix (sBc σ) i with
  | none => -1
  | some j => if j < 400 then sKp σ j else -1
def sbc (σ : CS) (n : Nat) : CS := (σ.1, σ.2.1, (sKp σ, n), σ.2.2.2)
