/-! the law's own helpers: the class's cells and the row of one long -/
abbrev tL (cD cZ cI cL : ClassId) : List (ClassId × FieldType) := [(cD, .double), (cZ, .boolean), (cI, .int), (cL, .long)]
abbrev wL (cD cZ cI cL : ClassId) (h pf f0 f1 f2 f3 po o0 o1 o2 o3 tt t0 : Nat) (NF : Nat → UInt64) (GF TF OF : Nat → Int32) (NO : Nat → UInt64) (GO TO OO : Nat → Int32) (DG : Nat → Int64) (nn : Nat) (fb : Bool) (ox : Nat) (F : Nat → Int64) : va_W := [(h, .inr (1, [.ref (cond fb pf po), .ref (cond fb po pf), .ref tt, .int (nI nn)])), (pf, .inr (0, [.ref f0, .ref f1, .ref f2, .ref f3])), (f0, .inl (cD, 35, .inr (.inr (.inr (.inl NF))))), (f1, .inl (cZ, 35, .inl GF)), (f2, .inl (cI, 30, .inl TF)), (f3, .inl (cI, 6, .inl OF)), (po, .inr (0, [.ref o0, .ref o1, .ref o2, .ref o3])), (o0, .inl (cD, 35, .inr (.inr (.inr (.inl NO))))), (o1, .inl (cZ, 35, .inl GO)), (o2, .inl (cI, 30, .inl TO)), (o3, .inl (cI, 6, .inl OO)), (tt, .inr (3, [.ref t0])), (t0, .inl (cL, 42, .inr (.inl DG))), (ox, .inl (cL, 1, .inr (.inl F)))]
abbrev okL (dC : Nat → ClassId) (dI : Nat → Nat → Nat) (cD cZ cI cL : ClassId) (ws : va_W) (U : State) (H : Heap) : Prop := va_P (dC, dI) vwCl ws H ∧ va_K (dC, dI) vwCl (tL cD cZ cI cL) U ∧ exS U
abbrev okLX (dC : Nat → ClassId) (dI : Nat → Nat → Nat) (cD cZ cI cL : ClassId) (ws : va_W) (U : State) (H : Heap) : Prop := va_P (dC, dI) vwCl ws H ∧ va_K (dC, dI) vwCl (tL cD cZ cI cL) U ∧ exS U ∧ exZ U H
abbrev atL (dC : Nat → ClassId) (dI : Nat → Nat → Nat) (cD cZ cI cL : ClassId) (A : Nat → Prop) (ws : va_W) (t : State) : Prop := va_P (dC, dI) vwCl ws t.heap ∧ va_K (dC, dI) vwCl (tL cD cZ cI cL) t ∧ va_D A ws
theorem okL_preS {dC : Nat → ClassId} {dI : Nat → Nat → Nat} {cD cZ cI cL : ClassId} {ws : va_W} {s : State} {H : Heap} {As : List Value} {A : Nat → Prop} (hP : va_P (dC, dI) vwCl ws H) (hK : va_K (dC, dI) vwCl (tL cD cZ cI cL) s) (hE : exS s) (hD : va_D A ws) : PreS s H (va_Pc As (fun U => U.heap.size = H.size ∧ okL dC dI cD cZ cI cL ws U U.heap ∧ va_D (fun _ => True) ws)) As :=
  ⟨fun a U g mk q => ⟨q.1, q.2.1, ⟨q.2.2.1.1, va_K.moved (u := U) (U := U.calling g mk a) (Vm.Alike.refl U.vm) q.2.2.1.2.1, q.2.2.1.2.2.blind⟩, q.2.2.2⟩, fun U hU hW => ⟨rfl, by rw [hU], ⟨by rw [hU]; exact hP, va_K.moved hW.alike hK, hE.warm hW⟩, hD.weaken (fun _ _ _ _ => trivial)⟩⟩
theorem okLX_preS {dC : Nat → ClassId} {dI : Nat → Nat → Nat} {cD cZ cI cL : ClassId} {ws : va_W} {s : State} {H : Heap} {As : List Value} {A : Nat → Prop} (hP : va_P (dC, dI) vwCl ws H) (hK : va_K (dC, dI) vwCl (tL cD cZ cI cL) s) (hE : exS s) (hZ : exZ s H) (hD : va_D A ws) : PreS s H (va_Pc As (fun U => U.heap.size = H.size ∧ okLX dC dI cD cZ cI cL ws U U.heap ∧ va_D (fun _ => True) ws)) As :=
  ⟨fun a U g mk q => ⟨q.1, q.2.1, ⟨q.2.2.1.1, va_K.moved (u := U) (U := U.calling g mk a) (Vm.Alike.refl U.vm) q.2.2.1.2.1, q.2.2.1.2.2.1.blind, exZ.warm (s := U) (U := U.calling g mk a) (Vm.Alike.refl U.vm) q.2.2.1.2.2.2⟩, q.2.2.2⟩, fun U hU hW => ⟨rfl, by rw [hU], ⟨by rw [hU]; exact hP, va_K.moved hW.alike hK, hE.warm hW, by rw [hU]; exact hZ.warm hW.alike⟩, hD.weaken (fun _ _ _ _ => trivial)⟩⟩
def bl (b : Bool) : Int64 := if b then 1 else 0
def bz (x : Int32) : Int64 := if x = 0 then 0 else 1
theorem exS.cN {U : State} {a : Array Value} (h : exS U) : (Cond.castable nsX nsX).before a U = true := by
  obtain ⟨-, -, -, -, -, -, -, -, h9, -⟩ := h
  exact va_Nw.use rfl h9
theorem exS.cS {U : State} {a : Array Value} (h : exS U) : (Cond.castable isX isX).before a U = true := by
  obtain ⟨-, -, -, -, -, -, -, -, -, h9, -⟩ := h
  exact va_Nw.use rfl h9
theorem exS.cA {U : State} {a : Array Value} (h : exS U) : (Cond.castable iaX iaX).before a U = true := by
  obtain ⟨-, -, -, -, -, -, -, -, -, -, h9, -⟩ := h
  exact va_Nw.use rfl h9
theorem exS.nA {U : State} (h : exS U) : va_Nc iaX nsX U := by
  obtain ⟨-, -, -, -, -, -, -, -, -, -, -, h9, -⟩ := h
  exact h9
theorem exS.nS {U : State} (h : exS U) : va_Nc isX nsX U := by
  obtain ⟨-, -, -, -, -, -, -, -, -, -, -, -, h9, -⟩ := h
  exact h9
