/-! the class: its cells, what its throws rest on -/
def isX : String := "java/lang/IllegalStateException"
def iaX : String := "java/lang/IllegalArgumentException"
def rtX : String := "java/lang/RuntimeException"
def exX : String := "java/lang/Exception"
/-- what the tables say that isn't a good word: constants' texts, who declares what, casts -/
def exS (U : State) : Prop := (∃ sa, vk_R RX1 127 "no such entry" sa U) ∧ (∃ sa, vk_R RX1 130 "no such seat" sa U) ∧ (∃ sa, vk_R RX1 134 "no such choice" sa U) ∧ (∃ sa, vk_R RX1 32 "all entries have come" sa U) ∧ (∃ sa, vk_R RX1 105 "it is NONE" sa U) ∧ va_Nw (.declares (Bundle.initS rtX)) U ∧ va_Nw (.declares (Bundle.initS exX)) U ∧ va_Nw (.declares (Bundle.initS Bundle.tN)) U ∧ va_Nw (.castable nsX nsX) U ∧ va_Nw (.castable isX isX) U ∧ va_Nw (.castable iaX iaX) U ∧ va_Nc iaX nsX U ∧ va_Nc isX nsX U ∧ va_Nw nW U
theorem exS.warm {s U : State} (hW : s.WarmedH U.vm) (h : exS s) : exS U := by
  obtain ⟨⟨a1, h1⟩, ⟨a2, h2⟩, ⟨a3, h3⟩, ⟨a4, h4⟩, ⟨a5, h5⟩, h6, h7, h8, h9, h10, h11, h12, h13, h14⟩ := h
  exact ⟨⟨a1, h1.warm hW⟩, ⟨a2, h2.warm hW⟩, ⟨a3, h3.warm hW⟩, ⟨a4, h4.warm hW⟩, ⟨a5, h5.warm hW⟩, va_Nw.warmD hW h6, va_Nw.warmD hW h7, va_Nw.warmD hW h8, va_Nw.warmC hW h9, va_Nw.warmC hW h10, va_Nw.warmC hW h11, va_Nc.moved hW.alike h12, va_Nc.moved hW.alike h13, va_Nw.warmM hW h14⟩
theorem exS.blind {U : State} {g : JFrame} {mk : MethodId} {a : Array Value} (h : exS U) : exS (U.calling g mk a) := exS.warm (U := U.calling g mk a) (State.WarmedH.refl U) h
theorem exS.nest {U : State} (h : exS U) : va_Nw nW U := by
  obtain ⟨-, -, -, -, -, -, -, -, -, -, -, -, -, h14⟩ := h
  exact h14
def exZ (U : State) (H : Heap) : Prop := vx_Zq Bundle.tN "UNASSIGNED_STACK" Bundle.steD (fun _ => False) U H ∧ vx_Zq Bundle.tN "SUPPRESSED_SENTINEL" Bundle.listD (fun _ => False) U H
theorem exZ.warm {s U : State} {H : Heap} (hW : s.vm.Alike U.vm) (h : exZ s H) : exZ U H := ⟨vx_Zq.moved hW h.1, vx_Zq.moved hW h.2⟩
/-- the class's cells: the panel that is asked for (pf), and the other (po) -/
abbrev wJ (cD cZ cI cL : ClassId) (h pf f0 f1 f2 f3 po o0 o1 o2 o3 tt t0 : Nat) (NF : Nat → UInt64) (GF TF OF : Nat → Int32) (NO : Nat → UInt64) (GO TO OO : Nat → Int32) (DG : Nat → Int64) (nn : Nat) (fb : Bool) : va_W := [(h, .inr (1, [.ref (cond fb pf po), .ref (cond fb po pf), .ref tt, .int (nI nn)])), (pf, .inr (0, [.ref f0, .ref f1, .ref f2, .ref f3])), (f0, .inl (cD, 35, .inr (.inr (.inr (.inl NF))))), (f1, .inl (cZ, 35, .inl GF)), (f2, .inl (cI, 30, .inl TF)), (f3, .inl (cI, 6, .inl OF)), (po, .inr (0, [.ref o0, .ref o1, .ref o2, .ref o3])), (o0, .inl (cD, 35, .inr (.inr (.inr (.inl NO))))), (o1, .inl (cZ, 35, .inl GO)), (o2, .inl (cI, 30, .inl TO)), (o3, .inl (cI, 6, .inl OO)), (tt, .inr (3, [.ref t0])), (t0, .inl (cL, 42, .inr (.inl DG)))]
abbrev okJ (dC : Nat → ClassId) (dI : Nat → Nat → Nat) (cD cZ cI cL : ClassId) (h pf f0 f1 f2 f3 po o0 o1 o2 o3 tt t0 : Nat) (NF : Nat → UInt64) (GF TF OF : Nat → Int32) (NO : Nat → UInt64) (GO TO OO : Nat → Int32) (DG : Nat → Int64) (nn : Nat) (fb : Bool) (U : State) (H : Heap) : Prop := va_P (dC, dI) vwCl (wJ cD cZ cI cL h pf f0 f1 f2 f3 po o0 o1 o2 o3 tt t0 NF GF TF OF NO GO TO OO DG nn fb) H ∧ va_K (dC, dI) vwCl (tP cD cZ cI cL) U ∧ exS U
abbrev atJ (dC : Nat → ClassId) (dI : Nat → Nat → Nat) (cD cZ cI cL : ClassId) (A : Nat → Prop) (h pf f0 f1 f2 f3 po o0 o1 o2 o3 tt t0 : Nat) (NF : Nat → UInt64) (GF TF OF : Nat → Int32) (NO : Nat → UInt64) (GO TO OO : Nat → Int32) (DG : Nat → Int64) (nn : Nat) (fb : Bool) (t : State) : Prop := va_P (dC, dI) vwCl (wJ cD cZ cI cL h pf f0 f1 f2 f3 po o0 o1 o2 o3 tt t0 NF GF TF OF NO GO TO OO DG nn fb) t.heap ∧ va_K (dC, dI) vwCl (tP cD cZ cI cL) t ∧ va_D A (wJ cD cZ cI cL h pf f0 f1 f2 f3 po o0 o1 o2 o3 tt t0 NF GF TF OF NO GO TO OO DG nn fb)
section JPRE
variable {dC : Nat → ClassId} {dI : Nat → Nat → Nat} {cD cZ cI cL : ClassId} {h pf f0 f1 f2 f3 po o0 o1 o2 o3 tt t0 : Nat} {NF : Nat → UInt64} {GF TF OF : Nat → Int32} {NO : Nat → UInt64} {GO TO OO : Nat → Int32} {DG : Nat → Int64} {nn : Nat} {fb : Bool} {s : State} {H : Heap} {As : List Value} {A : Nat → Prop}
theorem okJ_pre (hO : okJ dC dI cD cZ cI cL h pf f0 f1 f2 f3 po o0 o1 o2 o3 tt t0 NF GF TF OF NO GO TO OO DG nn fb s H) : PreV s H RX1 h (va_Pc (.ref h :: As) (fun U => okJ dC dI cD cZ cI cL h pf f0 f1 f2 f3 po o0 o1 o2 o3 tt t0 NF GF TF OF NO GO TO OO DG nn fb U U.heap)) As :=
  ⟨fun a U g mk q => ⟨q.1, q.2.1, va_K.moved (u := U) (U := U.calling g mk a) (Vm.Alike.refl U.vm) q.2.2.1, q.2.2.2.blind⟩, va_recv hO.2.1 hO.1 (ci := 1) (q0 := 0) rfl rfl, fun U hU hW => ⟨rfl, by rw [hU]; exact hO.1, va_K.moved hW.alike hO.2.1, hO.2.2.warm hW⟩⟩
theorem okJW_pre (hO : okJ dC dI cD cZ cI cL h pf f0 f1 f2 f3 po o0 o1 o2 o3 tt t0 NF GF TF OF NO GO TO OO DG nn fb s H) (hD : va_D A (wJ cD cZ cI cL h pf f0 f1 f2 f3 po o0 o1 o2 o3 tt t0 NF GF TF OF NO GO TO OO DG nn fb)) : PreV s H RX1 h (va_Pc (.ref h :: As) (fun U => U.heap.size = H.size ∧ okJ dC dI cD cZ cI cL h pf f0 f1 f2 f3 po o0 o1 o2 o3 tt t0 NF GF TF OF NO GO TO OO DG nn fb U U.heap ∧ va_D (fun _ => True) (wJ cD cZ cI cL h pf f0 f1 f2 f3 po o0 o1 o2 o3 tt t0 NF GF TF OF NO GO TO OO DG nn fb))) As :=
  ⟨fun a U g mk q => ⟨q.1, q.2.1, ⟨q.2.2.1.1, va_K.moved (u := U) (U := U.calling g mk a) (Vm.Alike.refl U.vm) q.2.2.1.2.1, q.2.2.1.2.2.blind⟩, q.2.2.2⟩, va_recv hO.2.1 hO.1 (ci := 1) (q0 := 0) rfl rfl, fun U hU hW => ⟨rfl, by rw [hU], ⟨by rw [hU]; exact hO.1, va_K.moved hW.alike hO.2.1, hO.2.2.warm hW⟩, hD.weaken (fun _ _ _ _ => trivial)⟩⟩
theorem okJX_pre (hO : okJ dC dI cD cZ cI cL h pf f0 f1 f2 f3 po o0 o1 o2 o3 tt t0 NF GF TF OF NO GO TO OO DG nn fb s H) (hZ : exZ s H) : PreV s H RX1 h (va_Pc (.ref h :: As) (fun U => okJ dC dI cD cZ cI cL h pf f0 f1 f2 f3 po o0 o1 o2 o3 tt t0 NF GF TF OF NO GO TO OO DG nn fb U U.heap ∧ exZ U U.heap)) As :=
  ⟨fun a U g mk q => ⟨q.1, ⟨q.2.1.1, va_K.moved (u := U) (U := U.calling g mk a) (Vm.Alike.refl U.vm) q.2.1.2.1, q.2.1.2.2.blind⟩, exZ.warm (s := U) (U := U.calling g mk a) (Vm.Alike.refl U.vm) q.2.2⟩, va_recv hO.2.1 hO.1 (ci := 1) (q0 := 0) rfl rfl, fun U hU hW => ⟨rfl, ⟨by rw [hU]; exact hO.1, va_K.moved hW.alike hO.2.1, hO.2.2.warm hW⟩, by rw [hU]; exact hZ.warm hW.alike⟩⟩
theorem exX_pre (hE : exS s) (hZ : exZ s H) : PreS s H (va_Pc As (fun U => exS U ∧ exZ U U.heap)) As :=
  ⟨fun a U g mk q => ⟨q.1, q.2.1.blind, exZ.warm (s := U) (U := U.calling g mk a) (Vm.Alike.refl U.vm) q.2.2⟩, fun U hU hW => ⟨rfl, hE.warm hW, by rw [hU]; exact hZ.warm hW.alike⟩⟩
end JPRE
/-- a call that throws E0, and nothing that was there has changed -/
def xN (E0 : String) : String → State → State → Prop := vx_X (fun _ : Unit => True) (fun E _ _ => E = E0) (fun _ => False)
theorem hatN {args : Array Value} {s : State} (hE : exS s) (h1 : ∀ w ∈ (vx_atN RX1 129).filter goodWord, w.before args s = true) : ∀ w ∈ vx_atN RX1 129, w.before args s = true := by
  obtain ⟨-, -, -, -, -, h6, h7, h8, h9, -, -, -, -, -⟩ := hE
  exact vx_hat (B := [.declares (Bundle.initS rtX), .declares (Bundle.initS exX), .declares (Bundle.initS Bundle.tN), .castable nsX nsX]) h1 (by decide +kernel) (vx_c (va_Nw.use rfl h6) (vx_c (va_Nw.use rfl h7) (vx_c (va_Nw.use rfl h8) (vx_c (va_Nw.use rfl h9) vx_n))))
theorem hatIS {args : Array Value} {s : State} (hE : exS s) (h1 : ∀ w ∈ (vx_atS RX1 34 isX [rtX, exX]).filter goodWord, w.before args s = true) : ∀ w ∈ vx_atS RX1 34 isX [rtX, exX], w.before args s = true := by
  obtain ⟨-, -, -, -, -, h6, h7, h8, -, h9, -, -, -, -⟩ := hE
  exact vx_hat (B := [.declares (Bundle.initS rtX), .declares (Bundle.initS exX), .declares (Bundle.initS Bundle.tN), .castable isX isX]) h1 (by decide +kernel) (vx_c (va_Nw.use rfl h6) (vx_c (va_Nw.use rfl h7) (vx_c (va_Nw.use rfl h8) (vx_c (va_Nw.use rfl h9) vx_n))))
theorem hatIA {args : Array Value} {s : State} (hE : exS s) (h1 : ∀ w ∈ (vx_atS RX1 136 iaX [rtX, exX]).filter goodWord, w.before args s = true) : ∀ w ∈ vx_atS RX1 136 iaX [rtX, exX], w.before args s = true := by
  obtain ⟨-, -, -, -, -, h6, h7, h8, -, -, h9, -, -, -⟩ := hE
  exact vx_hat (B := [.declares (Bundle.initS rtX), .declares (Bundle.initS exX), .declares (Bundle.initS Bundle.tN), .castable iaX iaX]) h1 (by decide +kernel) (vx_c (va_Nw.use rfl h6) (vx_c (va_Nw.use rfl h7) (vx_c (va_Nw.use rfl h8) (vx_c (va_Nw.use rfl h9) vx_n))))
theorem otN : ∀ w ∈ Cond.classLink RX1 125 nsX :: Cond.initialized nsX :: vx_atN RX1 129, vx_ot w = true := by decide +kernel
theorem otIS : ∀ w ∈ Cond.classLink RX1 30 isX :: Cond.initialized isX :: vx_atS RX1 34 isX [rtX, exX], vx_ot w = true := by decide +kernel
theorem otIA : ∀ w ∈ Cond.classLink RX1 132 iaX :: Cond.initialized iaX :: vx_atS RX1 136 iaX [rtX, exX], vx_ot w = true := by decide +kernel
theorem xN_of {E0 : String} {s t : State} {H : Heap} (hH : H = s.heap) (h1 : H.size ≤ t.heap.size) (h2 : ∀ q : Nat, q < H.size → t.heap[q]? = H[q]?) : xN E0 E0 s t := by
  subst hH
  exact ⟨(), trivial, rfl, h1, fun q h _ => h2 q h⟩
