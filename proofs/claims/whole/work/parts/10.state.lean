abbrev wP (cD cZ cI : ClassId) (h a0 a1 a2 a3 : Nat) (N : Nat → UInt64) (G T O : Nat → Int32) : va_W := [(h, .inr (0, [.ref a0, .ref a1, .ref a2, .ref a3])), (a0, .inl (cD, 35, .inr (.inr (.inr (.inl N))))), (a1, .inl (cZ, 35, .inl G)), (a2, .inl (cI, 30, .inl T)), (a3, .inl (cI, 6, .inl O))]
abbrev tP (cD cZ cI : ClassId) : List (ClassId × FieldType) := [(cD, .double), (cZ, .boolean), (cI, .int)]
def nW : Cond := .methodLinkNest RX0 40 yX1_cellOf RX1
/-- a panel, its four arrays, and that it may call its nest mate's cellOf -/
def okP (dC : Nat → ClassId) (dI : Nat → Nat → Nat) (cD cZ cI : ClassId) (h a0 a1 a2 a3 : Nat) (N : Nat → UInt64) (G T O : Nat → Int32) (U : State) (H : Heap) : Prop := va_P (dC, dI) vwCl (wP cD cZ cI h a0 a1 a2 a3 N G T O) H ∧ va_K (dC, dI) vwCl (tP cD cZ cI) U ∧ va_Nw nW U
theorem nW_on : nW.onTables = true := rfl
theorem okP_pre {dC : Nat → ClassId} {dI : Nat → Nat → Nat} {cD cZ cI : ClassId} {h a0 a1 a2 a3 : Nat} {N : Nat → UInt64} {G T O : Nat → Int32} {s : State} {H : Heap} {As : List Value} (hO : okP dC dI cD cZ cI h a0 a1 a2 a3 N G T O s H) : PreV s H RX0 h (va_Pc (.ref h :: As) (fun U => okP dC dI cD cZ cI h a0 a1 a2 a3 N G T O U U.heap)) As :=
  ⟨fun a U g mk q => ⟨q.1, q.2.1, va_K.moved (u := U) (U := U.calling g mk a) (Vm.Alike.refl U.vm) q.2.2.1, va_Nw.same nW_on rfl q.2.2.2⟩, va_recv hO.2.1 hO.1 (ci := 0) (q0 := 0) rfl rfl, fun U hU hW => ⟨rfl, by rw [hU]; exact hO.1, va_K.moved hW.alike hO.2.1, va_Nw.warmM hW hO.2.2⟩⟩
theorem preT {s : State} {H : Heap} {As : List Value} : PreS s H (va_Pc As (fun _ => True)) As := ⟨fun _ _ _ _ q => ⟨q.1, trivial⟩, fun _ _ _ => ⟨rfl, trivial⟩⟩
