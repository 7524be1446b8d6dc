abbrev wP (cD cZ cI cL : ClassId) (h a0 a1 a2 a3 : Nat) (N : Nat → UInt64) (G T O : Nat → Int32) : va_W := [(h, .inr (0, [.ref a0, .ref a1, .ref a2, .ref a3])), (a0, .inl (cD, 35, .inr (.inr (.inr (.inl N))))), (a1, .inl (cZ, 35, .inl G)), (a2, .inl (cI, 30, .inl T)), (a3, .inl (cI, 6, .inl O))]
abbrev tP (cD cZ cI cL : ClassId) : List (ClassId × FieldType) := [(cD, .double), (cZ, .boolean), (cI, .int), (cL, .long)]
def nW : Cond := .methodLinkNest RX0 40 yX1_cellOf RX1
/-- a panel, its four arrays, and that it may call its nest mate's cellOf -/
abbrev okP (dC : Nat → ClassId) (dI : Nat → Nat → Nat) (cD cZ cI cL : ClassId) (h a0 a1 a2 a3 : Nat) (N : Nat → UInt64) (G T O : Nat → Int32) (U : State) (H : Heap) : Prop := va_P (dC, dI) vwCl (wP cD cZ cI cL h a0 a1 a2 a3 N G T O) H ∧ va_K (dC, dI) vwCl (tP cD cZ cI cL) U ∧ va_Nw nW U
theorem nW_on : nW.onTables = true := rfl
theorem okP_pre {dC : Nat → ClassId} {dI : Nat → Nat → Nat} {cD cZ cI cL : ClassId} {h a0 a1 a2 a3 : Nat} {N : Nat → UInt64} {G T O : Nat → Int32} {s : State} {H : Heap} {As : List Value} (hO : okP dC dI cD cZ cI cL h a0 a1 a2 a3 N G T O s H) : PreV s H RX0 h (va_Pc (.ref h :: As) (fun U => okP dC dI cD cZ cI cL h a0 a1 a2 a3 N G T O U U.heap)) As :=
  ⟨fun a U g mk q => ⟨q.1, q.2.1, va_K.moved (u := U) (U := U.calling g mk a) (Vm.Alike.refl U.vm) q.2.2.1, va_Nw.same nW_on rfl q.2.2.2⟩, va_recv hO.2.1 hO.1 (ci := 0) (q0 := 0) rfl rfl, fun U hU hW => ⟨rfl, by rw [hU]; exact hO.1, va_K.moved hW.alike hO.2.1, va_Nw.warmM hW hO.2.2⟩⟩
theorem preT {s : State} {H : Heap} {As : List Value} : PreS s H (va_Pc As (fun _ => True)) As := ⟨fun _ _ _ _ q => ⟨q.1, trivial⟩, fun _ _ _ => ⟨rfl, trivial⟩⟩
/-- a panel behind a method that writes -/
abbrev atP (dC : Nat → ClassId) (dI : Nat → Nat → Nat) (cD cZ cI cL : ClassId) (A : Nat → Prop) (h a0 a1 a2 a3 : Nat) (N : Nat → UInt64) (G T O : Nat → Int32) (t : State) : Prop := va_P (dC, dI) vwCl (wP cD cZ cI cL h a0 a1 a2 a3 N G T O) t.heap ∧ va_K (dC, dI) vwCl (tP cD cZ cI cL) t ∧ va_D A (wP cD cZ cI cL h a0 a1 a2 a3 N G T O)
theorem okPW_pre {dC : Nat → ClassId} {dI : Nat → Nat → Nat} {cD cZ cI cL : ClassId} {h a0 a1 a2 a3 : Nat} {N : Nat → UInt64} {G T O : Nat → Int32} {s : State} {H : Heap} {As : List Value} {A : Nat → Prop} (hO : okP dC dI cD cZ cI cL h a0 a1 a2 a3 N G T O s H) (hD : va_D A (wP cD cZ cI cL h a0 a1 a2 a3 N G T O)) : PreV s H RX0 h (va_Pc (.ref h :: As) (fun U => U.heap.size = H.size ∧ okP dC dI cD cZ cI cL h a0 a1 a2 a3 N G T O U U.heap ∧ va_D (fun _ => True) (wP cD cZ cI cL h a0 a1 a2 a3 N G T O))) As :=
  ⟨fun a U g mk q => ⟨q.1, q.2.1, ⟨q.2.2.1.1, va_K.moved (u := U) (U := U.calling g mk a) (Vm.Alike.refl U.vm) q.2.2.1.2.1, va_Nw.same nW_on rfl q.2.2.1.2.2⟩, q.2.2.2⟩, va_recv hO.2.1 hO.1 (ci := 0) (q0 := 0) rfl rfl, fun U hU hW => ⟨rfl, by rw [hU], ⟨by rw [hU]; exact hO.1, va_K.moved hW.alike hO.2.1, va_Nw.warmM hW hO.2.2⟩, hD.weaken (fun _ _ _ _ => trivial)⟩⟩
/-! the order in which a place is found -/
def ins (g : Nat → Nat → Bool) (o : Nat → Nat) (nx : Nat) : Nat → Nat → Nat
  | 0 => va_up o 0 nx
  | k + 1 => if g (o k) nx then ins g (va_up o (k + 1) (o k)) nx k else va_up o (k + 1) nx
def lin (g : Nat → Nat → Bool) : Nat → Nat → Nat
  | 0 => fun _ => 0
  | i + 1 => ins g (lin g i) i i
/-- the row holds o below k, but for the place p -/
def agr (O : Nat → Int32) (o : Nat → Nat) (k p : Nat) : Prop := ∀ j, j < k → j ≠ p → O j = nI (o j) ∧ o j < 6
theorem agr_at {O : Nat → Int32} {o : Nat → Nat} {k p j : Nat} (h : agr O o k p) (hj : j < k) (hp : j ≠ p) : O j = nI (o j) := (h j hj hp).1
theorem agr_lt {O : Nat → Int32} {o : Nat → Nat} {k p j : Nat} (h : agr O o k p) (hj : j < k) (hp : j ≠ p) : o j < 6 := (h j hj hp).2
theorem agr_go {O : Nat → Int32} {o : Nat → Nat} {k p : Nat} (h : agr O o k p) (hp : 0 < p) (hk : p < k) : agr (upd O p (nI (o (p - 1)))) (va_up o p (o (p - 1))) k (p - 1) := by
  intro j hj hne
  by_cases e : j = p
  · subst e
    exact ⟨by unfold upd va_up; rw [if_pos rfl, if_pos rfl], by unfold va_up; rw [if_pos rfl]; exact (h (j - 1) (by omega) (by omega)).2⟩
  · exact ⟨by unfold upd va_up; rw [if_neg e, if_neg e]; exact (h j hj e).1, by unfold va_up; rw [if_neg e]; exact (h j hj e).2⟩
theorem agr_end {O : Nat → Int32} {o : Nat → Nat} {k p nx : Nat} (h : agr O o k p) (hn : nx < 6) : agr (upd O p (nI nx)) (va_up o p nx) k k := by
  intro j hj _
  by_cases e : j = p
  · subst e
    exact ⟨by unfold upd va_up; rw [if_pos rfl, if_pos rfl], by unfold va_up; rw [if_pos rfl]; exact hn⟩
  · exact ⟨by unfold upd va_up; rw [if_neg e, if_neg e]; exact (h j hj e).1, by unfold va_up; rw [if_neg e]; exact (h j hj e).2⟩
theorem agr_beg {O : Nat → Int32} {o : Nat → Nat} {k : Nat} (h : agr O o k k) : agr O o (k + 1) k := fun j hj hne => h j (by omega) (by omega)
theorem agr_cut {O : Nat → Int32} {o : Nat → Nat} {k : Nat} (h : agr O o k k) : ∀ j, j < k → O j = nI (o j) ∧ o j < 6 := fun j hj => h j hj (by omega)
theorem ins_go {g : Nat → Nat → Bool} {o : Nat → Nat} {nx p : Nat} (hp : 0 < p) (h : g (o (p - 1)) nx = true) : ins g (va_up o p (o (p - 1))) nx (p - 1) = ins g o nx p := by
  obtain ⟨k, rfl⟩ : ∃ k, p = k + 1 := ⟨p - 1, by omega⟩
  have h' : g (o k) nx = true := h
  show ins g (va_up o (k + 1) (o k)) nx k = if g (o k) nx then ins g (va_up o (k + 1) (o k)) nx k else va_up o (k + 1) nx
  rw [h']; rfl
theorem ins_stop {g : Nat → Nat → Bool} {o : Nat → Nat} {nx p : Nat} (hp : 0 < p) (h : g (o (p - 1)) nx = false) : va_up o p nx = ins g o nx p := by
  obtain ⟨k, rfl⟩ : ∃ k, p = k + 1 := ⟨p - 1, by omega⟩
  have h' : g (o k) nx = false := h
  show va_up o (k + 1) nx = if g (o k) nx then ins g (va_up o (k + 1) (o k)) nx k else va_up o (k + 1) nx
  rw [h']; rfl
theorem ins_zero {g : Nat → Nat → Bool} {o : Nat → Nat} {nx p : Nat} (hp : p = 0) : va_up o p nx = ins g o nx p := by subst hp; rfl
theorem ins_has (g : Nat → Nat → Bool) (nx e : Nat) : ∀ (p : Nat) (o : Nat → Nat) (n : Nat), p ≤ n → (e = nx ∨ ∃ j, j ≤ n ∧ j ≠ p ∧ o j = e) → ∃ j, j ≤ n ∧ ins g o nx p j = e
  | 0, o, n, _, h => by
    rcases h with rfl | ⟨j, h1, h2, h3⟩
    · exact ⟨0, by omega, by show va_up o 0 e 0 = e; unfold va_up; rw [if_pos rfl]⟩
    · exact ⟨j, h1, by show va_up o 0 nx j = e; unfold va_up; rw [if_neg h2]; exact h3⟩
  | k + 1, o, n, hk, h => by
    cases hg : g (o k) nx
    · refine (?_ : ∃ j, j ≤ n ∧ (if g (o k) nx then ins g (va_up o (k + 1) (o k)) nx k else va_up o (k + 1) nx) j = e)
      rw [hg]
      rcases h with rfl | ⟨j, h1, h2, h3⟩
      · exact ⟨k + 1, hk, by show va_up o (k + 1) e (k + 1) = e; unfold va_up; rw [if_pos rfl]⟩
      · exact ⟨j, h1, by show va_up o (k + 1) nx j = e; unfold va_up; rw [if_neg h2]; exact h3⟩
    · refine (?_ : ∃ j, j ≤ n ∧ (if g (o k) nx then ins g (va_up o (k + 1) (o k)) nx k else va_up o (k + 1) nx) j = e)
      rw [hg]
      refine ins_has g nx e k (va_up o (k + 1) (o k)) n (by omega) ?_
      rcases h with rfl | ⟨j, h1, h2, h3⟩
      · exact Or.inl rfl
      · by_cases e1 : j = k
        · exact Or.inr ⟨k + 1, hk, by omega, by unfold va_up; rw [if_pos rfl, ← e1]; exact h3⟩
        · exact Or.inr ⟨j, h1, e1, by unfold va_up; rw [if_neg h2]; exact h3⟩
theorem lin_has (g : Nat → Nat → Bool) (e : Nat) : ∀ n : Nat, e < n → ∃ j, j < n ∧ lin g n j = e
  | 0, h => absurd h (Nat.not_lt_zero _)
  | n + 1, h => by
    have h1 : e = n ∨ ∃ j, j ≤ n ∧ j ≠ n ∧ lin g n j = e := by
      rcases Nat.lt_or_ge e n with q | q
      · obtain ⟨j, h1, h2⟩ := lin_has g e n q
        exact Or.inr ⟨j, by omega, by omega, h2⟩
      · exact Or.inl (by omega)
    obtain ⟨j, h2, h3⟩ := ins_has g n e n (lin g n) n (Nat.le_refl n) h1
    exact ⟨j, by omega, h3⟩
theorem acJ {D : va_G} {cl : List vw_C} {tys : List (ClassId × FieldType)} {s : State} {a b : ClassId} (hK : va_K D cl tys s) (i j : Nat) (hi : tys[i]? = some (a, .long)) (hj : tys[j]? = some (b, .long)) : a = b := by
  have h1 : s.vm.findClass ("[" ++ FieldType.long.toString) = some a := (hK.2 i _ hi).2
  have h2 : s.vm.findClass ("[" ++ FieldType.long.toString) = some b := (hK.2 j _ hj).2
  exact Option.some.inj (h1.symm.trans h2)
abbrev okN (dC : Nat → ClassId) (dI : Nat → Nat → Nat) (cD cZ cI cL : ClassId) (ws : va_W) (U : State) (H : Heap) : Prop := va_P (dC, dI) vwCl ws H ∧ va_K (dC, dI) vwCl (tP cD cZ cI cL) U
theorem okN_preS {dC : Nat → ClassId} {dI : Nat → Nat → Nat} {cD cZ cI cL : ClassId} {ws : va_W} {s : State} {H : Heap} {As : List Value} {A : Nat → Prop} (hP : va_P (dC, dI) vwCl ws H) (hK : va_K (dC, dI) vwCl (tP cD cZ cI cL) s) (hD : va_D A ws) : PreS s H (va_Pc As (fun U => U.heap.size = H.size ∧ okN dC dI cD cZ cI cL ws U U.heap ∧ va_D (fun _ => True) ws)) As :=
  ⟨fun a U g mk q => ⟨q.1, q.2.1, ⟨q.2.2.1.1, va_K.moved (u := U) (U := U.calling g mk a) (Vm.Alike.refl U.vm) q.2.2.1.2⟩, q.2.2.2⟩, fun U hU hW => ⟨rfl, by rw [hU], ⟨by rw [hU]; exact hP, va_K.moved hW.alike hK⟩, hD.weaken (fun _ _ _ _ => trivial)⟩⟩
abbrev atN (dC : Nat → ClassId) (dI : Nat → Nat → Nat) (cD cZ cI cL : ClassId) (A : Nat → Prop) (ws : va_W) (t : State) : Prop := va_P (dC, dI) vwCl ws t.heap ∧ va_K (dC, dI) vwCl (tP cD cZ cI cL) t ∧ va_D A ws
/-! the sum's digits: their object, and a panel with it -/
abbrev wT (cL : ClassId) (h t0 : Nat) (D : Nat → Int64) : va_W := [(h, .inr (3, [.ref t0])), (t0, .inl (cL, 42, .inr (.inl D)))]
abbrev okT (dC : Nat → ClassId) (dI : Nat → Nat → Nat) (cD cZ cI cL : ClassId) (h t0 : Nat) (D : Nat → Int64) (U : State) (H : Heap) : Prop := va_P (dC, dI) vwCl (wT cL h t0 D) H ∧ va_K (dC, dI) vwCl (tP cD cZ cI cL) U
abbrev atT (dC : Nat → ClassId) (dI : Nat → Nat → Nat) (cD cZ cI cL : ClassId) (A : Nat → Prop) (h t0 : Nat) (D : Nat → Int64) (t : State) : Prop := va_P (dC, dI) vwCl (wT cL h t0 D) t.heap ∧ va_K (dC, dI) vwCl (tP cD cZ cI cL) t ∧ va_D A (wT cL h t0 D)
theorem okT_pre {dC : Nat → ClassId} {dI : Nat → Nat → Nat} {cD cZ cI cL : ClassId} {h t0 : Nat} {D : Nat → Int64} {s : State} {H : Heap} {As : List Value} (hO : okT dC dI cD cZ cI cL h t0 D s H) : PreV s H RX3 h (va_Pc (.ref h :: As) (fun U => okT dC dI cD cZ cI cL h t0 D U U.heap)) As :=
  ⟨fun a U g mk q => ⟨q.1, q.2.1, va_K.moved (u := U) (U := U.calling g mk a) (Vm.Alike.refl U.vm) q.2.2⟩, va_recv hO.2 hO.1 (ci := 3) (q0 := 0) rfl rfl, fun U hU hW => ⟨rfl, by rw [hU]; exact hO.1, va_K.moved hW.alike hO.2⟩⟩
theorem okTW_pre {dC : Nat → ClassId} {dI : Nat → Nat → Nat} {cD cZ cI cL : ClassId} {h t0 : Nat} {D : Nat → Int64} {s : State} {H : Heap} {As : List Value} {A : Nat → Prop} (hO : okT dC dI cD cZ cI cL h t0 D s H) (hD : va_D A (wT cL h t0 D)) : PreV s H RX3 h (va_Pc (.ref h :: As) (fun U => U.heap.size = H.size ∧ okT dC dI cD cZ cI cL h t0 D U U.heap ∧ va_D (fun _ => True) (wT cL h t0 D))) As :=
  ⟨fun a U g mk q => ⟨q.1, q.2.1, ⟨q.2.2.1.1, va_K.moved (u := U) (U := U.calling g mk a) (Vm.Alike.refl U.vm) q.2.2.1.2⟩, q.2.2.2⟩, va_recv hO.2 hO.1 (ci := 3) (q0 := 0) rfl rfl, fun U hU hW => ⟨rfl, by rw [hU], ⟨by rw [hU]; exact hO.1, va_K.moved hW.alike hO.2⟩, hD.weaken (fun _ _ _ _ => trivial)⟩⟩
abbrev wS (cD cZ cI cL : ClassId) (h a0 a1 a2 a3 tt t0 : Nat) (N : Nat → UInt64) (G T O : Nat → Int32) (D : Nat → Int64) : va_W := [(h, .inr (0, [.ref a0, .ref a1, .ref a2, .ref a3])), (a0, .inl (cD, 35, .inr (.inr (.inr (.inl N))))), (a1, .inl (cZ, 35, .inl G)), (a2, .inl (cI, 30, .inl T)), (a3, .inl (cI, 6, .inl O)), (tt, .inr (3, [.ref t0])), (t0, .inl (cL, 42, .inr (.inl D)))]
abbrev okS (dC : Nat → ClassId) (dI : Nat → Nat → Nat) (cD cZ cI cL : ClassId) (h a0 a1 a2 a3 tt t0 : Nat) (N : Nat → UInt64) (G T O : Nat → Int32) (D : Nat → Int64) (U : State) (H : Heap) : Prop := va_P (dC, dI) vwCl (wS cD cZ cI cL h a0 a1 a2 a3 tt t0 N G T O D) H ∧ va_K (dC, dI) vwCl (tP cD cZ cI cL) U ∧ va_Nw nW U
abbrev atS (dC : Nat → ClassId) (dI : Nat → Nat → Nat) (cD cZ cI cL : ClassId) (A : Nat → Prop) (h a0 a1 a2 a3 tt t0 : Nat) (N : Nat → UInt64) (G T O : Nat → Int32) (D : Nat → Int64) (t : State) : Prop := va_P (dC, dI) vwCl (wS cD cZ cI cL h a0 a1 a2 a3 tt t0 N G T O D) t.heap ∧ va_K (dC, dI) vwCl (tP cD cZ cI cL) t ∧ va_D A (wS cD cZ cI cL h a0 a1 a2 a3 tt t0 N G T O D)
theorem okSW_pre {dC : Nat → ClassId} {dI : Nat → Nat → Nat} {cD cZ cI cL : ClassId} {h a0 a1 a2 a3 tt t0 : Nat} {N : Nat → UInt64} {G T O : Nat → Int32} {D : Nat → Int64} {s : State} {H : Heap} {As : List Value} {A : Nat → Prop} (hO : okS dC dI cD cZ cI cL h a0 a1 a2 a3 tt t0 N G T O D s H) (hD : va_D A (wS cD cZ cI cL h a0 a1 a2 a3 tt t0 N G T O D)) : PreV s H RX0 h (va_Pc (.ref h :: As) (fun U => U.heap.size = H.size ∧ okS dC dI cD cZ cI cL h a0 a1 a2 a3 tt t0 N G T O D U U.heap ∧ va_D (fun _ => True) (wS cD cZ cI cL h a0 a1 a2 a3 tt t0 N G T O D))) As :=
  ⟨fun a U g mk q => ⟨q.1, q.2.1, ⟨q.2.2.1.1, va_K.moved (u := U) (U := U.calling g mk a) (Vm.Alike.refl U.vm) q.2.2.1.2.1, va_Nw.same nW_on rfl q.2.2.1.2.2⟩, q.2.2.2⟩, va_recv hO.2.1 hO.1 (ci := 0) (q0 := 0) rfl rfl, fun U hU hW => ⟨rfl, by rw [hU], ⟨by rw [hU]; exact hO.1, va_K.moved hW.alike hO.2.1, va_Nw.warmM hW hO.2.2⟩, hD.weaken (fun _ _ _ _ => trivial)⟩⟩
theorem updL_all {f : Nat → Int64} {i : Nat} {x : Int64} (h : ∀ j, j < i → f j = x) : ∀ j, j < i + 1 → vp_updL f i x j = x := fun j hj => by
  unfold vp_updL
  by_cases e : j = i
  · rw [if_pos e]
  · rw [if_neg e]; exact h j (by omega)
