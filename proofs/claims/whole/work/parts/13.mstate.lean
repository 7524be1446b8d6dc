/-! the reference: its cells, its words -/
theorem nI_nm1 {n : Nat} (h : n < 2 ^ 31) : ¬ nI n = -1 := fun q => by
  have h1 := congrArg Int32.toInt q
  rw [nI_toInt h] at h1
  have h2 : (-1 : Int32).toInt = -1 := by decide
  rw [h2] at h1
  omega
/-- v is one of 0 .. hi - 1 -/
def vB (v : Int32) (hi : Nat) : Bool := decide (¬ v < 0 ∧ ¬ nI hi ≤ v)
theorem vB_nI {n hi : Nat} (h : n < hi) (hh : hi < 2 ^ 31) : vB (nI n) hi = true := decide_eq_true ⟨nI_pos (by omega), fun q => by have := (nI_leI hh (by omega)).mp q; omega⟩
theorem vB_of {v : Int32} {hi : Nat} (h : vB v hi = true) (hh : hi < 2 ^ 31) : ∃ j : Nat, j < hi ∧ v = nI j := by
  obtain ⟨h1, h2⟩ := of_decide_eq_true h
  rcases pk_ix v hh with q | q | q
  · exact absurd q h1
  · exact absurd q h2
  · exact q
theorem i_nle {a b : Int32} : ¬ a ≤ b ↔ b < a := Int32.not_le
def mc (f : Bool) (e b : Nat) : Nat := (if f then 0 else 30) + 5 * e + b
def ml (f : Bool) (b : Nat) : Nat := 60 + (if f then 0 else 5) + b
theorem mc_lt {f : Bool} {e b : Nat} (he : e < 6) (hb : b < 5) : mc f e b < 60 := by unfold mc; cases f <;> simp <;> omega
theorem ml_lt {f : Bool} {b : Nat} (hb : b < 5) : ml f b < 70 := by unfold ml; cases f <;> simp <;> omega
theorem dc_gt {o : Option Ordering} (h : o ≠ none) (h1 : o ≠ some .lt) (h2 : o ≠ some .eq) : o = some .gt := by
  rcases o with _ | _ | _ | _
  · exact absurd rfl h
  · exact absurd rfl h1
  · exact absurd rfl h2
  · rfl
abbrev wM (cD cZ cI cL : ClassId) (h b0 b1 b2 b3 : Nat) (N : Nat → UInt64) (I T R : Nat → Int32) (nn : Nat) (th : Int32) : va_W := [(h, .inr (2, [.ref b0, .ref b1, .ref b2, .ref b3, .int (nI nn), .int th])), (b0, .inl (cD, 70, .inr (.inr (.inr (.inl N))))), (b1, .inl (cZ, 70, .inl I)), (b2, .inl (cI, 60, .inl T)), (b3, .inl (cI, 6, .inl R))]
abbrev okM (dC : Nat → ClassId) (dI : Nat → Nat → Nat) (cD cZ cI cL : ClassId) (h b0 b1 b2 b3 : Nat) (N : Nat → UInt64) (I T R : Nat → Int32) (nn : Nat) (th : Int32) (U : State) (H : Heap) : Prop := va_P (dC, dI) vwCl (wM cD cZ cI cL h b0 b1 b2 b3 N I T R nn th) H ∧ va_K (dC, dI) vwCl (tP cD cZ cI cL) U
abbrev atM (dC : Nat → ClassId) (dI : Nat → Nat → Nat) (cD cZ cI cL : ClassId) (A : Nat → Prop) (h b0 b1 b2 b3 : Nat) (N : Nat → UInt64) (I T R : Nat → Int32) (nn : Nat) (th : Int32) (t : State) : Prop := va_P (dC, dI) vwCl (wM cD cZ cI cL h b0 b1 b2 b3 N I T R nn th) t.heap ∧ va_K (dC, dI) vwCl (tP cD cZ cI cL) t ∧ va_D A (wM cD cZ cI cL h b0 b1 b2 b3 N I T R nn th)
theorem okM_pre {dC : Nat → ClassId} {dI : Nat → Nat → Nat} {cD cZ cI cL : ClassId} {h b0 b1 b2 b3 : Nat} {N : Nat → UInt64} {I T R : Nat → Int32} {nn : Nat} {th : Int32} {s : State} {H : Heap} {As : List Value} (hO : okM dC dI cD cZ cI cL h b0 b1 b2 b3 N I T R nn th s H) : PreV s H RX2 h (va_Pc (.ref h :: As) (fun U => okM dC dI cD cZ cI cL h b0 b1 b2 b3 N I T R nn th U U.heap)) As :=
  ⟨fun a U g mk q => ⟨q.1, q.2.1, va_K.moved (u := U) (U := U.calling g mk a) (Vm.Alike.refl U.vm) q.2.2⟩, va_recv hO.2 hO.1 (ci := 2) (q0 := 0) rfl rfl, fun U hU hW => ⟨rfl, by rw [hU]; exact hO.1, va_K.moved hW.alike hO.2⟩⟩
theorem okMW_pre {dC : Nat → ClassId} {dI : Nat → Nat → Nat} {cD cZ cI cL : ClassId} {h b0 b1 b2 b3 : Nat} {N : Nat → UInt64} {I T R : Nat → Int32} {nn : Nat} {th : Int32} {s : State} {H : Heap} {As : List Value} {A : Nat → Prop} (hO : okM dC dI cD cZ cI cL h b0 b1 b2 b3 N I T R nn th s H) (hD : va_D A (wM cD cZ cI cL h b0 b1 b2 b3 N I T R nn th)) : PreV s H RX2 h (va_Pc (.ref h :: As) (fun U => U.heap.size = H.size ∧ okM dC dI cD cZ cI cL h b0 b1 b2 b3 N I T R nn th U U.heap ∧ va_D (fun _ => True) (wM cD cZ cI cL h b0 b1 b2 b3 N I T R nn th))) As :=
  ⟨fun a U g mk q => ⟨q.1, q.2.1, ⟨q.2.2.1.1, va_K.moved (u := U) (U := U.calling g mk a) (Vm.Alike.refl U.vm) q.2.2.1.2⟩, q.2.2.2⟩, va_recv hO.2 hO.1 (ci := 2) (q0 := 0) rfl rfl, fun U hU hW => ⟨rfl, by rw [hU], ⟨by rw [hU]; exact hO.1, va_K.moved hW.alike hO.2⟩, hD.weaken (fun _ _ _ _ => trivial)⟩⟩
theorem so_den {k : Nat} (hk : k < 24) : decide (k / 6 % 2 = 1) = decide (k / 6 = 1 ∨ k / 6 = 3) := by
  have h : k / 6 < 4 := by omega
  generalize k / 6 = q at h ⊢
  rcases (show q = 0 ∨ q = 1 ∨ q = 2 ∨ q = 3 by omega) with rfl | rfl | rfl | rfl <;> decide
