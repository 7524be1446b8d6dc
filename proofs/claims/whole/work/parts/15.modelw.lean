set_option maxHeartbeats 4000000 in
set_option maxRecDepth 100000 in
theorem c_X2_fail (l : Launch) (dC : Nat → ClassId) (dI : Nat → Nat → Nat) (cD cZ cI cL : ClassId) (h b0 b1 b2 b3 : Nat) (N : Nat → UInt64) (I T R : Nat → Int32) (nn : Nat) (th : Int32) (sz : Nat) (wv : Int32) : Met l yX2_fail wsX2_fail ({ frames := 0, cells := 0, slots := 0, locals := 0 }) (va_Pc [.ref h, .int (wv)] (fun U => U.heap.size = sz ∧ okM dC dI cD cZ cI cL h b0 b1 b2 b3 N I T R nn th U U.heap ∧ va_D (fun _ => True) (wM cD cZ cI cL h b0 b1 b2 b3 N I T R nn th))) (va_Qi (fun (r : Int32) (_ : Unit) => r = nI (Bool.toNat false)) (fun _ t => atM dC dI cD cZ cI cL (va_A (wM cD cZ cI cL h b0 b1 b2 b3 N I T R nn th) sz) h b0 b1 b2 b3 N I T R nn wv t) (va_A (wM cD cZ cI cL h b0 b1 b2 b3 N I T R nn th) sz)) 0 0 (va_A (wM cD cZ cI cL h b0 b1 b2 b3 N I T R nn th) sz) := by
  refine Met.ofW (cc := cX2_fail) (maxL := 2) (ret := (some .boolean)) (by decide) rfl ?_
  intro p e s m args below meth c s₁ B hml hv
  obtain ⟨rfl, hsz, hO, hD0⟩ := hv
  obtain ⟨hP, hK⟩ := id hO
  have hx := B.exec
  have hb := B.bytes
  have hr := B.returns
  have hts := atoms_spec (ws := wsX2_fail) B.pre
  have hown : s.vm.findClass RX2 = some m.cls := findClass_of_methodNamed B.named
  have hlocks := B.notSynchronized
  subst hsz
  have hD := hD0.self (sz := s.heap.size)
  generalize hAe : va_A (wM cD cZ cI cL h b0 b1 b2 b3 N I T R nn th) s.heap.size = A at hD ⊢
  have hA : ∀ q : Nat, s.heap.size ≤ q → A q := fun q h => by rw [← hAe]; exact Or.inr h
  have hS : va_S A s.heap s.heap [] := va_S.rf
  have hP : va_P (dC, dI) vwCl [(h, .inr (2, [.ref b0, .ref b1, .ref b2, .ref b3, .int (nI (nn)), .int (th)])), (b0, .inl (cD, 70, .inr (.inr (.inr (.inl (N)))))), (b1, .inl (cZ, 70, .inl (I))), (b2, .inl (cI, 60, .inl (T))), (b3, .inl (cI, 6, .inl (R)))] s.heap := hP
  have hD : va_D A [(h, .inr (2, [.ref b0, .ref b1, .ref b2, .ref b3, .int (nI (nn)), .int (th)])), (b0, .inl (cD, 70, .inr (.inr (.inr (.inl (N)))))), (b1, .inl (cZ, 70, .inl (I))), (b2, .inl (cI, 60, .inl (T))), (b3, .inl (cI, 6, .inl (R)))] := hD
  have hin2 : ∀ w ∈ wsX20, w ∈ wsX2_fail := (fun w h => List.mem_cons_of_mem _ (List.mem_append_right _ h))
  have fl24 := hts (.fieldLink RX2 24 "JuryTableModel" "thrown" "I") (by decide +kernel)
  have hl := lv_entry ([.ref h, .int (wv)]) (n := 2) (Nat.le_of_ble_eq_true rfl)
  rw [lg_entry_eq]
  generalize (lg_sl ([.ref h, .int (wv)]) ++ List.replicate (2 - (lg_sl ([.ref h, .int (wv)])).length) Slot.unset).toArray = ls at hl ⊢
  have hl : lv_has ls 2 [(0, .ref h), (1, .int (wv))] := hl
  refine lv_aload_n hx hb dX2_fail_0 rfl (lv_at hl 0 rfl) ?_
  refine lv_iload_n hx hb dX2_fail_1 rfl (lv_at hl 1 rfl) ?_
  refine va_put (D := (dC, dI)) (ci := 2) (v := .int (wv)) (ty := .int) (C := RX2) (T := TX2) (N := 6) hx hb hts hin2 tyX2 tyX2_ok nmX2 hown hK hP hD hS 0 rfl rfl 5 (by decide) fl24 (fun _ h9 => h9) rfl (by decide +kernel) rfl rfl (Nat.le_of_ble_eq_true rfl) dX2_fail_2 (fun H locs hP hD hS => ?_)
  have hP : va_P (dC, dI) vwCl [(h, .inr (2, [.ref b0, .ref b1, .ref b2, .ref b3, .int (nI (nn)), .int (wv)])), (b0, .inl (cD, 70, .inr (.inr (.inr (.inl (N)))))), (b1, .inl (cZ, 70, .inl (I))), (b2, .inl (cI, 60, .inl (T))), (b3, .inl (cI, 6, .inl (R)))] H := hP
  have hD : va_D A [(h, .inr (2, [.ref b0, .ref b1, .ref b2, .ref b3, .int (nI (nn)), .int (wv)])), (b0, .inl (cD, 70, .inr (.inr (.inr (.inl (N)))))), (b1, .inl (cZ, 70, .inl (I))), (b2, .inl (cI, 60, .inl (T))), (b3, .inl (cI, 6, .inl (R)))] := hD
  refine lv_iconst (v := nI 0) hx hb dX2_fail_5 (by decide) ?_
  exact W.zret (v := nI (Bool.toNat false)) (ty := .boolean) hx hb hr (xb_nar false) (fun t ht hW => ⟨⟨_, (), rfl, rfl, by rw [ht]; exact hP, va_K.moved hW.alike hK, hD⟩, hS.F ht⟩) hS.2.2 dX2_fail_6
set_option maxHeartbeats 4000000 in
set_option maxRecDepth 100000 in
theorem c_X2_hasEntry_ok (l : Launch) (dC : Nat → ClassId) (dI : Nat → Nat → Nat) (cD cZ cI cL : ClassId) (h b0 b1 b2 b3 : Nat) (N : Nat → UInt64) (I T R : Nat → Int32) (nn : Nat) (th : Int32) (xn : Nat) (hxn : xn < nn) (hnn : nn ≤ 6) : Met l yX2_hasEntry wsX2_hasEntry ({ frames := 1, cells := 0, slots := 0, locals := 21 }) (va_Pc [.ref h, .int (nI (xn))] (fun U => okM dC dI cD cZ cI cL h b0 b1 b2 b3 N I T R nn th U U.heap)) (vp_Si (fun r => r = nI (Bool.toNat true))) 0 0 (fun _ => False) := by
  refine Met.ofW (cc := cX2_hasEntry) (maxL := 2) (ret := (some .boolean)) (by decide) rfl ?_
  intro p e s m args below meth c s₁ B hml hv
  obtain ⟨rfl, hO⟩ := hv
  obtain ⟨hP, hK⟩ := id hO
  have hP : va_P (dC, dI) vwCl [(h, .inr (2, [.ref b0, .ref b1, .ref b2, .ref b3, .int (nI (nn)), .int (th)])), (b0, .inl (cD, 70, .inr (.inr (.inr (.inl (N)))))), (b1, .inl (cZ, 70, .inl (I))), (b2, .inl (cI, 60, .inl (T))), (b3, .inl (cI, 6, .inl (R)))] s.heap := hP
  have hx := B.exec
  have hb := B.bytes
  have hr := B.returns
  have hts := atoms_spec (ws := wsX2_hasEntry) B.pre
  have hown : s.vm.findClass RX2 = some m.cls := findClass_of_methodNamed B.named
  have hlocks := B.notSynchronized
  have hin2 : ∀ w ∈ wsX20, w ∈ wsX2_hasEntry := (fun w h => List.mem_cons_of_mem _ (List.mem_append_right _ h))
  have fl28 := hts (.fieldLink RX2 28 "JuryTableModel" "entries" "I") (by decide +kernel)
  have hl := lv_entry ([.ref h, .int (nI (xn))]) (n := 2) (Nat.le_of_ble_eq_true rfl)
  rw [lg_entry_eq]
  generalize (lg_sl ([.ref h, .int (nI (xn))]) ++ List.replicate (2 - (lg_sl ([.ref h, .int (nI (xn))])).length) Slot.unset).toArray = ls at hl ⊢
  have hl : lv_has ls 2 [(0, .ref h), (1, .int (nI (xn)))] := hl
  refine lv_iload_n hx hb dX2_hasEntry_0 rfl (lv_at hl 1 rfl) ?_
  refine lv_aload_n hx hb dX2_hasEntry_1 rfl (lv_at hl 0 rfl) ?_
  refine va_get (D := (dC, dI)) (ci := 2) (v := .int (nI (nn))) (C := RX2) (T := TX2) (N := 6) hx hb hts hin2 hown hK hP 0 rfl rfl 4 (by decide) fl28 (fun _ h9 => h9) rfl dX2_hasEntry_2 ?_
  refine vp_callSi (va_Run.run (va_runS (As := [.int (nI (xn)), .int (nI (nn))]) (rest := []) ⟨hx, hb, hml, hown, hts⟩ (c_X2_in l (nI xn) (nn)) (va_cwS 2 hts gX2_hasEntry_X2_in rfl rfl rfl (by decide +kernel) ⟨Nat.le_of_ble_eq_true rfl, Nat.le_of_ble_eq_true rfl⟩) preT rfl rfl hl.1 rfl (lv_room (Nat.le_of_ble_eq_true rfl)) dX2_hasEntry_5 ⟨Nat.zero_le _, Nat.zero_le _⟩)) (fun r1 er1 => ?_)
  subst er1
  rw [vB_nI (show xn < nn by omega) (by omega)]
  refine xb_if_ne (tgt := 19) hx hb dX2_hasEntry_8 (by decide) (fun _ => ?_) (fun q => absurd q (by decide))
  refine lv_iconst (v := nI 1) hx hb dX2_hasEntry_19 (by decide) ?_
  refine lv_goto (tgt := 24) hx hb dX2_hasEntry_20 (by decide) ?_
  exact W.zret (v := nI (Bool.toNat true)) (ty := .boolean) hx hb hr (xb_nar true) (fun t ht hW => ⟨_, rfl, rfl, ht⟩) (fun q hq => absurd hq List.not_mem_nil) dX2_hasEntry_24
set_option maxHeartbeats 4000000 in
set_option maxRecDepth 100000 in
theorem c_X2_hasEntry_no (l : Launch) (dC : Nat → ClassId) (dI : Nat → Nat → Nat) (cD cZ cI cL : ClassId) (h b0 b1 b2 b3 : Nat) (N : Nat → UInt64) (I T R : Nat → Int32) (nn : Nat) (th : Int32) (sz : Nat) (xv : Int32) (hbad : vB xv nn = false) : Met l yX2_hasEntry wsX2_hasEntry ({ frames := 1, cells := 0, slots := 0, locals := 21 }) (va_Pc [.ref h, .int (xv)] (fun U => U.heap.size = sz ∧ okM dC dI cD cZ cI cL h b0 b1 b2 b3 N I T R nn th U U.heap ∧ va_D (fun _ => True) (wM cD cZ cI cL h b0 b1 b2 b3 N I T R nn th))) (va_Qi (fun (r : Int32) (_ : Unit) => r = nI (Bool.toNat false)) (fun _ t => atM dC dI cD cZ cI cL (va_A (wM cD cZ cI cL h b0 b1 b2 b3 N I T R nn th) sz) h b0 b1 b2 b3 N I T R nn (nI 1) t) (va_A (wM cD cZ cI cL h b0 b1 b2 b3 N I T R nn th) sz)) 0 0 (va_A (wM cD cZ cI cL h b0 b1 b2 b3 N I T R nn th) sz) := by
  refine Met.ofW (cc := cX2_hasEntry) (maxL := 2) (ret := (some .boolean)) (by decide) rfl ?_
  intro p e s m args below meth c s₁ B hml hv
  obtain ⟨rfl, hsz, hO, hD0⟩ := hv
  obtain ⟨hP, hK⟩ := id hO
  have hx := B.exec
  have hb := B.bytes
  have hr := B.returns
  have hts := atoms_spec (ws := wsX2_hasEntry) B.pre
  have hown : s.vm.findClass RX2 = some m.cls := findClass_of_methodNamed B.named
  have hlocks := B.notSynchronized
  subst hsz
  have hD := hD0.self (sz := s.heap.size)
  generalize hAe : va_A (wM cD cZ cI cL h b0 b1 b2 b3 N I T R nn th) s.heap.size = A at hD ⊢
  have hA : ∀ q : Nat, s.heap.size ≤ q → A q := fun q h => by rw [← hAe]; exact Or.inr h
  have hS : va_S A s.heap s.heap [] := va_S.rf
  have hP : va_P (dC, dI) vwCl [(h, .inr (2, [.ref b0, .ref b1, .ref b2, .ref b3, .int (nI (nn)), .int (th)])), (b0, .inl (cD, 70, .inr (.inr (.inr (.inl (N)))))), (b1, .inl (cZ, 70, .inl (I))), (b2, .inl (cI, 60, .inl (T))), (b3, .inl (cI, 6, .inl (R)))] s.heap := hP
  have hD : va_D A [(h, .inr (2, [.ref b0, .ref b1, .ref b2, .ref b3, .int (nI (nn)), .int (th)])), (b0, .inl (cD, 70, .inr (.inr (.inr (.inl (N)))))), (b1, .inl (cZ, 70, .inl (I))), (b2, .inl (cI, 60, .inl (T))), (b3, .inl (cI, 6, .inl (R)))] := hD
  have hin2 : ∀ w ∈ wsX20, w ∈ wsX2_hasEntry := (fun w h => List.mem_cons_of_mem _ (List.mem_append_right _ h))
  have fl28 := hts (.fieldLink RX2 28 "JuryTableModel" "entries" "I") (by decide +kernel)
  have hl := lv_entry ([.ref h, .int (xv)]) (n := 2) (Nat.le_of_ble_eq_true rfl)
  rw [lg_entry_eq]
  generalize (lg_sl ([.ref h, .int (xv)]) ++ List.replicate (2 - (lg_sl ([.ref h, .int (xv)])).length) Slot.unset).toArray = ls at hl ⊢
  have hl : lv_has ls 2 [(0, .ref h), (1, .int (xv))] := hl
  refine lv_iload_n hx hb dX2_hasEntry_0 rfl (lv_at hl 1 rfl) ?_
  refine lv_aload_n hx hb dX2_hasEntry_1 rfl (lv_at hl 0 rfl) ?_
  refine va_get (D := (dC, dI)) (ci := 2) (v := .int (nI (nn))) (C := RX2) (T := TX2) (N := 6) hx hb hts hin2 hown hK hP 0 rfl rfl 4 (by decide) fl28 (fun _ h9 => h9) rfl dX2_hasEntry_2 ?_
  refine vp_callSi (va_Run.run (va_runS (As := [.int (xv), .int (nI (nn))]) (rest := []) ⟨hx, hb, hml, hown, hts⟩ (c_X2_in l (xv) (nn)) (va_cwS 2 hts gX2_hasEntry_X2_in rfl rfl rfl (by decide +kernel) ⟨Nat.le_of_ble_eq_true rfl, Nat.le_of_ble_eq_true rfl⟩) preT rfl rfl hl.1 rfl (lv_room (Nat.le_of_ble_eq_true rfl)) dX2_hasEntry_5 ⟨Nat.zero_le _, Nat.zero_le _⟩)) (fun r1 er1 => ?_)
  subst er1
  rw [hbad]
  refine xb_if_ne (tgt := 19) hx hb dX2_hasEntry_8 (by decide) (fun q => absurd q (by decide)) (fun _ => ?_)
  refine lv_aload_n hx hb dX2_hasEntry_11 rfl (lv_at hl 0 rfl) ?_
  refine lv_iconst (v := nI 1) hx hb dX2_hasEntry_12 (by decide) ?_
  have hPc := hP.sub (ws' := [(h, .inr (2, [.ref b0, .ref b1, .ref b2, .ref b3, .int (nI (nn)), .int (th)])), (b0, .inl (cD, 70, .inr (.inr (.inr (.inl (N)))))), (b1, .inl (cZ, 70, .inl (I))), (b2, .inl (cI, 60, .inl (T))), (b3, .inl (cI, 6, .inl (R)))]) [0, 1, 2, 3, 4] rfl
  have hDc := hD.sub (ws' := [(h, .inr (2, [.ref b0, .ref b1, .ref b2, .ref b3, .int (nI (nn)), .int (th)])), (b0, .inl (cD, 70, .inr (.inr (.inr (.inl (N)))))), (b1, .inl (cZ, 70, .inl (I))), (b2, .inl (cI, 60, .inl (T))), (b3, .inl (cI, 6, .inl (R)))]) [0, 1, 2, 3, 4] (by decide) rfl
  have hFc := va_free (wc := [(h, .inr (2, [.ref b0, .ref b1, .ref b2, .ref b3, .int (nI (nn)), .int (th)])), (b0, .inl (cD, 70, .inr (.inr (.inr (.inl (N)))))), (b1, .inl (cZ, 70, .inl (I))), (b2, .inl (cI, 60, .inl (T))), (b3, .inl (cI, 6, .inl (R)))]) hD hS hA [0, 1, 2, 3, 4] rfl
  refine va_calli (va_runV (As := [.int (nI (1))]) (rest := []) ⟨hx, hb, hml, hown, hts⟩ (c_X2_fail l dC dI cD cZ cI cL h b0 b1 b2 b3 N I T R nn th s.heap.size (nI 1)) (cwV 1 hts gX2_hasEntry_X2_fail rfl rfl rfl (by decide +kernel) ⟨Nat.le_of_ble_eq_true rfl, Nat.le_of_ble_eq_true rfl⟩) (okMW_pre ⟨hP, hK⟩ hD) rfl rfl hl.1 rfl (lv_room (Nat.le_of_ble_eq_true rfl)) dX2_hasEntry_13 ⟨Nat.zero_le _, Nat.zero_le _⟩) hS (fun q _ h => hFc q h) hFc (fun r2 u2 t H1 locs ht hvm hw hB hz1 hk1 hS => ?_)
  obtain ⟨hP1, hK1, hD1⟩ := hB
  rw [ht] at hP1
  have hD := hD1.weaken (fun _ q _ h => hFc q.1 h)
  have hP := hP1
  generalize H1 = H at hP hS ⊢
  have hP : va_P (dC, dI) vwCl [(h, .inr (2, [.ref b0, .ref b1, .ref b2, .ref b3, .int (nI (nn)), .int (nI (1))])), (b0, .inl (cD, 70, .inr (.inr (.inr (.inl (N)))))), (b1, .inl (cZ, 70, .inl (I))), (b2, .inl (cI, 60, .inl (T))), (b3, .inl (cI, 6, .inl (R)))] H := hP
  have hD : va_D A [(h, .inr (2, [.ref b0, .ref b1, .ref b2, .ref b3, .int (nI (nn)), .int (nI (1))])), (b0, .inl (cD, 70, .inr (.inr (.inr (.inl (N)))))), (b1, .inl (cZ, 70, .inl (I))), (b2, .inl (cI, 60, .inl (T))), (b3, .inl (cI, 6, .inl (R)))] := hD
  subst hw
  refine xb_if_eq (tgt := 23) hx hb dX2_hasEntry_16 (by decide) (fun _ => ?_) (fun q => absurd q (by decide))
  refine lv_iconst (v := nI 0) hx hb dX2_hasEntry_23 (by decide) ?_
  exact W.zret (v := nI (Bool.toNat false)) (ty := .boolean) hx hb hr (xb_nar false) (fun t ht hW => ⟨⟨_, (), rfl, rfl, by rw [ht]; exact hP, va_K.moved hW.alike hK, hD⟩, hS.F ht⟩) hS.2.2 dX2_hasEntry_24
set_option maxHeartbeats 4000000 in
set_option maxRecDepth 100000 in
theorem c_X2_hasSeat_ok (l : Launch) (dC : Nat → ClassId) (dI : Nat → Nat → Nat) (cD cZ cI cL : ClassId) (h b0 b1 b2 b3 : Nat) (N : Nat → UInt64) (I T R : Nat → Int32) (nn : Nat) (th : Int32) (xn : Nat) (hxn : xn < 5) : Met l yX2_hasSeat wsX2_hasSeat ({ frames := 1, cells := 0, slots := 0, locals := 21 }) (va_Pc [.ref h, .int (nI (xn))] (fun U => okM dC dI cD cZ cI cL h b0 b1 b2 b3 N I T R nn th U U.heap)) (vp_Si (fun r => r = nI (Bool.toNat true))) 0 0 (fun _ => False) := by
  refine Met.ofW (cc := cX2_hasSeat) (maxL := 2) (ret := (some .boolean)) (by decide) rfl ?_
  intro p e s m args below meth c s₁ B hml hv
  obtain ⟨rfl, hO⟩ := hv
  obtain ⟨hP, hK⟩ := id hO
  have hP : va_P (dC, dI) vwCl [(h, .inr (2, [.ref b0, .ref b1, .ref b2, .ref b3, .int (nI (nn)), .int (th)])), (b0, .inl (cD, 70, .inr (.inr (.inr (.inl (N)))))), (b1, .inl (cZ, 70, .inl (I))), (b2, .inl (cI, 60, .inl (T))), (b3, .inl (cI, 6, .inl (R)))] s.heap := hP
  have hx := B.exec
  have hb := B.bytes
  have hr := B.returns
  have hts := atoms_spec (ws := wsX2_hasSeat) B.pre
  have hown : s.vm.findClass RX2 = some m.cls := findClass_of_methodNamed B.named
  have hlocks := B.notSynchronized
  have hl := lv_entry ([.ref h, .int (nI (xn))]) (n := 2) (Nat.le_of_ble_eq_true rfl)
  rw [lg_entry_eq]
  generalize (lg_sl ([.ref h, .int (nI (xn))]) ++ List.replicate (2 - (lg_sl ([.ref h, .int (nI (xn))])).length) Slot.unset).toArray = ls at hl ⊢
  have hl : lv_has ls 2 [(0, .ref h), (1, .int (nI (xn)))] := hl
  refine lv_iload_n hx hb dX2_hasSeat_0 rfl (lv_at hl 1 rfl) ?_
  refine lv_iconst (v := nI 5) hx hb dX2_hasSeat_1 (by decide) ?_
  refine vp_callSi (va_Run.run (va_runS (As := [.int (nI (xn)), .int (nI (5))]) (rest := []) ⟨hx, hb, hml, hown, hts⟩ (c_X2_in l (nI xn) (5)) (va_cwS 2 hts gX2_hasSeat_X2_in rfl rfl rfl (by decide +kernel) ⟨Nat.le_of_ble_eq_true rfl, Nat.le_of_ble_eq_true rfl⟩) preT rfl rfl hl.1 rfl (lv_room (Nat.le_of_ble_eq_true rfl)) dX2_hasSeat_2 ⟨Nat.zero_le _, Nat.zero_le _⟩)) (fun r1 er1 => ?_)
  subst er1
  rw [vB_nI (show xn < 5 by omega) (by omega)]
  refine xb_if_ne (tgt := 16) hx hb dX2_hasSeat_5 (by decide) (fun _ => ?_) (fun q => absurd q (by decide))
  refine lv_iconst (v := nI 1) hx hb dX2_hasSeat_16 (by decide) ?_
  refine lv_goto (tgt := 21) hx hb dX2_hasSeat_17 (by decide) ?_
  exact W.zret (v := nI (Bool.toNat true)) (ty := .boolean) hx hb hr (xb_nar true) (fun t ht hW => ⟨_, rfl, rfl, ht⟩) (fun q hq => absurd hq List.not_mem_nil) dX2_hasSeat_21
set_option maxHeartbeats 4000000 in
set_option maxRecDepth 100000 in
theorem c_X2_hasSeat_no (l : Launch) (dC : Nat → ClassId) (dI : Nat → Nat → Nat) (cD cZ cI cL : ClassId) (h b0 b1 b2 b3 : Nat) (N : Nat → UInt64) (I T R : Nat → Int32) (nn : Nat) (th : Int32) (sz : Nat) (xv : Int32) (hbad : vB xv 5 = false) : Met l yX2_hasSeat wsX2_hasSeat ({ frames := 1, cells := 0, slots := 0, locals := 21 }) (va_Pc [.ref h, .int (xv)] (fun U => U.heap.size = sz ∧ okM dC dI cD cZ cI cL h b0 b1 b2 b3 N I T R nn th U U.heap ∧ va_D (fun _ => True) (wM cD cZ cI cL h b0 b1 b2 b3 N I T R nn th))) (va_Qi (fun (r : Int32) (_ : Unit) => r = nI (Bool.toNat false)) (fun _ t => atM dC dI cD cZ cI cL (va_A (wM cD cZ cI cL h b0 b1 b2 b3 N I T R nn th) sz) h b0 b1 b2 b3 N I T R nn (nI 1) t) (va_A (wM cD cZ cI cL h b0 b1 b2 b3 N I T R nn th) sz)) 0 0 (va_A (wM cD cZ cI cL h b0 b1 b2 b3 N I T R nn th) sz) := by
  refine Met.ofW (cc := cX2_hasSeat) (maxL := 2) (ret := (some .boolean)) (by decide) rfl ?_
  intro p e s m args below meth c s₁ B hml hv
  obtain ⟨rfl, hsz, hO, hD0⟩ := hv
  obtain ⟨hP, hK⟩ := id hO
  have hx := B.exec
  have hb := B.bytes
  have hr := B.returns
  have hts := atoms_spec (ws := wsX2_hasSeat) B.pre
  have hown : s.vm.findClass RX2 = some m.cls := findClass_of_methodNamed B.named
  have hlocks := B.notSynchronized
  subst hsz
  have hD := hD0.self (sz := s.heap.size)
  generalize hAe : va_A (wM cD cZ cI cL h b0 b1 b2 b3 N I T R nn th) s.heap.size = A at hD ⊢
  have hA : ∀ q : Nat, s.heap.size ≤ q → A q := fun q h => by rw [← hAe]; exact Or.inr h
  have hS : va_S A s.heap s.heap [] := va_S.rf
  have hP : va_P (dC, dI) vwCl [(h, .inr (2, [.ref b0, .ref b1, .ref b2, .ref b3, .int (nI (nn)), .int (th)])), (b0, .inl (cD, 70, .inr (.inr (.inr (.inl (N)))))), (b1, .inl (cZ, 70, .inl (I))), (b2, .inl (cI, 60, .inl (T))), (b3, .inl (cI, 6, .inl (R)))] s.heap := hP
  have hD : va_D A [(h, .inr (2, [.ref b0, .ref b1, .ref b2, .ref b3, .int (nI (nn)), .int (th)])), (b0, .inl (cD, 70, .inr (.inr (.inr (.inl (N)))))), (b1, .inl (cZ, 70, .inl (I))), (b2, .inl (cI, 60, .inl (T))), (b3, .inl (cI, 6, .inl (R)))] := hD
  have hl := lv_entry ([.ref h, .int (xv)]) (n := 2) (Nat.le_of_ble_eq_true rfl)
  rw [lg_entry_eq]
  generalize (lg_sl ([.ref h, .int (xv)]) ++ List.replicate (2 - (lg_sl ([.ref h, .int (xv)])).length) Slot.unset).toArray = ls at hl ⊢
  have hl : lv_has ls 2 [(0, .ref h), (1, .int (xv))] := hl
  refine lv_iload_n hx hb dX2_hasSeat_0 rfl (lv_at hl 1 rfl) ?_
  refine lv_iconst (v := nI 5) hx hb dX2_hasSeat_1 (by decide) ?_
  refine vp_callSi (va_Run.run (va_runS (As := [.int (xv), .int (nI (5))]) (rest := []) ⟨hx, hb, hml, hown, hts⟩ (c_X2_in l (xv) (5)) (va_cwS 2 hts gX2_hasSeat_X2_in rfl rfl rfl (by decide +kernel) ⟨Nat.le_of_ble_eq_true rfl, Nat.le_of_ble_eq_true rfl⟩) preT rfl rfl hl.1 rfl (lv_room (Nat.le_of_ble_eq_true rfl)) dX2_hasSeat_2 ⟨Nat.zero_le _, Nat.zero_le _⟩)) (fun r1 er1 => ?_)
  subst er1
  rw [hbad]
  refine xb_if_ne (tgt := 16) hx hb dX2_hasSeat_5 (by decide) (fun q => absurd q (by decide)) (fun _ => ?_)
  refine lv_aload_n hx hb dX2_hasSeat_8 rfl (lv_at hl 0 rfl) ?_
  refine lv_iconst (v := nI 1) hx hb dX2_hasSeat_9 (by decide) ?_
  have hPc := hP.sub (ws' := [(h, .inr (2, [.ref b0, .ref b1, .ref b2, .ref b3, .int (nI (nn)), .int (th)])), (b0, .inl (cD, 70, .inr (.inr (.inr (.inl (N)))))), (b1, .inl (cZ, 70, .inl (I))), (b2, .inl (cI, 60, .inl (T))), (b3, .inl (cI, 6, .inl (R)))]) [0, 1, 2, 3, 4] rfl
  have hDc := hD.sub (ws' := [(h, .inr (2, [.ref b0, .ref b1, .ref b2, .ref b3, .int (nI (nn)), .int (th)])), (b0, .inl (cD, 70, .inr (.inr (.inr (.inl (N)))))), (b1, .inl (cZ, 70, .inl (I))), (b2, .inl (cI, 60, .inl (T))), (b3, .inl (cI, 6, .inl (R)))]) [0, 1, 2, 3, 4] (by decide) rfl
  have hFc := va_free (wc := [(h, .inr (2, [.ref b0, .ref b1, .ref b2, .ref b3, .int (nI (nn)), .int (th)])), (b0, .inl (cD, 70, .inr (.inr (.inr (.inl (N)))))), (b1, .inl (cZ, 70, .inl (I))), (b2, .inl (cI, 60, .inl (T))), (b3, .inl (cI, 6, .inl (R)))]) hD hS hA [0, 1, 2, 3, 4] rfl
  refine va_calli (va_runV (As := [.int (nI (1))]) (rest := []) ⟨hx, hb, hml, hown, hts⟩ (c_X2_fail l dC dI cD cZ cI cL h b0 b1 b2 b3 N I T R nn th s.heap.size (nI 1)) (cwV 1 hts gX2_hasSeat_X2_fail rfl rfl rfl (by decide +kernel) ⟨Nat.le_of_ble_eq_true rfl, Nat.le_of_ble_eq_true rfl⟩) (okMW_pre ⟨hP, hK⟩ hD) rfl rfl hl.1 rfl (lv_room (Nat.le_of_ble_eq_true rfl)) dX2_hasSeat_10 ⟨Nat.zero_le _, Nat.zero_le _⟩) hS (fun q _ h => hFc q h) hFc (fun r2 u2 t H1 locs ht hvm hw hB hz1 hk1 hS => ?_)
  obtain ⟨hP1, hK1, hD1⟩ := hB
  rw [ht] at hP1
  have hD := hD1.weaken (fun _ q _ h => hFc q.1 h)
  have hP := hP1
  generalize H1 = H at hP hS ⊢
  have hP : va_P (dC, dI) vwCl [(h, .inr (2, [.ref b0, .ref b1, .ref b2, .ref b3, .int (nI (nn)), .int (nI (1))])), (b0, .inl (cD, 70, .inr (.inr (.inr (.inl (N)))))), (b1, .inl (cZ, 70, .inl (I))), (b2, .inl (cI, 60, .inl (T))), (b3, .inl (cI, 6, .inl (R)))] H := hP
  have hD : va_D A [(h, .inr (2, [.ref b0, .ref b1, .ref b2, .ref b3, .int (nI (nn)), .int (nI (1))])), (b0, .inl (cD, 70, .inr (.inr (.inr (.inl (N)))))), (b1, .inl (cZ, 70, .inl (I))), (b2, .inl (cI, 60, .inl (T))), (b3, .inl (cI, 6, .inl (R)))] := hD
  subst hw
  refine xb_if_eq (tgt := 20) hx hb dX2_hasSeat_13 (by decide) (fun _ => ?_) (fun q => absurd q (by decide))
  refine lv_iconst (v := nI 0) hx hb dX2_hasSeat_20 (by decide) ?_
  exact W.zret (v := nI (Bool.toNat false)) (ty := .boolean) hx hb hr (xb_nar false) (fun t ht hW => ⟨⟨_, (), rfl, rfl, by rw [ht]; exact hP, va_K.moved hW.alike hK, hD⟩, hS.F ht⟩) hS.2.2 dX2_hasSeat_21
set_option maxHeartbeats 4000000 in
set_option maxRecDepth 100000 in
theorem c_X2_isWay_ok (l : Launch) (dC : Nat → ClassId) (dI : Nat → Nat → Nat) (cD cZ cI cL : ClassId) (h b0 b1 b2 b3 : Nat) (N : Nat → UInt64) (I T R : Nat → Int32) (nn : Nat) (th : Int32) (xn : Nat) (hxn : xn < 24) : Met l yX2_isWay wsX2_isWay ({ frames := 1, cells := 0, slots := 0, locals := 21 }) (va_Pc [.ref h, .int (nI (xn))] (fun U => okM dC dI cD cZ cI cL h b0 b1 b2 b3 N I T R nn th U U.heap)) (vp_Si (fun r => r = nI (Bool.toNat true))) 0 0 (fun _ => False) := by
  refine Met.ofW (cc := cX2_isWay) (maxL := 2) (ret := (some .boolean)) (by decide) rfl ?_
  intro p e s m args below meth c s₁ B hml hv
  obtain ⟨rfl, hO⟩ := hv
  obtain ⟨hP, hK⟩ := id hO
  have hP : va_P (dC, dI) vwCl [(h, .inr (2, [.ref b0, .ref b1, .ref b2, .ref b3, .int (nI (nn)), .int (th)])), (b0, .inl (cD, 70, .inr (.inr (.inr (.inl (N)))))), (b1, .inl (cZ, 70, .inl (I))), (b2, .inl (cI, 60, .inl (T))), (b3, .inl (cI, 6, .inl (R)))] s.heap := hP
  have hx := B.exec
  have hb := B.bytes
  have hr := B.returns
  have hts := atoms_spec (ws := wsX2_isWay) B.pre
  have hown : s.vm.findClass RX2 = some m.cls := findClass_of_methodNamed B.named
  have hlocks := B.notSynchronized
  have hl := lv_entry ([.ref h, .int (nI (xn))]) (n := 2) (Nat.le_of_ble_eq_true rfl)
  rw [lg_entry_eq]
  generalize (lg_sl ([.ref h, .int (nI (xn))]) ++ List.replicate (2 - (lg_sl ([.ref h, .int (nI (xn))])).length) Slot.unset).toArray = ls at hl ⊢
  have hl : lv_has ls 2 [(0, .ref h), (1, .int (nI (xn)))] := hl
  refine lv_iload_n hx hb dX2_isWay_0 rfl (lv_at hl 1 rfl) ?_
  refine lv_bipush (v := nI 24) hx hb dX2_isWay_1 (by decide) ?_
  refine vp_callSi (va_Run.run (va_runS (As := [.int (nI (xn)), .int (nI (24))]) (rest := []) ⟨hx, hb, hml, hown, hts⟩ (c_X2_in l (nI xn) (24)) (va_cwS 2 hts gX2_isWay_X2_in rfl rfl rfl (by decide +kernel) ⟨Nat.le_of_ble_eq_true rfl, Nat.le_of_ble_eq_true rfl⟩) preT rfl rfl hl.1 rfl (lv_room (Nat.le_of_ble_eq_true rfl)) dX2_isWay_3 ⟨Nat.zero_le _, Nat.zero_le _⟩)) (fun r1 er1 => ?_)
  subst er1
  rw [vB_nI (show xn < 24 by omega) (by omega)]
  refine xb_if_ne (tgt := 17) hx hb dX2_isWay_6 (by decide) (fun _ => ?_) (fun q => absurd q (by decide))
  refine lv_iconst (v := nI 1) hx hb dX2_isWay_17 (by decide) ?_
  refine lv_goto (tgt := 22) hx hb dX2_isWay_18 (by decide) ?_
  exact W.zret (v := nI (Bool.toNat true)) (ty := .boolean) hx hb hr (xb_nar true) (fun t ht hW => ⟨_, rfl, rfl, ht⟩) (fun q hq => absurd hq List.not_mem_nil) dX2_isWay_22
set_option maxHeartbeats 4000000 in
set_option maxRecDepth 100000 in
theorem c_X2_isWay_no (l : Launch) (dC : Nat → ClassId) (dI : Nat → Nat → Nat) (cD cZ cI cL : ClassId) (h b0 b1 b2 b3 : Nat) (N : Nat → UInt64) (I T R : Nat → Int32) (nn : Nat) (th : Int32) (sz : Nat) (xv : Int32) (hbad : vB xv 24 = false) : Met l yX2_isWay wsX2_isWay ({ frames := 1, cells := 0, slots := 0, locals := 21 }) (va_Pc [.ref h, .int (xv)] (fun U => U.heap.size = sz ∧ okM dC dI cD cZ cI cL h b0 b1 b2 b3 N I T R nn th U U.heap ∧ va_D (fun _ => True) (wM cD cZ cI cL h b0 b1 b2 b3 N I T R nn th))) (va_Qi (fun (r : Int32) (_ : Unit) => r = nI (Bool.toNat false)) (fun _ t => atM dC dI cD cZ cI cL (va_A (wM cD cZ cI cL h b0 b1 b2 b3 N I T R nn th) sz) h b0 b1 b2 b3 N I T R nn (nI 2) t) (va_A (wM cD cZ cI cL h b0 b1 b2 b3 N I T R nn th) sz)) 0 0 (va_A (wM cD cZ cI cL h b0 b1 b2 b3 N I T R nn th) sz) := by
  refine Met.ofW (cc := cX2_isWay) (maxL := 2) (ret := (some .boolean)) (by decide) rfl ?_
  intro p e s m args below meth c s₁ B hml hv
  obtain ⟨rfl, hsz, hO, hD0⟩ := hv
  obtain ⟨hP, hK⟩ := id hO
  have hx := B.exec
  have hb := B.bytes
  have hr := B.returns
  have hts := atoms_spec (ws := wsX2_isWay) B.pre
  have hown : s.vm.findClass RX2 = some m.cls := findClass_of_methodNamed B.named
  have hlocks := B.notSynchronized
  subst hsz
  have hD := hD0.self (sz := s.heap.size)
  generalize hAe : va_A (wM cD cZ cI cL h b0 b1 b2 b3 N I T R nn th) s.heap.size = A at hD ⊢
  have hA : ∀ q : Nat, s.heap.size ≤ q → A q := fun q h => by rw [← hAe]; exact Or.inr h
  have hS : va_S A s.heap s.heap [] := va_S.rf
  have hP : va_P (dC, dI) vwCl [(h, .inr (2, [.ref b0, .ref b1, .ref b2, .ref b3, .int (nI (nn)), .int (th)])), (b0, .inl (cD, 70, .inr (.inr (.inr (.inl (N)))))), (b1, .inl (cZ, 70, .inl (I))), (b2, .inl (cI, 60, .inl (T))), (b3, .inl (cI, 6, .inl (R)))] s.heap := hP
  have hD : va_D A [(h, .inr (2, [.ref b0, .ref b1, .ref b2, .ref b3, .int (nI (nn)), .int (th)])), (b0, .inl (cD, 70, .inr (.inr (.inr (.inl (N)))))), (b1, .inl (cZ, 70, .inl (I))), (b2, .inl (cI, 60, .inl (T))), (b3, .inl (cI, 6, .inl (R)))] := hD
  have hl := lv_entry ([.ref h, .int (xv)]) (n := 2) (Nat.le_of_ble_eq_true rfl)
  rw [lg_entry_eq]
  generalize (lg_sl ([.ref h, .int (xv)]) ++ List.replicate (2 - (lg_sl ([.ref h, .int (xv)])).length) Slot.unset).toArray = ls at hl ⊢
  have hl : lv_has ls 2 [(0, .ref h), (1, .int (xv))] := hl
  refine lv_iload_n hx hb dX2_isWay_0 rfl (lv_at hl 1 rfl) ?_
  refine lv_bipush (v := nI 24) hx hb dX2_isWay_1 (by decide) ?_
  refine vp_callSi (va_Run.run (va_runS (As := [.int (xv), .int (nI (24))]) (rest := []) ⟨hx, hb, hml, hown, hts⟩ (c_X2_in l (xv) (24)) (va_cwS 2 hts gX2_isWay_X2_in rfl rfl rfl (by decide +kernel) ⟨Nat.le_of_ble_eq_true rfl, Nat.le_of_ble_eq_true rfl⟩) preT rfl rfl hl.1 rfl (lv_room (Nat.le_of_ble_eq_true rfl)) dX2_isWay_3 ⟨Nat.zero_le _, Nat.zero_le _⟩)) (fun r1 er1 => ?_)
  subst er1
  rw [hbad]
  refine xb_if_ne (tgt := 17) hx hb dX2_isWay_6 (by decide) (fun q => absurd q (by decide)) (fun _ => ?_)
  refine lv_aload_n hx hb dX2_isWay_9 rfl (lv_at hl 0 rfl) ?_
  refine lv_iconst (v := nI 2) hx hb dX2_isWay_10 (by decide) ?_
  have hPc := hP.sub (ws' := [(h, .inr (2, [.ref b0, .ref b1, .ref b2, .ref b3, .int (nI (nn)), .int (th)])), (b0, .inl (cD, 70, .inr (.inr (.inr (.inl (N)))))), (b1, .inl (cZ, 70, .inl (I))), (b2, .inl (cI, 60, .inl (T))), (b3, .inl (cI, 6, .inl (R)))]) [0, 1, 2, 3, 4] rfl
  have hDc := hD.sub (ws' := [(h, .inr (2, [.ref b0, .ref b1, .ref b2, .ref b3, .int (nI (nn)), .int (th)])), (b0, .inl (cD, 70, .inr (.inr (.inr (.inl (N)))))), (b1, .inl (cZ, 70, .inl (I))), (b2, .inl (cI, 60, .inl (T))), (b3, .inl (cI, 6, .inl (R)))]) [0, 1, 2, 3, 4] (by decide) rfl
  have hFc := va_free (wc := [(h, .inr (2, [.ref b0, .ref b1, .ref b2, .ref b3, .int (nI (nn)), .int (th)])), (b0, .inl (cD, 70, .inr (.inr (.inr (.inl (N)))))), (b1, .inl (cZ, 70, .inl (I))), (b2, .inl (cI, 60, .inl (T))), (b3, .inl (cI, 6, .inl (R)))]) hD hS hA [0, 1, 2, 3, 4] rfl
  refine va_calli (va_runV (As := [.int (nI (2))]) (rest := []) ⟨hx, hb, hml, hown, hts⟩ (c_X2_fail l dC dI cD cZ cI cL h b0 b1 b2 b3 N I T R nn th s.heap.size (nI 2)) (cwV 1 hts gX2_isWay_X2_fail rfl rfl rfl (by decide +kernel) ⟨Nat.le_of_ble_eq_true rfl, Nat.le_of_ble_eq_true rfl⟩) (okMW_pre ⟨hP, hK⟩ hD) rfl rfl hl.1 rfl (lv_room (Nat.le_of_ble_eq_true rfl)) dX2_isWay_11 ⟨Nat.zero_le _, Nat.zero_le _⟩) hS (fun q _ h => hFc q h) hFc (fun r2 u2 t H1 locs ht hvm hw hB hz1 hk1 hS => ?_)
  obtain ⟨hP1, hK1, hD1⟩ := hB
  rw [ht] at hP1
  have hD := hD1.weaken (fun _ q _ h => hFc q.1 h)
  have hP := hP1
  generalize H1 = H at hP hS ⊢
  have hP : va_P (dC, dI) vwCl [(h, .inr (2, [.ref b0, .ref b1, .ref b2, .ref b3, .int (nI (nn)), .int (nI (2))])), (b0, .inl (cD, 70, .inr (.inr (.inr (.inl (N)))))), (b1, .inl (cZ, 70, .inl (I))), (b2, .inl (cI, 60, .inl (T))), (b3, .inl (cI, 6, .inl (R)))] H := hP
  have hD : va_D A [(h, .inr (2, [.ref b0, .ref b1, .ref b2, .ref b3, .int (nI (nn)), .int (nI (2))])), (b0, .inl (cD, 70, .inr (.inr (.inr (.inl (N)))))), (b1, .inl (cZ, 70, .inl (I))), (b2, .inl (cI, 60, .inl (T))), (b3, .inl (cI, 6, .inl (R)))] := hD
  subst hw
  refine xb_if_eq (tgt := 21) hx hb dX2_isWay_14 (by decide) (fun _ => ?_) (fun q => absurd q (by decide))
  refine lv_iconst (v := nI 0) hx hb dX2_isWay_21 (by decide) ?_
  exact W.zret (v := nI (Bool.toNat false)) (ty := .boolean) hx hb hr (xb_nar false) (fun t ht hW => ⟨⟨_, (), rfl, rfl, by rw [ht]; exact hP, va_K.moved hW.alike hK, hD⟩, hS.F ht⟩) hS.2.2 dX2_isWay_22
set_option maxHeartbeats 4000000 in
set_option maxRecDepth 100000 in
theorem c_X2_become (l : Launch) (dC : Nat → ClassId) (dI : Nat → Nat → Nat) (cD cZ cI cL : ClassId) (h b0 b1 b2 b3 : Nat) (N : Nat → UInt64) (I T R : Nat → Int32) (nn : Nat) (th : Int32) (sz : Nat) (i : Nat) (v : UInt64) (hi : i < 70) : Met l yX2_become wsX2_become ({ frames := 0, cells := 0, slots := 0, locals := 0 }) (va_Pc [.ref h, .int (nI (i)), .double (v)] (fun U => U.heap.size = sz ∧ okM dC dI cD cZ cI cL h b0 b1 b2 b3 N I T R nn th U U.heap ∧ va_D (fun _ => True) (wM cD cZ cI cL h b0 b1 b2 b3 N I T R nn th))) (va_Qv (fun _ : Unit => True) (fun _ t => atM dC dI cD cZ cI cL (va_A (wM cD cZ cI cL h b0 b1 b2 b3 N I T R nn th) sz) h b0 b1 b2 b3 (vf_upd N i v) (upd I i (nI (Bool.toNat true))) T R nn th t) (va_A (wM cD cZ cI cL h b0 b1 b2 b3 N I T R nn th) sz)) 0 0 (va_A (wM cD cZ cI cL h b0 b1 b2 b3 N I T R nn th) sz) := by
  refine Met.ofW (cc := cX2_become) (maxL := 4) (ret := none) (by decide) rfl ?_
  intro p e s m args below meth c s₁ B hml hv
  obtain ⟨rfl, hsz, hO, hD0⟩ := hv
  obtain ⟨hP, hK⟩ := id hO
  have hx := B.exec
  have hb := B.bytes
  have hr := B.returns
  have hts := atoms_spec (ws := wsX2_become) B.pre
  have hown : s.vm.findClass RX2 = some m.cls := findClass_of_methodNamed B.named
  have hlocks := B.notSynchronized
  subst hsz
  have hD := hD0.self (sz := s.heap.size)
  generalize hAe : va_A (wM cD cZ cI cL h b0 b1 b2 b3 N I T R nn th) s.heap.size = A at hD ⊢
  have hA : ∀ q : Nat, s.heap.size ≤ q → A q := fun q h => by rw [← hAe]; exact Or.inr h
  have hS : va_S A s.heap s.heap [] := va_S.rf
  have hP : va_P (dC, dI) vwCl [(h, .inr (2, [.ref b0, .ref b1, .ref b2, .ref b3, .int (nI (nn)), .int (th)])), (b0, .inl (cD, 70, .inr (.inr (.inr (.inl (N)))))), (b1, .inl (cZ, 70, .inl (I))), (b2, .inl (cI, 60, .inl (T))), (b3, .inl (cI, 6, .inl (R)))] s.heap := hP
  have hD : va_D A [(h, .inr (2, [.ref b0, .ref b1, .ref b2, .ref b3, .int (nI (nn)), .int (th)])), (b0, .inl (cD, 70, .inr (.inr (.inr (.inl (N)))))), (b1, .inl (cZ, 70, .inl (I))), (b2, .inl (cI, 60, .inl (T))), (b3, .inl (cI, 6, .inl (R)))] := hD
  have hin2 : ∀ w ∈ wsX20, w ∈ wsX2_become := (fun w h => List.mem_cons_of_mem _ (List.mem_append_right _ h))
  have fl7 := hts (.fieldLink RX2 7 "JuryTableModel" "number" "[D") (by decide +kernel)
  have fl13 := hts (.fieldLink RX2 13 "JuryTableModel" "isThere" "[Z") (by decide +kernel)
  have hl := lv_entry ([.ref h, .int (nI (i)), .double (v)]) (n := 4) (Nat.le_of_ble_eq_true rfl)
  rw [lg_entry_eq]
  generalize (lg_sl ([.ref h, .int (nI (i)), .double (v)]) ++ List.replicate (4 - (lg_sl ([.ref h, .int (nI (i)), .double (v)])).length) Slot.unset).toArray = ls at hl ⊢
  have hl : lv_has ls 4 [(0, .ref h), (1, .int (nI (i))), (2, .double (v))] := hl
  refine lv_aload_n hx hb dX2_become_0 rfl (lv_at hl 0 rfl) ?_
  refine va_get (D := (dC, dI)) (ci := 2) (v := .ref b0) (C := RX2) (T := TX2) (N := 6) hx hb hts hin2 hown hK hP 0 rfl rfl 0 (by decide) fl7 (fun _ h9 => h9) rfl dX2_become_1 ?_
  refine lv_iload_n hx hb dX2_become_4 rfl (lv_at hl 1 rfl) ?_
  refine lv_dload_n hx hb dX2_become_5 rfl (lv_at hl 2 rfl) ?_
  refine xn_dast hx hb hK hP hD hS 1 0 rfl rfl (n := 70) (j := i) (by omega) (by decide) dX2_become_6 (fun H locs hP hD hS => ?_)
  have hP : va_P (dC, dI) vwCl [(h, .inr (2, [.ref b0, .ref b1, .ref b2, .ref b3, .int (nI (nn)), .int (th)])), (b0, .inl (cD, 70, .inr (.inr (.inr (.inl (vf_upd N i v)))))), (b1, .inl (cZ, 70, .inl (I))), (b2, .inl (cI, 60, .inl (T))), (b3, .inl (cI, 6, .inl (R)))] H := hP
  have hD : va_D A [(h, .inr (2, [.ref b0, .ref b1, .ref b2, .ref b3, .int (nI (nn)), .int (th)])), (b0, .inl (cD, 70, .inr (.inr (.inr (.inl (vf_upd N i v)))))), (b1, .inl (cZ, 70, .inl (I))), (b2, .inl (cI, 60, .inl (T))), (b3, .inl (cI, 6, .inl (R)))] := hD
  refine lv_aload_n hx hb dX2_become_7 rfl (lv_at hl 0 rfl) ?_
  refine va_get (D := (dC, dI)) (ci := 2) (v := .ref b1) (C := RX2) (T := TX2) (N := 6) hx hb hts hin2 hown hK hP 0 rfl rfl 1 (by decide) fl13 (fun _ h9 => h9) rfl dX2_become_8 ?_
  refine lv_iload_n hx hb dX2_become_11 rfl (lv_at hl 1 rfl) ?_
  refine lv_iconst (v := nI 1) hx hb dX2_become_12 (by decide) ?_
  refine xn_zast hx hb hK hP hD hS 2 1 rfl rfl (n := 70) (j := i) (x := true) (by omega) (by decide) dX2_become_13 (fun H locs hP hD hS => ?_)
  have hP : va_P (dC, dI) vwCl [(h, .inr (2, [.ref b0, .ref b1, .ref b2, .ref b3, .int (nI (nn)), .int (th)])), (b0, .inl (cD, 70, .inr (.inr (.inr (.inl (vf_upd N i v)))))), (b1, .inl (cZ, 70, .inl (upd I i (nI (Bool.toNat (true)))))), (b2, .inl (cI, 60, .inl (T))), (b3, .inl (cI, 6, .inl (R)))] H := hP
  have hD : va_D A [(h, .inr (2, [.ref b0, .ref b1, .ref b2, .ref b3, .int (nI (nn)), .int (th)])), (b0, .inl (cD, 70, .inr (.inr (.inr (.inl (vf_upd N i v)))))), (b1, .inl (cZ, 70, .inl (upd I i (nI (Bool.toNat (true)))))), (b2, .inl (cI, 60, .inl (T))), (b3, .inl (cI, 6, .inl (R)))] := hD
  exact W.vret hx hb hr (fun t ht hW => ⟨⟨(), rfl, trivial, by rw [ht]; exact hP, va_K.moved hW.alike hK, hD⟩, hS.F ht⟩) hS.2.2 dX2_become_14
set_option maxHeartbeats 4000000 in
set_option maxRecDepth 100000 in
theorem c_X2_entry_ok (l : Launch) (dC : Nat → ClassId) (dI : Nat → Nat → Nat) (cD cZ cI cL : ClassId) (h b0 b1 b2 b3 : Nat) (N : Nat → UInt64) (I T R : Nat → Int32) (nn : Nat) (th : Int32) (sz : Nat) (hn6 : nn < 6) : Met l yX2_entry wsX2_entry ({ frames := 0, cells := 0, slots := 0, locals := 0 }) (va_Pc [.ref h] (fun U => U.heap.size = sz ∧ okM dC dI cD cZ cI cL h b0 b1 b2 b3 N I T R nn th U U.heap ∧ va_D (fun _ => True) (wM cD cZ cI cL h b0 b1 b2 b3 N I T R nn th))) (va_Qi (fun (r : Int32) (_ : Unit) => r = nI nn) (fun _ t => atM dC dI cD cZ cI cL (va_A (wM cD cZ cI cL h b0 b1 b2 b3 N I T R nn th) sz) h b0 b1 b2 b3 N I T R (nn + 1) (nI 0) t) (va_A (wM cD cZ cI cL h b0 b1 b2 b3 N I T R nn th) sz)) 0 0 (va_A (wM cD cZ cI cL h b0 b1 b2 b3 N I T R nn th) sz) := by
  refine Met.ofW (cc := cX2_entry) (maxL := 1) (ret := (some .int)) (by decide) rfl ?_
  intro p e s m args below meth c s₁ B hml hv
  obtain ⟨rfl, hsz, hO, hD0⟩ := hv
  obtain ⟨hP, hK⟩ := id hO
  have hx := B.exec
  have hb := B.bytes
  have hr := B.returns
  have hts := atoms_spec (ws := wsX2_entry) B.pre
  have hown : s.vm.findClass RX2 = some m.cls := findClass_of_methodNamed B.named
  have hlocks := B.notSynchronized
  subst hsz
  have hD := hD0.self (sz := s.heap.size)
  generalize hAe : va_A (wM cD cZ cI cL h b0 b1 b2 b3 N I T R nn th) s.heap.size = A at hD ⊢
  have hA : ∀ q : Nat, s.heap.size ≤ q → A q := fun q h => by rw [← hAe]; exact Or.inr h
  have hS : va_S A s.heap s.heap [] := va_S.rf
  have hP : va_P (dC, dI) vwCl [(h, .inr (2, [.ref b0, .ref b1, .ref b2, .ref b3, .int (nI (nn)), .int (th)])), (b0, .inl (cD, 70, .inr (.inr (.inr (.inl (N)))))), (b1, .inl (cZ, 70, .inl (I))), (b2, .inl (cI, 60, .inl (T))), (b3, .inl (cI, 6, .inl (R)))] s.heap := hP
  have hD : va_D A [(h, .inr (2, [.ref b0, .ref b1, .ref b2, .ref b3, .int (nI (nn)), .int (th)])), (b0, .inl (cD, 70, .inr (.inr (.inr (.inl (N)))))), (b1, .inl (cZ, 70, .inl (I))), (b2, .inl (cI, 60, .inl (T))), (b3, .inl (cI, 6, .inl (R)))] := hD
  have hin2 : ∀ w ∈ wsX20, w ∈ wsX2_entry := (fun w h => List.mem_cons_of_mem _ (List.mem_append_right _ h))
  have fl24 := hts (.fieldLink RX2 24 "JuryTableModel" "thrown" "I") (by decide +kernel)
  have fl28 := hts (.fieldLink RX2 28 "JuryTableModel" "entries" "I") (by decide +kernel)
  have hl := lv_entry ([.ref h]) (n := 1) (Nat.le_of_ble_eq_true rfl)
  rw [lg_entry_eq]
  generalize (lg_sl ([.ref h]) ++ List.replicate (1 - (lg_sl ([.ref h])).length) Slot.unset).toArray = ls at hl ⊢
  have hl : lv_has ls 1 [(0, .ref h)] := hl
  refine lv_aload_n hx hb dX2_entry_0 rfl (lv_at hl 0 rfl) ?_
  refine lv_aload_n hx hb dX2_entry_1 rfl (lv_at hl 0 rfl) ?_
  refine va_get (D := (dC, dI)) (ci := 2) (v := .int (nI (nn))) (C := RX2) (T := TX2) (N := 6) hx hb hts hin2 hown hK hP 0 rfl rfl 4 (by decide) fl28 (fun _ h9 => h9) rfl dX2_entry_2 ?_
  refine lv_bipush (v := nI 6) hx hb dX2_entry_5 (by decide) ?_
  refine xn_icmp_ne (tgt := 14) hx hb (by omega) (by decide) dX2_entry_7 (by decide) (fun _ => ?_) (fun q => absurd q (by omega))
  refine lv_iconst (v := nI 0) hx hb dX2_entry_14 (by decide) ?_
  refine va_put (D := (dC, dI)) (ci := 2) (v := .int (nI (0))) (ty := .int) (C := RX2) (T := TX2) (N := 6) hx hb hts hin2 tyX2 tyX2_ok nmX2 hown hK hP hD hS 0 rfl rfl 5 (by decide) fl24 (fun _ h9 => h9) rfl (by decide +kernel) rfl rfl (Nat.le_of_ble_eq_true rfl) dX2_entry_15 (fun H locs hP hD hS => ?_)
  have hP : va_P (dC, dI) vwCl [(h, .inr (2, [.ref b0, .ref b1, .ref b2, .ref b3, .int (nI (nn)), .int (nI (0))])), (b0, .inl (cD, 70, .inr (.inr (.inr (.inl (N)))))), (b1, .inl (cZ, 70, .inl (I))), (b2, .inl (cI, 60, .inl (T))), (b3, .inl (cI, 6, .inl (R)))] H := hP
  have hD : va_D A [(h, .inr (2, [.ref b0, .ref b1, .ref b2, .ref b3, .int (nI (nn)), .int (nI (0))])), (b0, .inl (cD, 70, .inr (.inr (.inr (.inl (N)))))), (b1, .inl (cZ, 70, .inl (I))), (b2, .inl (cI, 60, .inl (T))), (b3, .inl (cI, 6, .inl (R)))] := hD
  refine lv_aload_n hx hb dX2_entry_18 rfl (lv_at hl 0 rfl) ?_
  refine va_get (D := (dC, dI)) (ci := 2) (v := .int (nI (0))) (C := RX2) (T := TX2) (N := 6) hx hb hts hin2 hown hK hP 0 rfl rfl 5 (by decide) fl24 (fun _ h9 => h9) rfl dX2_entry_19 ?_
  refine lv_if_le (tgt := 27) hx hb dX2_entry_22 (by decide) (fun _ => ?_) (fun q => absurd (by decide) q)
  refine lv_aload_n hx hb dX2_entry_27 rfl (lv_at hl 0 rfl) ?_
  refine lv_dup hx hb dX2_entry_28 rfl ?_
  refine va_get (D := (dC, dI)) (ci := 2) (v := .int (nI (nn))) (C := RX2) (T := TX2) (N := 6) hx hb hts hin2 hown hK hP 0 rfl rfl 4 (by decide) fl28 (fun _ h9 => h9) rfl dX2_entry_29 ?_
  refine lv_iconst (v := nI 1) hx hb dX2_entry_32 (by decide) ?_
  refine xn_iadd hx hb dX2_entry_33 ?_
  refine va_put (D := (dC, dI)) (ci := 2) (v := .int (nI (nn + 1))) (ty := .int) (C := RX2) (T := TX2) (N := 6) hx hb hts hin2 tyX2 tyX2_ok nmX2 hown hK hP hD hS 0 rfl rfl 4 (by decide) fl28 (fun _ h9 => h9) rfl (by decide +kernel) rfl rfl (Nat.le_of_ble_eq_true rfl) dX2_entry_34 (fun H locs hP hD hS => ?_)
  have hP : va_P (dC, dI) vwCl [(h, .inr (2, [.ref b0, .ref b1, .ref b2, .ref b3, .int (nI (nn + 1)), .int (nI (0))])), (b0, .inl (cD, 70, .inr (.inr (.inr (.inl (N)))))), (b1, .inl (cZ, 70, .inl (I))), (b2, .inl (cI, 60, .inl (T))), (b3, .inl (cI, 6, .inl (R)))] H := hP
  have hD : va_D A [(h, .inr (2, [.ref b0, .ref b1, .ref b2, .ref b3, .int (nI (nn + 1)), .int (nI (0))])), (b0, .inl (cD, 70, .inr (.inr (.inr (.inl (N)))))), (b1, .inl (cZ, 70, .inl (I))), (b2, .inl (cI, 60, .inl (T))), (b3, .inl (cI, 6, .inl (R)))] := hD
  refine lv_aload_n hx hb dX2_entry_37 rfl (lv_at hl 0 rfl) ?_
  refine va_get (D := (dC, dI)) (ci := 2) (v := .int (nI (nn + 1))) (C := RX2) (T := TX2) (N := 6) hx hb hts hin2 hown hK hP 0 rfl rfl 4 (by decide) fl28 (fun _ h9 => h9) rfl dX2_entry_38 ?_
  refine lv_iconst (v := nI 1) hx hb dX2_entry_41 (by decide) ?_
  refine xn_isub hx hb (by omega) dX2_entry_42 ?_
  exact W.iret (v := nI ((nn + 1) - 1)) hx hb hr (fun t ht hW => ⟨⟨_, (), rfl, (by show nI (nn + 1 - 1) = nI nn; rw [Nat.add_sub_cancel]), by rw [ht]; exact hP, va_K.moved hW.alike hK, hD⟩, hS.F ht⟩) hS.2.2 dX2_entry_43
set_option maxHeartbeats 4000000 in
set_option maxRecDepth 100000 in
theorem c_X2_entry_no (l : Launch) (dC : Nat → ClassId) (dI : Nat → Nat → Nat) (cD cZ cI cL : ClassId) (h b0 b1 b2 b3 : Nat) (N : Nat → UInt64) (I T R : Nat → Int32) (nn : Nat) (th : Int32) (sz : Nat) (hn6 : nn = 6) : Met l yX2_entry wsX2_entry ({ frames := 0, cells := 0, slots := 0, locals := 0 }) (va_Pc [.ref h] (fun U => U.heap.size = sz ∧ okM dC dI cD cZ cI cL h b0 b1 b2 b3 N I T R nn th U U.heap ∧ va_D (fun _ => True) (wM cD cZ cI cL h b0 b1 b2 b3 N I T R nn th))) (va_Qi (fun (r : Int32) (_ : Unit) => r = nI 0) (fun _ t => atM dC dI cD cZ cI cL (va_A (wM cD cZ cI cL h b0 b1 b2 b3 N I T R nn th) sz) h b0 b1 b2 b3 N I T R nn (nI 1) t) (va_A (wM cD cZ cI cL h b0 b1 b2 b3 N I T R nn th) sz)) 0 0 (va_A (wM cD cZ cI cL h b0 b1 b2 b3 N I T R nn th) sz) := by
  refine Met.ofW (cc := cX2_entry) (maxL := 1) (ret := (some .int)) (by decide) rfl ?_
  intro p e s m args below meth c s₁ B hml hv
  obtain ⟨rfl, hsz, hO, hD0⟩ := hv
  obtain ⟨hP, hK⟩ := id hO
  have hx := B.exec
  have hb := B.bytes
  have hr := B.returns
  have hts := atoms_spec (ws := wsX2_entry) B.pre
  have hown : s.vm.findClass RX2 = some m.cls := findClass_of_methodNamed B.named
  have hlocks := B.notSynchronized
  subst hsz
  have hD := hD0.self (sz := s.heap.size)
  generalize hAe : va_A (wM cD cZ cI cL h b0 b1 b2 b3 N I T R nn th) s.heap.size = A at hD ⊢
  have hA : ∀ q : Nat, s.heap.size ≤ q → A q := fun q h => by rw [← hAe]; exact Or.inr h
  have hS : va_S A s.heap s.heap [] := va_S.rf
  have hP : va_P (dC, dI) vwCl [(h, .inr (2, [.ref b0, .ref b1, .ref b2, .ref b3, .int (nI (nn)), .int (th)])), (b0, .inl (cD, 70, .inr (.inr (.inr (.inl (N)))))), (b1, .inl (cZ, 70, .inl (I))), (b2, .inl (cI, 60, .inl (T))), (b3, .inl (cI, 6, .inl (R)))] s.heap := hP
  have hD : va_D A [(h, .inr (2, [.ref b0, .ref b1, .ref b2, .ref b3, .int (nI (nn)), .int (th)])), (b0, .inl (cD, 70, .inr (.inr (.inr (.inl (N)))))), (b1, .inl (cZ, 70, .inl (I))), (b2, .inl (cI, 60, .inl (T))), (b3, .inl (cI, 6, .inl (R)))] := hD
  have hin2 : ∀ w ∈ wsX20, w ∈ wsX2_entry := (fun w h => List.mem_cons_of_mem _ (List.mem_append_right _ h))
  have fl24 := hts (.fieldLink RX2 24 "JuryTableModel" "thrown" "I") (by decide +kernel)
  have fl28 := hts (.fieldLink RX2 28 "JuryTableModel" "entries" "I") (by decide +kernel)
  have hl := lv_entry ([.ref h]) (n := 1) (Nat.le_of_ble_eq_true rfl)
  rw [lg_entry_eq]
  generalize (lg_sl ([.ref h]) ++ List.replicate (1 - (lg_sl ([.ref h])).length) Slot.unset).toArray = ls at hl ⊢
  have hl : lv_has ls 1 [(0, .ref h)] := hl
  refine lv_aload_n hx hb dX2_entry_0 rfl (lv_at hl 0 rfl) ?_
  refine lv_aload_n hx hb dX2_entry_1 rfl (lv_at hl 0 rfl) ?_
  refine va_get (D := (dC, dI)) (ci := 2) (v := .int (nI (nn))) (C := RX2) (T := TX2) (N := 6) hx hb hts hin2 hown hK hP 0 rfl rfl 4 (by decide) fl28 (fun _ h9 => h9) rfl dX2_entry_2 ?_
  refine lv_bipush (v := nI 6) hx hb dX2_entry_5 (by decide) ?_
  refine xn_icmp_ne (tgt := 14) hx hb (by omega) (by decide) dX2_entry_7 (by decide) (fun q => absurd q (by omega)) (fun _ => ?_)
  refine lv_iconst (v := nI 1) hx hb dX2_entry_10 (by decide) ?_
  refine lv_goto (tgt := 15) hx hb dX2_entry_11 (by decide) ?_
  refine va_put (D := (dC, dI)) (ci := 2) (v := .int (nI (1))) (ty := .int) (C := RX2) (T := TX2) (N := 6) hx hb hts hin2 tyX2 tyX2_ok nmX2 hown hK hP hD hS 0 rfl rfl 5 (by decide) fl24 (fun _ h9 => h9) rfl (by decide +kernel) rfl rfl (Nat.le_of_ble_eq_true rfl) dX2_entry_15 (fun H locs hP hD hS => ?_)
  have hP : va_P (dC, dI) vwCl [(h, .inr (2, [.ref b0, .ref b1, .ref b2, .ref b3, .int (nI (nn)), .int (nI (1))])), (b0, .inl (cD, 70, .inr (.inr (.inr (.inl (N)))))), (b1, .inl (cZ, 70, .inl (I))), (b2, .inl (cI, 60, .inl (T))), (b3, .inl (cI, 6, .inl (R)))] H := hP
  have hD : va_D A [(h, .inr (2, [.ref b0, .ref b1, .ref b2, .ref b3, .int (nI (nn)), .int (nI (1))])), (b0, .inl (cD, 70, .inr (.inr (.inr (.inl (N)))))), (b1, .inl (cZ, 70, .inl (I))), (b2, .inl (cI, 60, .inl (T))), (b3, .inl (cI, 6, .inl (R)))] := hD
  refine lv_aload_n hx hb dX2_entry_18 rfl (lv_at hl 0 rfl) ?_
  refine va_get (D := (dC, dI)) (ci := 2) (v := .int (nI (1))) (C := RX2) (T := TX2) (N := 6) hx hb hts hin2 hown hK hP 0 rfl rfl 5 (by decide) fl24 (fun _ h9 => h9) rfl dX2_entry_19 ?_
  refine lv_if_le (tgt := 27) hx hb dX2_entry_22 (by decide) (fun q => absurd q (by decide)) (fun _ => ?_)
  refine lv_iconst (v := nI 0) hx hb dX2_entry_25 (by decide) ?_
  exact W.iret (v := nI 0) hx hb hr (fun t ht hW => ⟨⟨_, (), rfl, rfl, by rw [ht]; exact hP, va_K.moved hW.alike hK, hD⟩, hS.F ht⟩) hS.2.2 dX2_entry_26
set_option maxHeartbeats 4000000 in
set_option maxRecDepth 100000 in
theorem c_X2_mark_ok (l : Launch) (dC : Nat → ClassId) (dI : Nat → Nat → Nat) (cD cZ cI cL : ClassId) (h b0 b1 b2 b3 : Nat) (N : Nat → UInt64) (I T R : Nat → Int32) (nn : Nat) (th : Int32) (sz : Nat) (hnn : nn ≤ 6) (en bn : Nat) (v : UInt64) (hen : en < nn) (hbn : bn < 5) : Met l yX2_mark wsX2_mark ({ frames := 2, cells := 0, slots := 0, locals := 42 }) (va_Pc [.ref h, .int (nI (en)), .int (nI (bn)), .double (v)] (fun U => U.heap.size = sz ∧ okM dC dI cD cZ cI cL h b0 b1 b2 b3 N I T R nn th U U.heap ∧ va_D (fun _ => True) (wM cD cZ cI cL h b0 b1 b2 b3 N I T R nn th))) (va_Qv (fun _ : Unit => True) (fun _ t => atM dC dI cD cZ cI cL (va_A (wM cD cZ cI cL h b0 b1 b2 b3 N I T R nn th) sz) h b0 b1 b2 b3 (vf_upd N (mc true en bn) v) (upd I (mc true en bn) (nI (Bool.toNat true))) T R nn (nI 0) t) (va_A (wM cD cZ cI cL h b0 b1 b2 b3 N I T R nn th) sz)) 0 0 (va_A (wM cD cZ cI cL h b0 b1 b2 b3 N I T R nn th) sz) := by
  refine Met.ofW (cc := cX2_mark) (maxL := 5) (ret := none) (by decide) rfl ?_
  intro p e s m args below meth c s₁ B hml hv
  obtain ⟨rfl, hsz, hO, hD0⟩ := hv
  obtain ⟨hP, hK⟩ := id hO
  have hx := B.exec
  have hb := B.bytes
  have hr := B.returns
  have hts := atoms_spec (ws := wsX2_mark) B.pre
  have hown : s.vm.findClass RX2 = some m.cls := findClass_of_methodNamed B.named
  have hlocks := B.notSynchronized
  subst hsz
  have hD := hD0.self (sz := s.heap.size)
  generalize hAe : va_A (wM cD cZ cI cL h b0 b1 b2 b3 N I T R nn th) s.heap.size = A at hD ⊢
  have hA : ∀ q : Nat, s.heap.size ≤ q → A q := fun q h => by rw [← hAe]; exact Or.inr h
  have hS : va_S A s.heap s.heap [] := va_S.rf
  have hP : va_P (dC, dI) vwCl [(h, .inr (2, [.ref b0, .ref b1, .ref b2, .ref b3, .int (nI (nn)), .int (th)])), (b0, .inl (cD, 70, .inr (.inr (.inr (.inl (N)))))), (b1, .inl (cZ, 70, .inl (I))), (b2, .inl (cI, 60, .inl (T))), (b3, .inl (cI, 6, .inl (R)))] s.heap := hP
  have hD : va_D A [(h, .inr (2, [.ref b0, .ref b1, .ref b2, .ref b3, .int (nI (nn)), .int (th)])), (b0, .inl (cD, 70, .inr (.inr (.inr (.inl (N)))))), (b1, .inl (cZ, 70, .inl (I))), (b2, .inl (cI, 60, .inl (T))), (b3, .inl (cI, 6, .inl (R)))] := hD
  have hin2 : ∀ w ∈ wsX20, w ∈ wsX2_mark := (fun w h => List.mem_cons_of_mem _ (List.mem_append_right _ h))
  have fl24 := hts (.fieldLink RX2 24 "JuryTableModel" "thrown" "I") (by decide +kernel)
  have hl := lv_entry ([.ref h, .int (nI (en)), .int (nI (bn)), .double (v)]) (n := 5) (Nat.le_of_ble_eq_true rfl)
  rw [lg_entry_eq]
  generalize (lg_sl ([.ref h, .int (nI (en)), .int (nI (bn)), .double (v)]) ++ List.replicate (5 - (lg_sl ([.ref h, .int (nI (en)), .int (nI (bn)), .double (v)])).length) Slot.unset).toArray = ls at hl ⊢
  have hl : lv_has ls 5 [(0, .ref h), (1, .int (nI (en))), (2, .int (nI (bn))), (3, .double (v))] := hl
  refine lv_aload_n hx hb dX2_mark_0 rfl (lv_at hl 0 rfl) ?_
  refine lv_iconst (v := nI 0) hx hb dX2_mark_1 (by decide) ?_
  refine va_put (D := (dC, dI)) (ci := 2) (v := .int (nI (0))) (ty := .int) (C := RX2) (T := TX2) (N := 6) hx hb hts hin2 tyX2 tyX2_ok nmX2 hown hK hP hD hS 0 rfl rfl 5 (by decide) fl24 (fun _ h9 => h9) rfl (by decide +kernel) rfl rfl (Nat.le_of_ble_eq_true rfl) dX2_mark_2 (fun H locs hP hD hS => ?_)
  have hP : va_P (dC, dI) vwCl [(h, .inr (2, [.ref b0, .ref b1, .ref b2, .ref b3, .int (nI (nn)), .int (nI (0))])), (b0, .inl (cD, 70, .inr (.inr (.inr (.inl (N)))))), (b1, .inl (cZ, 70, .inl (I))), (b2, .inl (cI, 60, .inl (T))), (b3, .inl (cI, 6, .inl (R)))] H := hP
  have hD : va_D A [(h, .inr (2, [.ref b0, .ref b1, .ref b2, .ref b3, .int (nI (nn)), .int (nI (0))])), (b0, .inl (cD, 70, .inr (.inr (.inr (.inl (N)))))), (b1, .inl (cZ, 70, .inl (I))), (b2, .inl (cI, 60, .inl (T))), (b3, .inl (cI, 6, .inl (R)))] := hD
  refine lv_aload_n hx hb dX2_mark_5 rfl (lv_at hl 0 rfl) ?_
  refine lv_iload_n hx hb dX2_mark_6 rfl (lv_at hl 1 rfl) ?_
  refine vp_callSi (va_Run.run (va_runV (As := [.int (nI (en))]) (rest := []) ⟨hx, hb, hml, hown, hts⟩ (c_X2_hasEntry_ok l dC dI cD cZ cI cL h b0 b1 b2 b3 N I T R nn (nI 0) (en) (by omega) (by omega)) (cwV 1 hts gX2_mark_X2_hasEntry rfl rfl rfl (by decide +kernel) ⟨Nat.le_of_ble_eq_true rfl, Nat.le_of_ble_eq_true rfl⟩) (okM_pre ⟨hP, hK⟩) rfl rfl hl.1 rfl (lv_room (Nat.le_of_ble_eq_true rfl)) dX2_mark_7 ⟨Nat.zero_le _, Nat.zero_le _⟩)) (fun r1 er1 => ?_)
  subst er1
  refine xb_if_eq (tgt := 32) hx hb dX2_mark_10 (by decide) (fun q => absurd q (by decide)) (fun _ => ?_)
  refine lv_aload_n hx hb dX2_mark_13 rfl (lv_at hl 0 rfl) ?_
  refine lv_iload_n hx hb dX2_mark_14 rfl (lv_at hl 2 rfl) ?_
  refine vp_callSi (va_Run.run (va_runV (As := [.int (nI (bn))]) (rest := []) ⟨hx, hb, hml, hown, hts⟩ (c_X2_hasSeat_ok l dC dI cD cZ cI cL h b0 b1 b2 b3 N I T R nn (nI 0) (bn) (by omega)) (cwV 1 hts gX2_mark_X2_hasSeat rfl rfl rfl (by decide +kernel) ⟨Nat.le_of_ble_eq_true rfl, Nat.le_of_ble_eq_true rfl⟩) (okM_pre ⟨hP, hK⟩) rfl rfl hl.1 rfl (lv_room (Nat.le_of_ble_eq_true rfl)) dX2_mark_15 ⟨Nat.zero_le _, Nat.zero_le _⟩)) (fun r2 er2 => ?_)
  subst er2
  refine xb_if_eq (tgt := 32) hx hb dX2_mark_18 (by decide) (fun q => absurd q (by decide)) (fun _ => ?_)
  refine lv_aload_n hx hb dX2_mark_21 rfl (lv_at hl 0 rfl) ?_
  refine lv_iconst (v := nI 1) hx hb dX2_mark_22 (by decide) ?_
  refine lv_iload_n hx hb dX2_mark_23 rfl (lv_at hl 1 rfl) ?_
  refine lv_iload_n hx hb dX2_mark_24 rfl (lv_at hl 2 rfl) ?_
  refine vp_callSi (va_Run.run (va_runS (As := [.int (nI (1)), .int (nI (en)), .int (nI (bn))]) (rest := [.ref h]) ⟨hx, hb, hml, hown, hts⟩ (c_X2_cell l (true) (en) (bn)) (va_cwS 3 hts gX2_mark_X2_cell rfl rfl rfl (by decide +kernel) ⟨Nat.le_of_ble_eq_true rfl, Nat.le_of_ble_eq_true rfl⟩) preT rfl rfl hl.1 rfl (lv_room (Nat.le_of_ble_eq_true rfl)) dX2_mark_25 ⟨Nat.zero_le _, Nat.zero_le _⟩)) (fun r3 er3 => ?_)
  subst er3
  have := mc_lt (f := true) (e := en) (b := bn) (by omega) (by omega)
  refine lv_dload_n hx hb dX2_mark_28 rfl (lv_at hl 3 rfl) ?_
  have hPc := hP.sub (ws' := [(h, .inr (2, [.ref b0, .ref b1, .ref b2, .ref b3, .int (nI (nn)), .int (nI (0))])), (b0, .inl (cD, 70, .inr (.inr (.inr (.inl (N)))))), (b1, .inl (cZ, 70, .inl (I))), (b2, .inl (cI, 60, .inl (T))), (b3, .inl (cI, 6, .inl (R)))]) [0, 1, 2, 3, 4] rfl
  have hDc := hD.sub (ws' := [(h, .inr (2, [.ref b0, .ref b1, .ref b2, .ref b3, .int (nI (nn)), .int (nI (0))])), (b0, .inl (cD, 70, .inr (.inr (.inr (.inl (N)))))), (b1, .inl (cZ, 70, .inl (I))), (b2, .inl (cI, 60, .inl (T))), (b3, .inl (cI, 6, .inl (R)))]) [0, 1, 2, 3, 4] (by decide) rfl
  have hFc := va_free (wc := [(h, .inr (2, [.ref b0, .ref b1, .ref b2, .ref b3, .int (nI (nn)), .int (nI (0))])), (b0, .inl (cD, 70, .inr (.inr (.inr (.inl (N)))))), (b1, .inl (cZ, 70, .inl (I))), (b2, .inl (cI, 60, .inl (T))), (b3, .inl (cI, 6, .inl (R)))]) hD hS hA [0, 1, 2, 3, 4] rfl
  refine va_callv (va_runV (As := [.int (nI (mc true en bn)), .double (v)]) (rest := []) ⟨hx, hb, hml, hown, hts⟩ (c_X2_become l dC dI cD cZ cI cL h b0 b1 b2 b3 N I T R nn (nI 0) H.size (mc true en bn) (v) (by omega)) (cwV 2 hts gX2_mark_X2_become rfl rfl rfl (by decide +kernel) ⟨Nat.le_of_ble_eq_true rfl, Nat.le_of_ble_eq_true rfl⟩) (okMW_pre ⟨hP, hK⟩ hD) rfl rfl hl.1 rfl (lv_room (Nat.le_of_ble_eq_true rfl)) dX2_mark_29 ⟨Nat.zero_le _, Nat.zero_le _⟩) hS (fun q _ h => hFc q h) hFc (fun u4 t H1 locs ht hvm hw hB hz1 hk1 hS => ?_)
  obtain ⟨hP1, hK1, hD1⟩ := hB
  rw [ht] at hP1
  have hD := hD1.weaken (fun _ q _ h => hFc q.1 h)
  have hP := hP1
  generalize H1 = H at hP hS ⊢
  have hP : va_P (dC, dI) vwCl [(h, .inr (2, [.ref b0, .ref b1, .ref b2, .ref b3, .int (nI (nn)), .int (nI (0))])), (b0, .inl (cD, 70, .inr (.inr (.inr (.inl (vf_upd N (mc true en bn) v)))))), (b1, .inl (cZ, 70, .inl (upd I (mc true en bn) (nI (Bool.toNat true))))), (b2, .inl (cI, 60, .inl (T))), (b3, .inl (cI, 6, .inl (R)))] H := hP
  have hD : va_D A [(h, .inr (2, [.ref b0, .ref b1, .ref b2, .ref b3, .int (nI (nn)), .int (nI (0))])), (b0, .inl (cD, 70, .inr (.inr (.inr (.inl (vf_upd N (mc true en bn) v)))))), (b1, .inl (cZ, 70, .inl (upd I (mc true en bn) (nI (Bool.toNat true))))), (b2, .inl (cI, 60, .inl (T))), (b3, .inl (cI, 6, .inl (R)))] := hD
  exact W.vret hx hb hr (fun t ht hW => ⟨⟨(), rfl, trivial, by rw [ht]; exact hP, va_K.moved hW.alike hK, hD⟩, hS.F ht⟩) hS.2.2 dX2_mark_32
set_option maxHeartbeats 4000000 in
set_option maxRecDepth 100000 in
theorem c_X2_mark_n1 (l : Launch) (dC : Nat → ClassId) (dI : Nat → Nat → Nat) (cD cZ cI cL : ClassId) (h b0 b1 b2 b3 : Nat) (N : Nat → UInt64) (I T R : Nat → Int32) (nn : Nat) (th : Int32) (sz : Nat) (hnn : nn ≤ 6) (ev bv : Int32) (v : UInt64) (hbad : vB ev nn = false) : Met l yX2_mark wsX2_mark ({ frames := 2, cells := 0, slots := 0, locals := 42 }) (va_Pc [.ref h, .int (ev), .int (bv), .double (v)] (fun U => U.heap.size = sz ∧ okM dC dI cD cZ cI cL h b0 b1 b2 b3 N I T R nn th U U.heap ∧ va_D (fun _ => True) (wM cD cZ cI cL h b0 b1 b2 b3 N I T R nn th))) (va_Qv (fun _ : Unit => True) (fun _ t => atM dC dI cD cZ cI cL (va_A (wM cD cZ cI cL h b0 b1 b2 b3 N I T R nn th) sz) h b0 b1 b2 b3 N I T R nn (nI 1) t) (va_A (wM cD cZ cI cL h b0 b1 b2 b3 N I T R nn th) sz)) 0 0 (va_A (wM cD cZ cI cL h b0 b1 b2 b3 N I T R nn th) sz) := by
  refine Met.ofW (cc := cX2_mark) (maxL := 5) (ret := none) (by decide) rfl ?_
  intro p e s m args below meth c s₁ B hml hv
  obtain ⟨rfl, hsz, hO, hD0⟩ := hv
  obtain ⟨hP, hK⟩ := id hO
  have hx := B.exec
  have hb := B.bytes
  have hr := B.returns
  have hts := atoms_spec (ws := wsX2_mark) B.pre
  have hown : s.vm.findClass RX2 = some m.cls := findClass_of_methodNamed B.named
  have hlocks := B.notSynchronized
  subst hsz
  have hD := hD0.self (sz := s.heap.size)
  generalize hAe : va_A (wM cD cZ cI cL h b0 b1 b2 b3 N I T R nn th) s.heap.size = A at hD ⊢
  have hA : ∀ q : Nat, s.heap.size ≤ q → A q := fun q h => by rw [← hAe]; exact Or.inr h
  have hS : va_S A s.heap s.heap [] := va_S.rf
  have hP : va_P (dC, dI) vwCl [(h, .inr (2, [.ref b0, .ref b1, .ref b2, .ref b3, .int (nI (nn)), .int (th)])), (b0, .inl (cD, 70, .inr (.inr (.inr (.inl (N)))))), (b1, .inl (cZ, 70, .inl (I))), (b2, .inl (cI, 60, .inl (T))), (b3, .inl (cI, 6, .inl (R)))] s.heap := hP
  have hD : va_D A [(h, .inr (2, [.ref b0, .ref b1, .ref b2, .ref b3, .int (nI (nn)), .int (th)])), (b0, .inl (cD, 70, .inr (.inr (.inr (.inl (N)))))), (b1, .inl (cZ, 70, .inl (I))), (b2, .inl (cI, 60, .inl (T))), (b3, .inl (cI, 6, .inl (R)))] := hD
  have hin2 : ∀ w ∈ wsX20, w ∈ wsX2_mark := (fun w h => List.mem_cons_of_mem _ (List.mem_append_right _ h))
  have fl24 := hts (.fieldLink RX2 24 "JuryTableModel" "thrown" "I") (by decide +kernel)
  have hl := lv_entry ([.ref h, .int (ev), .int (bv), .double (v)]) (n := 5) (Nat.le_of_ble_eq_true rfl)
  rw [lg_entry_eq]
  generalize (lg_sl ([.ref h, .int (ev), .int (bv), .double (v)]) ++ List.replicate (5 - (lg_sl ([.ref h, .int (ev), .int (bv), .double (v)])).length) Slot.unset).toArray = ls at hl ⊢
  have hl : lv_has ls 5 [(0, .ref h), (1, .int (ev)), (2, .int (bv)), (3, .double (v))] := hl
  refine lv_aload_n hx hb dX2_mark_0 rfl (lv_at hl 0 rfl) ?_
  refine lv_iconst (v := nI 0) hx hb dX2_mark_1 (by decide) ?_
  refine va_put (D := (dC, dI)) (ci := 2) (v := .int (nI (0))) (ty := .int) (C := RX2) (T := TX2) (N := 6) hx hb hts hin2 tyX2 tyX2_ok nmX2 hown hK hP hD hS 0 rfl rfl 5 (by decide) fl24 (fun _ h9 => h9) rfl (by decide +kernel) rfl rfl (Nat.le_of_ble_eq_true rfl) dX2_mark_2 (fun H locs hP hD hS => ?_)
  have hP : va_P (dC, dI) vwCl [(h, .inr (2, [.ref b0, .ref b1, .ref b2, .ref b3, .int (nI (nn)), .int (nI (0))])), (b0, .inl (cD, 70, .inr (.inr (.inr (.inl (N)))))), (b1, .inl (cZ, 70, .inl (I))), (b2, .inl (cI, 60, .inl (T))), (b3, .inl (cI, 6, .inl (R)))] H := hP
  have hD : va_D A [(h, .inr (2, [.ref b0, .ref b1, .ref b2, .ref b3, .int (nI (nn)), .int (nI (0))])), (b0, .inl (cD, 70, .inr (.inr (.inr (.inl (N)))))), (b1, .inl (cZ, 70, .inl (I))), (b2, .inl (cI, 60, .inl (T))), (b3, .inl (cI, 6, .inl (R)))] := hD
  refine lv_aload_n hx hb dX2_mark_5 rfl (lv_at hl 0 rfl) ?_
  refine lv_iload_n hx hb dX2_mark_6 rfl (lv_at hl 1 rfl) ?_
  have hPc := hP.sub (ws' := [(h, .inr (2, [.ref b0, .ref b1, .ref b2, .ref b3, .int (nI (nn)), .int (nI (0))])), (b0, .inl (cD, 70, .inr (.inr (.inr (.inl (N)))))), (b1, .inl (cZ, 70, .inl (I))), (b2, .inl (cI, 60, .inl (T))), (b3, .inl (cI, 6, .inl (R)))]) [0, 1, 2, 3, 4] rfl
  have hDc := hD.sub (ws' := [(h, .inr (2, [.ref b0, .ref b1, .ref b2, .ref b3, .int (nI (nn)), .int (nI (0))])), (b0, .inl (cD, 70, .inr (.inr (.inr (.inl (N)))))), (b1, .inl (cZ, 70, .inl (I))), (b2, .inl (cI, 60, .inl (T))), (b3, .inl (cI, 6, .inl (R)))]) [0, 1, 2, 3, 4] (by decide) rfl
  have hFc := va_free (wc := [(h, .inr (2, [.ref b0, .ref b1, .ref b2, .ref b3, .int (nI (nn)), .int (nI (0))])), (b0, .inl (cD, 70, .inr (.inr (.inr (.inl (N)))))), (b1, .inl (cZ, 70, .inl (I))), (b2, .inl (cI, 60, .inl (T))), (b3, .inl (cI, 6, .inl (R)))]) hD hS hA [0, 1, 2, 3, 4] rfl
  refine va_calli (va_runV (As := [.int (ev)]) (rest := []) ⟨hx, hb, hml, hown, hts⟩ (c_X2_hasEntry_no l dC dI cD cZ cI cL h b0 b1 b2 b3 N I T R nn (nI 0) H.size (ev) hbad) (cwV 1 hts gX2_mark_X2_hasEntry rfl rfl rfl (by decide +kernel) ⟨Nat.le_of_ble_eq_true rfl, Nat.le_of_ble_eq_true rfl⟩) (okMW_pre ⟨hP, hK⟩ hD) rfl rfl hl.1 rfl (lv_room (Nat.le_of_ble_eq_true rfl)) dX2_mark_7 ⟨Nat.zero_le _, Nat.zero_le _⟩) hS (fun q _ h => hFc q h) hFc (fun r1 u1 t H1 locs ht hvm hw hB hz1 hk1 hS => ?_)
  obtain ⟨hP1, hK1, hD1⟩ := hB
  rw [ht] at hP1
  have hD := hD1.weaken (fun _ q _ h => hFc q.1 h)
  have hP := hP1
  generalize H1 = H at hP hS ⊢
  have hP : va_P (dC, dI) vwCl [(h, .inr (2, [.ref b0, .ref b1, .ref b2, .ref b3, .int (nI (nn)), .int (nI (1))])), (b0, .inl (cD, 70, .inr (.inr (.inr (.inl (N)))))), (b1, .inl (cZ, 70, .inl (I))), (b2, .inl (cI, 60, .inl (T))), (b3, .inl (cI, 6, .inl (R)))] H := hP
  have hD : va_D A [(h, .inr (2, [.ref b0, .ref b1, .ref b2, .ref b3, .int (nI (nn)), .int (nI (1))])), (b0, .inl (cD, 70, .inr (.inr (.inr (.inl (N)))))), (b1, .inl (cZ, 70, .inl (I))), (b2, .inl (cI, 60, .inl (T))), (b3, .inl (cI, 6, .inl (R)))] := hD
  subst hw
  refine xb_if_eq (tgt := 32) hx hb dX2_mark_10 (by decide) (fun _ => ?_) (fun q => absurd q (by decide))
  exact W.vret hx hb hr (fun t ht hW => ⟨⟨(), rfl, trivial, by rw [ht]; exact hP, va_K.moved hW.alike hK, hD⟩, hS.F ht⟩) hS.2.2 dX2_mark_32
set_option maxHeartbeats 4000000 in
set_option maxRecDepth 100000 in
theorem c_X2_mark_n2 (l : Launch) (dC : Nat → ClassId) (dI : Nat → Nat → Nat) (cD cZ cI cL : ClassId) (h b0 b1 b2 b3 : Nat) (N : Nat → UInt64) (I T R : Nat → Int32) (nn : Nat) (th : Int32) (sz : Nat) (hnn : nn ≤ 6) (en : Nat) (bv : Int32) (v : UInt64) (hen : en < nn) (hbad : vB bv 5 = false) : Met l yX2_mark wsX2_mark ({ frames := 2, cells := 0, slots := 0, locals := 42 }) (va_Pc [.ref h, .int (nI (en)), .int (bv), .double (v)] (fun U => U.heap.size = sz ∧ okM dC dI cD cZ cI cL h b0 b1 b2 b3 N I T R nn th U U.heap ∧ va_D (fun _ => True) (wM cD cZ cI cL h b0 b1 b2 b3 N I T R nn th))) (va_Qv (fun _ : Unit => True) (fun _ t => atM dC dI cD cZ cI cL (va_A (wM cD cZ cI cL h b0 b1 b2 b3 N I T R nn th) sz) h b0 b1 b2 b3 N I T R nn (nI 1) t) (va_A (wM cD cZ cI cL h b0 b1 b2 b3 N I T R nn th) sz)) 0 0 (va_A (wM cD cZ cI cL h b0 b1 b2 b3 N I T R nn th) sz) := by
  refine Met.ofW (cc := cX2_mark) (maxL := 5) (ret := none) (by decide) rfl ?_
  intro p e s m args below meth c s₁ B hml hv
  obtain ⟨rfl, hsz, hO, hD0⟩ := hv
  obtain ⟨hP, hK⟩ := id hO
  have hx := B.exec
  have hb := B.bytes
  have hr := B.returns
  have hts := atoms_spec (ws := wsX2_mark) B.pre
  have hown : s.vm.findClass RX2 = some m.cls := findClass_of_methodNamed B.named
  have hlocks := B.notSynchronized
  subst hsz
  have hD := hD0.self (sz := s.heap.size)
  generalize hAe : va_A (wM cD cZ cI cL h b0 b1 b2 b3 N I T R nn th) s.heap.size = A at hD ⊢
  have hA : ∀ q : Nat, s.heap.size ≤ q → A q := fun q h => by rw [← hAe]; exact Or.inr h
  have hS : va_S A s.heap s.heap [] := va_S.rf
  have hP : va_P (dC, dI) vwCl [(h, .inr (2, [.ref b0, .ref b1, .ref b2, .ref b3, .int (nI (nn)), .int (th)])), (b0, .inl (cD, 70, .inr (.inr (.inr (.inl (N)))))), (b1, .inl (cZ, 70, .inl (I))), (b2, .inl (cI, 60, .inl (T))), (b3, .inl (cI, 6, .inl (R)))] s.heap := hP
  have hD : va_D A [(h, .inr (2, [.ref b0, .ref b1, .ref b2, .ref b3, .int (nI (nn)), .int (th)])), (b0, .inl (cD, 70, .inr (.inr (.inr (.inl (N)))))), (b1, .inl (cZ, 70, .inl (I))), (b2, .inl (cI, 60, .inl (T))), (b3, .inl (cI, 6, .inl (R)))] := hD
  have hin2 : ∀ w ∈ wsX20, w ∈ wsX2_mark := (fun w h => List.mem_cons_of_mem _ (List.mem_append_right _ h))
  have fl24 := hts (.fieldLink RX2 24 "JuryTableModel" "thrown" "I") (by decide +kernel)
  have hl := lv_entry ([.ref h, .int (nI (en)), .int (bv), .double (v)]) (n := 5) (Nat.le_of_ble_eq_true rfl)
  rw [lg_entry_eq]
  generalize (lg_sl ([.ref h, .int (nI (en)), .int (bv), .double (v)]) ++ List.replicate (5 - (lg_sl ([.ref h, .int (nI (en)), .int (bv), .double (v)])).length) Slot.unset).toArray = ls at hl ⊢
  have hl : lv_has ls 5 [(0, .ref h), (1, .int (nI (en))), (2, .int (bv)), (3, .double (v))] := hl
  refine lv_aload_n hx hb dX2_mark_0 rfl (lv_at hl 0 rfl) ?_
  refine lv_iconst (v := nI 0) hx hb dX2_mark_1 (by decide) ?_
  refine va_put (D := (dC, dI)) (ci := 2) (v := .int (nI (0))) (ty := .int) (C := RX2) (T := TX2) (N := 6) hx hb hts hin2 tyX2 tyX2_ok nmX2 hown hK hP hD hS 0 rfl rfl 5 (by decide) fl24 (fun _ h9 => h9) rfl (by decide +kernel) rfl rfl (Nat.le_of_ble_eq_true rfl) dX2_mark_2 (fun H locs hP hD hS => ?_)
  have hP : va_P (dC, dI) vwCl [(h, .inr (2, [.ref b0, .ref b1, .ref b2, .ref b3, .int (nI (nn)), .int (nI (0))])), (b0, .inl (cD, 70, .inr (.inr (.inr (.inl (N)))))), (b1, .inl (cZ, 70, .inl (I))), (b2, .inl (cI, 60, .inl (T))), (b3, .inl (cI, 6, .inl (R)))] H := hP
  have hD : va_D A [(h, .inr (2, [.ref b0, .ref b1, .ref b2, .ref b3, .int (nI (nn)), .int (nI (0))])), (b0, .inl (cD, 70, .inr (.inr (.inr (.inl (N)))))), (b1, .inl (cZ, 70, .inl (I))), (b2, .inl (cI, 60, .inl (T))), (b3, .inl (cI, 6, .inl (R)))] := hD
  refine lv_aload_n hx hb dX2_mark_5 rfl (lv_at hl 0 rfl) ?_
  refine lv_iload_n hx hb dX2_mark_6 rfl (lv_at hl 1 rfl) ?_
  refine vp_callSi (va_Run.run (va_runV (As := [.int (nI (en))]) (rest := []) ⟨hx, hb, hml, hown, hts⟩ (c_X2_hasEntry_ok l dC dI cD cZ cI cL h b0 b1 b2 b3 N I T R nn (nI 0) (en) (by omega) (by omega)) (cwV 1 hts gX2_mark_X2_hasEntry rfl rfl rfl (by decide +kernel) ⟨Nat.le_of_ble_eq_true rfl, Nat.le_of_ble_eq_true rfl⟩) (okM_pre ⟨hP, hK⟩) rfl rfl hl.1 rfl (lv_room (Nat.le_of_ble_eq_true rfl)) dX2_mark_7 ⟨Nat.zero_le _, Nat.zero_le _⟩)) (fun r1 er1 => ?_)
  subst er1
  refine xb_if_eq (tgt := 32) hx hb dX2_mark_10 (by decide) (fun q => absurd q (by decide)) (fun _ => ?_)
  refine lv_aload_n hx hb dX2_mark_13 rfl (lv_at hl 0 rfl) ?_
  refine lv_iload_n hx hb dX2_mark_14 rfl (lv_at hl 2 rfl) ?_
  have hPc := hP.sub (ws' := [(h, .inr (2, [.ref b0, .ref b1, .ref b2, .ref b3, .int (nI (nn)), .int (nI (0))])), (b0, .inl (cD, 70, .inr (.inr (.inr (.inl (N)))))), (b1, .inl (cZ, 70, .inl (I))), (b2, .inl (cI, 60, .inl (T))), (b3, .inl (cI, 6, .inl (R)))]) [0, 1, 2, 3, 4] rfl
  have hDc := hD.sub (ws' := [(h, .inr (2, [.ref b0, .ref b1, .ref b2, .ref b3, .int (nI (nn)), .int (nI (0))])), (b0, .inl (cD, 70, .inr (.inr (.inr (.inl (N)))))), (b1, .inl (cZ, 70, .inl (I))), (b2, .inl (cI, 60, .inl (T))), (b3, .inl (cI, 6, .inl (R)))]) [0, 1, 2, 3, 4] (by decide) rfl
  have hFc := va_free (wc := [(h, .inr (2, [.ref b0, .ref b1, .ref b2, .ref b3, .int (nI (nn)), .int (nI (0))])), (b0, .inl (cD, 70, .inr (.inr (.inr (.inl (N)))))), (b1, .inl (cZ, 70, .inl (I))), (b2, .inl (cI, 60, .inl (T))), (b3, .inl (cI, 6, .inl (R)))]) hD hS hA [0, 1, 2, 3, 4] rfl
  refine va_calli (va_runV (As := [.int (bv)]) (rest := []) ⟨hx, hb, hml, hown, hts⟩ (c_X2_hasSeat_no l dC dI cD cZ cI cL h b0 b1 b2 b3 N I T R nn (nI 0) H.size (bv) hbad) (cwV 1 hts gX2_mark_X2_hasSeat rfl rfl rfl (by decide +kernel) ⟨Nat.le_of_ble_eq_true rfl, Nat.le_of_ble_eq_true rfl⟩) (okMW_pre ⟨hP, hK⟩ hD) rfl rfl hl.1 rfl (lv_room (Nat.le_of_ble_eq_true rfl)) dX2_mark_15 ⟨Nat.zero_le _, Nat.zero_le _⟩) hS (fun q _ h => hFc q h) hFc (fun r2 u2 t H1 locs ht hvm hw hB hz1 hk1 hS => ?_)
  obtain ⟨hP1, hK1, hD1⟩ := hB
  rw [ht] at hP1
  have hD := hD1.weaken (fun _ q _ h => hFc q.1 h)
  have hP := hP1
  generalize H1 = H at hP hS ⊢
  have hP : va_P (dC, dI) vwCl [(h, .inr (2, [.ref b0, .ref b1, .ref b2, .ref b3, .int (nI (nn)), .int (nI (1))])), (b0, .inl (cD, 70, .inr (.inr (.inr (.inl (N)))))), (b1, .inl (cZ, 70, .inl (I))), (b2, .inl (cI, 60, .inl (T))), (b3, .inl (cI, 6, .inl (R)))] H := hP
  have hD : va_D A [(h, .inr (2, [.ref b0, .ref b1, .ref b2, .ref b3, .int (nI (nn)), .int (nI (1))])), (b0, .inl (cD, 70, .inr (.inr (.inr (.inl (N)))))), (b1, .inl (cZ, 70, .inl (I))), (b2, .inl (cI, 60, .inl (T))), (b3, .inl (cI, 6, .inl (R)))] := hD
  subst hw
  refine xb_if_eq (tgt := 32) hx hb dX2_mark_18 (by decide) (fun _ => ?_) (fun q => absurd q (by decide))
  exact W.vret hx hb hr (fun t ht hW => ⟨⟨(), rfl, trivial, by rw [ht]; exact hP, va_K.moved hW.alike hK, hD⟩, hS.F ht⟩) hS.2.2 dX2_mark_32
set_option maxHeartbeats 4000000 in
set_option maxRecDepth 100000 in
theorem c_X2_points_ok (l : Launch) (dC : Nat → ClassId) (dI : Nat → Nat → Nat) (cD cZ cI cL : ClassId) (h b0 b1 b2 b3 : Nat) (N : Nat → UInt64) (I T R : Nat → Int32) (nn : Nat) (th : Int32) (sz : Nat) (hnn : nn ≤ 6) (en bn : Nat) (fv : UInt32) (hn : vf_n64 (FP.f2d fv)) (hen : en < nn) (hbn : bn < 5) : Met l yX2_points wsX2_points ({ frames := 2, cells := 0, slots := 0, locals := 42 }) (va_Pc [.ref h, .int (nI (en)), .int (nI (bn)), .float (fv)] (fun U => U.heap.size = sz ∧ okM dC dI cD cZ cI cL h b0 b1 b2 b3 N I T R nn th U U.heap ∧ va_D (fun _ => True) (wM cD cZ cI cL h b0 b1 b2 b3 N I T R nn th))) (va_Qv (fun _ : Unit => True) (fun _ t => atM dC dI cD cZ cI cL (va_A (wM cD cZ cI cL h b0 b1 b2 b3 N I T R nn th) sz) h b0 b1 b2 b3 (vf_upd N (mc false en bn) (FP.f2d fv)) (upd I (mc false en bn) (nI (Bool.toNat true))) T R nn (nI 0) t) (va_A (wM cD cZ cI cL h b0 b1 b2 b3 N I T R nn th) sz)) 0 0 (va_A (wM cD cZ cI cL h b0 b1 b2 b3 N I T R nn th) sz) := by
  refine Met.ofW (cc := cX2_points) (maxL := 4) (ret := none) (by decide) rfl ?_
  intro p e s m args below meth c s₁ B hml hv
  obtain ⟨rfl, hsz, hO, hD0⟩ := hv
  obtain ⟨hP, hK⟩ := id hO
  have hx := B.exec
  have hb := B.bytes
  have hr := B.returns
  have hts := atoms_spec (ws := wsX2_points) B.pre
  have hown : s.vm.findClass RX2 = some m.cls := findClass_of_methodNamed B.named
  have hlocks := B.notSynchronized
  subst hsz
  have hD := hD0.self (sz := s.heap.size)
  generalize hAe : va_A (wM cD cZ cI cL h b0 b1 b2 b3 N I T R nn th) s.heap.size = A at hD ⊢
  have hA : ∀ q : Nat, s.heap.size ≤ q → A q := fun q h => by rw [← hAe]; exact Or.inr h
  have hS : va_S A s.heap s.heap [] := va_S.rf
  have hP : va_P (dC, dI) vwCl [(h, .inr (2, [.ref b0, .ref b1, .ref b2, .ref b3, .int (nI (nn)), .int (th)])), (b0, .inl (cD, 70, .inr (.inr (.inr (.inl (N)))))), (b1, .inl (cZ, 70, .inl (I))), (b2, .inl (cI, 60, .inl (T))), (b3, .inl (cI, 6, .inl (R)))] s.heap := hP
  have hD : va_D A [(h, .inr (2, [.ref b0, .ref b1, .ref b2, .ref b3, .int (nI (nn)), .int (th)])), (b0, .inl (cD, 70, .inr (.inr (.inr (.inl (N)))))), (b1, .inl (cZ, 70, .inl (I))), (b2, .inl (cI, 60, .inl (T))), (b3, .inl (cI, 6, .inl (R)))] := hD
  have hin2 : ∀ w ∈ wsX20, w ∈ wsX2_points := (fun w h => List.mem_cons_of_mem _ (List.mem_append_right _ h))
  have fl24 := hts (.fieldLink RX2 24 "JuryTableModel" "thrown" "I") (by decide +kernel)
  have hl := lv_entry ([.ref h, .int (nI (en)), .int (nI (bn)), .float (fv)]) (n := 4) (Nat.le_of_ble_eq_true rfl)
  rw [lg_entry_eq]
  generalize (lg_sl ([.ref h, .int (nI (en)), .int (nI (bn)), .float (fv)]) ++ List.replicate (4 - (lg_sl ([.ref h, .int (nI (en)), .int (nI (bn)), .float (fv)])).length) Slot.unset).toArray = ls at hl ⊢
  have hl : lv_has ls 4 [(0, .ref h), (1, .int (nI (en))), (2, .int (nI (bn))), (3, .float (fv))] := hl
  refine lv_aload_n hx hb dX2_points_0 rfl (lv_at hl 0 rfl) ?_
  refine lv_iconst (v := nI 0) hx hb dX2_points_1 (by decide) ?_
  refine va_put (D := (dC, dI)) (ci := 2) (v := .int (nI (0))) (ty := .int) (C := RX2) (T := TX2) (N := 6) hx hb hts hin2 tyX2 tyX2_ok nmX2 hown hK hP hD hS 0 rfl rfl 5 (by decide) fl24 (fun _ h9 => h9) rfl (by decide +kernel) rfl rfl (Nat.le_of_ble_eq_true rfl) dX2_points_2 (fun H locs hP hD hS => ?_)
  have hP : va_P (dC, dI) vwCl [(h, .inr (2, [.ref b0, .ref b1, .ref b2, .ref b3, .int (nI (nn)), .int (nI (0))])), (b0, .inl (cD, 70, .inr (.inr (.inr (.inl (N)))))), (b1, .inl (cZ, 70, .inl (I))), (b2, .inl (cI, 60, .inl (T))), (b3, .inl (cI, 6, .inl (R)))] H := hP
  have hD : va_D A [(h, .inr (2, [.ref b0, .ref b1, .ref b2, .ref b3, .int (nI (nn)), .int (nI (0))])), (b0, .inl (cD, 70, .inr (.inr (.inr (.inl (N)))))), (b1, .inl (cZ, 70, .inl (I))), (b2, .inl (cI, 60, .inl (T))), (b3, .inl (cI, 6, .inl (R)))] := hD
  refine lv_aload_n hx hb dX2_points_5 rfl (lv_at hl 0 rfl) ?_
  refine lv_iload_n hx hb dX2_points_6 rfl (lv_at hl 1 rfl) ?_
  refine vp_callSi (va_Run.run (va_runV (As := [.int (nI (en))]) (rest := []) ⟨hx, hb, hml, hown, hts⟩ (c_X2_hasEntry_ok l dC dI cD cZ cI cL h b0 b1 b2 b3 N I T R nn (nI 0) (en) (by omega) (by omega)) (cwV 1 hts gX2_points_X2_hasEntry rfl rfl rfl (by decide +kernel) ⟨Nat.le_of_ble_eq_true rfl, Nat.le_of_ble_eq_true rfl⟩) (okM_pre ⟨hP, hK⟩) rfl rfl hl.1 rfl (lv_room (Nat.le_of_ble_eq_true rfl)) dX2_points_7 ⟨Nat.zero_le _, Nat.zero_le _⟩)) (fun r1 er1 => ?_)
  subst er1
  refine xb_if_eq (tgt := 33) hx hb dX2_points_10 (by decide) (fun q => absurd q (by decide)) (fun _ => ?_)
  refine lv_aload_n hx hb dX2_points_13 rfl (lv_at hl 0 rfl) ?_
  refine lv_iload_n hx hb dX2_points_14 rfl (lv_at hl 2 rfl) ?_
  refine vp_callSi (va_Run.run (va_runV (As := [.int (nI (bn))]) (rest := []) ⟨hx, hb, hml, hown, hts⟩ (c_X2_hasSeat_ok l dC dI cD cZ cI cL h b0 b1 b2 b3 N I T R nn (nI 0) (bn) (by omega)) (cwV 1 hts gX2_points_X2_hasSeat rfl rfl rfl (by decide +kernel) ⟨Nat.le_of_ble_eq_true rfl, Nat.le_of_ble_eq_true rfl⟩) (okM_pre ⟨hP, hK⟩) rfl rfl hl.1 rfl (lv_room (Nat.le_of_ble_eq_true rfl)) dX2_points_15 ⟨Nat.zero_le _, Nat.zero_le _⟩)) (fun r2 er2 => ?_)
  subst er2
  refine xb_if_eq (tgt := 33) hx hb dX2_points_18 (by decide) (fun q => absurd q (by decide)) (fun _ => ?_)
  refine lv_aload_n hx hb dX2_points_21 rfl (lv_at hl 0 rfl) ?_
  refine lv_iconst (v := nI 0) hx hb dX2_points_22 (by decide) ?_
  refine lv_iload_n hx hb dX2_points_23 rfl (lv_at hl 1 rfl) ?_
  refine lv_iload_n hx hb dX2_points_24 rfl (lv_at hl 2 rfl) ?_
  refine vp_callSi (va_Run.run (va_runS (As := [.int (nI (0)), .int (nI (en)), .int (nI (bn))]) (rest := [.ref h]) ⟨hx, hb, hml, hown, hts⟩ (c_X2_cell l (false) (en) (bn)) (va_cwS 3 hts gX2_points_X2_cell rfl rfl rfl (by decide +kernel) ⟨Nat.le_of_ble_eq_true rfl, Nat.le_of_ble_eq_true rfl⟩) preT rfl rfl hl.1 rfl (lv_room (Nat.le_of_ble_eq_true rfl)) dX2_points_25 ⟨Nat.zero_le _, Nat.zero_le _⟩)) (fun r3 er3 => ?_)
  subst er3
  have := mc_lt (f := false) (e := en) (b := bn) (by omega) (by omega)
  refine lv_fload_n hx hb dX2_points_28 rfl (lv_at hl 3 rfl) ?_
  refine lv_f2d hx hb dX2_points_29 hn ?_
  have hPc := hP.sub (ws' := [(h, .inr (2, [.ref b0, .ref b1, .ref b2, .ref b3, .int (nI (nn)), .int (nI (0))])), (b0, .inl (cD, 70, .inr (.inr (.inr (.inl (N)))))), (b1, .inl (cZ, 70, .inl (I))), (b2, .inl (cI, 60, .inl (T))), (b3, .inl (cI, 6, .inl (R)))]) [0, 1, 2, 3, 4] rfl
  have hDc := hD.sub (ws' := [(h, .inr (2, [.ref b0, .ref b1, .ref b2, .ref b3, .int (nI (nn)), .int (nI (0))])), (b0, .inl (cD, 70, .inr (.inr (.inr (.inl (N)))))), (b1, .inl (cZ, 70, .inl (I))), (b2, .inl (cI, 60, .inl (T))), (b3, .inl (cI, 6, .inl (R)))]) [0, 1, 2, 3, 4] (by decide) rfl
  have hFc := va_free (wc := [(h, .inr (2, [.ref b0, .ref b1, .ref b2, .ref b3, .int (nI (nn)), .int (nI (0))])), (b0, .inl (cD, 70, .inr (.inr (.inr (.inl (N)))))), (b1, .inl (cZ, 70, .inl (I))), (b2, .inl (cI, 60, .inl (T))), (b3, .inl (cI, 6, .inl (R)))]) hD hS hA [0, 1, 2, 3, 4] rfl
  refine va_callv (va_runV (As := [.int (nI (mc false en bn)), .double (FP.f2d fv)]) (rest := []) ⟨hx, hb, hml, hown, hts⟩ (c_X2_become l dC dI cD cZ cI cL h b0 b1 b2 b3 N I T R nn (nI 0) H.size (mc false en bn) (FP.f2d fv) (by omega)) (cwV 2 hts gX2_points_X2_become rfl rfl rfl (by decide +kernel) ⟨Nat.le_of_ble_eq_true rfl, Nat.le_of_ble_eq_true rfl⟩) (okMW_pre ⟨hP, hK⟩ hD) rfl rfl hl.1 rfl (lv_room (Nat.le_of_ble_eq_true rfl)) dX2_points_30 ⟨Nat.zero_le _, Nat.zero_le _⟩) hS (fun q _ h => hFc q h) hFc (fun u4 t H1 locs ht hvm hw hB hz1 hk1 hS => ?_)
  obtain ⟨hP1, hK1, hD1⟩ := hB
  rw [ht] at hP1
  have hD := hD1.weaken (fun _ q _ h => hFc q.1 h)
  have hP := hP1
  generalize H1 = H at hP hS ⊢
  have hP : va_P (dC, dI) vwCl [(h, .inr (2, [.ref b0, .ref b1, .ref b2, .ref b3, .int (nI (nn)), .int (nI (0))])), (b0, .inl (cD, 70, .inr (.inr (.inr (.inl (vf_upd N (mc false en bn) (FP.f2d fv))))))), (b1, .inl (cZ, 70, .inl (upd I (mc false en bn) (nI (Bool.toNat true))))), (b2, .inl (cI, 60, .inl (T))), (b3, .inl (cI, 6, .inl (R)))] H := hP
  have hD : va_D A [(h, .inr (2, [.ref b0, .ref b1, .ref b2, .ref b3, .int (nI (nn)), .int (nI (0))])), (b0, .inl (cD, 70, .inr (.inr (.inr (.inl (vf_upd N (mc false en bn) (FP.f2d fv))))))), (b1, .inl (cZ, 70, .inl (upd I (mc false en bn) (nI (Bool.toNat true))))), (b2, .inl (cI, 60, .inl (T))), (b3, .inl (cI, 6, .inl (R)))] := hD
  exact W.vret hx hb hr (fun t ht hW => ⟨⟨(), rfl, trivial, by rw [ht]; exact hP, va_K.moved hW.alike hK, hD⟩, hS.F ht⟩) hS.2.2 dX2_points_33
set_option maxHeartbeats 4000000 in
set_option maxRecDepth 100000 in
theorem c_X2_points_n1 (l : Launch) (dC : Nat → ClassId) (dI : Nat → Nat → Nat) (cD cZ cI cL : ClassId) (h b0 b1 b2 b3 : Nat) (N : Nat → UInt64) (I T R : Nat → Int32) (nn : Nat) (th : Int32) (sz : Nat) (hnn : nn ≤ 6) (ev bv : Int32) (fv : UInt32) (hbad : vB ev nn = false) : Met l yX2_points wsX2_points ({ frames := 2, cells := 0, slots := 0, locals := 42 }) (va_Pc [.ref h, .int (ev), .int (bv), .float (fv)] (fun U => U.heap.size = sz ∧ okM dC dI cD cZ cI cL h b0 b1 b2 b3 N I T R nn th U U.heap ∧ va_D (fun _ => True) (wM cD cZ cI cL h b0 b1 b2 b3 N I T R nn th))) (va_Qv (fun _ : Unit => True) (fun _ t => atM dC dI cD cZ cI cL (va_A (wM cD cZ cI cL h b0 b1 b2 b3 N I T R nn th) sz) h b0 b1 b2 b3 N I T R nn (nI 1) t) (va_A (wM cD cZ cI cL h b0 b1 b2 b3 N I T R nn th) sz)) 0 0 (va_A (wM cD cZ cI cL h b0 b1 b2 b3 N I T R nn th) sz) := by
  refine Met.ofW (cc := cX2_points) (maxL := 4) (ret := none) (by decide) rfl ?_
  intro p e s m args below meth c s₁ B hml hv
  obtain ⟨rfl, hsz, hO, hD0⟩ := hv
  obtain ⟨hP, hK⟩ := id hO
  have hx := B.exec
  have hb := B.bytes
  have hr := B.returns
  have hts := atoms_spec (ws := wsX2_points) B.pre
  have hown : s.vm.findClass RX2 = some m.cls := findClass_of_methodNamed B.named
  have hlocks := B.notSynchronized
  subst hsz
  have hD := hD0.self (sz := s.heap.size)
  generalize hAe : va_A (wM cD cZ cI cL h b0 b1 b2 b3 N I T R nn th) s.heap.size = A at hD ⊢
  have hA : ∀ q : Nat, s.heap.size ≤ q → A q := fun q h => by rw [← hAe]; exact Or.inr h
  have hS : va_S A s.heap s.heap [] := va_S.rf
  have hP : va_P (dC, dI) vwCl [(h, .inr (2, [.ref b0, .ref b1, .ref b2, .ref b3, .int (nI (nn)), .int (th)])), (b0, .inl (cD, 70, .inr (.inr (.inr (.inl (N)))))), (b1, .inl (cZ, 70, .inl (I))), (b2, .inl (cI, 60, .inl (T))), (b3, .inl (cI, 6, .inl (R)))] s.heap := hP
  have hD : va_D A [(h, .inr (2, [.ref b0, .ref b1, .ref b2, .ref b3, .int (nI (nn)), .int (th)])), (b0, .inl (cD, 70, .inr (.inr (.inr (.inl (N)))))), (b1, .inl (cZ, 70, .inl (I))), (b2, .inl (cI, 60, .inl (T))), (b3, .inl (cI, 6, .inl (R)))] := hD
  have hin2 : ∀ w ∈ wsX20, w ∈ wsX2_points := (fun w h => List.mem_cons_of_mem _ (List.mem_append_right _ h))
  have fl24 := hts (.fieldLink RX2 24 "JuryTableModel" "thrown" "I") (by decide +kernel)
  have hl := lv_entry ([.ref h, .int (ev), .int (bv), .float (fv)]) (n := 4) (Nat.le_of_ble_eq_true rfl)
  rw [lg_entry_eq]
  generalize (lg_sl ([.ref h, .int (ev), .int (bv), .float (fv)]) ++ List.replicate (4 - (lg_sl ([.ref h, .int (ev), .int (bv), .float (fv)])).length) Slot.unset).toArray = ls at hl ⊢
  have hl : lv_has ls 4 [(0, .ref h), (1, .int (ev)), (2, .int (bv)), (3, .float (fv))] := hl
  refine lv_aload_n hx hb dX2_points_0 rfl (lv_at hl 0 rfl) ?_
  refine lv_iconst (v := nI 0) hx hb dX2_points_1 (by decide) ?_
  refine va_put (D := (dC, dI)) (ci := 2) (v := .int (nI (0))) (ty := .int) (C := RX2) (T := TX2) (N := 6) hx hb hts hin2 tyX2 tyX2_ok nmX2 hown hK hP hD hS 0 rfl rfl 5 (by decide) fl24 (fun _ h9 => h9) rfl (by decide +kernel) rfl rfl (Nat.le_of_ble_eq_true rfl) dX2_points_2 (fun H locs hP hD hS => ?_)
  have hP : va_P (dC, dI) vwCl [(h, .inr (2, [.ref b0, .ref b1, .ref b2, .ref b3, .int (nI (nn)), .int (nI (0))])), (b0, .inl (cD, 70, .inr (.inr (.inr (.inl (N)))))), (b1, .inl (cZ, 70, .inl (I))), (b2, .inl (cI, 60, .inl (T))), (b3, .inl (cI, 6, .inl (R)))] H := hP
  have hD : va_D A [(h, .inr (2, [.ref b0, .ref b1, .ref b2, .ref b3, .int (nI (nn)), .int (nI (0))])), (b0, .inl (cD, 70, .inr (.inr (.inr (.inl (N)))))), (b1, .inl (cZ, 70, .inl (I))), (b2, .inl (cI, 60, .inl (T))), (b3, .inl (cI, 6, .inl (R)))] := hD
  refine lv_aload_n hx hb dX2_points_5 rfl (lv_at hl 0 rfl) ?_
  refine lv_iload_n hx hb dX2_points_6 rfl (lv_at hl 1 rfl) ?_
  have hPc := hP.sub (ws' := [(h, .inr (2, [.ref b0, .ref b1, .ref b2, .ref b3, .int (nI (nn)), .int (nI (0))])), (b0, .inl (cD, 70, .inr (.inr (.inr (.inl (N)))))), (b1, .inl (cZ, 70, .inl (I))), (b2, .inl (cI, 60, .inl (T))), (b3, .inl (cI, 6, .inl (R)))]) [0, 1, 2, 3, 4] rfl
  have hDc := hD.sub (ws' := [(h, .inr (2, [.ref b0, .ref b1, .ref b2, .ref b3, .int (nI (nn)), .int (nI (0))])), (b0, .inl (cD, 70, .inr (.inr (.inr (.inl (N)))))), (b1, .inl (cZ, 70, .inl (I))), (b2, .inl (cI, 60, .inl (T))), (b3, .inl (cI, 6, .inl (R)))]) [0, 1, 2, 3, 4] (by decide) rfl
  have hFc := va_free (wc := [(h, .inr (2, [.ref b0, .ref b1, .ref b2, .ref b3, .int (nI (nn)), .int (nI (0))])), (b0, .inl (cD, 70, .inr (.inr (.inr (.inl (N)))))), (b1, .inl (cZ, 70, .inl (I))), (b2, .inl (cI, 60, .inl (T))), (b3, .inl (cI, 6, .inl (R)))]) hD hS hA [0, 1, 2, 3, 4] rfl
  refine va_calli (va_runV (As := [.int (ev)]) (rest := []) ⟨hx, hb, hml, hown, hts⟩ (c_X2_hasEntry_no l dC dI cD cZ cI cL h b0 b1 b2 b3 N I T R nn (nI 0) H.size (ev) hbad) (cwV 1 hts gX2_points_X2_hasEntry rfl rfl rfl (by decide +kernel) ⟨Nat.le_of_ble_eq_true rfl, Nat.le_of_ble_eq_true rfl⟩) (okMW_pre ⟨hP, hK⟩ hD) rfl rfl hl.1 rfl (lv_room (Nat.le_of_ble_eq_true rfl)) dX2_points_7 ⟨Nat.zero_le _, Nat.zero_le _⟩) hS (fun q _ h => hFc q h) hFc (fun r1 u1 t H1 locs ht hvm hw hB hz1 hk1 hS => ?_)
  obtain ⟨hP1, hK1, hD1⟩ := hB
  rw [ht] at hP1
  have hD := hD1.weaken (fun _ q _ h => hFc q.1 h)
  have hP := hP1
  generalize H1 = H at hP hS ⊢
  have hP : va_P (dC, dI) vwCl [(h, .inr (2, [.ref b0, .ref b1, .ref b2, .ref b3, .int (nI (nn)), .int (nI (1))])), (b0, .inl (cD, 70, .inr (.inr (.inr (.inl (N)))))), (b1, .inl (cZ, 70, .inl (I))), (b2, .inl (cI, 60, .inl (T))), (b3, .inl (cI, 6, .inl (R)))] H := hP
  have hD : va_D A [(h, .inr (2, [.ref b0, .ref b1, .ref b2, .ref b3, .int (nI (nn)), .int (nI (1))])), (b0, .inl (cD, 70, .inr (.inr (.inr (.inl (N)))))), (b1, .inl (cZ, 70, .inl (I))), (b2, .inl (cI, 60, .inl (T))), (b3, .inl (cI, 6, .inl (R)))] := hD
  subst hw
  refine xb_if_eq (tgt := 33) hx hb dX2_points_10 (by decide) (fun _ => ?_) (fun q => absurd q (by decide))
  exact W.vret hx hb hr (fun t ht hW => ⟨⟨(), rfl, trivial, by rw [ht]; exact hP, va_K.moved hW.alike hK, hD⟩, hS.F ht⟩) hS.2.2 dX2_points_33
set_option maxHeartbeats 4000000 in
set_option maxRecDepth 100000 in
theorem c_X2_points_n2 (l : Launch) (dC : Nat → ClassId) (dI : Nat → Nat → Nat) (cD cZ cI cL : ClassId) (h b0 b1 b2 b3 : Nat) (N : Nat → UInt64) (I T R : Nat → Int32) (nn : Nat) (th : Int32) (sz : Nat) (hnn : nn ≤ 6) (en : Nat) (bv : Int32) (fv : UInt32) (hen : en < nn) (hbad : vB bv 5 = false) : Met l yX2_points wsX2_points ({ frames := 2, cells := 0, slots := 0, locals := 42 }) (va_Pc [.ref h, .int (nI (en)), .int (bv), .float (fv)] (fun U => U.heap.size = sz ∧ okM dC dI cD cZ cI cL h b0 b1 b2 b3 N I T R nn th U U.heap ∧ va_D (fun _ => True) (wM cD cZ cI cL h b0 b1 b2 b3 N I T R nn th))) (va_Qv (fun _ : Unit => True) (fun _ t => atM dC dI cD cZ cI cL (va_A (wM cD cZ cI cL h b0 b1 b2 b3 N I T R nn th) sz) h b0 b1 b2 b3 N I T R nn (nI 1) t) (va_A (wM cD cZ cI cL h b0 b1 b2 b3 N I T R nn th) sz)) 0 0 (va_A (wM cD cZ cI cL h b0 b1 b2 b3 N I T R nn th) sz) := by
  refine Met.ofW (cc := cX2_points) (maxL := 4) (ret := none) (by decide) rfl ?_
  intro p e s m args below meth c s₁ B hml hv
  obtain ⟨rfl, hsz, hO, hD0⟩ := hv
  obtain ⟨hP, hK⟩ := id hO
  have hx := B.exec
  have hb := B.bytes
  have hr := B.returns
  have hts := atoms_spec (ws := wsX2_points) B.pre
  have hown : s.vm.findClass RX2 = some m.cls := findClass_of_methodNamed B.named
  have hlocks := B.notSynchronized
  subst hsz
  have hD := hD0.self (sz := s.heap.size)
  generalize hAe : va_A (wM cD cZ cI cL h b0 b1 b2 b3 N I T R nn th) s.heap.size = A at hD ⊢
  have hA : ∀ q : Nat, s.heap.size ≤ q → A q := fun q h => by rw [← hAe]; exact Or.inr h
  have hS : va_S A s.heap s.heap [] := va_S.rf
  have hP : va_P (dC, dI) vwCl [(h, .inr (2, [.ref b0, .ref b1, .ref b2, .ref b3, .int (nI (nn)), .int (th)])), (b0, .inl (cD, 70, .inr (.inr (.inr (.inl (N)))))), (b1, .inl (cZ, 70, .inl (I))), (b2, .inl (cI, 60, .inl (T))), (b3, .inl (cI, 6, .inl (R)))] s.heap := hP
  have hD : va_D A [(h, .inr (2, [.ref b0, .ref b1, .ref b2, .ref b3, .int (nI (nn)), .int (th)])), (b0, .inl (cD, 70, .inr (.inr (.inr (.inl (N)))))), (b1, .inl (cZ, 70, .inl (I))), (b2, .inl (cI, 60, .inl (T))), (b3, .inl (cI, 6, .inl (R)))] := hD
  have hin2 : ∀ w ∈ wsX20, w ∈ wsX2_points := (fun w h => List.mem_cons_of_mem _ (List.mem_append_right _ h))
  have fl24 := hts (.fieldLink RX2 24 "JuryTableModel" "thrown" "I") (by decide +kernel)
  have hl := lv_entry ([.ref h, .int (nI (en)), .int (bv), .float (fv)]) (n := 4) (Nat.le_of_ble_eq_true rfl)
  rw [lg_entry_eq]
  generalize (lg_sl ([.ref h, .int (nI (en)), .int (bv), .float (fv)]) ++ List.replicate (4 - (lg_sl ([.ref h, .int (nI (en)), .int (bv), .float (fv)])).length) Slot.unset).toArray = ls at hl ⊢
  have hl : lv_has ls 4 [(0, .ref h), (1, .int (nI (en))), (2, .int (bv)), (3, .float (fv))] := hl
  refine lv_aload_n hx hb dX2_points_0 rfl (lv_at hl 0 rfl) ?_
  refine lv_iconst (v := nI 0) hx hb dX2_points_1 (by decide) ?_
  refine va_put (D := (dC, dI)) (ci := 2) (v := .int (nI (0))) (ty := .int) (C := RX2) (T := TX2) (N := 6) hx hb hts hin2 tyX2 tyX2_ok nmX2 hown hK hP hD hS 0 rfl rfl 5 (by decide) fl24 (fun _ h9 => h9) rfl (by decide +kernel) rfl rfl (Nat.le_of_ble_eq_true rfl) dX2_points_2 (fun H locs hP hD hS => ?_)
  have hP : va_P (dC, dI) vwCl [(h, .inr (2, [.ref b0, .ref b1, .ref b2, .ref b3, .int (nI (nn)), .int (nI (0))])), (b0, .inl (cD, 70, .inr (.inr (.inr (.inl (N)))))), (b1, .inl (cZ, 70, .inl (I))), (b2, .inl (cI, 60, .inl (T))), (b3, .inl (cI, 6, .inl (R)))] H := hP
  have hD : va_D A [(h, .inr (2, [.ref b0, .ref b1, .ref b2, .ref b3, .int (nI (nn)), .int (nI (0))])), (b0, .inl (cD, 70, .inr (.inr (.inr (.inl (N)))))), (b1, .inl (cZ, 70, .inl (I))), (b2, .inl (cI, 60, .inl (T))), (b3, .inl (cI, 6, .inl (R)))] := hD
  refine lv_aload_n hx hb dX2_points_5 rfl (lv_at hl 0 rfl) ?_
  refine lv_iload_n hx hb dX2_points_6 rfl (lv_at hl 1 rfl) ?_
  refine vp_callSi (va_Run.run (va_runV (As := [.int (nI (en))]) (rest := []) ⟨hx, hb, hml, hown, hts⟩ (c_X2_hasEntry_ok l dC dI cD cZ cI cL h b0 b1 b2 b3 N I T R nn (nI 0) (en) (by omega) (by omega)) (cwV 1 hts gX2_points_X2_hasEntry rfl rfl rfl (by decide +kernel) ⟨Nat.le_of_ble_eq_true rfl, Nat.le_of_ble_eq_true rfl⟩) (okM_pre ⟨hP, hK⟩) rfl rfl hl.1 rfl (lv_room (Nat.le_of_ble_eq_true rfl)) dX2_points_7 ⟨Nat.zero_le _, Nat.zero_le _⟩)) (fun r1 er1 => ?_)
  subst er1
  refine xb_if_eq (tgt := 33) hx hb dX2_points_10 (by decide) (fun q => absurd q (by decide)) (fun _ => ?_)
  refine lv_aload_n hx hb dX2_points_13 rfl (lv_at hl 0 rfl) ?_
  refine lv_iload_n hx hb dX2_points_14 rfl (lv_at hl 2 rfl) ?_
  have hPc := hP.sub (ws' := [(h, .inr (2, [.ref b0, .ref b1, .ref b2, .ref b3, .int (nI (nn)), .int (nI (0))])), (b0, .inl (cD, 70, .inr (.inr (.inr (.inl (N)))))), (b1, .inl (cZ, 70, .inl (I))), (b2, .inl (cI, 60, .inl (T))), (b3, .inl (cI, 6, .inl (R)))]) [0, 1, 2, 3, 4] rfl
  have hDc := hD.sub (ws' := [(h, .inr (2, [.ref b0, .ref b1, .ref b2, .ref b3, .int (nI (nn)), .int (nI (0))])), (b0, .inl (cD, 70, .inr (.inr (.inr (.inl (N)))))), (b1, .inl (cZ, 70, .inl (I))), (b2, .inl (cI, 60, .inl (T))), (b3, .inl (cI, 6, .inl (R)))]) [0, 1, 2, 3, 4] (by decide) rfl
  have hFc := va_free (wc := [(h, .inr (2, [.ref b0, .ref b1, .ref b2, .ref b3, .int (nI (nn)), .int (nI (0))])), (b0, .inl (cD, 70, .inr (.inr (.inr (.inl (N)))))), (b1, .inl (cZ, 70, .inl (I))), (b2, .inl (cI, 60, .inl (T))), (b3, .inl (cI, 6, .inl (R)))]) hD hS hA [0, 1, 2, 3, 4] rfl
  refine va_calli (va_runV (As := [.int (bv)]) (rest := []) ⟨hx, hb, hml, hown, hts⟩ (c_X2_hasSeat_no l dC dI cD cZ cI cL h b0 b1 b2 b3 N I T R nn (nI 0) H.size (bv) hbad) (cwV 1 hts gX2_points_X2_hasSeat rfl rfl rfl (by decide +kernel) ⟨Nat.le_of_ble_eq_true rfl, Nat.le_of_ble_eq_true rfl⟩) (okMW_pre ⟨hP, hK⟩ hD) rfl rfl hl.1 rfl (lv_room (Nat.le_of_ble_eq_true rfl)) dX2_points_15 ⟨Nat.zero_le _, Nat.zero_le _⟩) hS (fun q _ h => hFc q h) hFc (fun r2 u2 t H1 locs ht hvm hw hB hz1 hk1 hS => ?_)
  obtain ⟨hP1, hK1, hD1⟩ := hB
  rw [ht] at hP1
  have hD := hD1.weaken (fun _ q _ h => hFc q.1 h)
  have hP := hP1
  generalize H1 = H at hP hS ⊢
  have hP : va_P (dC, dI) vwCl [(h, .inr (2, [.ref b0, .ref b1, .ref b2, .ref b3, .int (nI (nn)), .int (nI (1))])), (b0, .inl (cD, 70, .inr (.inr (.inr (.inl (N)))))), (b1, .inl (cZ, 70, .inl (I))), (b2, .inl (cI, 60, .inl (T))), (b3, .inl (cI, 6, .inl (R)))] H := hP
  have hD : va_D A [(h, .inr (2, [.ref b0, .ref b1, .ref b2, .ref b3, .int (nI (nn)), .int (nI (1))])), (b0, .inl (cD, 70, .inr (.inr (.inr (.inl (N)))))), (b1, .inl (cZ, 70, .inl (I))), (b2, .inl (cI, 60, .inl (T))), (b3, .inl (cI, 6, .inl (R)))] := hD
  subst hw
  refine xb_if_eq (tgt := 33) hx hb dX2_points_18 (by decide) (fun _ => ?_) (fun q => absurd q (by decide))
  exact W.vret hx hb hr (fun t ht hW => ⟨⟨(), rfl, trivial, by rw [ht]; exact hP, va_K.moved hW.alike hK, hD⟩, hS.F ht⟩) hS.2.2 dX2_points_33
set_option maxHeartbeats 4000000 in
set_option maxRecDepth 100000 in
theorem c_X2_bar_ok (l : Launch) (dC : Nat → ClassId) (dI : Nat → Nat → Nat) (cD cZ cI cL : ClassId) (h b0 b1 b2 b3 : Nat) (N : Nat → UInt64) (I T R : Nat → Int32) (nn : Nat) (th : Int32) (sz : Nat) (bn : Nat) (v : UInt64) (hbn : bn < 5) : Met l yX2_bar wsX2_bar ({ frames := 2, cells := 0, slots := 0, locals := 42 }) (va_Pc [.ref h, .int (nI (bn)), .double (v)] (fun U => U.heap.size = sz ∧ okM dC dI cD cZ cI cL h b0 b1 b2 b3 N I T R nn th U U.heap ∧ va_D (fun _ => True) (wM cD cZ cI cL h b0 b1 b2 b3 N I T R nn th))) (va_Qv (fun _ : Unit => True) (fun _ t => atM dC dI cD cZ cI cL (va_A (wM cD cZ cI cL h b0 b1 b2 b3 N I T R nn th) sz) h b0 b1 b2 b3 (vf_upd N (ml true bn) v) (upd I (ml true bn) (nI (Bool.toNat true))) T R nn (nI 0) t) (va_A (wM cD cZ cI cL h b0 b1 b2 b3 N I T R nn th) sz)) 0 0 (va_A (wM cD cZ cI cL h b0 b1 b2 b3 N I T R nn th) sz) := by
  refine Met.ofW (cc := cX2_bar) (maxL := 4) (ret := none) (by decide) rfl ?_
  intro p e s m args below meth c s₁ B hml hv
  obtain ⟨rfl, hsz, hO, hD0⟩ := hv
  obtain ⟨hP, hK⟩ := id hO
  have hx := B.exec
  have hb := B.bytes
  have hr := B.returns
  have hts := atoms_spec (ws := wsX2_bar) B.pre
  have hown : s.vm.findClass RX2 = some m.cls := findClass_of_methodNamed B.named
  have hlocks := B.notSynchronized
  subst hsz
  have hD := hD0.self (sz := s.heap.size)
  generalize hAe : va_A (wM cD cZ cI cL h b0 b1 b2 b3 N I T R nn th) s.heap.size = A at hD ⊢
  have hA : ∀ q : Nat, s.heap.size ≤ q → A q := fun q h => by rw [← hAe]; exact Or.inr h
  have hS : va_S A s.heap s.heap [] := va_S.rf
  have hP : va_P (dC, dI) vwCl [(h, .inr (2, [.ref b0, .ref b1, .ref b2, .ref b3, .int (nI (nn)), .int (th)])), (b0, .inl (cD, 70, .inr (.inr (.inr (.inl (N)))))), (b1, .inl (cZ, 70, .inl (I))), (b2, .inl (cI, 60, .inl (T))), (b3, .inl (cI, 6, .inl (R)))] s.heap := hP
  have hD : va_D A [(h, .inr (2, [.ref b0, .ref b1, .ref b2, .ref b3, .int (nI (nn)), .int (th)])), (b0, .inl (cD, 70, .inr (.inr (.inr (.inl (N)))))), (b1, .inl (cZ, 70, .inl (I))), (b2, .inl (cI, 60, .inl (T))), (b3, .inl (cI, 6, .inl (R)))] := hD
  have hin2 : ∀ w ∈ wsX20, w ∈ wsX2_bar := (fun w h => List.mem_cons_of_mem _ (List.mem_append_right _ h))
  have fl24 := hts (.fieldLink RX2 24 "JuryTableModel" "thrown" "I") (by decide +kernel)
  have hl := lv_entry ([.ref h, .int (nI (bn)), .double (v)]) (n := 4) (Nat.le_of_ble_eq_true rfl)
  rw [lg_entry_eq]
  generalize (lg_sl ([.ref h, .int (nI (bn)), .double (v)]) ++ List.replicate (4 - (lg_sl ([.ref h, .int (nI (bn)), .double (v)])).length) Slot.unset).toArray = ls at hl ⊢
  have hl : lv_has ls 4 [(0, .ref h), (1, .int (nI (bn))), (2, .double (v))] := hl
  refine lv_aload_n hx hb dX2_bar_0 rfl (lv_at hl 0 rfl) ?_
  refine lv_iconst (v := nI 0) hx hb dX2_bar_1 (by decide) ?_
  refine va_put (D := (dC, dI)) (ci := 2) (v := .int (nI (0))) (ty := .int) (C := RX2) (T := TX2) (N := 6) hx hb hts hin2 tyX2 tyX2_ok nmX2 hown hK hP hD hS 0 rfl rfl 5 (by decide) fl24 (fun _ h9 => h9) rfl (by decide +kernel) rfl rfl (Nat.le_of_ble_eq_true rfl) dX2_bar_2 (fun H locs hP hD hS => ?_)
  have hP : va_P (dC, dI) vwCl [(h, .inr (2, [.ref b0, .ref b1, .ref b2, .ref b3, .int (nI (nn)), .int (nI (0))])), (b0, .inl (cD, 70, .inr (.inr (.inr (.inl (N)))))), (b1, .inl (cZ, 70, .inl (I))), (b2, .inl (cI, 60, .inl (T))), (b3, .inl (cI, 6, .inl (R)))] H := hP
  have hD : va_D A [(h, .inr (2, [.ref b0, .ref b1, .ref b2, .ref b3, .int (nI (nn)), .int (nI (0))])), (b0, .inl (cD, 70, .inr (.inr (.inr (.inl (N)))))), (b1, .inl (cZ, 70, .inl (I))), (b2, .inl (cI, 60, .inl (T))), (b3, .inl (cI, 6, .inl (R)))] := hD
  refine lv_aload_n hx hb dX2_bar_5 rfl (lv_at hl 0 rfl) ?_
  refine lv_iload_n hx hb dX2_bar_6 rfl (lv_at hl 1 rfl) ?_
  refine vp_callSi (va_Run.run (va_runV (As := [.int (nI (bn))]) (rest := []) ⟨hx, hb, hml, hown, hts⟩ (c_X2_hasSeat_ok l dC dI cD cZ cI cL h b0 b1 b2 b3 N I T R nn (nI 0) (bn) (by omega)) (cwV 1 hts gX2_bar_X2_hasSeat rfl rfl rfl (by decide +kernel) ⟨Nat.le_of_ble_eq_true rfl, Nat.le_of_ble_eq_true rfl⟩) (okM_pre ⟨hP, hK⟩) rfl rfl hl.1 rfl (lv_room (Nat.le_of_ble_eq_true rfl)) dX2_bar_7 ⟨Nat.zero_le _, Nat.zero_le _⟩)) (fun r1 er1 => ?_)
  subst er1
  refine xb_if_eq (tgt := 23) hx hb dX2_bar_10 (by decide) (fun q => absurd q (by decide)) (fun _ => ?_)
  refine lv_aload_n hx hb dX2_bar_13 rfl (lv_at hl 0 rfl) ?_
  refine lv_iconst (v := nI 1) hx hb dX2_bar_14 (by decide) ?_
  refine lv_iload_n hx hb dX2_bar_15 rfl (lv_at hl 1 rfl) ?_
  refine vp_callSi (va_Run.run (va_runS (As := [.int (nI (1)), .int (nI (bn))]) (rest := [.ref h]) ⟨hx, hb, hml, hown, hts⟩ (c_X2_limit l (true) (bn)) (va_cwS 2 hts gX2_bar_X2_limit rfl rfl rfl (by decide +kernel) ⟨Nat.le_of_ble_eq_true rfl, Nat.le_of_ble_eq_true rfl⟩) preT rfl rfl hl.1 rfl (lv_room (Nat.le_of_ble_eq_true rfl)) dX2_bar_16 ⟨Nat.zero_le _, Nat.zero_le _⟩)) (fun r2 er2 => ?_)
  subst er2
  have := ml_lt (f := true) (b := bn) (by omega)
  refine lv_dload_n hx hb dX2_bar_19 rfl (lv_at hl 2 rfl) ?_
  have hPc := hP.sub (ws' := [(h, .inr (2, [.ref b0, .ref b1, .ref b2, .ref b3, .int (nI (nn)), .int (nI (0))])), (b0, .inl (cD, 70, .inr (.inr (.inr (.inl (N)))))), (b1, .inl (cZ, 70, .inl (I))), (b2, .inl (cI, 60, .inl (T))), (b3, .inl (cI, 6, .inl (R)))]) [0, 1, 2, 3, 4] rfl
  have hDc := hD.sub (ws' := [(h, .inr (2, [.ref b0, .ref b1, .ref b2, .ref b3, .int (nI (nn)), .int (nI (0))])), (b0, .inl (cD, 70, .inr (.inr (.inr (.inl (N)))))), (b1, .inl (cZ, 70, .inl (I))), (b2, .inl (cI, 60, .inl (T))), (b3, .inl (cI, 6, .inl (R)))]) [0, 1, 2, 3, 4] (by decide) rfl
  have hFc := va_free (wc := [(h, .inr (2, [.ref b0, .ref b1, .ref b2, .ref b3, .int (nI (nn)), .int (nI (0))])), (b0, .inl (cD, 70, .inr (.inr (.inr (.inl (N)))))), (b1, .inl (cZ, 70, .inl (I))), (b2, .inl (cI, 60, .inl (T))), (b3, .inl (cI, 6, .inl (R)))]) hD hS hA [0, 1, 2, 3, 4] rfl
  refine va_callv (va_runV (As := [.int (nI (ml true bn)), .double (v)]) (rest := []) ⟨hx, hb, hml, hown, hts⟩ (c_X2_become l dC dI cD cZ cI cL h b0 b1 b2 b3 N I T R nn (nI 0) H.size (ml true bn) (v) (by omega)) (cwV 2 hts gX2_bar_X2_become rfl rfl rfl (by decide +kernel) ⟨Nat.le_of_ble_eq_true rfl, Nat.le_of_ble_eq_true rfl⟩) (okMW_pre ⟨hP, hK⟩ hD) rfl rfl hl.1 rfl (lv_room (Nat.le_of_ble_eq_true rfl)) dX2_bar_20 ⟨Nat.zero_le _, Nat.zero_le _⟩) hS (fun q _ h => hFc q h) hFc (fun u3 t H1 locs ht hvm hw hB hz1 hk1 hS => ?_)
  obtain ⟨hP1, hK1, hD1⟩ := hB
  rw [ht] at hP1
  have hD := hD1.weaken (fun _ q _ h => hFc q.1 h)
  have hP := hP1
  generalize H1 = H at hP hS ⊢
  have hP : va_P (dC, dI) vwCl [(h, .inr (2, [.ref b0, .ref b1, .ref b2, .ref b3, .int (nI (nn)), .int (nI (0))])), (b0, .inl (cD, 70, .inr (.inr (.inr (.inl (vf_upd N (ml true bn) v)))))), (b1, .inl (cZ, 70, .inl (upd I (ml true bn) (nI (Bool.toNat true))))), (b2, .inl (cI, 60, .inl (T))), (b3, .inl (cI, 6, .inl (R)))] H := hP
  have hD : va_D A [(h, .inr (2, [.ref b0, .ref b1, .ref b2, .ref b3, .int (nI (nn)), .int (nI (0))])), (b0, .inl (cD, 70, .inr (.inr (.inr (.inl (vf_upd N (ml true bn) v)))))), (b1, .inl (cZ, 70, .inl (upd I (ml true bn) (nI (Bool.toNat true))))), (b2, .inl (cI, 60, .inl (T))), (b3, .inl (cI, 6, .inl (R)))] := hD
  exact W.vret hx hb hr (fun t ht hW => ⟨⟨(), rfl, trivial, by rw [ht]; exact hP, va_K.moved hW.alike hK, hD⟩, hS.F ht⟩) hS.2.2 dX2_bar_23
set_option maxHeartbeats 4000000 in
set_option maxRecDepth 100000 in
theorem c_X2_bar_n1 (l : Launch) (dC : Nat → ClassId) (dI : Nat → Nat → Nat) (cD cZ cI cL : ClassId) (h b0 b1 b2 b3 : Nat) (N : Nat → UInt64) (I T R : Nat → Int32) (nn : Nat) (th : Int32) (sz : Nat) (bv : Int32) (v : UInt64) (hbad : vB bv 5 = false) : Met l yX2_bar wsX2_bar ({ frames := 2, cells := 0, slots := 0, locals := 42 }) (va_Pc [.ref h, .int (bv), .double (v)] (fun U => U.heap.size = sz ∧ okM dC dI cD cZ cI cL h b0 b1 b2 b3 N I T R nn th U U.heap ∧ va_D (fun _ => True) (wM cD cZ cI cL h b0 b1 b2 b3 N I T R nn th))) (va_Qv (fun _ : Unit => True) (fun _ t => atM dC dI cD cZ cI cL (va_A (wM cD cZ cI cL h b0 b1 b2 b3 N I T R nn th) sz) h b0 b1 b2 b3 N I T R nn (nI 1) t) (va_A (wM cD cZ cI cL h b0 b1 b2 b3 N I T R nn th) sz)) 0 0 (va_A (wM cD cZ cI cL h b0 b1 b2 b3 N I T R nn th) sz) := by
  refine Met.ofW (cc := cX2_bar) (maxL := 4) (ret := none) (by decide) rfl ?_
  intro p e s m args below meth c s₁ B hml hv
  obtain ⟨rfl, hsz, hO, hD0⟩ := hv
  obtain ⟨hP, hK⟩ := id hO
  have hx := B.exec
  have hb := B.bytes
  have hr := B.returns
  have hts := atoms_spec (ws := wsX2_bar) B.pre
  have hown : s.vm.findClass RX2 = some m.cls := findClass_of_methodNamed B.named
  have hlocks := B.notSynchronized
  subst hsz
  have hD := hD0.self (sz := s.heap.size)
  generalize hAe : va_A (wM cD cZ cI cL h b0 b1 b2 b3 N I T R nn th) s.heap.size = A at hD ⊢
  have hA : ∀ q : Nat, s.heap.size ≤ q → A q := fun q h => by rw [← hAe]; exact Or.inr h
  have hS : va_S A s.heap s.heap [] := va_S.rf
  have hP : va_P (dC, dI) vwCl [(h, .inr (2, [.ref b0, .ref b1, .ref b2, .ref b3, .int (nI (nn)), .int (th)])), (b0, .inl (cD, 70, .inr (.inr (.inr (.inl (N)))))), (b1, .inl (cZ, 70, .inl (I))), (b2, .inl (cI, 60, .inl (T))), (b3, .inl (cI, 6, .inl (R)))] s.heap := hP
  have hD : va_D A [(h, .inr (2, [.ref b0, .ref b1, .ref b2, .ref b3, .int (nI (nn)), .int (th)])), (b0, .inl (cD, 70, .inr (.inr (.inr (.inl (N)))))), (b1, .inl (cZ, 70, .inl (I))), (b2, .inl (cI, 60, .inl (T))), (b3, .inl (cI, 6, .inl (R)))] := hD
  have hin2 : ∀ w ∈ wsX20, w ∈ wsX2_bar := (fun w h => List.mem_cons_of_mem _ (List.mem_append_right _ h))
  have fl24 := hts (.fieldLink RX2 24 "JuryTableModel" "thrown" "I") (by decide +kernel)
  have hl := lv_entry ([.ref h, .int (bv), .double (v)]) (n := 4) (Nat.le_of_ble_eq_true rfl)
  rw [lg_entry_eq]
  generalize (lg_sl ([.ref h, .int (bv), .double (v)]) ++ List.replicate (4 - (lg_sl ([.ref h, .int (bv), .double (v)])).length) Slot.unset).toArray = ls at hl ⊢
  have hl : lv_has ls 4 [(0, .ref h), (1, .int (bv)), (2, .double (v))] := hl
  refine lv_aload_n hx hb dX2_bar_0 rfl (lv_at hl 0 rfl) ?_
  refine lv_iconst (v := nI 0) hx hb dX2_bar_1 (by decide) ?_
  refine va_put (D := (dC, dI)) (ci := 2) (v := .int (nI (0))) (ty := .int) (C := RX2) (T := TX2) (N := 6) hx hb hts hin2 tyX2 tyX2_ok nmX2 hown hK hP hD hS 0 rfl rfl 5 (by decide) fl24 (fun _ h9 => h9) rfl (by decide +kernel) rfl rfl (Nat.le_of_ble_eq_true rfl) dX2_bar_2 (fun H locs hP hD hS => ?_)
  have hP : va_P (dC, dI) vwCl [(h, .inr (2, [.ref b0, .ref b1, .ref b2, .ref b3, .int (nI (nn)), .int (nI (0))])), (b0, .inl (cD, 70, .inr (.inr (.inr (.inl (N)))))), (b1, .inl (cZ, 70, .inl (I))), (b2, .inl (cI, 60, .inl (T))), (b3, .inl (cI, 6, .inl (R)))] H := hP
  have hD : va_D A [(h, .inr (2, [.ref b0, .ref b1, .ref b2, .ref b3, .int (nI (nn)), .int (nI (0))])), (b0, .inl (cD, 70, .inr (.inr (.inr (.inl (N)))))), (b1, .inl (cZ, 70, .inl (I))), (b2, .inl (cI, 60, .inl (T))), (b3, .inl (cI, 6, .inl (R)))] := hD
  refine lv_aload_n hx hb dX2_bar_5 rfl (lv_at hl 0 rfl) ?_
  refine lv_iload_n hx hb dX2_bar_6 rfl (lv_at hl 1 rfl) ?_
  have hPc := hP.sub (ws' := [(h, .inr (2, [.ref b0, .ref b1, .ref b2, .ref b3, .int (nI (nn)), .int (nI (0))])), (b0, .inl (cD, 70, .inr (.inr (.inr (.inl (N)))))), (b1, .inl (cZ, 70, .inl (I))), (b2, .inl (cI, 60, .inl (T))), (b3, .inl (cI, 6, .inl (R)))]) [0, 1, 2, 3, 4] rfl
  have hDc := hD.sub (ws' := [(h, .inr (2, [.ref b0, .ref b1, .ref b2, .ref b3, .int (nI (nn)), .int (nI (0))])), (b0, .inl (cD, 70, .inr (.inr (.inr (.inl (N)))))), (b1, .inl (cZ, 70, .inl (I))), (b2, .inl (cI, 60, .inl (T))), (b3, .inl (cI, 6, .inl (R)))]) [0, 1, 2, 3, 4] (by decide) rfl
  have hFc := va_free (wc := [(h, .inr (2, [.ref b0, .ref b1, .ref b2, .ref b3, .int (nI (nn)), .int (nI (0))])), (b0, .inl (cD, 70, .inr (.inr (.inr (.inl (N)))))), (b1, .inl (cZ, 70, .inl (I))), (b2, .inl (cI, 60, .inl (T))), (b3, .inl (cI, 6, .inl (R)))]) hD hS hA [0, 1, 2, 3, 4] rfl
  refine va_calli (va_runV (As := [.int (bv)]) (rest := []) ⟨hx, hb, hml, hown, hts⟩ (c_X2_hasSeat_no l dC dI cD cZ cI cL h b0 b1 b2 b3 N I T R nn (nI 0) H.size (bv) hbad) (cwV 1 hts gX2_bar_X2_hasSeat rfl rfl rfl (by decide +kernel) ⟨Nat.le_of_ble_eq_true rfl, Nat.le_of_ble_eq_true rfl⟩) (okMW_pre ⟨hP, hK⟩ hD) rfl rfl hl.1 rfl (lv_room (Nat.le_of_ble_eq_true rfl)) dX2_bar_7 ⟨Nat.zero_le _, Nat.zero_le _⟩) hS (fun q _ h => hFc q h) hFc (fun r1 u1 t H1 locs ht hvm hw hB hz1 hk1 hS => ?_)
  obtain ⟨hP1, hK1, hD1⟩ := hB
  rw [ht] at hP1
  have hD := hD1.weaken (fun _ q _ h => hFc q.1 h)
  have hP := hP1
  generalize H1 = H at hP hS ⊢
  have hP : va_P (dC, dI) vwCl [(h, .inr (2, [.ref b0, .ref b1, .ref b2, .ref b3, .int (nI (nn)), .int (nI (1))])), (b0, .inl (cD, 70, .inr (.inr (.inr (.inl (N)))))), (b1, .inl (cZ, 70, .inl (I))), (b2, .inl (cI, 60, .inl (T))), (b3, .inl (cI, 6, .inl (R)))] H := hP
  have hD : va_D A [(h, .inr (2, [.ref b0, .ref b1, .ref b2, .ref b3, .int (nI (nn)), .int (nI (1))])), (b0, .inl (cD, 70, .inr (.inr (.inr (.inl (N)))))), (b1, .inl (cZ, 70, .inl (I))), (b2, .inl (cI, 60, .inl (T))), (b3, .inl (cI, 6, .inl (R)))] := hD
  subst hw
  refine xb_if_eq (tgt := 23) hx hb dX2_bar_10 (by decide) (fun _ => ?_) (fun q => absurd q (by decide))
  exact W.vret hx hb hr (fun t ht hW => ⟨⟨(), rfl, trivial, by rw [ht]; exact hP, va_K.moved hW.alike hK, hD⟩, hS.F ht⟩) hS.2.2 dX2_bar_23
set_option maxHeartbeats 4000000 in
set_option maxRecDepth 100000 in
theorem c_X2_line_ok (l : Launch) (dC : Nat → ClassId) (dI : Nat → Nat → Nat) (cD cZ cI cL : ClassId) (h b0 b1 b2 b3 : Nat) (N : Nat → UInt64) (I T R : Nat → Int32) (nn : Nat) (th : Int32) (sz : Nat) (bn : Nat) (fv : UInt32) (hn : vf_n64 (FP.f2d fv)) (hbn : bn < 5) : Met l yX2_line wsX2_line ({ frames := 2, cells := 0, slots := 0, locals := 42 }) (va_Pc [.ref h, .int (nI (bn)), .float (fv)] (fun U => U.heap.size = sz ∧ okM dC dI cD cZ cI cL h b0 b1 b2 b3 N I T R nn th U U.heap ∧ va_D (fun _ => True) (wM cD cZ cI cL h b0 b1 b2 b3 N I T R nn th))) (va_Qv (fun _ : Unit => True) (fun _ t => atM dC dI cD cZ cI cL (va_A (wM cD cZ cI cL h b0 b1 b2 b3 N I T R nn th) sz) h b0 b1 b2 b3 (vf_upd N (ml false bn) (FP.f2d fv)) (upd I (ml false bn) (nI (Bool.toNat true))) T R nn (nI 0) t) (va_A (wM cD cZ cI cL h b0 b1 b2 b3 N I T R nn th) sz)) 0 0 (va_A (wM cD cZ cI cL h b0 b1 b2 b3 N I T R nn th) sz) := by
  refine Met.ofW (cc := cX2_line) (maxL := 3) (ret := none) (by decide) rfl ?_
  intro p e s m args below meth c s₁ B hml hv
  obtain ⟨rfl, hsz, hO, hD0⟩ := hv
  obtain ⟨hP, hK⟩ := id hO
  have hx := B.exec
  have hb := B.bytes
  have hr := B.returns
  have hts := atoms_spec (ws := wsX2_line) B.pre
  have hown : s.vm.findClass RX2 = some m.cls := findClass_of_methodNamed B.named
  have hlocks := B.notSynchronized
  subst hsz
  have hD := hD0.self (sz := s.heap.size)
  generalize hAe : va_A (wM cD cZ cI cL h b0 b1 b2 b3 N I T R nn th) s.heap.size = A at hD ⊢
  have hA : ∀ q : Nat, s.heap.size ≤ q → A q := fun q h => by rw [← hAe]; exact Or.inr h
  have hS : va_S A s.heap s.heap [] := va_S.rf
  have hP : va_P (dC, dI) vwCl [(h, .inr (2, [.ref b0, .ref b1, .ref b2, .ref b3, .int (nI (nn)), .int (th)])), (b0, .inl (cD, 70, .inr (.inr (.inr (.inl (N)))))), (b1, .inl (cZ, 70, .inl (I))), (b2, .inl (cI, 60, .inl (T))), (b3, .inl (cI, 6, .inl (R)))] s.heap := hP
  have hD : va_D A [(h, .inr (2, [.ref b0, .ref b1, .ref b2, .ref b3, .int (nI (nn)), .int (th)])), (b0, .inl (cD, 70, .inr (.inr (.inr (.inl (N)))))), (b1, .inl (cZ, 70, .inl (I))), (b2, .inl (cI, 60, .inl (T))), (b3, .inl (cI, 6, .inl (R)))] := hD
  have hin2 : ∀ w ∈ wsX20, w ∈ wsX2_line := (fun w h => List.mem_cons_of_mem _ (List.mem_append_right _ h))
  have fl24 := hts (.fieldLink RX2 24 "JuryTableModel" "thrown" "I") (by decide +kernel)
  have hl := lv_entry ([.ref h, .int (nI (bn)), .float (fv)]) (n := 3) (Nat.le_of_ble_eq_true rfl)
  rw [lg_entry_eq]
  generalize (lg_sl ([.ref h, .int (nI (bn)), .float (fv)]) ++ List.replicate (3 - (lg_sl ([.ref h, .int (nI (bn)), .float (fv)])).length) Slot.unset).toArray = ls at hl ⊢
  have hl : lv_has ls 3 [(0, .ref h), (1, .int (nI (bn))), (2, .float (fv))] := hl
  refine lv_aload_n hx hb dX2_line_0 rfl (lv_at hl 0 rfl) ?_
  refine lv_iconst (v := nI 0) hx hb dX2_line_1 (by decide) ?_
  refine va_put (D := (dC, dI)) (ci := 2) (v := .int (nI (0))) (ty := .int) (C := RX2) (T := TX2) (N := 6) hx hb hts hin2 tyX2 tyX2_ok nmX2 hown hK hP hD hS 0 rfl rfl 5 (by decide) fl24 (fun _ h9 => h9) rfl (by decide +kernel) rfl rfl (Nat.le_of_ble_eq_true rfl) dX2_line_2 (fun H locs hP hD hS => ?_)
  have hP : va_P (dC, dI) vwCl [(h, .inr (2, [.ref b0, .ref b1, .ref b2, .ref b3, .int (nI (nn)), .int (nI (0))])), (b0, .inl (cD, 70, .inr (.inr (.inr (.inl (N)))))), (b1, .inl (cZ, 70, .inl (I))), (b2, .inl (cI, 60, .inl (T))), (b3, .inl (cI, 6, .inl (R)))] H := hP
  have hD : va_D A [(h, .inr (2, [.ref b0, .ref b1, .ref b2, .ref b3, .int (nI (nn)), .int (nI (0))])), (b0, .inl (cD, 70, .inr (.inr (.inr (.inl (N)))))), (b1, .inl (cZ, 70, .inl (I))), (b2, .inl (cI, 60, .inl (T))), (b3, .inl (cI, 6, .inl (R)))] := hD
  refine lv_aload_n hx hb dX2_line_5 rfl (lv_at hl 0 rfl) ?_
  refine lv_iload_n hx hb dX2_line_6 rfl (lv_at hl 1 rfl) ?_
  refine vp_callSi (va_Run.run (va_runV (As := [.int (nI (bn))]) (rest := []) ⟨hx, hb, hml, hown, hts⟩ (c_X2_hasSeat_ok l dC dI cD cZ cI cL h b0 b1 b2 b3 N I T R nn (nI 0) (bn) (by omega)) (cwV 1 hts gX2_line_X2_hasSeat rfl rfl rfl (by decide +kernel) ⟨Nat.le_of_ble_eq_true rfl, Nat.le_of_ble_eq_true rfl⟩) (okM_pre ⟨hP, hK⟩) rfl rfl hl.1 rfl (lv_room (Nat.le_of_ble_eq_true rfl)) dX2_line_7 ⟨Nat.zero_le _, Nat.zero_le _⟩)) (fun r1 er1 => ?_)
  subst er1
  refine xb_if_eq (tgt := 24) hx hb dX2_line_10 (by decide) (fun q => absurd q (by decide)) (fun _ => ?_)
  refine lv_aload_n hx hb dX2_line_13 rfl (lv_at hl 0 rfl) ?_
  refine lv_iconst (v := nI 0) hx hb dX2_line_14 (by decide) ?_
  refine lv_iload_n hx hb dX2_line_15 rfl (lv_at hl 1 rfl) ?_
  refine vp_callSi (va_Run.run (va_runS (As := [.int (nI (0)), .int (nI (bn))]) (rest := [.ref h]) ⟨hx, hb, hml, hown, hts⟩ (c_X2_limit l (false) (bn)) (va_cwS 2 hts gX2_line_X2_limit rfl rfl rfl (by decide +kernel) ⟨Nat.le_of_ble_eq_true rfl, Nat.le_of_ble_eq_true rfl⟩) preT rfl rfl hl.1 rfl (lv_room (Nat.le_of_ble_eq_true rfl)) dX2_line_16 ⟨Nat.zero_le _, Nat.zero_le _⟩)) (fun r2 er2 => ?_)
  subst er2
  have := ml_lt (f := false) (b := bn) (by omega)
  refine lv_fload_n hx hb dX2_line_19 rfl (lv_at hl 2 rfl) ?_
  refine lv_f2d hx hb dX2_line_20 hn ?_
  have hPc := hP.sub (ws' := [(h, .inr (2, [.ref b0, .ref b1, .ref b2, .ref b3, .int (nI (nn)), .int (nI (0))])), (b0, .inl (cD, 70, .inr (.inr (.inr (.inl (N)))))), (b1, .inl (cZ, 70, .inl (I))), (b2, .inl (cI, 60, .inl (T))), (b3, .inl (cI, 6, .inl (R)))]) [0, 1, 2, 3, 4] rfl
  have hDc := hD.sub (ws' := [(h, .inr (2, [.ref b0, .ref b1, .ref b2, .ref b3, .int (nI (nn)), .int (nI (0))])), (b0, .inl (cD, 70, .inr (.inr (.inr (.inl (N)))))), (b1, .inl (cZ, 70, .inl (I))), (b2, .inl (cI, 60, .inl (T))), (b3, .inl (cI, 6, .inl (R)))]) [0, 1, 2, 3, 4] (by decide) rfl
  have hFc := va_free (wc := [(h, .inr (2, [.ref b0, .ref b1, .ref b2, .ref b3, .int (nI (nn)), .int (nI (0))])), (b0, .inl (cD, 70, .inr (.inr (.inr (.inl (N)))))), (b1, .inl (cZ, 70, .inl (I))), (b2, .inl (cI, 60, .inl (T))), (b3, .inl (cI, 6, .inl (R)))]) hD hS hA [0, 1, 2, 3, 4] rfl
  refine va_callv (va_runV (As := [.int (nI (ml false bn)), .double (FP.f2d fv)]) (rest := []) ⟨hx, hb, hml, hown, hts⟩ (c_X2_become l dC dI cD cZ cI cL h b0 b1 b2 b3 N I T R nn (nI 0) H.size (ml false bn) (FP.f2d fv) (by omega)) (cwV 2 hts gX2_line_X2_become rfl rfl rfl (by decide +kernel) ⟨Nat.le_of_ble_eq_true rfl, Nat.le_of_ble_eq_true rfl⟩) (okMW_pre ⟨hP, hK⟩ hD) rfl rfl hl.1 rfl (lv_room (Nat.le_of_ble_eq_true rfl)) dX2_line_21 ⟨Nat.zero_le _, Nat.zero_le _⟩) hS (fun q _ h => hFc q h) hFc (fun u3 t H1 locs ht hvm hw hB hz1 hk1 hS => ?_)
  obtain ⟨hP1, hK1, hD1⟩ := hB
  rw [ht] at hP1
  have hD := hD1.weaken (fun _ q _ h => hFc q.1 h)
  have hP := hP1
  generalize H1 = H at hP hS ⊢
  have hP : va_P (dC, dI) vwCl [(h, .inr (2, [.ref b0, .ref b1, .ref b2, .ref b3, .int (nI (nn)), .int (nI (0))])), (b0, .inl (cD, 70, .inr (.inr (.inr (.inl (vf_upd N (ml false bn) (FP.f2d fv))))))), (b1, .inl (cZ, 70, .inl (upd I (ml false bn) (nI (Bool.toNat true))))), (b2, .inl (cI, 60, .inl (T))), (b3, .inl (cI, 6, .inl (R)))] H := hP
  have hD : va_D A [(h, .inr (2, [.ref b0, .ref b1, .ref b2, .ref b3, .int (nI (nn)), .int (nI (0))])), (b0, .inl (cD, 70, .inr (.inr (.inr (.inl (vf_upd N (ml false bn) (FP.f2d fv))))))), (b1, .inl (cZ, 70, .inl (upd I (ml false bn) (nI (Bool.toNat true))))), (b2, .inl (cI, 60, .inl (T))), (b3, .inl (cI, 6, .inl (R)))] := hD
  exact W.vret hx hb hr (fun t ht hW => ⟨⟨(), rfl, trivial, by rw [ht]; exact hP, va_K.moved hW.alike hK, hD⟩, hS.F ht⟩) hS.2.2 dX2_line_24
set_option maxHeartbeats 4000000 in
set_option maxRecDepth 100000 in
theorem c_X2_line_n1 (l : Launch) (dC : Nat → ClassId) (dI : Nat → Nat → Nat) (cD cZ cI cL : ClassId) (h b0 b1 b2 b3 : Nat) (N : Nat → UInt64) (I T R : Nat → Int32) (nn : Nat) (th : Int32) (sz : Nat) (bv : Int32) (fv : UInt32) (hbad : vB bv 5 = false) : Met l yX2_line wsX2_line ({ frames := 2, cells := 0, slots := 0, locals := 42 }) (va_Pc [.ref h, .int (bv), .float (fv)] (fun U => U.heap.size = sz ∧ okM dC dI cD cZ cI cL h b0 b1 b2 b3 N I T R nn th U U.heap ∧ va_D (fun _ => True) (wM cD cZ cI cL h b0 b1 b2 b3 N I T R nn th))) (va_Qv (fun _ : Unit => True) (fun _ t => atM dC dI cD cZ cI cL (va_A (wM cD cZ cI cL h b0 b1 b2 b3 N I T R nn th) sz) h b0 b1 b2 b3 N I T R nn (nI 1) t) (va_A (wM cD cZ cI cL h b0 b1 b2 b3 N I T R nn th) sz)) 0 0 (va_A (wM cD cZ cI cL h b0 b1 b2 b3 N I T R nn th) sz) := by
  refine Met.ofW (cc := cX2_line) (maxL := 3) (ret := none) (by decide) rfl ?_
  intro p e s m args below meth c s₁ B hml hv
  obtain ⟨rfl, hsz, hO, hD0⟩ := hv
  obtain ⟨hP, hK⟩ := id hO
  have hx := B.exec
  have hb := B.bytes
  have hr := B.returns
  have hts := atoms_spec (ws := wsX2_line) B.pre
  have hown : s.vm.findClass RX2 = some m.cls := findClass_of_methodNamed B.named
  have hlocks := B.notSynchronized
  subst hsz
  have hD := hD0.self (sz := s.heap.size)
  generalize hAe : va_A (wM cD cZ cI cL h b0 b1 b2 b3 N I T R nn th) s.heap.size = A at hD ⊢
  have hA : ∀ q : Nat, s.heap.size ≤ q → A q := fun q h => by rw [← hAe]; exact Or.inr h
  have hS : va_S A s.heap s.heap [] := va_S.rf
  have hP : va_P (dC, dI) vwCl [(h, .inr (2, [.ref b0, .ref b1, .ref b2, .ref b3, .int (nI (nn)), .int (th)])), (b0, .inl (cD, 70, .inr (.inr (.inr (.inl (N)))))), (b1, .inl (cZ, 70, .inl (I))), (b2, .inl (cI, 60, .inl (T))), (b3, .inl (cI, 6, .inl (R)))] s.heap := hP
  have hD : va_D A [(h, .inr (2, [.ref b0, .ref b1, .ref b2, .ref b3, .int (nI (nn)), .int (th)])), (b0, .inl (cD, 70, .inr (.inr (.inr (.inl (N)))))), (b1, .inl (cZ, 70, .inl (I))), (b2, .inl (cI, 60, .inl (T))), (b3, .inl (cI, 6, .inl (R)))] := hD
  have hin2 : ∀ w ∈ wsX20, w ∈ wsX2_line := (fun w h => List.mem_cons_of_mem _ (List.mem_append_right _ h))
  have fl24 := hts (.fieldLink RX2 24 "JuryTableModel" "thrown" "I") (by decide +kernel)
  have hl := lv_entry ([.ref h, .int (bv), .float (fv)]) (n := 3) (Nat.le_of_ble_eq_true rfl)
  rw [lg_entry_eq]
  generalize (lg_sl ([.ref h, .int (bv), .float (fv)]) ++ List.replicate (3 - (lg_sl ([.ref h, .int (bv), .float (fv)])).length) Slot.unset).toArray = ls at hl ⊢
  have hl : lv_has ls 3 [(0, .ref h), (1, .int (bv)), (2, .float (fv))] := hl
  refine lv_aload_n hx hb dX2_line_0 rfl (lv_at hl 0 rfl) ?_
  refine lv_iconst (v := nI 0) hx hb dX2_line_1 (by decide) ?_
  refine va_put (D := (dC, dI)) (ci := 2) (v := .int (nI (0))) (ty := .int) (C := RX2) (T := TX2) (N := 6) hx hb hts hin2 tyX2 tyX2_ok nmX2 hown hK hP hD hS 0 rfl rfl 5 (by decide) fl24 (fun _ h9 => h9) rfl (by decide +kernel) rfl rfl (Nat.le_of_ble_eq_true rfl) dX2_line_2 (fun H locs hP hD hS => ?_)
  have hP : va_P (dC, dI) vwCl [(h, .inr (2, [.ref b0, .ref b1, .ref b2, .ref b3, .int (nI (nn)), .int (nI (0))])), (b0, .inl (cD, 70, .inr (.inr (.inr (.inl (N)))))), (b1, .inl (cZ, 70, .inl (I))), (b2, .inl (cI, 60, .inl (T))), (b3, .inl (cI, 6, .inl (R)))] H := hP
  have hD : va_D A [(h, .inr (2, [.ref b0, .ref b1, .ref b2, .ref b3, .int (nI (nn)), .int (nI (0))])), (b0, .inl (cD, 70, .inr (.inr (.inr (.inl (N)))))), (b1, .inl (cZ, 70, .inl (I))), (b2, .inl (cI, 60, .inl (T))), (b3, .inl (cI, 6, .inl (R)))] := hD
  refine lv_aload_n hx hb dX2_line_5 rfl (lv_at hl 0 rfl) ?_
  refine lv_iload_n hx hb dX2_line_6 rfl (lv_at hl 1 rfl) ?_
  have hPc := hP.sub (ws' := [(h, .inr (2, [.ref b0, .ref b1, .ref b2, .ref b3, .int (nI (nn)), .int (nI (0))])), (b0, .inl (cD, 70, .inr (.inr (.inr (.inl (N)))))), (b1, .inl (cZ, 70, .inl (I))), (b2, .inl (cI, 60, .inl (T))), (b3, .inl (cI, 6, .inl (R)))]) [0, 1, 2, 3, 4] rfl
  have hDc := hD.sub (ws' := [(h, .inr (2, [.ref b0, .ref b1, .ref b2, .ref b3, .int (nI (nn)), .int (nI (0))])), (b0, .inl (cD, 70, .inr (.inr (.inr (.inl (N)))))), (b1, .inl (cZ, 70, .inl (I))), (b2, .inl (cI, 60, .inl (T))), (b3, .inl (cI, 6, .inl (R)))]) [0, 1, 2, 3, 4] (by decide) rfl
  have hFc := va_free (wc := [(h, .inr (2, [.ref b0, .ref b1, .ref b2, .ref b3, .int (nI (nn)), .int (nI (0))])), (b0, .inl (cD, 70, .inr (.inr (.inr (.inl (N)))))), (b1, .inl (cZ, 70, .inl (I))), (b2, .inl (cI, 60, .inl (T))), (b3, .inl (cI, 6, .inl (R)))]) hD hS hA [0, 1, 2, 3, 4] rfl
  refine va_calli (va_runV (As := [.int (bv)]) (rest := []) ⟨hx, hb, hml, hown, hts⟩ (c_X2_hasSeat_no l dC dI cD cZ cI cL h b0 b1 b2 b3 N I T R nn (nI 0) H.size (bv) hbad) (cwV 1 hts gX2_line_X2_hasSeat rfl rfl rfl (by decide +kernel) ⟨Nat.le_of_ble_eq_true rfl, Nat.le_of_ble_eq_true rfl⟩) (okMW_pre ⟨hP, hK⟩ hD) rfl rfl hl.1 rfl (lv_room (Nat.le_of_ble_eq_true rfl)) dX2_line_7 ⟨Nat.zero_le _, Nat.zero_le _⟩) hS (fun q _ h => hFc q h) hFc (fun r1 u1 t H1 locs ht hvm hw hB hz1 hk1 hS => ?_)
  obtain ⟨hP1, hK1, hD1⟩ := hB
  rw [ht] at hP1
  have hD := hD1.weaken (fun _ q _ h => hFc q.1 h)
  have hP := hP1
  generalize H1 = H at hP hS ⊢
  have hP : va_P (dC, dI) vwCl [(h, .inr (2, [.ref b0, .ref b1, .ref b2, .ref b3, .int (nI (nn)), .int (nI (1))])), (b0, .inl (cD, 70, .inr (.inr (.inr (.inl (N)))))), (b1, .inl (cZ, 70, .inl (I))), (b2, .inl (cI, 60, .inl (T))), (b3, .inl (cI, 6, .inl (R)))] H := hP
  have hD : va_D A [(h, .inr (2, [.ref b0, .ref b1, .ref b2, .ref b3, .int (nI (nn)), .int (nI (1))])), (b0, .inl (cD, 70, .inr (.inr (.inr (.inl (N)))))), (b1, .inl (cZ, 70, .inl (I))), (b2, .inl (cI, 60, .inl (T))), (b3, .inl (cI, 6, .inl (R)))] := hD
  subst hw
  refine xb_if_eq (tgt := 24) hx hb dX2_line_10 (by decide) (fun _ => ?_) (fun q => absurd q (by decide))
  exact W.vret hx hb hr (fun t ht hW => ⟨⟨(), rfl, trivial, by rw [ht]; exact hP, va_K.moved hW.alike hK, hD⟩, hS.F ht⟩) hS.2.2 dX2_line_24
set_option maxHeartbeats 4000000 in
set_option maxRecDepth 100000 in
theorem c_X2_spot_ok (l : Launch) (dC : Nat → ClassId) (dI : Nat → Nat → Nat) (cD cZ cI cL : ClassId) (h b0 b1 b2 b3 : Nat) (N : Nat → UInt64) (I T R : Nat → Int32) (nn : Nat) (th : Int32) (sz : Nat) (hnn : nn ≤ 6) (fb : Bool) (en bn : Nat) (hen : en < nn) (hbn : bn < 5) : Met l yX2_spot wsX2_spot ({ frames := 1, cells := 0, slots := 0, locals := 22 }) (va_Pc [.ref h, .int (nI (Bool.toNat (fb))), .int (nI (en)), .int (nI (bn))] (fun U => U.heap.size = sz ∧ okM dC dI cD cZ cI cL h b0 b1 b2 b3 N I T R nn th U U.heap ∧ va_D (fun _ => True) (wM cD cZ cI cL h b0 b1 b2 b3 N I T R nn th))) (va_Qi (fun (r : Int32) (_ : Unit) => r = nI (mc fb en bn)) (fun _ t => atM dC dI cD cZ cI cL (va_A (wM cD cZ cI cL h b0 b1 b2 b3 N I T R nn th) sz) h b0 b1 b2 b3 N I T R nn (nI 0) t) (va_A (wM cD cZ cI cL h b0 b1 b2 b3 N I T R nn th) sz)) 0 0 (va_A (wM cD cZ cI cL h b0 b1 b2 b3 N I T R nn th) sz) := by
  refine Met.ofW (cc := cX2_spot) (maxL := 4) (ret := (some .int)) (by decide) rfl ?_
  intro p e s m args below meth c s₁ B hml hv
  obtain ⟨rfl, hsz, hO, hD0⟩ := hv
  obtain ⟨hP, hK⟩ := id hO
  have hx := B.exec
  have hb := B.bytes
  have hr := B.returns
  have hts := atoms_spec (ws := wsX2_spot) B.pre
  have hown : s.vm.findClass RX2 = some m.cls := findClass_of_methodNamed B.named
  have hlocks := B.notSynchronized
  subst hsz
  have hD := hD0.self (sz := s.heap.size)
  generalize hAe : va_A (wM cD cZ cI cL h b0 b1 b2 b3 N I T R nn th) s.heap.size = A at hD ⊢
  have hA : ∀ q : Nat, s.heap.size ≤ q → A q := fun q h => by rw [← hAe]; exact Or.inr h
  have hS : va_S A s.heap s.heap [] := va_S.rf
  have hP : va_P (dC, dI) vwCl [(h, .inr (2, [.ref b0, .ref b1, .ref b2, .ref b3, .int (nI (nn)), .int (th)])), (b0, .inl (cD, 70, .inr (.inr (.inr (.inl (N)))))), (b1, .inl (cZ, 70, .inl (I))), (b2, .inl (cI, 60, .inl (T))), (b3, .inl (cI, 6, .inl (R)))] s.heap := hP
  have hD : va_D A [(h, .inr (2, [.ref b0, .ref b1, .ref b2, .ref b3, .int (nI (nn)), .int (th)])), (b0, .inl (cD, 70, .inr (.inr (.inr (.inl (N)))))), (b1, .inl (cZ, 70, .inl (I))), (b2, .inl (cI, 60, .inl (T))), (b3, .inl (cI, 6, .inl (R)))] := hD
  have hin2 : ∀ w ∈ wsX20, w ∈ wsX2_spot := (fun w h => List.mem_cons_of_mem _ (List.mem_append_right _ h))
  have fl24 := hts (.fieldLink RX2 24 "JuryTableModel" "thrown" "I") (by decide +kernel)
  have fl28 := hts (.fieldLink RX2 28 "JuryTableModel" "entries" "I") (by decide +kernel)
  have hl := lv_entry ([.ref h, .int (nI (Bool.toNat (fb))), .int (nI (en)), .int (nI (bn))]) (n := 4) (Nat.le_of_ble_eq_true rfl)
  rw [lg_entry_eq]
  generalize (lg_sl ([.ref h, .int (nI (Bool.toNat (fb))), .int (nI (en)), .int (nI (bn))]) ++ List.replicate (4 - (lg_sl ([.ref h, .int (nI (Bool.toNat (fb))), .int (nI (en)), .int (nI (bn))])).length) Slot.unset).toArray = ls at hl ⊢
  have hl : lv_has ls 4 [(0, .ref h), (1, .int (nI (Bool.toNat (fb)))), (2, .int (nI (en))), (3, .int (nI (bn)))] := hl
  refine lv_aload_n hx hb dX2_spot_0 rfl (lv_at hl 0 rfl) ?_
  refine lv_iload_n hx hb dX2_spot_1 rfl (lv_at hl 2 rfl) ?_
  refine lv_iconst (v := (-1)) hx hb dX2_spot_2 (by decide) ?_
  refine lv_icmp_eq (tgt := 17) hx hb dX2_spot_3 (by decide) (fun q => absurd q (nI_nm1 (by omega))) (fun _ => ?_)
  refine lv_iload_n hx hb dX2_spot_6 rfl (lv_at hl 2 rfl) ?_
  refine lv_aload_n hx hb dX2_spot_7 rfl (lv_at hl 0 rfl) ?_
  refine va_get (D := (dC, dI)) (ci := 2) (v := .int (nI (nn))) (C := RX2) (T := TX2) (N := 6) hx hb hts hin2 hown hK hP 0 rfl rfl 4 (by decide) fl28 (fun _ h9 => h9) rfl dX2_spot_8 ?_
  refine vp_callSi (va_Run.run (va_runS (As := [.int (nI (en)), .int (nI (nn))]) (rest := [.ref h]) ⟨hx, hb, hml, hown, hts⟩ (c_X2_in l (nI en) (nn)) (va_cwS 2 hts gX2_spot_X2_in rfl rfl rfl (by decide +kernel) ⟨Nat.le_of_ble_eq_true rfl, Nat.le_of_ble_eq_true rfl⟩) preT rfl rfl hl.1 rfl (lv_room (Nat.le_of_ble_eq_true rfl)) dX2_spot_11 ⟨Nat.zero_le _, Nat.zero_le _⟩)) (fun r1 er1 => ?_)
  subst er1
  rw [vB_nI (show en < nn by omega) (by omega)]
  refine xb_if_eq (tgt := 25) hx hb dX2_spot_14 (by decide) (fun q => absurd q (by decide)) (fun _ => ?_)
  refine lv_iload_n hx hb dX2_spot_17 rfl (lv_at hl 3 rfl) ?_
  refine lv_iconst (v := nI 5) hx hb dX2_spot_18 (by decide) ?_
  refine vp_callSi (va_Run.run (va_runS (As := [.int (nI (bn)), .int (nI (5))]) (rest := [.ref h]) ⟨hx, hb, hml, hown, hts⟩ (c_X2_in l (nI bn) (5)) (va_cwS 2 hts gX2_spot_X2_in rfl rfl rfl (by decide +kernel) ⟨Nat.le_of_ble_eq_true rfl, Nat.le_of_ble_eq_true rfl⟩) preT rfl rfl hl.1 rfl (lv_room (Nat.le_of_ble_eq_true rfl)) dX2_spot_19 ⟨Nat.zero_le _, Nat.zero_le _⟩)) (fun r2 er2 => ?_)
  subst er2
  rw [vB_nI (show bn < 5 by omega) (by omega)]
  refine xb_if_ne (tgt := 29) hx hb dX2_spot_22 (by decide) (fun _ => ?_) (fun q => absurd q (by decide))
  refine lv_iconst (v := nI 0) hx hb dX2_spot_29 (by decide) ?_
  refine va_put (D := (dC, dI)) (ci := 2) (v := .int (nI (0))) (ty := .int) (C := RX2) (T := TX2) (N := 6) hx hb hts hin2 tyX2 tyX2_ok nmX2 hown hK hP hD hS 0 rfl rfl 5 (by decide) fl24 (fun _ h9 => h9) rfl (by decide +kernel) rfl rfl (Nat.le_of_ble_eq_true rfl) dX2_spot_30 (fun H locs hP hD hS => ?_)
  have hP : va_P (dC, dI) vwCl [(h, .inr (2, [.ref b0, .ref b1, .ref b2, .ref b3, .int (nI (nn)), .int (nI (0))])), (b0, .inl (cD, 70, .inr (.inr (.inr (.inl (N)))))), (b1, .inl (cZ, 70, .inl (I))), (b2, .inl (cI, 60, .inl (T))), (b3, .inl (cI, 6, .inl (R)))] H := hP
  have hD : va_D A [(h, .inr (2, [.ref b0, .ref b1, .ref b2, .ref b3, .int (nI (nn)), .int (nI (0))])), (b0, .inl (cD, 70, .inr (.inr (.inr (.inl (N)))))), (b1, .inl (cZ, 70, .inl (I))), (b2, .inl (cI, 60, .inl (T))), (b3, .inl (cI, 6, .inl (R)))] := hD
  refine lv_aload_n hx hb dX2_spot_33 rfl (lv_at hl 0 rfl) ?_
  refine va_get (D := (dC, dI)) (ci := 2) (v := .int (nI (0))) (C := RX2) (T := TX2) (N := 6) hx hb hts hin2 hown hK hP 0 rfl rfl 5 (by decide) fl24 (fun _ h9 => h9) rfl dX2_spot_34 ?_
  refine lv_if_le (tgt := 42) hx hb dX2_spot_37 (by decide) (fun _ => ?_) (fun q => absurd (by decide) q)
  refine lv_iload_n hx hb dX2_spot_42 rfl (lv_at hl 2 rfl) ?_
  refine lv_iconst (v := (-1)) hx hb dX2_spot_43 (by decide) ?_
  refine lv_icmp_ne (tgt := 55) hx hb dX2_spot_44 (by decide) (fun _ => ?_) (fun q => absurd q (nI_nm1 (by omega)))
  refine lv_iload_n hx hb dX2_spot_55 rfl (lv_at hl 1 rfl) ?_
  refine lv_iload_n hx hb dX2_spot_56 rfl (lv_at hl 2 rfl) ?_
  refine lv_iload_n hx hb dX2_spot_57 rfl (lv_at hl 3 rfl) ?_
  refine vp_callSi (va_Run.run (va_runS (As := [.int (nI (Bool.toNat (fb))), .int (nI (en)), .int (nI (bn))]) (rest := []) ⟨hx, hb, hml, hown, hts⟩ (c_X2_cell l (fb) (en) (bn)) (va_cwS 3 hts gX2_spot_X2_cell rfl rfl rfl (by decide +kernel) ⟨Nat.le_of_ble_eq_true rfl, Nat.le_of_ble_eq_true rfl⟩) preT rfl rfl hl.1 rfl (lv_room (Nat.le_of_ble_eq_true rfl)) dX2_spot_58 ⟨Nat.zero_le _, Nat.zero_le _⟩)) (fun r3 er3 => ?_)
  subst er3
  have := mc_lt (f := fb) (e := en) (b := bn) (by omega) (by omega)
  exact W.iret (v := nI (mc fb en bn)) hx hb hr (fun t ht hW => ⟨⟨_, (), rfl, rfl, by rw [ht]; exact hP, va_K.moved hW.alike hK, hD⟩, hS.F ht⟩) hS.2.2 dX2_spot_61
set_option maxHeartbeats 4000000 in
set_option maxRecDepth 100000 in
theorem c_X2_spot_okN (l : Launch) (dC : Nat → ClassId) (dI : Nat → Nat → Nat) (cD cZ cI cL : ClassId) (h b0 b1 b2 b3 : Nat) (N : Nat → UInt64) (I T R : Nat → Int32) (nn : Nat) (th : Int32) (sz : Nat) (hnn : nn ≤ 6) (fb : Bool) (bn : Nat) (hbn : bn < 5) : Met l yX2_spot wsX2_spot ({ frames := 1, cells := 0, slots := 0, locals := 21 }) (va_Pc [.ref h, .int (nI (Bool.toNat (fb))), .int (-1), .int (nI (bn))] (fun U => U.heap.size = sz ∧ okM dC dI cD cZ cI cL h b0 b1 b2 b3 N I T R nn th U U.heap ∧ va_D (fun _ => True) (wM cD cZ cI cL h b0 b1 b2 b3 N I T R nn th))) (va_Qi (fun (r : Int32) (_ : Unit) => r = nI (ml fb bn)) (fun _ t => atM dC dI cD cZ cI cL (va_A (wM cD cZ cI cL h b0 b1 b2 b3 N I T R nn th) sz) h b0 b1 b2 b3 N I T R nn (nI 0) t) (va_A (wM cD cZ cI cL h b0 b1 b2 b3 N I T R nn th) sz)) 0 0 (va_A (wM cD cZ cI cL h b0 b1 b2 b3 N I T R nn th) sz) := by
  refine Met.ofW (cc := cX2_spot) (maxL := 4) (ret := (some .int)) (by decide) rfl ?_
  intro p e s m args below meth c s₁ B hml hv
  obtain ⟨rfl, hsz, hO, hD0⟩ := hv
  obtain ⟨hP, hK⟩ := id hO
  have hx := B.exec
  have hb := B.bytes
  have hr := B.returns
  have hts := atoms_spec (ws := wsX2_spot) B.pre
  have hown : s.vm.findClass RX2 = some m.cls := findClass_of_methodNamed B.named
  have hlocks := B.notSynchronized
  subst hsz
  have hD := hD0.self (sz := s.heap.size)
  generalize hAe : va_A (wM cD cZ cI cL h b0 b1 b2 b3 N I T R nn th) s.heap.size = A at hD ⊢
  have hA : ∀ q : Nat, s.heap.size ≤ q → A q := fun q h => by rw [← hAe]; exact Or.inr h
  have hS : va_S A s.heap s.heap [] := va_S.rf
  have hP : va_P (dC, dI) vwCl [(h, .inr (2, [.ref b0, .ref b1, .ref b2, .ref b3, .int (nI (nn)), .int (th)])), (b0, .inl (cD, 70, .inr (.inr (.inr (.inl (N)))))), (b1, .inl (cZ, 70, .inl (I))), (b2, .inl (cI, 60, .inl (T))), (b3, .inl (cI, 6, .inl (R)))] s.heap := hP
  have hD : va_D A [(h, .inr (2, [.ref b0, .ref b1, .ref b2, .ref b3, .int (nI (nn)), .int (th)])), (b0, .inl (cD, 70, .inr (.inr (.inr (.inl (N)))))), (b1, .inl (cZ, 70, .inl (I))), (b2, .inl (cI, 60, .inl (T))), (b3, .inl (cI, 6, .inl (R)))] := hD
  have hin2 : ∀ w ∈ wsX20, w ∈ wsX2_spot := (fun w h => List.mem_cons_of_mem _ (List.mem_append_right _ h))
  have fl24 := hts (.fieldLink RX2 24 "JuryTableModel" "thrown" "I") (by decide +kernel)
  have hl := lv_entry ([.ref h, .int (nI (Bool.toNat (fb))), .int (-1), .int (nI (bn))]) (n := 4) (Nat.le_of_ble_eq_true rfl)
  rw [lg_entry_eq]
  generalize (lg_sl ([.ref h, .int (nI (Bool.toNat (fb))), .int (-1), .int (nI (bn))]) ++ List.replicate (4 - (lg_sl ([.ref h, .int (nI (Bool.toNat (fb))), .int (-1), .int (nI (bn))])).length) Slot.unset).toArray = ls at hl ⊢
  have hl : lv_has ls 4 [(0, .ref h), (1, .int (nI (Bool.toNat (fb)))), (2, .int (-1)), (3, .int (nI (bn)))] := hl
  refine lv_aload_n hx hb dX2_spot_0 rfl (lv_at hl 0 rfl) ?_
  refine lv_iload_n hx hb dX2_spot_1 rfl (lv_at hl 2 rfl) ?_
  refine lv_iconst (v := (-1)) hx hb dX2_spot_2 (by decide) ?_
  refine lv_icmp_eq (tgt := 17) hx hb dX2_spot_3 (by decide) (fun _ => ?_) (fun q => absurd (by decide) q)
  refine lv_iload_n hx hb dX2_spot_17 rfl (lv_at hl 3 rfl) ?_
  refine lv_iconst (v := nI 5) hx hb dX2_spot_18 (by decide) ?_
  refine vp_callSi (va_Run.run (va_runS (As := [.int (nI (bn)), .int (nI (5))]) (rest := [.ref h]) ⟨hx, hb, hml, hown, hts⟩ (c_X2_in l (nI bn) (5)) (va_cwS 2 hts gX2_spot_X2_in rfl rfl rfl (by decide +kernel) ⟨Nat.le_of_ble_eq_true rfl, Nat.le_of_ble_eq_true rfl⟩) preT rfl rfl hl.1 rfl (lv_room (Nat.le_of_ble_eq_true rfl)) dX2_spot_19 ⟨Nat.zero_le _, Nat.zero_le _⟩)) (fun r1 er1 => ?_)
  subst er1
  rw [vB_nI (show bn < 5 by omega) (by omega)]
  refine xb_if_ne (tgt := 29) hx hb dX2_spot_22 (by decide) (fun _ => ?_) (fun q => absurd q (by decide))
  refine lv_iconst (v := nI 0) hx hb dX2_spot_29 (by decide) ?_
  refine va_put (D := (dC, dI)) (ci := 2) (v := .int (nI (0))) (ty := .int) (C := RX2) (T := TX2) (N := 6) hx hb hts hin2 tyX2 tyX2_ok nmX2 hown hK hP hD hS 0 rfl rfl 5 (by decide) fl24 (fun _ h9 => h9) rfl (by decide +kernel) rfl rfl (Nat.le_of_ble_eq_true rfl) dX2_spot_30 (fun H locs hP hD hS => ?_)
  have hP : va_P (dC, dI) vwCl [(h, .inr (2, [.ref b0, .ref b1, .ref b2, .ref b3, .int (nI (nn)), .int (nI (0))])), (b0, .inl (cD, 70, .inr (.inr (.inr (.inl (N)))))), (b1, .inl (cZ, 70, .inl (I))), (b2, .inl (cI, 60, .inl (T))), (b3, .inl (cI, 6, .inl (R)))] H := hP
  have hD : va_D A [(h, .inr (2, [.ref b0, .ref b1, .ref b2, .ref b3, .int (nI (nn)), .int (nI (0))])), (b0, .inl (cD, 70, .inr (.inr (.inr (.inl (N)))))), (b1, .inl (cZ, 70, .inl (I))), (b2, .inl (cI, 60, .inl (T))), (b3, .inl (cI, 6, .inl (R)))] := hD
  refine lv_aload_n hx hb dX2_spot_33 rfl (lv_at hl 0 rfl) ?_
  refine va_get (D := (dC, dI)) (ci := 2) (v := .int (nI (0))) (C := RX2) (T := TX2) (N := 6) hx hb hts hin2 hown hK hP 0 rfl rfl 5 (by decide) fl24 (fun _ h9 => h9) rfl dX2_spot_34 ?_
  refine lv_if_le (tgt := 42) hx hb dX2_spot_37 (by decide) (fun _ => ?_) (fun q => absurd (by decide) q)
  refine lv_iload_n hx hb dX2_spot_42 rfl (lv_at hl 2 rfl) ?_
  refine lv_iconst (v := (-1)) hx hb dX2_spot_43 (by decide) ?_
  refine lv_icmp_ne (tgt := 55) hx hb dX2_spot_44 (by decide) (fun q => absurd (by decide) q) (fun _ => ?_)
  refine lv_iload_n hx hb dX2_spot_47 rfl (lv_at hl 1 rfl) ?_
  refine lv_iload_n hx hb dX2_spot_48 rfl (lv_at hl 3 rfl) ?_
  refine vp_callSi (va_Run.run (va_runS (As := [.int (nI (Bool.toNat (fb))), .int (nI (bn))]) (rest := []) ⟨hx, hb, hml, hown, hts⟩ (c_X2_limit l (fb) (bn)) (va_cwS 2 hts gX2_spot_X2_limit rfl rfl rfl (by decide +kernel) ⟨Nat.le_of_ble_eq_true rfl, Nat.le_of_ble_eq_true rfl⟩) preT rfl rfl hl.1 rfl (lv_room (Nat.le_of_ble_eq_true rfl)) dX2_spot_49 ⟨Nat.zero_le _, Nat.zero_le _⟩)) (fun r2 er2 => ?_)
  subst er2
  have := ml_lt (f := fb) (b := bn) (by omega)
  refine lv_goto (tgt := 61) hx hb dX2_spot_52 (by decide) ?_
  exact W.iret (v := nI (ml fb bn)) hx hb hr (fun t ht hW => ⟨⟨_, (), rfl, rfl, by rw [ht]; exact hP, va_K.moved hW.alike hK, hD⟩, hS.F ht⟩) hS.2.2 dX2_spot_61
set_option maxHeartbeats 4000000 in
set_option maxRecDepth 100000 in
theorem c_X2_spot_n1 (l : Launch) (dC : Nat → ClassId) (dI : Nat → Nat → Nat) (cD cZ cI cL : ClassId) (h b0 b1 b2 b3 : Nat) (N : Nat → UInt64) (I T R : Nat → Int32) (nn : Nat) (th : Int32) (sz : Nat) (hnn : nn ≤ 6) (fb : Bool) (ev bv : Int32) (hbad : vB ev nn = false) (hne : ¬ ev = (-1)) : Met l yX2_spot wsX2_spot ({ frames := 1, cells := 0, slots := 0, locals := 21 }) (va_Pc [.ref h, .int (nI (Bool.toNat (fb))), .int (ev), .int (bv)] (fun U => U.heap.size = sz ∧ okM dC dI cD cZ cI cL h b0 b1 b2 b3 N I T R nn th U U.heap ∧ va_D (fun _ => True) (wM cD cZ cI cL h b0 b1 b2 b3 N I T R nn th))) (va_Qi (fun (r : Int32) (_ : Unit) => r = (-1)) (fun _ t => atM dC dI cD cZ cI cL (va_A (wM cD cZ cI cL h b0 b1 b2 b3 N I T R nn th) sz) h b0 b1 b2 b3 N I T R nn (nI 1) t) (va_A (wM cD cZ cI cL h b0 b1 b2 b3 N I T R nn th) sz)) 0 0 (va_A (wM cD cZ cI cL h b0 b1 b2 b3 N I T R nn th) sz) := by
  refine Met.ofW (cc := cX2_spot) (maxL := 4) (ret := (some .int)) (by decide) rfl ?_
  intro p e s m args below meth c s₁ B hml hv
  obtain ⟨rfl, hsz, hO, hD0⟩ := hv
  obtain ⟨hP, hK⟩ := id hO
  have hx := B.exec
  have hb := B.bytes
  have hr := B.returns
  have hts := atoms_spec (ws := wsX2_spot) B.pre
  have hown : s.vm.findClass RX2 = some m.cls := findClass_of_methodNamed B.named
  have hlocks := B.notSynchronized
  subst hsz
  have hD := hD0.self (sz := s.heap.size)
  generalize hAe : va_A (wM cD cZ cI cL h b0 b1 b2 b3 N I T R nn th) s.heap.size = A at hD ⊢
  have hA : ∀ q : Nat, s.heap.size ≤ q → A q := fun q h => by rw [← hAe]; exact Or.inr h
  have hS : va_S A s.heap s.heap [] := va_S.rf
  have hP : va_P (dC, dI) vwCl [(h, .inr (2, [.ref b0, .ref b1, .ref b2, .ref b3, .int (nI (nn)), .int (th)])), (b0, .inl (cD, 70, .inr (.inr (.inr (.inl (N)))))), (b1, .inl (cZ, 70, .inl (I))), (b2, .inl (cI, 60, .inl (T))), (b3, .inl (cI, 6, .inl (R)))] s.heap := hP
  have hD : va_D A [(h, .inr (2, [.ref b0, .ref b1, .ref b2, .ref b3, .int (nI (nn)), .int (th)])), (b0, .inl (cD, 70, .inr (.inr (.inr (.inl (N)))))), (b1, .inl (cZ, 70, .inl (I))), (b2, .inl (cI, 60, .inl (T))), (b3, .inl (cI, 6, .inl (R)))] := hD
  have hin2 : ∀ w ∈ wsX20, w ∈ wsX2_spot := (fun w h => List.mem_cons_of_mem _ (List.mem_append_right _ h))
  have fl24 := hts (.fieldLink RX2 24 "JuryTableModel" "thrown" "I") (by decide +kernel)
  have fl28 := hts (.fieldLink RX2 28 "JuryTableModel" "entries" "I") (by decide +kernel)
  have hl := lv_entry ([.ref h, .int (nI (Bool.toNat (fb))), .int (ev), .int (bv)]) (n := 4) (Nat.le_of_ble_eq_true rfl)
  rw [lg_entry_eq]
  generalize (lg_sl ([.ref h, .int (nI (Bool.toNat (fb))), .int (ev), .int (bv)]) ++ List.replicate (4 - (lg_sl ([.ref h, .int (nI (Bool.toNat (fb))), .int (ev), .int (bv)])).length) Slot.unset).toArray = ls at hl ⊢
  have hl : lv_has ls 4 [(0, .ref h), (1, .int (nI (Bool.toNat (fb)))), (2, .int (ev)), (3, .int (bv))] := hl
  refine lv_aload_n hx hb dX2_spot_0 rfl (lv_at hl 0 rfl) ?_
  refine lv_iload_n hx hb dX2_spot_1 rfl (lv_at hl 2 rfl) ?_
  refine lv_iconst (v := (-1)) hx hb dX2_spot_2 (by decide) ?_
  refine lv_icmp_eq (tgt := 17) hx hb dX2_spot_3 (by decide) (fun q => absurd q hne) (fun _ => ?_)
  refine lv_iload_n hx hb dX2_spot_6 rfl (lv_at hl 2 rfl) ?_
  refine lv_aload_n hx hb dX2_spot_7 rfl (lv_at hl 0 rfl) ?_
  refine va_get (D := (dC, dI)) (ci := 2) (v := .int (nI (nn))) (C := RX2) (T := TX2) (N := 6) hx hb hts hin2 hown hK hP 0 rfl rfl 4 (by decide) fl28 (fun _ h9 => h9) rfl dX2_spot_8 ?_
  refine vp_callSi (va_Run.run (va_runS (As := [.int (ev), .int (nI (nn))]) (rest := [.ref h]) ⟨hx, hb, hml, hown, hts⟩ (c_X2_in l (ev) (nn)) (va_cwS 2 hts gX2_spot_X2_in rfl rfl rfl (by decide +kernel) ⟨Nat.le_of_ble_eq_true rfl, Nat.le_of_ble_eq_true rfl⟩) preT rfl rfl hl.1 rfl (lv_room (Nat.le_of_ble_eq_true rfl)) dX2_spot_11 ⟨Nat.zero_le _, Nat.zero_le _⟩)) (fun r1 er1 => ?_)
  subst er1
  rw [hbad]
  refine xb_if_eq (tgt := 25) hx hb dX2_spot_14 (by decide) (fun _ => ?_) (fun q => absurd q (by decide))
  refine lv_iconst (v := nI 1) hx hb dX2_spot_25 (by decide) ?_
  refine lv_goto (tgt := 30) hx hb dX2_spot_26 (by decide) ?_
  refine va_put (D := (dC, dI)) (ci := 2) (v := .int (nI (1))) (ty := .int) (C := RX2) (T := TX2) (N := 6) hx hb hts hin2 tyX2 tyX2_ok nmX2 hown hK hP hD hS 0 rfl rfl 5 (by decide) fl24 (fun _ h9 => h9) rfl (by decide +kernel) rfl rfl (Nat.le_of_ble_eq_true rfl) dX2_spot_30 (fun H locs hP hD hS => ?_)
  have hP : va_P (dC, dI) vwCl [(h, .inr (2, [.ref b0, .ref b1, .ref b2, .ref b3, .int (nI (nn)), .int (nI (1))])), (b0, .inl (cD, 70, .inr (.inr (.inr (.inl (N)))))), (b1, .inl (cZ, 70, .inl (I))), (b2, .inl (cI, 60, .inl (T))), (b3, .inl (cI, 6, .inl (R)))] H := hP
  have hD : va_D A [(h, .inr (2, [.ref b0, .ref b1, .ref b2, .ref b3, .int (nI (nn)), .int (nI (1))])), (b0, .inl (cD, 70, .inr (.inr (.inr (.inl (N)))))), (b1, .inl (cZ, 70, .inl (I))), (b2, .inl (cI, 60, .inl (T))), (b3, .inl (cI, 6, .inl (R)))] := hD
  refine lv_aload_n hx hb dX2_spot_33 rfl (lv_at hl 0 rfl) ?_
  refine va_get (D := (dC, dI)) (ci := 2) (v := .int (nI (1))) (C := RX2) (T := TX2) (N := 6) hx hb hts hin2 hown hK hP 0 rfl rfl 5 (by decide) fl24 (fun _ h9 => h9) rfl dX2_spot_34 ?_
  refine lv_if_le (tgt := 42) hx hb dX2_spot_37 (by decide) (fun q => absurd q (by decide)) (fun _ => ?_)
  refine lv_iconst (v := (-1)) hx hb dX2_spot_40 (by decide) ?_
  exact W.iret (v := -1) hx hb hr (fun t ht hW => ⟨⟨_, (), rfl, rfl, by rw [ht]; exact hP, va_K.moved hW.alike hK, hD⟩, hS.F ht⟩) hS.2.2 dX2_spot_41
set_option maxHeartbeats 4000000 in
set_option maxRecDepth 100000 in
theorem c_X2_spot_n2 (l : Launch) (dC : Nat → ClassId) (dI : Nat → Nat → Nat) (cD cZ cI cL : ClassId) (h b0 b1 b2 b3 : Nat) (N : Nat → UInt64) (I T R : Nat → Int32) (nn : Nat) (th : Int32) (sz : Nat) (hnn : nn ≤ 6) (fb : Bool) (en : Nat) (bv : Int32) (hen : en < nn) (hbad : vB bv 5 = false) : Met l yX2_spot wsX2_spot ({ frames := 1, cells := 0, slots := 0, locals := 21 }) (va_Pc [.ref h, .int (nI (Bool.toNat (fb))), .int (nI (en)), .int (bv)] (fun U => U.heap.size = sz ∧ okM dC dI cD cZ cI cL h b0 b1 b2 b3 N I T R nn th U U.heap ∧ va_D (fun _ => True) (wM cD cZ cI cL h b0 b1 b2 b3 N I T R nn th))) (va_Qi (fun (r : Int32) (_ : Unit) => r = (-1)) (fun _ t => atM dC dI cD cZ cI cL (va_A (wM cD cZ cI cL h b0 b1 b2 b3 N I T R nn th) sz) h b0 b1 b2 b3 N I T R nn (nI 1) t) (va_A (wM cD cZ cI cL h b0 b1 b2 b3 N I T R nn th) sz)) 0 0 (va_A (wM cD cZ cI cL h b0 b1 b2 b3 N I T R nn th) sz) := by
  refine Met.ofW (cc := cX2_spot) (maxL := 4) (ret := (some .int)) (by decide) rfl ?_
  intro p e s m args below meth c s₁ B hml hv
  obtain ⟨rfl, hsz, hO, hD0⟩ := hv
  obtain ⟨hP, hK⟩ := id hO
  have hx := B.exec
  have hb := B.bytes
  have hr := B.returns
  have hts := atoms_spec (ws := wsX2_spot) B.pre
  have hown : s.vm.findClass RX2 = some m.cls := findClass_of_methodNamed B.named
  have hlocks := B.notSynchronized
  subst hsz
  have hD := hD0.self (sz := s.heap.size)
  generalize hAe : va_A (wM cD cZ cI cL h b0 b1 b2 b3 N I T R nn th) s.heap.size = A at hD ⊢
  have hA : ∀ q : Nat, s.heap.size ≤ q → A q := fun q h => by rw [← hAe]; exact Or.inr h
  have hS : va_S A s.heap s.heap [] := va_S.rf
  have hP : va_P (dC, dI) vwCl [(h, .inr (2, [.ref b0, .ref b1, .ref b2, .ref b3, .int (nI (nn)), .int (th)])), (b0, .inl (cD, 70, .inr (.inr (.inr (.inl (N)))))), (b1, .inl (cZ, 70, .inl (I))), (b2, .inl (cI, 60, .inl (T))), (b3, .inl (cI, 6, .inl (R)))] s.heap := hP
  have hD : va_D A [(h, .inr (2, [.ref b0, .ref b1, .ref b2, .ref b3, .int (nI (nn)), .int (th)])), (b0, .inl (cD, 70, .inr (.inr (.inr (.inl (N)))))), (b1, .inl (cZ, 70, .inl (I))), (b2, .inl (cI, 60, .inl (T))), (b3, .inl (cI, 6, .inl (R)))] := hD
  have hin2 : ∀ w ∈ wsX20, w ∈ wsX2_spot := (fun w h => List.mem_cons_of_mem _ (List.mem_append_right _ h))
  have fl24 := hts (.fieldLink RX2 24 "JuryTableModel" "thrown" "I") (by decide +kernel)
  have fl28 := hts (.fieldLink RX2 28 "JuryTableModel" "entries" "I") (by decide +kernel)
  have hl := lv_entry ([.ref h, .int (nI (Bool.toNat (fb))), .int (nI (en)), .int (bv)]) (n := 4) (Nat.le_of_ble_eq_true rfl)
  rw [lg_entry_eq]
  generalize (lg_sl ([.ref h, .int (nI (Bool.toNat (fb))), .int (nI (en)), .int (bv)]) ++ List.replicate (4 - (lg_sl ([.ref h, .int (nI (Bool.toNat (fb))), .int (nI (en)), .int (bv)])).length) Slot.unset).toArray = ls at hl ⊢
  have hl : lv_has ls 4 [(0, .ref h), (1, .int (nI (Bool.toNat (fb)))), (2, .int (nI (en))), (3, .int (bv))] := hl
  refine lv_aload_n hx hb dX2_spot_0 rfl (lv_at hl 0 rfl) ?_
  refine lv_iload_n hx hb dX2_spot_1 rfl (lv_at hl 2 rfl) ?_
  refine lv_iconst (v := (-1)) hx hb dX2_spot_2 (by decide) ?_
  refine lv_icmp_eq (tgt := 17) hx hb dX2_spot_3 (by decide) (fun q => absurd q (nI_nm1 (by omega))) (fun _ => ?_)
  refine lv_iload_n hx hb dX2_spot_6 rfl (lv_at hl 2 rfl) ?_
  refine lv_aload_n hx hb dX2_spot_7 rfl (lv_at hl 0 rfl) ?_
  refine va_get (D := (dC, dI)) (ci := 2) (v := .int (nI (nn))) (C := RX2) (T := TX2) (N := 6) hx hb hts hin2 hown hK hP 0 rfl rfl 4 (by decide) fl28 (fun _ h9 => h9) rfl dX2_spot_8 ?_
  refine vp_callSi (va_Run.run (va_runS (As := [.int (nI (en)), .int (nI (nn))]) (rest := [.ref h]) ⟨hx, hb, hml, hown, hts⟩ (c_X2_in l (nI en) (nn)) (va_cwS 2 hts gX2_spot_X2_in rfl rfl rfl (by decide +kernel) ⟨Nat.le_of_ble_eq_true rfl, Nat.le_of_ble_eq_true rfl⟩) preT rfl rfl hl.1 rfl (lv_room (Nat.le_of_ble_eq_true rfl)) dX2_spot_11 ⟨Nat.zero_le _, Nat.zero_le _⟩)) (fun r1 er1 => ?_)
  subst er1
  rw [vB_nI (show en < nn by omega) (by omega)]
  refine xb_if_eq (tgt := 25) hx hb dX2_spot_14 (by decide) (fun q => absurd q (by decide)) (fun _ => ?_)
  refine lv_iload_n hx hb dX2_spot_17 rfl (lv_at hl 3 rfl) ?_
  refine lv_iconst (v := nI 5) hx hb dX2_spot_18 (by decide) ?_
  refine vp_callSi (va_Run.run (va_runS (As := [.int (bv), .int (nI (5))]) (rest := [.ref h]) ⟨hx, hb, hml, hown, hts⟩ (c_X2_in l (bv) (5)) (va_cwS 2 hts gX2_spot_X2_in rfl rfl rfl (by decide +kernel) ⟨Nat.le_of_ble_eq_true rfl, Nat.le_of_ble_eq_true rfl⟩) preT rfl rfl hl.1 rfl (lv_room (Nat.le_of_ble_eq_true rfl)) dX2_spot_19 ⟨Nat.zero_le _, Nat.zero_le _⟩)) (fun r2 er2 => ?_)
  subst er2
  rw [hbad]
  refine xb_if_ne (tgt := 29) hx hb dX2_spot_22 (by decide) (fun q => absurd q (by decide)) (fun _ => ?_)
  refine lv_iconst (v := nI 1) hx hb dX2_spot_25 (by decide) ?_
  refine lv_goto (tgt := 30) hx hb dX2_spot_26 (by decide) ?_
  refine va_put (D := (dC, dI)) (ci := 2) (v := .int (nI (1))) (ty := .int) (C := RX2) (T := TX2) (N := 6) hx hb hts hin2 tyX2 tyX2_ok nmX2 hown hK hP hD hS 0 rfl rfl 5 (by decide) fl24 (fun _ h9 => h9) rfl (by decide +kernel) rfl rfl (Nat.le_of_ble_eq_true rfl) dX2_spot_30 (fun H locs hP hD hS => ?_)
  have hP : va_P (dC, dI) vwCl [(h, .inr (2, [.ref b0, .ref b1, .ref b2, .ref b3, .int (nI (nn)), .int (nI (1))])), (b0, .inl (cD, 70, .inr (.inr (.inr (.inl (N)))))), (b1, .inl (cZ, 70, .inl (I))), (b2, .inl (cI, 60, .inl (T))), (b3, .inl (cI, 6, .inl (R)))] H := hP
  have hD : va_D A [(h, .inr (2, [.ref b0, .ref b1, .ref b2, .ref b3, .int (nI (nn)), .int (nI (1))])), (b0, .inl (cD, 70, .inr (.inr (.inr (.inl (N)))))), (b1, .inl (cZ, 70, .inl (I))), (b2, .inl (cI, 60, .inl (T))), (b3, .inl (cI, 6, .inl (R)))] := hD
  refine lv_aload_n hx hb dX2_spot_33 rfl (lv_at hl 0 rfl) ?_
  refine va_get (D := (dC, dI)) (ci := 2) (v := .int (nI (1))) (C := RX2) (T := TX2) (N := 6) hx hb hts hin2 hown hK hP 0 rfl rfl 5 (by decide) fl24 (fun _ h9 => h9) rfl dX2_spot_34 ?_
  refine lv_if_le (tgt := 42) hx hb dX2_spot_37 (by decide) (fun q => absurd q (by decide)) (fun _ => ?_)
  refine lv_iconst (v := (-1)) hx hb dX2_spot_40 (by decide) ?_
  exact W.iret (v := -1) hx hb hr (fun t ht hW => ⟨⟨_, (), rfl, rfl, by rw [ht]; exact hP, va_K.moved hW.alike hK, hD⟩, hS.F ht⟩) hS.2.2 dX2_spot_41
set_option maxHeartbeats 4000000 in
set_option maxRecDepth 100000 in
theorem c_X2_spot_n2N (l : Launch) (dC : Nat → ClassId) (dI : Nat → Nat → Nat) (cD cZ cI cL : ClassId) (h b0 b1 b2 b3 : Nat) (N : Nat → UInt64) (I T R : Nat → Int32) (nn : Nat) (th : Int32) (sz : Nat) (hnn : nn ≤ 6) (fb : Bool) (bv : Int32) (hbad : vB bv 5 = false) : Met l yX2_spot wsX2_spot ({ frames := 1, cells := 0, slots := 0, locals := 21 }) (va_Pc [.ref h, .int (nI (Bool.toNat (fb))), .int (-1), .int (bv)] (fun U => U.heap.size = sz ∧ okM dC dI cD cZ cI cL h b0 b1 b2 b3 N I T R nn th U U.heap ∧ va_D (fun _ => True) (wM cD cZ cI cL h b0 b1 b2 b3 N I T R nn th))) (va_Qi (fun (r : Int32) (_ : Unit) => r = (-1)) (fun _ t => atM dC dI cD cZ cI cL (va_A (wM cD cZ cI cL h b0 b1 b2 b3 N I T R nn th) sz) h b0 b1 b2 b3 N I T R nn (nI 1) t) (va_A (wM cD cZ cI cL h b0 b1 b2 b3 N I T R nn th) sz)) 0 0 (va_A (wM cD cZ cI cL h b0 b1 b2 b3 N I T R nn th) sz) := by
  refine Met.ofW (cc := cX2_spot) (maxL := 4) (ret := (some .int)) (by decide) rfl ?_
  intro p e s m args below meth c s₁ B hml hv
  obtain ⟨rfl, hsz, hO, hD0⟩ := hv
  obtain ⟨hP, hK⟩ := id hO
  have hx := B.exec
  have hb := B.bytes
  have hr := B.returns
  have hts := atoms_spec (ws := wsX2_spot) B.pre
  have hown : s.vm.findClass RX2 = some m.cls := findClass_of_methodNamed B.named
  have hlocks := B.notSynchronized
  subst hsz
  have hD := hD0.self (sz := s.heap.size)
  generalize hAe : va_A (wM cD cZ cI cL h b0 b1 b2 b3 N I T R nn th) s.heap.size = A at hD ⊢
  have hA : ∀ q : Nat, s.heap.size ≤ q → A q := fun q h => by rw [← hAe]; exact Or.inr h
  have hS : va_S A s.heap s.heap [] := va_S.rf
  have hP : va_P (dC, dI) vwCl [(h, .inr (2, [.ref b0, .ref b1, .ref b2, .ref b3, .int (nI (nn)), .int (th)])), (b0, .inl (cD, 70, .inr (.inr (.inr (.inl (N)))))), (b1, .inl (cZ, 70, .inl (I))), (b2, .inl (cI, 60, .inl (T))), (b3, .inl (cI, 6, .inl (R)))] s.heap := hP
  have hD : va_D A [(h, .inr (2, [.ref b0, .ref b1, .ref b2, .ref b3, .int (nI (nn)), .int (th)])), (b0, .inl (cD, 70, .inr (.inr (.inr (.inl (N)))))), (b1, .inl (cZ, 70, .inl (I))), (b2, .inl (cI, 60, .inl (T))), (b3, .inl (cI, 6, .inl (R)))] := hD
  have hin2 : ∀ w ∈ wsX20, w ∈ wsX2_spot := (fun w h => List.mem_cons_of_mem _ (List.mem_append_right _ h))
  have fl24 := hts (.fieldLink RX2 24 "JuryTableModel" "thrown" "I") (by decide +kernel)
  have hl := lv_entry ([.ref h, .int (nI (Bool.toNat (fb))), .int (-1), .int (bv)]) (n := 4) (Nat.le_of_ble_eq_true rfl)
  rw [lg_entry_eq]
  generalize (lg_sl ([.ref h, .int (nI (Bool.toNat (fb))), .int (-1), .int (bv)]) ++ List.replicate (4 - (lg_sl ([.ref h, .int (nI (Bool.toNat (fb))), .int (-1), .int (bv)])).length) Slot.unset).toArray = ls at hl ⊢
  have hl : lv_has ls 4 [(0, .ref h), (1, .int (nI (Bool.toNat (fb)))), (2, .int (-1)), (3, .int (bv))] := hl
  refine lv_aload_n hx hb dX2_spot_0 rfl (lv_at hl 0 rfl) ?_
  refine lv_iload_n hx hb dX2_spot_1 rfl (lv_at hl 2 rfl) ?_
  refine lv_iconst (v := (-1)) hx hb dX2_spot_2 (by decide) ?_
  refine lv_icmp_eq (tgt := 17) hx hb dX2_spot_3 (by decide) (fun _ => ?_) (fun q => absurd (by decide) q)
  refine lv_iload_n hx hb dX2_spot_17 rfl (lv_at hl 3 rfl) ?_
  refine lv_iconst (v := nI 5) hx hb dX2_spot_18 (by decide) ?_
  refine vp_callSi (va_Run.run (va_runS (As := [.int (bv), .int (nI (5))]) (rest := [.ref h]) ⟨hx, hb, hml, hown, hts⟩ (c_X2_in l (bv) (5)) (va_cwS 2 hts gX2_spot_X2_in rfl rfl rfl (by decide +kernel) ⟨Nat.le_of_ble_eq_true rfl, Nat.le_of_ble_eq_true rfl⟩) preT rfl rfl hl.1 rfl (lv_room (Nat.le_of_ble_eq_true rfl)) dX2_spot_19 ⟨Nat.zero_le _, Nat.zero_le _⟩)) (fun r1 er1 => ?_)
  subst er1
  rw [hbad]
  refine xb_if_ne (tgt := 29) hx hb dX2_spot_22 (by decide) (fun q => absurd q (by decide)) (fun _ => ?_)
  refine lv_iconst (v := nI 1) hx hb dX2_spot_25 (by decide) ?_
  refine lv_goto (tgt := 30) hx hb dX2_spot_26 (by decide) ?_
  refine va_put (D := (dC, dI)) (ci := 2) (v := .int (nI (1))) (ty := .int) (C := RX2) (T := TX2) (N := 6) hx hb hts hin2 tyX2 tyX2_ok nmX2 hown hK hP hD hS 0 rfl rfl 5 (by decide) fl24 (fun _ h9 => h9) rfl (by decide +kernel) rfl rfl (Nat.le_of_ble_eq_true rfl) dX2_spot_30 (fun H locs hP hD hS => ?_)
  have hP : va_P (dC, dI) vwCl [(h, .inr (2, [.ref b0, .ref b1, .ref b2, .ref b3, .int (nI (nn)), .int (nI (1))])), (b0, .inl (cD, 70, .inr (.inr (.inr (.inl (N)))))), (b1, .inl (cZ, 70, .inl (I))), (b2, .inl (cI, 60, .inl (T))), (b3, .inl (cI, 6, .inl (R)))] H := hP
  have hD : va_D A [(h, .inr (2, [.ref b0, .ref b1, .ref b2, .ref b3, .int (nI (nn)), .int (nI (1))])), (b0, .inl (cD, 70, .inr (.inr (.inr (.inl (N)))))), (b1, .inl (cZ, 70, .inl (I))), (b2, .inl (cI, 60, .inl (T))), (b3, .inl (cI, 6, .inl (R)))] := hD
  refine lv_aload_n hx hb dX2_spot_33 rfl (lv_at hl 0 rfl) ?_
  refine va_get (D := (dC, dI)) (ci := 2) (v := .int (nI (1))) (C := RX2) (T := TX2) (N := 6) hx hb hts hin2 hown hK hP 0 rfl rfl 5 (by decide) fl24 (fun _ h9 => h9) rfl dX2_spot_34 ?_
  refine lv_if_le (tgt := 42) hx hb dX2_spot_37 (by decide) (fun q => absurd q (by decide)) (fun _ => ?_)
  refine lv_iconst (v := (-1)) hx hb dX2_spot_40 (by decide) ?_
  exact W.iret (v := -1) hx hb hr (fun t ht hW => ⟨⟨_, (), rfl, rfl, by rw [ht]; exact hP, va_K.moved hW.alike hK, hD⟩, hS.F ht⟩) hS.2.2 dX2_spot_41
set_option maxHeartbeats 4000000 in
set_option maxRecDepth 100000 in
theorem c_X2_clear_ok (l : Launch) (dC : Nat → ClassId) (dI : Nat → Nat → Nat) (cD cZ cI cL : ClassId) (h b0 b1 b2 b3 : Nat) (N : Nat → UInt64) (I T R : Nat → Int32) (nn : Nat) (th : Int32) (sz : Nat) (hnn : nn ≤ 6) (fb : Bool) (en bn : Nat) (hen : en < nn) (hbn : bn < 5) (hI : ∀ j, I j = 0 ∨ I j = 1) : Met l yX2_clear wsX2_clear ({ frames := 2, cells := 0, slots := 0, locals := 45 }) (va_Pc [.ref h, .int (nI (Bool.toNat (fb))), .int (nI (en)), .int (nI (bn))] (fun U => U.heap.size = sz ∧ okM dC dI cD cZ cI cL h b0 b1 b2 b3 N I T R nn th U U.heap ∧ va_D (fun _ => True) (wM cD cZ cI cL h b0 b1 b2 b3 N I T R nn th))) (va_Qi (fun (r : Int32) (_ : Unit) => r = I (mc fb en bn)) (fun _ t => atM dC dI cD cZ cI cL (va_A (wM cD cZ cI cL h b0 b1 b2 b3 N I T R nn th) sz) h b0 b1 b2 b3 N (upd I (mc fb en bn) (nI (Bool.toNat false))) T R nn (nI 0) t) (va_A (wM cD cZ cI cL h b0 b1 b2 b3 N I T R nn th) sz)) 0 0 (va_A (wM cD cZ cI cL h b0 b1 b2 b3 N I T R nn th) sz) := by
  refine Met.ofW (cc := cX2_clear) (maxL := 6) (ret := (some .boolean)) (by decide) rfl ?_
  intro p e s m args below meth c s₁ B hml hv
  obtain ⟨rfl, hsz, hO, hD0⟩ := hv
  obtain ⟨hP, hK⟩ := id hO
  have hx := B.exec
  have hb := B.bytes
  have hr := B.returns
  have hts := atoms_spec (ws := wsX2_clear) B.pre
  have hown : s.vm.findClass RX2 = some m.cls := findClass_of_methodNamed B.named
  have hlocks := B.notSynchronized
  subst hsz
  have hD := hD0.self (sz := s.heap.size)
  generalize hAe : va_A (wM cD cZ cI cL h b0 b1 b2 b3 N I T R nn th) s.heap.size = A at hD ⊢
  have hA : ∀ q : Nat, s.heap.size ≤ q → A q := fun q h => by rw [← hAe]; exact Or.inr h
  have hS : va_S A s.heap s.heap [] := va_S.rf
  have hP : va_P (dC, dI) vwCl [(h, .inr (2, [.ref b0, .ref b1, .ref b2, .ref b3, .int (nI (nn)), .int (th)])), (b0, .inl (cD, 70, .inr (.inr (.inr (.inl (N)))))), (b1, .inl (cZ, 70, .inl (I))), (b2, .inl (cI, 60, .inl (T))), (b3, .inl (cI, 6, .inl (R)))] s.heap := hP
  have hD : va_D A [(h, .inr (2, [.ref b0, .ref b1, .ref b2, .ref b3, .int (nI (nn)), .int (th)])), (b0, .inl (cD, 70, .inr (.inr (.inr (.inl (N)))))), (b1, .inl (cZ, 70, .inl (I))), (b2, .inl (cI, 60, .inl (T))), (b3, .inl (cI, 6, .inl (R)))] := hD
  have hin2 : ∀ w ∈ wsX20, w ∈ wsX2_clear := (fun w h => List.mem_cons_of_mem _ (List.mem_append_right _ h))
  have fl13 := hts (.fieldLink RX2 13 "JuryTableModel" "isThere" "[Z") (by decide +kernel)
  have hl := lv_entry ([.ref h, .int (nI (Bool.toNat (fb))), .int (nI (en)), .int (nI (bn))]) (n := 6) (Nat.le_of_ble_eq_true rfl)
  rw [lg_entry_eq]
  generalize (lg_sl ([.ref h, .int (nI (Bool.toNat (fb))), .int (nI (en)), .int (nI (bn))]) ++ List.replicate (6 - (lg_sl ([.ref h, .int (nI (Bool.toNat (fb))), .int (nI (en)), .int (nI (bn))])).length) Slot.unset).toArray = ls at hl ⊢
  have hl : lv_has ls 6 [(0, .ref h), (1, .int (nI (Bool.toNat (fb)))), (2, .int (nI (en))), (3, .int (nI (bn)))] := hl
  refine lv_aload_n hx hb dX2_clear_0 rfl (lv_at hl 0 rfl) ?_
  refine lv_iload_n hx hb dX2_clear_1 rfl (lv_at hl 1 rfl) ?_
  refine lv_iload_n hx hb dX2_clear_2 rfl (lv_at hl 2 rfl) ?_
  refine lv_iload_n hx hb dX2_clear_3 rfl (lv_at hl 3 rfl) ?_
  have hPc := hP.sub (ws' := [(h, .inr (2, [.ref b0, .ref b1, .ref b2, .ref b3, .int (nI (nn)), .int (th)])), (b0, .inl (cD, 70, .inr (.inr (.inr (.inl (N)))))), (b1, .inl (cZ, 70, .inl (I))), (b2, .inl (cI, 60, .inl (T))), (b3, .inl (cI, 6, .inl (R)))]) [0, 1, 2, 3, 4] rfl
  have hDc := hD.sub (ws' := [(h, .inr (2, [.ref b0, .ref b1, .ref b2, .ref b3, .int (nI (nn)), .int (th)])), (b0, .inl (cD, 70, .inr (.inr (.inr (.inl (N)))))), (b1, .inl (cZ, 70, .inl (I))), (b2, .inl (cI, 60, .inl (T))), (b3, .inl (cI, 6, .inl (R)))]) [0, 1, 2, 3, 4] (by decide) rfl
  have hFc := va_free (wc := [(h, .inr (2, [.ref b0, .ref b1, .ref b2, .ref b3, .int (nI (nn)), .int (th)])), (b0, .inl (cD, 70, .inr (.inr (.inr (.inl (N)))))), (b1, .inl (cZ, 70, .inl (I))), (b2, .inl (cI, 60, .inl (T))), (b3, .inl (cI, 6, .inl (R)))]) hD hS hA [0, 1, 2, 3, 4] rfl
  refine va_calli (va_runV (As := [.int (nI (Bool.toNat (fb))), .int (nI (en)), .int (nI (bn))]) (rest := []) ⟨hx, hb, hml, hown, hts⟩ (c_X2_spot_ok l dC dI cD cZ cI cL h b0 b1 b2 b3 N I T R nn th s.heap.size (by omega) (fb) (en) (bn) (by omega) (by omega)) (cwV 3 hts gX2_clear_X2_spot rfl rfl rfl (by decide +kernel) ⟨Nat.le_of_ble_eq_true rfl, Nat.le_of_ble_eq_true rfl⟩) (okMW_pre ⟨hP, hK⟩ hD) rfl rfl hl.1 rfl (lv_room (Nat.le_of_ble_eq_true rfl)) dX2_clear_4 ⟨Nat.zero_le _, Nat.zero_le _⟩) hS (fun q _ h => hFc q h) hFc (fun r1 u1 t H1 locs ht hvm hw hB hz1 hk1 hS => ?_)
  obtain ⟨hP1, hK1, hD1⟩ := hB
  rw [ht] at hP1
  have hD := hD1.weaken (fun _ q _ h => hFc q.1 h)
  have hP := hP1
  generalize H1 = H at hP hS ⊢
  have hP : va_P (dC, dI) vwCl [(h, .inr (2, [.ref b0, .ref b1, .ref b2, .ref b3, .int (nI (nn)), .int (nI (0))])), (b0, .inl (cD, 70, .inr (.inr (.inr (.inl (N)))))), (b1, .inl (cZ, 70, .inl (I))), (b2, .inl (cI, 60, .inl (T))), (b3, .inl (cI, 6, .inl (R)))] H := hP
  have hD : va_D A [(h, .inr (2, [.ref b0, .ref b1, .ref b2, .ref b3, .int (nI (nn)), .int (nI (0))])), (b0, .inl (cD, 70, .inr (.inr (.inr (.inl (N)))))), (b1, .inl (cZ, 70, .inl (I))), (b2, .inl (cI, 60, .inl (T))), (b3, .inl (cI, 6, .inl (R)))] := hD
  subst hw
  have := mc_lt (f := fb) (e := en) (b := bn) (by omega) (by omega)
  refine lv_istore (lv' := [(4, .int (nI (mc fb en bn))), (0, .ref h), (1, .int (nI (Bool.toNat (fb)))), (2, .int (nI (en))), (3, .int (nI (bn)))]) hx hb dX2_clear_7 hl (by decide) rfl (fun ls hl => ?_)
  refine lv_iload hx hb dX2_clear_9 (lv_at hl 0 rfl) ?_
  refine lv_iconst (v := (-1)) hx hb dX2_clear_11 (by decide) ?_
  refine lv_icmp_ne (tgt := 17) hx hb dX2_clear_12 (by decide) (fun _ => ?_) (fun q => absurd q (nI_nm1 (by omega)))
  refine lv_aload_n hx hb dX2_clear_17 rfl (lv_at hl 1 rfl) ?_
  refine va_get (D := (dC, dI)) (ci := 2) (v := .ref b1) (C := RX2) (T := TX2) (N := 6) hx hb hts hin2 hown hK hP 0 rfl rfl 1 (by decide) fl13 (fun _ h9 => h9) rfl dX2_clear_18 ?_
  refine lv_iload hx hb dX2_clear_21 (lv_at hl 0 rfl) ?_
  refine xn_zald hx hb hK hP 2 1 rfl rfl (n := 70) (j := mc fb en bn) (by omega) (by decide) dX2_clear_23 ?_
  refine lv_istore (lv' := [(5, .int (I (mc fb en bn))), (4, .int (nI (mc fb en bn))), (0, .ref h), (1, .int (nI (Bool.toNat (fb)))), (2, .int (nI (en))), (3, .int (nI (bn)))]) hx hb dX2_clear_24 hl (by decide) rfl (fun ls hl => ?_)
  refine lv_aload_n hx hb dX2_clear_26 rfl (lv_at hl 2 rfl) ?_
  refine va_get (D := (dC, dI)) (ci := 2) (v := .ref b1) (C := RX2) (T := TX2) (N := 6) hx hb hts hin2 hown hK hP 0 rfl rfl 1 (by decide) fl13 (fun _ h9 => h9) rfl dX2_clear_27 ?_
  refine lv_iload hx hb dX2_clear_30 (lv_at hl 1 rfl) ?_
  refine lv_iconst (v := nI 0) hx hb dX2_clear_32 (by decide) ?_
  refine xn_zast hx hb hK hP hD hS 2 1 rfl rfl (n := 70) (j := mc fb en bn) (x := false) (by omega) (by decide) dX2_clear_33 (fun H locs hP hD hS => ?_)
  have hP : va_P (dC, dI) vwCl [(h, .inr (2, [.ref b0, .ref b1, .ref b2, .ref b3, .int (nI (nn)), .int (nI (0))])), (b0, .inl (cD, 70, .inr (.inr (.inr (.inl (N)))))), (b1, .inl (cZ, 70, .inl (upd I (mc fb en bn) (nI (Bool.toNat (false)))))), (b2, .inl (cI, 60, .inl (T))), (b3, .inl (cI, 6, .inl (R)))] H := hP
  have hD : va_D A [(h, .inr (2, [.ref b0, .ref b1, .ref b2, .ref b3, .int (nI (nn)), .int (nI (0))])), (b0, .inl (cD, 70, .inr (.inr (.inr (.inl (N)))))), (b1, .inl (cZ, 70, .inl (upd I (mc fb en bn) (nI (Bool.toNat (false)))))), (b2, .inl (cI, 60, .inl (T))), (b3, .inl (cI, 6, .inl (R)))] := hD
  refine lv_iload hx hb dX2_clear_34 (lv_at hl 0 rfl) ?_
  exact W.zret (v := I (mc fb en bn)) (ty := .boolean) hx hb hr (xz_nar (hI _)) (fun t ht hW => ⟨⟨_, (), rfl, rfl, by rw [ht]; exact hP, va_K.moved hW.alike hK, hD⟩, hS.F ht⟩) hS.2.2 dX2_clear_36
set_option maxHeartbeats 4000000 in
set_option maxRecDepth 100000 in
theorem c_X2_clear_okN (l : Launch) (dC : Nat → ClassId) (dI : Nat → Nat → Nat) (cD cZ cI cL : ClassId) (h b0 b1 b2 b3 : Nat) (N : Nat → UInt64) (I T R : Nat → Int32) (nn : Nat) (th : Int32) (sz : Nat) (hnn : nn ≤ 6) (fb : Bool) (bn : Nat) (hbn : bn < 5) (hI : ∀ j, I j = 0 ∨ I j = 1) : Met l yX2_clear wsX2_clear ({ frames := 2, cells := 0, slots := 0, locals := 44 }) (va_Pc [.ref h, .int (nI (Bool.toNat (fb))), .int (-1), .int (nI (bn))] (fun U => U.heap.size = sz ∧ okM dC dI cD cZ cI cL h b0 b1 b2 b3 N I T R nn th U U.heap ∧ va_D (fun _ => True) (wM cD cZ cI cL h b0 b1 b2 b3 N I T R nn th))) (va_Qi (fun (r : Int32) (_ : Unit) => r = I (ml fb bn)) (fun _ t => atM dC dI cD cZ cI cL (va_A (wM cD cZ cI cL h b0 b1 b2 b3 N I T R nn th) sz) h b0 b1 b2 b3 N (upd I (ml fb bn) (nI (Bool.toNat false))) T R nn (nI 0) t) (va_A (wM cD cZ cI cL h b0 b1 b2 b3 N I T R nn th) sz)) 0 0 (va_A (wM cD cZ cI cL h b0 b1 b2 b3 N I T R nn th) sz) := by
  refine Met.ofW (cc := cX2_clear) (maxL := 6) (ret := (some .boolean)) (by decide) rfl ?_
  intro p e s m args below meth c s₁ B hml hv
  obtain ⟨rfl, hsz, hO, hD0⟩ := hv
  obtain ⟨hP, hK⟩ := id hO
  have hx := B.exec
  have hb := B.bytes
  have hr := B.returns
  have hts := atoms_spec (ws := wsX2_clear) B.pre
  have hown : s.vm.findClass RX2 = some m.cls := findClass_of_methodNamed B.named
  have hlocks := B.notSynchronized
  subst hsz
  have hD := hD0.self (sz := s.heap.size)
  generalize hAe : va_A (wM cD cZ cI cL h b0 b1 b2 b3 N I T R nn th) s.heap.size = A at hD ⊢
  have hA : ∀ q : Nat, s.heap.size ≤ q → A q := fun q h => by rw [← hAe]; exact Or.inr h
  have hS : va_S A s.heap s.heap [] := va_S.rf
  have hP : va_P (dC, dI) vwCl [(h, .inr (2, [.ref b0, .ref b1, .ref b2, .ref b3, .int (nI (nn)), .int (th)])), (b0, .inl (cD, 70, .inr (.inr (.inr (.inl (N)))))), (b1, .inl (cZ, 70, .inl (I))), (b2, .inl (cI, 60, .inl (T))), (b3, .inl (cI, 6, .inl (R)))] s.heap := hP
  have hD : va_D A [(h, .inr (2, [.ref b0, .ref b1, .ref b2, .ref b3, .int (nI (nn)), .int (th)])), (b0, .inl (cD, 70, .inr (.inr (.inr (.inl (N)))))), (b1, .inl (cZ, 70, .inl (I))), (b2, .inl (cI, 60, .inl (T))), (b3, .inl (cI, 6, .inl (R)))] := hD
  have hin2 : ∀ w ∈ wsX20, w ∈ wsX2_clear := (fun w h => List.mem_cons_of_mem _ (List.mem_append_right _ h))
  have fl13 := hts (.fieldLink RX2 13 "JuryTableModel" "isThere" "[Z") (by decide +kernel)
  have hl := lv_entry ([.ref h, .int (nI (Bool.toNat (fb))), .int (-1), .int (nI (bn))]) (n := 6) (Nat.le_of_ble_eq_true rfl)
  rw [lg_entry_eq]
  generalize (lg_sl ([.ref h, .int (nI (Bool.toNat (fb))), .int (-1), .int (nI (bn))]) ++ List.replicate (6 - (lg_sl ([.ref h, .int (nI (Bool.toNat (fb))), .int (-1), .int (nI (bn))])).length) Slot.unset).toArray = ls at hl ⊢
  have hl : lv_has ls 6 [(0, .ref h), (1, .int (nI (Bool.toNat (fb)))), (2, .int (-1)), (3, .int (nI (bn)))] := hl
  refine lv_aload_n hx hb dX2_clear_0 rfl (lv_at hl 0 rfl) ?_
  refine lv_iload_n hx hb dX2_clear_1 rfl (lv_at hl 1 rfl) ?_
  refine lv_iload_n hx hb dX2_clear_2 rfl (lv_at hl 2 rfl) ?_
  refine lv_iload_n hx hb dX2_clear_3 rfl (lv_at hl 3 rfl) ?_
  have hPc := hP.sub (ws' := [(h, .inr (2, [.ref b0, .ref b1, .ref b2, .ref b3, .int (nI (nn)), .int (th)])), (b0, .inl (cD, 70, .inr (.inr (.inr (.inl (N)))))), (b1, .inl (cZ, 70, .inl (I))), (b2, .inl (cI, 60, .inl (T))), (b3, .inl (cI, 6, .inl (R)))]) [0, 1, 2, 3, 4] rfl
  have hDc := hD.sub (ws' := [(h, .inr (2, [.ref b0, .ref b1, .ref b2, .ref b3, .int (nI (nn)), .int (th)])), (b0, .inl (cD, 70, .inr (.inr (.inr (.inl (N)))))), (b1, .inl (cZ, 70, .inl (I))), (b2, .inl (cI, 60, .inl (T))), (b3, .inl (cI, 6, .inl (R)))]) [0, 1, 2, 3, 4] (by decide) rfl
  have hFc := va_free (wc := [(h, .inr (2, [.ref b0, .ref b1, .ref b2, .ref b3, .int (nI (nn)), .int (th)])), (b0, .inl (cD, 70, .inr (.inr (.inr (.inl (N)))))), (b1, .inl (cZ, 70, .inl (I))), (b2, .inl (cI, 60, .inl (T))), (b3, .inl (cI, 6, .inl (R)))]) hD hS hA [0, 1, 2, 3, 4] rfl
  refine va_calli (va_runV (As := [.int (nI (Bool.toNat (fb))), .int (-1), .int (nI (bn))]) (rest := []) ⟨hx, hb, hml, hown, hts⟩ (c_X2_spot_okN l dC dI cD cZ cI cL h b0 b1 b2 b3 N I T R nn th s.heap.size (by omega) (fb) (bn) (by omega)) (cwV 3 hts gX2_clear_X2_spot rfl rfl rfl (by decide +kernel) ⟨Nat.le_of_ble_eq_true rfl, Nat.le_of_ble_eq_true rfl⟩) (okMW_pre ⟨hP, hK⟩ hD) rfl rfl hl.1 rfl (lv_room (Nat.le_of_ble_eq_true rfl)) dX2_clear_4 ⟨Nat.zero_le _, Nat.zero_le _⟩) hS (fun q _ h => hFc q h) hFc (fun r1 u1 t H1 locs ht hvm hw hB hz1 hk1 hS => ?_)
  obtain ⟨hP1, hK1, hD1⟩ := hB
  rw [ht] at hP1
  have hD := hD1.weaken (fun _ q _ h => hFc q.1 h)
  have hP := hP1
  generalize H1 = H at hP hS ⊢
  have hP : va_P (dC, dI) vwCl [(h, .inr (2, [.ref b0, .ref b1, .ref b2, .ref b3, .int (nI (nn)), .int (nI (0))])), (b0, .inl (cD, 70, .inr (.inr (.inr (.inl (N)))))), (b1, .inl (cZ, 70, .inl (I))), (b2, .inl (cI, 60, .inl (T))), (b3, .inl (cI, 6, .inl (R)))] H := hP
  have hD : va_D A [(h, .inr (2, [.ref b0, .ref b1, .ref b2, .ref b3, .int (nI (nn)), .int (nI (0))])), (b0, .inl (cD, 70, .inr (.inr (.inr (.inl (N)))))), (b1, .inl (cZ, 70, .inl (I))), (b2, .inl (cI, 60, .inl (T))), (b3, .inl (cI, 6, .inl (R)))] := hD
  subst hw
  have := ml_lt (f := fb) (b := bn) (by omega)
  refine lv_istore (lv' := [(4, .int (nI (ml fb bn))), (0, .ref h), (1, .int (nI (Bool.toNat (fb)))), (2, .int (-1)), (3, .int (nI (bn)))]) hx hb dX2_clear_7 hl (by decide) rfl (fun ls hl => ?_)
  refine lv_iload hx hb dX2_clear_9 (lv_at hl 0 rfl) ?_
  refine lv_iconst (v := (-1)) hx hb dX2_clear_11 (by decide) ?_
  refine lv_icmp_ne (tgt := 17) hx hb dX2_clear_12 (by decide) (fun _ => ?_) (fun q => absurd q (nI_nm1 (by omega)))
  refine lv_aload_n hx hb dX2_clear_17 rfl (lv_at hl 1 rfl) ?_
  refine va_get (D := (dC, dI)) (ci := 2) (v := .ref b1) (C := RX2) (T := TX2) (N := 6) hx hb hts hin2 hown hK hP 0 rfl rfl 1 (by decide) fl13 (fun _ h9 => h9) rfl dX2_clear_18 ?_
  refine lv_iload hx hb dX2_clear_21 (lv_at hl 0 rfl) ?_
  refine xn_zald hx hb hK hP 2 1 rfl rfl (n := 70) (j := ml fb bn) (by omega) (by decide) dX2_clear_23 ?_
  refine lv_istore (lv' := [(5, .int (I (ml fb bn))), (4, .int (nI (ml fb bn))), (0, .ref h), (1, .int (nI (Bool.toNat (fb)))), (2, .int (-1)), (3, .int (nI (bn)))]) hx hb dX2_clear_24 hl (by decide) rfl (fun ls hl => ?_)
  refine lv_aload_n hx hb dX2_clear_26 rfl (lv_at hl 2 rfl) ?_
  refine va_get (D := (dC, dI)) (ci := 2) (v := .ref b1) (C := RX2) (T := TX2) (N := 6) hx hb hts hin2 hown hK hP 0 rfl rfl 1 (by decide) fl13 (fun _ h9 => h9) rfl dX2_clear_27 ?_
  refine lv_iload hx hb dX2_clear_30 (lv_at hl 1 rfl) ?_
  refine lv_iconst (v := nI 0) hx hb dX2_clear_32 (by decide) ?_
  refine xn_zast hx hb hK hP hD hS 2 1 rfl rfl (n := 70) (j := ml fb bn) (x := false) (by omega) (by decide) dX2_clear_33 (fun H locs hP hD hS => ?_)
  have hP : va_P (dC, dI) vwCl [(h, .inr (2, [.ref b0, .ref b1, .ref b2, .ref b3, .int (nI (nn)), .int (nI (0))])), (b0, .inl (cD, 70, .inr (.inr (.inr (.inl (N)))))), (b1, .inl (cZ, 70, .inl (upd I (ml fb bn) (nI (Bool.toNat (false)))))), (b2, .inl (cI, 60, .inl (T))), (b3, .inl (cI, 6, .inl (R)))] H := hP
  have hD : va_D A [(h, .inr (2, [.ref b0, .ref b1, .ref b2, .ref b3, .int (nI (nn)), .int (nI (0))])), (b0, .inl (cD, 70, .inr (.inr (.inr (.inl (N)))))), (b1, .inl (cZ, 70, .inl (upd I (ml fb bn) (nI (Bool.toNat (false)))))), (b2, .inl (cI, 60, .inl (T))), (b3, .inl (cI, 6, .inl (R)))] := hD
  refine lv_iload hx hb dX2_clear_34 (lv_at hl 0 rfl) ?_
  exact W.zret (v := I (ml fb bn)) (ty := .boolean) hx hb hr (xz_nar (hI _)) (fun t ht hW => ⟨⟨_, (), rfl, rfl, by rw [ht]; exact hP, va_K.moved hW.alike hK, hD⟩, hS.F ht⟩) hS.2.2 dX2_clear_36
set_option maxHeartbeats 4000000 in
set_option maxRecDepth 100000 in
theorem c_X2_clear_n1 (l : Launch) (dC : Nat → ClassId) (dI : Nat → Nat → Nat) (cD cZ cI cL : ClassId) (h b0 b1 b2 b3 : Nat) (N : Nat → UInt64) (I T R : Nat → Int32) (nn : Nat) (th : Int32) (sz : Nat) (hnn : nn ≤ 6) (fb : Bool) (ev bv : Int32) (hbad : vB ev nn = false) (hne : ¬ ev = (-1)) : Met l yX2_clear wsX2_clear ({ frames := 2, cells := 0, slots := 0, locals := 44 }) (va_Pc [.ref h, .int (nI (Bool.toNat (fb))), .int (ev), .int (bv)] (fun U => U.heap.size = sz ∧ okM dC dI cD cZ cI cL h b0 b1 b2 b3 N I T R nn th U U.heap ∧ va_D (fun _ => True) (wM cD cZ cI cL h b0 b1 b2 b3 N I T R nn th))) (va_Qi (fun (r : Int32) (_ : Unit) => r = nI (Bool.toNat false)) (fun _ t => atM dC dI cD cZ cI cL (va_A (wM cD cZ cI cL h b0 b1 b2 b3 N I T R nn th) sz) h b0 b1 b2 b3 N I T R nn (nI 1) t) (va_A (wM cD cZ cI cL h b0 b1 b2 b3 N I T R nn th) sz)) 0 0 (va_A (wM cD cZ cI cL h b0 b1 b2 b3 N I T R nn th) sz) := by
  refine Met.ofW (cc := cX2_clear) (maxL := 6) (ret := (some .boolean)) (by decide) rfl ?_
  intro p e s m args below meth c s₁ B hml hv
  obtain ⟨rfl, hsz, hO, hD0⟩ := hv
  obtain ⟨hP, hK⟩ := id hO
  have hx := B.exec
  have hb := B.bytes
  have hr := B.returns
  have hts := atoms_spec (ws := wsX2_clear) B.pre
  have hown : s.vm.findClass RX2 = some m.cls := findClass_of_methodNamed B.named
  have hlocks := B.notSynchronized
  subst hsz
  have hD := hD0.self (sz := s.heap.size)
  generalize hAe : va_A (wM cD cZ cI cL h b0 b1 b2 b3 N I T R nn th) s.heap.size = A at hD ⊢
  have hA : ∀ q : Nat, s.heap.size ≤ q → A q := fun q h => by rw [← hAe]; exact Or.inr h
  have hS : va_S A s.heap s.heap [] := va_S.rf
  have hP : va_P (dC, dI) vwCl [(h, .inr (2, [.ref b0, .ref b1, .ref b2, .ref b3, .int (nI (nn)), .int (th)])), (b0, .inl (cD, 70, .inr (.inr (.inr (.inl (N)))))), (b1, .inl (cZ, 70, .inl (I))), (b2, .inl (cI, 60, .inl (T))), (b3, .inl (cI, 6, .inl (R)))] s.heap := hP
  have hD : va_D A [(h, .inr (2, [.ref b0, .ref b1, .ref b2, .ref b3, .int (nI (nn)), .int (th)])), (b0, .inl (cD, 70, .inr (.inr (.inr (.inl (N)))))), (b1, .inl (cZ, 70, .inl (I))), (b2, .inl (cI, 60, .inl (T))), (b3, .inl (cI, 6, .inl (R)))] := hD
  have hl := lv_entry ([.ref h, .int (nI (Bool.toNat (fb))), .int (ev), .int (bv)]) (n := 6) (Nat.le_of_ble_eq_true rfl)
  rw [lg_entry_eq]
  generalize (lg_sl ([.ref h, .int (nI (Bool.toNat (fb))), .int (ev), .int (bv)]) ++ List.replicate (6 - (lg_sl ([.ref h, .int (nI (Bool.toNat (fb))), .int (ev), .int (bv)])).length) Slot.unset).toArray = ls at hl ⊢
  have hl : lv_has ls 6 [(0, .ref h), (1, .int (nI (Bool.toNat (fb)))), (2, .int (ev)), (3, .int (bv))] := hl
  refine lv_aload_n hx hb dX2_clear_0 rfl (lv_at hl 0 rfl) ?_
  refine lv_iload_n hx hb dX2_clear_1 rfl (lv_at hl 1 rfl) ?_
  refine lv_iload_n hx hb dX2_clear_2 rfl (lv_at hl 2 rfl) ?_
  refine lv_iload_n hx hb dX2_clear_3 rfl (lv_at hl 3 rfl) ?_
  have hPc := hP.sub (ws' := [(h, .inr (2, [.ref b0, .ref b1, .ref b2, .ref b3, .int (nI (nn)), .int (th)])), (b0, .inl (cD, 70, .inr (.inr (.inr (.inl (N)))))), (b1, .inl (cZ, 70, .inl (I))), (b2, .inl (cI, 60, .inl (T))), (b3, .inl (cI, 6, .inl (R)))]) [0, 1, 2, 3, 4] rfl
  have hDc := hD.sub (ws' := [(h, .inr (2, [.ref b0, .ref b1, .ref b2, .ref b3, .int (nI (nn)), .int (th)])), (b0, .inl (cD, 70, .inr (.inr (.inr (.inl (N)))))), (b1, .inl (cZ, 70, .inl (I))), (b2, .inl (cI, 60, .inl (T))), (b3, .inl (cI, 6, .inl (R)))]) [0, 1, 2, 3, 4] (by decide) rfl
  have hFc := va_free (wc := [(h, .inr (2, [.ref b0, .ref b1, .ref b2, .ref b3, .int (nI (nn)), .int (th)])), (b0, .inl (cD, 70, .inr (.inr (.inr (.inl (N)))))), (b1, .inl (cZ, 70, .inl (I))), (b2, .inl (cI, 60, .inl (T))), (b3, .inl (cI, 6, .inl (R)))]) hD hS hA [0, 1, 2, 3, 4] rfl
  refine va_calli (va_runV (As := [.int (nI (Bool.toNat (fb))), .int (ev), .int (bv)]) (rest := []) ⟨hx, hb, hml, hown, hts⟩ (c_X2_spot_n1 l dC dI cD cZ cI cL h b0 b1 b2 b3 N I T R nn th s.heap.size (by omega) (fb) (ev) (bv) hbad hne) (cwV 3 hts gX2_clear_X2_spot rfl rfl rfl (by decide +kernel) ⟨Nat.le_of_ble_eq_true rfl, Nat.le_of_ble_eq_true rfl⟩) (okMW_pre ⟨hP, hK⟩ hD) rfl rfl hl.1 rfl (lv_room (Nat.le_of_ble_eq_true rfl)) dX2_clear_4 ⟨Nat.zero_le _, Nat.zero_le _⟩) hS (fun q _ h => hFc q h) hFc (fun r1 u1 t H1 locs ht hvm hw hB hz1 hk1 hS => ?_)
  obtain ⟨hP1, hK1, hD1⟩ := hB
  rw [ht] at hP1
  have hD := hD1.weaken (fun _ q _ h => hFc q.1 h)
  have hP := hP1
  generalize H1 = H at hP hS ⊢
  have hP : va_P (dC, dI) vwCl [(h, .inr (2, [.ref b0, .ref b1, .ref b2, .ref b3, .int (nI (nn)), .int (nI (1))])), (b0, .inl (cD, 70, .inr (.inr (.inr (.inl (N)))))), (b1, .inl (cZ, 70, .inl (I))), (b2, .inl (cI, 60, .inl (T))), (b3, .inl (cI, 6, .inl (R)))] H := hP
  have hD : va_D A [(h, .inr (2, [.ref b0, .ref b1, .ref b2, .ref b3, .int (nI (nn)), .int (nI (1))])), (b0, .inl (cD, 70, .inr (.inr (.inr (.inl (N)))))), (b1, .inl (cZ, 70, .inl (I))), (b2, .inl (cI, 60, .inl (T))), (b3, .inl (cI, 6, .inl (R)))] := hD
  subst hw
  refine lv_istore (lv' := [(4, .int (-1)), (0, .ref h), (1, .int (nI (Bool.toNat (fb)))), (2, .int (ev)), (3, .int (bv))]) hx hb dX2_clear_7 hl (by decide) rfl (fun ls hl => ?_)
  refine lv_iload hx hb dX2_clear_9 (lv_at hl 0 rfl) ?_
  refine lv_iconst (v := (-1)) hx hb dX2_clear_11 (by decide) ?_
  refine lv_icmp_ne (tgt := 17) hx hb dX2_clear_12 (by decide) (fun q => absurd (by decide) q) (fun _ => ?_)
  refine lv_iconst (v := nI 0) hx hb dX2_clear_15 (by decide) ?_
  exact W.zret (v := nI (Bool.toNat false)) (ty := .boolean) hx hb hr (xb_nar false) (fun t ht hW => ⟨⟨_, (), rfl, rfl, by rw [ht]; exact hP, va_K.moved hW.alike hK, hD⟩, hS.F ht⟩) hS.2.2 dX2_clear_16
set_option maxHeartbeats 4000000 in
set_option maxRecDepth 100000 in
theorem c_X2_clear_n2 (l : Launch) (dC : Nat → ClassId) (dI : Nat → Nat → Nat) (cD cZ cI cL : ClassId) (h b0 b1 b2 b3 : Nat) (N : Nat → UInt64) (I T R : Nat → Int32) (nn : Nat) (th : Int32) (sz : Nat) (hnn : nn ≤ 6) (fb : Bool) (en : Nat) (bv : Int32) (hen : en < nn) (hbad : vB bv 5 = false) : Met l yX2_clear wsX2_clear ({ frames := 2, cells := 0, slots := 0, locals := 44 }) (va_Pc [.ref h, .int (nI (Bool.toNat (fb))), .int (nI (en)), .int (bv)] (fun U => U.heap.size = sz ∧ okM dC dI cD cZ cI cL h b0 b1 b2 b3 N I T R nn th U U.heap ∧ va_D (fun _ => True) (wM cD cZ cI cL h b0 b1 b2 b3 N I T R nn th))) (va_Qi (fun (r : Int32) (_ : Unit) => r = nI (Bool.toNat false)) (fun _ t => atM dC dI cD cZ cI cL (va_A (wM cD cZ cI cL h b0 b1 b2 b3 N I T R nn th) sz) h b0 b1 b2 b3 N I T R nn (nI 1) t) (va_A (wM cD cZ cI cL h b0 b1 b2 b3 N I T R nn th) sz)) 0 0 (va_A (wM cD cZ cI cL h b0 b1 b2 b3 N I T R nn th) sz) := by
  refine Met.ofW (cc := cX2_clear) (maxL := 6) (ret := (some .boolean)) (by decide) rfl ?_
  intro p e s m args below meth c s₁ B hml hv
  obtain ⟨rfl, hsz, hO, hD0⟩ := hv
  obtain ⟨hP, hK⟩ := id hO
  have hx := B.exec
  have hb := B.bytes
  have hr := B.returns
  have hts := atoms_spec (ws := wsX2_clear) B.pre
  have hown : s.vm.findClass RX2 = some m.cls := findClass_of_methodNamed B.named
  have hlocks := B.notSynchronized
  subst hsz
  have hD := hD0.self (sz := s.heap.size)
  generalize hAe : va_A (wM cD cZ cI cL h b0 b1 b2 b3 N I T R nn th) s.heap.size = A at hD ⊢
  have hA : ∀ q : Nat, s.heap.size ≤ q → A q := fun q h => by rw [← hAe]; exact Or.inr h
  have hS : va_S A s.heap s.heap [] := va_S.rf
  have hP : va_P (dC, dI) vwCl [(h, .inr (2, [.ref b0, .ref b1, .ref b2, .ref b3, .int (nI (nn)), .int (th)])), (b0, .inl (cD, 70, .inr (.inr (.inr (.inl (N)))))), (b1, .inl (cZ, 70, .inl (I))), (b2, .inl (cI, 60, .inl (T))), (b3, .inl (cI, 6, .inl (R)))] s.heap := hP
  have hD : va_D A [(h, .inr (2, [.ref b0, .ref b1, .ref b2, .ref b3, .int (nI (nn)), .int (th)])), (b0, .inl (cD, 70, .inr (.inr (.inr (.inl (N)))))), (b1, .inl (cZ, 70, .inl (I))), (b2, .inl (cI, 60, .inl (T))), (b3, .inl (cI, 6, .inl (R)))] := hD
  have hl := lv_entry ([.ref h, .int (nI (Bool.toNat (fb))), .int (nI (en)), .int (bv)]) (n := 6) (Nat.le_of_ble_eq_true rfl)
  rw [lg_entry_eq]
  generalize (lg_sl ([.ref h, .int (nI (Bool.toNat (fb))), .int (nI (en)), .int (bv)]) ++ List.replicate (6 - (lg_sl ([.ref h, .int (nI (Bool.toNat (fb))), .int (nI (en)), .int (bv)])).length) Slot.unset).toArray = ls at hl ⊢
  have hl : lv_has ls 6 [(0, .ref h), (1, .int (nI (Bool.toNat (fb)))), (2, .int (nI (en))), (3, .int (bv))] := hl
  refine lv_aload_n hx hb dX2_clear_0 rfl (lv_at hl 0 rfl) ?_
  refine lv_iload_n hx hb dX2_clear_1 rfl (lv_at hl 1 rfl) ?_
  refine lv_iload_n hx hb dX2_clear_2 rfl (lv_at hl 2 rfl) ?_
  refine lv_iload_n hx hb dX2_clear_3 rfl (lv_at hl 3 rfl) ?_
  have hPc := hP.sub (ws' := [(h, .inr (2, [.ref b0, .ref b1, .ref b2, .ref b3, .int (nI (nn)), .int (th)])), (b0, .inl (cD, 70, .inr (.inr (.inr (.inl (N)))))), (b1, .inl (cZ, 70, .inl (I))), (b2, .inl (cI, 60, .inl (T))), (b3, .inl (cI, 6, .inl (R)))]) [0, 1, 2, 3, 4] rfl
  have hDc := hD.sub (ws' := [(h, .inr (2, [.ref b0, .ref b1, .ref b2, .ref b3, .int (nI (nn)), .int (th)])), (b0, .inl (cD, 70, .inr (.inr (.inr (.inl (N)))))), (b1, .inl (cZ, 70, .inl (I))), (b2, .inl (cI, 60, .inl (T))), (b3, .inl (cI, 6, .inl (R)))]) [0, 1, 2, 3, 4] (by decide) rfl
  have hFc := va_free (wc := [(h, .inr (2, [.ref b0, .ref b1, .ref b2, .ref b3, .int (nI (nn)), .int (th)])), (b0, .inl (cD, 70, .inr (.inr (.inr (.inl (N)))))), (b1, .inl (cZ, 70, .inl (I))), (b2, .inl (cI, 60, .inl (T))), (b3, .inl (cI, 6, .inl (R)))]) hD hS hA [0, 1, 2, 3, 4] rfl
  refine va_calli (va_runV (As := [.int (nI (Bool.toNat (fb))), .int (nI (en)), .int (bv)]) (rest := []) ⟨hx, hb, hml, hown, hts⟩ (c_X2_spot_n2 l dC dI cD cZ cI cL h b0 b1 b2 b3 N I T R nn th s.heap.size (by omega) (fb) (en) (bv) (by omega) hbad) (cwV 3 hts gX2_clear_X2_spot rfl rfl rfl (by decide +kernel) ⟨Nat.le_of_ble_eq_true rfl, Nat.le_of_ble_eq_true rfl⟩) (okMW_pre ⟨hP, hK⟩ hD) rfl rfl hl.1 rfl (lv_room (Nat.le_of_ble_eq_true rfl)) dX2_clear_4 ⟨Nat.zero_le _, Nat.zero_le _⟩) hS (fun q _ h => hFc q h) hFc (fun r1 u1 t H1 locs ht hvm hw hB hz1 hk1 hS => ?_)
  obtain ⟨hP1, hK1, hD1⟩ := hB
  rw [ht] at hP1
  have hD := hD1.weaken (fun _ q _ h => hFc q.1 h)
  have hP := hP1
  generalize H1 = H at hP hS ⊢
  have hP : va_P (dC, dI) vwCl [(h, .inr (2, [.ref b0, .ref b1, .ref b2, .ref b3, .int (nI (nn)), .int (nI (1))])), (b0, .inl (cD, 70, .inr (.inr (.inr (.inl (N)))))), (b1, .inl (cZ, 70, .inl (I))), (b2, .inl (cI, 60, .inl (T))), (b3, .inl (cI, 6, .inl (R)))] H := hP
  have hD : va_D A [(h, .inr (2, [.ref b0, .ref b1, .ref b2, .ref b3, .int (nI (nn)), .int (nI (1))])), (b0, .inl (cD, 70, .inr (.inr (.inr (.inl (N)))))), (b1, .inl (cZ, 70, .inl (I))), (b2, .inl (cI, 60, .inl (T))), (b3, .inl (cI, 6, .inl (R)))] := hD
  subst hw
  refine lv_istore (lv' := [(4, .int (-1)), (0, .ref h), (1, .int (nI (Bool.toNat (fb)))), (2, .int (nI (en))), (3, .int (bv))]) hx hb dX2_clear_7 hl (by decide) rfl (fun ls hl => ?_)
  refine lv_iload hx hb dX2_clear_9 (lv_at hl 0 rfl) ?_
  refine lv_iconst (v := (-1)) hx hb dX2_clear_11 (by decide) ?_
  refine lv_icmp_ne (tgt := 17) hx hb dX2_clear_12 (by decide) (fun q => absurd (by decide) q) (fun _ => ?_)
  refine lv_iconst (v := nI 0) hx hb dX2_clear_15 (by decide) ?_
  exact W.zret (v := nI (Bool.toNat false)) (ty := .boolean) hx hb hr (xb_nar false) (fun t ht hW => ⟨⟨_, (), rfl, rfl, by rw [ht]; exact hP, va_K.moved hW.alike hK, hD⟩, hS.F ht⟩) hS.2.2 dX2_clear_16
set_option maxHeartbeats 4000000 in
set_option maxRecDepth 100000 in
theorem c_X2_clear_n2N (l : Launch) (dC : Nat → ClassId) (dI : Nat → Nat → Nat) (cD cZ cI cL : ClassId) (h b0 b1 b2 b3 : Nat) (N : Nat → UInt64) (I T R : Nat → Int32) (nn : Nat) (th : Int32) (sz : Nat) (hnn : nn ≤ 6) (fb : Bool) (bv : Int32) (hbad : vB bv 5 = false) : Met l yX2_clear wsX2_clear ({ frames := 2, cells := 0, slots := 0, locals := 44 }) (va_Pc [.ref h, .int (nI (Bool.toNat (fb))), .int (-1), .int (bv)] (fun U => U.heap.size = sz ∧ okM dC dI cD cZ cI cL h b0 b1 b2 b3 N I T R nn th U U.heap ∧ va_D (fun _ => True) (wM cD cZ cI cL h b0 b1 b2 b3 N I T R nn th))) (va_Qi (fun (r : Int32) (_ : Unit) => r = nI (Bool.toNat false)) (fun _ t => atM dC dI cD cZ cI cL (va_A (wM cD cZ cI cL h b0 b1 b2 b3 N I T R nn th) sz) h b0 b1 b2 b3 N I T R nn (nI 1) t) (va_A (wM cD cZ cI cL h b0 b1 b2 b3 N I T R nn th) sz)) 0 0 (va_A (wM cD cZ cI cL h b0 b1 b2 b3 N I T R nn th) sz) := by
  refine Met.ofW (cc := cX2_clear) (maxL := 6) (ret := (some .boolean)) (by decide) rfl ?_
  intro p e s m args below meth c s₁ B hml hv
  obtain ⟨rfl, hsz, hO, hD0⟩ := hv
  obtain ⟨hP, hK⟩ := id hO
  have hx := B.exec
  have hb := B.bytes
  have hr := B.returns
  have hts := atoms_spec (ws := wsX2_clear) B.pre
  have hown : s.vm.findClass RX2 = some m.cls := findClass_of_methodNamed B.named
  have hlocks := B.notSynchronized
  subst hsz
  have hD := hD0.self (sz := s.heap.size)
  generalize hAe : va_A (wM cD cZ cI cL h b0 b1 b2 b3 N I T R nn th) s.heap.size = A at hD ⊢
  have hA : ∀ q : Nat, s.heap.size ≤ q → A q := fun q h => by rw [← hAe]; exact Or.inr h
  have hS : va_S A s.heap s.heap [] := va_S.rf
  have hP : va_P (dC, dI) vwCl [(h, .inr (2, [.ref b0, .ref b1, .ref b2, .ref b3, .int (nI (nn)), .int (th)])), (b0, .inl (cD, 70, .inr (.inr (.inr (.inl (N)))))), (b1, .inl (cZ, 70, .inl (I))), (b2, .inl (cI, 60, .inl (T))), (b3, .inl (cI, 6, .inl (R)))] s.heap := hP
  have hD : va_D A [(h, .inr (2, [.ref b0, .ref b1, .ref b2, .ref b3, .int (nI (nn)), .int (th)])), (b0, .inl (cD, 70, .inr (.inr (.inr (.inl (N)))))), (b1, .inl (cZ, 70, .inl (I))), (b2, .inl (cI, 60, .inl (T))), (b3, .inl (cI, 6, .inl (R)))] := hD
  have hl := lv_entry ([.ref h, .int (nI (Bool.toNat (fb))), .int (-1), .int (bv)]) (n := 6) (Nat.le_of_ble_eq_true rfl)
  rw [lg_entry_eq]
  generalize (lg_sl ([.ref h, .int (nI (Bool.toNat (fb))), .int (-1), .int (bv)]) ++ List.replicate (6 - (lg_sl ([.ref h, .int (nI (Bool.toNat (fb))), .int (-1), .int (bv)])).length) Slot.unset).toArray = ls at hl ⊢
  have hl : lv_has ls 6 [(0, .ref h), (1, .int (nI (Bool.toNat (fb)))), (2, .int (-1)), (3, .int (bv))] := hl
  refine lv_aload_n hx hb dX2_clear_0 rfl (lv_at hl 0 rfl) ?_
  refine lv_iload_n hx hb dX2_clear_1 rfl (lv_at hl 1 rfl) ?_
  refine lv_iload_n hx hb dX2_clear_2 rfl (lv_at hl 2 rfl) ?_
  refine lv_iload_n hx hb dX2_clear_3 rfl (lv_at hl 3 rfl) ?_
  have hPc := hP.sub (ws' := [(h, .inr (2, [.ref b0, .ref b1, .ref b2, .ref b3, .int (nI (nn)), .int (th)])), (b0, .inl (cD, 70, .inr (.inr (.inr (.inl (N)))))), (b1, .inl (cZ, 70, .inl (I))), (b2, .inl (cI, 60, .inl (T))), (b3, .inl (cI, 6, .inl (R)))]) [0, 1, 2, 3, 4] rfl
  have hDc := hD.sub (ws' := [(h, .inr (2, [.ref b0, .ref b1, .ref b2, .ref b3, .int (nI (nn)), .int (th)])), (b0, .inl (cD, 70, .inr (.inr (.inr (.inl (N)))))), (b1, .inl (cZ, 70, .inl (I))), (b2, .inl (cI, 60, .inl (T))), (b3, .inl (cI, 6, .inl (R)))]) [0, 1, 2, 3, 4] (by decide) rfl
  have hFc := va_free (wc := [(h, .inr (2, [.ref b0, .ref b1, .ref b2, .ref b3, .int (nI (nn)), .int (th)])), (b0, .inl (cD, 70, .inr (.inr (.inr (.inl (N)))))), (b1, .inl (cZ, 70, .inl (I))), (b2, .inl (cI, 60, .inl (T))), (b3, .inl (cI, 6, .inl (R)))]) hD hS hA [0, 1, 2, 3, 4] rfl
  refine va_calli (va_runV (As := [.int (nI (Bool.toNat (fb))), .int (-1), .int (bv)]) (rest := []) ⟨hx, hb, hml, hown, hts⟩ (c_X2_spot_n2N l dC dI cD cZ cI cL h b0 b1 b2 b3 N I T R nn th s.heap.size (by omega) (fb) (bv) hbad) (cwV 3 hts gX2_clear_X2_spot rfl rfl rfl (by decide +kernel) ⟨Nat.le_of_ble_eq_true rfl, Nat.le_of_ble_eq_true rfl⟩) (okMW_pre ⟨hP, hK⟩ hD) rfl rfl hl.1 rfl (lv_room (Nat.le_of_ble_eq_true rfl)) dX2_clear_4 ⟨Nat.zero_le _, Nat.zero_le _⟩) hS (fun q _ h => hFc q h) hFc (fun r1 u1 t H1 locs ht hvm hw hB hz1 hk1 hS => ?_)
  obtain ⟨hP1, hK1, hD1⟩ := hB
  rw [ht] at hP1
  have hD := hD1.weaken (fun _ q _ h => hFc q.1 h)
  have hP := hP1
  generalize H1 = H at hP hS ⊢
  have hP : va_P (dC, dI) vwCl [(h, .inr (2, [.ref b0, .ref b1, .ref b2, .ref b3, .int (nI (nn)), .int (nI (1))])), (b0, .inl (cD, 70, .inr (.inr (.inr (.inl (N)))))), (b1, .inl (cZ, 70, .inl (I))), (b2, .inl (cI, 60, .inl (T))), (b3, .inl (cI, 6, .inl (R)))] H := hP
  have hD : va_D A [(h, .inr (2, [.ref b0, .ref b1, .ref b2, .ref b3, .int (nI (nn)), .int (nI (1))])), (b0, .inl (cD, 70, .inr (.inr (.inr (.inl (N)))))), (b1, .inl (cZ, 70, .inl (I))), (b2, .inl (cI, 60, .inl (T))), (b3, .inl (cI, 6, .inl (R)))] := hD
  subst hw
  refine lv_istore (lv' := [(4, .int (-1)), (0, .ref h), (1, .int (nI (Bool.toNat (fb)))), (2, .int (-1)), (3, .int (bv))]) hx hb dX2_clear_7 hl (by decide) rfl (fun ls hl => ?_)
  refine lv_iload hx hb dX2_clear_9 (lv_at hl 0 rfl) ?_
  refine lv_iconst (v := (-1)) hx hb dX2_clear_11 (by decide) ?_
  refine lv_icmp_ne (tgt := 17) hx hb dX2_clear_12 (by decide) (fun q => absurd (by decide) q) (fun _ => ?_)
  refine lv_iconst (v := nI 0) hx hb dX2_clear_15 (by decide) ?_
  exact W.zret (v := nI (Bool.toNat false)) (ty := .boolean) hx hb hr (xb_nar false) (fun t ht hW => ⟨⟨_, (), rfl, rfl, by rw [ht]; exact hP, va_K.moved hW.alike hK, hD⟩, hS.F ht⟩) hS.2.2 dX2_clear_16
set_option maxHeartbeats 4000000 in
set_option maxRecDepth 100000 in
theorem c_X2_holds_ok (l : Launch) (dC : Nat → ClassId) (dI : Nat → Nat → Nat) (cD cZ cI cL : ClassId) (h b0 b1 b2 b3 : Nat) (N : Nat → UInt64) (I T R : Nat → Int32) (nn : Nat) (th : Int32) (sz : Nat) (hnn : nn ≤ 6) (fb : Bool) (en bn kn : Nat) (hen : en < nn) (hbn : bn < 5) (hkn : kn < 24) (hq : ∀ x y, FP.dcmp (N x) (N y) ≠ none) : Met l yX2_holds wsX2_holds ({ frames := 2, cells := 0, slots := 0, locals := 52 }) (va_Pc [.ref h, .int (nI (Bool.toNat (fb))), .int (nI (en)), .int (nI (bn)), .int (nI (kn))] (fun U => U.heap.size = sz ∧ okM dC dI cD cZ cI cL h b0 b1 b2 b3 N I T R nn th U U.heap ∧ va_D (fun _ => True) (wM cD cZ cI cL h b0 b1 b2 b3 N I T R nn th))) (va_Qi (fun (r : Int32) (_ : Unit) => r = nI (Bool.toNat (so I N (mc fb en bn) (ml fb bn) kn))) (fun _ t => atM dC dI cD cZ cI cL (va_A (wM cD cZ cI cL h b0 b1 b2 b3 N I T R nn th) sz) h b0 b1 b2 b3 N I T R nn (nI 0) t) (va_A (wM cD cZ cI cL h b0 b1 b2 b3 N I T R nn th) sz)) 0 0 (va_A (wM cD cZ cI cL h b0 b1 b2 b3 N I T R nn th) sz) := by
  refine Met.ofW (cc := cX2_holds) (maxL := 5) (ret := (some .boolean)) (by decide) rfl ?_
  intro p e s m args below meth c s₁ B hml hv
  obtain ⟨rfl, hsz, hO, hD0⟩ := hv
  obtain ⟨hP, hK⟩ := id hO
  have hx := B.exec
  have hb := B.bytes
  have hr := B.returns
  have hts := atoms_spec (ws := wsX2_holds) B.pre
  have hown : s.vm.findClass RX2 = some m.cls := findClass_of_methodNamed B.named
  have hlocks := B.notSynchronized
  subst hsz
  have hD := hD0.self (sz := s.heap.size)
  generalize hAe : va_A (wM cD cZ cI cL h b0 b1 b2 b3 N I T R nn th) s.heap.size = A at hD ⊢
  have hA : ∀ q : Nat, s.heap.size ≤ q → A q := fun q h => by rw [← hAe]; exact Or.inr h
  have hS : va_S A s.heap s.heap [] := va_S.rf
  have hP : va_P (dC, dI) vwCl [(h, .inr (2, [.ref b0, .ref b1, .ref b2, .ref b3, .int (nI (nn)), .int (th)])), (b0, .inl (cD, 70, .inr (.inr (.inr (.inl (N)))))), (b1, .inl (cZ, 70, .inl (I))), (b2, .inl (cI, 60, .inl (T))), (b3, .inl (cI, 6, .inl (R)))] s.heap := hP
  have hD : va_D A [(h, .inr (2, [.ref b0, .ref b1, .ref b2, .ref b3, .int (nI (nn)), .int (th)])), (b0, .inl (cD, 70, .inr (.inr (.inr (.inl (N)))))), (b1, .inl (cZ, 70, .inl (I))), (b2, .inl (cI, 60, .inl (T))), (b3, .inl (cI, 6, .inl (R)))] := hD
  have hin2 : ∀ w ∈ wsX20, w ∈ wsX2_holds := (fun w h => List.mem_cons_of_mem _ (List.mem_append_right _ h))
  have fl24 := hts (.fieldLink RX2 24 "JuryTableModel" "thrown" "I") (by decide +kernel)
  have hl := lv_entry ([.ref h, .int (nI (Bool.toNat (fb))), .int (nI (en)), .int (nI (bn)), .int (nI (kn))]) (n := 5) (Nat.le_of_ble_eq_true rfl)
  rw [lg_entry_eq]
  generalize (lg_sl ([.ref h, .int (nI (Bool.toNat (fb))), .int (nI (en)), .int (nI (bn)), .int (nI (kn))]) ++ List.replicate (5 - (lg_sl ([.ref h, .int (nI (Bool.toNat (fb))), .int (nI (en)), .int (nI (bn)), .int (nI (kn))])).length) Slot.unset).toArray = ls at hl ⊢
  have hl : lv_has ls 5 [(0, .ref h), (1, .int (nI (Bool.toNat (fb)))), (2, .int (nI (en))), (3, .int (nI (bn))), (4, .int (nI (kn)))] := hl
  refine lv_aload_n hx hb dX2_holds_0 rfl (lv_at hl 0 rfl) ?_
  refine lv_iconst (v := nI 0) hx hb dX2_holds_1 (by decide) ?_
  refine va_put (D := (dC, dI)) (ci := 2) (v := .int (nI (0))) (ty := .int) (C := RX2) (T := TX2) (N := 6) hx hb hts hin2 tyX2 tyX2_ok nmX2 hown hK hP hD hS 0 rfl rfl 5 (by decide) fl24 (fun _ h9 => h9) rfl (by decide +kernel) rfl rfl (Nat.le_of_ble_eq_true rfl) dX2_holds_2 (fun H locs hP hD hS => ?_)
  have hP : va_P (dC, dI) vwCl [(h, .inr (2, [.ref b0, .ref b1, .ref b2, .ref b3, .int (nI (nn)), .int (nI (0))])), (b0, .inl (cD, 70, .inr (.inr (.inr (.inl (N)))))), (b1, .inl (cZ, 70, .inl (I))), (b2, .inl (cI, 60, .inl (T))), (b3, .inl (cI, 6, .inl (R)))] H := hP
  have hD : va_D A [(h, .inr (2, [.ref b0, .ref b1, .ref b2, .ref b3, .int (nI (nn)), .int (nI (0))])), (b0, .inl (cD, 70, .inr (.inr (.inr (.inl (N)))))), (b1, .inl (cZ, 70, .inl (I))), (b2, .inl (cI, 60, .inl (T))), (b3, .inl (cI, 6, .inl (R)))] := hD
  refine lv_aload_n hx hb dX2_holds_5 rfl (lv_at hl 0 rfl) ?_
  refine lv_iload_n hx hb dX2_holds_6 rfl (lv_at hl 2 rfl) ?_
  refine vp_callSi (va_Run.run (va_runV (As := [.int (nI (en))]) (rest := []) ⟨hx, hb, hml, hown, hts⟩ (c_X2_hasEntry_ok l dC dI cD cZ cI cL h b0 b1 b2 b3 N I T R nn (nI 0) (en) (by omega) (by omega)) (cwV 1 hts gX2_holds_X2_hasEntry rfl rfl rfl (by decide +kernel) ⟨Nat.le_of_ble_eq_true rfl, Nat.le_of_ble_eq_true rfl⟩) (okM_pre ⟨hP, hK⟩) rfl rfl hl.1 rfl (lv_room (Nat.le_of_ble_eq_true rfl)) dX2_holds_7 ⟨Nat.zero_le _, Nat.zero_le _⟩)) (fun r1 er1 => ?_)
  subst er1
  refine xb_if_eq (tgt := 46) hx hb dX2_holds_10 (by decide) (fun q => absurd q (by decide)) (fun _ => ?_)
  refine lv_aload_n hx hb dX2_holds_13 rfl (lv_at hl 0 rfl) ?_
  refine lv_iload_n hx hb dX2_holds_14 rfl (lv_at hl 3 rfl) ?_
  refine vp_callSi (va_Run.run (va_runV (As := [.int (nI (bn))]) (rest := []) ⟨hx, hb, hml, hown, hts⟩ (c_X2_hasSeat_ok l dC dI cD cZ cI cL h b0 b1 b2 b3 N I T R nn (nI 0) (bn) (by omega)) (cwV 1 hts gX2_holds_X2_hasSeat rfl rfl rfl (by decide +kernel) ⟨Nat.le_of_ble_eq_true rfl, Nat.le_of_ble_eq_true rfl⟩) (okM_pre ⟨hP, hK⟩) rfl rfl hl.1 rfl (lv_room (Nat.le_of_ble_eq_true rfl)) dX2_holds_15 ⟨Nat.zero_le _, Nat.zero_le _⟩)) (fun r2 er2 => ?_)
  subst er2
  refine xb_if_eq (tgt := 46) hx hb dX2_holds_18 (by decide) (fun q => absurd q (by decide)) (fun _ => ?_)
  refine lv_aload_n hx hb dX2_holds_21 rfl (lv_at hl 0 rfl) ?_
  refine lv_iload hx hb dX2_holds_22 (lv_at hl 4 rfl) ?_
  refine vp_callSi (va_Run.run (va_runV (As := [.int (nI (kn))]) (rest := []) ⟨hx, hb, hml, hown, hts⟩ (c_X2_isWay_ok l dC dI cD cZ cI cL h b0 b1 b2 b3 N I T R nn (nI 0) (kn) (by omega)) (cwV 1 hts gX2_holds_X2_isWay rfl rfl rfl (by decide +kernel) ⟨Nat.le_of_ble_eq_true rfl, Nat.le_of_ble_eq_true rfl⟩) (okM_pre ⟨hP, hK⟩) rfl rfl hl.1 rfl (lv_room (Nat.le_of_ble_eq_true rfl)) dX2_holds_24 ⟨Nat.zero_le _, Nat.zero_le _⟩)) (fun r3 er3 => ?_)
  subst er3
  refine xb_if_eq (tgt := 46) hx hb dX2_holds_27 (by decide) (fun q => absurd q (by decide)) (fun _ => ?_)
  refine lv_aload_n hx hb dX2_holds_30 rfl (lv_at hl 0 rfl) ?_
  refine lv_iload_n hx hb dX2_holds_31 rfl (lv_at hl 1 rfl) ?_
  refine lv_iload_n hx hb dX2_holds_32 rfl (lv_at hl 2 rfl) ?_
  refine lv_iload_n hx hb dX2_holds_33 rfl (lv_at hl 3 rfl) ?_
  refine lv_iload hx hb dX2_holds_34 (lv_at hl 4 rfl) ?_
  refine vp_callSi (va_Run.run (va_runV (As := [.int (nI (Bool.toNat (fb))), .int (nI (en)), .int (nI (bn)), .int (nI (kn))]) (rest := []) ⟨hx, hb, hml, hown, hts⟩ (c_X2_isSo l dC dI cD cZ cI cL h b0 b1 b2 b3 N I T R nn (nI 0) (fb) (en) (bn) (kn) (by omega) (by omega) (by omega) hq) (cwV 4 hts gX2_holds_X2_isSo rfl rfl rfl (by decide +kernel) ⟨Nat.le_of_ble_eq_true rfl, Nat.le_of_ble_eq_true rfl⟩) (okM_pre ⟨hP, hK⟩) rfl rfl hl.1 rfl (lv_room (Nat.le_of_ble_eq_true rfl)) dX2_holds_36 ⟨Nat.zero_le _, Nat.zero_le _⟩)) (fun r4 er4 => ?_)
  subst er4
  refine jb_if_eq hx hb dX2_holds_39 dX2_holds_42 dX2_holds_43 dX2_holds_46 ?_
  exact W.zret (v := nI (Bool.toNat (so I N (mc fb en bn) (ml fb bn) kn))) (ty := .boolean) hx hb hr (xb_nar _) (fun t ht hW => ⟨⟨_, (), rfl, rfl, by rw [ht]; exact hP, va_K.moved hW.alike hK, hD⟩, hS.F ht⟩) hS.2.2 dX2_holds_47
set_option maxHeartbeats 4000000 in
set_option maxRecDepth 100000 in
theorem c_X2_holds_n1 (l : Launch) (dC : Nat → ClassId) (dI : Nat → Nat → Nat) (cD cZ cI cL : ClassId) (h b0 b1 b2 b3 : Nat) (N : Nat → UInt64) (I T R : Nat → Int32) (nn : Nat) (th : Int32) (sz : Nat) (hnn : nn ≤ 6) (fb : Bool) (ev bv kv : Int32) (hbad : vB ev nn = false) : Met l yX2_holds wsX2_holds ({ frames := 2, cells := 0, slots := 0, locals := 42 }) (va_Pc [.ref h, .int (nI (Bool.toNat (fb))), .int (ev), .int (bv), .int (kv)] (fun U => U.heap.size = sz ∧ okM dC dI cD cZ cI cL h b0 b1 b2 b3 N I T R nn th U U.heap ∧ va_D (fun _ => True) (wM cD cZ cI cL h b0 b1 b2 b3 N I T R nn th))) (va_Qi (fun (r : Int32) (_ : Unit) => r = nI (Bool.toNat false)) (fun _ t => atM dC dI cD cZ cI cL (va_A (wM cD cZ cI cL h b0 b1 b2 b3 N I T R nn th) sz) h b0 b1 b2 b3 N I T R nn (nI 1) t) (va_A (wM cD cZ cI cL h b0 b1 b2 b3 N I T R nn th) sz)) 0 0 (va_A (wM cD cZ cI cL h b0 b1 b2 b3 N I T R nn th) sz) := by
  refine Met.ofW (cc := cX2_holds) (maxL := 5) (ret := (some .boolean)) (by decide) rfl ?_
  intro p e s m args below meth c s₁ B hml hv
  obtain ⟨rfl, hsz, hO, hD0⟩ := hv
  obtain ⟨hP, hK⟩ := id hO
  have hx := B.exec
  have hb := B.bytes
  have hr := B.returns
  have hts := atoms_spec (ws := wsX2_holds) B.pre
  have hown : s.vm.findClass RX2 = some m.cls := findClass_of_methodNamed B.named
  have hlocks := B.notSynchronized
  subst hsz
  have hD := hD0.self (sz := s.heap.size)
  generalize hAe : va_A (wM cD cZ cI cL h b0 b1 b2 b3 N I T R nn th) s.heap.size = A at hD ⊢
  have hA : ∀ q : Nat, s.heap.size ≤ q → A q := fun q h => by rw [← hAe]; exact Or.inr h
  have hS : va_S A s.heap s.heap [] := va_S.rf
  have hP : va_P (dC, dI) vwCl [(h, .inr (2, [.ref b0, .ref b1, .ref b2, .ref b3, .int (nI (nn)), .int (th)])), (b0, .inl (cD, 70, .inr (.inr (.inr (.inl (N)))))), (b1, .inl (cZ, 70, .inl (I))), (b2, .inl (cI, 60, .inl (T))), (b3, .inl (cI, 6, .inl (R)))] s.heap := hP
  have hD : va_D A [(h, .inr (2, [.ref b0, .ref b1, .ref b2, .ref b3, .int (nI (nn)), .int (th)])), (b0, .inl (cD, 70, .inr (.inr (.inr (.inl (N)))))), (b1, .inl (cZ, 70, .inl (I))), (b2, .inl (cI, 60, .inl (T))), (b3, .inl (cI, 6, .inl (R)))] := hD
  have hin2 : ∀ w ∈ wsX20, w ∈ wsX2_holds := (fun w h => List.mem_cons_of_mem _ (List.mem_append_right _ h))
  have fl24 := hts (.fieldLink RX2 24 "JuryTableModel" "thrown" "I") (by decide +kernel)
  have hl := lv_entry ([.ref h, .int (nI (Bool.toNat (fb))), .int (ev), .int (bv), .int (kv)]) (n := 5) (Nat.le_of_ble_eq_true rfl)
  rw [lg_entry_eq]
  generalize (lg_sl ([.ref h, .int (nI (Bool.toNat (fb))), .int (ev), .int (bv), .int (kv)]) ++ List.replicate (5 - (lg_sl ([.ref h, .int (nI (Bool.toNat (fb))), .int (ev), .int (bv), .int (kv)])).length) Slot.unset).toArray = ls at hl ⊢
  have hl : lv_has ls 5 [(0, .ref h), (1, .int (nI (Bool.toNat (fb)))), (2, .int (ev)), (3, .int (bv)), (4, .int (kv))] := hl
  refine lv_aload_n hx hb dX2_holds_0 rfl (lv_at hl 0 rfl) ?_
  refine lv_iconst (v := nI 0) hx hb dX2_holds_1 (by decide) ?_
  refine va_put (D := (dC, dI)) (ci := 2) (v := .int (nI (0))) (ty := .int) (C := RX2) (T := TX2) (N := 6) hx hb hts hin2 tyX2 tyX2_ok nmX2 hown hK hP hD hS 0 rfl rfl 5 (by decide) fl24 (fun _ h9 => h9) rfl (by decide +kernel) rfl rfl (Nat.le_of_ble_eq_true rfl) dX2_holds_2 (fun H locs hP hD hS => ?_)
  have hP : va_P (dC, dI) vwCl [(h, .inr (2, [.ref b0, .ref b1, .ref b2, .ref b3, .int (nI (nn)), .int (nI (0))])), (b0, .inl (cD, 70, .inr (.inr (.inr (.inl (N)))))), (b1, .inl (cZ, 70, .inl (I))), (b2, .inl (cI, 60, .inl (T))), (b3, .inl (cI, 6, .inl (R)))] H := hP
  have hD : va_D A [(h, .inr (2, [.ref b0, .ref b1, .ref b2, .ref b3, .int (nI (nn)), .int (nI (0))])), (b0, .inl (cD, 70, .inr (.inr (.inr (.inl (N)))))), (b1, .inl (cZ, 70, .inl (I))), (b2, .inl (cI, 60, .inl (T))), (b3, .inl (cI, 6, .inl (R)))] := hD
  refine lv_aload_n hx hb dX2_holds_5 rfl (lv_at hl 0 rfl) ?_
  refine lv_iload_n hx hb dX2_holds_6 rfl (lv_at hl 2 rfl) ?_
  have hPc := hP.sub (ws' := [(h, .inr (2, [.ref b0, .ref b1, .ref b2, .ref b3, .int (nI (nn)), .int (nI (0))])), (b0, .inl (cD, 70, .inr (.inr (.inr (.inl (N)))))), (b1, .inl (cZ, 70, .inl (I))), (b2, .inl (cI, 60, .inl (T))), (b3, .inl (cI, 6, .inl (R)))]) [0, 1, 2, 3, 4] rfl
  have hDc := hD.sub (ws' := [(h, .inr (2, [.ref b0, .ref b1, .ref b2, .ref b3, .int (nI (nn)), .int (nI (0))])), (b0, .inl (cD, 70, .inr (.inr (.inr (.inl (N)))))), (b1, .inl (cZ, 70, .inl (I))), (b2, .inl (cI, 60, .inl (T))), (b3, .inl (cI, 6, .inl (R)))]) [0, 1, 2, 3, 4] (by decide) rfl
  have hFc := va_free (wc := [(h, .inr (2, [.ref b0, .ref b1, .ref b2, .ref b3, .int (nI (nn)), .int (nI (0))])), (b0, .inl (cD, 70, .inr (.inr (.inr (.inl (N)))))), (b1, .inl (cZ, 70, .inl (I))), (b2, .inl (cI, 60, .inl (T))), (b3, .inl (cI, 6, .inl (R)))]) hD hS hA [0, 1, 2, 3, 4] rfl
  refine va_calli (va_runV (As := [.int (ev)]) (rest := []) ⟨hx, hb, hml, hown, hts⟩ (c_X2_hasEntry_no l dC dI cD cZ cI cL h b0 b1 b2 b3 N I T R nn (nI 0) H.size (ev) hbad) (cwV 1 hts gX2_holds_X2_hasEntry rfl rfl rfl (by decide +kernel) ⟨Nat.le_of_ble_eq_true rfl, Nat.le_of_ble_eq_true rfl⟩) (okMW_pre ⟨hP, hK⟩ hD) rfl rfl hl.1 rfl (lv_room (Nat.le_of_ble_eq_true rfl)) dX2_holds_7 ⟨Nat.zero_le _, Nat.zero_le _⟩) hS (fun q _ h => hFc q h) hFc (fun r1 u1 t H1 locs ht hvm hw hB hz1 hk1 hS => ?_)
  obtain ⟨hP1, hK1, hD1⟩ := hB
  rw [ht] at hP1
  have hD := hD1.weaken (fun _ q _ h => hFc q.1 h)
  have hP := hP1
  generalize H1 = H at hP hS ⊢
  have hP : va_P (dC, dI) vwCl [(h, .inr (2, [.ref b0, .ref b1, .ref b2, .ref b3, .int (nI (nn)), .int (nI (1))])), (b0, .inl (cD, 70, .inr (.inr (.inr (.inl (N)))))), (b1, .inl (cZ, 70, .inl (I))), (b2, .inl (cI, 60, .inl (T))), (b3, .inl (cI, 6, .inl (R)))] H := hP
  have hD : va_D A [(h, .inr (2, [.ref b0, .ref b1, .ref b2, .ref b3, .int (nI (nn)), .int (nI (1))])), (b0, .inl (cD, 70, .inr (.inr (.inr (.inl (N)))))), (b1, .inl (cZ, 70, .inl (I))), (b2, .inl (cI, 60, .inl (T))), (b3, .inl (cI, 6, .inl (R)))] := hD
  subst hw
  refine xb_if_eq (tgt := 46) hx hb dX2_holds_10 (by decide) (fun _ => ?_) (fun q => absurd q (by decide))
  refine lv_iconst (v := nI 0) hx hb dX2_holds_46 (by decide) ?_
  exact W.zret (v := nI (Bool.toNat false)) (ty := .boolean) hx hb hr (xb_nar false) (fun t ht hW => ⟨⟨_, (), rfl, rfl, by rw [ht]; exact hP, va_K.moved hW.alike hK, hD⟩, hS.F ht⟩) hS.2.2 dX2_holds_47
set_option maxHeartbeats 4000000 in
set_option maxRecDepth 100000 in
theorem c_X2_holds_n2 (l : Launch) (dC : Nat → ClassId) (dI : Nat → Nat → Nat) (cD cZ cI cL : ClassId) (h b0 b1 b2 b3 : Nat) (N : Nat → UInt64) (I T R : Nat → Int32) (nn : Nat) (th : Int32) (sz : Nat) (hnn : nn ≤ 6) (fb : Bool) (en : Nat) (bv kv : Int32) (hen : en < nn) (hbad : vB bv 5 = false) : Met l yX2_holds wsX2_holds ({ frames := 2, cells := 0, slots := 0, locals := 42 }) (va_Pc [.ref h, .int (nI (Bool.toNat (fb))), .int (nI (en)), .int (bv), .int (kv)] (fun U => U.heap.size = sz ∧ okM dC dI cD cZ cI cL h b0 b1 b2 b3 N I T R nn th U U.heap ∧ va_D (fun _ => True) (wM cD cZ cI cL h b0 b1 b2 b3 N I T R nn th))) (va_Qi (fun (r : Int32) (_ : Unit) => r = nI (Bool.toNat false)) (fun _ t => atM dC dI cD cZ cI cL (va_A (wM cD cZ cI cL h b0 b1 b2 b3 N I T R nn th) sz) h b0 b1 b2 b3 N I T R nn (nI 1) t) (va_A (wM cD cZ cI cL h b0 b1 b2 b3 N I T R nn th) sz)) 0 0 (va_A (wM cD cZ cI cL h b0 b1 b2 b3 N I T R nn th) sz) := by
  refine Met.ofW (cc := cX2_holds) (maxL := 5) (ret := (some .boolean)) (by decide) rfl ?_
  intro p e s m args below meth c s₁ B hml hv
  obtain ⟨rfl, hsz, hO, hD0⟩ := hv
  obtain ⟨hP, hK⟩ := id hO
  have hx := B.exec
  have hb := B.bytes
  have hr := B.returns
  have hts := atoms_spec (ws := wsX2_holds) B.pre
  have hown : s.vm.findClass RX2 = some m.cls := findClass_of_methodNamed B.named
  have hlocks := B.notSynchronized
  subst hsz
  have hD := hD0.self (sz := s.heap.size)
  generalize hAe : va_A (wM cD cZ cI cL h b0 b1 b2 b3 N I T R nn th) s.heap.size = A at hD ⊢
  have hA : ∀ q : Nat, s.heap.size ≤ q → A q := fun q h => by rw [← hAe]; exact Or.inr h
  have hS : va_S A s.heap s.heap [] := va_S.rf
  have hP : va_P (dC, dI) vwCl [(h, .inr (2, [.ref b0, .ref b1, .ref b2, .ref b3, .int (nI (nn)), .int (th)])), (b0, .inl (cD, 70, .inr (.inr (.inr (.inl (N)))))), (b1, .inl (cZ, 70, .inl (I))), (b2, .inl (cI, 60, .inl (T))), (b3, .inl (cI, 6, .inl (R)))] s.heap := hP
  have hD : va_D A [(h, .inr (2, [.ref b0, .ref b1, .ref b2, .ref b3, .int (nI (nn)), .int (th)])), (b0, .inl (cD, 70, .inr (.inr (.inr (.inl (N)))))), (b1, .inl (cZ, 70, .inl (I))), (b2, .inl (cI, 60, .inl (T))), (b3, .inl (cI, 6, .inl (R)))] := hD
  have hin2 : ∀ w ∈ wsX20, w ∈ wsX2_holds := (fun w h => List.mem_cons_of_mem _ (List.mem_append_right _ h))
  have fl24 := hts (.fieldLink RX2 24 "JuryTableModel" "thrown" "I") (by decide +kernel)
  have hl := lv_entry ([.ref h, .int (nI (Bool.toNat (fb))), .int (nI (en)), .int (bv), .int (kv)]) (n := 5) (Nat.le_of_ble_eq_true rfl)
  rw [lg_entry_eq]
  generalize (lg_sl ([.ref h, .int (nI (Bool.toNat (fb))), .int (nI (en)), .int (bv), .int (kv)]) ++ List.replicate (5 - (lg_sl ([.ref h, .int (nI (Bool.toNat (fb))), .int (nI (en)), .int (bv), .int (kv)])).length) Slot.unset).toArray = ls at hl ⊢
  have hl : lv_has ls 5 [(0, .ref h), (1, .int (nI (Bool.toNat (fb)))), (2, .int (nI (en))), (3, .int (bv)), (4, .int (kv))] := hl
  refine lv_aload_n hx hb dX2_holds_0 rfl (lv_at hl 0 rfl) ?_
  refine lv_iconst (v := nI 0) hx hb dX2_holds_1 (by decide) ?_
  refine va_put (D := (dC, dI)) (ci := 2) (v := .int (nI (0))) (ty := .int) (C := RX2) (T := TX2) (N := 6) hx hb hts hin2 tyX2 tyX2_ok nmX2 hown hK hP hD hS 0 rfl rfl 5 (by decide) fl24 (fun _ h9 => h9) rfl (by decide +kernel) rfl rfl (Nat.le_of_ble_eq_true rfl) dX2_holds_2 (fun H locs hP hD hS => ?_)
  have hP : va_P (dC, dI) vwCl [(h, .inr (2, [.ref b0, .ref b1, .ref b2, .ref b3, .int (nI (nn)), .int (nI (0))])), (b0, .inl (cD, 70, .inr (.inr (.inr (.inl (N)))))), (b1, .inl (cZ, 70, .inl (I))), (b2, .inl (cI, 60, .inl (T))), (b3, .inl (cI, 6, .inl (R)))] H := hP
  have hD : va_D A [(h, .inr (2, [.ref b0, .ref b1, .ref b2, .ref b3, .int (nI (nn)), .int (nI (0))])), (b0, .inl (cD, 70, .inr (.inr (.inr (.inl (N)))))), (b1, .inl (cZ, 70, .inl (I))), (b2, .inl (cI, 60, .inl (T))), (b3, .inl (cI, 6, .inl (R)))] := hD
  refine lv_aload_n hx hb dX2_holds_5 rfl (lv_at hl 0 rfl) ?_
  refine lv_iload_n hx hb dX2_holds_6 rfl (lv_at hl 2 rfl) ?_
  refine vp_callSi (va_Run.run (va_runV (As := [.int (nI (en))]) (rest := []) ⟨hx, hb, hml, hown, hts⟩ (c_X2_hasEntry_ok l dC dI cD cZ cI cL h b0 b1 b2 b3 N I T R nn (nI 0) (en) (by omega) (by omega)) (cwV 1 hts gX2_holds_X2_hasEntry rfl rfl rfl (by decide +kernel) ⟨Nat.le_of_ble_eq_true rfl, Nat.le_of_ble_eq_true rfl⟩) (okM_pre ⟨hP, hK⟩) rfl rfl hl.1 rfl (lv_room (Nat.le_of_ble_eq_true rfl)) dX2_holds_7 ⟨Nat.zero_le _, Nat.zero_le _⟩)) (fun r1 er1 => ?_)
  subst er1
  refine xb_if_eq (tgt := 46) hx hb dX2_holds_10 (by decide) (fun q => absurd q (by decide)) (fun _ => ?_)
  refine lv_aload_n hx hb dX2_holds_13 rfl (lv_at hl 0 rfl) ?_
  refine lv_iload_n hx hb dX2_holds_14 rfl (lv_at hl 3 rfl) ?_
  have hPc := hP.sub (ws' := [(h, .inr (2, [.ref b0, .ref b1, .ref b2, .ref b3, .int (nI (nn)), .int (nI (0))])), (b0, .inl (cD, 70, .inr (.inr (.inr (.inl (N)))))), (b1, .inl (cZ, 70, .inl (I))), (b2, .inl (cI, 60, .inl (T))), (b3, .inl (cI, 6, .inl (R)))]) [0, 1, 2, 3, 4] rfl
  have hDc := hD.sub (ws' := [(h, .inr (2, [.ref b0, .ref b1, .ref b2, .ref b3, .int (nI (nn)), .int (nI (0))])), (b0, .inl (cD, 70, .inr (.inr (.inr (.inl (N)))))), (b1, .inl (cZ, 70, .inl (I))), (b2, .inl (cI, 60, .inl (T))), (b3, .inl (cI, 6, .inl (R)))]) [0, 1, 2, 3, 4] (by decide) rfl
  have hFc := va_free (wc := [(h, .inr (2, [.ref b0, .ref b1, .ref b2, .ref b3, .int (nI (nn)), .int (nI (0))])), (b0, .inl (cD, 70, .inr (.inr (.inr (.inl (N)))))), (b1, .inl (cZ, 70, .inl (I))), (b2, .inl (cI, 60, .inl (T))), (b3, .inl (cI, 6, .inl (R)))]) hD hS hA [0, 1, 2, 3, 4] rfl
  refine va_calli (va_runV (As := [.int (bv)]) (rest := []) ⟨hx, hb, hml, hown, hts⟩ (c_X2_hasSeat_no l dC dI cD cZ cI cL h b0 b1 b2 b3 N I T R nn (nI 0) H.size (bv) hbad) (cwV 1 hts gX2_holds_X2_hasSeat rfl rfl rfl (by decide +kernel) ⟨Nat.le_of_ble_eq_true rfl, Nat.le_of_ble_eq_true rfl⟩) (okMW_pre ⟨hP, hK⟩ hD) rfl rfl hl.1 rfl (lv_room (Nat.le_of_ble_eq_true rfl)) dX2_holds_15 ⟨Nat.zero_le _, Nat.zero_le _⟩) hS (fun q _ h => hFc q h) hFc (fun r2 u2 t H1 locs ht hvm hw hB hz1 hk1 hS => ?_)
  obtain ⟨hP1, hK1, hD1⟩ := hB
  rw [ht] at hP1
  have hD := hD1.weaken (fun _ q _ h => hFc q.1 h)
  have hP := hP1
  generalize H1 = H at hP hS ⊢
  have hP : va_P (dC, dI) vwCl [(h, .inr (2, [.ref b0, .ref b1, .ref b2, .ref b3, .int (nI (nn)), .int (nI (1))])), (b0, .inl (cD, 70, .inr (.inr (.inr (.inl (N)))))), (b1, .inl (cZ, 70, .inl (I))), (b2, .inl (cI, 60, .inl (T))), (b3, .inl (cI, 6, .inl (R)))] H := hP
  have hD : va_D A [(h, .inr (2, [.ref b0, .ref b1, .ref b2, .ref b3, .int (nI (nn)), .int (nI (1))])), (b0, .inl (cD, 70, .inr (.inr (.inr (.inl (N)))))), (b1, .inl (cZ, 70, .inl (I))), (b2, .inl (cI, 60, .inl (T))), (b3, .inl (cI, 6, .inl (R)))] := hD
  subst hw
  refine xb_if_eq (tgt := 46) hx hb dX2_holds_18 (by decide) (fun _ => ?_) (fun q => absurd q (by decide))
  refine lv_iconst (v := nI 0) hx hb dX2_holds_46 (by decide) ?_
  exact W.zret (v := nI (Bool.toNat false)) (ty := .boolean) hx hb hr (xb_nar false) (fun t ht hW => ⟨⟨_, (), rfl, rfl, by rw [ht]; exact hP, va_K.moved hW.alike hK, hD⟩, hS.F ht⟩) hS.2.2 dX2_holds_47
set_option maxHeartbeats 4000000 in
set_option maxRecDepth 100000 in
theorem c_X2_holds_n3 (l : Launch) (dC : Nat → ClassId) (dI : Nat → Nat → Nat) (cD cZ cI cL : ClassId) (h b0 b1 b2 b3 : Nat) (N : Nat → UInt64) (I T R : Nat → Int32) (nn : Nat) (th : Int32) (sz : Nat) (hnn : nn ≤ 6) (fb : Bool) (en bn : Nat) (kv : Int32) (hen : en < nn) (hbn : bn < 5) (hbad : vB kv 24 = false) : Met l yX2_holds wsX2_holds ({ frames := 2, cells := 0, slots := 0, locals := 42 }) (va_Pc [.ref h, .int (nI (Bool.toNat (fb))), .int (nI (en)), .int (nI (bn)), .int (kv)] (fun U => U.heap.size = sz ∧ okM dC dI cD cZ cI cL h b0 b1 b2 b3 N I T R nn th U U.heap ∧ va_D (fun _ => True) (wM cD cZ cI cL h b0 b1 b2 b3 N I T R nn th))) (va_Qi (fun (r : Int32) (_ : Unit) => r = nI (Bool.toNat false)) (fun _ t => atM dC dI cD cZ cI cL (va_A (wM cD cZ cI cL h b0 b1 b2 b3 N I T R nn th) sz) h b0 b1 b2 b3 N I T R nn (nI 2) t) (va_A (wM cD cZ cI cL h b0 b1 b2 b3 N I T R nn th) sz)) 0 0 (va_A (wM cD cZ cI cL h b0 b1 b2 b3 N I T R nn th) sz) := by
  refine Met.ofW (cc := cX2_holds) (maxL := 5) (ret := (some .boolean)) (by decide) rfl ?_
  intro p e s m args below meth c s₁ B hml hv
  obtain ⟨rfl, hsz, hO, hD0⟩ := hv
  obtain ⟨hP, hK⟩ := id hO
  have hx := B.exec
  have hb := B.bytes
  have hr := B.returns
  have hts := atoms_spec (ws := wsX2_holds) B.pre
  have hown : s.vm.findClass RX2 = some m.cls := findClass_of_methodNamed B.named
  have hlocks := B.notSynchronized
  subst hsz
  have hD := hD0.self (sz := s.heap.size)
  generalize hAe : va_A (wM cD cZ cI cL h b0 b1 b2 b3 N I T R nn th) s.heap.size = A at hD ⊢
  have hA : ∀ q : Nat, s.heap.size ≤ q → A q := fun q h => by rw [← hAe]; exact Or.inr h
  have hS : va_S A s.heap s.heap [] := va_S.rf
  have hP : va_P (dC, dI) vwCl [(h, .inr (2, [.ref b0, .ref b1, .ref b2, .ref b3, .int (nI (nn)), .int (th)])), (b0, .inl (cD, 70, .inr (.inr (.inr (.inl (N)))))), (b1, .inl (cZ, 70, .inl (I))), (b2, .inl (cI, 60, .inl (T))), (b3, .inl (cI, 6, .inl (R)))] s.heap := hP
  have hD : va_D A [(h, .inr (2, [.ref b0, .ref b1, .ref b2, .ref b3, .int (nI (nn)), .int (th)])), (b0, .inl (cD, 70, .inr (.inr (.inr (.inl (N)))))), (b1, .inl (cZ, 70, .inl (I))), (b2, .inl (cI, 60, .inl (T))), (b3, .inl (cI, 6, .inl (R)))] := hD
  have hin2 : ∀ w ∈ wsX20, w ∈ wsX2_holds := (fun w h => List.mem_cons_of_mem _ (List.mem_append_right _ h))
  have fl24 := hts (.fieldLink RX2 24 "JuryTableModel" "thrown" "I") (by decide +kernel)
  have hl := lv_entry ([.ref h, .int (nI (Bool.toNat (fb))), .int (nI (en)), .int (nI (bn)), .int (kv)]) (n := 5) (Nat.le_of_ble_eq_true rfl)
  rw [lg_entry_eq]
  generalize (lg_sl ([.ref h, .int (nI (Bool.toNat (fb))), .int (nI (en)), .int (nI (bn)), .int (kv)]) ++ List.replicate (5 - (lg_sl ([.ref h, .int (nI (Bool.toNat (fb))), .int (nI (en)), .int (nI (bn)), .int (kv)])).length) Slot.unset).toArray = ls at hl ⊢
  have hl : lv_has ls 5 [(0, .ref h), (1, .int (nI (Bool.toNat (fb)))), (2, .int (nI (en))), (3, .int (nI (bn))), (4, .int (kv))] := hl
  refine lv_aload_n hx hb dX2_holds_0 rfl (lv_at hl 0 rfl) ?_
  refine lv_iconst (v := nI 0) hx hb dX2_holds_1 (by decide) ?_
  refine va_put (D := (dC, dI)) (ci := 2) (v := .int (nI (0))) (ty := .int) (C := RX2) (T := TX2) (N := 6) hx hb hts hin2 tyX2 tyX2_ok nmX2 hown hK hP hD hS 0 rfl rfl 5 (by decide) fl24 (fun _ h9 => h9) rfl (by decide +kernel) rfl rfl (Nat.le_of_ble_eq_true rfl) dX2_holds_2 (fun H locs hP hD hS => ?_)
  have hP : va_P (dC, dI) vwCl [(h, .inr (2, [.ref b0, .ref b1, .ref b2, .ref b3, .int (nI (nn)), .int (nI (0))])), (b0, .inl (cD, 70, .inr (.inr (.inr (.inl (N)))))), (b1, .inl (cZ, 70, .inl (I))), (b2, .inl (cI, 60, .inl (T))), (b3, .inl (cI, 6, .inl (R)))] H := hP
  have hD : va_D A [(h, .inr (2, [.ref b0, .ref b1, .ref b2, .ref b3, .int (nI (nn)), .int (nI (0))])), (b0, .inl (cD, 70, .inr (.inr (.inr (.inl (N)))))), (b1, .inl (cZ, 70, .inl (I))), (b2, .inl (cI, 60, .inl (T))), (b3, .inl (cI, 6, .inl (R)))] := hD
  refine lv_aload_n hx hb dX2_holds_5 rfl (lv_at hl 0 rfl) ?_
  refine lv_iload_n hx hb dX2_holds_6 rfl (lv_at hl 2 rfl) ?_
  refine vp_callSi (va_Run.run (va_runV (As := [.int (nI (en))]) (rest := []) ⟨hx, hb, hml, hown, hts⟩ (c_X2_hasEntry_ok l dC dI cD cZ cI cL h b0 b1 b2 b3 N I T R nn (nI 0) (en) (by omega) (by omega)) (cwV 1 hts gX2_holds_X2_hasEntry rfl rfl rfl (by decide +kernel) ⟨Nat.le_of_ble_eq_true rfl, Nat.le_of_ble_eq_true rfl⟩) (okM_pre ⟨hP, hK⟩) rfl rfl hl.1 rfl (lv_room (Nat.le_of_ble_eq_true rfl)) dX2_holds_7 ⟨Nat.zero_le _, Nat.zero_le _⟩)) (fun r1 er1 => ?_)
  subst er1
  refine xb_if_eq (tgt := 46) hx hb dX2_holds_10 (by decide) (fun q => absurd q (by decide)) (fun _ => ?_)
  refine lv_aload_n hx hb dX2_holds_13 rfl (lv_at hl 0 rfl) ?_
  refine lv_iload_n hx hb dX2_holds_14 rfl (lv_at hl 3 rfl) ?_
  refine vp_callSi (va_Run.run (va_runV (As := [.int (nI (bn))]) (rest := []) ⟨hx, hb, hml, hown, hts⟩ (c_X2_hasSeat_ok l dC dI cD cZ cI cL h b0 b1 b2 b3 N I T R nn (nI 0) (bn) (by omega)) (cwV 1 hts gX2_holds_X2_hasSeat rfl rfl rfl (by decide +kernel) ⟨Nat.le_of_ble_eq_true rfl, Nat.le_of_ble_eq_true rfl⟩) (okM_pre ⟨hP, hK⟩) rfl rfl hl.1 rfl (lv_room (Nat.le_of_ble_eq_true rfl)) dX2_holds_15 ⟨Nat.zero_le _, Nat.zero_le _⟩)) (fun r2 er2 => ?_)
  subst er2
  refine xb_if_eq (tgt := 46) hx hb dX2_holds_18 (by decide) (fun q => absurd q (by decide)) (fun _ => ?_)
  refine lv_aload_n hx hb dX2_holds_21 rfl (lv_at hl 0 rfl) ?_
  refine lv_iload hx hb dX2_holds_22 (lv_at hl 4 rfl) ?_
  have hPc := hP.sub (ws' := [(h, .inr (2, [.ref b0, .ref b1, .ref b2, .ref b3, .int (nI (nn)), .int (nI (0))])), (b0, .inl (cD, 70, .inr (.inr (.inr (.inl (N)))))), (b1, .inl (cZ, 70, .inl (I))), (b2, .inl (cI, 60, .inl (T))), (b3, .inl (cI, 6, .inl (R)))]) [0, 1, 2, 3, 4] rfl
  have hDc := hD.sub (ws' := [(h, .inr (2, [.ref b0, .ref b1, .ref b2, .ref b3, .int (nI (nn)), .int (nI (0))])), (b0, .inl (cD, 70, .inr (.inr (.inr (.inl (N)))))), (b1, .inl (cZ, 70, .inl (I))), (b2, .inl (cI, 60, .inl (T))), (b3, .inl (cI, 6, .inl (R)))]) [0, 1, 2, 3, 4] (by decide) rfl
  have hFc := va_free (wc := [(h, .inr (2, [.ref b0, .ref b1, .ref b2, .ref b3, .int (nI (nn)), .int (nI (0))])), (b0, .inl (cD, 70, .inr (.inr (.inr (.inl (N)))))), (b1, .inl (cZ, 70, .inl (I))), (b2, .inl (cI, 60, .inl (T))), (b3, .inl (cI, 6, .inl (R)))]) hD hS hA [0, 1, 2, 3, 4] rfl
  refine va_calli (va_runV (As := [.int (kv)]) (rest := []) ⟨hx, hb, hml, hown, hts⟩ (c_X2_isWay_no l dC dI cD cZ cI cL h b0 b1 b2 b3 N I T R nn (nI 0) H.size (kv) hbad) (cwV 1 hts gX2_holds_X2_isWay rfl rfl rfl (by decide +kernel) ⟨Nat.le_of_ble_eq_true rfl, Nat.le_of_ble_eq_true rfl⟩) (okMW_pre ⟨hP, hK⟩ hD) rfl rfl hl.1 rfl (lv_room (Nat.le_of_ble_eq_true rfl)) dX2_holds_24 ⟨Nat.zero_le _, Nat.zero_le _⟩) hS (fun q _ h => hFc q h) hFc (fun r3 u3 t H1 locs ht hvm hw hB hz1 hk1 hS => ?_)
  obtain ⟨hP1, hK1, hD1⟩ := hB
  rw [ht] at hP1
  have hD := hD1.weaken (fun _ q _ h => hFc q.1 h)
  have hP := hP1
  generalize H1 = H at hP hS ⊢
  have hP : va_P (dC, dI) vwCl [(h, .inr (2, [.ref b0, .ref b1, .ref b2, .ref b3, .int (nI (nn)), .int (nI (2))])), (b0, .inl (cD, 70, .inr (.inr (.inr (.inl (N)))))), (b1, .inl (cZ, 70, .inl (I))), (b2, .inl (cI, 60, .inl (T))), (b3, .inl (cI, 6, .inl (R)))] H := hP
  have hD : va_D A [(h, .inr (2, [.ref b0, .ref b1, .ref b2, .ref b3, .int (nI (nn)), .int (nI (2))])), (b0, .inl (cD, 70, .inr (.inr (.inr (.inl (N)))))), (b1, .inl (cZ, 70, .inl (I))), (b2, .inl (cI, 60, .inl (T))), (b3, .inl (cI, 6, .inl (R)))] := hD
  subst hw
  refine xb_if_eq (tgt := 46) hx hb dX2_holds_27 (by decide) (fun _ => ?_) (fun q => absurd q (by decide))
  refine lv_iconst (v := nI 0) hx hb dX2_holds_46 (by decide) ?_
  exact W.zret (v := nI (Bool.toNat false)) (ty := .boolean) hx hb hr (xb_nar false) (fun t ht hW => ⟨⟨_, (), rfl, rfl, by rw [ht]; exact hP, va_K.moved hW.alike hK, hD⟩, hS.F ht⟩) hS.2.2 dX2_holds_47
set_option maxHeartbeats 4000000 in
set_option maxRecDepth 100000 in
theorem c_X2_keep_ok (l : Launch) (dC : Nat → ClassId) (dI : Nat → Nat → Nat) (cD cZ cI cL : ClassId) (h b0 b1 b2 b3 : Nat) (N : Nat → UInt64) (I T R : Nat → Int32) (nn : Nat) (th : Int32) (sz : Nat) (hnn : nn ≤ 6) (fb : Bool) (en bn kn : Nat) (hen : en < nn) (hbn : bn < 5) (hkn : kn < 24) (hq : ∀ x y, FP.dcmp (N x) (N y) ≠ none) : Met l yX2_keep wsX2_keep ({ frames := 2, cells := 0, slots := 0, locals := 52 }) (va_Pc [.ref h, .int (nI (Bool.toNat (fb))), .int (nI (en)), .int (nI (bn)), .int (nI (kn))] (fun U => U.heap.size = sz ∧ okM dC dI cD cZ cI cL h b0 b1 b2 b3 N I T R nn th U U.heap ∧ va_D (fun _ => True) (wM cD cZ cI cL h b0 b1 b2 b3 N I T R nn th))) (va_Qi (fun (r : Int32) (_ : Unit) => r = nI (Bool.toNat (so I N (mc fb en bn) (ml fb bn) kn))) (fun _ t => atM dC dI cD cZ cI cL (va_A (wM cD cZ cI cL h b0 b1 b2 b3 N I T R nn th) sz) h b0 b1 b2 b3 N I (upd T (mc fb en bn) (nI (Bool.toNat (so I N (mc fb en bn) (ml fb bn) kn)))) R nn (nI 0) t) (va_A (wM cD cZ cI cL h b0 b1 b2 b3 N I T R nn th) sz)) 0 0 (va_A (wM cD cZ cI cL h b0 b1 b2 b3 N I T R nn th) sz) := by
  refine Met.ofW (cc := cX2_keep) (maxL := 6) (ret := (some .boolean)) (by decide) rfl ?_
  intro p e s m args below meth c s₁ B hml hv
  obtain ⟨rfl, hsz, hO, hD0⟩ := hv
  obtain ⟨hP, hK⟩ := id hO
  have hx := B.exec
  have hb := B.bytes
  have hr := B.returns
  have hts := atoms_spec (ws := wsX2_keep) B.pre
  have hown : s.vm.findClass RX2 = some m.cls := findClass_of_methodNamed B.named
  have hlocks := B.notSynchronized
  subst hsz
  have hD := hD0.self (sz := s.heap.size)
  generalize hAe : va_A (wM cD cZ cI cL h b0 b1 b2 b3 N I T R nn th) s.heap.size = A at hD ⊢
  have hA : ∀ q : Nat, s.heap.size ≤ q → A q := fun q h => by rw [← hAe]; exact Or.inr h
  have hS : va_S A s.heap s.heap [] := va_S.rf
  have hP : va_P (dC, dI) vwCl [(h, .inr (2, [.ref b0, .ref b1, .ref b2, .ref b3, .int (nI (nn)), .int (th)])), (b0, .inl (cD, 70, .inr (.inr (.inr (.inl (N)))))), (b1, .inl (cZ, 70, .inl (I))), (b2, .inl (cI, 60, .inl (T))), (b3, .inl (cI, 6, .inl (R)))] s.heap := hP
  have hD : va_D A [(h, .inr (2, [.ref b0, .ref b1, .ref b2, .ref b3, .int (nI (nn)), .int (th)])), (b0, .inl (cD, 70, .inr (.inr (.inr (.inl (N)))))), (b1, .inl (cZ, 70, .inl (I))), (b2, .inl (cI, 60, .inl (T))), (b3, .inl (cI, 6, .inl (R)))] := hD
  have hin2 : ∀ w ∈ wsX20, w ∈ wsX2_keep := (fun w h => List.mem_cons_of_mem _ (List.mem_append_right _ h))
  have fl17 := hts (.fieldLink RX2 17 "JuryTableModel" "truth" "[I") (by decide +kernel)
  have fl24 := hts (.fieldLink RX2 24 "JuryTableModel" "thrown" "I") (by decide +kernel)
  have hl := lv_entry ([.ref h, .int (nI (Bool.toNat (fb))), .int (nI (en)), .int (nI (bn)), .int (nI (kn))]) (n := 6) (Nat.le_of_ble_eq_true rfl)
  rw [lg_entry_eq]
  generalize (lg_sl ([.ref h, .int (nI (Bool.toNat (fb))), .int (nI (en)), .int (nI (bn)), .int (nI (kn))]) ++ List.replicate (6 - (lg_sl ([.ref h, .int (nI (Bool.toNat (fb))), .int (nI (en)), .int (nI (bn)), .int (nI (kn))])).length) Slot.unset).toArray = ls at hl ⊢
  have hl : lv_has ls 6 [(0, .ref h), (1, .int (nI (Bool.toNat (fb)))), (2, .int (nI (en))), (3, .int (nI (bn))), (4, .int (nI (kn)))] := hl
  refine lv_aload_n hx hb dX2_keep_0 rfl (lv_at hl 0 rfl) ?_
  refine lv_iconst (v := nI 0) hx hb dX2_keep_1 (by decide) ?_
  refine va_put (D := (dC, dI)) (ci := 2) (v := .int (nI (0))) (ty := .int) (C := RX2) (T := TX2) (N := 6) hx hb hts hin2 tyX2 tyX2_ok nmX2 hown hK hP hD hS 0 rfl rfl 5 (by decide) fl24 (fun _ h9 => h9) rfl (by decide +kernel) rfl rfl (Nat.le_of_ble_eq_true rfl) dX2_keep_2 (fun H locs hP hD hS => ?_)
  have hP : va_P (dC, dI) vwCl [(h, .inr (2, [.ref b0, .ref b1, .ref b2, .ref b3, .int (nI (nn)), .int (nI (0))])), (b0, .inl (cD, 70, .inr (.inr (.inr (.inl (N)))))), (b1, .inl (cZ, 70, .inl (I))), (b2, .inl (cI, 60, .inl (T))), (b3, .inl (cI, 6, .inl (R)))] H := hP
  have hD : va_D A [(h, .inr (2, [.ref b0, .ref b1, .ref b2, .ref b3, .int (nI (nn)), .int (nI (0))])), (b0, .inl (cD, 70, .inr (.inr (.inr (.inl (N)))))), (b1, .inl (cZ, 70, .inl (I))), (b2, .inl (cI, 60, .inl (T))), (b3, .inl (cI, 6, .inl (R)))] := hD
  refine lv_aload_n hx hb dX2_keep_5 rfl (lv_at hl 0 rfl) ?_
  refine lv_iload_n hx hb dX2_keep_6 rfl (lv_at hl 2 rfl) ?_
  refine vp_callSi (va_Run.run (va_runV (As := [.int (nI (en))]) (rest := []) ⟨hx, hb, hml, hown, hts⟩ (c_X2_hasEntry_ok l dC dI cD cZ cI cL h b0 b1 b2 b3 N I T R nn (nI 0) (en) (by omega) (by omega)) (cwV 1 hts gX2_keep_X2_hasEntry rfl rfl rfl (by decide +kernel) ⟨Nat.le_of_ble_eq_true rfl, Nat.le_of_ble_eq_true rfl⟩) (okM_pre ⟨hP, hK⟩) rfl rfl hl.1 rfl (lv_room (Nat.le_of_ble_eq_true rfl)) dX2_keep_7 ⟨Nat.zero_le _, Nat.zero_le _⟩)) (fun r1 er1 => ?_)
  subst er1
  refine xb_if_eq (tgt := 30) hx hb dX2_keep_10 (by decide) (fun q => absurd q (by decide)) (fun _ => ?_)
  refine lv_aload_n hx hb dX2_keep_13 rfl (lv_at hl 0 rfl) ?_
  refine lv_iload_n hx hb dX2_keep_14 rfl (lv_at hl 3 rfl) ?_
  refine vp_callSi (va_Run.run (va_runV (As := [.int (nI (bn))]) (rest := []) ⟨hx, hb, hml, hown, hts⟩ (c_X2_hasSeat_ok l dC dI cD cZ cI cL h b0 b1 b2 b3 N I T R nn (nI 0) (bn) (by omega)) (cwV 1 hts gX2_keep_X2_hasSeat rfl rfl rfl (by decide +kernel) ⟨Nat.le_of_ble_eq_true rfl, Nat.le_of_ble_eq_true rfl⟩) (okM_pre ⟨hP, hK⟩) rfl rfl hl.1 rfl (lv_room (Nat.le_of_ble_eq_true rfl)) dX2_keep_15 ⟨Nat.zero_le _, Nat.zero_le _⟩)) (fun r2 er2 => ?_)
  subst er2
  refine xb_if_eq (tgt := 30) hx hb dX2_keep_18 (by decide) (fun q => absurd q (by decide)) (fun _ => ?_)
  refine lv_aload_n hx hb dX2_keep_21 rfl (lv_at hl 0 rfl) ?_
  refine lv_iload hx hb dX2_keep_22 (lv_at hl 4 rfl) ?_
  refine vp_callSi (va_Run.run (va_runV (As := [.int (nI (kn))]) (rest := []) ⟨hx, hb, hml, hown, hts⟩ (c_X2_isWay_ok l dC dI cD cZ cI cL h b0 b1 b2 b3 N I T R nn (nI 0) (kn) (by omega)) (cwV 1 hts gX2_keep_X2_isWay rfl rfl rfl (by decide +kernel) ⟨Nat.le_of_ble_eq_true rfl, Nat.le_of_ble_eq_true rfl⟩) (okM_pre ⟨hP, hK⟩) rfl rfl hl.1 rfl (lv_room (Nat.le_of_ble_eq_true rfl)) dX2_keep_24 ⟨Nat.zero_le _, Nat.zero_le _⟩)) (fun r3 er3 => ?_)
  subst er3
  refine xb_if_ne (tgt := 32) hx hb dX2_keep_27 (by decide) (fun _ => ?_) (fun q => absurd q (by decide))
  refine lv_aload_n hx hb dX2_keep_32 rfl (lv_at hl 0 rfl) ?_
  refine lv_iload_n hx hb dX2_keep_33 rfl (lv_at hl 1 rfl) ?_
  refine lv_iload_n hx hb dX2_keep_34 rfl (lv_at hl 2 rfl) ?_
  refine lv_iload_n hx hb dX2_keep_35 rfl (lv_at hl 3 rfl) ?_
  refine lv_iload hx hb dX2_keep_36 (lv_at hl 4 rfl) ?_
  refine vp_callSi (va_Run.run (va_runV (As := [.int (nI (Bool.toNat (fb))), .int (nI (en)), .int (nI (bn)), .int (nI (kn))]) (rest := []) ⟨hx, hb, hml, hown, hts⟩ (c_X2_isSo l dC dI cD cZ cI cL h b0 b1 b2 b3 N I T R nn (nI 0) (fb) (en) (bn) (kn) (by omega) (by omega) (by omega) hq) (cwV 4 hts gX2_keep_X2_isSo rfl rfl rfl (by decide +kernel) ⟨Nat.le_of_ble_eq_true rfl, Nat.le_of_ble_eq_true rfl⟩) (okM_pre ⟨hP, hK⟩) rfl rfl hl.1 rfl (lv_room (Nat.le_of_ble_eq_true rfl)) dX2_keep_38 ⟨Nat.zero_le _, Nat.zero_le _⟩)) (fun r4 er4 => ?_)
  subst er4
  refine lv_istore (lv' := [(5, .int (nI (Bool.toNat (so I N (mc fb en bn) (ml fb bn) kn)))), (0, .ref h), (1, .int (nI (Bool.toNat (fb)))), (2, .int (nI (en))), (3, .int (nI (bn))), (4, .int (nI (kn)))]) hx hb dX2_keep_41 hl (by decide) rfl (fun ls hl => ?_)
  refine lv_aload_n hx hb dX2_keep_43 rfl (lv_at hl 1 rfl) ?_
  refine va_get (D := (dC, dI)) (ci := 2) (v := .ref b2) (C := RX2) (T := TX2) (N := 6) hx hb hts hin2 hown hK hP 0 rfl rfl 2 (by decide) fl17 (fun _ h9 => h9) rfl dX2_keep_44 ?_
  refine lv_iload_n hx hb dX2_keep_47 rfl (lv_at hl 2 rfl) ?_
  refine lv_iload_n hx hb dX2_keep_48 rfl (lv_at hl 3 rfl) ?_
  refine lv_iload_n hx hb dX2_keep_49 rfl (lv_at hl 4 rfl) ?_
  refine vp_callSi (va_Run.run (va_runS (As := [.int (nI (Bool.toNat (fb))), .int (nI (en)), .int (nI (bn))]) (rest := [.ref b2]) ⟨hx, hb, hml, hown, hts⟩ (c_X2_cell l (fb) (en) (bn)) (va_cwS 3 hts gX2_keep_X2_cell rfl rfl rfl (by decide +kernel) ⟨Nat.le_of_ble_eq_true rfl, Nat.le_of_ble_eq_true rfl⟩) preT rfl rfl hl.1 rfl (lv_room (Nat.le_of_ble_eq_true rfl)) dX2_keep_50 ⟨Nat.zero_le _, Nat.zero_le _⟩)) (fun r5 er5 => ?_)
  subst er5
  have := mc_lt (f := fb) (e := en) (b := bn) (by omega) (by omega)
  refine lv_iload hx hb dX2_keep_53 (lv_at hl 0 rfl) ?_
  refine jb_if_eq hx hb dX2_keep_55 dX2_keep_58 dX2_keep_59 dX2_keep_62 ?_
  refine xn_iast hx hb hK hP hD hS 3 2 rfl rfl (n := 60) (j := mc fb en bn) (by omega) (by decide) dX2_keep_63 (fun H locs hP hD hS => ?_)
  have hP : va_P (dC, dI) vwCl [(h, .inr (2, [.ref b0, .ref b1, .ref b2, .ref b3, .int (nI (nn)), .int (nI (0))])), (b0, .inl (cD, 70, .inr (.inr (.inr (.inl (N)))))), (b1, .inl (cZ, 70, .inl (I))), (b2, .inl (cI, 60, .inl (upd T (mc fb en bn) (nI (Bool.toNat (so I N (mc fb en bn) (ml fb bn) kn)))))), (b3, .inl (cI, 6, .inl (R)))] H := hP
  have hD : va_D A [(h, .inr (2, [.ref b0, .ref b1, .ref b2, .ref b3, .int (nI (nn)), .int (nI (0))])), (b0, .inl (cD, 70, .inr (.inr (.inr (.inl (N)))))), (b1, .inl (cZ, 70, .inl (I))), (b2, .inl (cI, 60, .inl (upd T (mc fb en bn) (nI (Bool.toNat (so I N (mc fb en bn) (ml fb bn) kn)))))), (b3, .inl (cI, 6, .inl (R)))] := hD
  refine lv_iload hx hb dX2_keep_64 (lv_at hl 0 rfl) ?_
  exact W.zret (v := nI (Bool.toNat (so I N (mc fb en bn) (ml fb bn) kn))) (ty := .boolean) hx hb hr (xb_nar _) (fun t ht hW => ⟨⟨_, (), rfl, rfl, by rw [ht]; exact hP, va_K.moved hW.alike hK, hD⟩, hS.F ht⟩) hS.2.2 dX2_keep_66
set_option maxHeartbeats 4000000 in
set_option maxRecDepth 100000 in
theorem c_X2_keep_n1 (l : Launch) (dC : Nat → ClassId) (dI : Nat → Nat → Nat) (cD cZ cI cL : ClassId) (h b0 b1 b2 b3 : Nat) (N : Nat → UInt64) (I T R : Nat → Int32) (nn : Nat) (th : Int32) (sz : Nat) (hnn : nn ≤ 6) (fb : Bool) (ev bv kv : Int32) (hbad : vB ev nn = false) : Met l yX2_keep wsX2_keep ({ frames := 2, cells := 0, slots := 0, locals := 42 }) (va_Pc [.ref h, .int (nI (Bool.toNat (fb))), .int (ev), .int (bv), .int (kv)] (fun U => U.heap.size = sz ∧ okM dC dI cD cZ cI cL h b0 b1 b2 b3 N I T R nn th U U.heap ∧ va_D (fun _ => True) (wM cD cZ cI cL h b0 b1 b2 b3 N I T R nn th))) (va_Qi (fun (r : Int32) (_ : Unit) => r = nI (Bool.toNat false)) (fun _ t => atM dC dI cD cZ cI cL (va_A (wM cD cZ cI cL h b0 b1 b2 b3 N I T R nn th) sz) h b0 b1 b2 b3 N I T R nn (nI 1) t) (va_A (wM cD cZ cI cL h b0 b1 b2 b3 N I T R nn th) sz)) 0 0 (va_A (wM cD cZ cI cL h b0 b1 b2 b3 N I T R nn th) sz) := by
  refine Met.ofW (cc := cX2_keep) (maxL := 6) (ret := (some .boolean)) (by decide) rfl ?_
  intro p e s m args below meth c s₁ B hml hv
  obtain ⟨rfl, hsz, hO, hD0⟩ := hv
  obtain ⟨hP, hK⟩ := id hO
  have hx := B.exec
  have hb := B.bytes
  have hr := B.returns
  have hts := atoms_spec (ws := wsX2_keep) B.pre
  have hown : s.vm.findClass RX2 = some m.cls := findClass_of_methodNamed B.named
  have hlocks := B.notSynchronized
  subst hsz
  have hD := hD0.self (sz := s.heap.size)
  generalize hAe : va_A (wM cD cZ cI cL h b0 b1 b2 b3 N I T R nn th) s.heap.size = A at hD ⊢
  have hA : ∀ q : Nat, s.heap.size ≤ q → A q := fun q h => by rw [← hAe]; exact Or.inr h
  have hS : va_S A s.heap s.heap [] := va_S.rf
  have hP : va_P (dC, dI) vwCl [(h, .inr (2, [.ref b0, .ref b1, .ref b2, .ref b3, .int (nI (nn)), .int (th)])), (b0, .inl (cD, 70, .inr (.inr (.inr (.inl (N)))))), (b1, .inl (cZ, 70, .inl (I))), (b2, .inl (cI, 60, .inl (T))), (b3, .inl (cI, 6, .inl (R)))] s.heap := hP
  have hD : va_D A [(h, .inr (2, [.ref b0, .ref b1, .ref b2, .ref b3, .int (nI (nn)), .int (th)])), (b0, .inl (cD, 70, .inr (.inr (.inr (.inl (N)))))), (b1, .inl (cZ, 70, .inl (I))), (b2, .inl (cI, 60, .inl (T))), (b3, .inl (cI, 6, .inl (R)))] := hD
  have hin2 : ∀ w ∈ wsX20, w ∈ wsX2_keep := (fun w h => List.mem_cons_of_mem _ (List.mem_append_right _ h))
  have fl24 := hts (.fieldLink RX2 24 "JuryTableModel" "thrown" "I") (by decide +kernel)
  have hl := lv_entry ([.ref h, .int (nI (Bool.toNat (fb))), .int (ev), .int (bv), .int (kv)]) (n := 6) (Nat.le_of_ble_eq_true rfl)
  rw [lg_entry_eq]
  generalize (lg_sl ([.ref h, .int (nI (Bool.toNat (fb))), .int (ev), .int (bv), .int (kv)]) ++ List.replicate (6 - (lg_sl ([.ref h, .int (nI (Bool.toNat (fb))), .int (ev), .int (bv), .int (kv)])).length) Slot.unset).toArray = ls at hl ⊢
  have hl : lv_has ls 6 [(0, .ref h), (1, .int (nI (Bool.toNat (fb)))), (2, .int (ev)), (3, .int (bv)), (4, .int (kv))] := hl
  refine lv_aload_n hx hb dX2_keep_0 rfl (lv_at hl 0 rfl) ?_
  refine lv_iconst (v := nI 0) hx hb dX2_keep_1 (by decide) ?_
  refine va_put (D := (dC, dI)) (ci := 2) (v := .int (nI (0))) (ty := .int) (C := RX2) (T := TX2) (N := 6) hx hb hts hin2 tyX2 tyX2_ok nmX2 hown hK hP hD hS 0 rfl rfl 5 (by decide) fl24 (fun _ h9 => h9) rfl (by decide +kernel) rfl rfl (Nat.le_of_ble_eq_true rfl) dX2_keep_2 (fun H locs hP hD hS => ?_)
  have hP : va_P (dC, dI) vwCl [(h, .inr (2, [.ref b0, .ref b1, .ref b2, .ref b3, .int (nI (nn)), .int (nI (0))])), (b0, .inl (cD, 70, .inr (.inr (.inr (.inl (N)))))), (b1, .inl (cZ, 70, .inl (I))), (b2, .inl (cI, 60, .inl (T))), (b3, .inl (cI, 6, .inl (R)))] H := hP
  have hD : va_D A [(h, .inr (2, [.ref b0, .ref b1, .ref b2, .ref b3, .int (nI (nn)), .int (nI (0))])), (b0, .inl (cD, 70, .inr (.inr (.inr (.inl (N)))))), (b1, .inl (cZ, 70, .inl (I))), (b2, .inl (cI, 60, .inl (T))), (b3, .inl (cI, 6, .inl (R)))] := hD
  refine lv_aload_n hx hb dX2_keep_5 rfl (lv_at hl 0 rfl) ?_
  refine lv_iload_n hx hb dX2_keep_6 rfl (lv_at hl 2 rfl) ?_
  have hPc := hP.sub (ws' := [(h, .inr (2, [.ref b0, .ref b1, .ref b2, .ref b3, .int (nI (nn)), .int (nI (0))])), (b0, .inl (cD, 70, .inr (.inr (.inr (.inl (N)))))), (b1, .inl (cZ, 70, .inl (I))), (b2, .inl (cI, 60, .inl (T))), (b3, .inl (cI, 6, .inl (R)))]) [0, 1, 2, 3, 4] rfl
  have hDc := hD.sub (ws' := [(h, .inr (2, [.ref b0, .ref b1, .ref b2, .ref b3, .int (nI (nn)), .int (nI (0))])), (b0, .inl (cD, 70, .inr (.inr (.inr (.inl (N)))))), (b1, .inl (cZ, 70, .inl (I))), (b2, .inl (cI, 60, .inl (T))), (b3, .inl (cI, 6, .inl (R)))]) [0, 1, 2, 3, 4] (by decide) rfl
  have hFc := va_free (wc := [(h, .inr (2, [.ref b0, .ref b1, .ref b2, .ref b3, .int (nI (nn)), .int (nI (0))])), (b0, .inl (cD, 70, .inr (.inr (.inr (.inl (N)))))), (b1, .inl (cZ, 70, .inl (I))), (b2, .inl (cI, 60, .inl (T))), (b3, .inl (cI, 6, .inl (R)))]) hD hS hA [0, 1, 2, 3, 4] rfl
  refine va_calli (va_runV (As := [.int (ev)]) (rest := []) ⟨hx, hb, hml, hown, hts⟩ (c_X2_hasEntry_no l dC dI cD cZ cI cL h b0 b1 b2 b3 N I T R nn (nI 0) H.size (ev) hbad) (cwV 1 hts gX2_keep_X2_hasEntry rfl rfl rfl (by decide +kernel) ⟨Nat.le_of_ble_eq_true rfl, Nat.le_of_ble_eq_true rfl⟩) (okMW_pre ⟨hP, hK⟩ hD) rfl rfl hl.1 rfl (lv_room (Nat.le_of_ble_eq_true rfl)) dX2_keep_7 ⟨Nat.zero_le _, Nat.zero_le _⟩) hS (fun q _ h => hFc q h) hFc (fun r1 u1 t H1 locs ht hvm hw hB hz1 hk1 hS => ?_)
  obtain ⟨hP1, hK1, hD1⟩ := hB
  rw [ht] at hP1
  have hD := hD1.weaken (fun _ q _ h => hFc q.1 h)
  have hP := hP1
  generalize H1 = H at hP hS ⊢
  have hP : va_P (dC, dI) vwCl [(h, .inr (2, [.ref b0, .ref b1, .ref b2, .ref b3, .int (nI (nn)), .int (nI (1))])), (b0, .inl (cD, 70, .inr (.inr (.inr (.inl (N)))))), (b1, .inl (cZ, 70, .inl (I))), (b2, .inl (cI, 60, .inl (T))), (b3, .inl (cI, 6, .inl (R)))] H := hP
  have hD : va_D A [(h, .inr (2, [.ref b0, .ref b1, .ref b2, .ref b3, .int (nI (nn)), .int (nI (1))])), (b0, .inl (cD, 70, .inr (.inr (.inr (.inl (N)))))), (b1, .inl (cZ, 70, .inl (I))), (b2, .inl (cI, 60, .inl (T))), (b3, .inl (cI, 6, .inl (R)))] := hD
  subst hw
  refine xb_if_eq (tgt := 30) hx hb dX2_keep_10 (by decide) (fun _ => ?_) (fun q => absurd q (by decide))
  refine lv_iconst (v := nI 0) hx hb dX2_keep_30 (by decide) ?_
  exact W.zret (v := nI (Bool.toNat false)) (ty := .boolean) hx hb hr (xb_nar false) (fun t ht hW => ⟨⟨_, (), rfl, rfl, by rw [ht]; exact hP, va_K.moved hW.alike hK, hD⟩, hS.F ht⟩) hS.2.2 dX2_keep_31
set_option maxHeartbeats 4000000 in
set_option maxRecDepth 100000 in
theorem c_X2_keep_n2 (l : Launch) (dC : Nat → ClassId) (dI : Nat → Nat → Nat) (cD cZ cI cL : ClassId) (h b0 b1 b2 b3 : Nat) (N : Nat → UInt64) (I T R : Nat → Int32) (nn : Nat) (th : Int32) (sz : Nat) (hnn : nn ≤ 6) (fb : Bool) (en : Nat) (bv kv : Int32) (hen : en < nn) (hbad : vB bv 5 = false) : Met l yX2_keep wsX2_keep ({ frames := 2, cells := 0, slots := 0, locals := 42 }) (va_Pc [.ref h, .int (nI (Bool.toNat (fb))), .int (nI (en)), .int (bv), .int (kv)] (fun U => U.heap.size = sz ∧ okM dC dI cD cZ cI cL h b0 b1 b2 b3 N I T R nn th U U.heap ∧ va_D (fun _ => True) (wM cD cZ cI cL h b0 b1 b2 b3 N I T R nn th))) (va_Qi (fun (r : Int32) (_ : Unit) => r = nI (Bool.toNat false)) (fun _ t => atM dC dI cD cZ cI cL (va_A (wM cD cZ cI cL h b0 b1 b2 b3 N I T R nn th) sz) h b0 b1 b2 b3 N I T R nn (nI 1) t) (va_A (wM cD cZ cI cL h b0 b1 b2 b3 N I T R nn th) sz)) 0 0 (va_A (wM cD cZ cI cL h b0 b1 b2 b3 N I T R nn th) sz) := by
  refine Met.ofW (cc := cX2_keep) (maxL := 6) (ret := (some .boolean)) (by decide) rfl ?_
  intro p e s m args below meth c s₁ B hml hv
  obtain ⟨rfl, hsz, hO, hD0⟩ := hv
  obtain ⟨hP, hK⟩ := id hO
  have hx := B.exec
  have hb := B.bytes
  have hr := B.returns
  have hts := atoms_spec (ws := wsX2_keep) B.pre
  have hown : s.vm.findClass RX2 = some m.cls := findClass_of_methodNamed B.named
  have hlocks := B.notSynchronized
  subst hsz
  have hD := hD0.self (sz := s.heap.size)
  generalize hAe : va_A (wM cD cZ cI cL h b0 b1 b2 b3 N I T R nn th) s.heap.size = A at hD ⊢
  have hA : ∀ q : Nat, s.heap.size ≤ q → A q := fun q h => by rw [← hAe]; exact Or.inr h
  have hS : va_S A s.heap s.heap [] := va_S.rf
  have hP : va_P (dC, dI) vwCl [(h, .inr (2, [.ref b0, .ref b1, .ref b2, .ref b3, .int (nI (nn)), .int (th)])), (b0, .inl (cD, 70, .inr (.inr (.inr (.inl (N)))))), (b1, .inl (cZ, 70, .inl (I))), (b2, .inl (cI, 60, .inl (T))), (b3, .inl (cI, 6, .inl (R)))] s.heap := hP
  have hD : va_D A [(h, .inr (2, [.ref b0, .ref b1, .ref b2, .ref b3, .int (nI (nn)), .int (th)])), (b0, .inl (cD, 70, .inr (.inr (.inr (.inl (N)))))), (b1, .inl (cZ, 70, .inl (I))), (b2, .inl (cI, 60, .inl (T))), (b3, .inl (cI, 6, .inl (R)))] := hD
  have hin2 : ∀ w ∈ wsX20, w ∈ wsX2_keep := (fun w h => List.mem_cons_of_mem _ (List.mem_append_right _ h))
  have fl24 := hts (.fieldLink RX2 24 "JuryTableModel" "thrown" "I") (by decide +kernel)
  have hl := lv_entry ([.ref h, .int (nI (Bool.toNat (fb))), .int (nI (en)), .int (bv), .int (kv)]) (n := 6) (Nat.le_of_ble_eq_true rfl)
  rw [lg_entry_eq]
  generalize (lg_sl ([.ref h, .int (nI (Bool.toNat (fb))), .int (nI (en)), .int (bv), .int (kv)]) ++ List.replicate (6 - (lg_sl ([.ref h, .int (nI (Bool.toNat (fb))), .int (nI (en)), .int (bv), .int (kv)])).length) Slot.unset).toArray = ls at hl ⊢
  have hl : lv_has ls 6 [(0, .ref h), (1, .int (nI (Bool.toNat (fb)))), (2, .int (nI (en))), (3, .int (bv)), (4, .int (kv))] := hl
  refine lv_aload_n hx hb dX2_keep_0 rfl (lv_at hl 0 rfl) ?_
  refine lv_iconst (v := nI 0) hx hb dX2_keep_1 (by decide) ?_
  refine va_put (D := (dC, dI)) (ci := 2) (v := .int (nI (0))) (ty := .int) (C := RX2) (T := TX2) (N := 6) hx hb hts hin2 tyX2 tyX2_ok nmX2 hown hK hP hD hS 0 rfl rfl 5 (by decide) fl24 (fun _ h9 => h9) rfl (by decide +kernel) rfl rfl (Nat.le_of_ble_eq_true rfl) dX2_keep_2 (fun H locs hP hD hS => ?_)
  have hP : va_P (dC, dI) vwCl [(h, .inr (2, [.ref b0, .ref b1, .ref b2, .ref b3, .int (nI (nn)), .int (nI (0))])), (b0, .inl (cD, 70, .inr (.inr (.inr (.inl (N)))))), (b1, .inl (cZ, 70, .inl (I))), (b2, .inl (cI, 60, .inl (T))), (b3, .inl (cI, 6, .inl (R)))] H := hP
  have hD : va_D A [(h, .inr (2, [.ref b0, .ref b1, .ref b2, .ref b3, .int (nI (nn)), .int (nI (0))])), (b0, .inl (cD, 70, .inr (.inr (.inr (.inl (N)))))), (b1, .inl (cZ, 70, .inl (I))), (b2, .inl (cI, 60, .inl (T))), (b3, .inl (cI, 6, .inl (R)))] := hD
  refine lv_aload_n hx hb dX2_keep_5 rfl (lv_at hl 0 rfl) ?_
  refine lv_iload_n hx hb dX2_keep_6 rfl (lv_at hl 2 rfl) ?_
  refine vp_callSi (va_Run.run (va_runV (As := [.int (nI (en))]) (rest := []) ⟨hx, hb, hml, hown, hts⟩ (c_X2_hasEntry_ok l dC dI cD cZ cI cL h b0 b1 b2 b3 N I T R nn (nI 0) (en) (by omega) (by omega)) (cwV 1 hts gX2_keep_X2_hasEntry rfl rfl rfl (by decide +kernel) ⟨Nat.le_of_ble_eq_true rfl, Nat.le_of_ble_eq_true rfl⟩) (okM_pre ⟨hP, hK⟩) rfl rfl hl.1 rfl (lv_room (Nat.le_of_ble_eq_true rfl)) dX2_keep_7 ⟨Nat.zero_le _, Nat.zero_le _⟩)) (fun r1 er1 => ?_)
  subst er1
  refine xb_if_eq (tgt := 30) hx hb dX2_keep_10 (by decide) (fun q => absurd q (by decide)) (fun _ => ?_)
  refine lv_aload_n hx hb dX2_keep_13 rfl (lv_at hl 0 rfl) ?_
  refine lv_iload_n hx hb dX2_keep_14 rfl (lv_at hl 3 rfl) ?_
  have hPc := hP.sub (ws' := [(h, .inr (2, [.ref b0, .ref b1, .ref b2, .ref b3, .int (nI (nn)), .int (nI (0))])), (b0, .inl (cD, 70, .inr (.inr (.inr (.inl (N)))))), (b1, .inl (cZ, 70, .inl (I))), (b2, .inl (cI, 60, .inl (T))), (b3, .inl (cI, 6, .inl (R)))]) [0, 1, 2, 3, 4] rfl
  have hDc := hD.sub (ws' := [(h, .inr (2, [.ref b0, .ref b1, .ref b2, .ref b3, .int (nI (nn)), .int (nI (0))])), (b0, .inl (cD, 70, .inr (.inr (.inr (.inl (N)))))), (b1, .inl (cZ, 70, .inl (I))), (b2, .inl (cI, 60, .inl (T))), (b3, .inl (cI, 6, .inl (R)))]) [0, 1, 2, 3, 4] (by decide) rfl
  have hFc := va_free (wc := [(h, .inr (2, [.ref b0, .ref b1, .ref b2, .ref b3, .int (nI (nn)), .int (nI (0))])), (b0, .inl (cD, 70, .inr (.inr (.inr (.inl (N)))))), (b1, .inl (cZ, 70, .inl (I))), (b2, .inl (cI, 60, .inl (T))), (b3, .inl (cI, 6, .inl (R)))]) hD hS hA [0, 1, 2, 3, 4] rfl
  refine va_calli (va_runV (As := [.int (bv)]) (rest := []) ⟨hx, hb, hml, hown, hts⟩ (c_X2_hasSeat_no l dC dI cD cZ cI cL h b0 b1 b2 b3 N I T R nn (nI 0) H.size (bv) hbad) (cwV 1 hts gX2_keep_X2_hasSeat rfl rfl rfl (by decide +kernel) ⟨Nat.le_of_ble_eq_true rfl, Nat.le_of_ble_eq_true rfl⟩) (okMW_pre ⟨hP, hK⟩ hD) rfl rfl hl.1 rfl (lv_room (Nat.le_of_ble_eq_true rfl)) dX2_keep_15 ⟨Nat.zero_le _, Nat.zero_le _⟩) hS (fun q _ h => hFc q h) hFc (fun r2 u2 t H1 locs ht hvm hw hB hz1 hk1 hS => ?_)
  obtain ⟨hP1, hK1, hD1⟩ := hB
  rw [ht] at hP1
  have hD := hD1.weaken (fun _ q _ h => hFc q.1 h)
  have hP := hP1
  generalize H1 = H at hP hS ⊢
  have hP : va_P (dC, dI) vwCl [(h, .inr (2, [.ref b0, .ref b1, .ref b2, .ref b3, .int (nI (nn)), .int (nI (1))])), (b0, .inl (cD, 70, .inr (.inr (.inr (.inl (N)))))), (b1, .inl (cZ, 70, .inl (I))), (b2, .inl (cI, 60, .inl (T))), (b3, .inl (cI, 6, .inl (R)))] H := hP
  have hD : va_D A [(h, .inr (2, [.ref b0, .ref b1, .ref b2, .ref b3, .int (nI (nn)), .int (nI (1))])), (b0, .inl (cD, 70, .inr (.inr (.inr (.inl (N)))))), (b1, .inl (cZ, 70, .inl (I))), (b2, .inl (cI, 60, .inl (T))), (b3, .inl (cI, 6, .inl (R)))] := hD
  subst hw
  refine xb_if_eq (tgt := 30) hx hb dX2_keep_18 (by decide) (fun _ => ?_) (fun q => absurd q (by decide))
  refine lv_iconst (v := nI 0) hx hb dX2_keep_30 (by decide) ?_
  exact W.zret (v := nI (Bool.toNat false)) (ty := .boolean) hx hb hr (xb_nar false) (fun t ht hW => ⟨⟨_, (), rfl, rfl, by rw [ht]; exact hP, va_K.moved hW.alike hK, hD⟩, hS.F ht⟩) hS.2.2 dX2_keep_31
set_option maxHeartbeats 4000000 in
set_option maxRecDepth 100000 in
theorem c_X2_keep_n3 (l : Launch) (dC : Nat → ClassId) (dI : Nat → Nat → Nat) (cD cZ cI cL : ClassId) (h b0 b1 b2 b3 : Nat) (N : Nat → UInt64) (I T R : Nat → Int32) (nn : Nat) (th : Int32) (sz : Nat) (hnn : nn ≤ 6) (fb : Bool) (en bn : Nat) (kv : Int32) (hen : en < nn) (hbn : bn < 5) (hbad : vB kv 24 = false) : Met l yX2_keep wsX2_keep ({ frames := 2, cells := 0, slots := 0, locals := 42 }) (va_Pc [.ref h, .int (nI (Bool.toNat (fb))), .int (nI (en)), .int (nI (bn)), .int (kv)] (fun U => U.heap.size = sz ∧ okM dC dI cD cZ cI cL h b0 b1 b2 b3 N I T R nn th U U.heap ∧ va_D (fun _ => True) (wM cD cZ cI cL h b0 b1 b2 b3 N I T R nn th))) (va_Qi (fun (r : Int32) (_ : Unit) => r = nI (Bool.toNat false)) (fun _ t => atM dC dI cD cZ cI cL (va_A (wM cD cZ cI cL h b0 b1 b2 b3 N I T R nn th) sz) h b0 b1 b2 b3 N I T R nn (nI 2) t) (va_A (wM cD cZ cI cL h b0 b1 b2 b3 N I T R nn th) sz)) 0 0 (va_A (wM cD cZ cI cL h b0 b1 b2 b3 N I T R nn th) sz) := by
  refine Met.ofW (cc := cX2_keep) (maxL := 6) (ret := (some .boolean)) (by decide) rfl ?_
  intro p e s m args below meth c s₁ B hml hv
  obtain ⟨rfl, hsz, hO, hD0⟩ := hv
  obtain ⟨hP, hK⟩ := id hO
  have hx := B.exec
  have hb := B.bytes
  have hr := B.returns
  have hts := atoms_spec (ws := wsX2_keep) B.pre
  have hown : s.vm.findClass RX2 = some m.cls := findClass_of_methodNamed B.named
  have hlocks := B.notSynchronized
  subst hsz
  have hD := hD0.self (sz := s.heap.size)
  generalize hAe : va_A (wM cD cZ cI cL h b0 b1 b2 b3 N I T R nn th) s.heap.size = A at hD ⊢
  have hA : ∀ q : Nat, s.heap.size ≤ q → A q := fun q h => by rw [← hAe]; exact Or.inr h
  have hS : va_S A s.heap s.heap [] := va_S.rf
  have hP : va_P (dC, dI) vwCl [(h, .inr (2, [.ref b0, .ref b1, .ref b2, .ref b3, .int (nI (nn)), .int (th)])), (b0, .inl (cD, 70, .inr (.inr (.inr (.inl (N)))))), (b1, .inl (cZ, 70, .inl (I))), (b2, .inl (cI, 60, .inl (T))), (b3, .inl (cI, 6, .inl (R)))] s.heap := hP
  have hD : va_D A [(h, .inr (2, [.ref b0, .ref b1, .ref b2, .ref b3, .int (nI (nn)), .int (th)])), (b0, .inl (cD, 70, .inr (.inr (.inr (.inl (N)))))), (b1, .inl (cZ, 70, .inl (I))), (b2, .inl (cI, 60, .inl (T))), (b3, .inl (cI, 6, .inl (R)))] := hD
  have hin2 : ∀ w ∈ wsX20, w ∈ wsX2_keep := (fun w h => List.mem_cons_of_mem _ (List.mem_append_right _ h))
  have fl24 := hts (.fieldLink RX2 24 "JuryTableModel" "thrown" "I") (by decide +kernel)
  have hl := lv_entry ([.ref h, .int (nI (Bool.toNat (fb))), .int (nI (en)), .int (nI (bn)), .int (kv)]) (n := 6) (Nat.le_of_ble_eq_true rfl)
  rw [lg_entry_eq]
  generalize (lg_sl ([.ref h, .int (nI (Bool.toNat (fb))), .int (nI (en)), .int (nI (bn)), .int (kv)]) ++ List.replicate (6 - (lg_sl ([.ref h, .int (nI (Bool.toNat (fb))), .int (nI (en)), .int (nI (bn)), .int (kv)])).length) Slot.unset).toArray = ls at hl ⊢
  have hl : lv_has ls 6 [(0, .ref h), (1, .int (nI (Bool.toNat (fb)))), (2, .int (nI (en))), (3, .int (nI (bn))), (4, .int (kv))] := hl
  refine lv_aload_n hx hb dX2_keep_0 rfl (lv_at hl 0 rfl) ?_
  refine lv_iconst (v := nI 0) hx hb dX2_keep_1 (by decide) ?_
  refine va_put (D := (dC, dI)) (ci := 2) (v := .int (nI (0))) (ty := .int) (C := RX2) (T := TX2) (N := 6) hx hb hts hin2 tyX2 tyX2_ok nmX2 hown hK hP hD hS 0 rfl rfl 5 (by decide) fl24 (fun _ h9 => h9) rfl (by decide +kernel) rfl rfl (Nat.le_of_ble_eq_true rfl) dX2_keep_2 (fun H locs hP hD hS => ?_)
  have hP : va_P (dC, dI) vwCl [(h, .inr (2, [.ref b0, .ref b1, .ref b2, .ref b3, .int (nI (nn)), .int (nI (0))])), (b0, .inl (cD, 70, .inr (.inr (.inr (.inl (N)))))), (b1, .inl (cZ, 70, .inl (I))), (b2, .inl (cI, 60, .inl (T))), (b3, .inl (cI, 6, .inl (R)))] H := hP
  have hD : va_D A [(h, .inr (2, [.ref b0, .ref b1, .ref b2, .ref b3, .int (nI (nn)), .int (nI (0))])), (b0, .inl (cD, 70, .inr (.inr (.inr (.inl (N)))))), (b1, .inl (cZ, 70, .inl (I))), (b2, .inl (cI, 60, .inl (T))), (b3, .inl (cI, 6, .inl (R)))] := hD
  refine lv_aload_n hx hb dX2_keep_5 rfl (lv_at hl 0 rfl) ?_
  refine lv_iload_n hx hb dX2_keep_6 rfl (lv_at hl 2 rfl) ?_
  refine vp_callSi (va_Run.run (va_runV (As := [.int (nI (en))]) (rest := []) ⟨hx, hb, hml, hown, hts⟩ (c_X2_hasEntry_ok l dC dI cD cZ cI cL h b0 b1 b2 b3 N I T R nn (nI 0) (en) (by omega) (by omega)) (cwV 1 hts gX2_keep_X2_hasEntry rfl rfl rfl (by decide +kernel) ⟨Nat.le_of_ble_eq_true rfl, Nat.le_of_ble_eq_true rfl⟩) (okM_pre ⟨hP, hK⟩) rfl rfl hl.1 rfl (lv_room (Nat.le_of_ble_eq_true rfl)) dX2_keep_7 ⟨Nat.zero_le _, Nat.zero_le _⟩)) (fun r1 er1 => ?_)
  subst er1
  refine xb_if_eq (tgt := 30) hx hb dX2_keep_10 (by decide) (fun q => absurd q (by decide)) (fun _ => ?_)
  refine lv_aload_n hx hb dX2_keep_13 rfl (lv_at hl 0 rfl) ?_
  refine lv_iload_n hx hb dX2_keep_14 rfl (lv_at hl 3 rfl) ?_
  refine vp_callSi (va_Run.run (va_runV (As := [.int (nI (bn))]) (rest := []) ⟨hx, hb, hml, hown, hts⟩ (c_X2_hasSeat_ok l dC dI cD cZ cI cL h b0 b1 b2 b3 N I T R nn (nI 0) (bn) (by omega)) (cwV 1 hts gX2_keep_X2_hasSeat rfl rfl rfl (by decide +kernel) ⟨Nat.le_of_ble_eq_true rfl, Nat.le_of_ble_eq_true rfl⟩) (okM_pre ⟨hP, hK⟩) rfl rfl hl.1 rfl (lv_room (Nat.le_of_ble_eq_true rfl)) dX2_keep_15 ⟨Nat.zero_le _, Nat.zero_le _⟩)) (fun r2 er2 => ?_)
  subst er2
  refine xb_if_eq (tgt := 30) hx hb dX2_keep_18 (by decide) (fun q => absurd q (by decide)) (fun _ => ?_)
  refine lv_aload_n hx hb dX2_keep_21 rfl (lv_at hl 0 rfl) ?_
  refine lv_iload hx hb dX2_keep_22 (lv_at hl 4 rfl) ?_
  have hPc := hP.sub (ws' := [(h, .inr (2, [.ref b0, .ref b1, .ref b2, .ref b3, .int (nI (nn)), .int (nI (0))])), (b0, .inl (cD, 70, .inr (.inr (.inr (.inl (N)))))), (b1, .inl (cZ, 70, .inl (I))), (b2, .inl (cI, 60, .inl (T))), (b3, .inl (cI, 6, .inl (R)))]) [0, 1, 2, 3, 4] rfl
  have hDc := hD.sub (ws' := [(h, .inr (2, [.ref b0, .ref b1, .ref b2, .ref b3, .int (nI (nn)), .int (nI (0))])), (b0, .inl (cD, 70, .inr (.inr (.inr (.inl (N)))))), (b1, .inl (cZ, 70, .inl (I))), (b2, .inl (cI, 60, .inl (T))), (b3, .inl (cI, 6, .inl (R)))]) [0, 1, 2, 3, 4] (by decide) rfl
  have hFc := va_free (wc := [(h, .inr (2, [.ref b0, .ref b1, .ref b2, .ref b3, .int (nI (nn)), .int (nI (0))])), (b0, .inl (cD, 70, .inr (.inr (.inr (.inl (N)))))), (b1, .inl (cZ, 70, .inl (I))), (b2, .inl (cI, 60, .inl (T))), (b3, .inl (cI, 6, .inl (R)))]) hD hS hA [0, 1, 2, 3, 4] rfl
  refine va_calli (va_runV (As := [.int (kv)]) (rest := []) ⟨hx, hb, hml, hown, hts⟩ (c_X2_isWay_no l dC dI cD cZ cI cL h b0 b1 b2 b3 N I T R nn (nI 0) H.size (kv) hbad) (cwV 1 hts gX2_keep_X2_isWay rfl rfl rfl (by decide +kernel) ⟨Nat.le_of_ble_eq_true rfl, Nat.le_of_ble_eq_true rfl⟩) (okMW_pre ⟨hP, hK⟩ hD) rfl rfl hl.1 rfl (lv_room (Nat.le_of_ble_eq_true rfl)) dX2_keep_24 ⟨Nat.zero_le _, Nat.zero_le _⟩) hS (fun q _ h => hFc q h) hFc (fun r3 u3 t H1 locs ht hvm hw hB hz1 hk1 hS => ?_)
  obtain ⟨hP1, hK1, hD1⟩ := hB
  rw [ht] at hP1
  have hD := hD1.weaken (fun _ q _ h => hFc q.1 h)
  have hP := hP1
  generalize H1 = H at hP hS ⊢
  have hP : va_P (dC, dI) vwCl [(h, .inr (2, [.ref b0, .ref b1, .ref b2, .ref b3, .int (nI (nn)), .int (nI (2))])), (b0, .inl (cD, 70, .inr (.inr (.inr (.inl (N)))))), (b1, .inl (cZ, 70, .inl (I))), (b2, .inl (cI, 60, .inl (T))), (b3, .inl (cI, 6, .inl (R)))] H := hP
  have hD : va_D A [(h, .inr (2, [.ref b0, .ref b1, .ref b2, .ref b3, .int (nI (nn)), .int (nI (2))])), (b0, .inl (cD, 70, .inr (.inr (.inr (.inl (N)))))), (b1, .inl (cZ, 70, .inl (I))), (b2, .inl (cI, 60, .inl (T))), (b3, .inl (cI, 6, .inl (R)))] := hD
  subst hw
  refine xb_if_ne (tgt := 32) hx hb dX2_keep_27 (by decide) (fun q => absurd q (by decide)) (fun _ => ?_)
  refine lv_iconst (v := nI 0) hx hb dX2_keep_30 (by decide) ?_
  exact W.zret (v := nI (Bool.toNat false)) (ty := .boolean) hx hb hr (xb_nar false) (fun t ht hW => ⟨⟨_, (), rfl, rfl, by rw [ht]; exact hP, va_K.moved hW.alike hK, hD⟩, hS.F ht⟩) hS.2.2 dX2_keep_31
set_option maxHeartbeats 4000000 in
set_option maxRecDepth 100000 in
theorem c_X2_tally_ok (l : Launch) (dC : Nat → ClassId) (dI : Nat → Nat → Nat) (cD cZ cI cL : ClassId) (h b0 b1 b2 b3 : Nat) (N : Nat → UInt64) (I T R : Nat → Int32) (nn : Nat) (th : Int32) (sz : Nat) (hnn : nn ≤ 6) (fb : Bool) (en kn : Nat) (hen : en < nn) (hkn : kn < 24) (hq : ∀ x y, FP.dcmp (N x) (N y) ≠ none) : Met l yX2_tally wsX2_tally ({ frames := 2, cells := 0, slots := 0, locals := 52 }) (va_Pc [.ref h, .int (nI (Bool.toNat (fb))), .int (nI (en)), .int (nI (kn))] (fun U => U.heap.size = sz ∧ okM dC dI cD cZ cI cL h b0 b1 b2 b3 N I T R nn th U U.heap ∧ va_D (fun _ => True) (wM cD cZ cI cL h b0 b1 b2 b3 N I T R nn th))) (va_Qi (fun (r : Int32) (_ : Unit) => r = nI (cnt (fun b => so I N (mc fb en b) (ml fb b) kn) 5)) (fun _ t => atM dC dI cD cZ cI cL (va_A (wM cD cZ cI cL h b0 b1 b2 b3 N I T R nn th) sz) h b0 b1 b2 b3 N I T R nn (nI 0) t) (va_A (wM cD cZ cI cL h b0 b1 b2 b3 N I T R nn th) sz)) 0 0 (va_A (wM cD cZ cI cL h b0 b1 b2 b3 N I T R nn th) sz) := by
  refine Met.ofW (cc := cX2_tally) (maxL := 6) (ret := (some .int)) (by decide) rfl ?_
  intro p e s m args below meth c s₁ B hml hv
  obtain ⟨rfl, hsz, hO, hD0⟩ := hv
  obtain ⟨hP, hK⟩ := id hO
  have hx := B.exec
  have hb := B.bytes
  have hr := B.returns
  have hts := atoms_spec (ws := wsX2_tally) B.pre
  have hown : s.vm.findClass RX2 = some m.cls := findClass_of_methodNamed B.named
  have hlocks := B.notSynchronized
  subst hsz
  have hD := hD0.self (sz := s.heap.size)
  generalize hAe : va_A (wM cD cZ cI cL h b0 b1 b2 b3 N I T R nn th) s.heap.size = A at hD ⊢
  have hA : ∀ q : Nat, s.heap.size ≤ q → A q := fun q h => by rw [← hAe]; exact Or.inr h
  have hS : va_S A s.heap s.heap [] := va_S.rf
  have hP : va_P (dC, dI) vwCl [(h, .inr (2, [.ref b0, .ref b1, .ref b2, .ref b3, .int (nI (nn)), .int (th)])), (b0, .inl (cD, 70, .inr (.inr (.inr (.inl (N)))))), (b1, .inl (cZ, 70, .inl (I))), (b2, .inl (cI, 60, .inl (T))), (b3, .inl (cI, 6, .inl (R)))] s.heap := hP
  have hD : va_D A [(h, .inr (2, [.ref b0, .ref b1, .ref b2, .ref b3, .int (nI (nn)), .int (th)])), (b0, .inl (cD, 70, .inr (.inr (.inr (.inl (N)))))), (b1, .inl (cZ, 70, .inl (I))), (b2, .inl (cI, 60, .inl (T))), (b3, .inl (cI, 6, .inl (R)))] := hD
  have hin2 : ∀ w ∈ wsX20, w ∈ wsX2_tally := (fun w h => List.mem_cons_of_mem _ (List.mem_append_right _ h))
  have fl24 := hts (.fieldLink RX2 24 "JuryTableModel" "thrown" "I") (by decide +kernel)
  have hl := lv_entry ([.ref h, .int (nI (Bool.toNat (fb))), .int (nI (en)), .int (nI (kn))]) (n := 6) (Nat.le_of_ble_eq_true rfl)
  rw [lg_entry_eq]
  generalize (lg_sl ([.ref h, .int (nI (Bool.toNat (fb))), .int (nI (en)), .int (nI (kn))]) ++ List.replicate (6 - (lg_sl ([.ref h, .int (nI (Bool.toNat (fb))), .int (nI (en)), .int (nI (kn))])).length) Slot.unset).toArray = ls at hl ⊢
  have hl : lv_has ls 6 [(0, .ref h), (1, .int (nI (Bool.toNat (fb)))), (2, .int (nI (en))), (3, .int (nI (kn)))] := hl
  refine lv_aload_n hx hb dX2_tally_0 rfl (lv_at hl 0 rfl) ?_
  refine lv_iconst (v := nI 0) hx hb dX2_tally_1 (by decide) ?_
  refine va_put (D := (dC, dI)) (ci := 2) (v := .int (nI (0))) (ty := .int) (C := RX2) (T := TX2) (N := 6) hx hb hts hin2 tyX2 tyX2_ok nmX2 hown hK hP hD hS 0 rfl rfl 5 (by decide) fl24 (fun _ h9 => h9) rfl (by decide +kernel) rfl rfl (Nat.le_of_ble_eq_true rfl) dX2_tally_2 (fun H locs hP hD hS => ?_)
  have hP : va_P (dC, dI) vwCl [(h, .inr (2, [.ref b0, .ref b1, .ref b2, .ref b3, .int (nI (nn)), .int (nI (0))])), (b0, .inl (cD, 70, .inr (.inr (.inr (.inl (N)))))), (b1, .inl (cZ, 70, .inl (I))), (b2, .inl (cI, 60, .inl (T))), (b3, .inl (cI, 6, .inl (R)))] H := hP
  have hD : va_D A [(h, .inr (2, [.ref b0, .ref b1, .ref b2, .ref b3, .int (nI (nn)), .int (nI (0))])), (b0, .inl (cD, 70, .inr (.inr (.inr (.inl (N)))))), (b1, .inl (cZ, 70, .inl (I))), (b2, .inl (cI, 60, .inl (T))), (b3, .inl (cI, 6, .inl (R)))] := hD
  refine lv_iconst (v := nI 0) hx hb dX2_tally_5 (by decide) ?_
  refine lv_istore (lv' := [(4, .int (nI (0))), (0, .ref h), (1, .int (nI (Bool.toNat (fb)))), (2, .int (nI (en))), (3, .int (nI (kn)))]) hx hb dX2_tally_6 hl (by decide) rfl (fun ls hl => ?_)
  refine lv_aload_n hx hb dX2_tally_8 rfl (lv_at hl 1 rfl) ?_
  refine lv_iload_n hx hb dX2_tally_9 rfl (lv_at hl 3 rfl) ?_
  refine vp_callSi (va_Run.run (va_runV (As := [.int (nI (en))]) (rest := []) ⟨hx, hb, hml, hown, hts⟩ (c_X2_hasEntry_ok l dC dI cD cZ cI cL h b0 b1 b2 b3 N I T R nn (nI 0) (en) (by omega) (by omega)) (cwV 1 hts gX2_tally_X2_hasEntry rfl rfl rfl (by decide +kernel) ⟨Nat.le_of_ble_eq_true rfl, Nat.le_of_ble_eq_true rfl⟩) (okM_pre ⟨hP, hK⟩) rfl rfl hl.1 rfl (lv_room (Nat.le_of_ble_eq_true rfl)) dX2_tally_10 ⟨Nat.zero_le _, Nat.zero_le _⟩)) (fun r1 er1 => ?_)
  subst er1
  refine xb_if_eq (tgt := 24) hx hb dX2_tally_13 (by decide) (fun q => absurd q (by decide)) (fun _ => ?_)
  refine lv_aload_n hx hb dX2_tally_16 rfl (lv_at hl 1 rfl) ?_
  refine lv_iload_n hx hb dX2_tally_17 rfl (lv_at hl 4 rfl) ?_
  refine vp_callSi (va_Run.run (va_runV (As := [.int (nI (kn))]) (rest := []) ⟨hx, hb, hml, hown, hts⟩ (c_X2_isWay_ok l dC dI cD cZ cI cL h b0 b1 b2 b3 N I T R nn (nI 0) (kn) (by omega)) (cwV 1 hts gX2_tally_X2_isWay rfl rfl rfl (by decide +kernel) ⟨Nat.le_of_ble_eq_true rfl, Nat.le_of_ble_eq_true rfl⟩) (okM_pre ⟨hP, hK⟩) rfl rfl hl.1 rfl (lv_room (Nat.le_of_ble_eq_true rfl)) dX2_tally_18 ⟨Nat.zero_le _, Nat.zero_le _⟩)) (fun r2 er2 => ?_)
  subst er2
  refine xb_if_ne (tgt := 26) hx hb dX2_tally_21 (by decide) (fun _ => ?_) (fun q => absurd q (by decide))
  refine lv_iconst (v := nI 0) hx hb dX2_tally_26 (by decide) ?_
  refine lv_istore (lv' := [(5, .int (nI (0))), (4, .int (nI (0))), (0, .ref h), (1, .int (nI (Bool.toNat (fb)))), (2, .int (nI (en))), (3, .int (nI (kn)))]) hx hb dX2_tally_27 hl (by decide) rfl (fun ls hl => ?_)
  refine W_loop (α := Nat) (P := fun n i ls => i + n = 6 ∧ i < 6 ∧ lv_has ls 6 [(4, .int (nI (cnt (fun b => so I N (mc fb en b) (ml fb b) kn) i))), (5, .int (nI (i))), (0, .ref h), (1, .int (nI (Bool.toNat (fb)))), (2, .int (nI (en))), (3, .int (nI (kn)))]) (st := fun _ => []) 29 (fun i ls h => by have := h.1; have := h.2.1; omega) (fun n ih i ls h => ?_) (6) (0) ls ⟨by omega, by omega, lv_sub hl [1, 0, 2, 3, 4, 5] rfl⟩
  obtain ⟨hin, hi6, hl⟩ := h
  have := cnt_le (fun b => so I N (mc fb en b) (ml fb b) kn) i
  refine lv_iload hx hb dX2_tally_29 (lv_at hl 1 rfl) ?_
  refine lv_iconst (v := nI 5) hx hb dX2_tally_31 (by decide) ?_
  refine xn_icmp_ge (tgt := 63) hx hb (by omega) (by decide) dX2_tally_32 (by decide) (fun c32 => ?_) (fun c32 => ?_)
  · refine lv_iload hx hb dX2_tally_63 (lv_at hl 0 rfl) ?_
    exact W.iret (v := nI (cnt (fun b => so I N (mc fb en b) (ml fb b) kn) i)) hx hb hr (fun t ht hW => ⟨⟨_, (), rfl, (by rw [show i = 5 by omega]), by rw [ht]; exact hP, va_K.moved hW.alike hK, hD⟩, hS.F ht⟩) hS.2.2 dX2_tally_65
  · refine lv_iload hx hb dX2_tally_35 (lv_at hl 0 rfl) ?_
    refine lv_aload_n hx hb dX2_tally_37 rfl (lv_at hl 2 rfl) ?_
    refine lv_iload_n hx hb dX2_tally_38 rfl (lv_at hl 3 rfl) ?_
    refine lv_iload_n hx hb dX2_tally_39 rfl (lv_at hl 4 rfl) ?_
    refine lv_iload hx hb dX2_tally_40 (lv_at hl 1 rfl) ?_
    refine lv_iload_n hx hb dX2_tally_42 rfl (lv_at hl 5 rfl) ?_
    refine vp_callSi (va_Run.run (va_runV (As := [.int (nI (Bool.toNat (fb))), .int (nI (en)), .int (nI (i)), .int (nI (kn))]) (rest := [.int (nI (cnt (fun b => so I N (mc fb en b) (ml fb b) kn) i))]) ⟨hx, hb, hml, hown, hts⟩ (c_X2_isSo l dC dI cD cZ cI cL h b0 b1 b2 b3 N I T R nn (nI 0) (fb) (en) (i) (kn) (by omega) (by omega) (by omega) hq) (cwV 4 hts gX2_tally_X2_isSo rfl rfl rfl (by decide +kernel) ⟨Nat.le_of_ble_eq_true rfl, Nat.le_of_ble_eq_true rfl⟩) (okM_pre ⟨hP, hK⟩) rfl rfl hl.1 rfl (lv_room (Nat.le_of_ble_eq_true rfl)) dX2_tally_43 ⟨Nat.zero_le _, Nat.zero_le _⟩)) (fun r3 er3 => ?_)
    subst er3
    refine jb_if_eq hx hb dX2_tally_46 dX2_tally_49 dX2_tally_50 dX2_tally_53 ?_
    refine xn_iadd hx hb dX2_tally_54 ?_
    refine lv_istore (lv' := [(4, .int (nI ((cnt (fun b => so I N (mc fb en b) (ml fb b) kn) i) + (Bool.toNat (so I N (mc fb en i) (ml fb i) kn))))), (5, .int (nI (i))), (0, .ref h), (1, .int (nI (Bool.toNat (fb)))), (2, .int (nI (en))), (3, .int (nI (kn)))]) hx hb dX2_tally_55 hl (by decide) rfl (fun ls hl => ?_)
    refine xn_iinc (lv2 := [(5, .int (nI (i + 1))), (4, .int (nI ((cnt (fun b => so I N (mc fb en b) (ml fb b) kn) i) + (Bool.toNat (so I N (mc fb en i) (ml fb i) kn))))), (0, .ref h), (1, .int (nI (Bool.toNat (fb)))), (2, .int (nI (en))), (3, .int (nI (kn)))]) hx hb dX2_tally_57 hl (k0 := 1) rfl (by decide) rfl (fun ls hl => ?_)
    refine lv_goto (tgt := 29) hx hb dX2_tally_60 (by decide) ?_
    exact ih (i + 1) ls ⟨by omega, by omega, lv_sub hl [1, 0, 2, 3, 4, 5] rfl⟩
set_option maxHeartbeats 4000000 in
set_option maxRecDepth 100000 in
theorem c_X2_tally_n1 (l : Launch) (dC : Nat → ClassId) (dI : Nat → Nat → Nat) (cD cZ cI cL : ClassId) (h b0 b1 b2 b3 : Nat) (N : Nat → UInt64) (I T R : Nat → Int32) (nn : Nat) (th : Int32) (sz : Nat) (hnn : nn ≤ 6) (fb : Bool) (ev kv : Int32) (hbad : vB ev nn = false) : Met l yX2_tally wsX2_tally ({ frames := 2, cells := 0, slots := 0, locals := 42 }) (va_Pc [.ref h, .int (nI (Bool.toNat (fb))), .int (ev), .int (kv)] (fun U => U.heap.size = sz ∧ okM dC dI cD cZ cI cL h b0 b1 b2 b3 N I T R nn th U U.heap ∧ va_D (fun _ => True) (wM cD cZ cI cL h b0 b1 b2 b3 N I T R nn th))) (va_Qi (fun (r : Int32) (_ : Unit) => r = nI 0) (fun _ t => atM dC dI cD cZ cI cL (va_A (wM cD cZ cI cL h b0 b1 b2 b3 N I T R nn th) sz) h b0 b1 b2 b3 N I T R nn (nI 1) t) (va_A (wM cD cZ cI cL h b0 b1 b2 b3 N I T R nn th) sz)) 0 0 (va_A (wM cD cZ cI cL h b0 b1 b2 b3 N I T R nn th) sz) := by
  refine Met.ofW (cc := cX2_tally) (maxL := 6) (ret := (some .int)) (by decide) rfl ?_
  intro p e s m args below meth c s₁ B hml hv
  obtain ⟨rfl, hsz, hO, hD0⟩ := hv
  obtain ⟨hP, hK⟩ := id hO
  have hx := B.exec
  have hb := B.bytes
  have hr := B.returns
  have hts := atoms_spec (ws := wsX2_tally) B.pre
  have hown : s.vm.findClass RX2 = some m.cls := findClass_of_methodNamed B.named
  have hlocks := B.notSynchronized
  subst hsz
  have hD := hD0.self (sz := s.heap.size)
  generalize hAe : va_A (wM cD cZ cI cL h b0 b1 b2 b3 N I T R nn th) s.heap.size = A at hD ⊢
  have hA : ∀ q : Nat, s.heap.size ≤ q → A q := fun q h => by rw [← hAe]; exact Or.inr h
  have hS : va_S A s.heap s.heap [] := va_S.rf
  have hP : va_P (dC, dI) vwCl [(h, .inr (2, [.ref b0, .ref b1, .ref b2, .ref b3, .int (nI (nn)), .int (th)])), (b0, .inl (cD, 70, .inr (.inr (.inr (.inl (N)))))), (b1, .inl (cZ, 70, .inl (I))), (b2, .inl (cI, 60, .inl (T))), (b3, .inl (cI, 6, .inl (R)))] s.heap := hP
  have hD : va_D A [(h, .inr (2, [.ref b0, .ref b1, .ref b2, .ref b3, .int (nI (nn)), .int (th)])), (b0, .inl (cD, 70, .inr (.inr (.inr (.inl (N)))))), (b1, .inl (cZ, 70, .inl (I))), (b2, .inl (cI, 60, .inl (T))), (b3, .inl (cI, 6, .inl (R)))] := hD
  have hin2 : ∀ w ∈ wsX20, w ∈ wsX2_tally := (fun w h => List.mem_cons_of_mem _ (List.mem_append_right _ h))
  have fl24 := hts (.fieldLink RX2 24 "JuryTableModel" "thrown" "I") (by decide +kernel)
  have hl := lv_entry ([.ref h, .int (nI (Bool.toNat (fb))), .int (ev), .int (kv)]) (n := 6) (Nat.le_of_ble_eq_true rfl)
  rw [lg_entry_eq]
  generalize (lg_sl ([.ref h, .int (nI (Bool.toNat (fb))), .int (ev), .int (kv)]) ++ List.replicate (6 - (lg_sl ([.ref h, .int (nI (Bool.toNat (fb))), .int (ev), .int (kv)])).length) Slot.unset).toArray = ls at hl ⊢
  have hl : lv_has ls 6 [(0, .ref h), (1, .int (nI (Bool.toNat (fb)))), (2, .int (ev)), (3, .int (kv))] := hl
  refine lv_aload_n hx hb dX2_tally_0 rfl (lv_at hl 0 rfl) ?_
  refine lv_iconst (v := nI 0) hx hb dX2_tally_1 (by decide) ?_
  refine va_put (D := (dC, dI)) (ci := 2) (v := .int (nI (0))) (ty := .int) (C := RX2) (T := TX2) (N := 6) hx hb hts hin2 tyX2 tyX2_ok nmX2 hown hK hP hD hS 0 rfl rfl 5 (by decide) fl24 (fun _ h9 => h9) rfl (by decide +kernel) rfl rfl (Nat.le_of_ble_eq_true rfl) dX2_tally_2 (fun H locs hP hD hS => ?_)
  have hP : va_P (dC, dI) vwCl [(h, .inr (2, [.ref b0, .ref b1, .ref b2, .ref b3, .int (nI (nn)), .int (nI (0))])), (b0, .inl (cD, 70, .inr (.inr (.inr (.inl (N)))))), (b1, .inl (cZ, 70, .inl (I))), (b2, .inl (cI, 60, .inl (T))), (b3, .inl (cI, 6, .inl (R)))] H := hP
  have hD : va_D A [(h, .inr (2, [.ref b0, .ref b1, .ref b2, .ref b3, .int (nI (nn)), .int (nI (0))])), (b0, .inl (cD, 70, .inr (.inr (.inr (.inl (N)))))), (b1, .inl (cZ, 70, .inl (I))), (b2, .inl (cI, 60, .inl (T))), (b3, .inl (cI, 6, .inl (R)))] := hD
  refine lv_iconst (v := nI 0) hx hb dX2_tally_5 (by decide) ?_
  refine lv_istore (lv' := [(4, .int (nI (0))), (0, .ref h), (1, .int (nI (Bool.toNat (fb)))), (2, .int (ev)), (3, .int (kv))]) hx hb dX2_tally_6 hl (by decide) rfl (fun ls hl => ?_)
  refine lv_aload_n hx hb dX2_tally_8 rfl (lv_at hl 1 rfl) ?_
  refine lv_iload_n hx hb dX2_tally_9 rfl (lv_at hl 3 rfl) ?_
  have hPc := hP.sub (ws' := [(h, .inr (2, [.ref b0, .ref b1, .ref b2, .ref b3, .int (nI (nn)), .int (nI (0))])), (b0, .inl (cD, 70, .inr (.inr (.inr (.inl (N)))))), (b1, .inl (cZ, 70, .inl (I))), (b2, .inl (cI, 60, .inl (T))), (b3, .inl (cI, 6, .inl (R)))]) [0, 1, 2, 3, 4] rfl
  have hDc := hD.sub (ws' := [(h, .inr (2, [.ref b0, .ref b1, .ref b2, .ref b3, .int (nI (nn)), .int (nI (0))])), (b0, .inl (cD, 70, .inr (.inr (.inr (.inl (N)))))), (b1, .inl (cZ, 70, .inl (I))), (b2, .inl (cI, 60, .inl (T))), (b3, .inl (cI, 6, .inl (R)))]) [0, 1, 2, 3, 4] (by decide) rfl
  have hFc := va_free (wc := [(h, .inr (2, [.ref b0, .ref b1, .ref b2, .ref b3, .int (nI (nn)), .int (nI (0))])), (b0, .inl (cD, 70, .inr (.inr (.inr (.inl (N)))))), (b1, .inl (cZ, 70, .inl (I))), (b2, .inl (cI, 60, .inl (T))), (b3, .inl (cI, 6, .inl (R)))]) hD hS hA [0, 1, 2, 3, 4] rfl
  refine va_calli (va_runV (As := [.int (ev)]) (rest := []) ⟨hx, hb, hml, hown, hts⟩ (c_X2_hasEntry_no l dC dI cD cZ cI cL h b0 b1 b2 b3 N I T R nn (nI 0) H.size (ev) hbad) (cwV 1 hts gX2_tally_X2_hasEntry rfl rfl rfl (by decide +kernel) ⟨Nat.le_of_ble_eq_true rfl, Nat.le_of_ble_eq_true rfl⟩) (okMW_pre ⟨hP, hK⟩ hD) rfl rfl hl.1 rfl (lv_room (Nat.le_of_ble_eq_true rfl)) dX2_tally_10 ⟨Nat.zero_le _, Nat.zero_le _⟩) hS (fun q _ h => hFc q h) hFc (fun r1 u1 t H1 locs ht hvm hw hB hz1 hk1 hS => ?_)
  obtain ⟨hP1, hK1, hD1⟩ := hB
  rw [ht] at hP1
  have hD := hD1.weaken (fun _ q _ h => hFc q.1 h)
  have hP := hP1
  generalize H1 = H at hP hS ⊢
  have hP : va_P (dC, dI) vwCl [(h, .inr (2, [.ref b0, .ref b1, .ref b2, .ref b3, .int (nI (nn)), .int (nI (1))])), (b0, .inl (cD, 70, .inr (.inr (.inr (.inl (N)))))), (b1, .inl (cZ, 70, .inl (I))), (b2, .inl (cI, 60, .inl (T))), (b3, .inl (cI, 6, .inl (R)))] H := hP
  have hD : va_D A [(h, .inr (2, [.ref b0, .ref b1, .ref b2, .ref b3, .int (nI (nn)), .int (nI (1))])), (b0, .inl (cD, 70, .inr (.inr (.inr (.inl (N)))))), (b1, .inl (cZ, 70, .inl (I))), (b2, .inl (cI, 60, .inl (T))), (b3, .inl (cI, 6, .inl (R)))] := hD
  subst hw
  refine xb_if_eq (tgt := 24) hx hb dX2_tally_13 (by decide) (fun _ => ?_) (fun q => absurd q (by decide))
  refine lv_iconst (v := nI 0) hx hb dX2_tally_24 (by decide) ?_
  exact W.iret (v := nI 0) hx hb hr (fun t ht hW => ⟨⟨_, (), rfl, rfl, by rw [ht]; exact hP, va_K.moved hW.alike hK, hD⟩, hS.F ht⟩) hS.2.2 dX2_tally_25
set_option maxHeartbeats 4000000 in
set_option maxRecDepth 100000 in
theorem c_X2_tally_n3 (l : Launch) (dC : Nat → ClassId) (dI : Nat → Nat → Nat) (cD cZ cI cL : ClassId) (h b0 b1 b2 b3 : Nat) (N : Nat → UInt64) (I T R : Nat → Int32) (nn : Nat) (th : Int32) (sz : Nat) (hnn : nn ≤ 6) (fb : Bool) (en : Nat) (kv : Int32) (hen : en < nn) (hbad : vB kv 24 = false) : Met l yX2_tally wsX2_tally ({ frames := 2, cells := 0, slots := 0, locals := 42 }) (va_Pc [.ref h, .int (nI (Bool.toNat (fb))), .int (nI (en)), .int (kv)] (fun U => U.heap.size = sz ∧ okM dC dI cD cZ cI cL h b0 b1 b2 b3 N I T R nn th U U.heap ∧ va_D (fun _ => True) (wM cD cZ cI cL h b0 b1 b2 b3 N I T R nn th))) (va_Qi (fun (r : Int32) (_ : Unit) => r = nI 0) (fun _ t => atM dC dI cD cZ cI cL (va_A (wM cD cZ cI cL h b0 b1 b2 b3 N I T R nn th) sz) h b0 b1 b2 b3 N I T R nn (nI 2) t) (va_A (wM cD cZ cI cL h b0 b1 b2 b3 N I T R nn th) sz)) 0 0 (va_A (wM cD cZ cI cL h b0 b1 b2 b3 N I T R nn th) sz) := by
  refine Met.ofW (cc := cX2_tally) (maxL := 6) (ret := (some .int)) (by decide) rfl ?_
  intro p e s m args below meth c s₁ B hml hv
  obtain ⟨rfl, hsz, hO, hD0⟩ := hv
  obtain ⟨hP, hK⟩ := id hO
  have hx := B.exec
  have hb := B.bytes
  have hr := B.returns
  have hts := atoms_spec (ws := wsX2_tally) B.pre
  have hown : s.vm.findClass RX2 = some m.cls := findClass_of_methodNamed B.named
  have hlocks := B.notSynchronized
  subst hsz
  have hD := hD0.self (sz := s.heap.size)
  generalize hAe : va_A (wM cD cZ cI cL h b0 b1 b2 b3 N I T R nn th) s.heap.size = A at hD ⊢
  have hA : ∀ q : Nat, s.heap.size ≤ q → A q := fun q h => by rw [← hAe]; exact Or.inr h
  have hS : va_S A s.heap s.heap [] := va_S.rf
  have hP : va_P (dC, dI) vwCl [(h, .inr (2, [.ref b0, .ref b1, .ref b2, .ref b3, .int (nI (nn)), .int (th)])), (b0, .inl (cD, 70, .inr (.inr (.inr (.inl (N)))))), (b1, .inl (cZ, 70, .inl (I))), (b2, .inl (cI, 60, .inl (T))), (b3, .inl (cI, 6, .inl (R)))] s.heap := hP
  have hD : va_D A [(h, .inr (2, [.ref b0, .ref b1, .ref b2, .ref b3, .int (nI (nn)), .int (th)])), (b0, .inl (cD, 70, .inr (.inr (.inr (.inl (N)))))), (b1, .inl (cZ, 70, .inl (I))), (b2, .inl (cI, 60, .inl (T))), (b3, .inl (cI, 6, .inl (R)))] := hD
  have hin2 : ∀ w ∈ wsX20, w ∈ wsX2_tally := (fun w h => List.mem_cons_of_mem _ (List.mem_append_right _ h))
  have fl24 := hts (.fieldLink RX2 24 "JuryTableModel" "thrown" "I") (by decide +kernel)
  have hl := lv_entry ([.ref h, .int (nI (Bool.toNat (fb))), .int (nI (en)), .int (kv)]) (n := 6) (Nat.le_of_ble_eq_true rfl)
  rw [lg_entry_eq]
  generalize (lg_sl ([.ref h, .int (nI (Bool.toNat (fb))), .int (nI (en)), .int (kv)]) ++ List.replicate (6 - (lg_sl ([.ref h, .int (nI (Bool.toNat (fb))), .int (nI (en)), .int (kv)])).length) Slot.unset).toArray = ls at hl ⊢
  have hl : lv_has ls 6 [(0, .ref h), (1, .int (nI (Bool.toNat (fb)))), (2, .int (nI (en))), (3, .int (kv))] := hl
  refine lv_aload_n hx hb dX2_tally_0 rfl (lv_at hl 0 rfl) ?_
  refine lv_iconst (v := nI 0) hx hb dX2_tally_1 (by decide) ?_
  refine va_put (D := (dC, dI)) (ci := 2) (v := .int (nI (0))) (ty := .int) (C := RX2) (T := TX2) (N := 6) hx hb hts hin2 tyX2 tyX2_ok nmX2 hown hK hP hD hS 0 rfl rfl 5 (by decide) fl24 (fun _ h9 => h9) rfl (by decide +kernel) rfl rfl (Nat.le_of_ble_eq_true rfl) dX2_tally_2 (fun H locs hP hD hS => ?_)
  have hP : va_P (dC, dI) vwCl [(h, .inr (2, [.ref b0, .ref b1, .ref b2, .ref b3, .int (nI (nn)), .int (nI (0))])), (b0, .inl (cD, 70, .inr (.inr (.inr (.inl (N)))))), (b1, .inl (cZ, 70, .inl (I))), (b2, .inl (cI, 60, .inl (T))), (b3, .inl (cI, 6, .inl (R)))] H := hP
  have hD : va_D A [(h, .inr (2, [.ref b0, .ref b1, .ref b2, .ref b3, .int (nI (nn)), .int (nI (0))])), (b0, .inl (cD, 70, .inr (.inr (.inr (.inl (N)))))), (b1, .inl (cZ, 70, .inl (I))), (b2, .inl (cI, 60, .inl (T))), (b3, .inl (cI, 6, .inl (R)))] := hD
  refine lv_iconst (v := nI 0) hx hb dX2_tally_5 (by decide) ?_
  refine lv_istore (lv' := [(4, .int (nI (0))), (0, .ref h), (1, .int (nI (Bool.toNat (fb)))), (2, .int (nI (en))), (3, .int (kv))]) hx hb dX2_tally_6 hl (by decide) rfl (fun ls hl => ?_)
  refine lv_aload_n hx hb dX2_tally_8 rfl (lv_at hl 1 rfl) ?_
  refine lv_iload_n hx hb dX2_tally_9 rfl (lv_at hl 3 rfl) ?_
  refine vp_callSi (va_Run.run (va_runV (As := [.int (nI (en))]) (rest := []) ⟨hx, hb, hml, hown, hts⟩ (c_X2_hasEntry_ok l dC dI cD cZ cI cL h b0 b1 b2 b3 N I T R nn (nI 0) (en) (by omega) (by omega)) (cwV 1 hts gX2_tally_X2_hasEntry rfl rfl rfl (by decide +kernel) ⟨Nat.le_of_ble_eq_true rfl, Nat.le_of_ble_eq_true rfl⟩) (okM_pre ⟨hP, hK⟩) rfl rfl hl.1 rfl (lv_room (Nat.le_of_ble_eq_true rfl)) dX2_tally_10 ⟨Nat.zero_le _, Nat.zero_le _⟩)) (fun r1 er1 => ?_)
  subst er1
  refine xb_if_eq (tgt := 24) hx hb dX2_tally_13 (by decide) (fun q => absurd q (by decide)) (fun _ => ?_)
  refine lv_aload_n hx hb dX2_tally_16 rfl (lv_at hl 1 rfl) ?_
  refine lv_iload_n hx hb dX2_tally_17 rfl (lv_at hl 4 rfl) ?_
  have hPc := hP.sub (ws' := [(h, .inr (2, [.ref b0, .ref b1, .ref b2, .ref b3, .int (nI (nn)), .int (nI (0))])), (b0, .inl (cD, 70, .inr (.inr (.inr (.inl (N)))))), (b1, .inl (cZ, 70, .inl (I))), (b2, .inl (cI, 60, .inl (T))), (b3, .inl (cI, 6, .inl (R)))]) [0, 1, 2, 3, 4] rfl
  have hDc := hD.sub (ws' := [(h, .inr (2, [.ref b0, .ref b1, .ref b2, .ref b3, .int (nI (nn)), .int (nI (0))])), (b0, .inl (cD, 70, .inr (.inr (.inr (.inl (N)))))), (b1, .inl (cZ, 70, .inl (I))), (b2, .inl (cI, 60, .inl (T))), (b3, .inl (cI, 6, .inl (R)))]) [0, 1, 2, 3, 4] (by decide) rfl
  have hFc := va_free (wc := [(h, .inr (2, [.ref b0, .ref b1, .ref b2, .ref b3, .int (nI (nn)), .int (nI (0))])), (b0, .inl (cD, 70, .inr (.inr (.inr (.inl (N)))))), (b1, .inl (cZ, 70, .inl (I))), (b2, .inl (cI, 60, .inl (T))), (b3, .inl (cI, 6, .inl (R)))]) hD hS hA [0, 1, 2, 3, 4] rfl
  refine va_calli (va_runV (As := [.int (kv)]) (rest := []) ⟨hx, hb, hml, hown, hts⟩ (c_X2_isWay_no l dC dI cD cZ cI cL h b0 b1 b2 b3 N I T R nn (nI 0) H.size (kv) hbad) (cwV 1 hts gX2_tally_X2_isWay rfl rfl rfl (by decide +kernel) ⟨Nat.le_of_ble_eq_true rfl, Nat.le_of_ble_eq_true rfl⟩) (okMW_pre ⟨hP, hK⟩ hD) rfl rfl hl.1 rfl (lv_room (Nat.le_of_ble_eq_true rfl)) dX2_tally_18 ⟨Nat.zero_le _, Nat.zero_le _⟩) hS (fun q _ h => hFc q h) hFc (fun r2 u2 t H1 locs ht hvm hw hB hz1 hk1 hS => ?_)
  obtain ⟨hP1, hK1, hD1⟩ := hB
  rw [ht] at hP1
  have hD := hD1.weaken (fun _ q _ h => hFc q.1 h)
  have hP := hP1
  generalize H1 = H at hP hS ⊢
  have hP : va_P (dC, dI) vwCl [(h, .inr (2, [.ref b0, .ref b1, .ref b2, .ref b3, .int (nI (nn)), .int (nI (2))])), (b0, .inl (cD, 70, .inr (.inr (.inr (.inl (N)))))), (b1, .inl (cZ, 70, .inl (I))), (b2, .inl (cI, 60, .inl (T))), (b3, .inl (cI, 6, .inl (R)))] H := hP
  have hD : va_D A [(h, .inr (2, [.ref b0, .ref b1, .ref b2, .ref b3, .int (nI (nn)), .int (nI (2))])), (b0, .inl (cD, 70, .inr (.inr (.inr (.inl (N)))))), (b1, .inl (cZ, 70, .inl (I))), (b2, .inl (cI, 60, .inl (T))), (b3, .inl (cI, 6, .inl (R)))] := hD
  subst hw
  refine xb_if_ne (tgt := 26) hx hb dX2_tally_21 (by decide) (fun q => absurd q (by decide)) (fun _ => ?_)
  refine lv_iconst (v := nI 0) hx hb dX2_tally_24 (by decide) ?_
  exact W.iret (v := nI 0) hx hb hr (fun t ht hW => ⟨⟨_, (), rfl, rfl, by rw [ht]; exact hP, va_K.moved hW.alike hK, hD⟩, hS.F ht⟩) hS.2.2 dX2_tally_25
set_option maxHeartbeats 4000000 in
set_option maxRecDepth 100000 in
theorem c_X2_run_ok (l : Launch) (dC : Nat → ClassId) (dI : Nat → Nat → Nat) (cD cZ cI cL : ClassId) (h b0 b1 b2 b3 : Nat) (N : Nat → UInt64) (I T R : Nat → Int32) (nn : Nat) (th : Int32) (sz : Nat) (hnn : nn ≤ 6) (fb : Bool) (en fr kn : Nat) (hen : en < nn) (hfr : fr < 6) (hkn : kn < 24) (hq : ∀ x y, FP.dcmp (N x) (N y) ≠ none) : Met l yX2_run wsX2_run ({ frames := 2, cells := 0, slots := 0, locals := 52 }) (va_Pc [.ref h, .int (nI (Bool.toNat (fb))), .int (nI (en)), .int (nI (fr)), .int (nI (kn))] (fun U => U.heap.size = sz ∧ okM dC dI cD cZ cI cL h b0 b1 b2 b3 N I T R nn th U U.heap ∧ va_D (fun _ => True) (wM cD cZ cI cL h b0 b1 b2 b3 N I T R nn th))) (va_Qi (fun (r : Int32) (_ : Unit) => r = nI (stp (fun b => so I N (mc fb en b) (ml fb b) kn) (5 - fr) fr)) (fun _ t => atM dC dI cD cZ cI cL (va_A (wM cD cZ cI cL h b0 b1 b2 b3 N I T R nn th) sz) h b0 b1 b2 b3 N I T R nn (nI 0) t) (va_A (wM cD cZ cI cL h b0 b1 b2 b3 N I T R nn th) sz)) 0 0 (va_A (wM cD cZ cI cL h b0 b1 b2 b3 N I T R nn th) sz) := by
  refine Met.ofW (cc := cX2_run) (maxL := 6) (ret := (some .int)) (by decide) rfl ?_
  intro p e s m args below meth c s₁ B hml hv
  obtain ⟨rfl, hsz, hO, hD0⟩ := hv
  obtain ⟨hP, hK⟩ := id hO
  have hx := B.exec
  have hb := B.bytes
  have hr := B.returns
  have hts := atoms_spec (ws := wsX2_run) B.pre
  have hown : s.vm.findClass RX2 = some m.cls := findClass_of_methodNamed B.named
  have hlocks := B.notSynchronized
  subst hsz
  have hD := hD0.self (sz := s.heap.size)
  generalize hAe : va_A (wM cD cZ cI cL h b0 b1 b2 b3 N I T R nn th) s.heap.size = A at hD ⊢
  have hA : ∀ q : Nat, s.heap.size ≤ q → A q := fun q h => by rw [← hAe]; exact Or.inr h
  have hS : va_S A s.heap s.heap [] := va_S.rf
  have hP : va_P (dC, dI) vwCl [(h, .inr (2, [.ref b0, .ref b1, .ref b2, .ref b3, .int (nI (nn)), .int (th)])), (b0, .inl (cD, 70, .inr (.inr (.inr (.inl (N)))))), (b1, .inl (cZ, 70, .inl (I))), (b2, .inl (cI, 60, .inl (T))), (b3, .inl (cI, 6, .inl (R)))] s.heap := hP
  have hD : va_D A [(h, .inr (2, [.ref b0, .ref b1, .ref b2, .ref b3, .int (nI (nn)), .int (th)])), (b0, .inl (cD, 70, .inr (.inr (.inr (.inl (N)))))), (b1, .inl (cZ, 70, .inl (I))), (b2, .inl (cI, 60, .inl (T))), (b3, .inl (cI, 6, .inl (R)))] := hD
  have hin2 : ∀ w ∈ wsX20, w ∈ wsX2_run := (fun w h => List.mem_cons_of_mem _ (List.mem_append_right _ h))
  have fl24 := hts (.fieldLink RX2 24 "JuryTableModel" "thrown" "I") (by decide +kernel)
  have hl := lv_entry ([.ref h, .int (nI (Bool.toNat (fb))), .int (nI (en)), .int (nI (fr)), .int (nI (kn))]) (n := 6) (Nat.le_of_ble_eq_true rfl)
  rw [lg_entry_eq]
  generalize (lg_sl ([.ref h, .int (nI (Bool.toNat (fb))), .int (nI (en)), .int (nI (fr)), .int (nI (kn))]) ++ List.replicate (6 - (lg_sl ([.ref h, .int (nI (Bool.toNat (fb))), .int (nI (en)), .int (nI (fr)), .int (nI (kn))])).length) Slot.unset).toArray = ls at hl ⊢
  have hl : lv_has ls 6 [(0, .ref h), (1, .int (nI (Bool.toNat (fb)))), (2, .int (nI (en))), (3, .int (nI (fr))), (4, .int (nI (kn)))] := hl
  refine lv_aload_n hx hb dX2_run_0 rfl (lv_at hl 0 rfl) ?_
  refine lv_iconst (v := nI 0) hx hb dX2_run_1 (by decide) ?_
  refine va_put (D := (dC, dI)) (ci := 2) (v := .int (nI (0))) (ty := .int) (C := RX2) (T := TX2) (N := 6) hx hb hts hin2 tyX2 tyX2_ok nmX2 hown hK hP hD hS 0 rfl rfl 5 (by decide) fl24 (fun _ h9 => h9) rfl (by decide +kernel) rfl rfl (Nat.le_of_ble_eq_true rfl) dX2_run_2 (fun H locs hP hD hS => ?_)
  have hP : va_P (dC, dI) vwCl [(h, .inr (2, [.ref b0, .ref b1, .ref b2, .ref b3, .int (nI (nn)), .int (nI (0))])), (b0, .inl (cD, 70, .inr (.inr (.inr (.inl (N)))))), (b1, .inl (cZ, 70, .inl (I))), (b2, .inl (cI, 60, .inl (T))), (b3, .inl (cI, 6, .inl (R)))] H := hP
  have hD : va_D A [(h, .inr (2, [.ref b0, .ref b1, .ref b2, .ref b3, .int (nI (nn)), .int (nI (0))])), (b0, .inl (cD, 70, .inr (.inr (.inr (.inl (N)))))), (b1, .inl (cZ, 70, .inl (I))), (b2, .inl (cI, 60, .inl (T))), (b3, .inl (cI, 6, .inl (R)))] := hD
  refine lv_aload_n hx hb dX2_run_5 rfl (lv_at hl 0 rfl) ?_
  refine lv_iload_n hx hb dX2_run_6 rfl (lv_at hl 2 rfl) ?_
  refine vp_callSi (va_Run.run (va_runV (As := [.int (nI (en))]) (rest := []) ⟨hx, hb, hml, hown, hts⟩ (c_X2_hasEntry_ok l dC dI cD cZ cI cL h b0 b1 b2 b3 N I T R nn (nI 0) (en) (by omega) (by omega)) (cwV 1 hts gX2_run_X2_hasEntry rfl rfl rfl (by decide +kernel) ⟨Nat.le_of_ble_eq_true rfl, Nat.le_of_ble_eq_true rfl⟩) (okM_pre ⟨hP, hK⟩) rfl rfl hl.1 rfl (lv_room (Nat.le_of_ble_eq_true rfl)) dX2_run_7 ⟨Nat.zero_le _, Nat.zero_le _⟩)) (fun r1 er1 => ?_)
  subst er1
  refine xb_if_ne (tgt := 15) hx hb dX2_run_10 (by decide) (fun _ => ?_) (fun q => absurd q (by decide))
  refine lv_iload_n hx hb dX2_run_15 rfl (lv_at hl 3 rfl) ?_
  refine lv_bipush (v := nI 6) hx hb dX2_run_16 (by decide) ?_
  refine vp_callSi (va_Run.run (va_runS (As := [.int (nI (fr)), .int (nI (6))]) (rest := []) ⟨hx, hb, hml, hown, hts⟩ (c_X2_in l (nI fr) (6)) (va_cwS 2 hts gX2_run_X2_in rfl rfl rfl (by decide +kernel) ⟨Nat.le_of_ble_eq_true rfl, Nat.le_of_ble_eq_true rfl⟩) preT rfl rfl hl.1 rfl (lv_room (Nat.le_of_ble_eq_true rfl)) dX2_run_18 ⟨Nat.zero_le _, Nat.zero_le _⟩)) (fun r2 er2 => ?_)
  subst er2
  rw [vB_nI (show fr < 6 by omega) (by omega)]
  refine xb_if_ne (tgt := 29) hx hb dX2_run_21 (by decide) (fun _ => ?_) (fun q => absurd q (by decide))
  refine lv_aload_n hx hb dX2_run_29 rfl (lv_at hl 0 rfl) ?_
  refine va_get (D := (dC, dI)) (ci := 2) (v := .int (nI (0))) (C := RX2) (T := TX2) (N := 6) hx hb hts hin2 hown hK hP 0 rfl rfl 5 (by decide) fl24 (fun _ h9 => h9) rfl dX2_run_30 ?_
  refine lv_if_gt (tgt := 45) hx hb dX2_run_33 (by decide) (fun q => absurd q (by decide)) (fun _ => ?_)
  refine lv_aload_n hx hb dX2_run_36 rfl (lv_at hl 0 rfl) ?_
  refine lv_iload hx hb dX2_run_37 (lv_at hl 4 rfl) ?_
  refine vp_callSi (va_Run.run (va_runV (As := [.int (nI (kn))]) (rest := []) ⟨hx, hb, hml, hown, hts⟩ (c_X2_isWay_ok l dC dI cD cZ cI cL h b0 b1 b2 b3 N I T R nn (nI 0) (kn) (by omega)) (cwV 1 hts gX2_run_X2_isWay rfl rfl rfl (by decide +kernel) ⟨Nat.le_of_ble_eq_true rfl, Nat.le_of_ble_eq_true rfl⟩) (okM_pre ⟨hP, hK⟩) rfl rfl hl.1 rfl (lv_room (Nat.le_of_ble_eq_true rfl)) dX2_run_39 ⟨Nat.zero_le _, Nat.zero_le _⟩)) (fun r3 er3 => ?_)
  subst er3
  refine xb_if_ne (tgt := 47) hx hb dX2_run_42 (by decide) (fun _ => ?_) (fun q => absurd q (by decide))
  refine lv_iload_n hx hb dX2_run_47 rfl (lv_at hl 3 rfl) ?_
  refine lv_istore (lv' := [(5, .int (nI (fr))), (0, .ref h), (1, .int (nI (Bool.toNat (fb)))), (2, .int (nI (en))), (3, .int (nI (fr))), (4, .int (nI (kn)))]) hx hb dX2_run_48 hl (by decide) rfl (fun ls hl => ?_)
  refine W_loop (α := Nat) (P := fun n i ls => i + n = 6 ∧ i < 6 ∧ stp (fun b => so I N (mc fb en b) (ml fb b) kn) (5 - i) i = stp (fun b => so I N (mc fb en b) (ml fb b) kn) (5 - fr) fr ∧ lv_has ls 6 [(5, .int (nI (i))), (0, .ref h), (1, .int (nI (Bool.toNat (fb)))), (2, .int (nI (en))), (4, .int (nI (kn)))]) (st := fun _ => []) 50 (fun i ls h => by have := h.1; have := h.2.1; omega) (fun n ih i ls h => ?_) (6 - fr) (fr) ls ⟨by omega, by omega, rfl, lv_sub hl [0, 1, 2, 3, 5] rfl⟩
  obtain ⟨hin, hi6, h2, hl⟩ := h
  refine lv_iload hx hb dX2_run_50 (lv_at hl 0 rfl) ?_
  refine lv_iconst (v := nI 5) hx hb dX2_run_52 (by decide) ?_
  refine xn_icmp_ge (tgt := 75) hx hb (by omega) (by decide) dX2_run_53 (by decide) (fun c53 => ?_) (fun c53 => ?_)
  · refine lv_iload hx hb dX2_run_75 (lv_at hl 0 rfl) ?_
    exact W.iret (v := nI i) hx hb hr (fun t ht hW => ⟨⟨_, (), rfl, (by rw [← h2, show i = 5 by omega]; rfl), by rw [ht]; exact hP, va_K.moved hW.alike hK, hD⟩, hS.F ht⟩) hS.2.2 dX2_run_77
  · refine lv_aload_n hx hb dX2_run_56 rfl (lv_at hl 1 rfl) ?_
    refine lv_iload_n hx hb dX2_run_57 rfl (lv_at hl 2 rfl) ?_
    refine lv_iload_n hx hb dX2_run_58 rfl (lv_at hl 3 rfl) ?_
    refine lv_iload hx hb dX2_run_59 (lv_at hl 0 rfl) ?_
    refine lv_iload hx hb dX2_run_61 (lv_at hl 4 rfl) ?_
    refine vp_callSi (va_Run.run (va_runV (As := [.int (nI (Bool.toNat (fb))), .int (nI (en)), .int (nI (i)), .int (nI (kn))]) (rest := []) ⟨hx, hb, hml, hown, hts⟩ (c_X2_isSo l dC dI cD cZ cI cL h b0 b1 b2 b3 N I T R nn (nI 0) (fb) (en) (i) (kn) (by omega) (by omega) (by omega) hq) (cwV 4 hts gX2_run_X2_isSo rfl rfl rfl (by decide +kernel) ⟨Nat.le_of_ble_eq_true rfl, Nat.le_of_ble_eq_true rfl⟩) (okM_pre ⟨hP, hK⟩) rfl rfl hl.1 rfl (lv_room (Nat.le_of_ble_eq_true rfl)) dX2_run_63 ⟨Nat.zero_le _, Nat.zero_le _⟩)) (fun r4 er4 => ?_)
    subst er4
    refine xb_if_eq (tgt := 75) hx hb dX2_run_66 (by decide) (fun c66 => ?_) (fun c66 => ?_)
    · refine lv_iload hx hb dX2_run_75 (lv_at hl 0 rfl) ?_
      exact W.iret (v := nI i) hx hb hr (fun t ht hW => ⟨⟨_, (), rfl, (by rw [← h2, show 5 - i = (4 - i) + 1 by omega, stp_stop (f := (fun b => so I N (mc fb en b) (ml fb b) kn)) c66]), by rw [ht]; exact hP, va_K.moved hW.alike hK, hD⟩, hS.F ht⟩) hS.2.2 dX2_run_77
    · refine xn_iinc (lv2 := [(5, .int (nI (i + 1))), (0, .ref h), (1, .int (nI (Bool.toNat (fb)))), (2, .int (nI (en))), (4, .int (nI (kn)))]) hx hb dX2_run_69 hl (k0 := 0) rfl (by decide) rfl (fun ls hl => ?_)
      refine lv_goto (tgt := 50) hx hb dX2_run_72 (by decide) ?_
      exact ih (i + 1) ls ⟨by omega, by omega, by rw [← h2, show 5 - i = (5 - (i + 1)) + 1 by omega, stp_go (f := (fun b => so I N (mc fb en b) (ml fb b) kn)) c66], lv_sub hl [0, 1, 2, 3, 4] rfl⟩
set_option maxHeartbeats 4000000 in
set_option maxRecDepth 100000 in
theorem c_X2_run_n1 (l : Launch) (dC : Nat → ClassId) (dI : Nat → Nat → Nat) (cD cZ cI cL : ClassId) (h b0 b1 b2 b3 : Nat) (N : Nat → UInt64) (I T R : Nat → Int32) (nn : Nat) (th : Int32) (sz : Nat) (hnn : nn ≤ 6) (fb : Bool) (ev bv kv : Int32) (hbad : vB ev nn = false) : Met l yX2_run wsX2_run ({ frames := 2, cells := 0, slots := 0, locals := 42 }) (va_Pc [.ref h, .int (nI (Bool.toNat (fb))), .int (ev), .int (bv), .int (kv)] (fun U => U.heap.size = sz ∧ okM dC dI cD cZ cI cL h b0 b1 b2 b3 N I T R nn th U U.heap ∧ va_D (fun _ => True) (wM cD cZ cI cL h b0 b1 b2 b3 N I T R nn th))) (va_Qi (fun (r : Int32) (_ : Unit) => r = nI 0) (fun _ t => atM dC dI cD cZ cI cL (va_A (wM cD cZ cI cL h b0 b1 b2 b3 N I T R nn th) sz) h b0 b1 b2 b3 N I T R nn (nI 1) t) (va_A (wM cD cZ cI cL h b0 b1 b2 b3 N I T R nn th) sz)) 0 0 (va_A (wM cD cZ cI cL h b0 b1 b2 b3 N I T R nn th) sz) := by
  refine Met.ofW (cc := cX2_run) (maxL := 6) (ret := (some .int)) (by decide) rfl ?_
  intro p e s m args below meth c s₁ B hml hv
  obtain ⟨rfl, hsz, hO, hD0⟩ := hv
  obtain ⟨hP, hK⟩ := id hO
  have hx := B.exec
  have hb := B.bytes
  have hr := B.returns
  have hts := atoms_spec (ws := wsX2_run) B.pre
  have hown : s.vm.findClass RX2 = some m.cls := findClass_of_methodNamed B.named
  have hlocks := B.notSynchronized
  subst hsz
  have hD := hD0.self (sz := s.heap.size)
  generalize hAe : va_A (wM cD cZ cI cL h b0 b1 b2 b3 N I T R nn th) s.heap.size = A at hD ⊢
  have hA : ∀ q : Nat, s.heap.size ≤ q → A q := fun q h => by rw [← hAe]; exact Or.inr h
  have hS : va_S A s.heap s.heap [] := va_S.rf
  have hP : va_P (dC, dI) vwCl [(h, .inr (2, [.ref b0, .ref b1, .ref b2, .ref b3, .int (nI (nn)), .int (th)])), (b0, .inl (cD, 70, .inr (.inr (.inr (.inl (N)))))), (b1, .inl (cZ, 70, .inl (I))), (b2, .inl (cI, 60, .inl (T))), (b3, .inl (cI, 6, .inl (R)))] s.heap := hP
  have hD : va_D A [(h, .inr (2, [.ref b0, .ref b1, .ref b2, .ref b3, .int (nI (nn)), .int (th)])), (b0, .inl (cD, 70, .inr (.inr (.inr (.inl (N)))))), (b1, .inl (cZ, 70, .inl (I))), (b2, .inl (cI, 60, .inl (T))), (b3, .inl (cI, 6, .inl (R)))] := hD
  have hin2 : ∀ w ∈ wsX20, w ∈ wsX2_run := (fun w h => List.mem_cons_of_mem _ (List.mem_append_right _ h))
  have fl24 := hts (.fieldLink RX2 24 "JuryTableModel" "thrown" "I") (by decide +kernel)
  have hl := lv_entry ([.ref h, .int (nI (Bool.toNat (fb))), .int (ev), .int (bv), .int (kv)]) (n := 6) (Nat.le_of_ble_eq_true rfl)
  rw [lg_entry_eq]
  generalize (lg_sl ([.ref h, .int (nI (Bool.toNat (fb))), .int (ev), .int (bv), .int (kv)]) ++ List.replicate (6 - (lg_sl ([.ref h, .int (nI (Bool.toNat (fb))), .int (ev), .int (bv), .int (kv)])).length) Slot.unset).toArray = ls at hl ⊢
  have hl : lv_has ls 6 [(0, .ref h), (1, .int (nI (Bool.toNat (fb)))), (2, .int (ev)), (3, .int (bv)), (4, .int (kv))] := hl
  refine lv_aload_n hx hb dX2_run_0 rfl (lv_at hl 0 rfl) ?_
  refine lv_iconst (v := nI 0) hx hb dX2_run_1 (by decide) ?_
  refine va_put (D := (dC, dI)) (ci := 2) (v := .int (nI (0))) (ty := .int) (C := RX2) (T := TX2) (N := 6) hx hb hts hin2 tyX2 tyX2_ok nmX2 hown hK hP hD hS 0 rfl rfl 5 (by decide) fl24 (fun _ h9 => h9) rfl (by decide +kernel) rfl rfl (Nat.le_of_ble_eq_true rfl) dX2_run_2 (fun H locs hP hD hS => ?_)
  have hP : va_P (dC, dI) vwCl [(h, .inr (2, [.ref b0, .ref b1, .ref b2, .ref b3, .int (nI (nn)), .int (nI (0))])), (b0, .inl (cD, 70, .inr (.inr (.inr (.inl (N)))))), (b1, .inl (cZ, 70, .inl (I))), (b2, .inl (cI, 60, .inl (T))), (b3, .inl (cI, 6, .inl (R)))] H := hP
  have hD : va_D A [(h, .inr (2, [.ref b0, .ref b1, .ref b2, .ref b3, .int (nI (nn)), .int (nI (0))])), (b0, .inl (cD, 70, .inr (.inr (.inr (.inl (N)))))), (b1, .inl (cZ, 70, .inl (I))), (b2, .inl (cI, 60, .inl (T))), (b3, .inl (cI, 6, .inl (R)))] := hD
  refine lv_aload_n hx hb dX2_run_5 rfl (lv_at hl 0 rfl) ?_
  refine lv_iload_n hx hb dX2_run_6 rfl (lv_at hl 2 rfl) ?_
  have hPc := hP.sub (ws' := [(h, .inr (2, [.ref b0, .ref b1, .ref b2, .ref b3, .int (nI (nn)), .int (nI (0))])), (b0, .inl (cD, 70, .inr (.inr (.inr (.inl (N)))))), (b1, .inl (cZ, 70, .inl (I))), (b2, .inl (cI, 60, .inl (T))), (b3, .inl (cI, 6, .inl (R)))]) [0, 1, 2, 3, 4] rfl
  have hDc := hD.sub (ws' := [(h, .inr (2, [.ref b0, .ref b1, .ref b2, .ref b3, .int (nI (nn)), .int (nI (0))])), (b0, .inl (cD, 70, .inr (.inr (.inr (.inl (N)))))), (b1, .inl (cZ, 70, .inl (I))), (b2, .inl (cI, 60, .inl (T))), (b3, .inl (cI, 6, .inl (R)))]) [0, 1, 2, 3, 4] (by decide) rfl
  have hFc := va_free (wc := [(h, .inr (2, [.ref b0, .ref b1, .ref b2, .ref b3, .int (nI (nn)), .int (nI (0))])), (b0, .inl (cD, 70, .inr (.inr (.inr (.inl (N)))))), (b1, .inl (cZ, 70, .inl (I))), (b2, .inl (cI, 60, .inl (T))), (b3, .inl (cI, 6, .inl (R)))]) hD hS hA [0, 1, 2, 3, 4] rfl
  refine va_calli (va_runV (As := [.int (ev)]) (rest := []) ⟨hx, hb, hml, hown, hts⟩ (c_X2_hasEntry_no l dC dI cD cZ cI cL h b0 b1 b2 b3 N I T R nn (nI 0) H.size (ev) hbad) (cwV 1 hts gX2_run_X2_hasEntry rfl rfl rfl (by decide +kernel) ⟨Nat.le_of_ble_eq_true rfl, Nat.le_of_ble_eq_true rfl⟩) (okMW_pre ⟨hP, hK⟩ hD) rfl rfl hl.1 rfl (lv_room (Nat.le_of_ble_eq_true rfl)) dX2_run_7 ⟨Nat.zero_le _, Nat.zero_le _⟩) hS (fun q _ h => hFc q h) hFc (fun r1 u1 t H1 locs ht hvm hw hB hz1 hk1 hS => ?_)
  obtain ⟨hP1, hK1, hD1⟩ := hB
  rw [ht] at hP1
  have hD := hD1.weaken (fun _ q _ h => hFc q.1 h)
  have hP := hP1
  generalize H1 = H at hP hS ⊢
  have hP : va_P (dC, dI) vwCl [(h, .inr (2, [.ref b0, .ref b1, .ref b2, .ref b3, .int (nI (nn)), .int (nI (1))])), (b0, .inl (cD, 70, .inr (.inr (.inr (.inl (N)))))), (b1, .inl (cZ, 70, .inl (I))), (b2, .inl (cI, 60, .inl (T))), (b3, .inl (cI, 6, .inl (R)))] H := hP
  have hD : va_D A [(h, .inr (2, [.ref b0, .ref b1, .ref b2, .ref b3, .int (nI (nn)), .int (nI (1))])), (b0, .inl (cD, 70, .inr (.inr (.inr (.inl (N)))))), (b1, .inl (cZ, 70, .inl (I))), (b2, .inl (cI, 60, .inl (T))), (b3, .inl (cI, 6, .inl (R)))] := hD
  subst hw
  refine xb_if_ne (tgt := 15) hx hb dX2_run_10 (by decide) (fun q => absurd q (by decide)) (fun _ => ?_)
  refine lv_iconst (v := nI 0) hx hb dX2_run_13 (by decide) ?_
  exact W.iret (v := nI 0) hx hb hr (fun t ht hW => ⟨⟨_, (), rfl, rfl, by rw [ht]; exact hP, va_K.moved hW.alike hK, hD⟩, hS.F ht⟩) hS.2.2 dX2_run_14
set_option maxHeartbeats 4000000 in
set_option maxRecDepth 100000 in
theorem c_X2_run_n2 (l : Launch) (dC : Nat → ClassId) (dI : Nat → Nat → Nat) (cD cZ cI cL : ClassId) (h b0 b1 b2 b3 : Nat) (N : Nat → UInt64) (I T R : Nat → Int32) (nn : Nat) (th : Int32) (sz : Nat) (hnn : nn ≤ 6) (fb : Bool) (en : Nat) (bv kv : Int32) (hen : en < nn) (hbad : vB bv 6 = false) : Met l yX2_run wsX2_run ({ frames := 2, cells := 0, slots := 0, locals := 42 }) (va_Pc [.ref h, .int (nI (Bool.toNat (fb))), .int (nI (en)), .int (bv), .int (kv)] (fun U => U.heap.size = sz ∧ okM dC dI cD cZ cI cL h b0 b1 b2 b3 N I T R nn th U U.heap ∧ va_D (fun _ => True) (wM cD cZ cI cL h b0 b1 b2 b3 N I T R nn th))) (va_Qi (fun (r : Int32) (_ : Unit) => r = nI 0) (fun _ t => atM dC dI cD cZ cI cL (va_A (wM cD cZ cI cL h b0 b1 b2 b3 N I T R nn th) sz) h b0 b1 b2 b3 N I T R nn (nI 1) t) (va_A (wM cD cZ cI cL h b0 b1 b2 b3 N I T R nn th) sz)) 0 0 (va_A (wM cD cZ cI cL h b0 b1 b2 b3 N I T R nn th) sz) := by
  refine Met.ofW (cc := cX2_run) (maxL := 6) (ret := (some .int)) (by decide) rfl ?_
  intro p e s m args below meth c s₁ B hml hv
  obtain ⟨rfl, hsz, hO, hD0⟩ := hv
  obtain ⟨hP, hK⟩ := id hO
  have hx := B.exec
  have hb := B.bytes
  have hr := B.returns
  have hts := atoms_spec (ws := wsX2_run) B.pre
  have hown : s.vm.findClass RX2 = some m.cls := findClass_of_methodNamed B.named
  have hlocks := B.notSynchronized
  subst hsz
  have hD := hD0.self (sz := s.heap.size)
  generalize hAe : va_A (wM cD cZ cI cL h b0 b1 b2 b3 N I T R nn th) s.heap.size = A at hD ⊢
  have hA : ∀ q : Nat, s.heap.size ≤ q → A q := fun q h => by rw [← hAe]; exact Or.inr h
  have hS : va_S A s.heap s.heap [] := va_S.rf
  have hP : va_P (dC, dI) vwCl [(h, .inr (2, [.ref b0, .ref b1, .ref b2, .ref b3, .int (nI (nn)), .int (th)])), (b0, .inl (cD, 70, .inr (.inr (.inr (.inl (N)))))), (b1, .inl (cZ, 70, .inl (I))), (b2, .inl (cI, 60, .inl (T))), (b3, .inl (cI, 6, .inl (R)))] s.heap := hP
  have hD : va_D A [(h, .inr (2, [.ref b0, .ref b1, .ref b2, .ref b3, .int (nI (nn)), .int (th)])), (b0, .inl (cD, 70, .inr (.inr (.inr (.inl (N)))))), (b1, .inl (cZ, 70, .inl (I))), (b2, .inl (cI, 60, .inl (T))), (b3, .inl (cI, 6, .inl (R)))] := hD
  have hin2 : ∀ w ∈ wsX20, w ∈ wsX2_run := (fun w h => List.mem_cons_of_mem _ (List.mem_append_right _ h))
  have fl24 := hts (.fieldLink RX2 24 "JuryTableModel" "thrown" "I") (by decide +kernel)
  have hl := lv_entry ([.ref h, .int (nI (Bool.toNat (fb))), .int (nI (en)), .int (bv), .int (kv)]) (n := 6) (Nat.le_of_ble_eq_true rfl)
  rw [lg_entry_eq]
  generalize (lg_sl ([.ref h, .int (nI (Bool.toNat (fb))), .int (nI (en)), .int (bv), .int (kv)]) ++ List.replicate (6 - (lg_sl ([.ref h, .int (nI (Bool.toNat (fb))), .int (nI (en)), .int (bv), .int (kv)])).length) Slot.unset).toArray = ls at hl ⊢
  have hl : lv_has ls 6 [(0, .ref h), (1, .int (nI (Bool.toNat (fb)))), (2, .int (nI (en))), (3, .int (bv)), (4, .int (kv))] := hl
  refine lv_aload_n hx hb dX2_run_0 rfl (lv_at hl 0 rfl) ?_
  refine lv_iconst (v := nI 0) hx hb dX2_run_1 (by decide) ?_
  refine va_put (D := (dC, dI)) (ci := 2) (v := .int (nI (0))) (ty := .int) (C := RX2) (T := TX2) (N := 6) hx hb hts hin2 tyX2 tyX2_ok nmX2 hown hK hP hD hS 0 rfl rfl 5 (by decide) fl24 (fun _ h9 => h9) rfl (by decide +kernel) rfl rfl (Nat.le_of_ble_eq_true rfl) dX2_run_2 (fun H locs hP hD hS => ?_)
  have hP : va_P (dC, dI) vwCl [(h, .inr (2, [.ref b0, .ref b1, .ref b2, .ref b3, .int (nI (nn)), .int (nI (0))])), (b0, .inl (cD, 70, .inr (.inr (.inr (.inl (N)))))), (b1, .inl (cZ, 70, .inl (I))), (b2, .inl (cI, 60, .inl (T))), (b3, .inl (cI, 6, .inl (R)))] H := hP
  have hD : va_D A [(h, .inr (2, [.ref b0, .ref b1, .ref b2, .ref b3, .int (nI (nn)), .int (nI (0))])), (b0, .inl (cD, 70, .inr (.inr (.inr (.inl (N)))))), (b1, .inl (cZ, 70, .inl (I))), (b2, .inl (cI, 60, .inl (T))), (b3, .inl (cI, 6, .inl (R)))] := hD
  refine lv_aload_n hx hb dX2_run_5 rfl (lv_at hl 0 rfl) ?_
  refine lv_iload_n hx hb dX2_run_6 rfl (lv_at hl 2 rfl) ?_
  refine vp_callSi (va_Run.run (va_runV (As := [.int (nI (en))]) (rest := []) ⟨hx, hb, hml, hown, hts⟩ (c_X2_hasEntry_ok l dC dI cD cZ cI cL h b0 b1 b2 b3 N I T R nn (nI 0) (en) (by omega) (by omega)) (cwV 1 hts gX2_run_X2_hasEntry rfl rfl rfl (by decide +kernel) ⟨Nat.le_of_ble_eq_true rfl, Nat.le_of_ble_eq_true rfl⟩) (okM_pre ⟨hP, hK⟩) rfl rfl hl.1 rfl (lv_room (Nat.le_of_ble_eq_true rfl)) dX2_run_7 ⟨Nat.zero_le _, Nat.zero_le _⟩)) (fun r1 er1 => ?_)
  subst er1
  refine xb_if_ne (tgt := 15) hx hb dX2_run_10 (by decide) (fun _ => ?_) (fun q => absurd q (by decide))
  refine lv_iload_n hx hb dX2_run_15 rfl (lv_at hl 3 rfl) ?_
  refine lv_bipush (v := nI 6) hx hb dX2_run_16 (by decide) ?_
  refine vp_callSi (va_Run.run (va_runS (As := [.int (bv), .int (nI (6))]) (rest := []) ⟨hx, hb, hml, hown, hts⟩ (c_X2_in l (bv) (6)) (va_cwS 2 hts gX2_run_X2_in rfl rfl rfl (by decide +kernel) ⟨Nat.le_of_ble_eq_true rfl, Nat.le_of_ble_eq_true rfl⟩) preT rfl rfl hl.1 rfl (lv_room (Nat.le_of_ble_eq_true rfl)) dX2_run_18 ⟨Nat.zero_le _, Nat.zero_le _⟩)) (fun r2 er2 => ?_)
  subst er2
  rw [hbad]
  refine xb_if_ne (tgt := 29) hx hb dX2_run_21 (by decide) (fun q => absurd q (by decide)) (fun _ => ?_)
  refine lv_aload_n hx hb dX2_run_24 rfl (lv_at hl 0 rfl) ?_
  refine lv_iconst (v := nI 1) hx hb dX2_run_25 (by decide) ?_
  refine va_put (D := (dC, dI)) (ci := 2) (v := .int (nI (1))) (ty := .int) (C := RX2) (T := TX2) (N := 6) hx hb hts hin2 tyX2 tyX2_ok nmX2 hown hK hP hD hS 0 rfl rfl 5 (by decide) fl24 (fun _ h9 => h9) rfl (by decide +kernel) rfl rfl (Nat.le_of_ble_eq_true rfl) dX2_run_26 (fun H locs hP hD hS => ?_)
  have hP : va_P (dC, dI) vwCl [(h, .inr (2, [.ref b0, .ref b1, .ref b2, .ref b3, .int (nI (nn)), .int (nI (1))])), (b0, .inl (cD, 70, .inr (.inr (.inr (.inl (N)))))), (b1, .inl (cZ, 70, .inl (I))), (b2, .inl (cI, 60, .inl (T))), (b3, .inl (cI, 6, .inl (R)))] H := hP
  have hD : va_D A [(h, .inr (2, [.ref b0, .ref b1, .ref b2, .ref b3, .int (nI (nn)), .int (nI (1))])), (b0, .inl (cD, 70, .inr (.inr (.inr (.inl (N)))))), (b1, .inl (cZ, 70, .inl (I))), (b2, .inl (cI, 60, .inl (T))), (b3, .inl (cI, 6, .inl (R)))] := hD
  refine lv_aload_n hx hb dX2_run_29 rfl (lv_at hl 0 rfl) ?_
  refine va_get (D := (dC, dI)) (ci := 2) (v := .int (nI (1))) (C := RX2) (T := TX2) (N := 6) hx hb hts hin2 hown hK hP 0 rfl rfl 5 (by decide) fl24 (fun _ h9 => h9) rfl dX2_run_30 ?_
  refine lv_if_gt (tgt := 45) hx hb dX2_run_33 (by decide) (fun _ => ?_) (fun q => absurd (by decide) q)
  refine lv_iconst (v := nI 0) hx hb dX2_run_45 (by decide) ?_
  exact W.iret (v := nI 0) hx hb hr (fun t ht hW => ⟨⟨_, (), rfl, rfl, by rw [ht]; exact hP, va_K.moved hW.alike hK, hD⟩, hS.F ht⟩) hS.2.2 dX2_run_46
set_option maxHeartbeats 4000000 in
set_option maxRecDepth 100000 in
theorem c_X2_run_n3 (l : Launch) (dC : Nat → ClassId) (dI : Nat → Nat → Nat) (cD cZ cI cL : ClassId) (h b0 b1 b2 b3 : Nat) (N : Nat → UInt64) (I T R : Nat → Int32) (nn : Nat) (th : Int32) (sz : Nat) (hnn : nn ≤ 6) (fb : Bool) (en fr : Nat) (kv : Int32) (hen : en < nn) (hfr : fr < 6) (hbad : vB kv 24 = false) : Met l yX2_run wsX2_run ({ frames := 2, cells := 0, slots := 0, locals := 42 }) (va_Pc [.ref h, .int (nI (Bool.toNat (fb))), .int (nI (en)), .int (nI (fr)), .int (kv)] (fun U => U.heap.size = sz ∧ okM dC dI cD cZ cI cL h b0 b1 b2 b3 N I T R nn th U U.heap ∧ va_D (fun _ => True) (wM cD cZ cI cL h b0 b1 b2 b3 N I T R nn th))) (va_Qi (fun (r : Int32) (_ : Unit) => r = nI 0) (fun _ t => atM dC dI cD cZ cI cL (va_A (wM cD cZ cI cL h b0 b1 b2 b3 N I T R nn th) sz) h b0 b1 b2 b3 N I T R nn (nI 2) t) (va_A (wM cD cZ cI cL h b0 b1 b2 b3 N I T R nn th) sz)) 0 0 (va_A (wM cD cZ cI cL h b0 b1 b2 b3 N I T R nn th) sz) := by
  refine Met.ofW (cc := cX2_run) (maxL := 6) (ret := (some .int)) (by decide) rfl ?_
  intro p e s m args below meth c s₁ B hml hv
  obtain ⟨rfl, hsz, hO, hD0⟩ := hv
  obtain ⟨hP, hK⟩ := id hO
  have hx := B.exec
  have hb := B.bytes
  have hr := B.returns
  have hts := atoms_spec (ws := wsX2_run) B.pre
  have hown : s.vm.findClass RX2 = some m.cls := findClass_of_methodNamed B.named
  have hlocks := B.notSynchronized
  subst hsz
  have hD := hD0.self (sz := s.heap.size)
  generalize hAe : va_A (wM cD cZ cI cL h b0 b1 b2 b3 N I T R nn th) s.heap.size = A at hD ⊢
  have hA : ∀ q : Nat, s.heap.size ≤ q → A q := fun q h => by rw [← hAe]; exact Or.inr h
  have hS : va_S A s.heap s.heap [] := va_S.rf
  have hP : va_P (dC, dI) vwCl [(h, .inr (2, [.ref b0, .ref b1, .ref b2, .ref b3, .int (nI (nn)), .int (th)])), (b0, .inl (cD, 70, .inr (.inr (.inr (.inl (N)))))), (b1, .inl (cZ, 70, .inl (I))), (b2, .inl (cI, 60, .inl (T))), (b3, .inl (cI, 6, .inl (R)))] s.heap := hP
  have hD : va_D A [(h, .inr (2, [.ref b0, .ref b1, .ref b2, .ref b3, .int (nI (nn)), .int (th)])), (b0, .inl (cD, 70, .inr (.inr (.inr (.inl (N)))))), (b1, .inl (cZ, 70, .inl (I))), (b2, .inl (cI, 60, .inl (T))), (b3, .inl (cI, 6, .inl (R)))] := hD
  have hin2 : ∀ w ∈ wsX20, w ∈ wsX2_run := (fun w h => List.mem_cons_of_mem _ (List.mem_append_right _ h))
  have fl24 := hts (.fieldLink RX2 24 "JuryTableModel" "thrown" "I") (by decide +kernel)
  have hl := lv_entry ([.ref h, .int (nI (Bool.toNat (fb))), .int (nI (en)), .int (nI (fr)), .int (kv)]) (n := 6) (Nat.le_of_ble_eq_true rfl)
  rw [lg_entry_eq]
  generalize (lg_sl ([.ref h, .int (nI (Bool.toNat (fb))), .int (nI (en)), .int (nI (fr)), .int (kv)]) ++ List.replicate (6 - (lg_sl ([.ref h, .int (nI (Bool.toNat (fb))), .int (nI (en)), .int (nI (fr)), .int (kv)])).length) Slot.unset).toArray = ls at hl ⊢
  have hl : lv_has ls 6 [(0, .ref h), (1, .int (nI (Bool.toNat (fb)))), (2, .int (nI (en))), (3, .int (nI (fr))), (4, .int (kv))] := hl
  refine lv_aload_n hx hb dX2_run_0 rfl (lv_at hl 0 rfl) ?_
  refine lv_iconst (v := nI 0) hx hb dX2_run_1 (by decide) ?_
  refine va_put (D := (dC, dI)) (ci := 2) (v := .int (nI (0))) (ty := .int) (C := RX2) (T := TX2) (N := 6) hx hb hts hin2 tyX2 tyX2_ok nmX2 hown hK hP hD hS 0 rfl rfl 5 (by decide) fl24 (fun _ h9 => h9) rfl (by decide +kernel) rfl rfl (Nat.le_of_ble_eq_true rfl) dX2_run_2 (fun H locs hP hD hS => ?_)
  have hP : va_P (dC, dI) vwCl [(h, .inr (2, [.ref b0, .ref b1, .ref b2, .ref b3, .int (nI (nn)), .int (nI (0))])), (b0, .inl (cD, 70, .inr (.inr (.inr (.inl (N)))))), (b1, .inl (cZ, 70, .inl (I))), (b2, .inl (cI, 60, .inl (T))), (b3, .inl (cI, 6, .inl (R)))] H := hP
  have hD : va_D A [(h, .inr (2, [.ref b0, .ref b1, .ref b2, .ref b3, .int (nI (nn)), .int (nI (0))])), (b0, .inl (cD, 70, .inr (.inr (.inr (.inl (N)))))), (b1, .inl (cZ, 70, .inl (I))), (b2, .inl (cI, 60, .inl (T))), (b3, .inl (cI, 6, .inl (R)))] := hD
  refine lv_aload_n hx hb dX2_run_5 rfl (lv_at hl 0 rfl) ?_
  refine lv_iload_n hx hb dX2_run_6 rfl (lv_at hl 2 rfl) ?_
  refine vp_callSi (va_Run.run (va_runV (As := [.int (nI (en))]) (rest := []) ⟨hx, hb, hml, hown, hts⟩ (c_X2_hasEntry_ok l dC dI cD cZ cI cL h b0 b1 b2 b3 N I T R nn (nI 0) (en) (by omega) (by omega)) (cwV 1 hts gX2_run_X2_hasEntry rfl rfl rfl (by decide +kernel) ⟨Nat.le_of_ble_eq_true rfl, Nat.le_of_ble_eq_true rfl⟩) (okM_pre ⟨hP, hK⟩) rfl rfl hl.1 rfl (lv_room (Nat.le_of_ble_eq_true rfl)) dX2_run_7 ⟨Nat.zero_le _, Nat.zero_le _⟩)) (fun r1 er1 => ?_)
  subst er1
  refine xb_if_ne (tgt := 15) hx hb dX2_run_10 (by decide) (fun _ => ?_) (fun q => absurd q (by decide))
  refine lv_iload_n hx hb dX2_run_15 rfl (lv_at hl 3 rfl) ?_
  refine lv_bipush (v := nI 6) hx hb dX2_run_16 (by decide) ?_
  refine vp_callSi (va_Run.run (va_runS (As := [.int (nI (fr)), .int (nI (6))]) (rest := []) ⟨hx, hb, hml, hown, hts⟩ (c_X2_in l (nI fr) (6)) (va_cwS 2 hts gX2_run_X2_in rfl rfl rfl (by decide +kernel) ⟨Nat.le_of_ble_eq_true rfl, Nat.le_of_ble_eq_true rfl⟩) preT rfl rfl hl.1 rfl (lv_room (Nat.le_of_ble_eq_true rfl)) dX2_run_18 ⟨Nat.zero_le _, Nat.zero_le _⟩)) (fun r2 er2 => ?_)
  subst er2
  rw [vB_nI (show fr < 6 by omega) (by omega)]
  refine xb_if_ne (tgt := 29) hx hb dX2_run_21 (by decide) (fun _ => ?_) (fun q => absurd q (by decide))
  refine lv_aload_n hx hb dX2_run_29 rfl (lv_at hl 0 rfl) ?_
  refine va_get (D := (dC, dI)) (ci := 2) (v := .int (nI (0))) (C := RX2) (T := TX2) (N := 6) hx hb hts hin2 hown hK hP 0 rfl rfl 5 (by decide) fl24 (fun _ h9 => h9) rfl dX2_run_30 ?_
  refine lv_if_gt (tgt := 45) hx hb dX2_run_33 (by decide) (fun q => absurd q (by decide)) (fun _ => ?_)
  refine lv_aload_n hx hb dX2_run_36 rfl (lv_at hl 0 rfl) ?_
  refine lv_iload hx hb dX2_run_37 (lv_at hl 4 rfl) ?_
  have hPc := hP.sub (ws' := [(h, .inr (2, [.ref b0, .ref b1, .ref b2, .ref b3, .int (nI (nn)), .int (nI (0))])), (b0, .inl (cD, 70, .inr (.inr (.inr (.inl (N)))))), (b1, .inl (cZ, 70, .inl (I))), (b2, .inl (cI, 60, .inl (T))), (b3, .inl (cI, 6, .inl (R)))]) [0, 1, 2, 3, 4] rfl
  have hDc := hD.sub (ws' := [(h, .inr (2, [.ref b0, .ref b1, .ref b2, .ref b3, .int (nI (nn)), .int (nI (0))])), (b0, .inl (cD, 70, .inr (.inr (.inr (.inl (N)))))), (b1, .inl (cZ, 70, .inl (I))), (b2, .inl (cI, 60, .inl (T))), (b3, .inl (cI, 6, .inl (R)))]) [0, 1, 2, 3, 4] (by decide) rfl
  have hFc := va_free (wc := [(h, .inr (2, [.ref b0, .ref b1, .ref b2, .ref b3, .int (nI (nn)), .int (nI (0))])), (b0, .inl (cD, 70, .inr (.inr (.inr (.inl (N)))))), (b1, .inl (cZ, 70, .inl (I))), (b2, .inl (cI, 60, .inl (T))), (b3, .inl (cI, 6, .inl (R)))]) hD hS hA [0, 1, 2, 3, 4] rfl
  refine va_calli (va_runV (As := [.int (kv)]) (rest := []) ⟨hx, hb, hml, hown, hts⟩ (c_X2_isWay_no l dC dI cD cZ cI cL h b0 b1 b2 b3 N I T R nn (nI 0) H.size (kv) hbad) (cwV 1 hts gX2_run_X2_isWay rfl rfl rfl (by decide +kernel) ⟨Nat.le_of_ble_eq_true rfl, Nat.le_of_ble_eq_true rfl⟩) (okMW_pre ⟨hP, hK⟩ hD) rfl rfl hl.1 rfl (lv_room (Nat.le_of_ble_eq_true rfl)) dX2_run_39 ⟨Nat.zero_le _, Nat.zero_le _⟩) hS (fun q _ h => hFc q h) hFc (fun r3 u3 t H1 locs ht hvm hw hB hz1 hk1 hS => ?_)
  obtain ⟨hP1, hK1, hD1⟩ := hB
  rw [ht] at hP1
  have hD := hD1.weaken (fun _ q _ h => hFc q.1 h)
  have hP := hP1
  generalize H1 = H at hP hS ⊢
  have hP : va_P (dC, dI) vwCl [(h, .inr (2, [.ref b0, .ref b1, .ref b2, .ref b3, .int (nI (nn)), .int (nI (2))])), (b0, .inl (cD, 70, .inr (.inr (.inr (.inl (N)))))), (b1, .inl (cZ, 70, .inl (I))), (b2, .inl (cI, 60, .inl (T))), (b3, .inl (cI, 6, .inl (R)))] H := hP
  have hD : va_D A [(h, .inr (2, [.ref b0, .ref b1, .ref b2, .ref b3, .int (nI (nn)), .int (nI (2))])), (b0, .inl (cD, 70, .inr (.inr (.inr (.inl (N)))))), (b1, .inl (cZ, 70, .inl (I))), (b2, .inl (cI, 60, .inl (T))), (b3, .inl (cI, 6, .inl (R)))] := hD
  subst hw
  refine xb_if_ne (tgt := 47) hx hb dX2_run_42 (by decide) (fun q => absurd q (by decide)) (fun _ => ?_)
  refine lv_iconst (v := nI 0) hx hb dX2_run_45 (by decide) ?_
  exact W.iret (v := nI 0) hx hb hr (fun t ht hW => ⟨⟨_, (), rfl, rfl, by rw [ht]; exact hP, va_K.moved hW.alike hK, hD⟩, hS.F ht⟩) hS.2.2 dX2_run_46
set_option maxHeartbeats 4000000 in
set_option maxRecDepth 100000 in
theorem c_X2_kept_ok (l : Launch) (dC : Nat → ClassId) (dI : Nat → Nat → Nat) (cD cZ cI cL : ClassId) (h b0 b1 b2 b3 : Nat) (N : Nat → UInt64) (I T R : Nat → Int32) (nn : Nat) (th : Int32) (sz : Nat) (hnn : nn ≤ 6) (fb : Bool) (en bn : Nat) (hen : en < nn) (hbn : bn < 5) : Met l yX2_kept wsX2_kept ({ frames := 2, cells := 0, slots := 0, locals := 42 }) (va_Pc [.ref h, .int (nI (Bool.toNat (fb))), .int (nI (en)), .int (nI (bn))] (fun U => U.heap.size = sz ∧ okM dC dI cD cZ cI cL h b0 b1 b2 b3 N I T R nn th U U.heap ∧ va_D (fun _ => True) (wM cD cZ cI cL h b0 b1 b2 b3 N I T R nn th))) (va_Qi (fun (r : Int32) (_ : Unit) => r = T (mc fb en bn)) (fun _ t => atM dC dI cD cZ cI cL (va_A (wM cD cZ cI cL h b0 b1 b2 b3 N I T R nn th) sz) h b0 b1 b2 b3 N I T R nn (nI 0) t) (va_A (wM cD cZ cI cL h b0 b1 b2 b3 N I T R nn th) sz)) 0 0 (va_A (wM cD cZ cI cL h b0 b1 b2 b3 N I T R nn th) sz) := by
  refine Met.ofW (cc := cX2_kept) (maxL := 4) (ret := (some .int)) (by decide) rfl ?_
  intro p e s m args below meth c s₁ B hml hv
  obtain ⟨rfl, hsz, hO, hD0⟩ := hv
  obtain ⟨hP, hK⟩ := id hO
  have hx := B.exec
  have hb := B.bytes
  have hr := B.returns
  have hts := atoms_spec (ws := wsX2_kept) B.pre
  have hown : s.vm.findClass RX2 = some m.cls := findClass_of_methodNamed B.named
  have hlocks := B.notSynchronized
  subst hsz
  have hD := hD0.self (sz := s.heap.size)
  generalize hAe : va_A (wM cD cZ cI cL h b0 b1 b2 b3 N I T R nn th) s.heap.size = A at hD ⊢
  have hA : ∀ q : Nat, s.heap.size ≤ q → A q := fun q h => by rw [← hAe]; exact Or.inr h
  have hS : va_S A s.heap s.heap [] := va_S.rf
  have hP : va_P (dC, dI) vwCl [(h, .inr (2, [.ref b0, .ref b1, .ref b2, .ref b3, .int (nI (nn)), .int (th)])), (b0, .inl (cD, 70, .inr (.inr (.inr (.inl (N)))))), (b1, .inl (cZ, 70, .inl (I))), (b2, .inl (cI, 60, .inl (T))), (b3, .inl (cI, 6, .inl (R)))] s.heap := hP
  have hD : va_D A [(h, .inr (2, [.ref b0, .ref b1, .ref b2, .ref b3, .int (nI (nn)), .int (th)])), (b0, .inl (cD, 70, .inr (.inr (.inr (.inl (N)))))), (b1, .inl (cZ, 70, .inl (I))), (b2, .inl (cI, 60, .inl (T))), (b3, .inl (cI, 6, .inl (R)))] := hD
  have hin2 : ∀ w ∈ wsX20, w ∈ wsX2_kept := (fun w h => List.mem_cons_of_mem _ (List.mem_append_right _ h))
  have fl17 := hts (.fieldLink RX2 17 "JuryTableModel" "truth" "[I") (by decide +kernel)
  have fl24 := hts (.fieldLink RX2 24 "JuryTableModel" "thrown" "I") (by decide +kernel)
  have hl := lv_entry ([.ref h, .int (nI (Bool.toNat (fb))), .int (nI (en)), .int (nI (bn))]) (n := 4) (Nat.le_of_ble_eq_true rfl)
  rw [lg_entry_eq]
  generalize (lg_sl ([.ref h, .int (nI (Bool.toNat (fb))), .int (nI (en)), .int (nI (bn))]) ++ List.replicate (4 - (lg_sl ([.ref h, .int (nI (Bool.toNat (fb))), .int (nI (en)), .int (nI (bn))])).length) Slot.unset).toArray = ls at hl ⊢
  have hl : lv_has ls 4 [(0, .ref h), (1, .int (nI (Bool.toNat (fb)))), (2, .int (nI (en))), (3, .int (nI (bn)))] := hl
  refine lv_aload_n hx hb dX2_kept_0 rfl (lv_at hl 0 rfl) ?_
  refine lv_iconst (v := nI 0) hx hb dX2_kept_1 (by decide) ?_
  refine va_put (D := (dC, dI)) (ci := 2) (v := .int (nI (0))) (ty := .int) (C := RX2) (T := TX2) (N := 6) hx hb hts hin2 tyX2 tyX2_ok nmX2 hown hK hP hD hS 0 rfl rfl 5 (by decide) fl24 (fun _ h9 => h9) rfl (by decide +kernel) rfl rfl (Nat.le_of_ble_eq_true rfl) dX2_kept_2 (fun H locs hP hD hS => ?_)
  have hP : va_P (dC, dI) vwCl [(h, .inr (2, [.ref b0, .ref b1, .ref b2, .ref b3, .int (nI (nn)), .int (nI (0))])), (b0, .inl (cD, 70, .inr (.inr (.inr (.inl (N)))))), (b1, .inl (cZ, 70, .inl (I))), (b2, .inl (cI, 60, .inl (T))), (b3, .inl (cI, 6, .inl (R)))] H := hP
  have hD : va_D A [(h, .inr (2, [.ref b0, .ref b1, .ref b2, .ref b3, .int (nI (nn)), .int (nI (0))])), (b0, .inl (cD, 70, .inr (.inr (.inr (.inl (N)))))), (b1, .inl (cZ, 70, .inl (I))), (b2, .inl (cI, 60, .inl (T))), (b3, .inl (cI, 6, .inl (R)))] := hD
  refine lv_aload_n hx hb dX2_kept_5 rfl (lv_at hl 0 rfl) ?_
  refine lv_iload_n hx hb dX2_kept_6 rfl (lv_at hl 2 rfl) ?_
  refine vp_callSi (va_Run.run (va_runV (As := [.int (nI (en))]) (rest := []) ⟨hx, hb, hml, hown, hts⟩ (c_X2_hasEntry_ok l dC dI cD cZ cI cL h b0 b1 b2 b3 N I T R nn (nI 0) (en) (by omega) (by omega)) (cwV 1 hts gX2_kept_X2_hasEntry rfl rfl rfl (by decide +kernel) ⟨Nat.le_of_ble_eq_true rfl, Nat.le_of_ble_eq_true rfl⟩) (okM_pre ⟨hP, hK⟩) rfl rfl hl.1 rfl (lv_room (Nat.le_of_ble_eq_true rfl)) dX2_kept_7 ⟨Nat.zero_le _, Nat.zero_le _⟩)) (fun r1 er1 => ?_)
  subst er1
  refine xb_if_eq (tgt := 35) hx hb dX2_kept_10 (by decide) (fun q => absurd q (by decide)) (fun _ => ?_)
  refine lv_aload_n hx hb dX2_kept_13 rfl (lv_at hl 0 rfl) ?_
  refine lv_iload_n hx hb dX2_kept_14 rfl (lv_at hl 3 rfl) ?_
  refine vp_callSi (va_Run.run (va_runV (As := [.int (nI (bn))]) (rest := []) ⟨hx, hb, hml, hown, hts⟩ (c_X2_hasSeat_ok l dC dI cD cZ cI cL h b0 b1 b2 b3 N I T R nn (nI 0) (bn) (by omega)) (cwV 1 hts gX2_kept_X2_hasSeat rfl rfl rfl (by decide +kernel) ⟨Nat.le_of_ble_eq_true rfl, Nat.le_of_ble_eq_true rfl⟩) (okM_pre ⟨hP, hK⟩) rfl rfl hl.1 rfl (lv_room (Nat.le_of_ble_eq_true rfl)) dX2_kept_15 ⟨Nat.zero_le _, Nat.zero_le _⟩)) (fun r2 er2 => ?_)
  subst er2
  refine xb_if_eq (tgt := 35) hx hb dX2_kept_18 (by decide) (fun q => absurd q (by decide)) (fun _ => ?_)
  refine lv_aload_n hx hb dX2_kept_21 rfl (lv_at hl 0 rfl) ?_
  refine va_get (D := (dC, dI)) (ci := 2) (v := .ref b2) (C := RX2) (T := TX2) (N := 6) hx hb hts hin2 hown hK hP 0 rfl rfl 2 (by decide) fl17 (fun _ h9 => h9) rfl dX2_kept_22 ?_
  refine lv_iload_n hx hb dX2_kept_25 rfl (lv_at hl 1 rfl) ?_
  refine lv_iload_n hx hb dX2_kept_26 rfl (lv_at hl 2 rfl) ?_
  refine lv_iload_n hx hb dX2_kept_27 rfl (lv_at hl 3 rfl) ?_
  refine vp_callSi (va_Run.run (va_runS (As := [.int (nI (Bool.toNat (fb))), .int (nI (en)), .int (nI (bn))]) (rest := [.ref b2]) ⟨hx, hb, hml, hown, hts⟩ (c_X2_cell l (fb) (en) (bn)) (va_cwS 3 hts gX2_kept_X2_cell rfl rfl rfl (by decide +kernel) ⟨Nat.le_of_ble_eq_true rfl, Nat.le_of_ble_eq_true rfl⟩) preT rfl rfl hl.1 rfl (lv_room (Nat.le_of_ble_eq_true rfl)) dX2_kept_28 ⟨Nat.zero_le _, Nat.zero_le _⟩)) (fun r3 er3 => ?_)
  subst er3
  have := mc_lt (f := fb) (e := en) (b := bn) (by omega) (by omega)
  refine xn_iald hx hb hK hP 3 2 rfl rfl (n := 60) (j := mc fb en bn) (by omega) (by decide) dX2_kept_31 ?_
  refine lv_goto (tgt := 36) hx hb dX2_kept_32 (by decide) ?_
  exact W.iret (v := T (mc fb en bn)) hx hb hr (fun t ht hW => ⟨⟨_, (), rfl, rfl, by rw [ht]; exact hP, va_K.moved hW.alike hK, hD⟩, hS.F ht⟩) hS.2.2 dX2_kept_36
set_option maxHeartbeats 4000000 in
set_option maxRecDepth 100000 in
theorem c_X2_kept_n1 (l : Launch) (dC : Nat → ClassId) (dI : Nat → Nat → Nat) (cD cZ cI cL : ClassId) (h b0 b1 b2 b3 : Nat) (N : Nat → UInt64) (I T R : Nat → Int32) (nn : Nat) (th : Int32) (sz : Nat) (hnn : nn ≤ 6) (fb : Bool) (ev bv : Int32) (hbad : vB ev nn = false) : Met l yX2_kept wsX2_kept ({ frames := 2, cells := 0, slots := 0, locals := 42 }) (va_Pc [.ref h, .int (nI (Bool.toNat (fb))), .int (ev), .int (bv)] (fun U => U.heap.size = sz ∧ okM dC dI cD cZ cI cL h b0 b1 b2 b3 N I T R nn th U U.heap ∧ va_D (fun _ => True) (wM cD cZ cI cL h b0 b1 b2 b3 N I T R nn th))) (va_Qi (fun (r : Int32) (_ : Unit) => r = nI 0) (fun _ t => atM dC dI cD cZ cI cL (va_A (wM cD cZ cI cL h b0 b1 b2 b3 N I T R nn th) sz) h b0 b1 b2 b3 N I T R nn (nI 1) t) (va_A (wM cD cZ cI cL h b0 b1 b2 b3 N I T R nn th) sz)) 0 0 (va_A (wM cD cZ cI cL h b0 b1 b2 b3 N I T R nn th) sz) := by
  refine Met.ofW (cc := cX2_kept) (maxL := 4) (ret := (some .int)) (by decide) rfl ?_
  intro p e s m args below meth c s₁ B hml hv
  obtain ⟨rfl, hsz, hO, hD0⟩ := hv
  obtain ⟨hP, hK⟩ := id hO
  have hx := B.exec
  have hb := B.bytes
  have hr := B.returns
  have hts := atoms_spec (ws := wsX2_kept) B.pre
  have hown : s.vm.findClass RX2 = some m.cls := findClass_of_methodNamed B.named
  have hlocks := B.notSynchronized
  subst hsz
  have hD := hD0.self (sz := s.heap.size)
  generalize hAe : va_A (wM cD cZ cI cL h b0 b1 b2 b3 N I T R nn th) s.heap.size = A at hD ⊢
  have hA : ∀ q : Nat, s.heap.size ≤ q → A q := fun q h => by rw [← hAe]; exact Or.inr h
  have hS : va_S A s.heap s.heap [] := va_S.rf
  have hP : va_P (dC, dI) vwCl [(h, .inr (2, [.ref b0, .ref b1, .ref b2, .ref b3, .int (nI (nn)), .int (th)])), (b0, .inl (cD, 70, .inr (.inr (.inr (.inl (N)))))), (b1, .inl (cZ, 70, .inl (I))), (b2, .inl (cI, 60, .inl (T))), (b3, .inl (cI, 6, .inl (R)))] s.heap := hP
  have hD : va_D A [(h, .inr (2, [.ref b0, .ref b1, .ref b2, .ref b3, .int (nI (nn)), .int (th)])), (b0, .inl (cD, 70, .inr (.inr (.inr (.inl (N)))))), (b1, .inl (cZ, 70, .inl (I))), (b2, .inl (cI, 60, .inl (T))), (b3, .inl (cI, 6, .inl (R)))] := hD
  have hin2 : ∀ w ∈ wsX20, w ∈ wsX2_kept := (fun w h => List.mem_cons_of_mem _ (List.mem_append_right _ h))
  have fl24 := hts (.fieldLink RX2 24 "JuryTableModel" "thrown" "I") (by decide +kernel)
  have hl := lv_entry ([.ref h, .int (nI (Bool.toNat (fb))), .int (ev), .int (bv)]) (n := 4) (Nat.le_of_ble_eq_true rfl)
  rw [lg_entry_eq]
  generalize (lg_sl ([.ref h, .int (nI (Bool.toNat (fb))), .int (ev), .int (bv)]) ++ List.replicate (4 - (lg_sl ([.ref h, .int (nI (Bool.toNat (fb))), .int (ev), .int (bv)])).length) Slot.unset).toArray = ls at hl ⊢
  have hl : lv_has ls 4 [(0, .ref h), (1, .int (nI (Bool.toNat (fb)))), (2, .int (ev)), (3, .int (bv))] := hl
  refine lv_aload_n hx hb dX2_kept_0 rfl (lv_at hl 0 rfl) ?_
  refine lv_iconst (v := nI 0) hx hb dX2_kept_1 (by decide) ?_
  refine va_put (D := (dC, dI)) (ci := 2) (v := .int (nI (0))) (ty := .int) (C := RX2) (T := TX2) (N := 6) hx hb hts hin2 tyX2 tyX2_ok nmX2 hown hK hP hD hS 0 rfl rfl 5 (by decide) fl24 (fun _ h9 => h9) rfl (by decide +kernel) rfl rfl (Nat.le_of_ble_eq_true rfl) dX2_kept_2 (fun H locs hP hD hS => ?_)
  have hP : va_P (dC, dI) vwCl [(h, .inr (2, [.ref b0, .ref b1, .ref b2, .ref b3, .int (nI (nn)), .int (nI (0))])), (b0, .inl (cD, 70, .inr (.inr (.inr (.inl (N)))))), (b1, .inl (cZ, 70, .inl (I))), (b2, .inl (cI, 60, .inl (T))), (b3, .inl (cI, 6, .inl (R)))] H := hP
  have hD : va_D A [(h, .inr (2, [.ref b0, .ref b1, .ref b2, .ref b3, .int (nI (nn)), .int (nI (0))])), (b0, .inl (cD, 70, .inr (.inr (.inr (.inl (N)))))), (b1, .inl (cZ, 70, .inl (I))), (b2, .inl (cI, 60, .inl (T))), (b3, .inl (cI, 6, .inl (R)))] := hD
  refine lv_aload_n hx hb dX2_kept_5 rfl (lv_at hl 0 rfl) ?_
  refine lv_iload_n hx hb dX2_kept_6 rfl (lv_at hl 2 rfl) ?_
  have hPc := hP.sub (ws' := [(h, .inr (2, [.ref b0, .ref b1, .ref b2, .ref b3, .int (nI (nn)), .int (nI (0))])), (b0, .inl (cD, 70, .inr (.inr (.inr (.inl (N)))))), (b1, .inl (cZ, 70, .inl (I))), (b2, .inl (cI, 60, .inl (T))), (b3, .inl (cI, 6, .inl (R)))]) [0, 1, 2, 3, 4] rfl
  have hDc := hD.sub (ws' := [(h, .inr (2, [.ref b0, .ref b1, .ref b2, .ref b3, .int (nI (nn)), .int (nI (0))])), (b0, .inl (cD, 70, .inr (.inr (.inr (.inl (N)))))), (b1, .inl (cZ, 70, .inl (I))), (b2, .inl (cI, 60, .inl (T))), (b3, .inl (cI, 6, .inl (R)))]) [0, 1, 2, 3, 4] (by decide) rfl
  have hFc := va_free (wc := [(h, .inr (2, [.ref b0, .ref b1, .ref b2, .ref b3, .int (nI (nn)), .int (nI (0))])), (b0, .inl (cD, 70, .inr (.inr (.inr (.inl (N)))))), (b1, .inl (cZ, 70, .inl (I))), (b2, .inl (cI, 60, .inl (T))), (b3, .inl (cI, 6, .inl (R)))]) hD hS hA [0, 1, 2, 3, 4] rfl
  refine va_calli (va_runV (As := [.int (ev)]) (rest := []) ⟨hx, hb, hml, hown, hts⟩ (c_X2_hasEntry_no l dC dI cD cZ cI cL h b0 b1 b2 b3 N I T R nn (nI 0) H.size (ev) hbad) (cwV 1 hts gX2_kept_X2_hasEntry rfl rfl rfl (by decide +kernel) ⟨Nat.le_of_ble_eq_true rfl, Nat.le_of_ble_eq_true rfl⟩) (okMW_pre ⟨hP, hK⟩ hD) rfl rfl hl.1 rfl (lv_room (Nat.le_of_ble_eq_true rfl)) dX2_kept_7 ⟨Nat.zero_le _, Nat.zero_le _⟩) hS (fun q _ h => hFc q h) hFc (fun r1 u1 t H1 locs ht hvm hw hB hz1 hk1 hS => ?_)
  obtain ⟨hP1, hK1, hD1⟩ := hB
  rw [ht] at hP1
  have hD := hD1.weaken (fun _ q _ h => hFc q.1 h)
  have hP := hP1
  generalize H1 = H at hP hS ⊢
  have hP : va_P (dC, dI) vwCl [(h, .inr (2, [.ref b0, .ref b1, .ref b2, .ref b3, .int (nI (nn)), .int (nI (1))])), (b0, .inl (cD, 70, .inr (.inr (.inr (.inl (N)))))), (b1, .inl (cZ, 70, .inl (I))), (b2, .inl (cI, 60, .inl (T))), (b3, .inl (cI, 6, .inl (R)))] H := hP
  have hD : va_D A [(h, .inr (2, [.ref b0, .ref b1, .ref b2, .ref b3, .int (nI (nn)), .int (nI (1))])), (b0, .inl (cD, 70, .inr (.inr (.inr (.inl (N)))))), (b1, .inl (cZ, 70, .inl (I))), (b2, .inl (cI, 60, .inl (T))), (b3, .inl (cI, 6, .inl (R)))] := hD
  subst hw
  refine xb_if_eq (tgt := 35) hx hb dX2_kept_10 (by decide) (fun _ => ?_) (fun q => absurd q (by decide))
  refine lv_iconst (v := nI 0) hx hb dX2_kept_35 (by decide) ?_
  exact W.iret (v := nI 0) hx hb hr (fun t ht hW => ⟨⟨_, (), rfl, rfl, by rw [ht]; exact hP, va_K.moved hW.alike hK, hD⟩, hS.F ht⟩) hS.2.2 dX2_kept_36
set_option maxHeartbeats 4000000 in
set_option maxRecDepth 100000 in
theorem c_X2_kept_n2 (l : Launch) (dC : Nat → ClassId) (dI : Nat → Nat → Nat) (cD cZ cI cL : ClassId) (h b0 b1 b2 b3 : Nat) (N : Nat → UInt64) (I T R : Nat → Int32) (nn : Nat) (th : Int32) (sz : Nat) (hnn : nn ≤ 6) (fb : Bool) (en : Nat) (bv : Int32) (hen : en < nn) (hbad : vB bv 5 = false) : Met l yX2_kept wsX2_kept ({ frames := 2, cells := 0, slots := 0, locals := 42 }) (va_Pc [.ref h, .int (nI (Bool.toNat (fb))), .int (nI (en)), .int (bv)] (fun U => U.heap.size = sz ∧ okM dC dI cD cZ cI cL h b0 b1 b2 b3 N I T R nn th U U.heap ∧ va_D (fun _ => True) (wM cD cZ cI cL h b0 b1 b2 b3 N I T R nn th))) (va_Qi (fun (r : Int32) (_ : Unit) => r = nI 0) (fun _ t => atM dC dI cD cZ cI cL (va_A (wM cD cZ cI cL h b0 b1 b2 b3 N I T R nn th) sz) h b0 b1 b2 b3 N I T R nn (nI 1) t) (va_A (wM cD cZ cI cL h b0 b1 b2 b3 N I T R nn th) sz)) 0 0 (va_A (wM cD cZ cI cL h b0 b1 b2 b3 N I T R nn th) sz) := by
  refine Met.ofW (cc := cX2_kept) (maxL := 4) (ret := (some .int)) (by decide) rfl ?_
  intro p e s m args below meth c s₁ B hml hv
  obtain ⟨rfl, hsz, hO, hD0⟩ := hv
  obtain ⟨hP, hK⟩ := id hO
  have hx := B.exec
  have hb := B.bytes
  have hr := B.returns
  have hts := atoms_spec (ws := wsX2_kept) B.pre
  have hown : s.vm.findClass RX2 = some m.cls := findClass_of_methodNamed B.named
  have hlocks := B.notSynchronized
  subst hsz
  have hD := hD0.self (sz := s.heap.size)
  generalize hAe : va_A (wM cD cZ cI cL h b0 b1 b2 b3 N I T R nn th) s.heap.size = A at hD ⊢
  have hA : ∀ q : Nat, s.heap.size ≤ q → A q := fun q h => by rw [← hAe]; exact Or.inr h
  have hS : va_S A s.heap s.heap [] := va_S.rf
  have hP : va_P (dC, dI) vwCl [(h, .inr (2, [.ref b0, .ref b1, .ref b2, .ref b3, .int (nI (nn)), .int (th)])), (b0, .inl (cD, 70, .inr (.inr (.inr (.inl (N)))))), (b1, .inl (cZ, 70, .inl (I))), (b2, .inl (cI, 60, .inl (T))), (b3, .inl (cI, 6, .inl (R)))] s.heap := hP
  have hD : va_D A [(h, .inr (2, [.ref b0, .ref b1, .ref b2, .ref b3, .int (nI (nn)), .int (th)])), (b0, .inl (cD, 70, .inr (.inr (.inr (.inl (N)))))), (b1, .inl (cZ, 70, .inl (I))), (b2, .inl (cI, 60, .inl (T))), (b3, .inl (cI, 6, .inl (R)))] := hD
  have hin2 : ∀ w ∈ wsX20, w ∈ wsX2_kept := (fun w h => List.mem_cons_of_mem _ (List.mem_append_right _ h))
  have fl24 := hts (.fieldLink RX2 24 "JuryTableModel" "thrown" "I") (by decide +kernel)
  have hl := lv_entry ([.ref h, .int (nI (Bool.toNat (fb))), .int (nI (en)), .int (bv)]) (n := 4) (Nat.le_of_ble_eq_true rfl)
  rw [lg_entry_eq]
  generalize (lg_sl ([.ref h, .int (nI (Bool.toNat (fb))), .int (nI (en)), .int (bv)]) ++ List.replicate (4 - (lg_sl ([.ref h, .int (nI (Bool.toNat (fb))), .int (nI (en)), .int (bv)])).length) Slot.unset).toArray = ls at hl ⊢
  have hl : lv_has ls 4 [(0, .ref h), (1, .int (nI (Bool.toNat (fb)))), (2, .int (nI (en))), (3, .int (bv))] := hl
  refine lv_aload_n hx hb dX2_kept_0 rfl (lv_at hl 0 rfl) ?_
  refine lv_iconst (v := nI 0) hx hb dX2_kept_1 (by decide) ?_
  refine va_put (D := (dC, dI)) (ci := 2) (v := .int (nI (0))) (ty := .int) (C := RX2) (T := TX2) (N := 6) hx hb hts hin2 tyX2 tyX2_ok nmX2 hown hK hP hD hS 0 rfl rfl 5 (by decide) fl24 (fun _ h9 => h9) rfl (by decide +kernel) rfl rfl (Nat.le_of_ble_eq_true rfl) dX2_kept_2 (fun H locs hP hD hS => ?_)
  have hP : va_P (dC, dI) vwCl [(h, .inr (2, [.ref b0, .ref b1, .ref b2, .ref b3, .int (nI (nn)), .int (nI (0))])), (b0, .inl (cD, 70, .inr (.inr (.inr (.inl (N)))))), (b1, .inl (cZ, 70, .inl (I))), (b2, .inl (cI, 60, .inl (T))), (b3, .inl (cI, 6, .inl (R)))] H := hP
  have hD : va_D A [(h, .inr (2, [.ref b0, .ref b1, .ref b2, .ref b3, .int (nI (nn)), .int (nI (0))])), (b0, .inl (cD, 70, .inr (.inr (.inr (.inl (N)))))), (b1, .inl (cZ, 70, .inl (I))), (b2, .inl (cI, 60, .inl (T))), (b3, .inl (cI, 6, .inl (R)))] := hD
  refine lv_aload_n hx hb dX2_kept_5 rfl (lv_at hl 0 rfl) ?_
  refine lv_iload_n hx hb dX2_kept_6 rfl (lv_at hl 2 rfl) ?_
  refine vp_callSi (va_Run.run (va_runV (As := [.int (nI (en))]) (rest := []) ⟨hx, hb, hml, hown, hts⟩ (c_X2_hasEntry_ok l dC dI cD cZ cI cL h b0 b1 b2 b3 N I T R nn (nI 0) (en) (by omega) (by omega)) (cwV 1 hts gX2_kept_X2_hasEntry rfl rfl rfl (by decide +kernel) ⟨Nat.le_of_ble_eq_true rfl, Nat.le_of_ble_eq_true rfl⟩) (okM_pre ⟨hP, hK⟩) rfl rfl hl.1 rfl (lv_room (Nat.le_of_ble_eq_true rfl)) dX2_kept_7 ⟨Nat.zero_le _, Nat.zero_le _⟩)) (fun r1 er1 => ?_)
  subst er1
  refine xb_if_eq (tgt := 35) hx hb dX2_kept_10 (by decide) (fun q => absurd q (by decide)) (fun _ => ?_)
  refine lv_aload_n hx hb dX2_kept_13 rfl (lv_at hl 0 rfl) ?_
  refine lv_iload_n hx hb dX2_kept_14 rfl (lv_at hl 3 rfl) ?_
  have hPc := hP.sub (ws' := [(h, .inr (2, [.ref b0, .ref b1, .ref b2, .ref b3, .int (nI (nn)), .int (nI (0))])), (b0, .inl (cD, 70, .inr (.inr (.inr (.inl (N)))))), (b1, .inl (cZ, 70, .inl (I))), (b2, .inl (cI, 60, .inl (T))), (b3, .inl (cI, 6, .inl (R)))]) [0, 1, 2, 3, 4] rfl
  have hDc := hD.sub (ws' := [(h, .inr (2, [.ref b0, .ref b1, .ref b2, .ref b3, .int (nI (nn)), .int (nI (0))])), (b0, .inl (cD, 70, .inr (.inr (.inr (.inl (N)))))), (b1, .inl (cZ, 70, .inl (I))), (b2, .inl (cI, 60, .inl (T))), (b3, .inl (cI, 6, .inl (R)))]) [0, 1, 2, 3, 4] (by decide) rfl
  have hFc := va_free (wc := [(h, .inr (2, [.ref b0, .ref b1, .ref b2, .ref b3, .int (nI (nn)), .int (nI (0))])), (b0, .inl (cD, 70, .inr (.inr (.inr (.inl (N)))))), (b1, .inl (cZ, 70, .inl (I))), (b2, .inl (cI, 60, .inl (T))), (b3, .inl (cI, 6, .inl (R)))]) hD hS hA [0, 1, 2, 3, 4] rfl
  refine va_calli (va_runV (As := [.int (bv)]) (rest := []) ⟨hx, hb, hml, hown, hts⟩ (c_X2_hasSeat_no l dC dI cD cZ cI cL h b0 b1 b2 b3 N I T R nn (nI 0) H.size (bv) hbad) (cwV 1 hts gX2_kept_X2_hasSeat rfl rfl rfl (by decide +kernel) ⟨Nat.le_of_ble_eq_true rfl, Nat.le_of_ble_eq_true rfl⟩) (okMW_pre ⟨hP, hK⟩ hD) rfl rfl hl.1 rfl (lv_room (Nat.le_of_ble_eq_true rfl)) dX2_kept_15 ⟨Nat.zero_le _, Nat.zero_le _⟩) hS (fun q _ h => hFc q h) hFc (fun r2 u2 t H1 locs ht hvm hw hB hz1 hk1 hS => ?_)
  obtain ⟨hP1, hK1, hD1⟩ := hB
  rw [ht] at hP1
  have hD := hD1.weaken (fun _ q _ h => hFc q.1 h)
  have hP := hP1
  generalize H1 = H at hP hS ⊢
  have hP : va_P (dC, dI) vwCl [(h, .inr (2, [.ref b0, .ref b1, .ref b2, .ref b3, .int (nI (nn)), .int (nI (1))])), (b0, .inl (cD, 70, .inr (.inr (.inr (.inl (N)))))), (b1, .inl (cZ, 70, .inl (I))), (b2, .inl (cI, 60, .inl (T))), (b3, .inl (cI, 6, .inl (R)))] H := hP
  have hD : va_D A [(h, .inr (2, [.ref b0, .ref b1, .ref b2, .ref b3, .int (nI (nn)), .int (nI (1))])), (b0, .inl (cD, 70, .inr (.inr (.inr (.inl (N)))))), (b1, .inl (cZ, 70, .inl (I))), (b2, .inl (cI, 60, .inl (T))), (b3, .inl (cI, 6, .inl (R)))] := hD
  subst hw
  refine xb_if_eq (tgt := 35) hx hb dX2_kept_18 (by decide) (fun _ => ?_) (fun q => absurd q (by decide))
  refine lv_iconst (v := nI 0) hx hb dX2_kept_35 (by decide) ?_
  exact W.iret (v := nI 0) hx hb hr (fun t ht hW => ⟨⟨_, (), rfl, rfl, by rw [ht]; exact hP, va_K.moved hW.alike hK, hD⟩, hS.F ht⟩) hS.2.2 dX2_kept_36
set_option maxHeartbeats 4000000 in
set_option maxRecDepth 100000 in
theorem c_X2_told_ok (l : Launch) (dC : Nat → ClassId) (dI : Nat → Nat → Nat) (cD cZ cI cL : ClassId) (h b0 b1 b2 b3 : Nat) (N : Nat → UInt64) (I T R : Nat → Int32) (nn : Nat) (th : Int32) (sz : Nat) (hnn : nn ≤ 6) (fb : Bool) (en bn : Nat) (hen : en < nn) (hbn : bn < 5) (hg : ∀ j, gd (N j)) (hth : ¬ I (mc fb en bn) = 0) : Met l yX2_told wsX2_told ({ frames := 2, cells := 0, slots := 0, locals := 45 }) (va_Pc [.ref h, .int (nI (Bool.toNat (fb))), .int (nI (en)), .int (nI (bn))] (fun U => U.heap.size = sz ∧ okM dC dI cD cZ cI cL h b0 b1 b2 b3 N I T R nn th U U.heap ∧ va_D (fun _ => True) (wM cD cZ cI cL h b0 b1 b2 b3 N I T R nn th))) (va_Ql (fun (r : Int64) (_ : Unit) => r = e8 (N (mc fb en bn))) (fun _ t => atM dC dI cD cZ cI cL (va_A (wM cD cZ cI cL h b0 b1 b2 b3 N I T R nn th) sz) h b0 b1 b2 b3 N I T R nn (nI 0) t) (va_A (wM cD cZ cI cL h b0 b1 b2 b3 N I T R nn th) sz)) 0 0 (va_A (wM cD cZ cI cL h b0 b1 b2 b3 N I T R nn th) sz) := by
  refine Met.ofW (cc := cX2_told) (maxL := 5) (ret := (some .long)) (by decide) rfl ?_
  intro p e s m args below meth c s₁ B hml hv
  obtain ⟨rfl, hsz, hO, hD0⟩ := hv
  obtain ⟨hP, hK⟩ := id hO
  have hx := B.exec
  have hb := B.bytes
  have hr := B.returns
  have hts := atoms_spec (ws := wsX2_told) B.pre
  have hown : s.vm.findClass RX2 = some m.cls := findClass_of_methodNamed B.named
  have hlocks := B.notSynchronized
  subst hsz
  have hD := hD0.self (sz := s.heap.size)
  generalize hAe : va_A (wM cD cZ cI cL h b0 b1 b2 b3 N I T R nn th) s.heap.size = A at hD ⊢
  have hA : ∀ q : Nat, s.heap.size ≤ q → A q := fun q h => by rw [← hAe]; exact Or.inr h
  have hS : va_S A s.heap s.heap [] := va_S.rf
  have hP : va_P (dC, dI) vwCl [(h, .inr (2, [.ref b0, .ref b1, .ref b2, .ref b3, .int (nI (nn)), .int (th)])), (b0, .inl (cD, 70, .inr (.inr (.inr (.inl (N)))))), (b1, .inl (cZ, 70, .inl (I))), (b2, .inl (cI, 60, .inl (T))), (b3, .inl (cI, 6, .inl (R)))] s.heap := hP
  have hD : va_D A [(h, .inr (2, [.ref b0, .ref b1, .ref b2, .ref b3, .int (nI (nn)), .int (th)])), (b0, .inl (cD, 70, .inr (.inr (.inr (.inl (N)))))), (b1, .inl (cZ, 70, .inl (I))), (b2, .inl (cI, 60, .inl (T))), (b3, .inl (cI, 6, .inl (R)))] := hD
  have hin2 : ∀ w ∈ wsX20, w ∈ wsX2_told := (fun w h => List.mem_cons_of_mem _ (List.mem_append_right _ h))
  have fl13 := hts (.fieldLink RX2 13 "JuryTableModel" "isThere" "[Z") (by decide +kernel)
  have fl24 := hts (.fieldLink RX2 24 "JuryTableModel" "thrown" "I") (by decide +kernel)
  have hl := lv_entry ([.ref h, .int (nI (Bool.toNat (fb))), .int (nI (en)), .int (nI (bn))]) (n := 5) (Nat.le_of_ble_eq_true rfl)
  rw [lg_entry_eq]
  generalize (lg_sl ([.ref h, .int (nI (Bool.toNat (fb))), .int (nI (en)), .int (nI (bn))]) ++ List.replicate (5 - (lg_sl ([.ref h, .int (nI (Bool.toNat (fb))), .int (nI (en)), .int (nI (bn))])).length) Slot.unset).toArray = ls at hl ⊢
  have hl : lv_has ls 5 [(0, .ref h), (1, .int (nI (Bool.toNat (fb)))), (2, .int (nI (en))), (3, .int (nI (bn)))] := hl
  refine lv_aload_n hx hb dX2_told_0 rfl (lv_at hl 0 rfl) ?_
  refine lv_iload_n hx hb dX2_told_1 rfl (lv_at hl 1 rfl) ?_
  refine lv_iload_n hx hb dX2_told_2 rfl (lv_at hl 2 rfl) ?_
  refine lv_iload_n hx hb dX2_told_3 rfl (lv_at hl 3 rfl) ?_
  have hPc := hP.sub (ws' := [(h, .inr (2, [.ref b0, .ref b1, .ref b2, .ref b3, .int (nI (nn)), .int (th)])), (b0, .inl (cD, 70, .inr (.inr (.inr (.inl (N)))))), (b1, .inl (cZ, 70, .inl (I))), (b2, .inl (cI, 60, .inl (T))), (b3, .inl (cI, 6, .inl (R)))]) [0, 1, 2, 3, 4] rfl
  have hDc := hD.sub (ws' := [(h, .inr (2, [.ref b0, .ref b1, .ref b2, .ref b3, .int (nI (nn)), .int (th)])), (b0, .inl (cD, 70, .inr (.inr (.inr (.inl (N)))))), (b1, .inl (cZ, 70, .inl (I))), (b2, .inl (cI, 60, .inl (T))), (b3, .inl (cI, 6, .inl (R)))]) [0, 1, 2, 3, 4] (by decide) rfl
  have hFc := va_free (wc := [(h, .inr (2, [.ref b0, .ref b1, .ref b2, .ref b3, .int (nI (nn)), .int (th)])), (b0, .inl (cD, 70, .inr (.inr (.inr (.inl (N)))))), (b1, .inl (cZ, 70, .inl (I))), (b2, .inl (cI, 60, .inl (T))), (b3, .inl (cI, 6, .inl (R)))]) hD hS hA [0, 1, 2, 3, 4] rfl
  refine va_calli (va_runV (As := [.int (nI (Bool.toNat (fb))), .int (nI (en)), .int (nI (bn))]) (rest := []) ⟨hx, hb, hml, hown, hts⟩ (c_X2_spot_ok l dC dI cD cZ cI cL h b0 b1 b2 b3 N I T R nn th s.heap.size (by omega) (fb) (en) (bn) (by omega) (by omega)) (cwV 3 hts gX2_told_X2_spot rfl rfl rfl (by decide +kernel) ⟨Nat.le_of_ble_eq_true rfl, Nat.le_of_ble_eq_true rfl⟩) (okMW_pre ⟨hP, hK⟩ hD) rfl rfl hl.1 rfl (lv_room (Nat.le_of_ble_eq_true rfl)) dX2_told_4 ⟨Nat.zero_le _, Nat.zero_le _⟩) hS (fun q _ h => hFc q h) hFc (fun r1 u1 t H1 locs ht hvm hw hB hz1 hk1 hS => ?_)
  obtain ⟨hP1, hK1, hD1⟩ := hB
  rw [ht] at hP1
  have hD := hD1.weaken (fun _ q _ h => hFc q.1 h)
  have hP := hP1
  generalize H1 = H at hP hS ⊢
  have hP : va_P (dC, dI) vwCl [(h, .inr (2, [.ref b0, .ref b1, .ref b2, .ref b3, .int (nI (nn)), .int (nI (0))])), (b0, .inl (cD, 70, .inr (.inr (.inr (.inl (N)))))), (b1, .inl (cZ, 70, .inl (I))), (b2, .inl (cI, 60, .inl (T))), (b3, .inl (cI, 6, .inl (R)))] H := hP
  have hD : va_D A [(h, .inr (2, [.ref b0, .ref b1, .ref b2, .ref b3, .int (nI (nn)), .int (nI (0))])), (b0, .inl (cD, 70, .inr (.inr (.inr (.inl (N)))))), (b1, .inl (cZ, 70, .inl (I))), (b2, .inl (cI, 60, .inl (T))), (b3, .inl (cI, 6, .inl (R)))] := hD
  subst hw
  have := mc_lt (f := fb) (e := en) (b := bn) (by omega) (by omega)
  refine lv_istore (lv' := [(4, .int (nI (mc fb en bn))), (0, .ref h), (1, .int (nI (Bool.toNat (fb)))), (2, .int (nI (en))), (3, .int (nI (bn)))]) hx hb dX2_told_7 hl (by decide) rfl (fun ls hl => ?_)
  refine lv_iload hx hb dX2_told_9 (lv_at hl 0 rfl) ?_
  refine lv_iconst (v := (-1)) hx hb dX2_told_11 (by decide) ?_
  refine lv_icmp_eq (tgt := 30) hx hb dX2_told_12 (by decide) (fun q => absurd q (nI_nm1 (by omega))) (fun _ => ?_)
  refine lv_aload_n hx hb dX2_told_15 rfl (lv_at hl 1 rfl) ?_
  refine va_get (D := (dC, dI)) (ci := 2) (v := .ref b1) (C := RX2) (T := TX2) (N := 6) hx hb hts hin2 hown hK hP 0 rfl rfl 1 (by decide) fl13 (fun _ h9 => h9) rfl dX2_told_16 ?_
  refine lv_iload hx hb dX2_told_19 (lv_at hl 0 rfl) ?_
  refine xn_zald hx hb hK hP 2 1 rfl rfl (n := 70) (j := mc fb en bn) (by omega) (by decide) dX2_told_21 ?_
  refine lv_if_ne (tgt := 30) hx hb dX2_told_22 (by decide) (fun _ => ?_) (fun q => absurd q hth)
  refine lv_aload_n hx hb dX2_told_30 rfl (lv_at hl 1 rfl) ?_
  refine va_get (D := (dC, dI)) (ci := 2) (v := .int (nI (0))) (C := RX2) (T := TX2) (N := 6) hx hb hts hin2 hown hK hP 0 rfl rfl 5 (by decide) fl24 (fun _ h9 => h9) rfl dX2_told_31 ?_
  refine lv_if_le (tgt := 41) hx hb dX2_told_34 (by decide) (fun _ => ?_) (fun q => absurd (by decide) q)
  refine lv_aload_n hx hb dX2_told_41 rfl (lv_at hl 1 rfl) ?_
  refine lv_iload hx hb dX2_told_42 (lv_at hl 0 rfl) ?_
  refine vp_callSl (va_Run.run (va_runV (As := [.int (nI (mc fb en bn))]) (rest := []) ⟨hx, hb, hml, hown, hts⟩ (c_X2_eighths l dC dI cD cZ cI cL h b0 b1 b2 b3 N I T R nn (nI 0) (mc fb en bn) (by omega) (hg _)) (cwV 1 hts gX2_told_X2_eighths rfl rfl rfl (by decide +kernel) ⟨Nat.le_of_ble_eq_true rfl, Nat.le_of_ble_eq_true rfl⟩) (okM_pre ⟨hP, hK⟩) rfl rfl hl.1 rfl (lv_room (Nat.le_of_ble_eq_true rfl)) dX2_told_44 ⟨Nat.zero_le _, Nat.zero_le _⟩)) (fun r2 er2 => ?_)
  subst er2
  exact W.lret (v := e8 (N (mc fb en bn))) hx hb hr (fun t ht hW => ⟨⟨_, (), rfl, rfl, by rw [ht]; exact hP, va_K.moved hW.alike hK, hD⟩, hS.F ht⟩) hS.2.2 dX2_told_47
set_option maxHeartbeats 4000000 in
set_option maxRecDepth 100000 in
theorem c_X2_told_eok (l : Launch) (dC : Nat → ClassId) (dI : Nat → Nat → Nat) (cD cZ cI cL : ClassId) (h b0 b1 b2 b3 : Nat) (N : Nat → UInt64) (I T R : Nat → Int32) (nn : Nat) (th : Int32) (sz : Nat) (hnn : nn ≤ 6) (fb : Bool) (en bn : Nat) (hen : en < nn) (hbn : bn < 5) (hth : I (mc fb en bn) = 0) : Met l yX2_told wsX2_told ({ frames := 2, cells := 0, slots := 0, locals := 45 }) (va_Pc [.ref h, .int (nI (Bool.toNat (fb))), .int (nI (en)), .int (nI (bn))] (fun U => U.heap.size = sz ∧ okM dC dI cD cZ cI cL h b0 b1 b2 b3 N I T R nn th U U.heap ∧ va_D (fun _ => True) (wM cD cZ cI cL h b0 b1 b2 b3 N I T R nn th))) (va_Ql (fun (r : Int64) (_ : Unit) => r = 0) (fun _ t => atM dC dI cD cZ cI cL (va_A (wM cD cZ cI cL h b0 b1 b2 b3 N I T R nn th) sz) h b0 b1 b2 b3 N I T R nn (nI 2) t) (va_A (wM cD cZ cI cL h b0 b1 b2 b3 N I T R nn th) sz)) 0 0 (va_A (wM cD cZ cI cL h b0 b1 b2 b3 N I T R nn th) sz) := by
  refine Met.ofW (cc := cX2_told) (maxL := 5) (ret := (some .long)) (by decide) rfl ?_
  intro p e s m args below meth c s₁ B hml hv
  obtain ⟨rfl, hsz, hO, hD0⟩ := hv
  obtain ⟨hP, hK⟩ := id hO
  have hx := B.exec
  have hb := B.bytes
  have hr := B.returns
  have hts := atoms_spec (ws := wsX2_told) B.pre
  have hown : s.vm.findClass RX2 = some m.cls := findClass_of_methodNamed B.named
  have hlocks := B.notSynchronized
  subst hsz
  have hD := hD0.self (sz := s.heap.size)
  generalize hAe : va_A (wM cD cZ cI cL h b0 b1 b2 b3 N I T R nn th) s.heap.size = A at hD ⊢
  have hA : ∀ q : Nat, s.heap.size ≤ q → A q := fun q h => by rw [← hAe]; exact Or.inr h
  have hS : va_S A s.heap s.heap [] := va_S.rf
  have hP : va_P (dC, dI) vwCl [(h, .inr (2, [.ref b0, .ref b1, .ref b2, .ref b3, .int (nI (nn)), .int (th)])), (b0, .inl (cD, 70, .inr (.inr (.inr (.inl (N)))))), (b1, .inl (cZ, 70, .inl (I))), (b2, .inl (cI, 60, .inl (T))), (b3, .inl (cI, 6, .inl (R)))] s.heap := hP
  have hD : va_D A [(h, .inr (2, [.ref b0, .ref b1, .ref b2, .ref b3, .int (nI (nn)), .int (th)])), (b0, .inl (cD, 70, .inr (.inr (.inr (.inl (N)))))), (b1, .inl (cZ, 70, .inl (I))), (b2, .inl (cI, 60, .inl (T))), (b3, .inl (cI, 6, .inl (R)))] := hD
  have hin2 : ∀ w ∈ wsX20, w ∈ wsX2_told := (fun w h => List.mem_cons_of_mem _ (List.mem_append_right _ h))
  have fl13 := hts (.fieldLink RX2 13 "JuryTableModel" "isThere" "[Z") (by decide +kernel)
  have fl24 := hts (.fieldLink RX2 24 "JuryTableModel" "thrown" "I") (by decide +kernel)
  have hl := lv_entry ([.ref h, .int (nI (Bool.toNat (fb))), .int (nI (en)), .int (nI (bn))]) (n := 5) (Nat.le_of_ble_eq_true rfl)
  rw [lg_entry_eq]
  generalize (lg_sl ([.ref h, .int (nI (Bool.toNat (fb))), .int (nI (en)), .int (nI (bn))]) ++ List.replicate (5 - (lg_sl ([.ref h, .int (nI (Bool.toNat (fb))), .int (nI (en)), .int (nI (bn))])).length) Slot.unset).toArray = ls at hl ⊢
  have hl : lv_has ls 5 [(0, .ref h), (1, .int (nI (Bool.toNat (fb)))), (2, .int (nI (en))), (3, .int (nI (bn)))] := hl
  refine lv_aload_n hx hb dX2_told_0 rfl (lv_at hl 0 rfl) ?_
  refine lv_iload_n hx hb dX2_told_1 rfl (lv_at hl 1 rfl) ?_
  refine lv_iload_n hx hb dX2_told_2 rfl (lv_at hl 2 rfl) ?_
  refine lv_iload_n hx hb dX2_told_3 rfl (lv_at hl 3 rfl) ?_
  have hPc := hP.sub (ws' := [(h, .inr (2, [.ref b0, .ref b1, .ref b2, .ref b3, .int (nI (nn)), .int (th)])), (b0, .inl (cD, 70, .inr (.inr (.inr (.inl (N)))))), (b1, .inl (cZ, 70, .inl (I))), (b2, .inl (cI, 60, .inl (T))), (b3, .inl (cI, 6, .inl (R)))]) [0, 1, 2, 3, 4] rfl
  have hDc := hD.sub (ws' := [(h, .inr (2, [.ref b0, .ref b1, .ref b2, .ref b3, .int (nI (nn)), .int (th)])), (b0, .inl (cD, 70, .inr (.inr (.inr (.inl (N)))))), (b1, .inl (cZ, 70, .inl (I))), (b2, .inl (cI, 60, .inl (T))), (b3, .inl (cI, 6, .inl (R)))]) [0, 1, 2, 3, 4] (by decide) rfl
  have hFc := va_free (wc := [(h, .inr (2, [.ref b0, .ref b1, .ref b2, .ref b3, .int (nI (nn)), .int (th)])), (b0, .inl (cD, 70, .inr (.inr (.inr (.inl (N)))))), (b1, .inl (cZ, 70, .inl (I))), (b2, .inl (cI, 60, .inl (T))), (b3, .inl (cI, 6, .inl (R)))]) hD hS hA [0, 1, 2, 3, 4] rfl
  refine va_calli (va_runV (As := [.int (nI (Bool.toNat (fb))), .int (nI (en)), .int (nI (bn))]) (rest := []) ⟨hx, hb, hml, hown, hts⟩ (c_X2_spot_ok l dC dI cD cZ cI cL h b0 b1 b2 b3 N I T R nn th s.heap.size (by omega) (fb) (en) (bn) (by omega) (by omega)) (cwV 3 hts gX2_told_X2_spot rfl rfl rfl (by decide +kernel) ⟨Nat.le_of_ble_eq_true rfl, Nat.le_of_ble_eq_true rfl⟩) (okMW_pre ⟨hP, hK⟩ hD) rfl rfl hl.1 rfl (lv_room (Nat.le_of_ble_eq_true rfl)) dX2_told_4 ⟨Nat.zero_le _, Nat.zero_le _⟩) hS (fun q _ h => hFc q h) hFc (fun r1 u1 t H1 locs ht hvm hw hB hz1 hk1 hS => ?_)
  obtain ⟨hP1, hK1, hD1⟩ := hB
  rw [ht] at hP1
  have hD := hD1.weaken (fun _ q _ h => hFc q.1 h)
  have hP := hP1
  generalize H1 = H at hP hS ⊢
  have hP : va_P (dC, dI) vwCl [(h, .inr (2, [.ref b0, .ref b1, .ref b2, .ref b3, .int (nI (nn)), .int (nI (0))])), (b0, .inl (cD, 70, .inr (.inr (.inr (.inl (N)))))), (b1, .inl (cZ, 70, .inl (I))), (b2, .inl (cI, 60, .inl (T))), (b3, .inl (cI, 6, .inl (R)))] H := hP
  have hD : va_D A [(h, .inr (2, [.ref b0, .ref b1, .ref b2, .ref b3, .int (nI (nn)), .int (nI (0))])), (b0, .inl (cD, 70, .inr (.inr (.inr (.inl (N)))))), (b1, .inl (cZ, 70, .inl (I))), (b2, .inl (cI, 60, .inl (T))), (b3, .inl (cI, 6, .inl (R)))] := hD
  subst hw
  have := mc_lt (f := fb) (e := en) (b := bn) (by omega) (by omega)
  refine lv_istore (lv' := [(4, .int (nI (mc fb en bn))), (0, .ref h), (1, .int (nI (Bool.toNat (fb)))), (2, .int (nI (en))), (3, .int (nI (bn)))]) hx hb dX2_told_7 hl (by decide) rfl (fun ls hl => ?_)
  refine lv_iload hx hb dX2_told_9 (lv_at hl 0 rfl) ?_
  refine lv_iconst (v := (-1)) hx hb dX2_told_11 (by decide) ?_
  refine lv_icmp_eq (tgt := 30) hx hb dX2_told_12 (by decide) (fun q => absurd q (nI_nm1 (by omega))) (fun _ => ?_)
  refine lv_aload_n hx hb dX2_told_15 rfl (lv_at hl 1 rfl) ?_
  refine va_get (D := (dC, dI)) (ci := 2) (v := .ref b1) (C := RX2) (T := TX2) (N := 6) hx hb hts hin2 hown hK hP 0 rfl rfl 1 (by decide) fl13 (fun _ h9 => h9) rfl dX2_told_16 ?_
  refine lv_iload hx hb dX2_told_19 (lv_at hl 0 rfl) ?_
  refine xn_zald hx hb hK hP 2 1 rfl rfl (n := 70) (j := mc fb en bn) (by omega) (by decide) dX2_told_21 ?_
  refine lv_if_ne (tgt := 30) hx hb dX2_told_22 (by decide) (fun q => absurd q (fun z => z hth)) (fun _ => ?_)
  refine lv_aload_n hx hb dX2_told_25 rfl (lv_at hl 1 rfl) ?_
  refine lv_iconst (v := nI 2) hx hb dX2_told_26 (by decide) ?_
  refine va_put (D := (dC, dI)) (ci := 2) (v := .int (nI (2))) (ty := .int) (C := RX2) (T := TX2) (N := 6) hx hb hts hin2 tyX2 tyX2_ok nmX2 hown hK hP hD hS 0 rfl rfl 5 (by decide) fl24 (fun _ h9 => h9) rfl (by decide +kernel) rfl rfl (Nat.le_of_ble_eq_true rfl) dX2_told_27 (fun H locs hP hD hS => ?_)
  have hP : va_P (dC, dI) vwCl [(h, .inr (2, [.ref b0, .ref b1, .ref b2, .ref b3, .int (nI (nn)), .int (nI (2))])), (b0, .inl (cD, 70, .inr (.inr (.inr (.inl (N)))))), (b1, .inl (cZ, 70, .inl (I))), (b2, .inl (cI, 60, .inl (T))), (b3, .inl (cI, 6, .inl (R)))] H := hP
  have hD : va_D A [(h, .inr (2, [.ref b0, .ref b1, .ref b2, .ref b3, .int (nI (nn)), .int (nI (2))])), (b0, .inl (cD, 70, .inr (.inr (.inr (.inl (N)))))), (b1, .inl (cZ, 70, .inl (I))), (b2, .inl (cI, 60, .inl (T))), (b3, .inl (cI, 6, .inl (R)))] := hD
  refine lv_aload_n hx hb dX2_told_30 rfl (lv_at hl 1 rfl) ?_
  refine va_get (D := (dC, dI)) (ci := 2) (v := .int (nI (2))) (C := RX2) (T := TX2) (N := 6) hx hb hts hin2 hown hK hP 0 rfl rfl 5 (by decide) fl24 (fun _ h9 => h9) rfl dX2_told_31 ?_
  refine lv_if_le (tgt := 41) hx hb dX2_told_34 (by decide) (fun q => absurd q (by decide)) (fun _ => ?_)
  refine lv_lconst (v := 0) hx hb dX2_told_37 (by decide) ?_
  refine lv_goto (tgt := 47) hx hb dX2_told_38 (by decide) ?_
  exact W.lret (v := 0) hx hb hr (fun t ht hW => ⟨⟨_, (), rfl, rfl, by rw [ht]; exact hP, va_K.moved hW.alike hK, hD⟩, hS.F ht⟩) hS.2.2 dX2_told_47
set_option maxHeartbeats 4000000 in
set_option maxRecDepth 100000 in
theorem c_X2_told_okN (l : Launch) (dC : Nat → ClassId) (dI : Nat → Nat → Nat) (cD cZ cI cL : ClassId) (h b0 b1 b2 b3 : Nat) (N : Nat → UInt64) (I T R : Nat → Int32) (nn : Nat) (th : Int32) (sz : Nat) (hnn : nn ≤ 6) (fb : Bool) (bn : Nat) (hbn : bn < 5) (hg : ∀ j, gd (N j)) (hth : ¬ I (ml fb bn) = 0) : Met l yX2_told wsX2_told ({ frames := 2, cells := 0, slots := 0, locals := 44 }) (va_Pc [.ref h, .int (nI (Bool.toNat (fb))), .int (-1), .int (nI (bn))] (fun U => U.heap.size = sz ∧ okM dC dI cD cZ cI cL h b0 b1 b2 b3 N I T R nn th U U.heap ∧ va_D (fun _ => True) (wM cD cZ cI cL h b0 b1 b2 b3 N I T R nn th))) (va_Ql (fun (r : Int64) (_ : Unit) => r = e8 (N (ml fb bn))) (fun _ t => atM dC dI cD cZ cI cL (va_A (wM cD cZ cI cL h b0 b1 b2 b3 N I T R nn th) sz) h b0 b1 b2 b3 N I T R nn (nI 0) t) (va_A (wM cD cZ cI cL h b0 b1 b2 b3 N I T R nn th) sz)) 0 0 (va_A (wM cD cZ cI cL h b0 b1 b2 b3 N I T R nn th) sz) := by
  refine Met.ofW (cc := cX2_told) (maxL := 5) (ret := (some .long)) (by decide) rfl ?_
  intro p e s m args below meth c s₁ B hml hv
  obtain ⟨rfl, hsz, hO, hD0⟩ := hv
  obtain ⟨hP, hK⟩ := id hO
  have hx := B.exec
  have hb := B.bytes
  have hr := B.returns
  have hts := atoms_spec (ws := wsX2_told) B.pre
  have hown : s.vm.findClass RX2 = some m.cls := findClass_of_methodNamed B.named
  have hlocks := B.notSynchronized
  subst hsz
  have hD := hD0.self (sz := s.heap.size)
  generalize hAe : va_A (wM cD cZ cI cL h b0 b1 b2 b3 N I T R nn th) s.heap.size = A at hD ⊢
  have hA : ∀ q : Nat, s.heap.size ≤ q → A q := fun q h => by rw [← hAe]; exact Or.inr h
  have hS : va_S A s.heap s.heap [] := va_S.rf
  have hP : va_P (dC, dI) vwCl [(h, .inr (2, [.ref b0, .ref b1, .ref b2, .ref b3, .int (nI (nn)), .int (th)])), (b0, .inl (cD, 70, .inr (.inr (.inr (.inl (N)))))), (b1, .inl (cZ, 70, .inl (I))), (b2, .inl (cI, 60, .inl (T))), (b3, .inl (cI, 6, .inl (R)))] s.heap := hP
  have hD : va_D A [(h, .inr (2, [.ref b0, .ref b1, .ref b2, .ref b3, .int (nI (nn)), .int (th)])), (b0, .inl (cD, 70, .inr (.inr (.inr (.inl (N)))))), (b1, .inl (cZ, 70, .inl (I))), (b2, .inl (cI, 60, .inl (T))), (b3, .inl (cI, 6, .inl (R)))] := hD
  have hin2 : ∀ w ∈ wsX20, w ∈ wsX2_told := (fun w h => List.mem_cons_of_mem _ (List.mem_append_right _ h))
  have fl13 := hts (.fieldLink RX2 13 "JuryTableModel" "isThere" "[Z") (by decide +kernel)
  have fl24 := hts (.fieldLink RX2 24 "JuryTableModel" "thrown" "I") (by decide +kernel)
  have hl := lv_entry ([.ref h, .int (nI (Bool.toNat (fb))), .int (-1), .int (nI (bn))]) (n := 5) (Nat.le_of_ble_eq_true rfl)
  rw [lg_entry_eq]
  generalize (lg_sl ([.ref h, .int (nI (Bool.toNat (fb))), .int (-1), .int (nI (bn))]) ++ List.replicate (5 - (lg_sl ([.ref h, .int (nI (Bool.toNat (fb))), .int (-1), .int (nI (bn))])).length) Slot.unset).toArray = ls at hl ⊢
  have hl : lv_has ls 5 [(0, .ref h), (1, .int (nI (Bool.toNat (fb)))), (2, .int (-1)), (3, .int (nI (bn)))] := hl
  refine lv_aload_n hx hb dX2_told_0 rfl (lv_at hl 0 rfl) ?_
  refine lv_iload_n hx hb dX2_told_1 rfl (lv_at hl 1 rfl) ?_
  refine lv_iload_n hx hb dX2_told_2 rfl (lv_at hl 2 rfl) ?_
  refine lv_iload_n hx hb dX2_told_3 rfl (lv_at hl 3 rfl) ?_
  have hPc := hP.sub (ws' := [(h, .inr (2, [.ref b0, .ref b1, .ref b2, .ref b3, .int (nI (nn)), .int (th)])), (b0, .inl (cD, 70, .inr (.inr (.inr (.inl (N)))))), (b1, .inl (cZ, 70, .inl (I))), (b2, .inl (cI, 60, .inl (T))), (b3, .inl (cI, 6, .inl (R)))]) [0, 1, 2, 3, 4] rfl
  have hDc := hD.sub (ws' := [(h, .inr (2, [.ref b0, .ref b1, .ref b2, .ref b3, .int (nI (nn)), .int (th)])), (b0, .inl (cD, 70, .inr (.inr (.inr (.inl (N)))))), (b1, .inl (cZ, 70, .inl (I))), (b2, .inl (cI, 60, .inl (T))), (b3, .inl (cI, 6, .inl (R)))]) [0, 1, 2, 3, 4] (by decide) rfl
  have hFc := va_free (wc := [(h, .inr (2, [.ref b0, .ref b1, .ref b2, .ref b3, .int (nI (nn)), .int (th)])), (b0, .inl (cD, 70, .inr (.inr (.inr (.inl (N)))))), (b1, .inl (cZ, 70, .inl (I))), (b2, .inl (cI, 60, .inl (T))), (b3, .inl (cI, 6, .inl (R)))]) hD hS hA [0, 1, 2, 3, 4] rfl
  refine va_calli (va_runV (As := [.int (nI (Bool.toNat (fb))), .int (-1), .int (nI (bn))]) (rest := []) ⟨hx, hb, hml, hown, hts⟩ (c_X2_spot_okN l dC dI cD cZ cI cL h b0 b1 b2 b3 N I T R nn th s.heap.size (by omega) (fb) (bn) (by omega)) (cwV 3 hts gX2_told_X2_spot rfl rfl rfl (by decide +kernel) ⟨Nat.le_of_ble_eq_true rfl, Nat.le_of_ble_eq_true rfl⟩) (okMW_pre ⟨hP, hK⟩ hD) rfl rfl hl.1 rfl (lv_room (Nat.le_of_ble_eq_true rfl)) dX2_told_4 ⟨Nat.zero_le _, Nat.zero_le _⟩) hS (fun q _ h => hFc q h) hFc (fun r1 u1 t H1 locs ht hvm hw hB hz1 hk1 hS => ?_)
  obtain ⟨hP1, hK1, hD1⟩ := hB
  rw [ht] at hP1
  have hD := hD1.weaken (fun _ q _ h => hFc q.1 h)
  have hP := hP1
  generalize H1 = H at hP hS ⊢
  have hP : va_P (dC, dI) vwCl [(h, .inr (2, [.ref b0, .ref b1, .ref b2, .ref b3, .int (nI (nn)), .int (nI (0))])), (b0, .inl (cD, 70, .inr (.inr (.inr (.inl (N)))))), (b1, .inl (cZ, 70, .inl (I))), (b2, .inl (cI, 60, .inl (T))), (b3, .inl (cI, 6, .inl (R)))] H := hP
  have hD : va_D A [(h, .inr (2, [.ref b0, .ref b1, .ref b2, .ref b3, .int (nI (nn)), .int (nI (0))])), (b0, .inl (cD, 70, .inr (.inr (.inr (.inl (N)))))), (b1, .inl (cZ, 70, .inl (I))), (b2, .inl (cI, 60, .inl (T))), (b3, .inl (cI, 6, .inl (R)))] := hD
  subst hw
  have := ml_lt (f := fb) (b := bn) (by omega)
  refine lv_istore (lv' := [(4, .int (nI (ml fb bn))), (0, .ref h), (1, .int (nI (Bool.toNat (fb)))), (2, .int (-1)), (3, .int (nI (bn)))]) hx hb dX2_told_7 hl (by decide) rfl (fun ls hl => ?_)
  refine lv_iload hx hb dX2_told_9 (lv_at hl 0 rfl) ?_
  refine lv_iconst (v := (-1)) hx hb dX2_told_11 (by decide) ?_
  refine lv_icmp_eq (tgt := 30) hx hb dX2_told_12 (by decide) (fun q => absurd q (nI_nm1 (by omega))) (fun _ => ?_)
  refine lv_aload_n hx hb dX2_told_15 rfl (lv_at hl 1 rfl) ?_
  refine va_get (D := (dC, dI)) (ci := 2) (v := .ref b1) (C := RX2) (T := TX2) (N := 6) hx hb hts hin2 hown hK hP 0 rfl rfl 1 (by decide) fl13 (fun _ h9 => h9) rfl dX2_told_16 ?_
  refine lv_iload hx hb dX2_told_19 (lv_at hl 0 rfl) ?_
  refine xn_zald hx hb hK hP 2 1 rfl rfl (n := 70) (j := ml fb bn) (by omega) (by decide) dX2_told_21 ?_
  refine lv_if_ne (tgt := 30) hx hb dX2_told_22 (by decide) (fun _ => ?_) (fun q => absurd q hth)
  refine lv_aload_n hx hb dX2_told_30 rfl (lv_at hl 1 rfl) ?_
  refine va_get (D := (dC, dI)) (ci := 2) (v := .int (nI (0))) (C := RX2) (T := TX2) (N := 6) hx hb hts hin2 hown hK hP 0 rfl rfl 5 (by decide) fl24 (fun _ h9 => h9) rfl dX2_told_31 ?_
  refine lv_if_le (tgt := 41) hx hb dX2_told_34 (by decide) (fun _ => ?_) (fun q => absurd (by decide) q)
  refine lv_aload_n hx hb dX2_told_41 rfl (lv_at hl 1 rfl) ?_
  refine lv_iload hx hb dX2_told_42 (lv_at hl 0 rfl) ?_
  refine vp_callSl (va_Run.run (va_runV (As := [.int (nI (ml fb bn))]) (rest := []) ⟨hx, hb, hml, hown, hts⟩ (c_X2_eighths l dC dI cD cZ cI cL h b0 b1 b2 b3 N I T R nn (nI 0) (ml fb bn) (by omega) (hg _)) (cwV 1 hts gX2_told_X2_eighths rfl rfl rfl (by decide +kernel) ⟨Nat.le_of_ble_eq_true rfl, Nat.le_of_ble_eq_true rfl⟩) (okM_pre ⟨hP, hK⟩) rfl rfl hl.1 rfl (lv_room (Nat.le_of_ble_eq_true rfl)) dX2_told_44 ⟨Nat.zero_le _, Nat.zero_le _⟩)) (fun r2 er2 => ?_)
  subst er2
  exact W.lret (v := e8 (N (ml fb bn))) hx hb hr (fun t ht hW => ⟨⟨_, (), rfl, rfl, by rw [ht]; exact hP, va_K.moved hW.alike hK, hD⟩, hS.F ht⟩) hS.2.2 dX2_told_47
set_option maxHeartbeats 4000000 in
set_option maxRecDepth 100000 in
theorem c_X2_told_eokN (l : Launch) (dC : Nat → ClassId) (dI : Nat → Nat → Nat) (cD cZ cI cL : ClassId) (h b0 b1 b2 b3 : Nat) (N : Nat → UInt64) (I T R : Nat → Int32) (nn : Nat) (th : Int32) (sz : Nat) (hnn : nn ≤ 6) (fb : Bool) (bn : Nat) (hbn : bn < 5) (hth : I (ml fb bn) = 0) : Met l yX2_told wsX2_told ({ frames := 2, cells := 0, slots := 0, locals := 44 }) (va_Pc [.ref h, .int (nI (Bool.toNat (fb))), .int (-1), .int (nI (bn))] (fun U => U.heap.size = sz ∧ okM dC dI cD cZ cI cL h b0 b1 b2 b3 N I T R nn th U U.heap ∧ va_D (fun _ => True) (wM cD cZ cI cL h b0 b1 b2 b3 N I T R nn th))) (va_Ql (fun (r : Int64) (_ : Unit) => r = 0) (fun _ t => atM dC dI cD cZ cI cL (va_A (wM cD cZ cI cL h b0 b1 b2 b3 N I T R nn th) sz) h b0 b1 b2 b3 N I T R nn (nI 2) t) (va_A (wM cD cZ cI cL h b0 b1 b2 b3 N I T R nn th) sz)) 0 0 (va_A (wM cD cZ cI cL h b0 b1 b2 b3 N I T R nn th) sz) := by
  refine Met.ofW (cc := cX2_told) (maxL := 5) (ret := (some .long)) (by decide) rfl ?_
  intro p e s m args below meth c s₁ B hml hv
  obtain ⟨rfl, hsz, hO, hD0⟩ := hv
  obtain ⟨hP, hK⟩ := id hO
  have hx := B.exec
  have hb := B.bytes
  have hr := B.returns
  have hts := atoms_spec (ws := wsX2_told) B.pre
  have hown : s.vm.findClass RX2 = some m.cls := findClass_of_methodNamed B.named
  have hlocks := B.notSynchronized
  subst hsz
  have hD := hD0.self (sz := s.heap.size)
  generalize hAe : va_A (wM cD cZ cI cL h b0 b1 b2 b3 N I T R nn th) s.heap.size = A at hD ⊢
  have hA : ∀ q : Nat, s.heap.size ≤ q → A q := fun q h => by rw [← hAe]; exact Or.inr h
  have hS : va_S A s.heap s.heap [] := va_S.rf
  have hP : va_P (dC, dI) vwCl [(h, .inr (2, [.ref b0, .ref b1, .ref b2, .ref b3, .int (nI (nn)), .int (th)])), (b0, .inl (cD, 70, .inr (.inr (.inr (.inl (N)))))), (b1, .inl (cZ, 70, .inl (I))), (b2, .inl (cI, 60, .inl (T))), (b3, .inl (cI, 6, .inl (R)))] s.heap := hP
  have hD : va_D A [(h, .inr (2, [.ref b0, .ref b1, .ref b2, .ref b3, .int (nI (nn)), .int (th)])), (b0, .inl (cD, 70, .inr (.inr (.inr (.inl (N)))))), (b1, .inl (cZ, 70, .inl (I))), (b2, .inl (cI, 60, .inl (T))), (b3, .inl (cI, 6, .inl (R)))] := hD
  have hin2 : ∀ w ∈ wsX20, w ∈ wsX2_told := (fun w h => List.mem_cons_of_mem _ (List.mem_append_right _ h))
  have fl13 := hts (.fieldLink RX2 13 "JuryTableModel" "isThere" "[Z") (by decide +kernel)
  have fl24 := hts (.fieldLink RX2 24 "JuryTableModel" "thrown" "I") (by decide +kernel)
  have hl := lv_entry ([.ref h, .int (nI (Bool.toNat (fb))), .int (-1), .int (nI (bn))]) (n := 5) (Nat.le_of_ble_eq_true rfl)
  rw [lg_entry_eq]
  generalize (lg_sl ([.ref h, .int (nI (Bool.toNat (fb))), .int (-1), .int (nI (bn))]) ++ List.replicate (5 - (lg_sl ([.ref h, .int (nI (Bool.toNat (fb))), .int (-1), .int (nI (bn))])).length) Slot.unset).toArray = ls at hl ⊢
  have hl : lv_has ls 5 [(0, .ref h), (1, .int (nI (Bool.toNat (fb)))), (2, .int (-1)), (3, .int (nI (bn)))] := hl
  refine lv_aload_n hx hb dX2_told_0 rfl (lv_at hl 0 rfl) ?_
  refine lv_iload_n hx hb dX2_told_1 rfl (lv_at hl 1 rfl) ?_
  refine lv_iload_n hx hb dX2_told_2 rfl (lv_at hl 2 rfl) ?_
  refine lv_iload_n hx hb dX2_told_3 rfl (lv_at hl 3 rfl) ?_
  have hPc := hP.sub (ws' := [(h, .inr (2, [.ref b0, .ref b1, .ref b2, .ref b3, .int (nI (nn)), .int (th)])), (b0, .inl (cD, 70, .inr (.inr (.inr (.inl (N)))))), (b1, .inl (cZ, 70, .inl (I))), (b2, .inl (cI, 60, .inl (T))), (b3, .inl (cI, 6, .inl (R)))]) [0, 1, 2, 3, 4] rfl
  have hDc := hD.sub (ws' := [(h, .inr (2, [.ref b0, .ref b1, .ref b2, .ref b3, .int (nI (nn)), .int (th)])), (b0, .inl (cD, 70, .inr (.inr (.inr (.inl (N)))))), (b1, .inl (cZ, 70, .inl (I))), (b2, .inl (cI, 60, .inl (T))), (b3, .inl (cI, 6, .inl (R)))]) [0, 1, 2, 3, 4] (by decide) rfl
  have hFc := va_free (wc := [(h, .inr (2, [.ref b0, .ref b1, .ref b2, .ref b3, .int (nI (nn)), .int (th)])), (b0, .inl (cD, 70, .inr (.inr (.inr (.inl (N)))))), (b1, .inl (cZ, 70, .inl (I))), (b2, .inl (cI, 60, .inl (T))), (b3, .inl (cI, 6, .inl (R)))]) hD hS hA [0, 1, 2, 3, 4] rfl
  refine va_calli (va_runV (As := [.int (nI (Bool.toNat (fb))), .int (-1), .int (nI (bn))]) (rest := []) ⟨hx, hb, hml, hown, hts⟩ (c_X2_spot_okN l dC dI cD cZ cI cL h b0 b1 b2 b3 N I T R nn th s.heap.size (by omega) (fb) (bn) (by omega)) (cwV 3 hts gX2_told_X2_spot rfl rfl rfl (by decide +kernel) ⟨Nat.le_of_ble_eq_true rfl, Nat.le_of_ble_eq_true rfl⟩) (okMW_pre ⟨hP, hK⟩ hD) rfl rfl hl.1 rfl (lv_room (Nat.le_of_ble_eq_true rfl)) dX2_told_4 ⟨Nat.zero_le _, Nat.zero_le _⟩) hS (fun q _ h => hFc q h) hFc (fun r1 u1 t H1 locs ht hvm hw hB hz1 hk1 hS => ?_)
  obtain ⟨hP1, hK1, hD1⟩ := hB
  rw [ht] at hP1
  have hD := hD1.weaken (fun _ q _ h => hFc q.1 h)
  have hP := hP1
  generalize H1 = H at hP hS ⊢
  have hP : va_P (dC, dI) vwCl [(h, .inr (2, [.ref b0, .ref b1, .ref b2, .ref b3, .int (nI (nn)), .int (nI (0))])), (b0, .inl (cD, 70, .inr (.inr (.inr (.inl (N)))))), (b1, .inl (cZ, 70, .inl (I))), (b2, .inl (cI, 60, .inl (T))), (b3, .inl (cI, 6, .inl (R)))] H := hP
  have hD : va_D A [(h, .inr (2, [.ref b0, .ref b1, .ref b2, .ref b3, .int (nI (nn)), .int (nI (0))])), (b0, .inl (cD, 70, .inr (.inr (.inr (.inl (N)))))), (b1, .inl (cZ, 70, .inl (I))), (b2, .inl (cI, 60, .inl (T))), (b3, .inl (cI, 6, .inl (R)))] := hD
  subst hw
  have := ml_lt (f := fb) (b := bn) (by omega)
  refine lv_istore (lv' := [(4, .int (nI (ml fb bn))), (0, .ref h), (1, .int (nI (Bool.toNat (fb)))), (2, .int (-1)), (3, .int (nI (bn)))]) hx hb dX2_told_7 hl (by decide) rfl (fun ls hl => ?_)
  refine lv_iload hx hb dX2_told_9 (lv_at hl 0 rfl) ?_
  refine lv_iconst (v := (-1)) hx hb dX2_told_11 (by decide) ?_
  refine lv_icmp_eq (tgt := 30) hx hb dX2_told_12 (by decide) (fun q => absurd q (nI_nm1 (by omega))) (fun _ => ?_)
  refine lv_aload_n hx hb dX2_told_15 rfl (lv_at hl 1 rfl) ?_
  refine va_get (D := (dC, dI)) (ci := 2) (v := .ref b1) (C := RX2) (T := TX2) (N := 6) hx hb hts hin2 hown hK hP 0 rfl rfl 1 (by decide) fl13 (fun _ h9 => h9) rfl dX2_told_16 ?_
  refine lv_iload hx hb dX2_told_19 (lv_at hl 0 rfl) ?_
  refine xn_zald hx hb hK hP 2 1 rfl rfl (n := 70) (j := ml fb bn) (by omega) (by decide) dX2_told_21 ?_
  refine lv_if_ne (tgt := 30) hx hb dX2_told_22 (by decide) (fun q => absurd q (fun z => z hth)) (fun _ => ?_)
  refine lv_aload_n hx hb dX2_told_25 rfl (lv_at hl 1 rfl) ?_
  refine lv_iconst (v := nI 2) hx hb dX2_told_26 (by decide) ?_
  refine va_put (D := (dC, dI)) (ci := 2) (v := .int (nI (2))) (ty := .int) (C := RX2) (T := TX2) (N := 6) hx hb hts hin2 tyX2 tyX2_ok nmX2 hown hK hP hD hS 0 rfl rfl 5 (by decide) fl24 (fun _ h9 => h9) rfl (by decide +kernel) rfl rfl (Nat.le_of_ble_eq_true rfl) dX2_told_27 (fun H locs hP hD hS => ?_)
  have hP : va_P (dC, dI) vwCl [(h, .inr (2, [.ref b0, .ref b1, .ref b2, .ref b3, .int (nI (nn)), .int (nI (2))])), (b0, .inl (cD, 70, .inr (.inr (.inr (.inl (N)))))), (b1, .inl (cZ, 70, .inl (I))), (b2, .inl (cI, 60, .inl (T))), (b3, .inl (cI, 6, .inl (R)))] H := hP
  have hD : va_D A [(h, .inr (2, [.ref b0, .ref b1, .ref b2, .ref b3, .int (nI (nn)), .int (nI (2))])), (b0, .inl (cD, 70, .inr (.inr (.inr (.inl (N)))))), (b1, .inl (cZ, 70, .inl (I))), (b2, .inl (cI, 60, .inl (T))), (b3, .inl (cI, 6, .inl (R)))] := hD
  refine lv_aload_n hx hb dX2_told_30 rfl (lv_at hl 1 rfl) ?_
  refine va_get (D := (dC, dI)) (ci := 2) (v := .int (nI (2))) (C := RX2) (T := TX2) (N := 6) hx hb hts hin2 hown hK hP 0 rfl rfl 5 (by decide) fl24 (fun _ h9 => h9) rfl dX2_told_31 ?_
  refine lv_if_le (tgt := 41) hx hb dX2_told_34 (by decide) (fun q => absurd q (by decide)) (fun _ => ?_)
  refine lv_lconst (v := 0) hx hb dX2_told_37 (by decide) ?_
  refine lv_goto (tgt := 47) hx hb dX2_told_38 (by decide) ?_
  exact W.lret (v := 0) hx hb hr (fun t ht hW => ⟨⟨_, (), rfl, rfl, by rw [ht]; exact hP, va_K.moved hW.alike hK, hD⟩, hS.F ht⟩) hS.2.2 dX2_told_47
set_option maxHeartbeats 4000000 in
set_option maxRecDepth 100000 in
theorem c_X2_told_n1 (l : Launch) (dC : Nat → ClassId) (dI : Nat → Nat → Nat) (cD cZ cI cL : ClassId) (h b0 b1 b2 b3 : Nat) (N : Nat → UInt64) (I T R : Nat → Int32) (nn : Nat) (th : Int32) (sz : Nat) (hnn : nn ≤ 6) (fb : Bool) (ev bv : Int32) (hbad : vB ev nn = false) (hne : ¬ ev = (-1)) : Met l yX2_told wsX2_told ({ frames := 2, cells := 0, slots := 0, locals := 44 }) (va_Pc [.ref h, .int (nI (Bool.toNat (fb))), .int (ev), .int (bv)] (fun U => U.heap.size = sz ∧ okM dC dI cD cZ cI cL h b0 b1 b2 b3 N I T R nn th U U.heap ∧ va_D (fun _ => True) (wM cD cZ cI cL h b0 b1 b2 b3 N I T R nn th))) (va_Ql (fun (r : Int64) (_ : Unit) => r = 0) (fun _ t => atM dC dI cD cZ cI cL (va_A (wM cD cZ cI cL h b0 b1 b2 b3 N I T R nn th) sz) h b0 b1 b2 b3 N I T R nn (nI 1) t) (va_A (wM cD cZ cI cL h b0 b1 b2 b3 N I T R nn th) sz)) 0 0 (va_A (wM cD cZ cI cL h b0 b1 b2 b3 N I T R nn th) sz) := by
  refine Met.ofW (cc := cX2_told) (maxL := 5) (ret := (some .long)) (by decide) rfl ?_
  intro p e s m args below meth c s₁ B hml hv
  obtain ⟨rfl, hsz, hO, hD0⟩ := hv
  obtain ⟨hP, hK⟩ := id hO
  have hx := B.exec
  have hb := B.bytes
  have hr := B.returns
  have hts := atoms_spec (ws := wsX2_told) B.pre
  have hown : s.vm.findClass RX2 = some m.cls := findClass_of_methodNamed B.named
  have hlocks := B.notSynchronized
  subst hsz
  have hD := hD0.self (sz := s.heap.size)
  generalize hAe : va_A (wM cD cZ cI cL h b0 b1 b2 b3 N I T R nn th) s.heap.size = A at hD ⊢
  have hA : ∀ q : Nat, s.heap.size ≤ q → A q := fun q h => by rw [← hAe]; exact Or.inr h
  have hS : va_S A s.heap s.heap [] := va_S.rf
  have hP : va_P (dC, dI) vwCl [(h, .inr (2, [.ref b0, .ref b1, .ref b2, .ref b3, .int (nI (nn)), .int (th)])), (b0, .inl (cD, 70, .inr (.inr (.inr (.inl (N)))))), (b1, .inl (cZ, 70, .inl (I))), (b2, .inl (cI, 60, .inl (T))), (b3, .inl (cI, 6, .inl (R)))] s.heap := hP
  have hD : va_D A [(h, .inr (2, [.ref b0, .ref b1, .ref b2, .ref b3, .int (nI (nn)), .int (th)])), (b0, .inl (cD, 70, .inr (.inr (.inr (.inl (N)))))), (b1, .inl (cZ, 70, .inl (I))), (b2, .inl (cI, 60, .inl (T))), (b3, .inl (cI, 6, .inl (R)))] := hD
  have hin2 : ∀ w ∈ wsX20, w ∈ wsX2_told := (fun w h => List.mem_cons_of_mem _ (List.mem_append_right _ h))
  have fl24 := hts (.fieldLink RX2 24 "JuryTableModel" "thrown" "I") (by decide +kernel)
  have hl := lv_entry ([.ref h, .int (nI (Bool.toNat (fb))), .int (ev), .int (bv)]) (n := 5) (Nat.le_of_ble_eq_true rfl)
  rw [lg_entry_eq]
  generalize (lg_sl ([.ref h, .int (nI (Bool.toNat (fb))), .int (ev), .int (bv)]) ++ List.replicate (5 - (lg_sl ([.ref h, .int (nI (Bool.toNat (fb))), .int (ev), .int (bv)])).length) Slot.unset).toArray = ls at hl ⊢
  have hl : lv_has ls 5 [(0, .ref h), (1, .int (nI (Bool.toNat (fb)))), (2, .int (ev)), (3, .int (bv))] := hl
  refine lv_aload_n hx hb dX2_told_0 rfl (lv_at hl 0 rfl) ?_
  refine lv_iload_n hx hb dX2_told_1 rfl (lv_at hl 1 rfl) ?_
  refine lv_iload_n hx hb dX2_told_2 rfl (lv_at hl 2 rfl) ?_
  refine lv_iload_n hx hb dX2_told_3 rfl (lv_at hl 3 rfl) ?_
  have hPc := hP.sub (ws' := [(h, .inr (2, [.ref b0, .ref b1, .ref b2, .ref b3, .int (nI (nn)), .int (th)])), (b0, .inl (cD, 70, .inr (.inr (.inr (.inl (N)))))), (b1, .inl (cZ, 70, .inl (I))), (b2, .inl (cI, 60, .inl (T))), (b3, .inl (cI, 6, .inl (R)))]) [0, 1, 2, 3, 4] rfl
  have hDc := hD.sub (ws' := [(h, .inr (2, [.ref b0, .ref b1, .ref b2, .ref b3, .int (nI (nn)), .int (th)])), (b0, .inl (cD, 70, .inr (.inr (.inr (.inl (N)))))), (b1, .inl (cZ, 70, .inl (I))), (b2, .inl (cI, 60, .inl (T))), (b3, .inl (cI, 6, .inl (R)))]) [0, 1, 2, 3, 4] (by decide) rfl
  have hFc := va_free (wc := [(h, .inr (2, [.ref b0, .ref b1, .ref b2, .ref b3, .int (nI (nn)), .int (th)])), (b0, .inl (cD, 70, .inr (.inr (.inr (.inl (N)))))), (b1, .inl (cZ, 70, .inl (I))), (b2, .inl (cI, 60, .inl (T))), (b3, .inl (cI, 6, .inl (R)))]) hD hS hA [0, 1, 2, 3, 4] rfl
  refine va_calli (va_runV (As := [.int (nI (Bool.toNat (fb))), .int (ev), .int (bv)]) (rest := []) ⟨hx, hb, hml, hown, hts⟩ (c_X2_spot_n1 l dC dI cD cZ cI cL h b0 b1 b2 b3 N I T R nn th s.heap.size (by omega) (fb) (ev) (bv) hbad hne) (cwV 3 hts gX2_told_X2_spot rfl rfl rfl (by decide +kernel) ⟨Nat.le_of_ble_eq_true rfl, Nat.le_of_ble_eq_true rfl⟩) (okMW_pre ⟨hP, hK⟩ hD) rfl rfl hl.1 rfl (lv_room (Nat.le_of_ble_eq_true rfl)) dX2_told_4 ⟨Nat.zero_le _, Nat.zero_le _⟩) hS (fun q _ h => hFc q h) hFc (fun r1 u1 t H1 locs ht hvm hw hB hz1 hk1 hS => ?_)
  obtain ⟨hP1, hK1, hD1⟩ := hB
  rw [ht] at hP1
  have hD := hD1.weaken (fun _ q _ h => hFc q.1 h)
  have hP := hP1
  generalize H1 = H at hP hS ⊢
  have hP : va_P (dC, dI) vwCl [(h, .inr (2, [.ref b0, .ref b1, .ref b2, .ref b3, .int (nI (nn)), .int (nI (1))])), (b0, .inl (cD, 70, .inr (.inr (.inr (.inl (N)))))), (b1, .inl (cZ, 70, .inl (I))), (b2, .inl (cI, 60, .inl (T))), (b3, .inl (cI, 6, .inl (R)))] H := hP
  have hD : va_D A [(h, .inr (2, [.ref b0, .ref b1, .ref b2, .ref b3, .int (nI (nn)), .int (nI (1))])), (b0, .inl (cD, 70, .inr (.inr (.inr (.inl (N)))))), (b1, .inl (cZ, 70, .inl (I))), (b2, .inl (cI, 60, .inl (T))), (b3, .inl (cI, 6, .inl (R)))] := hD
  subst hw
  refine lv_istore (lv' := [(4, .int (-1)), (0, .ref h), (1, .int (nI (Bool.toNat (fb)))), (2, .int (ev)), (3, .int (bv))]) hx hb dX2_told_7 hl (by decide) rfl (fun ls hl => ?_)
  refine lv_iload hx hb dX2_told_9 (lv_at hl 0 rfl) ?_
  refine lv_iconst (v := (-1)) hx hb dX2_told_11 (by decide) ?_
  refine lv_icmp_eq (tgt := 30) hx hb dX2_told_12 (by decide) (fun _ => ?_) (fun q => absurd (by decide) q)
  refine lv_aload_n hx hb dX2_told_30 rfl (lv_at hl 1 rfl) ?_
  refine va_get (D := (dC, dI)) (ci := 2) (v := .int (nI (1))) (C := RX2) (T := TX2) (N := 6) hx hb hts hin2 hown hK hP 0 rfl rfl 5 (by decide) fl24 (fun _ h9 => h9) rfl dX2_told_31 ?_
  refine lv_if_le (tgt := 41) hx hb dX2_told_34 (by decide) (fun q => absurd q (by decide)) (fun _ => ?_)
  refine lv_lconst (v := 0) hx hb dX2_told_37 (by decide) ?_
  refine lv_goto (tgt := 47) hx hb dX2_told_38 (by decide) ?_
  exact W.lret (v := 0) hx hb hr (fun t ht hW => ⟨⟨_, (), rfl, rfl, by rw [ht]; exact hP, va_K.moved hW.alike hK, hD⟩, hS.F ht⟩) hS.2.2 dX2_told_47
set_option maxHeartbeats 4000000 in
set_option maxRecDepth 100000 in
theorem c_X2_told_n2 (l : Launch) (dC : Nat → ClassId) (dI : Nat → Nat → Nat) (cD cZ cI cL : ClassId) (h b0 b1 b2 b3 : Nat) (N : Nat → UInt64) (I T R : Nat → Int32) (nn : Nat) (th : Int32) (sz : Nat) (hnn : nn ≤ 6) (fb : Bool) (en : Nat) (bv : Int32) (hen : en < nn) (hbad : vB bv 5 = false) : Met l yX2_told wsX2_told ({ frames := 2, cells := 0, slots := 0, locals := 44 }) (va_Pc [.ref h, .int (nI (Bool.toNat (fb))), .int (nI (en)), .int (bv)] (fun U => U.heap.size = sz ∧ okM dC dI cD cZ cI cL h b0 b1 b2 b3 N I T R nn th U U.heap ∧ va_D (fun _ => True) (wM cD cZ cI cL h b0 b1 b2 b3 N I T R nn th))) (va_Ql (fun (r : Int64) (_ : Unit) => r = 0) (fun _ t => atM dC dI cD cZ cI cL (va_A (wM cD cZ cI cL h b0 b1 b2 b3 N I T R nn th) sz) h b0 b1 b2 b3 N I T R nn (nI 1) t) (va_A (wM cD cZ cI cL h b0 b1 b2 b3 N I T R nn th) sz)) 0 0 (va_A (wM cD cZ cI cL h b0 b1 b2 b3 N I T R nn th) sz) := by
  refine Met.ofW (cc := cX2_told) (maxL := 5) (ret := (some .long)) (by decide) rfl ?_
  intro p e s m args below meth c s₁ B hml hv
  obtain ⟨rfl, hsz, hO, hD0⟩ := hv
  obtain ⟨hP, hK⟩ := id hO
  have hx := B.exec
  have hb := B.bytes
  have hr := B.returns
  have hts := atoms_spec (ws := wsX2_told) B.pre
  have hown : s.vm.findClass RX2 = some m.cls := findClass_of_methodNamed B.named
  have hlocks := B.notSynchronized
  subst hsz
  have hD := hD0.self (sz := s.heap.size)
  generalize hAe : va_A (wM cD cZ cI cL h b0 b1 b2 b3 N I T R nn th) s.heap.size = A at hD ⊢
  have hA : ∀ q : Nat, s.heap.size ≤ q → A q := fun q h => by rw [← hAe]; exact Or.inr h
  have hS : va_S A s.heap s.heap [] := va_S.rf
  have hP : va_P (dC, dI) vwCl [(h, .inr (2, [.ref b0, .ref b1, .ref b2, .ref b3, .int (nI (nn)), .int (th)])), (b0, .inl (cD, 70, .inr (.inr (.inr (.inl (N)))))), (b1, .inl (cZ, 70, .inl (I))), (b2, .inl (cI, 60, .inl (T))), (b3, .inl (cI, 6, .inl (R)))] s.heap := hP
  have hD : va_D A [(h, .inr (2, [.ref b0, .ref b1, .ref b2, .ref b3, .int (nI (nn)), .int (th)])), (b0, .inl (cD, 70, .inr (.inr (.inr (.inl (N)))))), (b1, .inl (cZ, 70, .inl (I))), (b2, .inl (cI, 60, .inl (T))), (b3, .inl (cI, 6, .inl (R)))] := hD
  have hin2 : ∀ w ∈ wsX20, w ∈ wsX2_told := (fun w h => List.mem_cons_of_mem _ (List.mem_append_right _ h))
  have fl24 := hts (.fieldLink RX2 24 "JuryTableModel" "thrown" "I") (by decide +kernel)
  have hl := lv_entry ([.ref h, .int (nI (Bool.toNat (fb))), .int (nI (en)), .int (bv)]) (n := 5) (Nat.le_of_ble_eq_true rfl)
  rw [lg_entry_eq]
  generalize (lg_sl ([.ref h, .int (nI (Bool.toNat (fb))), .int (nI (en)), .int (bv)]) ++ List.replicate (5 - (lg_sl ([.ref h, .int (nI (Bool.toNat (fb))), .int (nI (en)), .int (bv)])).length) Slot.unset).toArray = ls at hl ⊢
  have hl : lv_has ls 5 [(0, .ref h), (1, .int (nI (Bool.toNat (fb)))), (2, .int (nI (en))), (3, .int (bv))] := hl
  refine lv_aload_n hx hb dX2_told_0 rfl (lv_at hl 0 rfl) ?_
  refine lv_iload_n hx hb dX2_told_1 rfl (lv_at hl 1 rfl) ?_
  refine lv_iload_n hx hb dX2_told_2 rfl (lv_at hl 2 rfl) ?_
  refine lv_iload_n hx hb dX2_told_3 rfl (lv_at hl 3 rfl) ?_
  have hPc := hP.sub (ws' := [(h, .inr (2, [.ref b0, .ref b1, .ref b2, .ref b3, .int (nI (nn)), .int (th)])), (b0, .inl (cD, 70, .inr (.inr (.inr (.inl (N)))))), (b1, .inl (cZ, 70, .inl (I))), (b2, .inl (cI, 60, .inl (T))), (b3, .inl (cI, 6, .inl (R)))]) [0, 1, 2, 3, 4] rfl
  have hDc := hD.sub (ws' := [(h, .inr (2, [.ref b0, .ref b1, .ref b2, .ref b3, .int (nI (nn)), .int (th)])), (b0, .inl (cD, 70, .inr (.inr (.inr (.inl (N)))))), (b1, .inl (cZ, 70, .inl (I))), (b2, .inl (cI, 60, .inl (T))), (b3, .inl (cI, 6, .inl (R)))]) [0, 1, 2, 3, 4] (by decide) rfl
  have hFc := va_free (wc := [(h, .inr (2, [.ref b0, .ref b1, .ref b2, .ref b3, .int (nI (nn)), .int (th)])), (b0, .inl (cD, 70, .inr (.inr (.inr (.inl (N)))))), (b1, .inl (cZ, 70, .inl (I))), (b2, .inl (cI, 60, .inl (T))), (b3, .inl (cI, 6, .inl (R)))]) hD hS hA [0, 1, 2, 3, 4] rfl
  refine va_calli (va_runV (As := [.int (nI (Bool.toNat (fb))), .int (nI (en)), .int (bv)]) (rest := []) ⟨hx, hb, hml, hown, hts⟩ (c_X2_spot_n2 l dC dI cD cZ cI cL h b0 b1 b2 b3 N I T R nn th s.heap.size (by omega) (fb) (en) (bv) (by omega) hbad) (cwV 3 hts gX2_told_X2_spot rfl rfl rfl (by decide +kernel) ⟨Nat.le_of_ble_eq_true rfl, Nat.le_of_ble_eq_true rfl⟩) (okMW_pre ⟨hP, hK⟩ hD) rfl rfl hl.1 rfl (lv_room (Nat.le_of_ble_eq_true rfl)) dX2_told_4 ⟨Nat.zero_le _, Nat.zero_le _⟩) hS (fun q _ h => hFc q h) hFc (fun r1 u1 t H1 locs ht hvm hw hB hz1 hk1 hS => ?_)
  obtain ⟨hP1, hK1, hD1⟩ := hB
  rw [ht] at hP1
  have hD := hD1.weaken (fun _ q _ h => hFc q.1 h)
  have hP := hP1
  generalize H1 = H at hP hS ⊢
  have hP : va_P (dC, dI) vwCl [(h, .inr (2, [.ref b0, .ref b1, .ref b2, .ref b3, .int (nI (nn)), .int (nI (1))])), (b0, .inl (cD, 70, .inr (.inr (.inr (.inl (N)))))), (b1, .inl (cZ, 70, .inl (I))), (b2, .inl (cI, 60, .inl (T))), (b3, .inl (cI, 6, .inl (R)))] H := hP
  have hD : va_D A [(h, .inr (2, [.ref b0, .ref b1, .ref b2, .ref b3, .int (nI (nn)), .int (nI (1))])), (b0, .inl (cD, 70, .inr (.inr (.inr (.inl (N)))))), (b1, .inl (cZ, 70, .inl (I))), (b2, .inl (cI, 60, .inl (T))), (b3, .inl (cI, 6, .inl (R)))] := hD
  subst hw
  refine lv_istore (lv' := [(4, .int (-1)), (0, .ref h), (1, .int (nI (Bool.toNat (fb)))), (2, .int (nI (en))), (3, .int (bv))]) hx hb dX2_told_7 hl (by decide) rfl (fun ls hl => ?_)
  refine lv_iload hx hb dX2_told_9 (lv_at hl 0 rfl) ?_
  refine lv_iconst (v := (-1)) hx hb dX2_told_11 (by decide) ?_
  refine lv_icmp_eq (tgt := 30) hx hb dX2_told_12 (by decide) (fun _ => ?_) (fun q => absurd (by decide) q)
  refine lv_aload_n hx hb dX2_told_30 rfl (lv_at hl 1 rfl) ?_
  refine va_get (D := (dC, dI)) (ci := 2) (v := .int (nI (1))) (C := RX2) (T := TX2) (N := 6) hx hb hts hin2 hown hK hP 0 rfl rfl 5 (by decide) fl24 (fun _ h9 => h9) rfl dX2_told_31 ?_
  refine lv_if_le (tgt := 41) hx hb dX2_told_34 (by decide) (fun q => absurd q (by decide)) (fun _ => ?_)
  refine lv_lconst (v := 0) hx hb dX2_told_37 (by decide) ?_
  refine lv_goto (tgt := 47) hx hb dX2_told_38 (by decide) ?_
  exact W.lret (v := 0) hx hb hr (fun t ht hW => ⟨⟨_, (), rfl, rfl, by rw [ht]; exact hP, va_K.moved hW.alike hK, hD⟩, hS.F ht⟩) hS.2.2 dX2_told_47
set_option maxHeartbeats 4000000 in
set_option maxRecDepth 100000 in
theorem c_X2_told_n2N (l : Launch) (dC : Nat → ClassId) (dI : Nat → Nat → Nat) (cD cZ cI cL : ClassId) (h b0 b1 b2 b3 : Nat) (N : Nat → UInt64) (I T R : Nat → Int32) (nn : Nat) (th : Int32) (sz : Nat) (hnn : nn ≤ 6) (fb : Bool) (bv : Int32) (hbad : vB bv 5 = false) : Met l yX2_told wsX2_told ({ frames := 2, cells := 0, slots := 0, locals := 44 }) (va_Pc [.ref h, .int (nI (Bool.toNat (fb))), .int (-1), .int (bv)] (fun U => U.heap.size = sz ∧ okM dC dI cD cZ cI cL h b0 b1 b2 b3 N I T R nn th U U.heap ∧ va_D (fun _ => True) (wM cD cZ cI cL h b0 b1 b2 b3 N I T R nn th))) (va_Ql (fun (r : Int64) (_ : Unit) => r = 0) (fun _ t => atM dC dI cD cZ cI cL (va_A (wM cD cZ cI cL h b0 b1 b2 b3 N I T R nn th) sz) h b0 b1 b2 b3 N I T R nn (nI 1) t) (va_A (wM cD cZ cI cL h b0 b1 b2 b3 N I T R nn th) sz)) 0 0 (va_A (wM cD cZ cI cL h b0 b1 b2 b3 N I T R nn th) sz) := by
  refine Met.ofW (cc := cX2_told) (maxL := 5) (ret := (some .long)) (by decide) rfl ?_
  intro p e s m args below meth c s₁ B hml hv
  obtain ⟨rfl, hsz, hO, hD0⟩ := hv
  obtain ⟨hP, hK⟩ := id hO
  have hx := B.exec
  have hb := B.bytes
  have hr := B.returns
  have hts := atoms_spec (ws := wsX2_told) B.pre
  have hown : s.vm.findClass RX2 = some m.cls := findClass_of_methodNamed B.named
  have hlocks := B.notSynchronized
  subst hsz
  have hD := hD0.self (sz := s.heap.size)
  generalize hAe : va_A (wM cD cZ cI cL h b0 b1 b2 b3 N I T R nn th) s.heap.size = A at hD ⊢
  have hA : ∀ q : Nat, s.heap.size ≤ q → A q := fun q h => by rw [← hAe]; exact Or.inr h
  have hS : va_S A s.heap s.heap [] := va_S.rf
  have hP : va_P (dC, dI) vwCl [(h, .inr (2, [.ref b0, .ref b1, .ref b2, .ref b3, .int (nI (nn)), .int (th)])), (b0, .inl (cD, 70, .inr (.inr (.inr (.inl (N)))))), (b1, .inl (cZ, 70, .inl (I))), (b2, .inl (cI, 60, .inl (T))), (b3, .inl (cI, 6, .inl (R)))] s.heap := hP
  have hD : va_D A [(h, .inr (2, [.ref b0, .ref b1, .ref b2, .ref b3, .int (nI (nn)), .int (th)])), (b0, .inl (cD, 70, .inr (.inr (.inr (.inl (N)))))), (b1, .inl (cZ, 70, .inl (I))), (b2, .inl (cI, 60, .inl (T))), (b3, .inl (cI, 6, .inl (R)))] := hD
  have hin2 : ∀ w ∈ wsX20, w ∈ wsX2_told := (fun w h => List.mem_cons_of_mem _ (List.mem_append_right _ h))
  have fl24 := hts (.fieldLink RX2 24 "JuryTableModel" "thrown" "I") (by decide +kernel)
  have hl := lv_entry ([.ref h, .int (nI (Bool.toNat (fb))), .int (-1), .int (bv)]) (n := 5) (Nat.le_of_ble_eq_true rfl)
  rw [lg_entry_eq]
  generalize (lg_sl ([.ref h, .int (nI (Bool.toNat (fb))), .int (-1), .int (bv)]) ++ List.replicate (5 - (lg_sl ([.ref h, .int (nI (Bool.toNat (fb))), .int (-1), .int (bv)])).length) Slot.unset).toArray = ls at hl ⊢
  have hl : lv_has ls 5 [(0, .ref h), (1, .int (nI (Bool.toNat (fb)))), (2, .int (-1)), (3, .int (bv))] := hl
  refine lv_aload_n hx hb dX2_told_0 rfl (lv_at hl 0 rfl) ?_
  refine lv_iload_n hx hb dX2_told_1 rfl (lv_at hl 1 rfl) ?_
  refine lv_iload_n hx hb dX2_told_2 rfl (lv_at hl 2 rfl) ?_
  refine lv_iload_n hx hb dX2_told_3 rfl (lv_at hl 3 rfl) ?_
  have hPc := hP.sub (ws' := [(h, .inr (2, [.ref b0, .ref b1, .ref b2, .ref b3, .int (nI (nn)), .int (th)])), (b0, .inl (cD, 70, .inr (.inr (.inr (.inl (N)))))), (b1, .inl (cZ, 70, .inl (I))), (b2, .inl (cI, 60, .inl (T))), (b3, .inl (cI, 6, .inl (R)))]) [0, 1, 2, 3, 4] rfl
  have hDc := hD.sub (ws' := [(h, .inr (2, [.ref b0, .ref b1, .ref b2, .ref b3, .int (nI (nn)), .int (th)])), (b0, .inl (cD, 70, .inr (.inr (.inr (.inl (N)))))), (b1, .inl (cZ, 70, .inl (I))), (b2, .inl (cI, 60, .inl (T))), (b3, .inl (cI, 6, .inl (R)))]) [0, 1, 2, 3, 4] (by decide) rfl
  have hFc := va_free (wc := [(h, .inr (2, [.ref b0, .ref b1, .ref b2, .ref b3, .int (nI (nn)), .int (th)])), (b0, .inl (cD, 70, .inr (.inr (.inr (.inl (N)))))), (b1, .inl (cZ, 70, .inl (I))), (b2, .inl (cI, 60, .inl (T))), (b3, .inl (cI, 6, .inl (R)))]) hD hS hA [0, 1, 2, 3, 4] rfl
  refine va_calli (va_runV (As := [.int (nI (Bool.toNat (fb))), .int (-1), .int (bv)]) (rest := []) ⟨hx, hb, hml, hown, hts⟩ (c_X2_spot_n2N l dC dI cD cZ cI cL h b0 b1 b2 b3 N I T R nn th s.heap.size (by omega) (fb) (bv) hbad) (cwV 3 hts gX2_told_X2_spot rfl rfl rfl (by decide +kernel) ⟨Nat.le_of_ble_eq_true rfl, Nat.le_of_ble_eq_true rfl⟩) (okMW_pre ⟨hP, hK⟩ hD) rfl rfl hl.1 rfl (lv_room (Nat.le_of_ble_eq_true rfl)) dX2_told_4 ⟨Nat.zero_le _, Nat.zero_le _⟩) hS (fun q _ h => hFc q h) hFc (fun r1 u1 t H1 locs ht hvm hw hB hz1 hk1 hS => ?_)
  obtain ⟨hP1, hK1, hD1⟩ := hB
  rw [ht] at hP1
  have hD := hD1.weaken (fun _ q _ h => hFc q.1 h)
  have hP := hP1
  generalize H1 = H at hP hS ⊢
  have hP : va_P (dC, dI) vwCl [(h, .inr (2, [.ref b0, .ref b1, .ref b2, .ref b3, .int (nI (nn)), .int (nI (1))])), (b0, .inl (cD, 70, .inr (.inr (.inr (.inl (N)))))), (b1, .inl (cZ, 70, .inl (I))), (b2, .inl (cI, 60, .inl (T))), (b3, .inl (cI, 6, .inl (R)))] H := hP
  have hD : va_D A [(h, .inr (2, [.ref b0, .ref b1, .ref b2, .ref b3, .int (nI (nn)), .int (nI (1))])), (b0, .inl (cD, 70, .inr (.inr (.inr (.inl (N)))))), (b1, .inl (cZ, 70, .inl (I))), (b2, .inl (cI, 60, .inl (T))), (b3, .inl (cI, 6, .inl (R)))] := hD
  subst hw
  refine lv_istore (lv' := [(4, .int (-1)), (0, .ref h), (1, .int (nI (Bool.toNat (fb)))), (2, .int (-1)), (3, .int (bv))]) hx hb dX2_told_7 hl (by decide) rfl (fun ls hl => ?_)
  refine lv_iload hx hb dX2_told_9 (lv_at hl 0 rfl) ?_
  refine lv_iconst (v := (-1)) hx hb dX2_told_11 (by decide) ?_
  refine lv_icmp_eq (tgt := 30) hx hb dX2_told_12 (by decide) (fun _ => ?_) (fun q => absurd (by decide) q)
  refine lv_aload_n hx hb dX2_told_30 rfl (lv_at hl 1 rfl) ?_
  refine va_get (D := (dC, dI)) (ci := 2) (v := .int (nI (1))) (C := RX2) (T := TX2) (N := 6) hx hb hts hin2 hown hK hP 0 rfl rfl 5 (by decide) fl24 (fun _ h9 => h9) rfl dX2_told_31 ?_
  refine lv_if_le (tgt := 41) hx hb dX2_told_34 (by decide) (fun q => absurd q (by decide)) (fun _ => ?_)
  refine lv_lconst (v := 0) hx hb dX2_told_37 (by decide) ?_
  refine lv_goto (tgt := 47) hx hb dX2_told_38 (by decide) ?_
  exact W.lret (v := 0) hx hb hr (fun t ht hW => ⟨⟨_, (), rfl, rfl, by rw [ht]; exact hP, va_K.moved hW.alike hK, hD⟩, hS.F ht⟩) hS.2.2 dX2_told_47
set_option maxHeartbeats 4000000 in
set_option maxRecDepth 100000 in
theorem c_X2_sum_ok (l : Launch) (dC : Nat → ClassId) (dI : Nat → Nat → Nat) (cD cZ cI cL : ClassId) (h b0 b1 b2 b3 : Nat) (N : Nat → UInt64) (I T R : Nat → Int32) (nn : Nat) (th : Int32) (sz : Nat) (hnn : nn ≤ 6) (fb : Bool) (en : Nat) (hen : en < nn) (hg : ∀ j, gd (N j)) : Met l yX2_sum wsX2_sum ({ frames := 2, cells := 0, slots := 0, locals := 42 }) (va_Pc [.ref h, .int (nI (Bool.toNat (fb))), .int (nI (en))] (fun U => U.heap.size = sz ∧ okM dC dI cD cZ cI cL h b0 b1 b2 b3 N I T R nn th U U.heap ∧ va_D (fun _ => True) (wM cD cZ cI cL h b0 b1 b2 b3 N I T R nn th))) (va_Ql (fun (r : Int64) (_ : Unit) => r = sm (fun b => if I (mc fb en b) = 0 then 0 else e8 (N (mc fb en b))) 5) (fun _ t => atM dC dI cD cZ cI cL (va_A (wM cD cZ cI cL h b0 b1 b2 b3 N I T R nn th) sz) h b0 b1 b2 b3 N I T R nn (nI 0) t) (va_A (wM cD cZ cI cL h b0 b1 b2 b3 N I T R nn th) sz)) 0 0 (va_A (wM cD cZ cI cL h b0 b1 b2 b3 N I T R nn th) sz) := by
  refine Met.ofW (cc := cX2_sum) (maxL := 6) (ret := (some .long)) (by decide) rfl ?_
  intro p e s m args below meth c s₁ B hml hv
  obtain ⟨rfl, hsz, hO, hD0⟩ := hv
  obtain ⟨hP, hK⟩ := id hO
  have hx := B.exec
  have hb := B.bytes
  have hr := B.returns
  have hts := atoms_spec (ws := wsX2_sum) B.pre
  have hown : s.vm.findClass RX2 = some m.cls := findClass_of_methodNamed B.named
  have hlocks := B.notSynchronized
  subst hsz
  have hD := hD0.self (sz := s.heap.size)
  generalize hAe : va_A (wM cD cZ cI cL h b0 b1 b2 b3 N I T R nn th) s.heap.size = A at hD ⊢
  have hA : ∀ q : Nat, s.heap.size ≤ q → A q := fun q h => by rw [← hAe]; exact Or.inr h
  have hS : va_S A s.heap s.heap [] := va_S.rf
  have hP : va_P (dC, dI) vwCl [(h, .inr (2, [.ref b0, .ref b1, .ref b2, .ref b3, .int (nI (nn)), .int (th)])), (b0, .inl (cD, 70, .inr (.inr (.inr (.inl (N)))))), (b1, .inl (cZ, 70, .inl (I))), (b2, .inl (cI, 60, .inl (T))), (b3, .inl (cI, 6, .inl (R)))] s.heap := hP
  have hD : va_D A [(h, .inr (2, [.ref b0, .ref b1, .ref b2, .ref b3, .int (nI (nn)), .int (th)])), (b0, .inl (cD, 70, .inr (.inr (.inr (.inl (N)))))), (b1, .inl (cZ, 70, .inl (I))), (b2, .inl (cI, 60, .inl (T))), (b3, .inl (cI, 6, .inl (R)))] := hD
  have hin2 : ∀ w ∈ wsX20, w ∈ wsX2_sum := (fun w h => List.mem_cons_of_mem _ (List.mem_append_right _ h))
  have fl13 := hts (.fieldLink RX2 13 "JuryTableModel" "isThere" "[Z") (by decide +kernel)
  have fl24 := hts (.fieldLink RX2 24 "JuryTableModel" "thrown" "I") (by decide +kernel)
  have hl := lv_entry ([.ref h, .int (nI (Bool.toNat (fb))), .int (nI (en))]) (n := 6) (Nat.le_of_ble_eq_true rfl)
  rw [lg_entry_eq]
  generalize (lg_sl ([.ref h, .int (nI (Bool.toNat (fb))), .int (nI (en))]) ++ List.replicate (6 - (lg_sl ([.ref h, .int (nI (Bool.toNat (fb))), .int (nI (en))])).length) Slot.unset).toArray = ls at hl ⊢
  have hl : lv_has ls 6 [(0, .ref h), (1, .int (nI (Bool.toNat (fb)))), (2, .int (nI (en)))] := hl
  refine lv_aload_n hx hb dX2_sum_0 rfl (lv_at hl 0 rfl) ?_
  refine lv_iconst (v := nI 0) hx hb dX2_sum_1 (by decide) ?_
  refine va_put (D := (dC, dI)) (ci := 2) (v := .int (nI (0))) (ty := .int) (C := RX2) (T := TX2) (N := 6) hx hb hts hin2 tyX2 tyX2_ok nmX2 hown hK hP hD hS 0 rfl rfl 5 (by decide) fl24 (fun _ h9 => h9) rfl (by decide +kernel) rfl rfl (Nat.le_of_ble_eq_true rfl) dX2_sum_2 (fun H locs hP hD hS => ?_)
  have hP : va_P (dC, dI) vwCl [(h, .inr (2, [.ref b0, .ref b1, .ref b2, .ref b3, .int (nI (nn)), .int (nI (0))])), (b0, .inl (cD, 70, .inr (.inr (.inr (.inl (N)))))), (b1, .inl (cZ, 70, .inl (I))), (b2, .inl (cI, 60, .inl (T))), (b3, .inl (cI, 6, .inl (R)))] H := hP
  have hD : va_D A [(h, .inr (2, [.ref b0, .ref b1, .ref b2, .ref b3, .int (nI (nn)), .int (nI (0))])), (b0, .inl (cD, 70, .inr (.inr (.inr (.inl (N)))))), (b1, .inl (cZ, 70, .inl (I))), (b2, .inl (cI, 60, .inl (T))), (b3, .inl (cI, 6, .inl (R)))] := hD
  refine lv_lconst (v := 0) hx hb dX2_sum_5 (by decide) ?_
  refine lv_lstore_n (lv' := [(3, .long (0)), (0, .ref h), (1, .int (nI (Bool.toNat (fb)))), (2, .int (nI (en)))]) hx hb dX2_sum_6 rfl hl (by decide) rfl (fun ls hl => ?_)
  refine lv_aload_n hx hb dX2_sum_7 rfl (lv_at hl 1 rfl) ?_
  refine lv_iload_n hx hb dX2_sum_8 rfl (lv_at hl 3 rfl) ?_
  refine vp_callSi (va_Run.run (va_runV (As := [.int (nI (en))]) (rest := []) ⟨hx, hb, hml, hown, hts⟩ (c_X2_hasEntry_ok l dC dI cD cZ cI cL h b0 b1 b2 b3 N I T R nn (nI 0) (en) (by omega) (by omega)) (cwV 1 hts gX2_sum_X2_hasEntry rfl rfl rfl (by decide +kernel) ⟨Nat.le_of_ble_eq_true rfl, Nat.le_of_ble_eq_true rfl⟩) (okM_pre ⟨hP, hK⟩) rfl rfl hl.1 rfl (lv_room (Nat.le_of_ble_eq_true rfl)) dX2_sum_9 ⟨Nat.zero_le _, Nat.zero_le _⟩)) (fun r1 er1 => ?_)
  subst er1
  refine xb_if_ne (tgt := 17) hx hb dX2_sum_12 (by decide) (fun _ => ?_) (fun q => absurd q (by decide))
  refine lv_iconst (v := nI 0) hx hb dX2_sum_17 (by decide) ?_
  refine lv_istore (lv' := [(5, .int (nI (0))), (3, .long (0)), (0, .ref h), (1, .int (nI (Bool.toNat (fb)))), (2, .int (nI (en)))]) hx hb dX2_sum_18 hl (by decide) rfl (fun ls hl => ?_)
  refine W_loop (α := Nat) (P := fun n i ls => i + n = 6 ∧ i < 6 ∧ lv_has ls 6 [(3, .long (sm (fun b => if I (mc fb en b) = 0 then 0 else e8 (N (mc fb en b))) i)), (5, .int (nI (i))), (0, .ref h), (1, .int (nI (Bool.toNat (fb)))), (2, .int (nI (en)))]) (st := fun _ => []) 20 (fun i ls h => by have := h.1; have := h.2.1; omega) (fun n ih i ls h => ?_) (6) (0) ls ⟨by omega, by omega, lv_sub hl [1, 0, 2, 3, 4] rfl⟩
  obtain ⟨hin, hi6, hl⟩ := h
  refine lv_iload hx hb dX2_sum_20 (lv_at hl 1 rfl) ?_
  refine lv_iconst (v := nI 5) hx hb dX2_sum_22 (by decide) ?_
  refine xn_icmp_ge (tgt := 65) hx hb (by omega) (by decide) dX2_sum_23 (by decide) (fun c23 => ?_) (fun c23 => ?_)
  · refine lv_lload_n hx hb dX2_sum_65 rfl (lv_at hl 0 rfl) ?_
    exact W.lret (v := sm (fun b => if I (mc fb en b) = 0 then 0 else e8 (N (mc fb en b))) i) hx hb hr (fun t ht hW => ⟨⟨_, (), rfl, (by rw [show i = 5 by omega]), by rw [ht]; exact hP, va_K.moved hW.alike hK, hD⟩, hS.F ht⟩) hS.2.2 dX2_sum_66
  · refine lv_lload_n hx hb dX2_sum_26 rfl (lv_at hl 0 rfl) ?_
    refine lv_aload_n hx hb dX2_sum_27 rfl (lv_at hl 2 rfl) ?_
    refine va_get (D := (dC, dI)) (ci := 2) (v := .ref b1) (C := RX2) (T := TX2) (N := 6) hx hb hts hin2 hown hK hP 0 rfl rfl 1 (by decide) fl13 (fun _ h9 => h9) rfl dX2_sum_28 ?_
    refine lv_iload_n hx hb dX2_sum_31 rfl (lv_at hl 3 rfl) ?_
    refine lv_iload_n hx hb dX2_sum_32 rfl (lv_at hl 4 rfl) ?_
    refine lv_iload hx hb dX2_sum_33 (lv_at hl 1 rfl) ?_
    refine vp_callSi (va_Run.run (va_runS (As := [.int (nI (Bool.toNat (fb))), .int (nI (en)), .int (nI (i))]) (rest := [.ref b1, .long (sm (fun b => if I (mc fb en b) = 0 then 0 else e8 (N (mc fb en b))) i)]) ⟨hx, hb, hml, hown, hts⟩ (c_X2_cell l (fb) (en) (i)) (va_cwS 3 hts gX2_sum_X2_cell rfl rfl rfl (by decide +kernel) ⟨Nat.le_of_ble_eq_true rfl, Nat.le_of_ble_eq_true rfl⟩) preT rfl rfl hl.1 rfl (lv_room (Nat.le_of_ble_eq_true rfl)) dX2_sum_35 ⟨Nat.zero_le _, Nat.zero_le _⟩)) (fun r2 er2 => ?_)
    subst er2
    have := mc_lt (f := fb) (e := en) (b := i) (by omega) (by omega)
    refine xn_zald hx hb hK hP 2 1 rfl rfl (n := 70) (j := mc fb en i) (by omega) (by decide) dX2_sum_38 ?_
    refine lv_if_eq (tgt := 56) hx hb dX2_sum_39 (by decide) (fun c39 => ?_) (fun c39 => ?_)
    · refine lv_lconst (v := 0) hx hb dX2_sum_56 (by decide) ?_
      refine lv_ladd hx hb dX2_sum_57 ?_
      refine lv_lstore_n (lv' := [(3, .long ((sm (fun b => if I (mc fb en b) = 0 then 0 else e8 (N (mc fb en b))) i) + 0)), (5, .int (nI (i))), (0, .ref h), (1, .int (nI (Bool.toNat (fb)))), (2, .int (nI (en)))]) hx hb dX2_sum_58 rfl hl (by decide) rfl (fun ls hl => ?_)
      refine xn_iinc (lv2 := [(5, .int (nI (i + 1))), (3, .long ((sm (fun b => if I (mc fb en b) = 0 then 0 else e8 (N (mc fb en b))) i) + 0)), (0, .ref h), (1, .int (nI (Bool.toNat (fb)))), (2, .int (nI (en)))]) hx hb dX2_sum_59 hl (k0 := 1) rfl (by decide) rfl (fun ls hl => ?_)
      refine lv_goto (tgt := 20) hx hb dX2_sum_62 (by decide) ?_
      exact ih (i + 1) ls ⟨by omega, by omega, by rw [sm_t (f := (fun b => if I (mc fb en b) = 0 then 0 else e8 (N (mc fb en b)))) (if_pos c39)]; exact lv_sub hl [1, 0, 2, 3, 4] rfl⟩
    · refine lv_aload_n hx hb dX2_sum_42 rfl (lv_at hl 2 rfl) ?_
      refine lv_iload_n hx hb dX2_sum_43 rfl (lv_at hl 3 rfl) ?_
      refine lv_iload_n hx hb dX2_sum_44 rfl (lv_at hl 4 rfl) ?_
      refine lv_iload hx hb dX2_sum_45 (lv_at hl 1 rfl) ?_
      refine vp_callSi (va_Run.run (va_runS (As := [.int (nI (Bool.toNat (fb))), .int (nI (en)), .int (nI (i))]) (rest := [.ref h, .long (sm (fun b => if I (mc fb en b) = 0 then 0 else e8 (N (mc fb en b))) i)]) ⟨hx, hb, hml, hown, hts⟩ (c_X2_cell l (fb) (en) (i)) (va_cwS 3 hts gX2_sum_X2_cell rfl rfl rfl (by decide +kernel) ⟨Nat.le_of_ble_eq_true rfl, Nat.le_of_ble_eq_true rfl⟩) preT rfl rfl hl.1 rfl (lv_room (Nat.le_of_ble_eq_true rfl)) dX2_sum_47 ⟨Nat.zero_le _, Nat.zero_le _⟩)) (fun r3 er3 => ?_)
      subst er3
      have := mc_lt (f := fb) (e := en) (b := i) (by omega) (by omega)
      refine vp_callSl (va_Run.run (va_runV (As := [.int (nI (mc fb en i))]) (rest := [.long (sm (fun b => if I (mc fb en b) = 0 then 0 else e8 (N (mc fb en b))) i)]) ⟨hx, hb, hml, hown, hts⟩ (c_X2_eighths l dC dI cD cZ cI cL h b0 b1 b2 b3 N I T R nn (nI 0) (mc fb en i) (by omega) (hg _)) (cwV 1 hts gX2_sum_X2_eighths rfl rfl rfl (by decide +kernel) ⟨Nat.le_of_ble_eq_true rfl, Nat.le_of_ble_eq_true rfl⟩) (okM_pre ⟨hP, hK⟩) rfl rfl hl.1 rfl (lv_room (Nat.le_of_ble_eq_true rfl)) dX2_sum_50 ⟨Nat.zero_le _, Nat.zero_le _⟩)) (fun r4 er4 => ?_)
      subst er4
      refine lv_goto (tgt := 57) hx hb dX2_sum_53 (by decide) ?_
      refine lv_ladd hx hb dX2_sum_57 ?_
      refine lv_lstore_n (lv' := [(3, .long ((sm (fun b => if I (mc fb en b) = 0 then 0 else e8 (N (mc fb en b))) i) + (e8 (N (mc fb en i))))), (5, .int (nI (i))), (0, .ref h), (1, .int (nI (Bool.toNat (fb)))), (2, .int (nI (en)))]) hx hb dX2_sum_58 rfl hl (by decide) rfl (fun ls hl => ?_)
      refine xn_iinc (lv2 := [(5, .int (nI (i + 1))), (3, .long ((sm (fun b => if I (mc fb en b) = 0 then 0 else e8 (N (mc fb en b))) i) + (e8 (N (mc fb en i))))), (0, .ref h), (1, .int (nI (Bool.toNat (fb)))), (2, .int (nI (en)))]) hx hb dX2_sum_59 hl (k0 := 1) rfl (by decide) rfl (fun ls hl => ?_)
      refine lv_goto (tgt := 20) hx hb dX2_sum_62 (by decide) ?_
      exact ih (i + 1) ls ⟨by omega, by omega, by rw [sm_t (f := (fun b => if I (mc fb en b) = 0 then 0 else e8 (N (mc fb en b)))) (if_neg c39)]; exact lv_sub hl [1, 0, 2, 3, 4] rfl⟩
set_option maxHeartbeats 4000000 in
set_option maxRecDepth 100000 in
theorem c_X2_sum_n1 (l : Launch) (dC : Nat → ClassId) (dI : Nat → Nat → Nat) (cD cZ cI cL : ClassId) (h b0 b1 b2 b3 : Nat) (N : Nat → UInt64) (I T R : Nat → Int32) (nn : Nat) (th : Int32) (sz : Nat) (hnn : nn ≤ 6) (fb : Bool) (ev : Int32) (hbad : vB ev nn = false) : Met l yX2_sum wsX2_sum ({ frames := 2, cells := 0, slots := 0, locals := 42 }) (va_Pc [.ref h, .int (nI (Bool.toNat (fb))), .int (ev)] (fun U => U.heap.size = sz ∧ okM dC dI cD cZ cI cL h b0 b1 b2 b3 N I T R nn th U U.heap ∧ va_D (fun _ => True) (wM cD cZ cI cL h b0 b1 b2 b3 N I T R nn th))) (va_Ql (fun (r : Int64) (_ : Unit) => r = 0) (fun _ t => atM dC dI cD cZ cI cL (va_A (wM cD cZ cI cL h b0 b1 b2 b3 N I T R nn th) sz) h b0 b1 b2 b3 N I T R nn (nI 1) t) (va_A (wM cD cZ cI cL h b0 b1 b2 b3 N I T R nn th) sz)) 0 0 (va_A (wM cD cZ cI cL h b0 b1 b2 b3 N I T R nn th) sz) := by
  refine Met.ofW (cc := cX2_sum) (maxL := 6) (ret := (some .long)) (by decide) rfl ?_
  intro p e s m args below meth c s₁ B hml hv
  obtain ⟨rfl, hsz, hO, hD0⟩ := hv
  obtain ⟨hP, hK⟩ := id hO
  have hx := B.exec
  have hb := B.bytes
  have hr := B.returns
  have hts := atoms_spec (ws := wsX2_sum) B.pre
  have hown : s.vm.findClass RX2 = some m.cls := findClass_of_methodNamed B.named
  have hlocks := B.notSynchronized
  subst hsz
  have hD := hD0.self (sz := s.heap.size)
  generalize hAe : va_A (wM cD cZ cI cL h b0 b1 b2 b3 N I T R nn th) s.heap.size = A at hD ⊢
  have hA : ∀ q : Nat, s.heap.size ≤ q → A q := fun q h => by rw [← hAe]; exact Or.inr h
  have hS : va_S A s.heap s.heap [] := va_S.rf
  have hP : va_P (dC, dI) vwCl [(h, .inr (2, [.ref b0, .ref b1, .ref b2, .ref b3, .int (nI (nn)), .int (th)])), (b0, .inl (cD, 70, .inr (.inr (.inr (.inl (N)))))), (b1, .inl (cZ, 70, .inl (I))), (b2, .inl (cI, 60, .inl (T))), (b3, .inl (cI, 6, .inl (R)))] s.heap := hP
  have hD : va_D A [(h, .inr (2, [.ref b0, .ref b1, .ref b2, .ref b3, .int (nI (nn)), .int (th)])), (b0, .inl (cD, 70, .inr (.inr (.inr (.inl (N)))))), (b1, .inl (cZ, 70, .inl (I))), (b2, .inl (cI, 60, .inl (T))), (b3, .inl (cI, 6, .inl (R)))] := hD
  have hin2 : ∀ w ∈ wsX20, w ∈ wsX2_sum := (fun w h => List.mem_cons_of_mem _ (List.mem_append_right _ h))
  have fl24 := hts (.fieldLink RX2 24 "JuryTableModel" "thrown" "I") (by decide +kernel)
  have hl := lv_entry ([.ref h, .int (nI (Bool.toNat (fb))), .int (ev)]) (n := 6) (Nat.le_of_ble_eq_true rfl)
  rw [lg_entry_eq]
  generalize (lg_sl ([.ref h, .int (nI (Bool.toNat (fb))), .int (ev)]) ++ List.replicate (6 - (lg_sl ([.ref h, .int (nI (Bool.toNat (fb))), .int (ev)])).length) Slot.unset).toArray = ls at hl ⊢
  have hl : lv_has ls 6 [(0, .ref h), (1, .int (nI (Bool.toNat (fb)))), (2, .int (ev))] := hl
  refine lv_aload_n hx hb dX2_sum_0 rfl (lv_at hl 0 rfl) ?_
  refine lv_iconst (v := nI 0) hx hb dX2_sum_1 (by decide) ?_
  refine va_put (D := (dC, dI)) (ci := 2) (v := .int (nI (0))) (ty := .int) (C := RX2) (T := TX2) (N := 6) hx hb hts hin2 tyX2 tyX2_ok nmX2 hown hK hP hD hS 0 rfl rfl 5 (by decide) fl24 (fun _ h9 => h9) rfl (by decide +kernel) rfl rfl (Nat.le_of_ble_eq_true rfl) dX2_sum_2 (fun H locs hP hD hS => ?_)
  have hP : va_P (dC, dI) vwCl [(h, .inr (2, [.ref b0, .ref b1, .ref b2, .ref b3, .int (nI (nn)), .int (nI (0))])), (b0, .inl (cD, 70, .inr (.inr (.inr (.inl (N)))))), (b1, .inl (cZ, 70, .inl (I))), (b2, .inl (cI, 60, .inl (T))), (b3, .inl (cI, 6, .inl (R)))] H := hP
  have hD : va_D A [(h, .inr (2, [.ref b0, .ref b1, .ref b2, .ref b3, .int (nI (nn)), .int (nI (0))])), (b0, .inl (cD, 70, .inr (.inr (.inr (.inl (N)))))), (b1, .inl (cZ, 70, .inl (I))), (b2, .inl (cI, 60, .inl (T))), (b3, .inl (cI, 6, .inl (R)))] := hD
  refine lv_lconst (v := 0) hx hb dX2_sum_5 (by decide) ?_
  refine lv_lstore_n (lv' := [(3, .long (0)), (0, .ref h), (1, .int (nI (Bool.toNat (fb)))), (2, .int (ev))]) hx hb dX2_sum_6 rfl hl (by decide) rfl (fun ls hl => ?_)
  refine lv_aload_n hx hb dX2_sum_7 rfl (lv_at hl 1 rfl) ?_
  refine lv_iload_n hx hb dX2_sum_8 rfl (lv_at hl 3 rfl) ?_
  have hPc := hP.sub (ws' := [(h, .inr (2, [.ref b0, .ref b1, .ref b2, .ref b3, .int (nI (nn)), .int (nI (0))])), (b0, .inl (cD, 70, .inr (.inr (.inr (.inl (N)))))), (b1, .inl (cZ, 70, .inl (I))), (b2, .inl (cI, 60, .inl (T))), (b3, .inl (cI, 6, .inl (R)))]) [0, 1, 2, 3, 4] rfl
  have hDc := hD.sub (ws' := [(h, .inr (2, [.ref b0, .ref b1, .ref b2, .ref b3, .int (nI (nn)), .int (nI (0))])), (b0, .inl (cD, 70, .inr (.inr (.inr (.inl (N)))))), (b1, .inl (cZ, 70, .inl (I))), (b2, .inl (cI, 60, .inl (T))), (b3, .inl (cI, 6, .inl (R)))]) [0, 1, 2, 3, 4] (by decide) rfl
  have hFc := va_free (wc := [(h, .inr (2, [.ref b0, .ref b1, .ref b2, .ref b3, .int (nI (nn)), .int (nI (0))])), (b0, .inl (cD, 70, .inr (.inr (.inr (.inl (N)))))), (b1, .inl (cZ, 70, .inl (I))), (b2, .inl (cI, 60, .inl (T))), (b3, .inl (cI, 6, .inl (R)))]) hD hS hA [0, 1, 2, 3, 4] rfl
  refine va_calli (va_runV (As := [.int (ev)]) (rest := []) ⟨hx, hb, hml, hown, hts⟩ (c_X2_hasEntry_no l dC dI cD cZ cI cL h b0 b1 b2 b3 N I T R nn (nI 0) H.size (ev) hbad) (cwV 1 hts gX2_sum_X2_hasEntry rfl rfl rfl (by decide +kernel) ⟨Nat.le_of_ble_eq_true rfl, Nat.le_of_ble_eq_true rfl⟩) (okMW_pre ⟨hP, hK⟩ hD) rfl rfl hl.1 rfl (lv_room (Nat.le_of_ble_eq_true rfl)) dX2_sum_9 ⟨Nat.zero_le _, Nat.zero_le _⟩) hS (fun q _ h => hFc q h) hFc (fun r1 u1 t H1 locs ht hvm hw hB hz1 hk1 hS => ?_)
  obtain ⟨hP1, hK1, hD1⟩ := hB
  rw [ht] at hP1
  have hD := hD1.weaken (fun _ q _ h => hFc q.1 h)
  have hP := hP1
  generalize H1 = H at hP hS ⊢
  have hP : va_P (dC, dI) vwCl [(h, .inr (2, [.ref b0, .ref b1, .ref b2, .ref b3, .int (nI (nn)), .int (nI (1))])), (b0, .inl (cD, 70, .inr (.inr (.inr (.inl (N)))))), (b1, .inl (cZ, 70, .inl (I))), (b2, .inl (cI, 60, .inl (T))), (b3, .inl (cI, 6, .inl (R)))] H := hP
  have hD : va_D A [(h, .inr (2, [.ref b0, .ref b1, .ref b2, .ref b3, .int (nI (nn)), .int (nI (1))])), (b0, .inl (cD, 70, .inr (.inr (.inr (.inl (N)))))), (b1, .inl (cZ, 70, .inl (I))), (b2, .inl (cI, 60, .inl (T))), (b3, .inl (cI, 6, .inl (R)))] := hD
  subst hw
  refine xb_if_ne (tgt := 17) hx hb dX2_sum_12 (by decide) (fun q => absurd q (by decide)) (fun _ => ?_)
  refine lv_lconst (v := 0) hx hb dX2_sum_15 (by decide) ?_
  exact W.lret (v := 0) hx hb hr (fun t ht hW => ⟨⟨_, (), rfl, rfl, by rw [ht]; exact hP, va_K.moved hW.alike hK, hD⟩, hS.F ht⟩) hS.2.2 dX2_sum_16
