set_option maxHeartbeats 4000000 in
set_option maxRecDepth 100000 in
theorem c_X2_best_ok0 (l : Launch) (dC : Nat → ClassId) (dI : Nat → Nat → Nat) (cD cZ cI cL : ClassId) (h b0 b1 b2 b3 : Nat) (N : Nat → UInt64) (I T R : Nat → Int32) (nn : Nat) (th : Int32) (sz : Nat) (fb : Bool) (bn how : Nat) (hn0 : nn = 0) (hbn : bn < 5) (hhow : how < 4) : Met l yX2_best wsX2_best ({ frames := 2, cells := 0, slots := 0, locals := 42 }) (va_Pc [.ref h, .int (nI (Bool.toNat (fb))), .int (nI (bn)), .int (nI (how))] (fun U => U.heap.size = sz ∧ okM dC dI cD cZ cI cL h b0 b1 b2 b3 N I T R nn th U U.heap ∧ va_D (fun _ => True) (wM cD cZ cI cL h b0 b1 b2 b3 N I T R nn th))) (va_Qi (fun (r : Int32) (_ : Unit) => r = (-1)) (fun _ t => atM dC dI cD cZ cI cL (va_A (wM cD cZ cI cL h b0 b1 b2 b3 N I T R nn th) sz) h b0 b1 b2 b3 N I T R nn (nI 0) t) (va_A (wM cD cZ cI cL h b0 b1 b2 b3 N I T R nn th) sz)) 0 0 (va_A (wM cD cZ cI cL h b0 b1 b2 b3 N I T R nn th) sz) := by
  refine Met.ofW (cc := cX2_best) (maxL := 8) (ret := (some .int)) (by decide) rfl ?_
  intro p e s m args below meth c s₁ B hml hv
  obtain ⟨rfl, hsz, hO, hD0⟩ := hv
  obtain ⟨hP, hK⟩ := id hO
  have hx := B.exec
  have hb := B.bytes
  have hr := B.returns
  have hts := atoms_spec (ws := wsX2_best) B.pre
  have hown : s.vm.findClass RX2 = some m.cls := findClass_of_methodNamed B.named
  have hlocks := B.notSynchronized
  subst hsz
  have hD := hD0.self (sz := s.heap.size)
  generalize hAe : va_A (wM cD cZ cI cL h b0 b1 b2 b3 N I T R nn th) s.heap.size = A at hD ⊢
  have hA : ∀ q : Nat, s.heap.size ≤ q → A q := fun q h => by rw [← hAe]; exact Or.inr h
  have hS : va_S A s.heap s.heap [] := va_S.rf
  have hP : va_P (dC, dI) vwCl [(h, .inr (2, [.ref b0, .ref b1, .ref b2, .ref b3, .int (nI (nn)), .int (th)])), (b0, .inl (cD, 70, .inr (.inr (.inr (.inl (N)))))), (b1, .inl (cZ, 70, .inl (I))), (b2, .inl (cI, 60, .inl (T))), (b3, .inl (cI, 6, .inl (R)))] s.heap := hP
  have hD : va_D A [(h, .inr (2, [.ref b0, .ref b1, .ref b2, .ref b3, .int (nI (nn)), .int (th)])), (b0, .inl (cD, 70, .inr (.inr (.inr (.inl (N)))))), (b1, .inl (cZ, 70, .inl (I))), (b2, .inl (cI, 60, .inl (T))), (b3, .inl (cI, 6, .inl (R)))] := hD
  have hin2 : ∀ w ∈ wsX20, w ∈ wsX2_best := (fun w h => List.mem_cons_of_mem _ (List.mem_append_right _ h))
  have fl24 := hts (.fieldLink RX2 24 "JuryTableModel" "thrown" "I") (by decide +kernel)
  have fl28 := hts (.fieldLink RX2 28 "JuryTableModel" "entries" "I") (by decide +kernel)
  have hl := lv_entry ([.ref h, .int (nI (Bool.toNat (fb))), .int (nI (bn)), .int (nI (how))]) (n := 8) (Nat.le_of_ble_eq_true rfl)
  rw [lg_entry_eq]
  generalize (lg_sl ([.ref h, .int (nI (Bool.toNat (fb))), .int (nI (bn)), .int (nI (how))]) ++ List.replicate (8 - (lg_sl ([.ref h, .int (nI (Bool.toNat (fb))), .int (nI (bn)), .int (nI (how))])).length) Slot.unset).toArray = ls at hl ⊢
  have hl : lv_has ls 8 [(0, .ref h), (1, .int (nI (Bool.toNat (fb)))), (2, .int (nI (bn))), (3, .int (nI (how)))] := hl
  refine lv_aload_n hx hb dX2_best_0 rfl (lv_at hl 0 rfl) ?_
  refine lv_iconst (v := nI 0) hx hb dX2_best_1 (by decide) ?_
  refine va_put (D := (dC, dI)) (ci := 2) (v := .int (nI (0))) (ty := .int) (C := RX2) (T := TX2) (N := 6) hx hb hts hin2 tyX2 tyX2_ok nmX2 hown hK hP hD hS 0 rfl rfl 5 (by decide) fl24 (fun _ h9 => h9) rfl (by decide +kernel) rfl rfl (Nat.le_of_ble_eq_true rfl) dX2_best_2 (fun H locs hP hD hS => ?_)
  have hP : va_P (dC, dI) vwCl [(h, .inr (2, [.ref b0, .ref b1, .ref b2, .ref b3, .int (nI (nn)), .int (nI (0))])), (b0, .inl (cD, 70, .inr (.inr (.inr (.inl (N)))))), (b1, .inl (cZ, 70, .inl (I))), (b2, .inl (cI, 60, .inl (T))), (b3, .inl (cI, 6, .inl (R)))] H := hP
  have hD : va_D A [(h, .inr (2, [.ref b0, .ref b1, .ref b2, .ref b3, .int (nI (nn)), .int (nI (0))])), (b0, .inl (cD, 70, .inr (.inr (.inr (.inl (N)))))), (b1, .inl (cZ, 70, .inl (I))), (b2, .inl (cI, 60, .inl (T))), (b3, .inl (cI, 6, .inl (R)))] := hD
  refine lv_aload_n hx hb dX2_best_5 rfl (lv_at hl 0 rfl) ?_
  refine lv_iload_n hx hb dX2_best_6 rfl (lv_at hl 2 rfl) ?_
  refine vp_callSi (va_Run.run (va_runV (As := [.int (nI (bn))]) (rest := []) ⟨hx, hb, hml, hown, hts⟩ (c_X2_hasSeat_ok l dC dI cD cZ cI cL h b0 b1 b2 b3 N I T R nn (nI 0) (bn) (by omega)) (cwV 1 hts gX2_best_X2_hasSeat rfl rfl rfl (by decide +kernel) ⟨Nat.le_of_ble_eq_true rfl, Nat.le_of_ble_eq_true rfl⟩) (okM_pre ⟨hP, hK⟩) rfl rfl hl.1 rfl (lv_room (Nat.le_of_ble_eq_true rfl)) dX2_best_7 ⟨Nat.zero_le _, Nat.zero_le _⟩)) (fun r1 er1 => ?_)
  subst er1
  refine xb_if_ne (tgt := 15) hx hb dX2_best_10 (by decide) (fun _ => ?_) (fun q => absurd q (by decide))
  refine lv_iload_n hx hb dX2_best_15 rfl (lv_at hl 3 rfl) ?_
  refine lv_iconst (v := nI 4) hx hb dX2_best_16 (by decide) ?_
  refine vp_callSi (va_Run.run (va_runS (As := [.int (nI (how)), .int (nI (4))]) (rest := []) ⟨hx, hb, hml, hown, hts⟩ (c_X2_in l (nI how) (4)) (va_cwS 2 hts gX2_best_X2_in rfl rfl rfl (by decide +kernel) ⟨Nat.le_of_ble_eq_true rfl, Nat.le_of_ble_eq_true rfl⟩) preT rfl rfl hl.1 rfl (lv_room (Nat.le_of_ble_eq_true rfl)) dX2_best_17 ⟨Nat.zero_le _, Nat.zero_le _⟩)) (fun r2 er2 => ?_)
  subst er2
  rw [vB_nI (show how < 4 by omega) (by omega)]
  refine xb_if_ne (tgt := 28) hx hb dX2_best_20 (by decide) (fun _ => ?_) (fun q => absurd q (by decide))
  refine lv_aload_n hx hb dX2_best_28 rfl (lv_at hl 0 rfl) ?_
  refine va_get (D := (dC, dI)) (ci := 2) (v := .int (nI (0))) (C := RX2) (T := TX2) (N := 6) hx hb hts hin2 hown hK hP 0 rfl rfl 5 (by decide) fl24 (fun _ h9 => h9) rfl dX2_best_29 ?_
  refine lv_if_le (tgt := 37) hx hb dX2_best_32 (by decide) (fun _ => ?_) (fun q => absurd (by decide) q)
  refine lv_aload_n hx hb dX2_best_37 rfl (lv_at hl 0 rfl) ?_
  refine va_get (D := (dC, dI)) (ci := 2) (v := .int (nI (nn))) (C := RX2) (T := TX2) (N := 6) hx hb hts hin2 hown hK hP 0 rfl rfl 4 (by decide) fl28 (fun _ h9 => h9) rfl dX2_best_38 ?_
  refine xn_if_ne (tgt := 48) hx hb (by omega) dX2_best_41 (by decide) (fun q => absurd q (by omega)) (fun _ => ?_)
  refine lv_iconst (v := (-1)) hx hb dX2_best_44 (by decide) ?_
  refine lv_goto (tgt := 49) hx hb dX2_best_45 (by decide) ?_
  refine lv_istore (lv' := [(4, .int (-1)), (0, .ref h), (1, .int (nI (Bool.toNat (fb)))), (2, .int (nI (bn))), (3, .int (nI (how)))]) hx hb dX2_best_49 hl (by decide) rfl (fun ls hl => ?_)
  refine lv_iconst (v := nI 1) hx hb dX2_best_51 (by decide) ?_
  refine lv_istore (lv' := [(5, .int (nI (1))), (4, .int (-1)), (0, .ref h), (1, .int (nI (Bool.toNat (fb)))), (2, .int (nI (bn))), (3, .int (nI (how)))]) hx hb dX2_best_52 hl (by decide) rfl (fun ls hl => ?_)
  refine lv_iload hx hb dX2_best_54 (lv_at hl 0 rfl) ?_
  refine lv_aload_n hx hb dX2_best_56 rfl (lv_at hl 2 rfl) ?_
  refine va_get (D := (dC, dI)) (ci := 2) (v := .int (nI (nn))) (C := RX2) (T := TX2) (N := 6) hx hb hts hin2 hown hK hP 0 rfl rfl 4 (by decide) fl28 (fun _ h9 => h9) rfl dX2_best_57 ?_
  refine xn_icmp_ge (tgt := 178) hx hb (by decide) (by omega) dX2_best_60 (by decide) (fun _ => ?_) (fun q => absurd q (by omega))
  refine lv_iload hx hb dX2_best_178 (lv_at hl 1 rfl) ?_
  exact W.iret (v := -1) hx hb hr (fun t ht hW => ⟨⟨_, (), rfl, rfl, by rw [ht]; exact hP, va_K.moved hW.alike hK, hD⟩, hS.F ht⟩) hS.2.2 dX2_best_180
set_option maxHeartbeats 4000000 in
set_option maxRecDepth 100000 in
theorem c_X2_best_ok (l : Launch) (dC : Nat → ClassId) (dI : Nat → Nat → Nat) (cD cZ cI cL : ClassId) (h b0 b1 b2 b3 : Nat) (N : Nat → UInt64) (I T R : Nat → Int32) (nn : Nat) (th : Int32) (sz : Nat) (hnn : nn ≤ 6) (fb : Bool) (bn how : Nat) (hn0 : 0 < nn) (hbn : bn < 5) (hhow : how < 4) (hq : ∀ x y, FP.dcmp (N x) (N y) ≠ none) : Met l yX2_best wsX2_best ({ frames := 2, cells := 0, slots := 0, locals := 42 }) (va_Pc [.ref h, .int (nI (Bool.toNat (fb))), .int (nI (bn)), .int (nI (how))] (fun U => U.heap.size = sz ∧ okM dC dI cD cZ cI cL h b0 b1 b2 b3 N I T R nn th U U.heap ∧ va_D (fun _ => True) (wM cD cZ cI cL h b0 b1 b2 b3 N I T R nn th))) (va_Qi (fun (r : Int32) (_ : Unit) => r = nI (bst (fun i j => bet (rl I N (mc fb i bn) (mc fb j bn)) how) (nn - 1))) (fun _ t => atM dC dI cD cZ cI cL (va_A (wM cD cZ cI cL h b0 b1 b2 b3 N I T R nn th) sz) h b0 b1 b2 b3 N I T R nn (nI 0) t) (va_A (wM cD cZ cI cL h b0 b1 b2 b3 N I T R nn th) sz)) 0 0 (va_A (wM cD cZ cI cL h b0 b1 b2 b3 N I T R nn th) sz) := by
  refine Met.ofW (cc := cX2_best) (maxL := 8) (ret := (some .int)) (by decide) rfl ?_
  intro p e s m args below meth c s₁ B hml hv
  obtain ⟨rfl, hsz, hO, hD0⟩ := hv
  obtain ⟨hP, hK⟩ := id hO
  have hx := B.exec
  have hb := B.bytes
  have hr := B.returns
  have hts := atoms_spec (ws := wsX2_best) B.pre
  have hown : s.vm.findClass RX2 = some m.cls := findClass_of_methodNamed B.named
  have hlocks := B.notSynchronized
  subst hsz
  have hD := hD0.self (sz := s.heap.size)
  generalize hAe : va_A (wM cD cZ cI cL h b0 b1 b2 b3 N I T R nn th) s.heap.size = A at hD ⊢
  have hA : ∀ q : Nat, s.heap.size ≤ q → A q := fun q h => by rw [← hAe]; exact Or.inr h
  have hS : va_S A s.heap s.heap [] := va_S.rf
  have hP : va_P (dC, dI) vwCl [(h, .inr (2, [.ref b0, .ref b1, .ref b2, .ref b3, .int (nI (nn)), .int (th)])), (b0, .inl (cD, 70, .inr (.inr (.inr (.inl (N)))))), (b1, .inl (cZ, 70, .inl (I))), (b2, .inl (cI, 60, .inl (T))), (b3, .inl (cI, 6, .inl (R)))] s.heap := hP
  have hD : va_D A [(h, .inr (2, [.ref b0, .ref b1, .ref b2, .ref b3, .int (nI (nn)), .int (th)])), (b0, .inl (cD, 70, .inr (.inr (.inr (.inl (N)))))), (b1, .inl (cZ, 70, .inl (I))), (b2, .inl (cI, 60, .inl (T))), (b3, .inl (cI, 6, .inl (R)))] := hD
  have hin2 : ∀ w ∈ wsX20, w ∈ wsX2_best := (fun w h => List.mem_cons_of_mem _ (List.mem_append_right _ h))
  have fl24 := hts (.fieldLink RX2 24 "JuryTableModel" "thrown" "I") (by decide +kernel)
  have fl28 := hts (.fieldLink RX2 28 "JuryTableModel" "entries" "I") (by decide +kernel)
  have hl := lv_entry ([.ref h, .int (nI (Bool.toNat (fb))), .int (nI (bn)), .int (nI (how))]) (n := 8) (Nat.le_of_ble_eq_true rfl)
  rw [lg_entry_eq]
  generalize (lg_sl ([.ref h, .int (nI (Bool.toNat (fb))), .int (nI (bn)), .int (nI (how))]) ++ List.replicate (8 - (lg_sl ([.ref h, .int (nI (Bool.toNat (fb))), .int (nI (bn)), .int (nI (how))])).length) Slot.unset).toArray = ls at hl ⊢
  have hl : lv_has ls 8 [(0, .ref h), (1, .int (nI (Bool.toNat (fb)))), (2, .int (nI (bn))), (3, .int (nI (how)))] := hl
  refine lv_aload_n hx hb dX2_best_0 rfl (lv_at hl 0 rfl) ?_
  refine lv_iconst (v := nI 0) hx hb dX2_best_1 (by decide) ?_
  refine va_put (D := (dC, dI)) (ci := 2) (v := .int (nI (0))) (ty := .int) (C := RX2) (T := TX2) (N := 6) hx hb hts hin2 tyX2 tyX2_ok nmX2 hown hK hP hD hS 0 rfl rfl 5 (by decide) fl24 (fun _ h9 => h9) rfl (by decide +kernel) rfl rfl (Nat.le_of_ble_eq_true rfl) dX2_best_2 (fun H locs hP hD hS => ?_)
  have hP : va_P (dC, dI) vwCl [(h, .inr (2, [.ref b0, .ref b1, .ref b2, .ref b3, .int (nI (nn)), .int (nI (0))])), (b0, .inl (cD, 70, .inr (.inr (.inr (.inl (N)))))), (b1, .inl (cZ, 70, .inl (I))), (b2, .inl (cI, 60, .inl (T))), (b3, .inl (cI, 6, .inl (R)))] H := hP
  have hD : va_D A [(h, .inr (2, [.ref b0, .ref b1, .ref b2, .ref b3, .int (nI (nn)), .int (nI (0))])), (b0, .inl (cD, 70, .inr (.inr (.inr (.inl (N)))))), (b1, .inl (cZ, 70, .inl (I))), (b2, .inl (cI, 60, .inl (T))), (b3, .inl (cI, 6, .inl (R)))] := hD
  refine lv_aload_n hx hb dX2_best_5 rfl (lv_at hl 0 rfl) ?_
  refine lv_iload_n hx hb dX2_best_6 rfl (lv_at hl 2 rfl) ?_
  refine vp_callSi (va_Run.run (va_runV (As := [.int (nI (bn))]) (rest := []) ⟨hx, hb, hml, hown, hts⟩ (c_X2_hasSeat_ok l dC dI cD cZ cI cL h b0 b1 b2 b3 N I T R nn (nI 0) (bn) (by omega)) (cwV 1 hts gX2_best_X2_hasSeat rfl rfl rfl (by decide +kernel) ⟨Nat.le_of_ble_eq_true rfl, Nat.le_of_ble_eq_true rfl⟩) (okM_pre ⟨hP, hK⟩) rfl rfl hl.1 rfl (lv_room (Nat.le_of_ble_eq_true rfl)) dX2_best_7 ⟨Nat.zero_le _, Nat.zero_le _⟩)) (fun r1 er1 => ?_)
  subst er1
  refine xb_if_ne (tgt := 15) hx hb dX2_best_10 (by decide) (fun _ => ?_) (fun q => absurd q (by decide))
  refine lv_iload_n hx hb dX2_best_15 rfl (lv_at hl 3 rfl) ?_
  refine lv_iconst (v := nI 4) hx hb dX2_best_16 (by decide) ?_
  refine vp_callSi (va_Run.run (va_runS (As := [.int (nI (how)), .int (nI (4))]) (rest := []) ⟨hx, hb, hml, hown, hts⟩ (c_X2_in l (nI how) (4)) (va_cwS 2 hts gX2_best_X2_in rfl rfl rfl (by decide +kernel) ⟨Nat.le_of_ble_eq_true rfl, Nat.le_of_ble_eq_true rfl⟩) preT rfl rfl hl.1 rfl (lv_room (Nat.le_of_ble_eq_true rfl)) dX2_best_17 ⟨Nat.zero_le _, Nat.zero_le _⟩)) (fun r2 er2 => ?_)
  subst er2
  rw [vB_nI (show how < 4 by omega) (by omega)]
  refine xb_if_ne (tgt := 28) hx hb dX2_best_20 (by decide) (fun _ => ?_) (fun q => absurd q (by decide))
  refine lv_aload_n hx hb dX2_best_28 rfl (lv_at hl 0 rfl) ?_
  refine va_get (D := (dC, dI)) (ci := 2) (v := .int (nI (0))) (C := RX2) (T := TX2) (N := 6) hx hb hts hin2 hown hK hP 0 rfl rfl 5 (by decide) fl24 (fun _ h9 => h9) rfl dX2_best_29 ?_
  refine lv_if_le (tgt := 37) hx hb dX2_best_32 (by decide) (fun _ => ?_) (fun q => absurd (by decide) q)
  refine lv_aload_n hx hb dX2_best_37 rfl (lv_at hl 0 rfl) ?_
  refine va_get (D := (dC, dI)) (ci := 2) (v := .int (nI (nn))) (C := RX2) (T := TX2) (N := 6) hx hb hts hin2 hown hK hP 0 rfl rfl 4 (by decide) fl28 (fun _ h9 => h9) rfl dX2_best_38 ?_
  refine xn_if_ne (tgt := 48) hx hb (by omega) dX2_best_41 (by decide) (fun _ => ?_) (fun q => absurd q (by omega))
  refine lv_iconst (v := nI 0) hx hb dX2_best_48 (by decide) ?_
  refine lv_istore (lv' := [(4, .int (nI (0))), (0, .ref h), (1, .int (nI (Bool.toNat (fb)))), (2, .int (nI (bn))), (3, .int (nI (how)))]) hx hb dX2_best_49 hl (by decide) rfl (fun ls hl => ?_)
  refine lv_iconst (v := nI 1) hx hb dX2_best_51 (by decide) ?_
  refine lv_istore (lv' := [(5, .int (nI (1))), (4, .int (nI (0))), (0, .ref h), (1, .int (nI (Bool.toNat (fb)))), (2, .int (nI (bn))), (3, .int (nI (how)))]) hx hb dX2_best_52 hl (by decide) rfl (fun ls hl => ?_)
  refine W_loop (α := Nat) (P := fun n j ls => j + n = nn ∧ j < nn ∧ lv_has ls 8 [(4, .int (nI (bst (fun i j => bet (rl I N (mc fb i bn) (mc fb j bn)) how) j))), (5, .int (nI (j + 1))), (0, .ref h), (1, .int (nI (Bool.toNat (fb)))), (2, .int (nI (bn))), (3, .int (nI (how)))]) (st := fun _ => []) 54 (fun j ls h => by have := h.1; have := h.2.1; omega) (fun n ih j ls h => ?_) (nn) (0) ls ⟨by omega, by omega, lv_sub hl [1, 0, 2, 3, 4, 5] rfl⟩
  obtain ⟨hin, hjn, hl⟩ := h
  have := bst_le (fun i j => bet (rl I N (mc fb i bn) (mc fb j bn)) how) j
  refine lv_iload hx hb dX2_best_54 (lv_at hl 1 rfl) ?_
  refine lv_aload_n hx hb dX2_best_56 rfl (lv_at hl 2 rfl) ?_
  refine va_get (D := (dC, dI)) (ci := 2) (v := .int (nI (nn))) (C := RX2) (T := TX2) (N := 6) hx hb hts hin2 hown hK hP 0 rfl rfl 4 (by decide) fl28 (fun _ h9 => h9) rfl dX2_best_57 ?_
  refine xn_icmp_ge (tgt := 178) hx hb (by omega) (by omega) dX2_best_60 (by decide) (fun c60 => ?_) (fun c60 => ?_)
  · refine lv_iload hx hb dX2_best_178 (lv_at hl 0 rfl) ?_
    exact W.iret (v := nI (bst (fun i j => bet (rl I N (mc fb i bn) (mc fb j bn)) how) j)) hx hb hr (fun t ht hW => ⟨⟨_, (), rfl, (by rw [show nn - 1 = j by omega]), by rw [ht]; exact hP, va_K.moved hW.alike hK, hD⟩, hS.F ht⟩) hS.2.2 dX2_best_180
  · refine lv_aload_n hx hb dX2_best_63 rfl (lv_at hl 2 rfl) ?_
    refine lv_iload_n hx hb dX2_best_64 rfl (lv_at hl 3 rfl) ?_
    refine lv_iload hx hb dX2_best_65 (lv_at hl 1 rfl) ?_
    refine lv_iload_n hx hb dX2_best_67 rfl (lv_at hl 4 rfl) ?_
    refine vp_callSi (va_Run.run (va_runS (As := [.int (nI (Bool.toNat (fb))), .int (nI (j + 1)), .int (nI (bn))]) (rest := [.ref h]) ⟨hx, hb, hml, hown, hts⟩ (c_X2_cell l (fb) (j + 1) (bn)) (va_cwS 3 hts gX2_best_X2_cell rfl rfl rfl (by decide +kernel) ⟨Nat.le_of_ble_eq_true rfl, Nat.le_of_ble_eq_true rfl⟩) preT rfl rfl hl.1 rfl (lv_room (Nat.le_of_ble_eq_true rfl)) dX2_best_68 ⟨Nat.zero_le _, Nat.zero_le _⟩)) (fun r3 er3 => ?_)
    subst er3
    have := mc_lt (f := fb) (e := j + 1) (b := bn) (by omega) (by omega)
    refine lv_iload_n hx hb dX2_best_71 rfl (lv_at hl 3 rfl) ?_
    refine lv_iload hx hb dX2_best_72 (lv_at hl 0 rfl) ?_
    refine lv_iload_n hx hb dX2_best_74 rfl (lv_at hl 4 rfl) ?_
    refine vp_callSi (va_Run.run (va_runS (As := [.int (nI (Bool.toNat (fb))), .int (nI (bst (fun i j => bet (rl I N (mc fb i bn) (mc fb j bn)) how) j)), .int (nI (bn))]) (rest := [.int (nI (mc fb (j + 1) bn)), .ref h]) ⟨hx, hb, hml, hown, hts⟩ (c_X2_cell l (fb) (bst (fun i j => bet (rl I N (mc fb i bn) (mc fb j bn)) how) j) (bn)) (va_cwS 3 hts gX2_best_X2_cell rfl rfl rfl (by decide +kernel) ⟨Nat.le_of_ble_eq_true rfl, Nat.le_of_ble_eq_true rfl⟩) preT rfl rfl hl.1 rfl (lv_room (Nat.le_of_ble_eq_true rfl)) dX2_best_75 ⟨Nat.zero_le _, Nat.zero_le _⟩)) (fun r4 er4 => ?_)
    subst er4
    have := mc_lt (f := fb) (e := bst (fun i j => bet (rl I N (mc fb i bn) (mc fb j bn)) how) j) (b := bn) (by omega) (by omega)
    refine vp_callSi (va_Run.run (va_runV (As := [.int (nI (mc fb (j + 1) bn)), .int (nI (mc fb (bst (fun i j => bet (rl I N (mc fb i bn) (mc fb j bn)) how) j) bn))]) (rest := []) ⟨hx, hb, hml, hown, hts⟩ (c_X2_compare l dC dI cD cZ cI cL h b0 b1 b2 b3 N I T R nn (nI 0) (mc fb (j + 1) bn) (mc fb (bst (fun i j => bet (rl I N (mc fb i bn) (mc fb j bn)) how) j) bn) (by omega) (by omega) hq) (cwV 2 hts gX2_best_X2_compare rfl rfl rfl (by decide +kernel) ⟨Nat.le_of_ble_eq_true rfl, Nat.le_of_ble_eq_true rfl⟩) (okM_pre ⟨hP, hK⟩) rfl rfl hl.1 rfl (lv_room (Nat.le_of_ble_eq_true rfl)) dX2_best_78 ⟨Nat.zero_le _, Nat.zero_le _⟩)) (fun r5 er5 => ?_)
    subst er5
    have := rl_le I N (mc fb (j + 1) bn) (mc fb (bst (fun i j => bet (rl I N (mc fb i bn) (mc fb j bn)) how) j) bn)
    refine lv_istore (lv' := [(6, .int (nI (rl I N (mc fb (j + 1) bn) (mc fb (bst (fun i j => bet (rl I N (mc fb i bn) (mc fb j bn)) how) j) bn)))), (4, .int (nI (bst (fun i j => bet (rl I N (mc fb i bn) (mc fb j bn)) how) j))), (5, .int (nI (j + 1))), (0, .ref h), (1, .int (nI (Bool.toNat (fb)))), (2, .int (nI (bn))), (3, .int (nI (how)))]) hx hb dX2_best_81 hl (by decide) rfl (fun ls hl => ?_)
    refine lv_iload_n hx hb dX2_best_83 rfl (lv_at hl 6 rfl) ?_
    refine xn_if_ne (tgt := 101) hx hb (by omega) dX2_best_84 (by decide) (fun c84 => ?_) (fun c84 => ?_)
    · refine lv_iload_n hx hb dX2_best_101 rfl (lv_at hl 6 rfl) ?_
      refine lv_iconst (v := nI 1) hx hb dX2_best_102 (by decide) ?_
      refine xn_icmp_ne (tgt := 126) hx hb (by omega) (by decide) dX2_best_103 (by decide) (fun c103 => ?_) (fun c103 => ?_)
      · refine lv_iload_n hx hb dX2_best_126 rfl (lv_at hl 6 rfl) ?_
        refine lv_iconst (v := nI 2) hx hb dX2_best_127 (by decide) ?_
        refine xn_icmp_ne (tgt := 144) hx hb (by omega) (by decide) dX2_best_128 (by decide) (fun c128 => ?_) (fun c128 => ?_)
        · refine lv_iload hx hb dX2_best_144 (lv_at hl 0 rfl) ?_
          refine lv_iconst (v := nI 2) hx hb dX2_best_146 (by decide) ?_
          refine xn_icmp_eq (tgt := 156) hx hb (by omega) (by decide) dX2_best_147 (by decide) (fun c147 => ?_) (fun c147 => ?_)
          · refine lv_iconst (v := nI 1) hx hb dX2_best_156 (by decide) ?_
            refine lv_goto (tgt := 161) hx hb dX2_best_157 (by decide) ?_
            refine lv_istore (lv' := [(7, .int (nI (1))), (6, .int (nI (rl I N (mc fb (j + 1) bn) (mc fb (bst (fun i j => bet (rl I N (mc fb i bn) (mc fb j bn)) how) j) bn)))), (4, .int (nI (bst (fun i j => bet (rl I N (mc fb i bn) (mc fb j bn)) how) j))), (5, .int (nI (j + 1))), (0, .ref h), (1, .int (nI (Bool.toNat (fb)))), (2, .int (nI (bn))), (3, .int (nI (how)))]) hx hb dX2_best_161 hl (by decide) rfl (fun ls hl => ?_)
            refine lv_iload hx hb dX2_best_163 (lv_at hl 0 rfl) ?_
            refine lv_if_eq (tgt := 172) hx hb dX2_best_165 (by decide) (fun q => absurd q (by decide)) (fun _ => ?_)
            refine lv_iload hx hb dX2_best_168 (lv_at hl 3 rfl) ?_
            refine lv_istore (lv' := [(4, .int (nI (j + 1))), (7, .int (nI (1))), (6, .int (nI (rl I N (mc fb (j + 1) bn) (mc fb (bst (fun i j => bet (rl I N (mc fb i bn) (mc fb j bn)) how) j) bn)))), (5, .int (nI (j + 1))), (0, .ref h), (1, .int (nI (Bool.toNat (fb)))), (2, .int (nI (bn))), (3, .int (nI (how)))]) hx hb dX2_best_170 hl (by decide) rfl (fun ls hl => ?_)
            refine xn_iinc (lv2 := [(5, .int (nI (j + 1 + 1))), (4, .int (nI (j + 1))), (7, .int (nI (1))), (6, .int (nI (rl I N (mc fb (j + 1) bn) (mc fb (bst (fun i j => bet (rl I N (mc fb i bn) (mc fb j bn)) how) j) bn)))), (0, .ref h), (1, .int (nI (Bool.toNat (fb)))), (2, .int (nI (bn))), (3, .int (nI (how)))]) hx hb dX2_best_172 hl (k0 := 3) rfl (by decide) rfl (fun ls hl => ?_)
            refine lv_goto (tgt := 54) hx hb dX2_best_175 (by decide) ?_
            exact ih (j + 1) ls ⟨by omega, by omega, by rw [bst_t (f := (fun i j => bet (rl I N (mc fb i bn) (mc fb j bn)) how)) ((fun (cv : Nat) (hcv : cv ≤ 3) (hc147 : cv = 2) => show bet cv how = true by simp [bet, c84, c103, c128, hc147] <;> omega) _ (rl_le _ _ _ _) c147)]; exact lv_sub hl [1, 0, 4, 5, 6, 7] rfl⟩
          · refine lv_iload hx hb dX2_best_150 (lv_at hl 0 rfl) ?_
            refine lv_iconst (v := nI 1) hx hb dX2_best_152 (by decide) ?_
            refine jn_icmp_ne hx hb (by omega) (by decide) dX2_best_153 dX2_best_156 dX2_best_157 dX2_best_160 ?_
            refine lv_istore (lv' := [(7, .int (nI (Bool.toNat (decide ((rl I N (mc fb (j + 1) bn) (mc fb (bst (fun i j => bet (rl I N (mc fb i bn) (mc fb j bn)) how) j) bn)) = 1))))), (6, .int (nI (rl I N (mc fb (j + 1) bn) (mc fb (bst (fun i j => bet (rl I N (mc fb i bn) (mc fb j bn)) how) j) bn)))), (4, .int (nI (bst (fun i j => bet (rl I N (mc fb i bn) (mc fb j bn)) how) j))), (5, .int (nI (j + 1))), (0, .ref h), (1, .int (nI (Bool.toNat (fb)))), (2, .int (nI (bn))), (3, .int (nI (how)))]) hx hb dX2_best_161 hl (by decide) rfl (fun ls hl => ?_)
            refine lv_iload hx hb dX2_best_163 (lv_at hl 0 rfl) ?_
            refine xb_if_eq (tgt := 172) hx hb dX2_best_165 (by decide) (fun c165 => ?_) (fun c165 => ?_)
            · refine xn_iinc (lv2 := [(5, .int (nI (j + 1 + 1))), (7, .int (nI (Bool.toNat (decide ((rl I N (mc fb (j + 1) bn) (mc fb (bst (fun i j => bet (rl I N (mc fb i bn) (mc fb j bn)) how) j) bn)) = 1))))), (6, .int (nI (rl I N (mc fb (j + 1) bn) (mc fb (bst (fun i j => bet (rl I N (mc fb i bn) (mc fb j bn)) how) j) bn)))), (4, .int (nI (bst (fun i j => bet (rl I N (mc fb i bn) (mc fb j bn)) how) j))), (0, .ref h), (1, .int (nI (Bool.toNat (fb)))), (2, .int (nI (bn))), (3, .int (nI (how)))]) hx hb dX2_best_172 hl (k0 := 3) rfl (by decide) rfl (fun ls hl => ?_)
              refine lv_goto (tgt := 54) hx hb dX2_best_175 (by decide) ?_
              exact ih (j + 1) ls ⟨by omega, by omega, by rw [bst_f (f := (fun i j => bet (rl I N (mc fb i bn) (mc fb j bn)) how)) ((fun (cv : Nat) (hcv : cv ≤ 3) (hc147 : cv ≠ 2) (hc165 : (decide (cv = 1)) = false) => show bet cv how = false by simp [bet, c84, c103, c128, hc147, hc165] <;> omega) _ (rl_le _ _ _ _) c147 c165)]; exact lv_sub hl [3, 0, 4, 5, 6, 7] rfl⟩
            · refine lv_iload hx hb dX2_best_168 (lv_at hl 3 rfl) ?_
              refine lv_istore (lv' := [(4, .int (nI (j + 1))), (7, .int (nI (Bool.toNat (decide ((rl I N (mc fb (j + 1) bn) (mc fb (bst (fun i j => bet (rl I N (mc fb i bn) (mc fb j bn)) how) j) bn)) = 1))))), (6, .int (nI (rl I N (mc fb (j + 1) bn) (mc fb (bst (fun i j => bet (rl I N (mc fb i bn) (mc fb j bn)) how) j) bn)))), (5, .int (nI (j + 1))), (0, .ref h), (1, .int (nI (Bool.toNat (fb)))), (2, .int (nI (bn))), (3, .int (nI (how)))]) hx hb dX2_best_170 hl (by decide) rfl (fun ls hl => ?_)
              refine xn_iinc (lv2 := [(5, .int (nI (j + 1 + 1))), (4, .int (nI (j + 1))), (7, .int (nI (Bool.toNat (decide ((rl I N (mc fb (j + 1) bn) (mc fb (bst (fun i j => bet (rl I N (mc fb i bn) (mc fb j bn)) how) j) bn)) = 1))))), (6, .int (nI (rl I N (mc fb (j + 1) bn) (mc fb (bst (fun i j => bet (rl I N (mc fb i bn) (mc fb j bn)) how) j) bn)))), (0, .ref h), (1, .int (nI (Bool.toNat (fb)))), (2, .int (nI (bn))), (3, .int (nI (how)))]) hx hb dX2_best_172 hl (k0 := 3) rfl (by decide) rfl (fun ls hl => ?_)
              refine lv_goto (tgt := 54) hx hb dX2_best_175 (by decide) ?_
              exact ih (j + 1) ls ⟨by omega, by omega, by rw [bst_t (f := (fun i j => bet (rl I N (mc fb i bn) (mc fb j bn)) how)) ((fun (cv : Nat) (hcv : cv ≤ 3) (hc147 : cv ≠ 2) (hc165 : (decide (cv = 1)) = true) => show bet cv how = true by simp [bet, c84, c103, c128, hc147, hc165] <;> omega) _ (rl_le _ _ _ _) c147 c165)]; exact lv_sub hl [1, 0, 4, 5, 6, 7] rfl⟩
        · refine lv_iload hx hb dX2_best_131 (lv_at hl 0 rfl) ?_
          refine xn_if_eq (tgt := 140) hx hb (by omega) dX2_best_133 (by decide) (fun c133 => ?_) (fun c133 => ?_)
          · refine lv_iconst (v := nI 0) hx hb dX2_best_140 (by decide) ?_
            refine lv_goto (tgt := 161) hx hb dX2_best_141 (by decide) ?_
            refine lv_istore (lv' := [(7, .int (nI (0))), (6, .int (nI (rl I N (mc fb (j + 1) bn) (mc fb (bst (fun i j => bet (rl I N (mc fb i bn) (mc fb j bn)) how) j) bn)))), (4, .int (nI (bst (fun i j => bet (rl I N (mc fb i bn) (mc fb j bn)) how) j))), (5, .int (nI (j + 1))), (0, .ref h), (1, .int (nI (Bool.toNat (fb)))), (2, .int (nI (bn))), (3, .int (nI (how)))]) hx hb dX2_best_161 hl (by decide) rfl (fun ls hl => ?_)
            refine lv_iload hx hb dX2_best_163 (lv_at hl 0 rfl) ?_
            refine lv_if_eq (tgt := 172) hx hb dX2_best_165 (by decide) (fun _ => ?_) (fun q => absurd (by decide) q)
            refine xn_iinc (lv2 := [(5, .int (nI (j + 1 + 1))), (7, .int (nI (0))), (6, .int (nI (rl I N (mc fb (j + 1) bn) (mc fb (bst (fun i j => bet (rl I N (mc fb i bn) (mc fb j bn)) how) j) bn)))), (4, .int (nI (bst (fun i j => bet (rl I N (mc fb i bn) (mc fb j bn)) how) j))), (0, .ref h), (1, .int (nI (Bool.toNat (fb)))), (2, .int (nI (bn))), (3, .int (nI (how)))]) hx hb dX2_best_172 hl (k0 := 3) rfl (by decide) rfl (fun ls hl => ?_)
            refine lv_goto (tgt := 54) hx hb dX2_best_175 (by decide) ?_
            exact ih (j + 1) ls ⟨by omega, by omega, by rw [bst_f (f := (fun i j => bet (rl I N (mc fb i bn) (mc fb j bn)) how)) ((fun (cv : Nat) (hcv : cv ≤ 3) (hc133 : cv = 0) => show bet cv how = false by simp [bet, c84, c103, c128, hc133] <;> omega) _ (rl_le _ _ _ _) c133)]; exact lv_sub hl [3, 0, 4, 5, 6, 7] rfl⟩
          · refine lv_iconst (v := nI 1) hx hb dX2_best_136 (by decide) ?_
            refine lv_goto (tgt := 161) hx hb dX2_best_137 (by decide) ?_
            refine lv_istore (lv' := [(7, .int (nI (1))), (6, .int (nI (rl I N (mc fb (j + 1) bn) (mc fb (bst (fun i j => bet (rl I N (mc fb i bn) (mc fb j bn)) how) j) bn)))), (4, .int (nI (bst (fun i j => bet (rl I N (mc fb i bn) (mc fb j bn)) how) j))), (5, .int (nI (j + 1))), (0, .ref h), (1, .int (nI (Bool.toNat (fb)))), (2, .int (nI (bn))), (3, .int (nI (how)))]) hx hb dX2_best_161 hl (by decide) rfl (fun ls hl => ?_)
            refine lv_iload hx hb dX2_best_163 (lv_at hl 0 rfl) ?_
            refine lv_if_eq (tgt := 172) hx hb dX2_best_165 (by decide) (fun q => absurd q (by decide)) (fun _ => ?_)
            refine lv_iload hx hb dX2_best_168 (lv_at hl 3 rfl) ?_
            refine lv_istore (lv' := [(4, .int (nI (j + 1))), (7, .int (nI (1))), (6, .int (nI (rl I N (mc fb (j + 1) bn) (mc fb (bst (fun i j => bet (rl I N (mc fb i bn) (mc fb j bn)) how) j) bn)))), (5, .int (nI (j + 1))), (0, .ref h), (1, .int (nI (Bool.toNat (fb)))), (2, .int (nI (bn))), (3, .int (nI (how)))]) hx hb dX2_best_170 hl (by decide) rfl (fun ls hl => ?_)
            refine xn_iinc (lv2 := [(5, .int (nI (j + 1 + 1))), (4, .int (nI (j + 1))), (7, .int (nI (1))), (6, .int (nI (rl I N (mc fb (j + 1) bn) (mc fb (bst (fun i j => bet (rl I N (mc fb i bn) (mc fb j bn)) how) j) bn)))), (0, .ref h), (1, .int (nI (Bool.toNat (fb)))), (2, .int (nI (bn))), (3, .int (nI (how)))]) hx hb dX2_best_172 hl (k0 := 3) rfl (by decide) rfl (fun ls hl => ?_)
            refine lv_goto (tgt := 54) hx hb dX2_best_175 (by decide) ?_
            exact ih (j + 1) ls ⟨by omega, by omega, by rw [bst_t (f := (fun i j => bet (rl I N (mc fb i bn) (mc fb j bn)) how)) ((fun (cv : Nat) (hcv : cv ≤ 3) (hc133 : cv ≠ 0) => show bet cv how = true by simp [bet, c84, c103, c128, hc133] <;> omega) _ (rl_le _ _ _ _) c133)]; exact lv_sub hl [1, 0, 4, 5, 6, 7] rfl⟩
      · refine lv_iload hx hb dX2_best_106 (lv_at hl 0 rfl) ?_
        refine lv_iconst (v := nI 2) hx hb dX2_best_108 (by decide) ?_
        refine xn_icmp_eq (tgt := 118) hx hb (by omega) (by decide) dX2_best_109 (by decide) (fun c109 => ?_) (fun c109 => ?_)
        · refine lv_iconst (v := nI 1) hx hb dX2_best_118 (by decide) ?_
          refine lv_goto (tgt := 161) hx hb dX2_best_119 (by decide) ?_
          refine lv_istore (lv' := [(7, .int (nI (1))), (6, .int (nI (rl I N (mc fb (j + 1) bn) (mc fb (bst (fun i j => bet (rl I N (mc fb i bn) (mc fb j bn)) how) j) bn)))), (4, .int (nI (bst (fun i j => bet (rl I N (mc fb i bn) (mc fb j bn)) how) j))), (5, .int (nI (j + 1))), (0, .ref h), (1, .int (nI (Bool.toNat (fb)))), (2, .int (nI (bn))), (3, .int (nI (how)))]) hx hb dX2_best_161 hl (by decide) rfl (fun ls hl => ?_)
          refine lv_iload hx hb dX2_best_163 (lv_at hl 0 rfl) ?_
          refine lv_if_eq (tgt := 172) hx hb dX2_best_165 (by decide) (fun q => absurd q (by decide)) (fun _ => ?_)
          refine lv_iload hx hb dX2_best_168 (lv_at hl 3 rfl) ?_
          refine lv_istore (lv' := [(4, .int (nI (j + 1))), (7, .int (nI (1))), (6, .int (nI (rl I N (mc fb (j + 1) bn) (mc fb (bst (fun i j => bet (rl I N (mc fb i bn) (mc fb j bn)) how) j) bn)))), (5, .int (nI (j + 1))), (0, .ref h), (1, .int (nI (Bool.toNat (fb)))), (2, .int (nI (bn))), (3, .int (nI (how)))]) hx hb dX2_best_170 hl (by decide) rfl (fun ls hl => ?_)
          refine xn_iinc (lv2 := [(5, .int (nI (j + 1 + 1))), (4, .int (nI (j + 1))), (7, .int (nI (1))), (6, .int (nI (rl I N (mc fb (j + 1) bn) (mc fb (bst (fun i j => bet (rl I N (mc fb i bn) (mc fb j bn)) how) j) bn)))), (0, .ref h), (1, .int (nI (Bool.toNat (fb)))), (2, .int (nI (bn))), (3, .int (nI (how)))]) hx hb dX2_best_172 hl (k0 := 3) rfl (by decide) rfl (fun ls hl => ?_)
          refine lv_goto (tgt := 54) hx hb dX2_best_175 (by decide) ?_
          exact ih (j + 1) ls ⟨by omega, by omega, by rw [bst_t (f := (fun i j => bet (rl I N (mc fb i bn) (mc fb j bn)) how)) ((fun (cv : Nat) (hcv : cv ≤ 3) (hc109 : cv = 2) => show bet cv how = true by simp [bet, c84, c103, hc109] <;> omega) _ (rl_le _ _ _ _) c109)]; exact lv_sub hl [1, 0, 4, 5, 6, 7] rfl⟩
        · refine lv_iload hx hb dX2_best_112 (lv_at hl 0 rfl) ?_
          refine lv_iconst (v := nI 3) hx hb dX2_best_114 (by decide) ?_
          refine xn_icmp_ne (tgt := 122) hx hb (by omega) (by decide) dX2_best_115 (by decide) (fun c115 => ?_) (fun c115 => ?_)
          · refine lv_iconst (v := nI 0) hx hb dX2_best_122 (by decide) ?_
            refine lv_goto (tgt := 161) hx hb dX2_best_123 (by decide) ?_
            refine lv_istore (lv' := [(7, .int (nI (0))), (6, .int (nI (rl I N (mc fb (j + 1) bn) (mc fb (bst (fun i j => bet (rl I N (mc fb i bn) (mc fb j bn)) how) j) bn)))), (4, .int (nI (bst (fun i j => bet (rl I N (mc fb i bn) (mc fb j bn)) how) j))), (5, .int (nI (j + 1))), (0, .ref h), (1, .int (nI (Bool.toNat (fb)))), (2, .int (nI (bn))), (3, .int (nI (how)))]) hx hb dX2_best_161 hl (by decide) rfl (fun ls hl => ?_)
            refine lv_iload hx hb dX2_best_163 (lv_at hl 0 rfl) ?_
            refine lv_if_eq (tgt := 172) hx hb dX2_best_165 (by decide) (fun _ => ?_) (fun q => absurd (by decide) q)
            refine xn_iinc (lv2 := [(5, .int (nI (j + 1 + 1))), (7, .int (nI (0))), (6, .int (nI (rl I N (mc fb (j + 1) bn) (mc fb (bst (fun i j => bet (rl I N (mc fb i bn) (mc fb j bn)) how) j) bn)))), (4, .int (nI (bst (fun i j => bet (rl I N (mc fb i bn) (mc fb j bn)) how) j))), (0, .ref h), (1, .int (nI (Bool.toNat (fb)))), (2, .int (nI (bn))), (3, .int (nI (how)))]) hx hb dX2_best_172 hl (k0 := 3) rfl (by decide) rfl (fun ls hl => ?_)
            refine lv_goto (tgt := 54) hx hb dX2_best_175 (by decide) ?_
            exact ih (j + 1) ls ⟨by omega, by omega, by rw [bst_f (f := (fun i j => bet (rl I N (mc fb i bn) (mc fb j bn)) how)) ((fun (cv : Nat) (hcv : cv ≤ 3) (hc109 : cv ≠ 2) (hc115 : cv ≠ 3) => show bet cv how = false by simp [bet, c84, c103, hc109, hc115] <;> omega) _ (rl_le _ _ _ _) c109 c115)]; exact lv_sub hl [3, 0, 4, 5, 6, 7] rfl⟩
          · refine lv_iconst (v := nI 1) hx hb dX2_best_118 (by decide) ?_
            refine lv_goto (tgt := 161) hx hb dX2_best_119 (by decide) ?_
            refine lv_istore (lv' := [(7, .int (nI (1))), (6, .int (nI (rl I N (mc fb (j + 1) bn) (mc fb (bst (fun i j => bet (rl I N (mc fb i bn) (mc fb j bn)) how) j) bn)))), (4, .int (nI (bst (fun i j => bet (rl I N (mc fb i bn) (mc fb j bn)) how) j))), (5, .int (nI (j + 1))), (0, .ref h), (1, .int (nI (Bool.toNat (fb)))), (2, .int (nI (bn))), (3, .int (nI (how)))]) hx hb dX2_best_161 hl (by decide) rfl (fun ls hl => ?_)
            refine lv_iload hx hb dX2_best_163 (lv_at hl 0 rfl) ?_
            refine lv_if_eq (tgt := 172) hx hb dX2_best_165 (by decide) (fun q => absurd q (by decide)) (fun _ => ?_)
            refine lv_iload hx hb dX2_best_168 (lv_at hl 3 rfl) ?_
            refine lv_istore (lv' := [(4, .int (nI (j + 1))), (7, .int (nI (1))), (6, .int (nI (rl I N (mc fb (j + 1) bn) (mc fb (bst (fun i j => bet (rl I N (mc fb i bn) (mc fb j bn)) how) j) bn)))), (5, .int (nI (j + 1))), (0, .ref h), (1, .int (nI (Bool.toNat (fb)))), (2, .int (nI (bn))), (3, .int (nI (how)))]) hx hb dX2_best_170 hl (by decide) rfl (fun ls hl => ?_)
            refine xn_iinc (lv2 := [(5, .int (nI (j + 1 + 1))), (4, .int (nI (j + 1))), (7, .int (nI (1))), (6, .int (nI (rl I N (mc fb (j + 1) bn) (mc fb (bst (fun i j => bet (rl I N (mc fb i bn) (mc fb j bn)) how) j) bn)))), (0, .ref h), (1, .int (nI (Bool.toNat (fb)))), (2, .int (nI (bn))), (3, .int (nI (how)))]) hx hb dX2_best_172 hl (k0 := 3) rfl (by decide) rfl (fun ls hl => ?_)
            refine lv_goto (tgt := 54) hx hb dX2_best_175 (by decide) ?_
            exact ih (j + 1) ls ⟨by omega, by omega, by rw [bst_t (f := (fun i j => bet (rl I N (mc fb i bn) (mc fb j bn)) how)) ((fun (cv : Nat) (hcv : cv ≤ 3) (hc109 : cv ≠ 2) (hc115 : cv = 3) => show bet cv how = true by simp [bet, c84, c103, hc109, hc115] <;> omega) _ (rl_le _ _ _ _) c109 c115)]; exact lv_sub hl [1, 0, 4, 5, 6, 7] rfl⟩
    · refine lv_iload hx hb dX2_best_87 (lv_at hl 0 rfl) ?_
      refine lv_iconst (v := nI 2) hx hb dX2_best_89 (by decide) ?_
      refine xn_icmp_ne (tgt := 97) hx hb (by omega) (by decide) dX2_best_90 (by decide) (fun c90 => ?_) (fun c90 => ?_)
      · refine lv_iconst (v := nI 0) hx hb dX2_best_97 (by decide) ?_
        refine lv_goto (tgt := 161) hx hb dX2_best_98 (by decide) ?_
        refine lv_istore (lv' := [(7, .int (nI (0))), (6, .int (nI (rl I N (mc fb (j + 1) bn) (mc fb (bst (fun i j => bet (rl I N (mc fb i bn) (mc fb j bn)) how) j) bn)))), (4, .int (nI (bst (fun i j => bet (rl I N (mc fb i bn) (mc fb j bn)) how) j))), (5, .int (nI (j + 1))), (0, .ref h), (1, .int (nI (Bool.toNat (fb)))), (2, .int (nI (bn))), (3, .int (nI (how)))]) hx hb dX2_best_161 hl (by decide) rfl (fun ls hl => ?_)
        refine lv_iload hx hb dX2_best_163 (lv_at hl 0 rfl) ?_
        refine lv_if_eq (tgt := 172) hx hb dX2_best_165 (by decide) (fun _ => ?_) (fun q => absurd (by decide) q)
        refine xn_iinc (lv2 := [(5, .int (nI (j + 1 + 1))), (7, .int (nI (0))), (6, .int (nI (rl I N (mc fb (j + 1) bn) (mc fb (bst (fun i j => bet (rl I N (mc fb i bn) (mc fb j bn)) how) j) bn)))), (4, .int (nI (bst (fun i j => bet (rl I N (mc fb i bn) (mc fb j bn)) how) j))), (0, .ref h), (1, .int (nI (Bool.toNat (fb)))), (2, .int (nI (bn))), (3, .int (nI (how)))]) hx hb dX2_best_172 hl (k0 := 3) rfl (by decide) rfl (fun ls hl => ?_)
        refine lv_goto (tgt := 54) hx hb dX2_best_175 (by decide) ?_
        exact ih (j + 1) ls ⟨by omega, by omega, by rw [bst_f (f := (fun i j => bet (rl I N (mc fb i bn) (mc fb j bn)) how)) ((fun (cv : Nat) (hcv : cv ≤ 3) (hc90 : cv ≠ 2) => show bet cv how = false by simp [bet, c84, hc90] <;> omega) _ (rl_le _ _ _ _) c90)]; exact lv_sub hl [3, 0, 4, 5, 6, 7] rfl⟩
      · refine lv_iconst (v := nI 1) hx hb dX2_best_93 (by decide) ?_
        refine lv_goto (tgt := 161) hx hb dX2_best_94 (by decide) ?_
        refine lv_istore (lv' := [(7, .int (nI (1))), (6, .int (nI (rl I N (mc fb (j + 1) bn) (mc fb (bst (fun i j => bet (rl I N (mc fb i bn) (mc fb j bn)) how) j) bn)))), (4, .int (nI (bst (fun i j => bet (rl I N (mc fb i bn) (mc fb j bn)) how) j))), (5, .int (nI (j + 1))), (0, .ref h), (1, .int (nI (Bool.toNat (fb)))), (2, .int (nI (bn))), (3, .int (nI (how)))]) hx hb dX2_best_161 hl (by decide) rfl (fun ls hl => ?_)
        refine lv_iload hx hb dX2_best_163 (lv_at hl 0 rfl) ?_
        refine lv_if_eq (tgt := 172) hx hb dX2_best_165 (by decide) (fun q => absurd q (by decide)) (fun _ => ?_)
        refine lv_iload hx hb dX2_best_168 (lv_at hl 3 rfl) ?_
        refine lv_istore (lv' := [(4, .int (nI (j + 1))), (7, .int (nI (1))), (6, .int (nI (rl I N (mc fb (j + 1) bn) (mc fb (bst (fun i j => bet (rl I N (mc fb i bn) (mc fb j bn)) how) j) bn)))), (5, .int (nI (j + 1))), (0, .ref h), (1, .int (nI (Bool.toNat (fb)))), (2, .int (nI (bn))), (3, .int (nI (how)))]) hx hb dX2_best_170 hl (by decide) rfl (fun ls hl => ?_)
        refine xn_iinc (lv2 := [(5, .int (nI (j + 1 + 1))), (4, .int (nI (j + 1))), (7, .int (nI (1))), (6, .int (nI (rl I N (mc fb (j + 1) bn) (mc fb (bst (fun i j => bet (rl I N (mc fb i bn) (mc fb j bn)) how) j) bn)))), (0, .ref h), (1, .int (nI (Bool.toNat (fb)))), (2, .int (nI (bn))), (3, .int (nI (how)))]) hx hb dX2_best_172 hl (k0 := 3) rfl (by decide) rfl (fun ls hl => ?_)
        refine lv_goto (tgt := 54) hx hb dX2_best_175 (by decide) ?_
        exact ih (j + 1) ls ⟨by omega, by omega, by rw [bst_t (f := (fun i j => bet (rl I N (mc fb i bn) (mc fb j bn)) how)) ((fun (cv : Nat) (hcv : cv ≤ 3) (hc90 : cv = 2) => show bet cv how = true by simp [bet, c84, hc90] <;> omega) _ (rl_le _ _ _ _) c90)]; exact lv_sub hl [1, 0, 4, 5, 6, 7] rfl⟩
set_option maxHeartbeats 4000000 in
set_option maxRecDepth 100000 in
theorem c_X2_best_n1 (l : Launch) (dC : Nat → ClassId) (dI : Nat → Nat → Nat) (cD cZ cI cL : ClassId) (h b0 b1 b2 b3 : Nat) (N : Nat → UInt64) (I T R : Nat → Int32) (nn : Nat) (th : Int32) (sz : Nat) (fb : Bool) (bv hv : Int32) (hbad : vB bv 5 = false) : Met l yX2_best wsX2_best ({ frames := 2, cells := 0, slots := 0, locals := 42 }) (va_Pc [.ref h, .int (nI (Bool.toNat (fb))), .int (bv), .int (hv)] (fun U => U.heap.size = sz ∧ okM dC dI cD cZ cI cL h b0 b1 b2 b3 N I T R nn th U U.heap ∧ va_D (fun _ => True) (wM cD cZ cI cL h b0 b1 b2 b3 N I T R nn th))) (va_Qi (fun (r : Int32) (_ : Unit) => r = nI 0) (fun _ t => atM dC dI cD cZ cI cL (va_A (wM cD cZ cI cL h b0 b1 b2 b3 N I T R nn th) sz) h b0 b1 b2 b3 N I T R nn (nI 1) t) (va_A (wM cD cZ cI cL h b0 b1 b2 b3 N I T R nn th) sz)) 0 0 (va_A (wM cD cZ cI cL h b0 b1 b2 b3 N I T R nn th) sz) := by
  refine Met.ofW (cc := cX2_best) (maxL := 8) (ret := (some .int)) (by decide) rfl ?_
  intro p e s m args below meth c s₁ B hml hv
  obtain ⟨rfl, hsz, hO, hD0⟩ := hv
  obtain ⟨hP, hK⟩ := id hO
  have hx := B.exec
  have hb := B.bytes
  have hr := B.returns
  have hts := atoms_spec (ws := wsX2_best) B.pre
  have hown : s.vm.findClass RX2 = some m.cls := findClass_of_methodNamed B.named
  have hlocks := B.notSynchronized
  subst hsz
  have hD := hD0.self (sz := s.heap.size)
  generalize hAe : va_A (wM cD cZ cI cL h b0 b1 b2 b3 N I T R nn th) s.heap.size = A at hD ⊢
  have hA : ∀ q : Nat, s.heap.size ≤ q → A q := fun q h => by rw [← hAe]; exact Or.inr h
  have hS : va_S A s.heap s.heap [] := va_S.rf
  have hP : va_P (dC, dI) vwCl [(h, .inr (2, [.ref b0, .ref b1, .ref b2, .ref b3, .int (nI (nn)), .int (th)])), (b0, .inl (cD, 70, .inr (.inr (.inr (.inl (N)))))), (b1, .inl (cZ, 70, .inl (I))), (b2, .inl (cI, 60, .inl (T))), (b3, .inl (cI, 6, .inl (R)))] s.heap := hP
  have hD : va_D A [(h, .inr (2, [.ref b0, .ref b1, .ref b2, .ref b3, .int (nI (nn)), .int (th)])), (b0, .inl (cD, 70, .inr (.inr (.inr (.inl (N)))))), (b1, .inl (cZ, 70, .inl (I))), (b2, .inl (cI, 60, .inl (T))), (b3, .inl (cI, 6, .inl (R)))] := hD
  have hin2 : ∀ w ∈ wsX20, w ∈ wsX2_best := (fun w h => List.mem_cons_of_mem _ (List.mem_append_right _ h))
  have fl24 := hts (.fieldLink RX2 24 "JuryTableModel" "thrown" "I") (by decide +kernel)
  have hl := lv_entry ([.ref h, .int (nI (Bool.toNat (fb))), .int (bv), .int (hv)]) (n := 8) (Nat.le_of_ble_eq_true rfl)
  rw [lg_entry_eq]
  generalize (lg_sl ([.ref h, .int (nI (Bool.toNat (fb))), .int (bv), .int (hv)]) ++ List.replicate (8 - (lg_sl ([.ref h, .int (nI (Bool.toNat (fb))), .int (bv), .int (hv)])).length) Slot.unset).toArray = ls at hl ⊢
  have hl : lv_has ls 8 [(0, .ref h), (1, .int (nI (Bool.toNat (fb)))), (2, .int (bv)), (3, .int (hv))] := hl
  refine lv_aload_n hx hb dX2_best_0 rfl (lv_at hl 0 rfl) ?_
  refine lv_iconst (v := nI 0) hx hb dX2_best_1 (by decide) ?_
  refine va_put (D := (dC, dI)) (ci := 2) (v := .int (nI (0))) (ty := .int) (C := RX2) (T := TX2) (N := 6) hx hb hts hin2 tyX2 tyX2_ok nmX2 hown hK hP hD hS 0 rfl rfl 5 (by decide) fl24 (fun _ h9 => h9) rfl (by decide +kernel) rfl rfl (Nat.le_of_ble_eq_true rfl) dX2_best_2 (fun H locs hP hD hS => ?_)
  have hP : va_P (dC, dI) vwCl [(h, .inr (2, [.ref b0, .ref b1, .ref b2, .ref b3, .int (nI (nn)), .int (nI (0))])), (b0, .inl (cD, 70, .inr (.inr (.inr (.inl (N)))))), (b1, .inl (cZ, 70, .inl (I))), (b2, .inl (cI, 60, .inl (T))), (b3, .inl (cI, 6, .inl (R)))] H := hP
  have hD : va_D A [(h, .inr (2, [.ref b0, .ref b1, .ref b2, .ref b3, .int (nI (nn)), .int (nI (0))])), (b0, .inl (cD, 70, .inr (.inr (.inr (.inl (N)))))), (b1, .inl (cZ, 70, .inl (I))), (b2, .inl (cI, 60, .inl (T))), (b3, .inl (cI, 6, .inl (R)))] := hD
  refine lv_aload_n hx hb dX2_best_5 rfl (lv_at hl 0 rfl) ?_
  refine lv_iload_n hx hb dX2_best_6 rfl (lv_at hl 2 rfl) ?_
  have hPc := hP.sub (ws' := [(h, .inr (2, [.ref b0, .ref b1, .ref b2, .ref b3, .int (nI (nn)), .int (nI (0))])), (b0, .inl (cD, 70, .inr (.inr (.inr (.inl (N)))))), (b1, .inl (cZ, 70, .inl (I))), (b2, .inl (cI, 60, .inl (T))), (b3, .inl (cI, 6, .inl (R)))]) [0, 1, 2, 3, 4] rfl
  have hDc := hD.sub (ws' := [(h, .inr (2, [.ref b0, .ref b1, .ref b2, .ref b3, .int (nI (nn)), .int (nI (0))])), (b0, .inl (cD, 70, .inr (.inr (.inr (.inl (N)))))), (b1, .inl (cZ, 70, .inl (I))), (b2, .inl (cI, 60, .inl (T))), (b3, .inl (cI, 6, .inl (R)))]) [0, 1, 2, 3, 4] (by decide) rfl
  have hFc := va_free (wc := [(h, .inr (2, [.ref b0, .ref b1, .ref b2, .ref b3, .int (nI (nn)), .int (nI (0))])), (b0, .inl (cD, 70, .inr (.inr (.inr (.inl (N)))))), (b1, .inl (cZ, 70, .inl (I))), (b2, .inl (cI, 60, .inl (T))), (b3, .inl (cI, 6, .inl (R)))]) hD hS hA [0, 1, 2, 3, 4] rfl
  refine va_calli (va_runV (As := [.int (bv)]) (rest := []) ⟨hx, hb, hml, hown, hts⟩ (c_X2_hasSeat_no l dC dI cD cZ cI cL h b0 b1 b2 b3 N I T R nn (nI 0) H.size (bv) hbad) (cwV 1 hts gX2_best_X2_hasSeat rfl rfl rfl (by decide +kernel) ⟨Nat.le_of_ble_eq_true rfl, Nat.le_of_ble_eq_true rfl⟩) (okMW_pre ⟨hP, hK⟩ hD) rfl rfl hl.1 rfl (lv_room (Nat.le_of_ble_eq_true rfl)) dX2_best_7 ⟨Nat.zero_le _, Nat.zero_le _⟩) hS (fun q _ h => hFc q h) hFc (fun r1 u1 t H1 locs ht hvm hw hB hz1 hk1 hS => ?_)
  obtain ⟨hP1, hK1, hD1⟩ := hB
  rw [ht] at hP1
  have hD := hD1.weaken (fun _ q _ h => hFc q.1 h)
  have hP := hP1
  generalize H1 = H at hP hS ⊢
  have hP : va_P (dC, dI) vwCl [(h, .inr (2, [.ref b0, .ref b1, .ref b2, .ref b3, .int (nI (nn)), .int (nI (1))])), (b0, .inl (cD, 70, .inr (.inr (.inr (.inl (N)))))), (b1, .inl (cZ, 70, .inl (I))), (b2, .inl (cI, 60, .inl (T))), (b3, .inl (cI, 6, .inl (R)))] H := hP
  have hD : va_D A [(h, .inr (2, [.ref b0, .ref b1, .ref b2, .ref b3, .int (nI (nn)), .int (nI (1))])), (b0, .inl (cD, 70, .inr (.inr (.inr (.inl (N)))))), (b1, .inl (cZ, 70, .inl (I))), (b2, .inl (cI, 60, .inl (T))), (b3, .inl (cI, 6, .inl (R)))] := hD
  subst hw
  refine xb_if_ne (tgt := 15) hx hb dX2_best_10 (by decide) (fun q => absurd q (by decide)) (fun _ => ?_)
  refine lv_iconst (v := nI 0) hx hb dX2_best_13 (by decide) ?_
  exact W.iret (v := nI 0) hx hb hr (fun t ht hW => ⟨⟨_, (), rfl, rfl, by rw [ht]; exact hP, va_K.moved hW.alike hK, hD⟩, hS.F ht⟩) hS.2.2 dX2_best_14
set_option maxHeartbeats 4000000 in
set_option maxRecDepth 100000 in
theorem c_X2_best_n2 (l : Launch) (dC : Nat → ClassId) (dI : Nat → Nat → Nat) (cD cZ cI cL : ClassId) (h b0 b1 b2 b3 : Nat) (N : Nat → UInt64) (I T R : Nat → Int32) (nn : Nat) (th : Int32) (sz : Nat) (fb : Bool) (bn : Nat) (hv : Int32) (hbn : bn < 5) (hbad : vB hv 4 = false) : Met l yX2_best wsX2_best ({ frames := 2, cells := 0, slots := 0, locals := 42 }) (va_Pc [.ref h, .int (nI (Bool.toNat (fb))), .int (nI (bn)), .int (hv)] (fun U => U.heap.size = sz ∧ okM dC dI cD cZ cI cL h b0 b1 b2 b3 N I T R nn th U U.heap ∧ va_D (fun _ => True) (wM cD cZ cI cL h b0 b1 b2 b3 N I T R nn th))) (va_Qi (fun (r : Int32) (_ : Unit) => r = nI 0) (fun _ t => atM dC dI cD cZ cI cL (va_A (wM cD cZ cI cL h b0 b1 b2 b3 N I T R nn th) sz) h b0 b1 b2 b3 N I T R nn (nI 2) t) (va_A (wM cD cZ cI cL h b0 b1 b2 b3 N I T R nn th) sz)) 0 0 (va_A (wM cD cZ cI cL h b0 b1 b2 b3 N I T R nn th) sz) := by
  refine Met.ofW (cc := cX2_best) (maxL := 8) (ret := (some .int)) (by decide) rfl ?_
  intro p e s m args below meth c s₁ B hml hv
  obtain ⟨rfl, hsz, hO, hD0⟩ := hv
  obtain ⟨hP, hK⟩ := id hO
  have hx := B.exec
  have hb := B.bytes
  have hr := B.returns
  have hts := atoms_spec (ws := wsX2_best) B.pre
  have hown : s.vm.findClass RX2 = some m.cls := findClass_of_methodNamed B.named
  have hlocks := B.notSynchronized
  subst hsz
  have hD := hD0.self (sz := s.heap.size)
  generalize hAe : va_A (wM cD cZ cI cL h b0 b1 b2 b3 N I T R nn th) s.heap.size = A at hD ⊢
  have hA : ∀ q : Nat, s.heap.size ≤ q → A q := fun q h => by rw [← hAe]; exact Or.inr h
  have hS : va_S A s.heap s.heap [] := va_S.rf
  have hP : va_P (dC, dI) vwCl [(h, .inr (2, [.ref b0, .ref b1, .ref b2, .ref b3, .int (nI (nn)), .int (th)])), (b0, .inl (cD, 70, .inr (.inr (.inr (.inl (N)))))), (b1, .inl (cZ, 70, .inl (I))), (b2, .inl (cI, 60, .inl (T))), (b3, .inl (cI, 6, .inl (R)))] s.heap := hP
  have hD : va_D A [(h, .inr (2, [.ref b0, .ref b1, .ref b2, .ref b3, .int (nI (nn)), .int (th)])), (b0, .inl (cD, 70, .inr (.inr (.inr (.inl (N)))))), (b1, .inl (cZ, 70, .inl (I))), (b2, .inl (cI, 60, .inl (T))), (b3, .inl (cI, 6, .inl (R)))] := hD
  have hin2 : ∀ w ∈ wsX20, w ∈ wsX2_best := (fun w h => List.mem_cons_of_mem _ (List.mem_append_right _ h))
  have fl24 := hts (.fieldLink RX2 24 "JuryTableModel" "thrown" "I") (by decide +kernel)
  have hl := lv_entry ([.ref h, .int (nI (Bool.toNat (fb))), .int (nI (bn)), .int (hv)]) (n := 8) (Nat.le_of_ble_eq_true rfl)
  rw [lg_entry_eq]
  generalize (lg_sl ([.ref h, .int (nI (Bool.toNat (fb))), .int (nI (bn)), .int (hv)]) ++ List.replicate (8 - (lg_sl ([.ref h, .int (nI (Bool.toNat (fb))), .int (nI (bn)), .int (hv)])).length) Slot.unset).toArray = ls at hl ⊢
  have hl : lv_has ls 8 [(0, .ref h), (1, .int (nI (Bool.toNat (fb)))), (2, .int (nI (bn))), (3, .int (hv))] := hl
  refine lv_aload_n hx hb dX2_best_0 rfl (lv_at hl 0 rfl) ?_
  refine lv_iconst (v := nI 0) hx hb dX2_best_1 (by decide) ?_
  refine va_put (D := (dC, dI)) (ci := 2) (v := .int (nI (0))) (ty := .int) (C := RX2) (T := TX2) (N := 6) hx hb hts hin2 tyX2 tyX2_ok nmX2 hown hK hP hD hS 0 rfl rfl 5 (by decide) fl24 (fun _ h9 => h9) rfl (by decide +kernel) rfl rfl (Nat.le_of_ble_eq_true rfl) dX2_best_2 (fun H locs hP hD hS => ?_)
  have hP : va_P (dC, dI) vwCl [(h, .inr (2, [.ref b0, .ref b1, .ref b2, .ref b3, .int (nI (nn)), .int (nI (0))])), (b0, .inl (cD, 70, .inr (.inr (.inr (.inl (N)))))), (b1, .inl (cZ, 70, .inl (I))), (b2, .inl (cI, 60, .inl (T))), (b3, .inl (cI, 6, .inl (R)))] H := hP
  have hD : va_D A [(h, .inr (2, [.ref b0, .ref b1, .ref b2, .ref b3, .int (nI (nn)), .int (nI (0))])), (b0, .inl (cD, 70, .inr (.inr (.inr (.inl (N)))))), (b1, .inl (cZ, 70, .inl (I))), (b2, .inl (cI, 60, .inl (T))), (b3, .inl (cI, 6, .inl (R)))] := hD
  refine lv_aload_n hx hb dX2_best_5 rfl (lv_at hl 0 rfl) ?_
  refine lv_iload_n hx hb dX2_best_6 rfl (lv_at hl 2 rfl) ?_
  refine vp_callSi (va_Run.run (va_runV (As := [.int (nI (bn))]) (rest := []) ⟨hx, hb, hml, hown, hts⟩ (c_X2_hasSeat_ok l dC dI cD cZ cI cL h b0 b1 b2 b3 N I T R nn (nI 0) (bn) (by omega)) (cwV 1 hts gX2_best_X2_hasSeat rfl rfl rfl (by decide +kernel) ⟨Nat.le_of_ble_eq_true rfl, Nat.le_of_ble_eq_true rfl⟩) (okM_pre ⟨hP, hK⟩) rfl rfl hl.1 rfl (lv_room (Nat.le_of_ble_eq_true rfl)) dX2_best_7 ⟨Nat.zero_le _, Nat.zero_le _⟩)) (fun r1 er1 => ?_)
  subst er1
  refine xb_if_ne (tgt := 15) hx hb dX2_best_10 (by decide) (fun _ => ?_) (fun q => absurd q (by decide))
  refine lv_iload_n hx hb dX2_best_15 rfl (lv_at hl 3 rfl) ?_
  refine lv_iconst (v := nI 4) hx hb dX2_best_16 (by decide) ?_
  refine vp_callSi (va_Run.run (va_runS (As := [.int (hv), .int (nI (4))]) (rest := []) ⟨hx, hb, hml, hown, hts⟩ (c_X2_in l (hv) (4)) (va_cwS 2 hts gX2_best_X2_in rfl rfl rfl (by decide +kernel) ⟨Nat.le_of_ble_eq_true rfl, Nat.le_of_ble_eq_true rfl⟩) preT rfl rfl hl.1 rfl (lv_room (Nat.le_of_ble_eq_true rfl)) dX2_best_17 ⟨Nat.zero_le _, Nat.zero_le _⟩)) (fun r2 er2 => ?_)
  subst er2
  rw [hbad]
  refine xb_if_ne (tgt := 28) hx hb dX2_best_20 (by decide) (fun q => absurd q (by decide)) (fun _ => ?_)
  refine lv_aload_n hx hb dX2_best_23 rfl (lv_at hl 0 rfl) ?_
  refine lv_iconst (v := nI 2) hx hb dX2_best_24 (by decide) ?_
  refine va_put (D := (dC, dI)) (ci := 2) (v := .int (nI (2))) (ty := .int) (C := RX2) (T := TX2) (N := 6) hx hb hts hin2 tyX2 tyX2_ok nmX2 hown hK hP hD hS 0 rfl rfl 5 (by decide) fl24 (fun _ h9 => h9) rfl (by decide +kernel) rfl rfl (Nat.le_of_ble_eq_true rfl) dX2_best_25 (fun H locs hP hD hS => ?_)
  have hP : va_P (dC, dI) vwCl [(h, .inr (2, [.ref b0, .ref b1, .ref b2, .ref b3, .int (nI (nn)), .int (nI (2))])), (b0, .inl (cD, 70, .inr (.inr (.inr (.inl (N)))))), (b1, .inl (cZ, 70, .inl (I))), (b2, .inl (cI, 60, .inl (T))), (b3, .inl (cI, 6, .inl (R)))] H := hP
  have hD : va_D A [(h, .inr (2, [.ref b0, .ref b1, .ref b2, .ref b3, .int (nI (nn)), .int (nI (2))])), (b0, .inl (cD, 70, .inr (.inr (.inr (.inl (N)))))), (b1, .inl (cZ, 70, .inl (I))), (b2, .inl (cI, 60, .inl (T))), (b3, .inl (cI, 6, .inl (R)))] := hD
  refine lv_aload_n hx hb dX2_best_28 rfl (lv_at hl 0 rfl) ?_
  refine va_get (D := (dC, dI)) (ci := 2) (v := .int (nI (2))) (C := RX2) (T := TX2) (N := 6) hx hb hts hin2 hown hK hP 0 rfl rfl 5 (by decide) fl24 (fun _ h9 => h9) rfl dX2_best_29 ?_
  refine lv_if_le (tgt := 37) hx hb dX2_best_32 (by decide) (fun q => absurd q (by decide)) (fun _ => ?_)
  refine lv_iconst (v := nI 0) hx hb dX2_best_35 (by decide) ?_
  exact W.iret (v := nI 0) hx hb hr (fun t ht hW => ⟨⟨_, (), rfl, rfl, by rw [ht]; exact hP, va_K.moved hW.alike hK, hD⟩, hS.F ht⟩) hS.2.2 dX2_best_36
set_option maxHeartbeats 4000000 in
set_option maxRecDepth 100000 in
theorem c_X2_against_ok (l : Launch) (dC : Nat → ClassId) (dI : Nat → Nat → Nat) (cD cZ cI cL : ClassId) (h b0 b1 b2 b3 : Nat) (N : Nat → UInt64) (I T R : Nat → Int32) (nn : Nat) (th : Int32) (sz : Nat) (hnn : nn ≤ 6) (fb : Bool) (ea eb wh : Nat) (hea : ea < nn) (heb : eb < nn) (hwh : wh < 5) (hq : ∀ x y, FP.dcmp (N x) (N y) ≠ none) : Met l yX2_against wsX2_against ({ frames := 2, cells := 0, slots := 0, locals := 42 }) (va_Pc [.ref h, .int (nI (Bool.toNat (fb))), .int (nI (ea)), .int (nI (eb)), .int (nI (wh))] (fun U => U.heap.size = sz ∧ okM dC dI cD cZ cI cL h b0 b1 b2 b3 N I T R nn th U U.heap ∧ va_D (fun _ => True) (wM cD cZ cI cL h b0 b1 b2 b3 N I T R nn th))) (va_Qi (fun (r : Int32) (_ : Unit) => r = nI (cnt (fun i => ag (rl I N (mc fb ea i) (mc fb eb i)) wh) 5)) (fun _ t => atM dC dI cD cZ cI cL (va_A (wM cD cZ cI cL h b0 b1 b2 b3 N I T R nn th) sz) h b0 b1 b2 b3 N I T R nn (nI 0) t) (va_A (wM cD cZ cI cL h b0 b1 b2 b3 N I T R nn th) sz)) 0 0 (va_A (wM cD cZ cI cL h b0 b1 b2 b3 N I T R nn th) sz) := by
  refine Met.ofW (cc := cX2_against) (maxL := 9) (ret := (some .int)) (by decide) rfl ?_
  intro p e s m args below meth c s₁ B hml hv
  obtain ⟨rfl, hsz, hO, hD0⟩ := hv
  obtain ⟨hP, hK⟩ := id hO
  have hx := B.exec
  have hb := B.bytes
  have hr := B.returns
  have hts := atoms_spec (ws := wsX2_against) B.pre
  have hown : s.vm.findClass RX2 = some m.cls := findClass_of_methodNamed B.named
  have hlocks := B.notSynchronized
  subst hsz
  have hD := hD0.self (sz := s.heap.size)
  generalize hAe : va_A (wM cD cZ cI cL h b0 b1 b2 b3 N I T R nn th) s.heap.size = A at hD ⊢
  have hA : ∀ q : Nat, s.heap.size ≤ q → A q := fun q h => by rw [← hAe]; exact Or.inr h
  have hS : va_S A s.heap s.heap [] := va_S.rf
  have hP : va_P (dC, dI) vwCl [(h, .inr (2, [.ref b0, .ref b1, .ref b2, .ref b3, .int (nI (nn)), .int (th)])), (b0, .inl (cD, 70, .inr (.inr (.inr (.inl (N)))))), (b1, .inl (cZ, 70, .inl (I))), (b2, .inl (cI, 60, .inl (T))), (b3, .inl (cI, 6, .inl (R)))] s.heap := hP
  have hD : va_D A [(h, .inr (2, [.ref b0, .ref b1, .ref b2, .ref b3, .int (nI (nn)), .int (th)])), (b0, .inl (cD, 70, .inr (.inr (.inr (.inl (N)))))), (b1, .inl (cZ, 70, .inl (I))), (b2, .inl (cI, 60, .inl (T))), (b3, .inl (cI, 6, .inl (R)))] := hD
  have hin2 : ∀ w ∈ wsX20, w ∈ wsX2_against := (fun w h => List.mem_cons_of_mem _ (List.mem_append_right _ h))
  have fl24 := hts (.fieldLink RX2 24 "JuryTableModel" "thrown" "I") (by decide +kernel)
  have hl := lv_entry ([.ref h, .int (nI (Bool.toNat (fb))), .int (nI (ea)), .int (nI (eb)), .int (nI (wh))]) (n := 9) (Nat.le_of_ble_eq_true rfl)
  rw [lg_entry_eq]
  generalize (lg_sl ([.ref h, .int (nI (Bool.toNat (fb))), .int (nI (ea)), .int (nI (eb)), .int (nI (wh))]) ++ List.replicate (9 - (lg_sl ([.ref h, .int (nI (Bool.toNat (fb))), .int (nI (ea)), .int (nI (eb)), .int (nI (wh))])).length) Slot.unset).toArray = ls at hl ⊢
  have hl : lv_has ls 9 [(0, .ref h), (1, .int (nI (Bool.toNat (fb)))), (2, .int (nI (ea))), (3, .int (nI (eb))), (4, .int (nI (wh)))] := hl
  refine lv_aload_n hx hb dX2_against_0 rfl (lv_at hl 0 rfl) ?_
  refine lv_iconst (v := nI 0) hx hb dX2_against_1 (by decide) ?_
  refine va_put (D := (dC, dI)) (ci := 2) (v := .int (nI (0))) (ty := .int) (C := RX2) (T := TX2) (N := 6) hx hb hts hin2 tyX2 tyX2_ok nmX2 hown hK hP hD hS 0 rfl rfl 5 (by decide) fl24 (fun _ h9 => h9) rfl (by decide +kernel) rfl rfl (Nat.le_of_ble_eq_true rfl) dX2_against_2 (fun H locs hP hD hS => ?_)
  have hP : va_P (dC, dI) vwCl [(h, .inr (2, [.ref b0, .ref b1, .ref b2, .ref b3, .int (nI (nn)), .int (nI (0))])), (b0, .inl (cD, 70, .inr (.inr (.inr (.inl (N)))))), (b1, .inl (cZ, 70, .inl (I))), (b2, .inl (cI, 60, .inl (T))), (b3, .inl (cI, 6, .inl (R)))] H := hP
  have hD : va_D A [(h, .inr (2, [.ref b0, .ref b1, .ref b2, .ref b3, .int (nI (nn)), .int (nI (0))])), (b0, .inl (cD, 70, .inr (.inr (.inr (.inl (N)))))), (b1, .inl (cZ, 70, .inl (I))), (b2, .inl (cI, 60, .inl (T))), (b3, .inl (cI, 6, .inl (R)))] := hD
  refine lv_aload_n hx hb dX2_against_5 rfl (lv_at hl 0 rfl) ?_
  refine lv_iload_n hx hb dX2_against_6 rfl (lv_at hl 2 rfl) ?_
  refine vp_callSi (va_Run.run (va_runV (As := [.int (nI (ea))]) (rest := []) ⟨hx, hb, hml, hown, hts⟩ (c_X2_hasEntry_ok l dC dI cD cZ cI cL h b0 b1 b2 b3 N I T R nn (nI 0) (ea) (by omega) (by omega)) (cwV 1 hts gX2_against_X2_hasEntry rfl rfl rfl (by decide +kernel) ⟨Nat.le_of_ble_eq_true rfl, Nat.le_of_ble_eq_true rfl⟩) (okM_pre ⟨hP, hK⟩) rfl rfl hl.1 rfl (lv_room (Nat.le_of_ble_eq_true rfl)) dX2_against_7 ⟨Nat.zero_le _, Nat.zero_le _⟩)) (fun r1 er1 => ?_)
  subst er1
  refine xb_if_eq (tgt := 21) hx hb dX2_against_10 (by decide) (fun q => absurd q (by decide)) (fun _ => ?_)
  refine lv_aload_n hx hb dX2_against_13 rfl (lv_at hl 0 rfl) ?_
  refine lv_iload_n hx hb dX2_against_14 rfl (lv_at hl 3 rfl) ?_
  refine vp_callSi (va_Run.run (va_runV (As := [.int (nI (eb))]) (rest := []) ⟨hx, hb, hml, hown, hts⟩ (c_X2_hasEntry_ok l dC dI cD cZ cI cL h b0 b1 b2 b3 N I T R nn (nI 0) (eb) (by omega) (by omega)) (cwV 1 hts gX2_against_X2_hasEntry rfl rfl rfl (by decide +kernel) ⟨Nat.le_of_ble_eq_true rfl, Nat.le_of_ble_eq_true rfl⟩) (okM_pre ⟨hP, hK⟩) rfl rfl hl.1 rfl (lv_room (Nat.le_of_ble_eq_true rfl)) dX2_against_15 ⟨Nat.zero_le _, Nat.zero_le _⟩)) (fun r2 er2 => ?_)
  subst er2
  refine xb_if_ne (tgt := 23) hx hb dX2_against_18 (by decide) (fun _ => ?_) (fun q => absurd q (by decide))
  refine lv_iload hx hb dX2_against_23 (lv_at hl 4 rfl) ?_
  refine lv_iconst (v := nI 5) hx hb dX2_against_25 (by decide) ?_
  refine vp_callSi (va_Run.run (va_runS (As := [.int (nI (wh)), .int (nI (5))]) (rest := []) ⟨hx, hb, hml, hown, hts⟩ (c_X2_in l (nI wh) (5)) (va_cwS 2 hts gX2_against_X2_in rfl rfl rfl (by decide +kernel) ⟨Nat.le_of_ble_eq_true rfl, Nat.le_of_ble_eq_true rfl⟩) preT rfl rfl hl.1 rfl (lv_room (Nat.le_of_ble_eq_true rfl)) dX2_against_26 ⟨Nat.zero_le _, Nat.zero_le _⟩)) (fun r3 er3 => ?_)
  subst er3
  rw [vB_nI (show wh < 5 by omega) (by omega)]
  refine xb_if_ne (tgt := 37) hx hb dX2_against_29 (by decide) (fun _ => ?_) (fun q => absurd q (by decide))
  refine lv_iconst (v := nI 0) hx hb dX2_against_37 (by decide) ?_
  refine lv_istore (lv' := [(5, .int (nI (0))), (0, .ref h), (1, .int (nI (Bool.toNat (fb)))), (2, .int (nI (ea))), (3, .int (nI (eb))), (4, .int (nI (wh)))]) hx hb dX2_against_38 hl (by decide) rfl (fun ls hl => ?_)
  refine lv_iconst (v := nI 0) hx hb dX2_against_40 (by decide) ?_
  refine lv_istore (lv' := [(6, .int (nI (0))), (5, .int (nI (0))), (0, .ref h), (1, .int (nI (Bool.toNat (fb)))), (2, .int (nI (ea))), (3, .int (nI (eb))), (4, .int (nI (wh)))]) hx hb dX2_against_41 hl (by decide) rfl (fun ls hl => ?_)
  refine W_loop (α := Nat) (P := fun n i ls => i + n = 6 ∧ i < 6 ∧ lv_has ls 9 [(5, .int (nI (cnt (fun i => ag (rl I N (mc fb ea i) (mc fb eb i)) wh) i))), (6, .int (nI (i))), (0, .ref h), (1, .int (nI (Bool.toNat (fb)))), (2, .int (nI (ea))), (3, .int (nI (eb))), (4, .int (nI (wh)))]) (st := fun _ => []) 43 (fun i ls h => by have := h.1; have := h.2.1; omega) (fun n ih i ls h => ?_) (6) (0) ls ⟨by omega, by omega, lv_sub hl [1, 0, 2, 3, 4, 5, 6] rfl⟩
  obtain ⟨hin, hi6, hl⟩ := h
  have := cnt_le (fun i => ag (rl I N (mc fb ea i) (mc fb eb i)) wh) i
  refine lv_iload hx hb dX2_against_43 (lv_at hl 1 rfl) ?_
  refine lv_iconst (v := nI 5) hx hb dX2_against_45 (by decide) ?_
  refine xn_icmp_ge (tgt := 194) hx hb (by omega) (by decide) dX2_against_46 (by decide) (fun c46 => ?_) (fun c46 => ?_)
  · refine lv_iload hx hb dX2_against_194 (lv_at hl 0 rfl) ?_
    exact W.iret (v := nI (cnt (fun i => ag (rl I N (mc fb ea i) (mc fb eb i)) wh) i)) hx hb hr (fun t ht hW => ⟨⟨_, (), rfl, (by rw [show i = 5 by omega]), by rw [ht]; exact hP, va_K.moved hW.alike hK, hD⟩, hS.F ht⟩) hS.2.2 dX2_against_196
  · refine lv_aload_n hx hb dX2_against_49 rfl (lv_at hl 2 rfl) ?_
    refine va_get (D := (dC, dI)) (ci := 2) (v := .int (nI (0))) (C := RX2) (T := TX2) (N := 6) hx hb hts hin2 hown hK hP 0 rfl rfl 5 (by decide) fl24 (fun _ h9 => h9) rfl dX2_against_50 ?_
    refine lv_if_ne (tgt := 194) hx hb dX2_against_53 (by decide) (fun q => absurd (by decide) q) (fun _ => ?_)
    refine lv_aload_n hx hb dX2_against_56 rfl (lv_at hl 2 rfl) ?_
    refine lv_iload_n hx hb dX2_against_57 rfl (lv_at hl 3 rfl) ?_
    refine lv_iload_n hx hb dX2_against_58 rfl (lv_at hl 4 rfl) ?_
    refine lv_iload hx hb dX2_against_59 (lv_at hl 1 rfl) ?_
    refine vp_callSi (va_Run.run (va_runS (As := [.int (nI (Bool.toNat (fb))), .int (nI (ea)), .int (nI (i))]) (rest := [.ref h]) ⟨hx, hb, hml, hown, hts⟩ (c_X2_cell l (fb) (ea) (i)) (va_cwS 3 hts gX2_against_X2_cell rfl rfl rfl (by decide +kernel) ⟨Nat.le_of_ble_eq_true rfl, Nat.le_of_ble_eq_true rfl⟩) preT rfl rfl hl.1 rfl (lv_room (Nat.le_of_ble_eq_true rfl)) dX2_against_61 ⟨Nat.zero_le _, Nat.zero_le _⟩)) (fun r4 er4 => ?_)
    subst er4
    have := mc_lt (f := fb) (e := ea) (b := i) (by omega) (by omega)
    refine lv_iload_n hx hb dX2_against_64 rfl (lv_at hl 3 rfl) ?_
    refine lv_iload_n hx hb dX2_against_65 rfl (lv_at hl 5 rfl) ?_
    refine lv_iload hx hb dX2_against_66 (lv_at hl 1 rfl) ?_
    refine vp_callSi (va_Run.run (va_runS (As := [.int (nI (Bool.toNat (fb))), .int (nI (eb)), .int (nI (i))]) (rest := [.int (nI (mc fb ea i)), .ref h]) ⟨hx, hb, hml, hown, hts⟩ (c_X2_cell l (fb) (eb) (i)) (va_cwS 3 hts gX2_against_X2_cell rfl rfl rfl (by decide +kernel) ⟨Nat.le_of_ble_eq_true rfl, Nat.le_of_ble_eq_true rfl⟩) preT rfl rfl hl.1 rfl (lv_room (Nat.le_of_ble_eq_true rfl)) dX2_against_68 ⟨Nat.zero_le _, Nat.zero_le _⟩)) (fun r5 er5 => ?_)
    subst er5
    have := mc_lt (f := fb) (e := eb) (b := i) (by omega) (by omega)
    refine vp_callSi (va_Run.run (va_runV (As := [.int (nI (mc fb ea i)), .int (nI (mc fb eb i))]) (rest := []) ⟨hx, hb, hml, hown, hts⟩ (c_X2_compare l dC dI cD cZ cI cL h b0 b1 b2 b3 N I T R nn (nI 0) (mc fb ea i) (mc fb eb i) (by omega) (by omega) hq) (cwV 2 hts gX2_against_X2_compare rfl rfl rfl (by decide +kernel) ⟨Nat.le_of_ble_eq_true rfl, Nat.le_of_ble_eq_true rfl⟩) (okM_pre ⟨hP, hK⟩) rfl rfl hl.1 rfl (lv_room (Nat.le_of_ble_eq_true rfl)) dX2_against_71 ⟨Nat.zero_le _, Nat.zero_le _⟩)) (fun r6 er6 => ?_)
    subst er6
    have := rl_le I N (mc fb ea i) (mc fb eb i)
    refine lv_istore (lv' := [(7, .int (nI (rl I N (mc fb ea i) (mc fb eb i)))), (5, .int (nI (cnt (fun i => ag (rl I N (mc fb ea i) (mc fb eb i)) wh) i))), (6, .int (nI (i))), (0, .ref h), (1, .int (nI (Bool.toNat (fb)))), (2, .int (nI (ea))), (3, .int (nI (eb))), (4, .int (nI (wh)))]) hx hb dX2_against_74 hl (by decide) rfl (fun ls hl => ?_)
    refine lv_iload hx hb dX2_against_76 (lv_at hl 7 rfl) ?_
    refine xn_if_ne (tgt := 95) hx hb (by omega) dX2_against_78 (by decide) (fun c78 => ?_) (fun c78 => ?_)
    · refine lv_iload hx hb dX2_against_95 (lv_at hl 7 rfl) ?_
      refine lv_iconst (v := nI 1) hx hb dX2_against_97 (by decide) ?_
      refine xn_icmp_ne (tgt := 114) hx hb (by omega) (by decide) dX2_against_98 (by decide) (fun c98 => ?_) (fun c98 => ?_)
      · refine lv_iload hx hb dX2_against_114 (lv_at hl 7 rfl) ?_
        refine lv_iconst (v := nI 2) hx hb dX2_against_116 (by decide) ?_
        refine xn_icmp_ne (tgt := 134) hx hb (by omega) (by decide) dX2_against_117 (by decide) (fun c117 => ?_) (fun c117 => ?_)
        · refine lv_iload hx hb dX2_against_134 (lv_at hl 7 rfl) ?_
          refine lv_iconst (v := nI 3) hx hb dX2_against_136 (by decide) ?_
          refine xn_icmp_ne (tgt := 154) hx hb (by omega) (by decide) dX2_against_137 (by decide) (fun c137 => ?_) (fun c137 => ?_)
          · refine lv_iload hx hb dX2_against_154 (lv_at hl 0 rfl) ?_
            refine lv_iconst (v := nI 1) hx hb dX2_against_156 (by decide) ?_
            refine xn_icmp_eq (tgt := 166) hx hb (by omega) (by decide) dX2_against_157 (by decide) (fun c157 => ?_) (fun c157 => ?_)
            · refine lv_iconst (v := nI 1) hx hb dX2_against_166 (by decide) ?_
              refine lv_goto (tgt := 171) hx hb dX2_against_167 (by decide) ?_
              refine lv_istore (lv' := [(8, .int (nI (1))), (7, .int (nI (rl I N (mc fb ea i) (mc fb eb i)))), (5, .int (nI (cnt (fun i => ag (rl I N (mc fb ea i) (mc fb eb i)) wh) i))), (6, .int (nI (i))), (0, .ref h), (1, .int (nI (Bool.toNat (fb)))), (2, .int (nI (ea))), (3, .int (nI (eb))), (4, .int (nI (wh)))]) hx hb dX2_against_171 hl (by decide) rfl (fun ls hl => ?_)
              refine lv_iload hx hb dX2_against_173 (lv_at hl 2 rfl) ?_
              refine lv_iload hx hb dX2_against_175 (lv_at hl 0 rfl) ?_
              refine lv_if_eq (tgt := 184) hx hb dX2_against_177 (by decide) (fun q => absurd q (by decide)) (fun _ => ?_)
              refine lv_iconst (v := nI 1) hx hb dX2_against_180 (by decide) ?_
              refine lv_goto (tgt := 185) hx hb dX2_against_181 (by decide) ?_
              refine xn_iadd hx hb dX2_against_185 ?_
              refine lv_istore (lv' := [(5, .int (nI ((cnt (fun i => ag (rl I N (mc fb ea i) (mc fb eb i)) wh) i) + 1))), (8, .int (nI (1))), (7, .int (nI (rl I N (mc fb ea i) (mc fb eb i)))), (6, .int (nI (i))), (0, .ref h), (1, .int (nI (Bool.toNat (fb)))), (2, .int (nI (ea))), (3, .int (nI (eb))), (4, .int (nI (wh)))]) hx hb dX2_against_186 hl (by decide) rfl (fun ls hl => ?_)
              refine xn_iinc (lv2 := [(6, .int (nI (i + 1))), (5, .int (nI ((cnt (fun i => ag (rl I N (mc fb ea i) (mc fb eb i)) wh) i) + 1))), (8, .int (nI (1))), (7, .int (nI (rl I N (mc fb ea i) (mc fb eb i)))), (0, .ref h), (1, .int (nI (Bool.toNat (fb)))), (2, .int (nI (ea))), (3, .int (nI (eb))), (4, .int (nI (wh)))]) hx hb dX2_against_188 hl (k0 := 3) rfl (by decide) rfl (fun ls hl => ?_)
              refine lv_goto (tgt := 43) hx hb dX2_against_191 (by decide) ?_
              exact ih (i + 1) ls ⟨by omega, by omega, by rw [cnt_b (f := (fun i => ag (rl I N (mc fb ea i) (mc fb eb i)) wh)) (b := true) (by simp [ag, c78, c98, c117, c137, c157])]; exact lv_sub hl [1, 0, 4, 5, 6, 7, 8] rfl⟩
            · refine lv_iload hx hb dX2_against_160 (lv_at hl 0 rfl) ?_
              refine lv_iconst (v := nI 3) hx hb dX2_against_162 (by decide) ?_
              refine jn_icmp_ne hx hb (by omega) (by decide) dX2_against_163 dX2_against_166 dX2_against_167 dX2_against_170 ?_
              refine lv_istore (lv' := [(8, .int (nI (Bool.toNat (decide ((rl I N (mc fb ea i) (mc fb eb i)) = 3))))), (7, .int (nI (rl I N (mc fb ea i) (mc fb eb i)))), (5, .int (nI (cnt (fun i => ag (rl I N (mc fb ea i) (mc fb eb i)) wh) i))), (6, .int (nI (i))), (0, .ref h), (1, .int (nI (Bool.toNat (fb)))), (2, .int (nI (ea))), (3, .int (nI (eb))), (4, .int (nI (wh)))]) hx hb dX2_against_171 hl (by decide) rfl (fun ls hl => ?_)
              refine lv_iload hx hb dX2_against_173 (lv_at hl 2 rfl) ?_
              refine lv_iload hx hb dX2_against_175 (lv_at hl 0 rfl) ?_
              refine jb_if_eq hx hb dX2_against_177 dX2_against_180 dX2_against_181 dX2_against_184 ?_
              refine xn_iadd hx hb dX2_against_185 ?_
              refine lv_istore (lv' := [(5, .int (nI ((cnt (fun i => ag (rl I N (mc fb ea i) (mc fb eb i)) wh) i) + (Bool.toNat (decide ((rl I N (mc fb ea i) (mc fb eb i)) = 3)))))), (8, .int (nI (Bool.toNat (decide ((rl I N (mc fb ea i) (mc fb eb i)) = 3))))), (7, .int (nI (rl I N (mc fb ea i) (mc fb eb i)))), (6, .int (nI (i))), (0, .ref h), (1, .int (nI (Bool.toNat (fb)))), (2, .int (nI (ea))), (3, .int (nI (eb))), (4, .int (nI (wh)))]) hx hb dX2_against_186 hl (by decide) rfl (fun ls hl => ?_)
              refine xn_iinc (lv2 := [(6, .int (nI (i + 1))), (5, .int (nI ((cnt (fun i => ag (rl I N (mc fb ea i) (mc fb eb i)) wh) i) + (Bool.toNat (decide ((rl I N (mc fb ea i) (mc fb eb i)) = 3)))))), (8, .int (nI (Bool.toNat (decide ((rl I N (mc fb ea i) (mc fb eb i)) = 3))))), (7, .int (nI (rl I N (mc fb ea i) (mc fb eb i)))), (0, .ref h), (1, .int (nI (Bool.toNat (fb)))), (2, .int (nI (ea))), (3, .int (nI (eb))), (4, .int (nI (wh)))]) hx hb dX2_against_188 hl (k0 := 3) rfl (by decide) rfl (fun ls hl => ?_)
              refine lv_goto (tgt := 43) hx hb dX2_against_191 (by decide) ?_
              exact ih (i + 1) ls ⟨by omega, by omega, by rw [cnt_b (f := (fun i => ag (rl I N (mc fb ea i) (mc fb eb i)) wh)) (b := (decide ((rl I N (mc fb ea i) (mc fb eb i)) = 3))) (by simp [ag, c78, c98, c117, c137, c157])]; exact lv_sub hl [1, 0, 4, 5, 6, 7, 8] rfl⟩
          · refine lv_iload hx hb dX2_against_140 (lv_at hl 0 rfl) ?_
            refine lv_iconst (v := nI 3) hx hb dX2_against_142 (by decide) ?_
            refine xn_icmp_ne (tgt := 150) hx hb (by omega) (by decide) dX2_against_143 (by decide) (fun c143 => ?_) (fun c143 => ?_)
            · refine lv_iconst (v := nI 0) hx hb dX2_against_150 (by decide) ?_
              refine lv_goto (tgt := 171) hx hb dX2_against_151 (by decide) ?_
              refine lv_istore (lv' := [(8, .int (nI (0))), (7, .int (nI (rl I N (mc fb ea i) (mc fb eb i)))), (5, .int (nI (cnt (fun i => ag (rl I N (mc fb ea i) (mc fb eb i)) wh) i))), (6, .int (nI (i))), (0, .ref h), (1, .int (nI (Bool.toNat (fb)))), (2, .int (nI (ea))), (3, .int (nI (eb))), (4, .int (nI (wh)))]) hx hb dX2_against_171 hl (by decide) rfl (fun ls hl => ?_)
              refine lv_iload hx hb dX2_against_173 (lv_at hl 2 rfl) ?_
              refine lv_iload hx hb dX2_against_175 (lv_at hl 0 rfl) ?_
              refine lv_if_eq (tgt := 184) hx hb dX2_against_177 (by decide) (fun _ => ?_) (fun q => absurd (by decide) q)
              refine lv_iconst (v := nI 0) hx hb dX2_against_184 (by decide) ?_
              refine xn_iadd hx hb dX2_against_185 ?_
              refine lv_istore (lv' := [(5, .int (nI ((cnt (fun i => ag (rl I N (mc fb ea i) (mc fb eb i)) wh) i) + 0))), (8, .int (nI (0))), (7, .int (nI (rl I N (mc fb ea i) (mc fb eb i)))), (6, .int (nI (i))), (0, .ref h), (1, .int (nI (Bool.toNat (fb)))), (2, .int (nI (ea))), (3, .int (nI (eb))), (4, .int (nI (wh)))]) hx hb dX2_against_186 hl (by decide) rfl (fun ls hl => ?_)
              refine xn_iinc (lv2 := [(6, .int (nI (i + 1))), (5, .int (nI ((cnt (fun i => ag (rl I N (mc fb ea i) (mc fb eb i)) wh) i) + 0))), (8, .int (nI (0))), (7, .int (nI (rl I N (mc fb ea i) (mc fb eb i)))), (0, .ref h), (1, .int (nI (Bool.toNat (fb)))), (2, .int (nI (ea))), (3, .int (nI (eb))), (4, .int (nI (wh)))]) hx hb dX2_against_188 hl (k0 := 3) rfl (by decide) rfl (fun ls hl => ?_)
              refine lv_goto (tgt := 43) hx hb dX2_against_191 (by decide) ?_
              exact ih (i + 1) ls ⟨by omega, by omega, by rw [cnt_b (f := (fun i => ag (rl I N (mc fb ea i) (mc fb eb i)) wh)) (b := false) (by simp [ag, c78, c98, c117, c137, c143])]; exact lv_sub hl [1, 0, 4, 5, 6, 7, 8] rfl⟩
            · refine lv_iconst (v := nI 1) hx hb dX2_against_146 (by decide) ?_
              refine lv_goto (tgt := 171) hx hb dX2_against_147 (by decide) ?_
              refine lv_istore (lv' := [(8, .int (nI (1))), (7, .int (nI (rl I N (mc fb ea i) (mc fb eb i)))), (5, .int (nI (cnt (fun i => ag (rl I N (mc fb ea i) (mc fb eb i)) wh) i))), (6, .int (nI (i))), (0, .ref h), (1, .int (nI (Bool.toNat (fb)))), (2, .int (nI (ea))), (3, .int (nI (eb))), (4, .int (nI (wh)))]) hx hb dX2_against_171 hl (by decide) rfl (fun ls hl => ?_)
              refine lv_iload hx hb dX2_against_173 (lv_at hl 2 rfl) ?_
              refine lv_iload hx hb dX2_against_175 (lv_at hl 0 rfl) ?_
              refine lv_if_eq (tgt := 184) hx hb dX2_against_177 (by decide) (fun q => absurd q (by decide)) (fun _ => ?_)
              refine lv_iconst (v := nI 1) hx hb dX2_against_180 (by decide) ?_
              refine lv_goto (tgt := 185) hx hb dX2_against_181 (by decide) ?_
              refine xn_iadd hx hb dX2_against_185 ?_
              refine lv_istore (lv' := [(5, .int (nI ((cnt (fun i => ag (rl I N (mc fb ea i) (mc fb eb i)) wh) i) + 1))), (8, .int (nI (1))), (7, .int (nI (rl I N (mc fb ea i) (mc fb eb i)))), (6, .int (nI (i))), (0, .ref h), (1, .int (nI (Bool.toNat (fb)))), (2, .int (nI (ea))), (3, .int (nI (eb))), (4, .int (nI (wh)))]) hx hb dX2_against_186 hl (by decide) rfl (fun ls hl => ?_)
              refine xn_iinc (lv2 := [(6, .int (nI (i + 1))), (5, .int (nI ((cnt (fun i => ag (rl I N (mc fb ea i) (mc fb eb i)) wh) i) + 1))), (8, .int (nI (1))), (7, .int (nI (rl I N (mc fb ea i) (mc fb eb i)))), (0, .ref h), (1, .int (nI (Bool.toNat (fb)))), (2, .int (nI (ea))), (3, .int (nI (eb))), (4, .int (nI (wh)))]) hx hb dX2_against_188 hl (k0 := 3) rfl (by decide) rfl (fun ls hl => ?_)
              refine lv_goto (tgt := 43) hx hb dX2_against_191 (by decide) ?_
              exact ih (i + 1) ls ⟨by omega, by omega, by rw [cnt_b (f := (fun i => ag (rl I N (mc fb ea i) (mc fb eb i)) wh)) (b := true) (by simp [ag, c78, c98, c117, c137, c143])]; exact lv_sub hl [1, 0, 4, 5, 6, 7, 8] rfl⟩
        · refine lv_iload hx hb dX2_against_120 (lv_at hl 0 rfl) ?_
          refine lv_iconst (v := nI 1) hx hb dX2_against_122 (by decide) ?_
          refine xn_icmp_ne (tgt := 130) hx hb (by omega) (by decide) dX2_against_123 (by decide) (fun c123 => ?_) (fun c123 => ?_)
          · refine lv_iconst (v := nI 0) hx hb dX2_against_130 (by decide) ?_
            refine lv_goto (tgt := 171) hx hb dX2_against_131 (by decide) ?_
            refine lv_istore (lv' := [(8, .int (nI (0))), (7, .int (nI (rl I N (mc fb ea i) (mc fb eb i)))), (5, .int (nI (cnt (fun i => ag (rl I N (mc fb ea i) (mc fb eb i)) wh) i))), (6, .int (nI (i))), (0, .ref h), (1, .int (nI (Bool.toNat (fb)))), (2, .int (nI (ea))), (3, .int (nI (eb))), (4, .int (nI (wh)))]) hx hb dX2_against_171 hl (by decide) rfl (fun ls hl => ?_)
            refine lv_iload hx hb dX2_against_173 (lv_at hl 2 rfl) ?_
            refine lv_iload hx hb dX2_against_175 (lv_at hl 0 rfl) ?_
            refine lv_if_eq (tgt := 184) hx hb dX2_against_177 (by decide) (fun _ => ?_) (fun q => absurd (by decide) q)
            refine lv_iconst (v := nI 0) hx hb dX2_against_184 (by decide) ?_
            refine xn_iadd hx hb dX2_against_185 ?_
            refine lv_istore (lv' := [(5, .int (nI ((cnt (fun i => ag (rl I N (mc fb ea i) (mc fb eb i)) wh) i) + 0))), (8, .int (nI (0))), (7, .int (nI (rl I N (mc fb ea i) (mc fb eb i)))), (6, .int (nI (i))), (0, .ref h), (1, .int (nI (Bool.toNat (fb)))), (2, .int (nI (ea))), (3, .int (nI (eb))), (4, .int (nI (wh)))]) hx hb dX2_against_186 hl (by decide) rfl (fun ls hl => ?_)
            refine xn_iinc (lv2 := [(6, .int (nI (i + 1))), (5, .int (nI ((cnt (fun i => ag (rl I N (mc fb ea i) (mc fb eb i)) wh) i) + 0))), (8, .int (nI (0))), (7, .int (nI (rl I N (mc fb ea i) (mc fb eb i)))), (0, .ref h), (1, .int (nI (Bool.toNat (fb)))), (2, .int (nI (ea))), (3, .int (nI (eb))), (4, .int (nI (wh)))]) hx hb dX2_against_188 hl (k0 := 3) rfl (by decide) rfl (fun ls hl => ?_)
            refine lv_goto (tgt := 43) hx hb dX2_against_191 (by decide) ?_
            exact ih (i + 1) ls ⟨by omega, by omega, by rw [cnt_b (f := (fun i => ag (rl I N (mc fb ea i) (mc fb eb i)) wh)) (b := false) (by simp [ag, c78, c98, c117, c123])]; exact lv_sub hl [1, 0, 4, 5, 6, 7, 8] rfl⟩
          · refine lv_iconst (v := nI 1) hx hb dX2_against_126 (by decide) ?_
            refine lv_goto (tgt := 171) hx hb dX2_against_127 (by decide) ?_
            refine lv_istore (lv' := [(8, .int (nI (1))), (7, .int (nI (rl I N (mc fb ea i) (mc fb eb i)))), (5, .int (nI (cnt (fun i => ag (rl I N (mc fb ea i) (mc fb eb i)) wh) i))), (6, .int (nI (i))), (0, .ref h), (1, .int (nI (Bool.toNat (fb)))), (2, .int (nI (ea))), (3, .int (nI (eb))), (4, .int (nI (wh)))]) hx hb dX2_against_171 hl (by decide) rfl (fun ls hl => ?_)
            refine lv_iload hx hb dX2_against_173 (lv_at hl 2 rfl) ?_
            refine lv_iload hx hb dX2_against_175 (lv_at hl 0 rfl) ?_
            refine lv_if_eq (tgt := 184) hx hb dX2_against_177 (by decide) (fun q => absurd q (by decide)) (fun _ => ?_)
            refine lv_iconst (v := nI 1) hx hb dX2_against_180 (by decide) ?_
            refine lv_goto (tgt := 185) hx hb dX2_against_181 (by decide) ?_
            refine xn_iadd hx hb dX2_against_185 ?_
            refine lv_istore (lv' := [(5, .int (nI ((cnt (fun i => ag (rl I N (mc fb ea i) (mc fb eb i)) wh) i) + 1))), (8, .int (nI (1))), (7, .int (nI (rl I N (mc fb ea i) (mc fb eb i)))), (6, .int (nI (i))), (0, .ref h), (1, .int (nI (Bool.toNat (fb)))), (2, .int (nI (ea))), (3, .int (nI (eb))), (4, .int (nI (wh)))]) hx hb dX2_against_186 hl (by decide) rfl (fun ls hl => ?_)
            refine xn_iinc (lv2 := [(6, .int (nI (i + 1))), (5, .int (nI ((cnt (fun i => ag (rl I N (mc fb ea i) (mc fb eb i)) wh) i) + 1))), (8, .int (nI (1))), (7, .int (nI (rl I N (mc fb ea i) (mc fb eb i)))), (0, .ref h), (1, .int (nI (Bool.toNat (fb)))), (2, .int (nI (ea))), (3, .int (nI (eb))), (4, .int (nI (wh)))]) hx hb dX2_against_188 hl (k0 := 3) rfl (by decide) rfl (fun ls hl => ?_)
            refine lv_goto (tgt := 43) hx hb dX2_against_191 (by decide) ?_
            exact ih (i + 1) ls ⟨by omega, by omega, by rw [cnt_b (f := (fun i => ag (rl I N (mc fb ea i) (mc fb eb i)) wh)) (b := true) (by simp [ag, c78, c98, c117, c123])]; exact lv_sub hl [1, 0, 4, 5, 6, 7, 8] rfl⟩
      · refine lv_iload hx hb dX2_against_101 (lv_at hl 0 rfl) ?_
        refine xn_if_ne (tgt := 110) hx hb (by omega) dX2_against_103 (by decide) (fun c103 => ?_) (fun c103 => ?_)
        · refine lv_iconst (v := nI 0) hx hb dX2_against_110 (by decide) ?_
          refine lv_goto (tgt := 171) hx hb dX2_against_111 (by decide) ?_
          refine lv_istore (lv' := [(8, .int (nI (0))), (7, .int (nI (rl I N (mc fb ea i) (mc fb eb i)))), (5, .int (nI (cnt (fun i => ag (rl I N (mc fb ea i) (mc fb eb i)) wh) i))), (6, .int (nI (i))), (0, .ref h), (1, .int (nI (Bool.toNat (fb)))), (2, .int (nI (ea))), (3, .int (nI (eb))), (4, .int (nI (wh)))]) hx hb dX2_against_171 hl (by decide) rfl (fun ls hl => ?_)
          refine lv_iload hx hb dX2_against_173 (lv_at hl 2 rfl) ?_
          refine lv_iload hx hb dX2_against_175 (lv_at hl 0 rfl) ?_
          refine lv_if_eq (tgt := 184) hx hb dX2_against_177 (by decide) (fun _ => ?_) (fun q => absurd (by decide) q)
          refine lv_iconst (v := nI 0) hx hb dX2_against_184 (by decide) ?_
          refine xn_iadd hx hb dX2_against_185 ?_
          refine lv_istore (lv' := [(5, .int (nI ((cnt (fun i => ag (rl I N (mc fb ea i) (mc fb eb i)) wh) i) + 0))), (8, .int (nI (0))), (7, .int (nI (rl I N (mc fb ea i) (mc fb eb i)))), (6, .int (nI (i))), (0, .ref h), (1, .int (nI (Bool.toNat (fb)))), (2, .int (nI (ea))), (3, .int (nI (eb))), (4, .int (nI (wh)))]) hx hb dX2_against_186 hl (by decide) rfl (fun ls hl => ?_)
          refine xn_iinc (lv2 := [(6, .int (nI (i + 1))), (5, .int (nI ((cnt (fun i => ag (rl I N (mc fb ea i) (mc fb eb i)) wh) i) + 0))), (8, .int (nI (0))), (7, .int (nI (rl I N (mc fb ea i) (mc fb eb i)))), (0, .ref h), (1, .int (nI (Bool.toNat (fb)))), (2, .int (nI (ea))), (3, .int (nI (eb))), (4, .int (nI (wh)))]) hx hb dX2_against_188 hl (k0 := 3) rfl (by decide) rfl (fun ls hl => ?_)
          refine lv_goto (tgt := 43) hx hb dX2_against_191 (by decide) ?_
          exact ih (i + 1) ls ⟨by omega, by omega, by rw [cnt_b (f := (fun i => ag (rl I N (mc fb ea i) (mc fb eb i)) wh)) (b := false) (by simp [ag, c78, c98, c103])]; exact lv_sub hl [1, 0, 4, 5, 6, 7, 8] rfl⟩
        · refine lv_iconst (v := nI 1) hx hb dX2_against_106 (by decide) ?_
          refine lv_goto (tgt := 171) hx hb dX2_against_107 (by decide) ?_
          refine lv_istore (lv' := [(8, .int (nI (1))), (7, .int (nI (rl I N (mc fb ea i) (mc fb eb i)))), (5, .int (nI (cnt (fun i => ag (rl I N (mc fb ea i) (mc fb eb i)) wh) i))), (6, .int (nI (i))), (0, .ref h), (1, .int (nI (Bool.toNat (fb)))), (2, .int (nI (ea))), (3, .int (nI (eb))), (4, .int (nI (wh)))]) hx hb dX2_against_171 hl (by decide) rfl (fun ls hl => ?_)
          refine lv_iload hx hb dX2_against_173 (lv_at hl 2 rfl) ?_
          refine lv_iload hx hb dX2_against_175 (lv_at hl 0 rfl) ?_
          refine lv_if_eq (tgt := 184) hx hb dX2_against_177 (by decide) (fun q => absurd q (by decide)) (fun _ => ?_)
          refine lv_iconst (v := nI 1) hx hb dX2_against_180 (by decide) ?_
          refine lv_goto (tgt := 185) hx hb dX2_against_181 (by decide) ?_
          refine xn_iadd hx hb dX2_against_185 ?_
          refine lv_istore (lv' := [(5, .int (nI ((cnt (fun i => ag (rl I N (mc fb ea i) (mc fb eb i)) wh) i) + 1))), (8, .int (nI (1))), (7, .int (nI (rl I N (mc fb ea i) (mc fb eb i)))), (6, .int (nI (i))), (0, .ref h), (1, .int (nI (Bool.toNat (fb)))), (2, .int (nI (ea))), (3, .int (nI (eb))), (4, .int (nI (wh)))]) hx hb dX2_against_186 hl (by decide) rfl (fun ls hl => ?_)
          refine xn_iinc (lv2 := [(6, .int (nI (i + 1))), (5, .int (nI ((cnt (fun i => ag (rl I N (mc fb ea i) (mc fb eb i)) wh) i) + 1))), (8, .int (nI (1))), (7, .int (nI (rl I N (mc fb ea i) (mc fb eb i)))), (0, .ref h), (1, .int (nI (Bool.toNat (fb)))), (2, .int (nI (ea))), (3, .int (nI (eb))), (4, .int (nI (wh)))]) hx hb dX2_against_188 hl (k0 := 3) rfl (by decide) rfl (fun ls hl => ?_)
          refine lv_goto (tgt := 43) hx hb dX2_against_191 (by decide) ?_
          exact ih (i + 1) ls ⟨by omega, by omega, by rw [cnt_b (f := (fun i => ag (rl I N (mc fb ea i) (mc fb eb i)) wh)) (b := true) (by simp [ag, c78, c98, c103])]; exact lv_sub hl [1, 0, 4, 5, 6, 7, 8] rfl⟩
    · refine lv_iload hx hb dX2_against_81 (lv_at hl 0 rfl) ?_
      refine lv_iconst (v := nI 2) hx hb dX2_against_83 (by decide) ?_
      refine xn_icmp_ne (tgt := 91) hx hb (by omega) (by decide) dX2_against_84 (by decide) (fun c84 => ?_) (fun c84 => ?_)
      · refine lv_iconst (v := nI 0) hx hb dX2_against_91 (by decide) ?_
        refine lv_goto (tgt := 171) hx hb dX2_against_92 (by decide) ?_
        refine lv_istore (lv' := [(8, .int (nI (0))), (7, .int (nI (rl I N (mc fb ea i) (mc fb eb i)))), (5, .int (nI (cnt (fun i => ag (rl I N (mc fb ea i) (mc fb eb i)) wh) i))), (6, .int (nI (i))), (0, .ref h), (1, .int (nI (Bool.toNat (fb)))), (2, .int (nI (ea))), (3, .int (nI (eb))), (4, .int (nI (wh)))]) hx hb dX2_against_171 hl (by decide) rfl (fun ls hl => ?_)
        refine lv_iload hx hb dX2_against_173 (lv_at hl 2 rfl) ?_
        refine lv_iload hx hb dX2_against_175 (lv_at hl 0 rfl) ?_
        refine lv_if_eq (tgt := 184) hx hb dX2_against_177 (by decide) (fun _ => ?_) (fun q => absurd (by decide) q)
        refine lv_iconst (v := nI 0) hx hb dX2_against_184 (by decide) ?_
        refine xn_iadd hx hb dX2_against_185 ?_
        refine lv_istore (lv' := [(5, .int (nI ((cnt (fun i => ag (rl I N (mc fb ea i) (mc fb eb i)) wh) i) + 0))), (8, .int (nI (0))), (7, .int (nI (rl I N (mc fb ea i) (mc fb eb i)))), (6, .int (nI (i))), (0, .ref h), (1, .int (nI (Bool.toNat (fb)))), (2, .int (nI (ea))), (3, .int (nI (eb))), (4, .int (nI (wh)))]) hx hb dX2_against_186 hl (by decide) rfl (fun ls hl => ?_)
        refine xn_iinc (lv2 := [(6, .int (nI (i + 1))), (5, .int (nI ((cnt (fun i => ag (rl I N (mc fb ea i) (mc fb eb i)) wh) i) + 0))), (8, .int (nI (0))), (7, .int (nI (rl I N (mc fb ea i) (mc fb eb i)))), (0, .ref h), (1, .int (nI (Bool.toNat (fb)))), (2, .int (nI (ea))), (3, .int (nI (eb))), (4, .int (nI (wh)))]) hx hb dX2_against_188 hl (k0 := 3) rfl (by decide) rfl (fun ls hl => ?_)
        refine lv_goto (tgt := 43) hx hb dX2_against_191 (by decide) ?_
        exact ih (i + 1) ls ⟨by omega, by omega, by rw [cnt_b (f := (fun i => ag (rl I N (mc fb ea i) (mc fb eb i)) wh)) (b := false) (by simp [ag, c78, c84])]; exact lv_sub hl [1, 0, 4, 5, 6, 7, 8] rfl⟩
      · refine lv_iconst (v := nI 1) hx hb dX2_against_87 (by decide) ?_
        refine lv_goto (tgt := 171) hx hb dX2_against_88 (by decide) ?_
        refine lv_istore (lv' := [(8, .int (nI (1))), (7, .int (nI (rl I N (mc fb ea i) (mc fb eb i)))), (5, .int (nI (cnt (fun i => ag (rl I N (mc fb ea i) (mc fb eb i)) wh) i))), (6, .int (nI (i))), (0, .ref h), (1, .int (nI (Bool.toNat (fb)))), (2, .int (nI (ea))), (3, .int (nI (eb))), (4, .int (nI (wh)))]) hx hb dX2_against_171 hl (by decide) rfl (fun ls hl => ?_)
        refine lv_iload hx hb dX2_against_173 (lv_at hl 2 rfl) ?_
        refine lv_iload hx hb dX2_against_175 (lv_at hl 0 rfl) ?_
        refine lv_if_eq (tgt := 184) hx hb dX2_against_177 (by decide) (fun q => absurd q (by decide)) (fun _ => ?_)
        refine lv_iconst (v := nI 1) hx hb dX2_against_180 (by decide) ?_
        refine lv_goto (tgt := 185) hx hb dX2_against_181 (by decide) ?_
        refine xn_iadd hx hb dX2_against_185 ?_
        refine lv_istore (lv' := [(5, .int (nI ((cnt (fun i => ag (rl I N (mc fb ea i) (mc fb eb i)) wh) i) + 1))), (8, .int (nI (1))), (7, .int (nI (rl I N (mc fb ea i) (mc fb eb i)))), (6, .int (nI (i))), (0, .ref h), (1, .int (nI (Bool.toNat (fb)))), (2, .int (nI (ea))), (3, .int (nI (eb))), (4, .int (nI (wh)))]) hx hb dX2_against_186 hl (by decide) rfl (fun ls hl => ?_)
        refine xn_iinc (lv2 := [(6, .int (nI (i + 1))), (5, .int (nI ((cnt (fun i => ag (rl I N (mc fb ea i) (mc fb eb i)) wh) i) + 1))), (8, .int (nI (1))), (7, .int (nI (rl I N (mc fb ea i) (mc fb eb i)))), (0, .ref h), (1, .int (nI (Bool.toNat (fb)))), (2, .int (nI (ea))), (3, .int (nI (eb))), (4, .int (nI (wh)))]) hx hb dX2_against_188 hl (k0 := 3) rfl (by decide) rfl (fun ls hl => ?_)
        refine lv_goto (tgt := 43) hx hb dX2_against_191 (by decide) ?_
        exact ih (i + 1) ls ⟨by omega, by omega, by rw [cnt_b (f := (fun i => ag (rl I N (mc fb ea i) (mc fb eb i)) wh)) (b := true) (by simp [ag, c78, c84])]; exact lv_sub hl [1, 0, 4, 5, 6, 7, 8] rfl⟩
set_option maxHeartbeats 4000000 in
set_option maxRecDepth 100000 in
theorem c_X2_against_n1 (l : Launch) (dC : Nat → ClassId) (dI : Nat → Nat → Nat) (cD cZ cI cL : ClassId) (h b0 b1 b2 b3 : Nat) (N : Nat → UInt64) (I T R : Nat → Int32) (nn : Nat) (th : Int32) (sz : Nat) (hnn : nn ≤ 6) (fb : Bool) (ev bv kv : Int32) (hbad : vB ev nn = false) : Met l yX2_against wsX2_against ({ frames := 2, cells := 0, slots := 0, locals := 42 }) (va_Pc [.ref h, .int (nI (Bool.toNat (fb))), .int (ev), .int (bv), .int (kv)] (fun U => U.heap.size = sz ∧ okM dC dI cD cZ cI cL h b0 b1 b2 b3 N I T R nn th U U.heap ∧ va_D (fun _ => True) (wM cD cZ cI cL h b0 b1 b2 b3 N I T R nn th))) (va_Qi (fun (r : Int32) (_ : Unit) => r = nI 0) (fun _ t => atM dC dI cD cZ cI cL (va_A (wM cD cZ cI cL h b0 b1 b2 b3 N I T R nn th) sz) h b0 b1 b2 b3 N I T R nn (nI 1) t) (va_A (wM cD cZ cI cL h b0 b1 b2 b3 N I T R nn th) sz)) 0 0 (va_A (wM cD cZ cI cL h b0 b1 b2 b3 N I T R nn th) sz) := by
  refine Met.ofW (cc := cX2_against) (maxL := 9) (ret := (some .int)) (by decide) rfl ?_
  intro p e s m args below meth c s₁ B hml hv
  obtain ⟨rfl, hsz, hO, hD0⟩ := hv
  obtain ⟨hP, hK⟩ := id hO
  have hx := B.exec
  have hb := B.bytes
  have hr := B.returns
  have hts := atoms_spec (ws := wsX2_against) B.pre
  have hown : s.vm.findClass RX2 = some m.cls := findClass_of_methodNamed B.named
  have hlocks := B.notSynchronized
  subst hsz
  have hD := hD0.self (sz := s.heap.size)
  generalize hAe : va_A (wM cD cZ cI cL h b0 b1 b2 b3 N I T R nn th) s.heap.size = A at hD ⊢
  have hA : ∀ q : Nat, s.heap.size ≤ q → A q := fun q h => by rw [← hAe]; exact Or.inr h
  have hS : va_S A s.heap s.heap [] := va_S.rf
  have hP : va_P (dC, dI) vwCl [(h, .inr (2, [.ref b0, .ref b1, .ref b2, .ref b3, .int (nI (nn)), .int (th)])), (b0, .inl (cD, 70, .inr (.inr (.inr (.inl (N)))))), (b1, .inl (cZ, 70, .inl (I))), (b2, .inl (cI, 60, .inl (T))), (b3, .inl (cI, 6, .inl (R)))] s.heap := hP
  have hD : va_D A [(h, .inr (2, [.ref b0, .ref b1, .ref b2, .ref b3, .int (nI (nn)), .int (th)])), (b0, .inl (cD, 70, .inr (.inr (.inr (.inl (N)))))), (b1, .inl (cZ, 70, .inl (I))), (b2, .inl (cI, 60, .inl (T))), (b3, .inl (cI, 6, .inl (R)))] := hD
  have hin2 : ∀ w ∈ wsX20, w ∈ wsX2_against := (fun w h => List.mem_cons_of_mem _ (List.mem_append_right _ h))
  have fl24 := hts (.fieldLink RX2 24 "JuryTableModel" "thrown" "I") (by decide +kernel)
  have hl := lv_entry ([.ref h, .int (nI (Bool.toNat (fb))), .int (ev), .int (bv), .int (kv)]) (n := 9) (Nat.le_of_ble_eq_true rfl)
  rw [lg_entry_eq]
  generalize (lg_sl ([.ref h, .int (nI (Bool.toNat (fb))), .int (ev), .int (bv), .int (kv)]) ++ List.replicate (9 - (lg_sl ([.ref h, .int (nI (Bool.toNat (fb))), .int (ev), .int (bv), .int (kv)])).length) Slot.unset).toArray = ls at hl ⊢
  have hl : lv_has ls 9 [(0, .ref h), (1, .int (nI (Bool.toNat (fb)))), (2, .int (ev)), (3, .int (bv)), (4, .int (kv))] := hl
  refine lv_aload_n hx hb dX2_against_0 rfl (lv_at hl 0 rfl) ?_
  refine lv_iconst (v := nI 0) hx hb dX2_against_1 (by decide) ?_
  refine va_put (D := (dC, dI)) (ci := 2) (v := .int (nI (0))) (ty := .int) (C := RX2) (T := TX2) (N := 6) hx hb hts hin2 tyX2 tyX2_ok nmX2 hown hK hP hD hS 0 rfl rfl 5 (by decide) fl24 (fun _ h9 => h9) rfl (by decide +kernel) rfl rfl (Nat.le_of_ble_eq_true rfl) dX2_against_2 (fun H locs hP hD hS => ?_)
  have hP : va_P (dC, dI) vwCl [(h, .inr (2, [.ref b0, .ref b1, .ref b2, .ref b3, .int (nI (nn)), .int (nI (0))])), (b0, .inl (cD, 70, .inr (.inr (.inr (.inl (N)))))), (b1, .inl (cZ, 70, .inl (I))), (b2, .inl (cI, 60, .inl (T))), (b3, .inl (cI, 6, .inl (R)))] H := hP
  have hD : va_D A [(h, .inr (2, [.ref b0, .ref b1, .ref b2, .ref b3, .int (nI (nn)), .int (nI (0))])), (b0, .inl (cD, 70, .inr (.inr (.inr (.inl (N)))))), (b1, .inl (cZ, 70, .inl (I))), (b2, .inl (cI, 60, .inl (T))), (b3, .inl (cI, 6, .inl (R)))] := hD
  refine lv_aload_n hx hb dX2_against_5 rfl (lv_at hl 0 rfl) ?_
  refine lv_iload_n hx hb dX2_against_6 rfl (lv_at hl 2 rfl) ?_
  have hPc := hP.sub (ws' := [(h, .inr (2, [.ref b0, .ref b1, .ref b2, .ref b3, .int (nI (nn)), .int (nI (0))])), (b0, .inl (cD, 70, .inr (.inr (.inr (.inl (N)))))), (b1, .inl (cZ, 70, .inl (I))), (b2, .inl (cI, 60, .inl (T))), (b3, .inl (cI, 6, .inl (R)))]) [0, 1, 2, 3, 4] rfl
  have hDc := hD.sub (ws' := [(h, .inr (2, [.ref b0, .ref b1, .ref b2, .ref b3, .int (nI (nn)), .int (nI (0))])), (b0, .inl (cD, 70, .inr (.inr (.inr (.inl (N)))))), (b1, .inl (cZ, 70, .inl (I))), (b2, .inl (cI, 60, .inl (T))), (b3, .inl (cI, 6, .inl (R)))]) [0, 1, 2, 3, 4] (by decide) rfl
  have hFc := va_free (wc := [(h, .inr (2, [.ref b0, .ref b1, .ref b2, .ref b3, .int (nI (nn)), .int (nI (0))])), (b0, .inl (cD, 70, .inr (.inr (.inr (.inl (N)))))), (b1, .inl (cZ, 70, .inl (I))), (b2, .inl (cI, 60, .inl (T))), (b3, .inl (cI, 6, .inl (R)))]) hD hS hA [0, 1, 2, 3, 4] rfl
  refine va_calli (va_runV (As := [.int (ev)]) (rest := []) ⟨hx, hb, hml, hown, hts⟩ (c_X2_hasEntry_no l dC dI cD cZ cI cL h b0 b1 b2 b3 N I T R nn (nI 0) H.size (ev) hbad) (cwV 1 hts gX2_against_X2_hasEntry rfl rfl rfl (by decide +kernel) ⟨Nat.le_of_ble_eq_true rfl, Nat.le_of_ble_eq_true rfl⟩) (okMW_pre ⟨hP, hK⟩ hD) rfl rfl hl.1 rfl (lv_room (Nat.le_of_ble_eq_true rfl)) dX2_against_7 ⟨Nat.zero_le _, Nat.zero_le _⟩) hS (fun q _ h => hFc q h) hFc (fun r1 u1 t H1 locs ht hvm hw hB hz1 hk1 hS => ?_)
  obtain ⟨hP1, hK1, hD1⟩ := hB
  rw [ht] at hP1
  have hD := hD1.weaken (fun _ q _ h => hFc q.1 h)
  have hP := hP1
  generalize H1 = H at hP hS ⊢
  have hP : va_P (dC, dI) vwCl [(h, .inr (2, [.ref b0, .ref b1, .ref b2, .ref b3, .int (nI (nn)), .int (nI (1))])), (b0, .inl (cD, 70, .inr (.inr (.inr (.inl (N)))))), (b1, .inl (cZ, 70, .inl (I))), (b2, .inl (cI, 60, .inl (T))), (b3, .inl (cI, 6, .inl (R)))] H := hP
  have hD : va_D A [(h, .inr (2, [.ref b0, .ref b1, .ref b2, .ref b3, .int (nI (nn)), .int (nI (1))])), (b0, .inl (cD, 70, .inr (.inr (.inr (.inl (N)))))), (b1, .inl (cZ, 70, .inl (I))), (b2, .inl (cI, 60, .inl (T))), (b3, .inl (cI, 6, .inl (R)))] := hD
  subst hw
  refine xb_if_eq (tgt := 21) hx hb dX2_against_10 (by decide) (fun _ => ?_) (fun q => absurd q (by decide))
  refine lv_iconst (v := nI 0) hx hb dX2_against_21 (by decide) ?_
  exact W.iret (v := nI 0) hx hb hr (fun t ht hW => ⟨⟨_, (), rfl, rfl, by rw [ht]; exact hP, va_K.moved hW.alike hK, hD⟩, hS.F ht⟩) hS.2.2 dX2_against_22
set_option maxHeartbeats 4000000 in
set_option maxRecDepth 100000 in
theorem c_X2_against_n2 (l : Launch) (dC : Nat → ClassId) (dI : Nat → Nat → Nat) (cD cZ cI cL : ClassId) (h b0 b1 b2 b3 : Nat) (N : Nat → UInt64) (I T R : Nat → Int32) (nn : Nat) (th : Int32) (sz : Nat) (hnn : nn ≤ 6) (fb : Bool) (ea : Nat) (bv kv : Int32) (hea : ea < nn) (hbad : vB bv nn = false) : Met l yX2_against wsX2_against ({ frames := 2, cells := 0, slots := 0, locals := 42 }) (va_Pc [.ref h, .int (nI (Bool.toNat (fb))), .int (nI (ea)), .int (bv), .int (kv)] (fun U => U.heap.size = sz ∧ okM dC dI cD cZ cI cL h b0 b1 b2 b3 N I T R nn th U U.heap ∧ va_D (fun _ => True) (wM cD cZ cI cL h b0 b1 b2 b3 N I T R nn th))) (va_Qi (fun (r : Int32) (_ : Unit) => r = nI 0) (fun _ t => atM dC dI cD cZ cI cL (va_A (wM cD cZ cI cL h b0 b1 b2 b3 N I T R nn th) sz) h b0 b1 b2 b3 N I T R nn (nI 1) t) (va_A (wM cD cZ cI cL h b0 b1 b2 b3 N I T R nn th) sz)) 0 0 (va_A (wM cD cZ cI cL h b0 b1 b2 b3 N I T R nn th) sz) := by
  refine Met.ofW (cc := cX2_against) (maxL := 9) (ret := (some .int)) (by decide) rfl ?_
  intro p e s m args below meth c s₁ B hml hv
  obtain ⟨rfl, hsz, hO, hD0⟩ := hv
  obtain ⟨hP, hK⟩ := id hO
  have hx := B.exec
  have hb := B.bytes
  have hr := B.returns
  have hts := atoms_spec (ws := wsX2_against) B.pre
  have hown : s.vm.findClass RX2 = some m.cls := findClass_of_methodNamed B.named
  have hlocks := B.notSynchronized
  subst hsz
  have hD := hD0.self (sz := s.heap.size)
  generalize hAe : va_A (wM cD cZ cI cL h b0 b1 b2 b3 N I T R nn th) s.heap.size = A at hD ⊢
  have hA : ∀ q : Nat, s.heap.size ≤ q → A q := fun q h => by rw [← hAe]; exact Or.inr h
  have hS : va_S A s.heap s.heap [] := va_S.rf
  have hP : va_P (dC, dI) vwCl [(h, .inr (2, [.ref b0, .ref b1, .ref b2, .ref b3, .int (nI (nn)), .int (th)])), (b0, .inl (cD, 70, .inr (.inr (.inr (.inl (N)))))), (b1, .inl (cZ, 70, .inl (I))), (b2, .inl (cI, 60, .inl (T))), (b3, .inl (cI, 6, .inl (R)))] s.heap := hP
  have hD : va_D A [(h, .inr (2, [.ref b0, .ref b1, .ref b2, .ref b3, .int (nI (nn)), .int (th)])), (b0, .inl (cD, 70, .inr (.inr (.inr (.inl (N)))))), (b1, .inl (cZ, 70, .inl (I))), (b2, .inl (cI, 60, .inl (T))), (b3, .inl (cI, 6, .inl (R)))] := hD
  have hin2 : ∀ w ∈ wsX20, w ∈ wsX2_against := (fun w h => List.mem_cons_of_mem _ (List.mem_append_right _ h))
  have fl24 := hts (.fieldLink RX2 24 "JuryTableModel" "thrown" "I") (by decide +kernel)
  have hl := lv_entry ([.ref h, .int (nI (Bool.toNat (fb))), .int (nI (ea)), .int (bv), .int (kv)]) (n := 9) (Nat.le_of_ble_eq_true rfl)
  rw [lg_entry_eq]
  generalize (lg_sl ([.ref h, .int (nI (Bool.toNat (fb))), .int (nI (ea)), .int (bv), .int (kv)]) ++ List.replicate (9 - (lg_sl ([.ref h, .int (nI (Bool.toNat (fb))), .int (nI (ea)), .int (bv), .int (kv)])).length) Slot.unset).toArray = ls at hl ⊢
  have hl : lv_has ls 9 [(0, .ref h), (1, .int (nI (Bool.toNat (fb)))), (2, .int (nI (ea))), (3, .int (bv)), (4, .int (kv))] := hl
  refine lv_aload_n hx hb dX2_against_0 rfl (lv_at hl 0 rfl) ?_
  refine lv_iconst (v := nI 0) hx hb dX2_against_1 (by decide) ?_
  refine va_put (D := (dC, dI)) (ci := 2) (v := .int (nI (0))) (ty := .int) (C := RX2) (T := TX2) (N := 6) hx hb hts hin2 tyX2 tyX2_ok nmX2 hown hK hP hD hS 0 rfl rfl 5 (by decide) fl24 (fun _ h9 => h9) rfl (by decide +kernel) rfl rfl (Nat.le_of_ble_eq_true rfl) dX2_against_2 (fun H locs hP hD hS => ?_)
  have hP : va_P (dC, dI) vwCl [(h, .inr (2, [.ref b0, .ref b1, .ref b2, .ref b3, .int (nI (nn)), .int (nI (0))])), (b0, .inl (cD, 70, .inr (.inr (.inr (.inl (N)))))), (b1, .inl (cZ, 70, .inl (I))), (b2, .inl (cI, 60, .inl (T))), (b3, .inl (cI, 6, .inl (R)))] H := hP
  have hD : va_D A [(h, .inr (2, [.ref b0, .ref b1, .ref b2, .ref b3, .int (nI (nn)), .int (nI (0))])), (b0, .inl (cD, 70, .inr (.inr (.inr (.inl (N)))))), (b1, .inl (cZ, 70, .inl (I))), (b2, .inl (cI, 60, .inl (T))), (b3, .inl (cI, 6, .inl (R)))] := hD
  refine lv_aload_n hx hb dX2_against_5 rfl (lv_at hl 0 rfl) ?_
  refine lv_iload_n hx hb dX2_against_6 rfl (lv_at hl 2 rfl) ?_
  refine vp_callSi (va_Run.run (va_runV (As := [.int (nI (ea))]) (rest := []) ⟨hx, hb, hml, hown, hts⟩ (c_X2_hasEntry_ok l dC dI cD cZ cI cL h b0 b1 b2 b3 N I T R nn (nI 0) (ea) (by omega) (by omega)) (cwV 1 hts gX2_against_X2_hasEntry rfl rfl rfl (by decide +kernel) ⟨Nat.le_of_ble_eq_true rfl, Nat.le_of_ble_eq_true rfl⟩) (okM_pre ⟨hP, hK⟩) rfl rfl hl.1 rfl (lv_room (Nat.le_of_ble_eq_true rfl)) dX2_against_7 ⟨Nat.zero_le _, Nat.zero_le _⟩)) (fun r1 er1 => ?_)
  subst er1
  refine xb_if_eq (tgt := 21) hx hb dX2_against_10 (by decide) (fun q => absurd q (by decide)) (fun _ => ?_)
  refine lv_aload_n hx hb dX2_against_13 rfl (lv_at hl 0 rfl) ?_
  refine lv_iload_n hx hb dX2_against_14 rfl (lv_at hl 3 rfl) ?_
  have hPc := hP.sub (ws' := [(h, .inr (2, [.ref b0, .ref b1, .ref b2, .ref b3, .int (nI (nn)), .int (nI (0))])), (b0, .inl (cD, 70, .inr (.inr (.inr (.inl (N)))))), (b1, .inl (cZ, 70, .inl (I))), (b2, .inl (cI, 60, .inl (T))), (b3, .inl (cI, 6, .inl (R)))]) [0, 1, 2, 3, 4] rfl
  have hDc := hD.sub (ws' := [(h, .inr (2, [.ref b0, .ref b1, .ref b2, .ref b3, .int (nI (nn)), .int (nI (0))])), (b0, .inl (cD, 70, .inr (.inr (.inr (.inl (N)))))), (b1, .inl (cZ, 70, .inl (I))), (b2, .inl (cI, 60, .inl (T))), (b3, .inl (cI, 6, .inl (R)))]) [0, 1, 2, 3, 4] (by decide) rfl
  have hFc := va_free (wc := [(h, .inr (2, [.ref b0, .ref b1, .ref b2, .ref b3, .int (nI (nn)), .int (nI (0))])), (b0, .inl (cD, 70, .inr (.inr (.inr (.inl (N)))))), (b1, .inl (cZ, 70, .inl (I))), (b2, .inl (cI, 60, .inl (T))), (b3, .inl (cI, 6, .inl (R)))]) hD hS hA [0, 1, 2, 3, 4] rfl
  refine va_calli (va_runV (As := [.int (bv)]) (rest := []) ⟨hx, hb, hml, hown, hts⟩ (c_X2_hasEntry_no l dC dI cD cZ cI cL h b0 b1 b2 b3 N I T R nn (nI 0) H.size (bv) hbad) (cwV 1 hts gX2_against_X2_hasEntry rfl rfl rfl (by decide +kernel) ⟨Nat.le_of_ble_eq_true rfl, Nat.le_of_ble_eq_true rfl⟩) (okMW_pre ⟨hP, hK⟩ hD) rfl rfl hl.1 rfl (lv_room (Nat.le_of_ble_eq_true rfl)) dX2_against_15 ⟨Nat.zero_le _, Nat.zero_le _⟩) hS (fun q _ h => hFc q h) hFc (fun r2 u2 t H1 locs ht hvm hw hB hz1 hk1 hS => ?_)
  obtain ⟨hP1, hK1, hD1⟩ := hB
  rw [ht] at hP1
  have hD := hD1.weaken (fun _ q _ h => hFc q.1 h)
  have hP := hP1
  generalize H1 = H at hP hS ⊢
  have hP : va_P (dC, dI) vwCl [(h, .inr (2, [.ref b0, .ref b1, .ref b2, .ref b3, .int (nI (nn)), .int (nI (1))])), (b0, .inl (cD, 70, .inr (.inr (.inr (.inl (N)))))), (b1, .inl (cZ, 70, .inl (I))), (b2, .inl (cI, 60, .inl (T))), (b3, .inl (cI, 6, .inl (R)))] H := hP
  have hD : va_D A [(h, .inr (2, [.ref b0, .ref b1, .ref b2, .ref b3, .int (nI (nn)), .int (nI (1))])), (b0, .inl (cD, 70, .inr (.inr (.inr (.inl (N)))))), (b1, .inl (cZ, 70, .inl (I))), (b2, .inl (cI, 60, .inl (T))), (b3, .inl (cI, 6, .inl (R)))] := hD
  subst hw
  refine xb_if_ne (tgt := 23) hx hb dX2_against_18 (by decide) (fun q => absurd q (by decide)) (fun _ => ?_)
  refine lv_iconst (v := nI 0) hx hb dX2_against_21 (by decide) ?_
  exact W.iret (v := nI 0) hx hb hr (fun t ht hW => ⟨⟨_, (), rfl, rfl, by rw [ht]; exact hP, va_K.moved hW.alike hK, hD⟩, hS.F ht⟩) hS.2.2 dX2_against_22
set_option maxHeartbeats 4000000 in
set_option maxRecDepth 100000 in
theorem c_X2_against_n3 (l : Launch) (dC : Nat → ClassId) (dI : Nat → Nat → Nat) (cD cZ cI cL : ClassId) (h b0 b1 b2 b3 : Nat) (N : Nat → UInt64) (I T R : Nat → Int32) (nn : Nat) (th : Int32) (sz : Nat) (hnn : nn ≤ 6) (fb : Bool) (ea eb : Nat) (kv : Int32) (hea : ea < nn) (heb : eb < nn) (hbad : vB kv 5 = false) : Met l yX2_against wsX2_against ({ frames := 2, cells := 0, slots := 0, locals := 42 }) (va_Pc [.ref h, .int (nI (Bool.toNat (fb))), .int (nI (ea)), .int (nI (eb)), .int (kv)] (fun U => U.heap.size = sz ∧ okM dC dI cD cZ cI cL h b0 b1 b2 b3 N I T R nn th U U.heap ∧ va_D (fun _ => True) (wM cD cZ cI cL h b0 b1 b2 b3 N I T R nn th))) (va_Qi (fun (r : Int32) (_ : Unit) => r = nI 0) (fun _ t => atM dC dI cD cZ cI cL (va_A (wM cD cZ cI cL h b0 b1 b2 b3 N I T R nn th) sz) h b0 b1 b2 b3 N I T R nn (nI 2) t) (va_A (wM cD cZ cI cL h b0 b1 b2 b3 N I T R nn th) sz)) 0 0 (va_A (wM cD cZ cI cL h b0 b1 b2 b3 N I T R nn th) sz) := by
  refine Met.ofW (cc := cX2_against) (maxL := 9) (ret := (some .int)) (by decide) rfl ?_
  intro p e s m args below meth c s₁ B hml hv
  obtain ⟨rfl, hsz, hO, hD0⟩ := hv
  obtain ⟨hP, hK⟩ := id hO
  have hx := B.exec
  have hb := B.bytes
  have hr := B.returns
  have hts := atoms_spec (ws := wsX2_against) B.pre
  have hown : s.vm.findClass RX2 = some m.cls := findClass_of_methodNamed B.named
  have hlocks := B.notSynchronized
  subst hsz
  have hD := hD0.self (sz := s.heap.size)
  generalize hAe : va_A (wM cD cZ cI cL h b0 b1 b2 b3 N I T R nn th) s.heap.size = A at hD ⊢
  have hA : ∀ q : Nat, s.heap.size ≤ q → A q := fun q h => by rw [← hAe]; exact Or.inr h
  have hS : va_S A s.heap s.heap [] := va_S.rf
  have hP : va_P (dC, dI) vwCl [(h, .inr (2, [.ref b0, .ref b1, .ref b2, .ref b3, .int (nI (nn)), .int (th)])), (b0, .inl (cD, 70, .inr (.inr (.inr (.inl (N)))))), (b1, .inl (cZ, 70, .inl (I))), (b2, .inl (cI, 60, .inl (T))), (b3, .inl (cI, 6, .inl (R)))] s.heap := hP
  have hD : va_D A [(h, .inr (2, [.ref b0, .ref b1, .ref b2, .ref b3, .int (nI (nn)), .int (th)])), (b0, .inl (cD, 70, .inr (.inr (.inr (.inl (N)))))), (b1, .inl (cZ, 70, .inl (I))), (b2, .inl (cI, 60, .inl (T))), (b3, .inl (cI, 6, .inl (R)))] := hD
  have hin2 : ∀ w ∈ wsX20, w ∈ wsX2_against := (fun w h => List.mem_cons_of_mem _ (List.mem_append_right _ h))
  have fl24 := hts (.fieldLink RX2 24 "JuryTableModel" "thrown" "I") (by decide +kernel)
  have hl := lv_entry ([.ref h, .int (nI (Bool.toNat (fb))), .int (nI (ea)), .int (nI (eb)), .int (kv)]) (n := 9) (Nat.le_of_ble_eq_true rfl)
  rw [lg_entry_eq]
  generalize (lg_sl ([.ref h, .int (nI (Bool.toNat (fb))), .int (nI (ea)), .int (nI (eb)), .int (kv)]) ++ List.replicate (9 - (lg_sl ([.ref h, .int (nI (Bool.toNat (fb))), .int (nI (ea)), .int (nI (eb)), .int (kv)])).length) Slot.unset).toArray = ls at hl ⊢
  have hl : lv_has ls 9 [(0, .ref h), (1, .int (nI (Bool.toNat (fb)))), (2, .int (nI (ea))), (3, .int (nI (eb))), (4, .int (kv))] := hl
  refine lv_aload_n hx hb dX2_against_0 rfl (lv_at hl 0 rfl) ?_
  refine lv_iconst (v := nI 0) hx hb dX2_against_1 (by decide) ?_
  refine va_put (D := (dC, dI)) (ci := 2) (v := .int (nI (0))) (ty := .int) (C := RX2) (T := TX2) (N := 6) hx hb hts hin2 tyX2 tyX2_ok nmX2 hown hK hP hD hS 0 rfl rfl 5 (by decide) fl24 (fun _ h9 => h9) rfl (by decide +kernel) rfl rfl (Nat.le_of_ble_eq_true rfl) dX2_against_2 (fun H locs hP hD hS => ?_)
  have hP : va_P (dC, dI) vwCl [(h, .inr (2, [.ref b0, .ref b1, .ref b2, .ref b3, .int (nI (nn)), .int (nI (0))])), (b0, .inl (cD, 70, .inr (.inr (.inr (.inl (N)))))), (b1, .inl (cZ, 70, .inl (I))), (b2, .inl (cI, 60, .inl (T))), (b3, .inl (cI, 6, .inl (R)))] H := hP
  have hD : va_D A [(h, .inr (2, [.ref b0, .ref b1, .ref b2, .ref b3, .int (nI (nn)), .int (nI (0))])), (b0, .inl (cD, 70, .inr (.inr (.inr (.inl (N)))))), (b1, .inl (cZ, 70, .inl (I))), (b2, .inl (cI, 60, .inl (T))), (b3, .inl (cI, 6, .inl (R)))] := hD
  refine lv_aload_n hx hb dX2_against_5 rfl (lv_at hl 0 rfl) ?_
  refine lv_iload_n hx hb dX2_against_6 rfl (lv_at hl 2 rfl) ?_
  refine vp_callSi (va_Run.run (va_runV (As := [.int (nI (ea))]) (rest := []) ⟨hx, hb, hml, hown, hts⟩ (c_X2_hasEntry_ok l dC dI cD cZ cI cL h b0 b1 b2 b3 N I T R nn (nI 0) (ea) (by omega) (by omega)) (cwV 1 hts gX2_against_X2_hasEntry rfl rfl rfl (by decide +kernel) ⟨Nat.le_of_ble_eq_true rfl, Nat.le_of_ble_eq_true rfl⟩) (okM_pre ⟨hP, hK⟩) rfl rfl hl.1 rfl (lv_room (Nat.le_of_ble_eq_true rfl)) dX2_against_7 ⟨Nat.zero_le _, Nat.zero_le _⟩)) (fun r1 er1 => ?_)
  subst er1
  refine xb_if_eq (tgt := 21) hx hb dX2_against_10 (by decide) (fun q => absurd q (by decide)) (fun _ => ?_)
  refine lv_aload_n hx hb dX2_against_13 rfl (lv_at hl 0 rfl) ?_
  refine lv_iload_n hx hb dX2_against_14 rfl (lv_at hl 3 rfl) ?_
  refine vp_callSi (va_Run.run (va_runV (As := [.int (nI (eb))]) (rest := []) ⟨hx, hb, hml, hown, hts⟩ (c_X2_hasEntry_ok l dC dI cD cZ cI cL h b0 b1 b2 b3 N I T R nn (nI 0) (eb) (by omega) (by omega)) (cwV 1 hts gX2_against_X2_hasEntry rfl rfl rfl (by decide +kernel) ⟨Nat.le_of_ble_eq_true rfl, Nat.le_of_ble_eq_true rfl⟩) (okM_pre ⟨hP, hK⟩) rfl rfl hl.1 rfl (lv_room (Nat.le_of_ble_eq_true rfl)) dX2_against_15 ⟨Nat.zero_le _, Nat.zero_le _⟩)) (fun r2 er2 => ?_)
  subst er2
  refine xb_if_ne (tgt := 23) hx hb dX2_against_18 (by decide) (fun _ => ?_) (fun q => absurd q (by decide))
  refine lv_iload hx hb dX2_against_23 (lv_at hl 4 rfl) ?_
  refine lv_iconst (v := nI 5) hx hb dX2_against_25 (by decide) ?_
  refine vp_callSi (va_Run.run (va_runS (As := [.int (kv), .int (nI (5))]) (rest := []) ⟨hx, hb, hml, hown, hts⟩ (c_X2_in l (kv) (5)) (va_cwS 2 hts gX2_against_X2_in rfl rfl rfl (by decide +kernel) ⟨Nat.le_of_ble_eq_true rfl, Nat.le_of_ble_eq_true rfl⟩) preT rfl rfl hl.1 rfl (lv_room (Nat.le_of_ble_eq_true rfl)) dX2_against_26 ⟨Nat.zero_le _, Nat.zero_le _⟩)) (fun r3 er3 => ?_)
  subst er3
  rw [hbad]
  refine xb_if_ne (tgt := 37) hx hb dX2_against_29 (by decide) (fun q => absurd q (by decide)) (fun _ => ?_)
  refine lv_aload_n hx hb dX2_against_32 rfl (lv_at hl 0 rfl) ?_
  refine lv_iconst (v := nI 2) hx hb dX2_against_33 (by decide) ?_
  refine va_put (D := (dC, dI)) (ci := 2) (v := .int (nI (2))) (ty := .int) (C := RX2) (T := TX2) (N := 6) hx hb hts hin2 tyX2 tyX2_ok nmX2 hown hK hP hD hS 0 rfl rfl 5 (by decide) fl24 (fun _ h9 => h9) rfl (by decide +kernel) rfl rfl (Nat.le_of_ble_eq_true rfl) dX2_against_34 (fun H locs hP hD hS => ?_)
  have hP : va_P (dC, dI) vwCl [(h, .inr (2, [.ref b0, .ref b1, .ref b2, .ref b3, .int (nI (nn)), .int (nI (2))])), (b0, .inl (cD, 70, .inr (.inr (.inr (.inl (N)))))), (b1, .inl (cZ, 70, .inl (I))), (b2, .inl (cI, 60, .inl (T))), (b3, .inl (cI, 6, .inl (R)))] H := hP
  have hD : va_D A [(h, .inr (2, [.ref b0, .ref b1, .ref b2, .ref b3, .int (nI (nn)), .int (nI (2))])), (b0, .inl (cD, 70, .inr (.inr (.inr (.inl (N)))))), (b1, .inl (cZ, 70, .inl (I))), (b2, .inl (cI, 60, .inl (T))), (b3, .inl (cI, 6, .inl (R)))] := hD
  refine lv_iconst (v := nI 0) hx hb dX2_against_37 (by decide) ?_
  refine lv_istore (lv' := [(5, .int (nI (0))), (0, .ref h), (1, .int (nI (Bool.toNat (fb)))), (2, .int (nI (ea))), (3, .int (nI (eb))), (4, .int (kv))]) hx hb dX2_against_38 hl (by decide) rfl (fun ls hl => ?_)
  refine lv_iconst (v := nI 0) hx hb dX2_against_40 (by decide) ?_
  refine lv_istore (lv' := [(6, .int (nI (0))), (5, .int (nI (0))), (0, .ref h), (1, .int (nI (Bool.toNat (fb)))), (2, .int (nI (ea))), (3, .int (nI (eb))), (4, .int (kv))]) hx hb dX2_against_41 hl (by decide) rfl (fun ls hl => ?_)
  refine lv_iload hx hb dX2_against_43 (lv_at hl 0 rfl) ?_
  refine lv_iconst (v := nI 5) hx hb dX2_against_45 (by decide) ?_
  refine lv_icmp_ge (tgt := 194) hx hb dX2_against_46 (by decide) (fun q => absurd q (by decide)) (fun _ => ?_)
  refine lv_aload_n hx hb dX2_against_49 rfl (lv_at hl 2 rfl) ?_
  refine va_get (D := (dC, dI)) (ci := 2) (v := .int (nI (2))) (C := RX2) (T := TX2) (N := 6) hx hb hts hin2 hown hK hP 0 rfl rfl 5 (by decide) fl24 (fun _ h9 => h9) rfl dX2_against_50 ?_
  refine lv_if_ne (tgt := 194) hx hb dX2_against_53 (by decide) (fun _ => ?_) (fun q => absurd q (by decide))
  refine lv_iload hx hb dX2_against_194 (lv_at hl 1 rfl) ?_
  exact W.iret (v := nI 0) hx hb hr (fun t ht hW => ⟨⟨_, (), rfl, rfl, by rw [ht]; exact hP, va_K.moved hW.alike hK, hD⟩, hS.F ht⟩) hS.2.2 dX2_against_196
set_option maxHeartbeats 4000000 in
set_option maxRecDepth 100000 in
theorem c_X2_count_ok (l : Launch) (dC : Nat → ClassId) (dI : Nat → Nat → Nat) (cD cZ cI cL : ClassId) (h b0 b1 b2 b3 : Nat) (N : Nat → UInt64) (I T R : Nat → Int32) (nn : Nat) (th : Int32) (sz : Nat) (hnn : nn ≤ 6) (wn : Nat) (hwn : wn < 9) : Met l yX2_count wsX2_count ({ frames := 1, cells := 0, slots := 0, locals := 21 }) (va_Pc [.ref h, .int (nI (wn))] (fun U => U.heap.size = sz ∧ okM dC dI cD cZ cI cL h b0 b1 b2 b3 N I T R nn th U U.heap ∧ va_D (fun _ => True) (wM cD cZ cI cL h b0 b1 b2 b3 N I T R nn th))) (va_Qi (fun (r : Int32) (_ : Unit) => r = cR wn (nI nn) (nI (cnt (fun k => decide (I k ≠ 0)) (5 * nn))) (nI (cnt (fun k => decide (I (30 + k) ≠ 0)) (5 * nn))) (nI (5 * nn - cnt (fun k => decide (I k ≠ 0)) (5 * nn))) (nI (5 * nn - cnt (fun k => decide (I (30 + k) ≠ 0)) (5 * nn))) (nI (cnt (fun k => decide (I (ml true k) ≠ 0)) 5)) (nI (cnt (fun k => decide (I (ml false k) ≠ 0)) 5)) (nI (cc2 (fun k => decide (T k = nI 1)) (fun k => decide (T (30 + k) = nI 1)) (5 * nn))) (nI (cc2 (fun k => decide (T k = 0)) (fun k => decide (T (30 + k) = 0)) (5 * nn)))) (fun _ t => atM dC dI cD cZ cI cL (va_A (wM cD cZ cI cL h b0 b1 b2 b3 N I T R nn th) sz) h b0 b1 b2 b3 N I T R nn (nI 0) t) (va_A (wM cD cZ cI cL h b0 b1 b2 b3 N I T R nn th) sz)) 0 0 (va_A (wM cD cZ cI cL h b0 b1 b2 b3 N I T R nn th) sz) := by
  refine Met.ofW (cc := cX2_count) (maxL := 9) (ret := (some .int)) (by decide) rfl ?_
  intro p e s m args below meth c s₁ B hml hv
  obtain ⟨rfl, hsz, hO, hD0⟩ := hv
  obtain ⟨hP, hK⟩ := id hO
  have hx := B.exec
  have hb := B.bytes
  have hr := B.returns
  have hts := atoms_spec (ws := wsX2_count) B.pre
  have hown : s.vm.findClass RX2 = some m.cls := findClass_of_methodNamed B.named
  have hlocks := B.notSynchronized
  subst hsz
  have hD := hD0.self (sz := s.heap.size)
  generalize hAe : va_A (wM cD cZ cI cL h b0 b1 b2 b3 N I T R nn th) s.heap.size = A at hD ⊢
  have hA : ∀ q : Nat, s.heap.size ≤ q → A q := fun q h => by rw [← hAe]; exact Or.inr h
  have hS : va_S A s.heap s.heap [] := va_S.rf
  have hP : va_P (dC, dI) vwCl [(h, .inr (2, [.ref b0, .ref b1, .ref b2, .ref b3, .int (nI (nn)), .int (th)])), (b0, .inl (cD, 70, .inr (.inr (.inr (.inl (N)))))), (b1, .inl (cZ, 70, .inl (I))), (b2, .inl (cI, 60, .inl (T))), (b3, .inl (cI, 6, .inl (R)))] s.heap := hP
  have hD : va_D A [(h, .inr (2, [.ref b0, .ref b1, .ref b2, .ref b3, .int (nI (nn)), .int (th)])), (b0, .inl (cD, 70, .inr (.inr (.inr (.inl (N)))))), (b1, .inl (cZ, 70, .inl (I))), (b2, .inl (cI, 60, .inl (T))), (b3, .inl (cI, 6, .inl (R)))] := hD
  have hin2 : ∀ w ∈ wsX20, w ∈ wsX2_count := (fun w h => List.mem_cons_of_mem _ (List.mem_append_right _ h))
  have fl13 := hts (.fieldLink RX2 13 "JuryTableModel" "isThere" "[Z") (by decide +kernel)
  have fl17 := hts (.fieldLink RX2 17 "JuryTableModel" "truth" "[I") (by decide +kernel)
  have fl24 := hts (.fieldLink RX2 24 "JuryTableModel" "thrown" "I") (by decide +kernel)
  have fl28 := hts (.fieldLink RX2 28 "JuryTableModel" "entries" "I") (by decide +kernel)
  have hl := lv_entry ([.ref h, .int (nI (wn))]) (n := 9) (Nat.le_of_ble_eq_true rfl)
  rw [lg_entry_eq]
  generalize (lg_sl ([.ref h, .int (nI (wn))]) ++ List.replicate (9 - (lg_sl ([.ref h, .int (nI (wn))])).length) Slot.unset).toArray = ls at hl ⊢
  have hl : lv_has ls 9 [(0, .ref h), (1, .int (nI (wn)))] := hl
  refine lv_aload_n hx hb dX2_count_0 rfl (lv_at hl 0 rfl) ?_
  refine lv_iload_n hx hb dX2_count_1 rfl (lv_at hl 1 rfl) ?_
  refine lv_bipush (v := nI 9) hx hb dX2_count_2 (by decide) ?_
  refine vp_callSi (va_Run.run (va_runS (As := [.int (nI (wn)), .int (nI (9))]) (rest := [.ref h]) ⟨hx, hb, hml, hown, hts⟩ (c_X2_in l (nI wn) (9)) (va_cwS 2 hts gX2_count_X2_in rfl rfl rfl (by decide +kernel) ⟨Nat.le_of_ble_eq_true rfl, Nat.le_of_ble_eq_true rfl⟩) preT rfl rfl hl.1 rfl (lv_room (Nat.le_of_ble_eq_true rfl)) dX2_count_4 ⟨Nat.zero_le _, Nat.zero_le _⟩)) (fun r1 er1 => ?_)
  subst er1
  rw [vB_nI (show wn < 9 by omega) (by omega)]
  refine xb_if_eq (tgt := 14) hx hb dX2_count_7 (by decide) (fun q => absurd q (by decide)) (fun _ => ?_)
  refine lv_iconst (v := nI 0) hx hb dX2_count_10 (by decide) ?_
  refine lv_goto (tgt := 15) hx hb dX2_count_11 (by decide) ?_
  refine va_put (D := (dC, dI)) (ci := 2) (v := .int (nI (0))) (ty := .int) (C := RX2) (T := TX2) (N := 6) hx hb hts hin2 tyX2 tyX2_ok nmX2 hown hK hP hD hS 0 rfl rfl 5 (by decide) fl24 (fun _ h9 => h9) rfl (by decide +kernel) rfl rfl (Nat.le_of_ble_eq_true rfl) dX2_count_15 (fun H locs hP hD hS => ?_)
  have hP : va_P (dC, dI) vwCl [(h, .inr (2, [.ref b0, .ref b1, .ref b2, .ref b3, .int (nI (nn)), .int (nI (0))])), (b0, .inl (cD, 70, .inr (.inr (.inr (.inl (N)))))), (b1, .inl (cZ, 70, .inl (I))), (b2, .inl (cI, 60, .inl (T))), (b3, .inl (cI, 6, .inl (R)))] H := hP
  have hD : va_D A [(h, .inr (2, [.ref b0, .ref b1, .ref b2, .ref b3, .int (nI (nn)), .int (nI (0))])), (b0, .inl (cD, 70, .inr (.inr (.inr (.inl (N)))))), (b1, .inl (cZ, 70, .inl (I))), (b2, .inl (cI, 60, .inl (T))), (b3, .inl (cI, 6, .inl (R)))] := hD
  refine lv_aload_n hx hb dX2_count_18 rfl (lv_at hl 0 rfl) ?_
  refine va_get (D := (dC, dI)) (ci := 2) (v := .int (nI (0))) (C := RX2) (T := TX2) (N := 6) hx hb hts hin2 hown hK hP 0 rfl rfl 5 (by decide) fl24 (fun _ h9 => h9) rfl dX2_count_19 ?_
  refine lv_if_le (tgt := 27) hx hb dX2_count_22 (by decide) (fun _ => ?_) (fun q => absurd (by decide) q)
  refine lv_iconst (v := nI 0) hx hb dX2_count_27 (by decide) ?_
  refine lv_istore_n (lv' := [(2, .int (nI (0))), (0, .ref h), (1, .int (nI (wn)))]) hx hb dX2_count_28 rfl hl (by decide) rfl (fun ls hl => ?_)
  refine lv_iconst (v := nI 0) hx hb dX2_count_29 (by decide) ?_
  refine lv_istore_n (lv' := [(3, .int (nI (0))), (2, .int (nI (0))), (0, .ref h), (1, .int (nI (wn)))]) hx hb dX2_count_30 rfl hl (by decide) rfl (fun ls hl => ?_)
  refine lv_iconst (v := nI 0) hx hb dX2_count_31 (by decide) ?_
  refine lv_istore (lv' := [(4, .int (nI (0))), (3, .int (nI (0))), (2, .int (nI (0))), (0, .ref h), (1, .int (nI (wn)))]) hx hb dX2_count_32 hl (by decide) rfl (fun ls hl => ?_)
  refine lv_iconst (v := nI 0) hx hb dX2_count_34 (by decide) ?_
  refine lv_istore (lv' := [(5, .int (nI (0))), (4, .int (nI (0))), (3, .int (nI (0))), (2, .int (nI (0))), (0, .ref h), (1, .int (nI (wn)))]) hx hb dX2_count_35 hl (by decide) rfl (fun ls hl => ?_)
  refine lv_iconst (v := nI 0) hx hb dX2_count_37 (by decide) ?_
  refine lv_istore (lv' := [(6, .int (nI (0))), (5, .int (nI (0))), (4, .int (nI (0))), (3, .int (nI (0))), (2, .int (nI (0))), (0, .ref h), (1, .int (nI (wn)))]) hx hb dX2_count_38 hl (by decide) rfl (fun ls hl => ?_)
  refine W_loop (α := Nat) (P := fun n k ls => k + n = 5 * nn + 1 ∧ k < 5 * nn + 1 ∧ lv_has ls 9 [(2, .int (nI (cnt (fun k => decide (I k ≠ 0)) k))), (3, .int (nI (cnt (fun k => decide (I (30 + k) ≠ 0)) k))), (4, .int (nI (cc2 (fun k => decide (T k = nI 1)) (fun k => decide (T (30 + k) = nI 1)) k))), (5, .int (nI (cc2 (fun k => decide (T k = 0)) (fun k => decide (T (30 + k) = 0)) k))), (6, .int (nI (k))), (0, .ref h), (1, .int (nI (wn)))]) (st := fun _ => []) 40 (fun k ls h => by have := h.1; have := h.2.1; omega) (fun n ih k ls h => ?_) (5 * nn + 1) (0) ls ⟨by omega, by omega, lv_sub hl [4, 3, 2, 1, 0, 5, 6] rfl⟩
  obtain ⟨hkn, hk6, hl⟩ := h
  have hcM := cnt_le (fun k => decide (I k ≠ 0)) k
  have hcP := cnt_le (fun k => decide (I (30 + k) ≠ 0)) k
  have hc1 := cc2_le (fun k => decide (T k = nI 1)) (fun k => decide (T (30 + k) = nI 1)) k
  have hc0 := cc2_le (fun k => decide (T k = 0)) (fun k => decide (T (30 + k) = 0)) k
  refine lv_iload hx hb dX2_count_40 (lv_at hl 4 rfl) ?_
  refine lv_iconst (v := nI 5) hx hb dX2_count_42 (by decide) ?_
  refine lv_aload_n hx hb dX2_count_43 rfl (lv_at hl 5 rfl) ?_
  refine va_get (D := (dC, dI)) (ci := 2) (v := .int (nI (nn))) (C := RX2) (T := TX2) (N := 6) hx hb hts hin2 hown hK hP 0 rfl rfl 4 (by decide) fl28 (fun _ h9 => h9) rfl dX2_count_44 ?_
  refine xn_imul hx hb dX2_count_47 ?_
  refine xn_icmp_ge (tgt := 176) hx hb (by omega) (by omega) dX2_count_48 (by decide) (fun c48 => ?_) (fun c48 => ?_)
  · refine lv_iconst (v := nI 0) hx hb dX2_count_176 (by decide) ?_
    refine lv_istore (lv' := [(6, .int (nI (0))), (2, .int (nI (cnt (fun k => decide (I k ≠ 0)) k))), (3, .int (nI (cnt (fun k => decide (I (30 + k) ≠ 0)) k))), (4, .int (nI (cc2 (fun k => decide (T k = nI 1)) (fun k => decide (T (30 + k) = nI 1)) k))), (5, .int (nI (cc2 (fun k => decide (T k = 0)) (fun k => decide (T (30 + k) = 0)) k))), (0, .ref h), (1, .int (nI (wn)))]) hx hb dX2_count_177 hl (by decide) rfl (fun ls hl => ?_)
    refine lv_iconst (v := nI 0) hx hb dX2_count_179 (by decide) ?_
    refine lv_istore (lv' := [(7, .int (nI (0))), (6, .int (nI (0))), (2, .int (nI (cnt (fun k => decide (I k ≠ 0)) k))), (3, .int (nI (cnt (fun k => decide (I (30 + k) ≠ 0)) k))), (4, .int (nI (cc2 (fun k => decide (T k = nI 1)) (fun k => decide (T (30 + k) = nI 1)) k))), (5, .int (nI (cc2 (fun k => decide (T k = 0)) (fun k => decide (T (30 + k) = 0)) k))), (0, .ref h), (1, .int (nI (wn)))]) hx hb dX2_count_180 hl (by decide) rfl (fun ls hl => ?_)
    refine lv_iconst (v := nI 0) hx hb dX2_count_182 (by decide) ?_
    refine lv_istore (lv' := [(8, .int (nI (0))), (7, .int (nI (0))), (6, .int (nI (0))), (2, .int (nI (cnt (fun k => decide (I k ≠ 0)) k))), (3, .int (nI (cnt (fun k => decide (I (30 + k) ≠ 0)) k))), (4, .int (nI (cc2 (fun k => decide (T k = nI 1)) (fun k => decide (T (30 + k) = nI 1)) k))), (5, .int (nI (cc2 (fun k => decide (T k = 0)) (fun k => decide (T (30 + k) = 0)) k))), (0, .ref h), (1, .int (nI (wn)))]) hx hb dX2_count_183 hl (by decide) rfl (fun ls hl => ?_)
    have hk9 : k = 5 * nn := by omega
    subst hk9
    refine W_loop (α := Nat) (P := fun n i ls => i + n = 6 ∧ i < 6 ∧ lv_has ls 9 [(6, .int (nI (cnt (fun k => decide (I (ml true k) ≠ 0)) i))), (7, .int (nI (cnt (fun k => decide (I (ml false k) ≠ 0)) i))), (8, .int (nI (i))), (0, .ref h), (1, .int (nI (wn))), (2, .int (nI (cnt (fun k => decide (I k ≠ 0)) (5 * nn)))), (3, .int (nI (cnt (fun k => decide (I (30 + k) ≠ 0)) (5 * nn)))), (4, .int (nI (cc2 (fun k => decide (T k = nI 1)) (fun k => decide (T (30 + k) = nI 1)) (5 * nn)))), (5, .int (nI (cc2 (fun k => decide (T k = 0)) (fun k => decide (T (30 + k) = 0)) (5 * nn))))]) (st := fun _ => []) 185 (fun i ls h => by have := h.1; have := h.2.1; omega) (fun n ih i ls h => ?_) (6) (0) ls ⟨by omega, by omega, lv_sub hl [2, 1, 0, 7, 8, 3, 4, 5, 6] rfl⟩
    obtain ⟨hin, hi6, hl⟩ := h
    have hcB := cnt_le (fun k => decide (I (ml true k) ≠ 0)) i
    have hcL := cnt_le (fun k => decide (I (ml false k) ≠ 0)) i
    refine lv_iload hx hb dX2_count_185 (lv_at hl 2 rfl) ?_
    refine lv_iconst (v := nI 5) hx hb dX2_count_187 (by decide) ?_
    refine xn_icmp_ge (tgt := 245) hx hb (by omega) (by decide) dX2_count_188 (by decide) (fun c188 => ?_) (fun c188 => ?_)
    · have hi9 : i = 5 := by omega
      subst hi9
      refine lv_iload_n hx hb dX2_count_245 rfl (lv_at hl 4 rfl) ?_
      rcases (show wn = 0 ∨ wn = 1 ∨ wn = 2 ∨ wn = 3 ∨ wn = 4 ∨ wn = 5 ∨ wn = 6 ∨ wn = 7 ∨ 7 < wn by omega) with hsw | hsw | hsw | hsw | hsw | hsw | hsw | hsw | hgt
      · refine lv_tableIn (off := 46) (tgt := 292) hx hb dX2_count_246 (by rw [hsw]; decide) (by rw [hsw]; decide) (by rw [hsw]; decide) (by decide) ?_
        refine lv_aload_n hx hb dX2_count_292 rfl (lv_at hl 3 rfl) ?_
        refine va_get (D := (dC, dI)) (ci := 2) (v := .int (nI (nn))) (C := RX2) (T := TX2) (N := 6) hx hb hts hin2 hown hK hP 0 rfl rfl 4 (by decide) fl28 (fun _ h9 => h9) rfl dX2_count_293 ?_
        exact W.iret (v := nI nn) hx hb hr (fun t ht hW => ⟨⟨_, (), rfl, (by simp [cR, hsw]), by rw [ht]; exact hP, va_K.moved hW.alike hK, hD⟩, hS.F ht⟩) hS.2.2 dX2_count_296
      · refine lv_tableIn (off := 51) (tgt := 297) hx hb dX2_count_246 (by rw [hsw]; decide) (by rw [hsw]; decide) (by rw [hsw]; decide) (by decide) ?_
        refine lv_iload_n hx hb dX2_count_297 rfl (lv_at hl 5 rfl) ?_
        exact W.iret (v := nI (cnt (fun k => decide (I k ≠ 0)) (5 * nn))) hx hb hr (fun t ht hW => ⟨⟨_, (), rfl, (by simp [cR, hsw]), by rw [ht]; exact hP, va_K.moved hW.alike hK, hD⟩, hS.F ht⟩) hS.2.2 dX2_count_298
      · refine lv_tableIn (off := 53) (tgt := 299) hx hb dX2_count_246 (by rw [hsw]; decide) (by rw [hsw]; decide) (by rw [hsw]; decide) (by decide) ?_
        refine lv_iload_n hx hb dX2_count_299 rfl (lv_at hl 6 rfl) ?_
        exact W.iret (v := nI (cnt (fun k => decide (I (30 + k) ≠ 0)) (5 * nn))) hx hb hr (fun t ht hW => ⟨⟨_, (), rfl, (by simp [cR, hsw]), by rw [ht]; exact hP, va_K.moved hW.alike hK, hD⟩, hS.F ht⟩) hS.2.2 dX2_count_300
      · refine lv_tableIn (off := 55) (tgt := 301) hx hb dX2_count_246 (by rw [hsw]; decide) (by rw [hsw]; decide) (by rw [hsw]; decide) (by decide) ?_
        refine lv_iconst (v := nI 5) hx hb dX2_count_301 (by decide) ?_
        refine lv_aload_n hx hb dX2_count_302 rfl (lv_at hl 3 rfl) ?_
        refine va_get (D := (dC, dI)) (ci := 2) (v := .int (nI (nn))) (C := RX2) (T := TX2) (N := 6) hx hb hts hin2 hown hK hP 0 rfl rfl 4 (by decide) fl28 (fun _ h9 => h9) rfl dX2_count_303 ?_
        refine xn_imul hx hb dX2_count_306 ?_
        refine lv_iload_n hx hb dX2_count_307 rfl (lv_at hl 5 rfl) ?_
        refine xn_isub hx hb (by omega) dX2_count_308 ?_
        exact W.iret (v := nI ((5 * nn) - (cnt (fun k => decide (I k ≠ 0)) (5 * nn)))) hx hb hr (fun t ht hW => ⟨⟨_, (), rfl, (by simp [cR, hsw]), by rw [ht]; exact hP, va_K.moved hW.alike hK, hD⟩, hS.F ht⟩) hS.2.2 dX2_count_309
      · refine lv_tableIn (off := 64) (tgt := 310) hx hb dX2_count_246 (by rw [hsw]; decide) (by rw [hsw]; decide) (by rw [hsw]; decide) (by decide) ?_
        refine lv_iconst (v := nI 5) hx hb dX2_count_310 (by decide) ?_
        refine lv_aload_n hx hb dX2_count_311 rfl (lv_at hl 3 rfl) ?_
        refine va_get (D := (dC, dI)) (ci := 2) (v := .int (nI (nn))) (C := RX2) (T := TX2) (N := 6) hx hb hts hin2 hown hK hP 0 rfl rfl 4 (by decide) fl28 (fun _ h9 => h9) rfl dX2_count_312 ?_
        refine xn_imul hx hb dX2_count_315 ?_
        refine lv_iload_n hx hb dX2_count_316 rfl (lv_at hl 6 rfl) ?_
        refine xn_isub hx hb (by omega) dX2_count_317 ?_
        exact W.iret (v := nI ((5 * nn) - (cnt (fun k => decide (I (30 + k) ≠ 0)) (5 * nn)))) hx hb hr (fun t ht hW => ⟨⟨_, (), rfl, (by simp [cR, hsw]), by rw [ht]; exact hP, va_K.moved hW.alike hK, hD⟩, hS.F ht⟩) hS.2.2 dX2_count_318
      · refine lv_tableIn (off := 73) (tgt := 319) hx hb dX2_count_246 (by rw [hsw]; decide) (by rw [hsw]; decide) (by rw [hsw]; decide) (by decide) ?_
        refine lv_iload hx hb dX2_count_319 (lv_at hl 0 rfl) ?_
        exact W.iret (v := nI (cnt (fun k => decide (I (ml true k) ≠ 0)) 5)) hx hb hr (fun t ht hW => ⟨⟨_, (), rfl, (by simp [cR, hsw]), by rw [ht]; exact hP, va_K.moved hW.alike hK, hD⟩, hS.F ht⟩) hS.2.2 dX2_count_321
      · refine lv_tableIn (off := 76) (tgt := 322) hx hb dX2_count_246 (by rw [hsw]; decide) (by rw [hsw]; decide) (by rw [hsw]; decide) (by decide) ?_
        refine lv_iload hx hb dX2_count_322 (lv_at hl 1 rfl) ?_
        exact W.iret (v := nI (cnt (fun k => decide (I (ml false k) ≠ 0)) 5)) hx hb hr (fun t ht hW => ⟨⟨_, (), rfl, (by simp [cR, hsw]), by rw [ht]; exact hP, va_K.moved hW.alike hK, hD⟩, hS.F ht⟩) hS.2.2 dX2_count_324
      · refine lv_tableIn (off := 79) (tgt := 325) hx hb dX2_count_246 (by rw [hsw]; decide) (by rw [hsw]; decide) (by rw [hsw]; decide) (by decide) ?_
        refine lv_iload hx hb dX2_count_325 (lv_at hl 7 rfl) ?_
        exact W.iret (v := nI (cc2 (fun k => decide (T k = nI 1)) (fun k => decide (T (30 + k) = nI 1)) (5 * nn))) hx hb hr (fun t ht hW => ⟨⟨_, (), rfl, (by simp [cR, hsw]), by rw [ht]; exact hP, va_K.moved hW.alike hK, hD⟩, hS.F ht⟩) hS.2.2 dX2_count_327
      · refine xn_tableOut (tgt := 328) hx hb (by omega) dX2_count_246 (by omega) (by decide) ?_
        have hd0 : wn ≠ 0 := by omega
        have hd1 : wn ≠ 1 := by omega
        have hd2 : wn ≠ 2 := by omega
        have hd3 : wn ≠ 3 := by omega
        have hd4 : wn ≠ 4 := by omega
        have hd5 : wn ≠ 5 := by omega
        have hd6 : wn ≠ 6 := by omega
        have hd7 : wn ≠ 7 := by omega
        refine lv_iload hx hb dX2_count_328 (lv_at hl 8 rfl) ?_
        exact W.iret (v := nI (cc2 (fun k => decide (T k = 0)) (fun k => decide (T (30 + k) = 0)) (5 * nn))) hx hb hr (fun t ht hW => ⟨⟨_, (), rfl, (by simp [cR, hd0, hd1, hd2, hd3, hd4, hd5, hd6, hd7]), by rw [ht]; exact hP, va_K.moved hW.alike hK, hD⟩, hS.F ht⟩) hS.2.2 dX2_count_330
    · refine lv_iload hx hb dX2_count_191 (lv_at hl 0 rfl) ?_
      refine lv_aload_n hx hb dX2_count_193 rfl (lv_at hl 3 rfl) ?_
      refine va_get (D := (dC, dI)) (ci := 2) (v := .ref b1) (C := RX2) (T := TX2) (N := 6) hx hb hts hin2 hown hK hP 0 rfl rfl 1 (by decide) fl13 (fun _ h9 => h9) rfl dX2_count_194 ?_
      refine lv_iconst (v := nI 1) hx hb dX2_count_197 (by decide) ?_
      refine lv_iload hx hb dX2_count_198 (lv_at hl 2 rfl) ?_
      refine vp_callSi (va_Run.run (va_runS (As := [.int (nI (1)), .int (nI (i))]) (rest := [.ref b1, .int (nI (cnt (fun k => decide (I (ml true k) ≠ 0)) i))]) ⟨hx, hb, hml, hown, hts⟩ (c_X2_limit l (true) (i)) (va_cwS 2 hts gX2_count_X2_limit rfl rfl rfl (by decide +kernel) ⟨Nat.le_of_ble_eq_true rfl, Nat.le_of_ble_eq_true rfl⟩) preT rfl rfl hl.1 rfl (lv_room (Nat.le_of_ble_eq_true rfl)) dX2_count_200 ⟨Nat.zero_le _, Nat.zero_le _⟩)) (fun r2 er2 => ?_)
      subst er2
      have := ml_lt (f := true) (b := i) (by omega)
      refine xn_zald hx hb hK hP 2 1 rfl rfl (n := 70) (j := ml true i) (by omega) (by decide) dX2_count_203 ?_
      refine jr_if_eq hx hb dX2_count_204 dX2_count_207 dX2_count_208 dX2_count_211 ?_
      refine xn_iadd hx hb dX2_count_212 ?_
      refine lv_istore (lv' := [(6, .int (nI ((cnt (fun k => decide (I (ml true k) ≠ 0)) i) + (Bool.toNat (decide ((I (ml true i)) ≠ 0)))))), (7, .int (nI (cnt (fun k => decide (I (ml false k) ≠ 0)) i))), (8, .int (nI (i))), (0, .ref h), (1, .int (nI (wn))), (2, .int (nI (cnt (fun k => decide (I k ≠ 0)) (5 * nn)))), (3, .int (nI (cnt (fun k => decide (I (30 + k) ≠ 0)) (5 * nn)))), (4, .int (nI (cc2 (fun k => decide (T k = nI 1)) (fun k => decide (T (30 + k) = nI 1)) (5 * nn)))), (5, .int (nI (cc2 (fun k => decide (T k = 0)) (fun k => decide (T (30 + k) = 0)) (5 * nn))))]) hx hb dX2_count_213 hl (by decide) rfl (fun ls hl => ?_)
      refine lv_iload hx hb dX2_count_215 (lv_at hl 1 rfl) ?_
      refine lv_aload_n hx hb dX2_count_217 rfl (lv_at hl 3 rfl) ?_
      refine va_get (D := (dC, dI)) (ci := 2) (v := .ref b1) (C := RX2) (T := TX2) (N := 6) hx hb hts hin2 hown hK hP 0 rfl rfl 1 (by decide) fl13 (fun _ h9 => h9) rfl dX2_count_218 ?_
      refine lv_iconst (v := nI 0) hx hb dX2_count_221 (by decide) ?_
      refine lv_iload hx hb dX2_count_222 (lv_at hl 2 rfl) ?_
      refine vp_callSi (va_Run.run (va_runS (As := [.int (nI (0)), .int (nI (i))]) (rest := [.ref b1, .int (nI (cnt (fun k => decide (I (ml false k) ≠ 0)) i))]) ⟨hx, hb, hml, hown, hts⟩ (c_X2_limit l (false) (i)) (va_cwS 2 hts gX2_count_X2_limit rfl rfl rfl (by decide +kernel) ⟨Nat.le_of_ble_eq_true rfl, Nat.le_of_ble_eq_true rfl⟩) preT rfl rfl hl.1 rfl (lv_room (Nat.le_of_ble_eq_true rfl)) dX2_count_224 ⟨Nat.zero_le _, Nat.zero_le _⟩)) (fun r3 er3 => ?_)
      subst er3
      have := ml_lt (f := false) (b := i) (by omega)
      refine xn_zald hx hb hK hP 2 1 rfl rfl (n := 70) (j := ml false i) (by omega) (by decide) dX2_count_227 ?_
      refine jr_if_eq hx hb dX2_count_228 dX2_count_231 dX2_count_232 dX2_count_235 ?_
      refine xn_iadd hx hb dX2_count_236 ?_
      refine lv_istore (lv' := [(7, .int (nI ((cnt (fun k => decide (I (ml false k) ≠ 0)) i) + (Bool.toNat (decide ((I (ml false i)) ≠ 0)))))), (6, .int (nI ((cnt (fun k => decide (I (ml true k) ≠ 0)) i) + (Bool.toNat (decide ((I (ml true i)) ≠ 0)))))), (8, .int (nI (i))), (0, .ref h), (1, .int (nI (wn))), (2, .int (nI (cnt (fun k => decide (I k ≠ 0)) (5 * nn)))), (3, .int (nI (cnt (fun k => decide (I (30 + k) ≠ 0)) (5 * nn)))), (4, .int (nI (cc2 (fun k => decide (T k = nI 1)) (fun k => decide (T (30 + k) = nI 1)) (5 * nn)))), (5, .int (nI (cc2 (fun k => decide (T k = 0)) (fun k => decide (T (30 + k) = 0)) (5 * nn))))]) hx hb dX2_count_237 hl (by decide) rfl (fun ls hl => ?_)
      refine xn_iinc (lv2 := [(8, .int (nI (i + 1))), (7, .int (nI ((cnt (fun k => decide (I (ml false k) ≠ 0)) i) + (Bool.toNat (decide ((I (ml false i)) ≠ 0)))))), (6, .int (nI ((cnt (fun k => decide (I (ml true k) ≠ 0)) i) + (Bool.toNat (decide ((I (ml true i)) ≠ 0)))))), (0, .ref h), (1, .int (nI (wn))), (2, .int (nI (cnt (fun k => decide (I k ≠ 0)) (5 * nn)))), (3, .int (nI (cnt (fun k => decide (I (30 + k) ≠ 0)) (5 * nn)))), (4, .int (nI (cc2 (fun k => decide (T k = nI 1)) (fun k => decide (T (30 + k) = nI 1)) (5 * nn)))), (5, .int (nI (cc2 (fun k => decide (T k = 0)) (fun k => decide (T (30 + k) = 0)) (5 * nn))))]) hx hb dX2_count_239 hl (k0 := 2) rfl (by decide) rfl (fun ls hl => ?_)
      refine lv_goto (tgt := 185) hx hb dX2_count_242 (by decide) ?_
      exact ih (i + 1) ls ⟨by omega, by omega, lv_sub hl [2, 1, 0, 3, 4, 5, 6, 7, 8] rfl⟩
  · refine lv_iload_n hx hb dX2_count_51 rfl (lv_at hl 0 rfl) ?_
    refine lv_aload_n hx hb dX2_count_52 rfl (lv_at hl 5 rfl) ?_
    refine va_get (D := (dC, dI)) (ci := 2) (v := .ref b1) (C := RX2) (T := TX2) (N := 6) hx hb hts hin2 hown hK hP 0 rfl rfl 1 (by decide) fl13 (fun _ h9 => h9) rfl dX2_count_53 ?_
    refine lv_iload hx hb dX2_count_56 (lv_at hl 4 rfl) ?_
    refine xn_zald hx hb hK hP 2 1 rfl rfl (n := 70) (j := k) (by omega) (by decide) dX2_count_58 ?_
    refine jr_if_eq hx hb dX2_count_59 dX2_count_62 dX2_count_63 dX2_count_66 ?_
    refine xn_iadd hx hb dX2_count_67 ?_
    refine lv_istore_n (lv' := [(2, .int (nI ((cnt (fun k => decide (I k ≠ 0)) k) + (Bool.toNat (decide ((I k) ≠ 0)))))), (3, .int (nI (cnt (fun k => decide (I (30 + k) ≠ 0)) k))), (4, .int (nI (cc2 (fun k => decide (T k = nI 1)) (fun k => decide (T (30 + k) = nI 1)) k))), (5, .int (nI (cc2 (fun k => decide (T k = 0)) (fun k => decide (T (30 + k) = 0)) k))), (6, .int (nI (k))), (0, .ref h), (1, .int (nI (wn)))]) hx hb dX2_count_68 rfl hl (by decide) rfl (fun ls hl => ?_)
    refine lv_iload_n hx hb dX2_count_69 rfl (lv_at hl 1 rfl) ?_
    refine lv_aload_n hx hb dX2_count_70 rfl (lv_at hl 5 rfl) ?_
    refine va_get (D := (dC, dI)) (ci := 2) (v := .ref b1) (C := RX2) (T := TX2) (N := 6) hx hb hts hin2 hown hK hP 0 rfl rfl 1 (by decide) fl13 (fun _ h9 => h9) rfl dX2_count_71 ?_
    refine lv_bipush (v := nI 30) hx hb dX2_count_74 (by decide) ?_
    refine lv_iload hx hb dX2_count_76 (lv_at hl 4 rfl) ?_
    refine xn_iadd hx hb dX2_count_78 ?_
    refine xn_zald hx hb hK hP 2 1 rfl rfl (n := 70) (j := 30 + k) (by omega) (by decide) dX2_count_79 ?_
    refine jr_if_eq hx hb dX2_count_80 dX2_count_83 dX2_count_84 dX2_count_87 ?_
    refine xn_iadd hx hb dX2_count_88 ?_
    refine lv_istore_n (lv' := [(3, .int (nI ((cnt (fun k => decide (I (30 + k) ≠ 0)) k) + (Bool.toNat (decide ((I (30 + k)) ≠ 0)))))), (2, .int (nI ((cnt (fun k => decide (I k ≠ 0)) k) + (Bool.toNat (decide ((I k) ≠ 0)))))), (4, .int (nI (cc2 (fun k => decide (T k = nI 1)) (fun k => decide (T (30 + k) = nI 1)) k))), (5, .int (nI (cc2 (fun k => decide (T k = 0)) (fun k => decide (T (30 + k) = 0)) k))), (6, .int (nI (k))), (0, .ref h), (1, .int (nI (wn)))]) hx hb dX2_count_89 rfl hl (by decide) rfl (fun ls hl => ?_)
    refine lv_iload hx hb dX2_count_90 (lv_at hl 2 rfl) ?_
    refine lv_aload_n hx hb dX2_count_92 rfl (lv_at hl 5 rfl) ?_
    refine va_get (D := (dC, dI)) (ci := 2) (v := .ref b2) (C := RX2) (T := TX2) (N := 6) hx hb hts hin2 hown hK hP 0 rfl rfl 2 (by decide) fl17 (fun _ h9 => h9) rfl dX2_count_93 ?_
    refine lv_iload hx hb dX2_count_96 (lv_at hl 4 rfl) ?_
    refine xn_iald hx hb hK hP 3 2 rfl rfl (n := 60) (j := k) (by omega) (by decide) dX2_count_98 ?_
    refine lv_iconst (v := nI 1) hx hb dX2_count_99 (by decide) ?_
    refine jr_icmp_ne hx hb dX2_count_100 dX2_count_103 dX2_count_104 dX2_count_107 ?_
    refine lv_aload_n hx hb dX2_count_108 rfl (lv_at hl 5 rfl) ?_
    refine va_get (D := (dC, dI)) (ci := 2) (v := .ref b2) (C := RX2) (T := TX2) (N := 6) hx hb hts hin2 hown hK hP 0 rfl rfl 2 (by decide) fl17 (fun _ h9 => h9) rfl dX2_count_109 ?_
    refine lv_bipush (v := nI 30) hx hb dX2_count_112 (by decide) ?_
    refine lv_iload hx hb dX2_count_114 (lv_at hl 4 rfl) ?_
    refine xn_iadd hx hb dX2_count_116 ?_
    refine xn_iald hx hb hK hP 3 2 rfl rfl (n := 60) (j := 30 + k) (by omega) (by decide) dX2_count_117 ?_
    refine lv_iconst (v := nI 1) hx hb dX2_count_118 (by decide) ?_
    refine jr_icmp_ne hx hb dX2_count_119 dX2_count_122 dX2_count_123 dX2_count_126 ?_
    refine xn_iadd hx hb dX2_count_127 ?_
    refine xn_iadd hx hb dX2_count_128 ?_
    refine lv_istore (lv' := [(4, .int (nI ((cc2 (fun k => decide (T k = nI 1)) (fun k => decide (T (30 + k) = nI 1)) k) + ((Bool.toNat (decide ((T k) = (nI 1)))) + (Bool.toNat (decide ((T (30 + k)) = (nI 1)))))))), (3, .int (nI ((cnt (fun k => decide (I (30 + k) ≠ 0)) k) + (Bool.toNat (decide ((I (30 + k)) ≠ 0)))))), (2, .int (nI ((cnt (fun k => decide (I k ≠ 0)) k) + (Bool.toNat (decide ((I k) ≠ 0)))))), (5, .int (nI (cc2 (fun k => decide (T k = 0)) (fun k => decide (T (30 + k) = 0)) k))), (6, .int (nI (k))), (0, .ref h), (1, .int (nI (wn)))]) hx hb dX2_count_129 hl (by decide) rfl (fun ls hl => ?_)
    refine lv_iload hx hb dX2_count_131 (lv_at hl 3 rfl) ?_
    refine lv_aload_n hx hb dX2_count_133 rfl (lv_at hl 5 rfl) ?_
    refine va_get (D := (dC, dI)) (ci := 2) (v := .ref b2) (C := RX2) (T := TX2) (N := 6) hx hb hts hin2 hown hK hP 0 rfl rfl 2 (by decide) fl17 (fun _ h9 => h9) rfl dX2_count_134 ?_
    refine lv_iload hx hb dX2_count_137 (lv_at hl 4 rfl) ?_
    refine xn_iald hx hb hK hP 3 2 rfl rfl (n := 60) (j := k) (by omega) (by decide) dX2_count_139 ?_
    refine jr_if_ne hx hb dX2_count_140 dX2_count_143 dX2_count_144 dX2_count_147 ?_
    refine lv_aload_n hx hb dX2_count_148 rfl (lv_at hl 5 rfl) ?_
    refine va_get (D := (dC, dI)) (ci := 2) (v := .ref b2) (C := RX2) (T := TX2) (N := 6) hx hb hts hin2 hown hK hP 0 rfl rfl 2 (by decide) fl17 (fun _ h9 => h9) rfl dX2_count_149 ?_
    refine lv_bipush (v := nI 30) hx hb dX2_count_152 (by decide) ?_
    refine lv_iload hx hb dX2_count_154 (lv_at hl 4 rfl) ?_
    refine xn_iadd hx hb dX2_count_156 ?_
    refine xn_iald hx hb hK hP 3 2 rfl rfl (n := 60) (j := 30 + k) (by omega) (by decide) dX2_count_157 ?_
    refine jr_if_ne hx hb dX2_count_158 dX2_count_161 dX2_count_162 dX2_count_165 ?_
    refine xn_iadd hx hb dX2_count_166 ?_
    refine xn_iadd hx hb dX2_count_167 ?_
    refine lv_istore (lv' := [(5, .int (nI ((cc2 (fun k => decide (T k = 0)) (fun k => decide (T (30 + k) = 0)) k) + ((Bool.toNat (decide ((T k) = 0))) + (Bool.toNat (decide ((T (30 + k)) = 0))))))), (4, .int (nI ((cc2 (fun k => decide (T k = nI 1)) (fun k => decide (T (30 + k) = nI 1)) k) + ((Bool.toNat (decide ((T k) = (nI 1)))) + (Bool.toNat (decide ((T (30 + k)) = (nI 1)))))))), (3, .int (nI ((cnt (fun k => decide (I (30 + k) ≠ 0)) k) + (Bool.toNat (decide ((I (30 + k)) ≠ 0)))))), (2, .int (nI ((cnt (fun k => decide (I k ≠ 0)) k) + (Bool.toNat (decide ((I k) ≠ 0)))))), (6, .int (nI (k))), (0, .ref h), (1, .int (nI (wn)))]) hx hb dX2_count_168 hl (by decide) rfl (fun ls hl => ?_)
    refine xn_iinc (lv2 := [(6, .int (nI (k + 1))), (5, .int (nI ((cc2 (fun k => decide (T k = 0)) (fun k => decide (T (30 + k) = 0)) k) + ((Bool.toNat (decide ((T k) = 0))) + (Bool.toNat (decide ((T (30 + k)) = 0))))))), (4, .int (nI ((cc2 (fun k => decide (T k = nI 1)) (fun k => decide (T (30 + k) = nI 1)) k) + ((Bool.toNat (decide ((T k) = (nI 1)))) + (Bool.toNat (decide ((T (30 + k)) = (nI 1)))))))), (3, .int (nI ((cnt (fun k => decide (I (30 + k) ≠ 0)) k) + (Bool.toNat (decide ((I (30 + k)) ≠ 0)))))), (2, .int (nI ((cnt (fun k => decide (I k ≠ 0)) k) + (Bool.toNat (decide ((I k) ≠ 0)))))), (0, .ref h), (1, .int (nI (wn)))]) hx hb dX2_count_170 hl (k0 := 4) rfl (by decide) rfl (fun ls hl => ?_)
    refine lv_goto (tgt := 40) hx hb dX2_count_173 (by decide) ?_
    exact ih (k + 1) ls ⟨by omega, by omega, lv_sub hl [4, 3, 2, 1, 0, 5, 6] rfl⟩
set_option maxHeartbeats 4000000 in
set_option maxRecDepth 100000 in
theorem c_X2_count_n1 (l : Launch) (dC : Nat → ClassId) (dI : Nat → Nat → Nat) (cD cZ cI cL : ClassId) (h b0 b1 b2 b3 : Nat) (N : Nat → UInt64) (I T R : Nat → Int32) (nn : Nat) (th : Int32) (sz : Nat) (wv : Int32) (hbad : vB wv 9 = false) : Met l yX2_count wsX2_count ({ frames := 1, cells := 0, slots := 0, locals := 21 }) (va_Pc [.ref h, .int (wv)] (fun U => U.heap.size = sz ∧ okM dC dI cD cZ cI cL h b0 b1 b2 b3 N I T R nn th U U.heap ∧ va_D (fun _ => True) (wM cD cZ cI cL h b0 b1 b2 b3 N I T R nn th))) (va_Qi (fun (r : Int32) (_ : Unit) => r = nI 0) (fun _ t => atM dC dI cD cZ cI cL (va_A (wM cD cZ cI cL h b0 b1 b2 b3 N I T R nn th) sz) h b0 b1 b2 b3 N I T R nn (nI 1) t) (va_A (wM cD cZ cI cL h b0 b1 b2 b3 N I T R nn th) sz)) 0 0 (va_A (wM cD cZ cI cL h b0 b1 b2 b3 N I T R nn th) sz) := by
  refine Met.ofW (cc := cX2_count) (maxL := 9) (ret := (some .int)) (by decide) rfl ?_
  intro p e s m args below meth c s₁ B hml hv
  obtain ⟨rfl, hsz, hO, hD0⟩ := hv
  obtain ⟨hP, hK⟩ := id hO
  have hx := B.exec
  have hb := B.bytes
  have hr := B.returns
  have hts := atoms_spec (ws := wsX2_count) B.pre
  have hown : s.vm.findClass RX2 = some m.cls := findClass_of_methodNamed B.named
  have hlocks := B.notSynchronized
  subst hsz
  have hD := hD0.self (sz := s.heap.size)
  generalize hAe : va_A (wM cD cZ cI cL h b0 b1 b2 b3 N I T R nn th) s.heap.size = A at hD ⊢
  have hA : ∀ q : Nat, s.heap.size ≤ q → A q := fun q h => by rw [← hAe]; exact Or.inr h
  have hS : va_S A s.heap s.heap [] := va_S.rf
  have hP : va_P (dC, dI) vwCl [(h, .inr (2, [.ref b0, .ref b1, .ref b2, .ref b3, .int (nI (nn)), .int (th)])), (b0, .inl (cD, 70, .inr (.inr (.inr (.inl (N)))))), (b1, .inl (cZ, 70, .inl (I))), (b2, .inl (cI, 60, .inl (T))), (b3, .inl (cI, 6, .inl (R)))] s.heap := hP
  have hD : va_D A [(h, .inr (2, [.ref b0, .ref b1, .ref b2, .ref b3, .int (nI (nn)), .int (th)])), (b0, .inl (cD, 70, .inr (.inr (.inr (.inl (N)))))), (b1, .inl (cZ, 70, .inl (I))), (b2, .inl (cI, 60, .inl (T))), (b3, .inl (cI, 6, .inl (R)))] := hD
  have hin2 : ∀ w ∈ wsX20, w ∈ wsX2_count := (fun w h => List.mem_cons_of_mem _ (List.mem_append_right _ h))
  have fl24 := hts (.fieldLink RX2 24 "JuryTableModel" "thrown" "I") (by decide +kernel)
  have hl := lv_entry ([.ref h, .int (wv)]) (n := 9) (Nat.le_of_ble_eq_true rfl)
  rw [lg_entry_eq]
  generalize (lg_sl ([.ref h, .int (wv)]) ++ List.replicate (9 - (lg_sl ([.ref h, .int (wv)])).length) Slot.unset).toArray = ls at hl ⊢
  have hl : lv_has ls 9 [(0, .ref h), (1, .int (wv))] := hl
  refine lv_aload_n hx hb dX2_count_0 rfl (lv_at hl 0 rfl) ?_
  refine lv_iload_n hx hb dX2_count_1 rfl (lv_at hl 1 rfl) ?_
  refine lv_bipush (v := nI 9) hx hb dX2_count_2 (by decide) ?_
  refine vp_callSi (va_Run.run (va_runS (As := [.int (wv), .int (nI (9))]) (rest := [.ref h]) ⟨hx, hb, hml, hown, hts⟩ (c_X2_in l (wv) (9)) (va_cwS 2 hts gX2_count_X2_in rfl rfl rfl (by decide +kernel) ⟨Nat.le_of_ble_eq_true rfl, Nat.le_of_ble_eq_true rfl⟩) preT rfl rfl hl.1 rfl (lv_room (Nat.le_of_ble_eq_true rfl)) dX2_count_4 ⟨Nat.zero_le _, Nat.zero_le _⟩)) (fun r1 er1 => ?_)
  subst er1
  rw [hbad]
  refine xb_if_eq (tgt := 14) hx hb dX2_count_7 (by decide) (fun _ => ?_) (fun q => absurd q (by decide))
  refine lv_iconst (v := nI 1) hx hb dX2_count_14 (by decide) ?_
  refine va_put (D := (dC, dI)) (ci := 2) (v := .int (nI (1))) (ty := .int) (C := RX2) (T := TX2) (N := 6) hx hb hts hin2 tyX2 tyX2_ok nmX2 hown hK hP hD hS 0 rfl rfl 5 (by decide) fl24 (fun _ h9 => h9) rfl (by decide +kernel) rfl rfl (Nat.le_of_ble_eq_true rfl) dX2_count_15 (fun H locs hP hD hS => ?_)
  have hP : va_P (dC, dI) vwCl [(h, .inr (2, [.ref b0, .ref b1, .ref b2, .ref b3, .int (nI (nn)), .int (nI (1))])), (b0, .inl (cD, 70, .inr (.inr (.inr (.inl (N)))))), (b1, .inl (cZ, 70, .inl (I))), (b2, .inl (cI, 60, .inl (T))), (b3, .inl (cI, 6, .inl (R)))] H := hP
  have hD : va_D A [(h, .inr (2, [.ref b0, .ref b1, .ref b2, .ref b3, .int (nI (nn)), .int (nI (1))])), (b0, .inl (cD, 70, .inr (.inr (.inr (.inl (N)))))), (b1, .inl (cZ, 70, .inl (I))), (b2, .inl (cI, 60, .inl (T))), (b3, .inl (cI, 6, .inl (R)))] := hD
  refine lv_aload_n hx hb dX2_count_18 rfl (lv_at hl 0 rfl) ?_
  refine va_get (D := (dC, dI)) (ci := 2) (v := .int (nI (1))) (C := RX2) (T := TX2) (N := 6) hx hb hts hin2 hown hK hP 0 rfl rfl 5 (by decide) fl24 (fun _ h9 => h9) rfl dX2_count_19 ?_
  refine lv_if_le (tgt := 27) hx hb dX2_count_22 (by decide) (fun q => absurd q (by decide)) (fun _ => ?_)
  refine lv_iconst (v := nI 0) hx hb dX2_count_25 (by decide) ?_
  exact W.iret (v := nI 0) hx hb hr (fun t ht hW => ⟨⟨_, (), rfl, rfl, by rw [ht]; exact hP, va_K.moved hW.alike hK, hD⟩, hS.F ht⟩) hS.2.2 dX2_count_26
set_option maxHeartbeats 4000000 in
set_option maxRecDepth 100000 in
theorem c_X2_place_ok (l : Launch) (dC : Nat → ClassId) (dI : Nat → Nat → Nat) (cD cZ cI cL : ClassId) (h b0 b1 b2 b3 : Nat) (N : Nat → UInt64) (I T R : Nat → Int32) (nn : Nat) (th : Int32) (sz : Nat) (hnn : nn ≤ 6) (fb : Bool) (en bn : Nat) (sb : Bool) (hen : en < nn) (hbn : bn < 5) (hq : ∀ x y, FP.dcmp (N x) (N y) ≠ none) : Met l yX2_place wsX2_place ({ frames := 2, cells := 0, slots := 0, locals := 42 }) (va_Pc [.ref h, .int (nI (Bool.toNat (fb))), .int (nI (en)), .int (nI (bn)), .int (nI (Bool.toNat (sb)))] (fun U => U.heap.size = sz ∧ okM dC dI cD cZ cI cL h b0 b1 b2 b3 N I T R nn th U U.heap ∧ va_D (fun _ => True) (wM cD cZ cI cL h b0 b1 b2 b3 N I T R nn th))) (va_Qi (fun (r : Int32) (R9 : (Nat → Int32)) => r = nI (stp (fun j => decide (lin (fun a b => gh (rl I N (mc fb a bn) (mc fb b bn)) sb) nn j ≠ en)) nn 0)) (fun R9 t => atM dC dI cD cZ cI cL (va_A (wM cD cZ cI cL h b0 b1 b2 b3 N I T R nn th) sz) h b0 b1 b2 b3 N I T R9 nn (nI 0) t) (va_A (wM cD cZ cI cL h b0 b1 b2 b3 N I T R nn th) sz)) 0 0 (va_A (wM cD cZ cI cL h b0 b1 b2 b3 N I T R nn th) sz) := by
  refine Met.ofW (cc := cX2_place) (maxL := 9) (ret := (some .int)) (by decide) rfl ?_
  intro p e s m args below meth c s₁ B hml hv
  obtain ⟨rfl, hsz, hO, hD0⟩ := hv
  obtain ⟨hP, hK⟩ := id hO
  have hx := B.exec
  have hb := B.bytes
  have hr := B.returns
  have hts := atoms_spec (ws := wsX2_place) B.pre
  have hown : s.vm.findClass RX2 = some m.cls := findClass_of_methodNamed B.named
  have hlocks := B.notSynchronized
  subst hsz
  have hD := hD0.self (sz := s.heap.size)
  generalize hAe : va_A (wM cD cZ cI cL h b0 b1 b2 b3 N I T R nn th) s.heap.size = A at hD ⊢
  have hA : ∀ q : Nat, s.heap.size ≤ q → A q := fun q h => by rw [← hAe]; exact Or.inr h
  have hS : va_S A s.heap s.heap [] := va_S.rf
  have hP : va_P (dC, dI) vwCl [(h, .inr (2, [.ref b0, .ref b1, .ref b2, .ref b3, .int (nI (nn)), .int (th)])), (b0, .inl (cD, 70, .inr (.inr (.inr (.inl (N)))))), (b1, .inl (cZ, 70, .inl (I))), (b2, .inl (cI, 60, .inl (T))), (b3, .inl (cI, 6, .inl (R)))] s.heap := hP
  have hD : va_D A [(h, .inr (2, [.ref b0, .ref b1, .ref b2, .ref b3, .int (nI (nn)), .int (th)])), (b0, .inl (cD, 70, .inr (.inr (.inr (.inl (N)))))), (b1, .inl (cZ, 70, .inl (I))), (b2, .inl (cI, 60, .inl (T))), (b3, .inl (cI, 6, .inl (R)))] := hD
  have hin2 : ∀ w ∈ wsX20, w ∈ wsX2_place := (fun w h => List.mem_cons_of_mem _ (List.mem_append_right _ h))
  have fl21 := hts (.fieldLink RX2 21 "JuryTableModel" "row" "[I") (by decide +kernel)
  have fl24 := hts (.fieldLink RX2 24 "JuryTableModel" "thrown" "I") (by decide +kernel)
  have fl28 := hts (.fieldLink RX2 28 "JuryTableModel" "entries" "I") (by decide +kernel)
  have hl := lv_entry ([.ref h, .int (nI (Bool.toNat (fb))), .int (nI (en)), .int (nI (bn)), .int (nI (Bool.toNat (sb)))]) (n := 9) (Nat.le_of_ble_eq_true rfl)
  rw [lg_entry_eq]
  generalize (lg_sl ([.ref h, .int (nI (Bool.toNat (fb))), .int (nI (en)), .int (nI (bn)), .int (nI (Bool.toNat (sb)))]) ++ List.replicate (9 - (lg_sl ([.ref h, .int (nI (Bool.toNat (fb))), .int (nI (en)), .int (nI (bn)), .int (nI (Bool.toNat (sb)))])).length) Slot.unset).toArray = ls at hl ⊢
  have hl : lv_has ls 9 [(0, .ref h), (1, .int (nI (Bool.toNat (fb)))), (2, .int (nI (en))), (3, .int (nI (bn))), (4, .int (nI (Bool.toNat (sb))))] := hl
  refine lv_aload_n hx hb dX2_place_0 rfl (lv_at hl 0 rfl) ?_
  refine lv_iconst (v := nI 0) hx hb dX2_place_1 (by decide) ?_
  refine va_put (D := (dC, dI)) (ci := 2) (v := .int (nI (0))) (ty := .int) (C := RX2) (T := TX2) (N := 6) hx hb hts hin2 tyX2 tyX2_ok nmX2 hown hK hP hD hS 0 rfl rfl 5 (by decide) fl24 (fun _ h9 => h9) rfl (by decide +kernel) rfl rfl (Nat.le_of_ble_eq_true rfl) dX2_place_2 (fun H locs hP hD hS => ?_)
  have hP : va_P (dC, dI) vwCl [(h, .inr (2, [.ref b0, .ref b1, .ref b2, .ref b3, .int (nI (nn)), .int (nI (0))])), (b0, .inl (cD, 70, .inr (.inr (.inr (.inl (N)))))), (b1, .inl (cZ, 70, .inl (I))), (b2, .inl (cI, 60, .inl (T))), (b3, .inl (cI, 6, .inl (R)))] H := hP
  have hD : va_D A [(h, .inr (2, [.ref b0, .ref b1, .ref b2, .ref b3, .int (nI (nn)), .int (nI (0))])), (b0, .inl (cD, 70, .inr (.inr (.inr (.inl (N)))))), (b1, .inl (cZ, 70, .inl (I))), (b2, .inl (cI, 60, .inl (T))), (b3, .inl (cI, 6, .inl (R)))] := hD
  refine lv_aload_n hx hb dX2_place_5 rfl (lv_at hl 0 rfl) ?_
  refine lv_iload_n hx hb dX2_place_6 rfl (lv_at hl 2 rfl) ?_
  refine vp_callSi (va_Run.run (va_runV (As := [.int (nI (en))]) (rest := []) ⟨hx, hb, hml, hown, hts⟩ (c_X2_hasEntry_ok l dC dI cD cZ cI cL h b0 b1 b2 b3 N I T R nn (nI 0) (en) (by omega) (by omega)) (cwV 1 hts gX2_place_X2_hasEntry rfl rfl rfl (by decide +kernel) ⟨Nat.le_of_ble_eq_true rfl, Nat.le_of_ble_eq_true rfl⟩) (okM_pre ⟨hP, hK⟩) rfl rfl hl.1 rfl (lv_room (Nat.le_of_ble_eq_true rfl)) dX2_place_7 ⟨Nat.zero_le _, Nat.zero_le _⟩)) (fun r1 er1 => ?_)
  subst er1
  refine xb_if_eq (tgt := 21) hx hb dX2_place_10 (by decide) (fun q => absurd q (by decide)) (fun _ => ?_)
  refine lv_aload_n hx hb dX2_place_13 rfl (lv_at hl 0 rfl) ?_
  refine lv_iload_n hx hb dX2_place_14 rfl (lv_at hl 3 rfl) ?_
  refine vp_callSi (va_Run.run (va_runV (As := [.int (nI (bn))]) (rest := []) ⟨hx, hb, hml, hown, hts⟩ (c_X2_hasSeat_ok l dC dI cD cZ cI cL h b0 b1 b2 b3 N I T R nn (nI 0) (bn) (by omega)) (cwV 1 hts gX2_place_X2_hasSeat rfl rfl rfl (by decide +kernel) ⟨Nat.le_of_ble_eq_true rfl, Nat.le_of_ble_eq_true rfl⟩) (okM_pre ⟨hP, hK⟩) rfl rfl hl.1 rfl (lv_room (Nat.le_of_ble_eq_true rfl)) dX2_place_15 ⟨Nat.zero_le _, Nat.zero_le _⟩)) (fun r2 er2 => ?_)
  subst er2
  refine xb_if_ne (tgt := 23) hx hb dX2_place_18 (by decide) (fun _ => ?_) (fun q => absurd q (by decide))
  refine lv_iconst (v := nI 0) hx hb dX2_place_23 (by decide) ?_
  refine lv_istore (lv' := [(5, .int (nI (0))), (0, .ref h), (1, .int (nI (Bool.toNat (fb)))), (2, .int (nI (en))), (3, .int (nI (bn))), (4, .int (nI (Bool.toNat (sb))))]) hx hb dX2_place_24 hl (by decide) rfl (fun ls hl => ?_)
  refine W_loopH (α := Nat × (Nat → Int32)) (P := fun n a H locs ls => (a.1 + n = nn + 1 ∧ a.1 < nn + 1) ∧ agr a.2 (lin (fun a b => gh (rl I N (mc fb a bn) (mc fb b bn)) sb) a.1) a.1 a.1 ∧ va_P (dC, dI) vwCl (wM cD cZ cI cL h b0 b1 b2 b3 N I T a.2 nn (nI 0)) H ∧ va_D A (wM cD cZ cI cL h b0 b1 b2 b3 N I T a.2 nn (nI 0)) ∧ va_S A s.heap H locs ∧ lv_has ls 9 [(5, .int (nI (a.1))), (0, .ref h), (1, .int (nI (Bool.toNat (fb)))), (2, .int (nI (en))), (3, .int (nI (bn))), (4, .int (nI (Bool.toNat (sb))))]) (st := fun _ => []) 26 (fun a H locs ls h => by have := h.1; omega) (fun n ih a H locs ls h => ?_) (nn + 1) (0, R) H locs ls ⟨⟨by show 0 + (nn + 1) = nn + 1; omega, by show 0 < nn + 1; omega⟩, fun j hj => absurd hj (Nat.not_lt_zero _), hP, hD, hS, lv_sub hl [0, 1, 2, 3, 4, 5] rfl⟩
  obtain ⟨i, R2⟩ := a
  dsimp only at h
  obtain ⟨⟨hin, hix⟩, hag0, hP, hD, hS, hl⟩ := h
  have hP : va_P (dC, dI) vwCl [(h, .inr (2, [.ref b0, .ref b1, .ref b2, .ref b3, .int (nI (nn)), .int (nI (0))])), (b0, .inl (cD, 70, .inr (.inr (.inr (.inl (N)))))), (b1, .inl (cZ, 70, .inl (I))), (b2, .inl (cI, 60, .inl (T))), (b3, .inl (cI, 6, .inl (R2)))] H := hP
  have hD : va_D A [(h, .inr (2, [.ref b0, .ref b1, .ref b2, .ref b3, .int (nI (nn)), .int (nI (0))])), (b0, .inl (cD, 70, .inr (.inr (.inr (.inl (N)))))), (b1, .inl (cZ, 70, .inl (I))), (b2, .inl (cI, 60, .inl (T))), (b3, .inl (cI, 6, .inl (R2)))] := hD
  refine lv_iload hx hb dX2_place_26 (lv_at hl 0 rfl) ?_
  refine lv_aload_n hx hb dX2_place_28 rfl (lv_at hl 1 rfl) ?_
  refine va_get (D := (dC, dI)) (ci := 2) (v := .int (nI (nn))) (C := RX2) (T := TX2) (N := 6) hx hb hts hin2 hown hK hP 0 rfl rfl 4 (by decide) fl28 (fun _ h9 => h9) rfl dX2_place_29 ?_
  refine xn_icmp_ge (tgt := 152) hx hb (by omega) (by omega) dX2_place_32 (by decide) (fun c32 => ?_) (fun c32 => ?_)
  · refine lv_iconst (v := nI 0) hx hb dX2_place_152 (by decide) ?_
    refine lv_istore (lv' := [(5, .int (nI (0))), (0, .ref h), (1, .int (nI (Bool.toNat (fb)))), (2, .int (nI (en))), (3, .int (nI (bn))), (4, .int (nI (Bool.toNat (sb))))]) hx hb dX2_place_153 hl (by decide) rfl (fun ls hl => ?_)
    have hin9 : i = nn := by omega
    subst hin9
    refine W_loop (α := Nat) (P := fun n k ls => (k + n = i ∧ k < i) ∧ (∀ j, j < k → lin (fun a b => gh (rl I N (mc fb a bn) (mc fb b bn)) sb) i j ≠ en) ∧ stp (fun j => decide (lin (fun a b => gh (rl I N (mc fb a bn) (mc fb b bn)) sb) i j ≠ en)) (i - k) k = stp (fun j => decide (lin (fun a b => gh (rl I N (mc fb a bn) (mc fb b bn)) sb) i j ≠ en)) i 0 ∧ lv_has ls 9 [(5, .int (nI (k))), (0, .ref h), (1, .int (nI (Bool.toNat (fb)))), (2, .int (nI (en))), (3, .int (nI (bn))), (4, .int (nI (Bool.toNat (sb))))]) (st := fun _ => []) 155 (fun k ls h => by have := h.1; omega) (fun n ih k ls h => ?_) i 0 ls ⟨⟨by omega, by omega⟩, fun j hj => absurd hj (Nat.not_lt_zero _), rfl, lv_sub hl [0, 1, 2, 3, 4, 5] rfl⟩
    obtain ⟨⟨hkn, hkx⟩, hno, h2, hl⟩ := h
    have hP : va_P (dC, dI) vwCl [(h, .inr (2, [.ref b0, .ref b1, .ref b2, .ref b3, .int (nI (i)), .int (nI (0))])), (b0, .inl (cD, 70, .inr (.inr (.inr (.inl (N)))))), (b1, .inl (cZ, 70, .inl (I))), (b2, .inl (cI, 60, .inl (T))), (b3, .inl (cI, 6, .inl (R2)))] H := hP
    have hD : va_D A [(h, .inr (2, [.ref b0, .ref b1, .ref b2, .ref b3, .int (nI (i)), .int (nI (0))])), (b0, .inl (cD, 70, .inr (.inr (.inr (.inl (N)))))), (b1, .inl (cZ, 70, .inl (I))), (b2, .inl (cI, 60, .inl (T))), (b3, .inl (cI, 6, .inl (R2)))] := hD
    refine lv_aload_n hx hb dX2_place_155 rfl (lv_at hl 1 rfl) ?_
    refine va_get (D := (dC, dI)) (ci := 2) (v := .ref b3) (C := RX2) (T := TX2) (N := 6) hx hb hts hin2 hown hK hP 0 rfl rfl 3 (by decide) fl21 (fun _ h9 => h9) rfl dX2_place_156 ?_
    refine lv_iload hx hb dX2_place_159 (lv_at hl 0 rfl) ?_
    refine xn_iald hx hb hK hP 4 2 rfl rfl (n := 6) (j := k) (by omega) (by decide) dX2_place_161 ?_
    rw [agr_at hag0 (j := k) (by omega) (by omega)]
    have hol := agr_lt hag0 (j := k) (by omega) (by omega)
    refine lv_iload_n hx hb dX2_place_162 rfl (lv_at hl 3 rfl) ?_
    refine xn_icmp_eq (tgt := 172) hx hb (by omega) (by omega) dX2_place_163 (by decide) (fun c163 => ?_) (fun c163 => ?_)
    · refine lv_iload hx hb dX2_place_172 (lv_at hl 0 rfl) ?_
      exact W.iret (v := nI k) hx hb hr (fun t ht hW => ⟨⟨_, R2, rfl, (by rw [← h2, show i - k = (i - k - 1) + 1 by omega, stp_stop (f := (fun j => decide (lin (fun a b => gh (rl I N (mc fb a bn) (mc fb b bn)) sb) i j ≠ en))) (decide_eq_false (fun q => q c163))]), by rw [ht]; exact hP, va_K.moved hW.alike hK, hD⟩, hS.F ht⟩) hS.2.2 dX2_place_174
    · refine xn_iinc (lv2 := [(5, .int (nI (k + 1))), (0, .ref h), (1, .int (nI (Bool.toNat (fb)))), (2, .int (nI (en))), (3, .int (nI (bn))), (4, .int (nI (Bool.toNat (sb))))]) hx hb dX2_place_166 hl (k0 := 0) rfl (by decide) rfl (fun ls hl => ?_)
      refine lv_goto (tgt := 155) hx hb dX2_place_169 (by decide) ?_
      have hno2 : ∀ j, j < k + 1 → lin (fun a b => gh (rl I N (mc fb a bn) (mc fb b bn)) sb) i j ≠ en := fun j hj => by
        rcases Nat.lt_or_ge j k with q | q
        · exact hno j q
        · rw [show j = k by omega]; exact c163
      have hk1 : k + 1 < i := by
        rcases Nat.lt_or_ge (k + 1) i with q | q
        · exact q
        · obtain ⟨j, hj1, hj2⟩ := lin_has (fun a b => gh (rl I N (mc fb a bn) (mc fb b bn)) sb) en i (by omega)
          exact absurd hj2 (hno2 j (by omega))
      exact ih (k + 1) ls ⟨⟨by omega, by omega⟩, hno2, by rw [← h2, show i - k = (i - (k + 1)) + 1 by omega, stp_go (f := (fun j => decide (lin (fun a b => gh (rl I N (mc fb a bn) (mc fb b bn)) sb) i j ≠ en))) (decide_eq_true c163)], lv_sub hl [0, 1, 2, 3, 4, 5] rfl⟩
  · refine lv_iload hx hb dX2_place_35 (lv_at hl 0 rfl) ?_
    refine lv_istore (lv' := [(6, .int (nI (i))), (5, .int (nI (i))), (0, .ref h), (1, .int (nI (Bool.toNat (fb)))), (2, .int (nI (en))), (3, .int (nI (bn))), (4, .int (nI (Bool.toNat (sb))))]) hx hb dX2_place_37 hl (by decide) rfl (fun ls hl => ?_)
    refine lv_iconst (v := nI 1) hx hb dX2_place_39 (by decide) ?_
    refine lv_istore (lv' := [(7, .int (nI (1))), (6, .int (nI (i))), (5, .int (nI (i))), (0, .ref h), (1, .int (nI (Bool.toNat (fb)))), (2, .int (nI (en))), (3, .int (nI (bn))), (4, .int (nI (Bool.toNat (sb))))]) hx hb dX2_place_40 hl (by decide) rfl (fun ls hl => ?_)
    refine W_loopH (α := Nat × (Nat → Int32) × (Nat → Nat)) (P := fun n a H locs ls => (a.1 < n ∧ a.1 < i + 1) ∧ agr a.2.1 a.2.2 (i + 1) a.1 ∧ ins (fun a b => gh (rl I N (mc fb a bn) (mc fb b bn)) sb) a.2.2 i a.1 = ins (fun a b => gh (rl I N (mc fb a bn) (mc fb b bn)) sb) (lin (fun a b => gh (rl I N (mc fb a bn) (mc fb b bn)) sb) i) i i ∧ va_P (dC, dI) vwCl (wM cD cZ cI cL h b0 b1 b2 b3 N I T a.2.1 nn (nI 0)) H ∧ va_D A (wM cD cZ cI cL h b0 b1 b2 b3 N I T a.2.1 nn (nI 0)) ∧ va_S A s.heap H locs ∧ lv_has ls 9 [(6, .int (nI (a.1))), (7, .int (nI (1))), (5, .int (nI (i))), (0, .ref h), (1, .int (nI (Bool.toNat (fb)))), (2, .int (nI (en))), (3, .int (nI (bn))), (4, .int (nI (Bool.toNat (sb))))]) (st := fun _ => []) 42 (fun a H locs ls h => by have := h.1; omega) (fun n2 ih2 a H locs ls h => ?_) (i + 1) (i, R2, lin (fun a b => gh (rl I N (mc fb a bn) (mc fb b bn)) sb) i) H locs ls ⟨⟨Nat.lt_succ_self _, Nat.lt_succ_self _⟩, agr_beg hag0, rfl, hP, hD, hS, lv_sub hl [1, 0, 2, 3, 4, 5, 6, 7] rfl⟩
    obtain ⟨pl, R3, o2⟩ := a
    dsimp only at h
    obtain ⟨⟨hpn, hpx⟩, hagr, hins, hP, hD, hS, hl⟩ := h
    have hP : va_P (dC, dI) vwCl [(h, .inr (2, [.ref b0, .ref b1, .ref b2, .ref b3, .int (nI (nn)), .int (nI (0))])), (b0, .inl (cD, 70, .inr (.inr (.inr (.inl (N)))))), (b1, .inl (cZ, 70, .inl (I))), (b2, .inl (cI, 60, .inl (T))), (b3, .inl (cI, 6, .inl (R3)))] H := hP
    have hD : va_D A [(h, .inr (2, [.ref b0, .ref b1, .ref b2, .ref b3, .int (nI (nn)), .int (nI (0))])), (b0, .inl (cD, 70, .inr (.inr (.inr (.inl (N)))))), (b1, .inl (cZ, 70, .inl (I))), (b2, .inl (cI, 60, .inl (T))), (b3, .inl (cI, 6, .inl (R3)))] := hD
    refine lv_iload hx hb dX2_place_42 (lv_at hl 0 rfl) ?_
    refine xn_if_le (tgt := 137) hx hb (by omega) dX2_place_44 (by decide) (fun c44 => ?_) (fun c44 => ?_)
    · refine lv_aload_n hx hb dX2_place_137 rfl (lv_at hl 3 rfl) ?_
      refine va_get (D := (dC, dI)) (ci := 2) (v := .ref b3) (C := RX2) (T := TX2) (N := 6) hx hb hts hin2 hown hK hP 0 rfl rfl 3 (by decide) fl21 (fun _ h9 => h9) rfl dX2_place_138 ?_
      refine lv_iload hx hb dX2_place_141 (lv_at hl 0 rfl) ?_
      refine lv_iload hx hb dX2_place_143 (lv_at hl 2 rfl) ?_
      refine xn_iast hx hb hK hP hD hS 4 2 rfl rfl (n := 6) (j := pl) (by omega) (by decide) dX2_place_145 (fun H locs hP hD hS => ?_)
      have hP : va_P (dC, dI) vwCl [(h, .inr (2, [.ref b0, .ref b1, .ref b2, .ref b3, .int (nI (nn)), .int (nI (0))])), (b0, .inl (cD, 70, .inr (.inr (.inr (.inl (N)))))), (b1, .inl (cZ, 70, .inl (I))), (b2, .inl (cI, 60, .inl (T))), (b3, .inl (cI, 6, .inl (upd R3 pl (nI i))))] H := hP
      have hD : va_D A [(h, .inr (2, [.ref b0, .ref b1, .ref b2, .ref b3, .int (nI (nn)), .int (nI (0))])), (b0, .inl (cD, 70, .inr (.inr (.inr (.inl (N)))))), (b1, .inl (cZ, 70, .inl (I))), (b2, .inl (cI, 60, .inl (T))), (b3, .inl (cI, 6, .inl (upd R3 pl (nI i))))] := hD
      refine xn_iinc (lv2 := [(5, .int (nI (i + 1))), (6, .int (nI (pl))), (7, .int (nI (1))), (0, .ref h), (1, .int (nI (Bool.toNat (fb)))), (2, .int (nI (en))), (3, .int (nI (bn))), (4, .int (nI (Bool.toNat (sb))))]) hx hb dX2_place_146 hl (k0 := 2) rfl (by decide) rfl (fun ls hl => ?_)
      refine lv_goto (tgt := 26) hx hb dX2_place_149 (by decide) ?_
      exact ih (i + 1, upd R3 pl (nI i)) H locs ls ⟨⟨(by show i + 1 + n = nn + 1; omega), (by show i + 1 < nn + 1; omega)⟩, (by show agr (upd R3 pl (nI i)) (ins (fun a b => gh (rl I N (mc fb a bn) (mc fb b bn)) sb) (lin (fun a b => gh (rl I N (mc fb a bn) (mc fb b bn)) sb) i) i i) (i + 1) (i + 1); rw [← hins, ← ins_zero (g := (fun a b => gh (rl I N (mc fb a bn) (mc fb b bn)) sb)) c44]; exact agr_end hagr (by omega)), hP, hD, hS, lv_sub hl [0, 3, 4, 5, 6, 7] rfl⟩
    · refine lv_iload hx hb dX2_place_47 (lv_at hl 1 rfl) ?_
      refine lv_if_eq (tgt := 137) hx hb dX2_place_49 (by decide) (fun q => absurd q (by decide)) (fun _ => ?_)
      refine lv_aload_n hx hb dX2_place_52 rfl (lv_at hl 3 rfl) ?_
      refine lv_iload_n hx hb dX2_place_53 rfl (lv_at hl 4 rfl) ?_
      refine lv_aload_n hx hb dX2_place_54 rfl (lv_at hl 3 rfl) ?_
      refine va_get (D := (dC, dI)) (ci := 2) (v := .ref b3) (C := RX2) (T := TX2) (N := 6) hx hb hts hin2 hown hK hP 0 rfl rfl 3 (by decide) fl21 (fun _ h9 => h9) rfl dX2_place_55 ?_
      refine lv_iload hx hb dX2_place_58 (lv_at hl 0 rfl) ?_
      refine lv_iconst (v := nI 1) hx hb dX2_place_60 (by decide) ?_
      refine xn_isub hx hb (by omega) dX2_place_61 ?_
      refine xn_iald hx hb hK hP 4 2 rfl rfl (n := 6) (j := pl - 1) (by omega) (by decide) dX2_place_62 ?_
      rw [agr_at hagr (j := pl - 1) (by omega) (by omega)]
      have hol := agr_lt hagr (j := pl - 1) (by omega) (by omega)
      refine lv_iload_n hx hb dX2_place_63 rfl (lv_at hl 6 rfl) ?_
      refine vp_callSi (va_Run.run (va_runS (As := [.int (nI (Bool.toNat (fb))), .int (nI (o2 (pl - 1))), .int (nI (bn))]) (rest := [.ref h]) ⟨hx, hb, hml, hown, hts⟩ (c_X2_cell l (fb) (o2 (pl - 1)) (bn)) (va_cwS 3 hts gX2_place_X2_cell rfl rfl rfl (by decide +kernel) ⟨Nat.le_of_ble_eq_true rfl, Nat.le_of_ble_eq_true rfl⟩) preT rfl rfl hl.1 rfl (lv_room (Nat.le_of_ble_eq_true rfl)) dX2_place_64 ⟨Nat.zero_le _, Nat.zero_le _⟩)) (fun r3 er3 => ?_)
      subst er3
      have := mc_lt (f := fb) (e := o2 (pl - 1)) (b := bn) (by omega) (by omega)
      refine lv_iload_n hx hb dX2_place_67 rfl (lv_at hl 4 rfl) ?_
      refine lv_iload hx hb dX2_place_68 (lv_at hl 2 rfl) ?_
      refine lv_iload_n hx hb dX2_place_70 rfl (lv_at hl 6 rfl) ?_
      refine vp_callSi (va_Run.run (va_runS (As := [.int (nI (Bool.toNat (fb))), .int (nI (i)), .int (nI (bn))]) (rest := [.int (nI (mc fb (o2 (pl - 1)) bn)), .ref h]) ⟨hx, hb, hml, hown, hts⟩ (c_X2_cell l (fb) (i) (bn)) (va_cwS 3 hts gX2_place_X2_cell rfl rfl rfl (by decide +kernel) ⟨Nat.le_of_ble_eq_true rfl, Nat.le_of_ble_eq_true rfl⟩) preT rfl rfl hl.1 rfl (lv_room (Nat.le_of_ble_eq_true rfl)) dX2_place_71 ⟨Nat.zero_le _, Nat.zero_le _⟩)) (fun r4 er4 => ?_)
      subst er4
      have := mc_lt (f := fb) (e := i) (b := bn) (by omega) (by omega)
      refine vp_callSi (va_Run.run (va_runV (As := [.int (nI (mc fb (o2 (pl - 1)) bn)), .int (nI (mc fb i bn))]) (rest := []) ⟨hx, hb, hml, hown, hts⟩ (c_X2_compare l dC dI cD cZ cI cL h b0 b1 b2 b3 N I T R3 nn (nI 0) (mc fb (o2 (pl - 1)) bn) (mc fb i bn) (by omega) (by omega) hq) (cwV 2 hts gX2_place_X2_compare rfl rfl rfl (by decide +kernel) ⟨Nat.le_of_ble_eq_true rfl, Nat.le_of_ble_eq_true rfl⟩) (okM_pre ⟨hP, hK⟩) rfl rfl hl.1 rfl (lv_room (Nat.le_of_ble_eq_true rfl)) dX2_place_74 ⟨Nat.zero_le _, Nat.zero_le _⟩)) (fun r5 er5 => ?_)
      subst er5
      have := rl_le I N (mc fb (o2 (pl - 1)) bn) (mc fb i bn)
      refine lv_istore (lv' := [(8, .int (nI (rl I N (mc fb (o2 (pl - 1)) bn) (mc fb i bn)))), (6, .int (nI (pl))), (7, .int (nI (1))), (5, .int (nI (i))), (0, .ref h), (1, .int (nI (Bool.toNat (fb)))), (2, .int (nI (en))), (3, .int (nI (bn))), (4, .int (nI (Bool.toNat (sb))))]) hx hb dX2_place_77 hl (by decide) rfl (fun ls hl => ?_)
      refine lv_iload hx hb dX2_place_79 (lv_at hl 8 rfl) ?_
      refine xb_if_eq (tgt := 97) hx hb dX2_place_81 (by decide) (fun c81 => ?_) (fun c81 => ?_)
      · refine lv_iload hx hb dX2_place_97 (lv_at hl 0 rfl) ?_
        refine lv_iconst (v := nI 2) hx hb dX2_place_99 (by decide) ?_
        refine xn_icmp_eq (tgt := 107) hx hb (by omega) (by decide) dX2_place_100 (by decide) (fun c100 => ?_) (fun c100 => ?_)
        · refine lv_iconst (v := nI 0) hx hb dX2_place_107 (by decide) ?_
          refine lv_istore (lv' := [(7, .int (nI (0))), (8, .int (nI (rl I N (mc fb (o2 (pl - 1)) bn) (mc fb i bn)))), (6, .int (nI (pl))), (5, .int (nI (i))), (0, .ref h), (1, .int (nI (Bool.toNat (fb)))), (2, .int (nI (en))), (3, .int (nI (bn))), (4, .int (nI (Bool.toNat (sb))))]) hx hb dX2_place_108 hl (by decide) rfl (fun ls hl => ?_)
          refine lv_iload hx hb dX2_place_110 (lv_at hl 0 rfl) ?_
          refine lv_if_eq (tgt := 134) hx hb dX2_place_112 (by decide) (fun _ => ?_) (fun q => absurd (by decide) q)
          refine lv_goto (tgt := 42) hx hb dX2_place_134 (by decide) ?_
          refine lv_iload hx hb dX2_place_42 (lv_at hl 2 rfl) ?_
          refine xn_if_le (tgt := 137) hx hb (by omega) dX2_place_44 (by decide) (fun q => absurd q (by omega)) (fun _ => ?_)
          refine lv_iload hx hb dX2_place_47 (lv_at hl 0 rfl) ?_
          refine lv_if_eq (tgt := 137) hx hb dX2_place_49 (by decide) (fun _ => ?_) (fun q => absurd (by decide) q)
          refine lv_aload_n hx hb dX2_place_137 rfl (lv_at hl 4 rfl) ?_
          refine va_get (D := (dC, dI)) (ci := 2) (v := .ref b3) (C := RX2) (T := TX2) (N := 6) hx hb hts hin2 hown hK hP 0 rfl rfl 3 (by decide) fl21 (fun _ h9 => h9) rfl dX2_place_138 ?_
          refine lv_iload hx hb dX2_place_141 (lv_at hl 2 rfl) ?_
          refine lv_iload hx hb dX2_place_143 (lv_at hl 3 rfl) ?_
          refine xn_iast hx hb hK hP hD hS 4 2 rfl rfl (n := 6) (j := pl) (by omega) (by decide) dX2_place_145 (fun H locs hP hD hS => ?_)
          have hP : va_P (dC, dI) vwCl [(h, .inr (2, [.ref b0, .ref b1, .ref b2, .ref b3, .int (nI (nn)), .int (nI (0))])), (b0, .inl (cD, 70, .inr (.inr (.inr (.inl (N)))))), (b1, .inl (cZ, 70, .inl (I))), (b2, .inl (cI, 60, .inl (T))), (b3, .inl (cI, 6, .inl (upd R3 pl (nI i))))] H := hP
          have hD : va_D A [(h, .inr (2, [.ref b0, .ref b1, .ref b2, .ref b3, .int (nI (nn)), .int (nI (0))])), (b0, .inl (cD, 70, .inr (.inr (.inr (.inl (N)))))), (b1, .inl (cZ, 70, .inl (I))), (b2, .inl (cI, 60, .inl (T))), (b3, .inl (cI, 6, .inl (upd R3 pl (nI i))))] := hD
          refine xn_iinc (lv2 := [(5, .int (nI (i + 1))), (7, .int (nI (0))), (8, .int (nI (rl I N (mc fb (o2 (pl - 1)) bn) (mc fb i bn)))), (6, .int (nI (pl))), (0, .ref h), (1, .int (nI (Bool.toNat (fb)))), (2, .int (nI (en))), (3, .int (nI (bn))), (4, .int (nI (Bool.toNat (sb))))]) hx hb dX2_place_146 hl (k0 := 3) rfl (by decide) rfl (fun ls hl => ?_)
          refine lv_goto (tgt := 26) hx hb dX2_place_149 (by decide) ?_
          exact ih (i + 1, upd R3 pl (nI i)) H locs ls ⟨⟨(by show i + 1 + n = nn + 1; omega), (by show i + 1 < nn + 1; omega)⟩, (by show agr (upd R3 pl (nI i)) (ins (fun a b => gh (rl I N (mc fb a bn) (mc fb b bn)) sb) (lin (fun a b => gh (rl I N (mc fb a bn) (mc fb b bn)) sb) i) i i) (i + 1) (i + 1); rw [← hins, ← ins_stop (g := (fun a b => gh (rl I N (mc fb a bn) (mc fb b bn)) sb)) (by omega) (by simp [gh, c81, c100])]; exact agr_end hagr (by omega)), hP, hD, hS, lv_sub hl [0, 4, 5, 6, 7, 8] rfl⟩
        · refine lv_iconst (v := nI 1) hx hb dX2_place_103 (by decide) ?_
          refine lv_goto (tgt := 108) hx hb dX2_place_104 (by decide) ?_
          refine lv_istore (lv' := [(7, .int (nI (1))), (8, .int (nI (rl I N (mc fb (o2 (pl - 1)) bn) (mc fb i bn)))), (6, .int (nI (pl))), (5, .int (nI (i))), (0, .ref h), (1, .int (nI (Bool.toNat (fb)))), (2, .int (nI (en))), (3, .int (nI (bn))), (4, .int (nI (Bool.toNat (sb))))]) hx hb dX2_place_108 hl (by decide) rfl (fun ls hl => ?_)
          refine lv_iload hx hb dX2_place_110 (lv_at hl 0 rfl) ?_
          refine lv_if_eq (tgt := 134) hx hb dX2_place_112 (by decide) (fun q => absurd q (by decide)) (fun _ => ?_)
          refine lv_aload_n hx hb dX2_place_115 rfl (lv_at hl 4 rfl) ?_
          refine va_get (D := (dC, dI)) (ci := 2) (v := .ref b3) (C := RX2) (T := TX2) (N := 6) hx hb hts hin2 hown hK hP 0 rfl rfl 3 (by decide) fl21 (fun _ h9 => h9) rfl dX2_place_116 ?_
          refine lv_iload hx hb dX2_place_119 (lv_at hl 2 rfl) ?_
          refine lv_aload_n hx hb dX2_place_121 rfl (lv_at hl 4 rfl) ?_
          refine va_get (D := (dC, dI)) (ci := 2) (v := .ref b3) (C := RX2) (T := TX2) (N := 6) hx hb hts hin2 hown hK hP 0 rfl rfl 3 (by decide) fl21 (fun _ h9 => h9) rfl dX2_place_122 ?_
          refine lv_iload hx hb dX2_place_125 (lv_at hl 2 rfl) ?_
          refine lv_iconst (v := nI 1) hx hb dX2_place_127 (by decide) ?_
          refine xn_isub hx hb (by omega) dX2_place_128 ?_
          refine xn_iald hx hb hK hP 4 2 rfl rfl (n := 6) (j := pl - 1) (by omega) (by decide) dX2_place_129 ?_
          rw [agr_at hagr (j := pl - 1) (by omega) (by omega)]
          have hol := agr_lt hagr (j := pl - 1) (by omega) (by omega)
          refine xn_iast hx hb hK hP hD hS 4 2 rfl rfl (n := 6) (j := pl) (by omega) (by decide) dX2_place_130 (fun H locs hP hD hS => ?_)
          have hP : va_P (dC, dI) vwCl [(h, .inr (2, [.ref b0, .ref b1, .ref b2, .ref b3, .int (nI (nn)), .int (nI (0))])), (b0, .inl (cD, 70, .inr (.inr (.inr (.inl (N)))))), (b1, .inl (cZ, 70, .inl (I))), (b2, .inl (cI, 60, .inl (T))), (b3, .inl (cI, 6, .inl (upd R3 pl (nI (o2 (pl - 1))))))] H := hP
          have hD : va_D A [(h, .inr (2, [.ref b0, .ref b1, .ref b2, .ref b3, .int (nI (nn)), .int (nI (0))])), (b0, .inl (cD, 70, .inr (.inr (.inr (.inl (N)))))), (b1, .inl (cZ, 70, .inl (I))), (b2, .inl (cI, 60, .inl (T))), (b3, .inl (cI, 6, .inl (upd R3 pl (nI (o2 (pl - 1))))))] := hD
          refine xn_iincm (lv2 := [(6, .int (nI (pl - 1))), (7, .int (nI (1))), (8, .int (nI (rl I N (mc fb (o2 (pl - 1)) bn) (mc fb i bn)))), (5, .int (nI (i))), (0, .ref h), (1, .int (nI (Bool.toNat (fb)))), (2, .int (nI (en))), (3, .int (nI (bn))), (4, .int (nI (Bool.toNat (sb))))]) hx hb dX2_place_131 hl (by omega) (k0 := 2) rfl (by decide) rfl (fun ls hl => ?_)
          refine lv_goto (tgt := 42) hx hb dX2_place_134 (by decide) ?_
          exact ih2 (pl - 1, upd R3 pl (nI (o2 (pl - 1))), va_up o2 pl (o2 (pl - 1))) H locs ls ⟨⟨(by show pl - 1 < n2; omega), (by show pl - 1 < i + 1; omega)⟩, agr_go hagr (by omega) (by omega), (ins_go (g := (fun a b => gh (rl I N (mc fb a bn) (mc fb b bn)) sb)) (by omega) (by simp [gh, c81, c100])).trans hins, hP, hD, hS, lv_sub hl [0, 1, 3, 4, 5, 6, 7, 8] rfl⟩
      · refine lv_iload hx hb dX2_place_84 (lv_at hl 0 rfl) ?_
        refine xn_if_ne (tgt := 93) hx hb (by omega) dX2_place_86 (by decide) (fun c86 => ?_) (fun c86 => ?_)
        · refine lv_iconst (v := nI 0) hx hb dX2_place_93 (by decide) ?_
          refine lv_goto (tgt := 108) hx hb dX2_place_94 (by decide) ?_
          refine lv_istore (lv' := [(7, .int (nI (0))), (8, .int (nI (rl I N (mc fb (o2 (pl - 1)) bn) (mc fb i bn)))), (6, .int (nI (pl))), (5, .int (nI (i))), (0, .ref h), (1, .int (nI (Bool.toNat (fb)))), (2, .int (nI (en))), (3, .int (nI (bn))), (4, .int (nI (Bool.toNat (sb))))]) hx hb dX2_place_108 hl (by decide) rfl (fun ls hl => ?_)
          refine lv_iload hx hb dX2_place_110 (lv_at hl 0 rfl) ?_
          refine lv_if_eq (tgt := 134) hx hb dX2_place_112 (by decide) (fun _ => ?_) (fun q => absurd (by decide) q)
          refine lv_goto (tgt := 42) hx hb dX2_place_134 (by decide) ?_
          refine lv_iload hx hb dX2_place_42 (lv_at hl 2 rfl) ?_
          refine xn_if_le (tgt := 137) hx hb (by omega) dX2_place_44 (by decide) (fun q => absurd q (by omega)) (fun _ => ?_)
          refine lv_iload hx hb dX2_place_47 (lv_at hl 0 rfl) ?_
          refine lv_if_eq (tgt := 137) hx hb dX2_place_49 (by decide) (fun _ => ?_) (fun q => absurd (by decide) q)
          refine lv_aload_n hx hb dX2_place_137 rfl (lv_at hl 4 rfl) ?_
          refine va_get (D := (dC, dI)) (ci := 2) (v := .ref b3) (C := RX2) (T := TX2) (N := 6) hx hb hts hin2 hown hK hP 0 rfl rfl 3 (by decide) fl21 (fun _ h9 => h9) rfl dX2_place_138 ?_
          refine lv_iload hx hb dX2_place_141 (lv_at hl 2 rfl) ?_
          refine lv_iload hx hb dX2_place_143 (lv_at hl 3 rfl) ?_
          refine xn_iast hx hb hK hP hD hS 4 2 rfl rfl (n := 6) (j := pl) (by omega) (by decide) dX2_place_145 (fun H locs hP hD hS => ?_)
          have hP : va_P (dC, dI) vwCl [(h, .inr (2, [.ref b0, .ref b1, .ref b2, .ref b3, .int (nI (nn)), .int (nI (0))])), (b0, .inl (cD, 70, .inr (.inr (.inr (.inl (N)))))), (b1, .inl (cZ, 70, .inl (I))), (b2, .inl (cI, 60, .inl (T))), (b3, .inl (cI, 6, .inl (upd R3 pl (nI i))))] H := hP
          have hD : va_D A [(h, .inr (2, [.ref b0, .ref b1, .ref b2, .ref b3, .int (nI (nn)), .int (nI (0))])), (b0, .inl (cD, 70, .inr (.inr (.inr (.inl (N)))))), (b1, .inl (cZ, 70, .inl (I))), (b2, .inl (cI, 60, .inl (T))), (b3, .inl (cI, 6, .inl (upd R3 pl (nI i))))] := hD
          refine xn_iinc (lv2 := [(5, .int (nI (i + 1))), (7, .int (nI (0))), (8, .int (nI (rl I N (mc fb (o2 (pl - 1)) bn) (mc fb i bn)))), (6, .int (nI (pl))), (0, .ref h), (1, .int (nI (Bool.toNat (fb)))), (2, .int (nI (en))), (3, .int (nI (bn))), (4, .int (nI (Bool.toNat (sb))))]) hx hb dX2_place_146 hl (k0 := 3) rfl (by decide) rfl (fun ls hl => ?_)
          refine lv_goto (tgt := 26) hx hb dX2_place_149 (by decide) ?_
          exact ih (i + 1, upd R3 pl (nI i)) H locs ls ⟨⟨(by show i + 1 + n = nn + 1; omega), (by show i + 1 < nn + 1; omega)⟩, (by show agr (upd R3 pl (nI i)) (ins (fun a b => gh (rl I N (mc fb a bn) (mc fb b bn)) sb) (lin (fun a b => gh (rl I N (mc fb a bn) (mc fb b bn)) sb) i) i i) (i + 1) (i + 1); rw [← hins, ← ins_stop (g := (fun a b => gh (rl I N (mc fb a bn) (mc fb b bn)) sb)) (by omega) (by simp [gh, c81, c86])]; exact agr_end hagr (by omega)), hP, hD, hS, lv_sub hl [0, 4, 5, 6, 7, 8] rfl⟩
        · refine lv_iconst (v := nI 1) hx hb dX2_place_89 (by decide) ?_
          refine lv_goto (tgt := 108) hx hb dX2_place_90 (by decide) ?_
          refine lv_istore (lv' := [(7, .int (nI (1))), (8, .int (nI (rl I N (mc fb (o2 (pl - 1)) bn) (mc fb i bn)))), (6, .int (nI (pl))), (5, .int (nI (i))), (0, .ref h), (1, .int (nI (Bool.toNat (fb)))), (2, .int (nI (en))), (3, .int (nI (bn))), (4, .int (nI (Bool.toNat (sb))))]) hx hb dX2_place_108 hl (by decide) rfl (fun ls hl => ?_)
          refine lv_iload hx hb dX2_place_110 (lv_at hl 0 rfl) ?_
          refine lv_if_eq (tgt := 134) hx hb dX2_place_112 (by decide) (fun q => absurd q (by decide)) (fun _ => ?_)
          refine lv_aload_n hx hb dX2_place_115 rfl (lv_at hl 4 rfl) ?_
          refine va_get (D := (dC, dI)) (ci := 2) (v := .ref b3) (C := RX2) (T := TX2) (N := 6) hx hb hts hin2 hown hK hP 0 rfl rfl 3 (by decide) fl21 (fun _ h9 => h9) rfl dX2_place_116 ?_
          refine lv_iload hx hb dX2_place_119 (lv_at hl 2 rfl) ?_
          refine lv_aload_n hx hb dX2_place_121 rfl (lv_at hl 4 rfl) ?_
          refine va_get (D := (dC, dI)) (ci := 2) (v := .ref b3) (C := RX2) (T := TX2) (N := 6) hx hb hts hin2 hown hK hP 0 rfl rfl 3 (by decide) fl21 (fun _ h9 => h9) rfl dX2_place_122 ?_
          refine lv_iload hx hb dX2_place_125 (lv_at hl 2 rfl) ?_
          refine lv_iconst (v := nI 1) hx hb dX2_place_127 (by decide) ?_
          refine xn_isub hx hb (by omega) dX2_place_128 ?_
          refine xn_iald hx hb hK hP 4 2 rfl rfl (n := 6) (j := pl - 1) (by omega) (by decide) dX2_place_129 ?_
          rw [agr_at hagr (j := pl - 1) (by omega) (by omega)]
          have hol := agr_lt hagr (j := pl - 1) (by omega) (by omega)
          refine xn_iast hx hb hK hP hD hS 4 2 rfl rfl (n := 6) (j := pl) (by omega) (by decide) dX2_place_130 (fun H locs hP hD hS => ?_)
          have hP : va_P (dC, dI) vwCl [(h, .inr (2, [.ref b0, .ref b1, .ref b2, .ref b3, .int (nI (nn)), .int (nI (0))])), (b0, .inl (cD, 70, .inr (.inr (.inr (.inl (N)))))), (b1, .inl (cZ, 70, .inl (I))), (b2, .inl (cI, 60, .inl (T))), (b3, .inl (cI, 6, .inl (upd R3 pl (nI (o2 (pl - 1))))))] H := hP
          have hD : va_D A [(h, .inr (2, [.ref b0, .ref b1, .ref b2, .ref b3, .int (nI (nn)), .int (nI (0))])), (b0, .inl (cD, 70, .inr (.inr (.inr (.inl (N)))))), (b1, .inl (cZ, 70, .inl (I))), (b2, .inl (cI, 60, .inl (T))), (b3, .inl (cI, 6, .inl (upd R3 pl (nI (o2 (pl - 1))))))] := hD
          refine xn_iincm (lv2 := [(6, .int (nI (pl - 1))), (7, .int (nI (1))), (8, .int (nI (rl I N (mc fb (o2 (pl - 1)) bn) (mc fb i bn)))), (5, .int (nI (i))), (0, .ref h), (1, .int (nI (Bool.toNat (fb)))), (2, .int (nI (en))), (3, .int (nI (bn))), (4, .int (nI (Bool.toNat (sb))))]) hx hb dX2_place_131 hl (by omega) (k0 := 2) rfl (by decide) rfl (fun ls hl => ?_)
          refine lv_goto (tgt := 42) hx hb dX2_place_134 (by decide) ?_
          exact ih2 (pl - 1, upd R3 pl (nI (o2 (pl - 1))), va_up o2 pl (o2 (pl - 1))) H locs ls ⟨⟨(by show pl - 1 < n2; omega), (by show pl - 1 < i + 1; omega)⟩, agr_go hagr (by omega) (by omega), (ins_go (g := (fun a b => gh (rl I N (mc fb a bn) (mc fb b bn)) sb)) (by omega) (by simp [gh, c81, c86])).trans hins, hP, hD, hS, lv_sub hl [0, 1, 3, 4, 5, 6, 7, 8] rfl⟩
set_option maxHeartbeats 4000000 in
set_option maxRecDepth 100000 in
theorem c_X2_place_n1 (l : Launch) (dC : Nat → ClassId) (dI : Nat → Nat → Nat) (cD cZ cI cL : ClassId) (h b0 b1 b2 b3 : Nat) (N : Nat → UInt64) (I T R : Nat → Int32) (nn : Nat) (th : Int32) (sz : Nat) (hnn : nn ≤ 6) (fb : Bool) (ev bv : Int32) (sb : Bool) (hbad : vB ev nn = false) : Met l yX2_place wsX2_place ({ frames := 2, cells := 0, slots := 0, locals := 42 }) (va_Pc [.ref h, .int (nI (Bool.toNat (fb))), .int (ev), .int (bv), .int (nI (Bool.toNat (sb)))] (fun U => U.heap.size = sz ∧ okM dC dI cD cZ cI cL h b0 b1 b2 b3 N I T R nn th U U.heap ∧ va_D (fun _ => True) (wM cD cZ cI cL h b0 b1 b2 b3 N I T R nn th))) (va_Qi (fun (r : Int32) (_ : Unit) => r = nI 0) (fun _ t => atM dC dI cD cZ cI cL (va_A (wM cD cZ cI cL h b0 b1 b2 b3 N I T R nn th) sz) h b0 b1 b2 b3 N I T R nn (nI 1) t) (va_A (wM cD cZ cI cL h b0 b1 b2 b3 N I T R nn th) sz)) 0 0 (va_A (wM cD cZ cI cL h b0 b1 b2 b3 N I T R nn th) sz) := by
  refine Met.ofW (cc := cX2_place) (maxL := 9) (ret := (some .int)) (by decide) rfl ?_
  intro p e s m args below meth c s₁ B hml hv
  obtain ⟨rfl, hsz, hO, hD0⟩ := hv
  obtain ⟨hP, hK⟩ := id hO
  have hx := B.exec
  have hb := B.bytes
  have hr := B.returns
  have hts := atoms_spec (ws := wsX2_place) B.pre
  have hown : s.vm.findClass RX2 = some m.cls := findClass_of_methodNamed B.named
  have hlocks := B.notSynchronized
  subst hsz
  have hD := hD0.self (sz := s.heap.size)
  generalize hAe : va_A (wM cD cZ cI cL h b0 b1 b2 b3 N I T R nn th) s.heap.size = A at hD ⊢
  have hA : ∀ q : Nat, s.heap.size ≤ q → A q := fun q h => by rw [← hAe]; exact Or.inr h
  have hS : va_S A s.heap s.heap [] := va_S.rf
  have hP : va_P (dC, dI) vwCl [(h, .inr (2, [.ref b0, .ref b1, .ref b2, .ref b3, .int (nI (nn)), .int (th)])), (b0, .inl (cD, 70, .inr (.inr (.inr (.inl (N)))))), (b1, .inl (cZ, 70, .inl (I))), (b2, .inl (cI, 60, .inl (T))), (b3, .inl (cI, 6, .inl (R)))] s.heap := hP
  have hD : va_D A [(h, .inr (2, [.ref b0, .ref b1, .ref b2, .ref b3, .int (nI (nn)), .int (th)])), (b0, .inl (cD, 70, .inr (.inr (.inr (.inl (N)))))), (b1, .inl (cZ, 70, .inl (I))), (b2, .inl (cI, 60, .inl (T))), (b3, .inl (cI, 6, .inl (R)))] := hD
  have hin2 : ∀ w ∈ wsX20, w ∈ wsX2_place := (fun w h => List.mem_cons_of_mem _ (List.mem_append_right _ h))
  have fl24 := hts (.fieldLink RX2 24 "JuryTableModel" "thrown" "I") (by decide +kernel)
  have hl := lv_entry ([.ref h, .int (nI (Bool.toNat (fb))), .int (ev), .int (bv), .int (nI (Bool.toNat (sb)))]) (n := 9) (Nat.le_of_ble_eq_true rfl)
  rw [lg_entry_eq]
  generalize (lg_sl ([.ref h, .int (nI (Bool.toNat (fb))), .int (ev), .int (bv), .int (nI (Bool.toNat (sb)))]) ++ List.replicate (9 - (lg_sl ([.ref h, .int (nI (Bool.toNat (fb))), .int (ev), .int (bv), .int (nI (Bool.toNat (sb)))])).length) Slot.unset).toArray = ls at hl ⊢
  have hl : lv_has ls 9 [(0, .ref h), (1, .int (nI (Bool.toNat (fb)))), (2, .int (ev)), (3, .int (bv)), (4, .int (nI (Bool.toNat (sb))))] := hl
  refine lv_aload_n hx hb dX2_place_0 rfl (lv_at hl 0 rfl) ?_
  refine lv_iconst (v := nI 0) hx hb dX2_place_1 (by decide) ?_
  refine va_put (D := (dC, dI)) (ci := 2) (v := .int (nI (0))) (ty := .int) (C := RX2) (T := TX2) (N := 6) hx hb hts hin2 tyX2 tyX2_ok nmX2 hown hK hP hD hS 0 rfl rfl 5 (by decide) fl24 (fun _ h9 => h9) rfl (by decide +kernel) rfl rfl (Nat.le_of_ble_eq_true rfl) dX2_place_2 (fun H locs hP hD hS => ?_)
  have hP : va_P (dC, dI) vwCl [(h, .inr (2, [.ref b0, .ref b1, .ref b2, .ref b3, .int (nI (nn)), .int (nI (0))])), (b0, .inl (cD, 70, .inr (.inr (.inr (.inl (N)))))), (b1, .inl (cZ, 70, .inl (I))), (b2, .inl (cI, 60, .inl (T))), (b3, .inl (cI, 6, .inl (R)))] H := hP
  have hD : va_D A [(h, .inr (2, [.ref b0, .ref b1, .ref b2, .ref b3, .int (nI (nn)), .int (nI (0))])), (b0, .inl (cD, 70, .inr (.inr (.inr (.inl (N)))))), (b1, .inl (cZ, 70, .inl (I))), (b2, .inl (cI, 60, .inl (T))), (b3, .inl (cI, 6, .inl (R)))] := hD
  refine lv_aload_n hx hb dX2_place_5 rfl (lv_at hl 0 rfl) ?_
  refine lv_iload_n hx hb dX2_place_6 rfl (lv_at hl 2 rfl) ?_
  have hPc := hP.sub (ws' := [(h, .inr (2, [.ref b0, .ref b1, .ref b2, .ref b3, .int (nI (nn)), .int (nI (0))])), (b0, .inl (cD, 70, .inr (.inr (.inr (.inl (N)))))), (b1, .inl (cZ, 70, .inl (I))), (b2, .inl (cI, 60, .inl (T))), (b3, .inl (cI, 6, .inl (R)))]) [0, 1, 2, 3, 4] rfl
  have hDc := hD.sub (ws' := [(h, .inr (2, [.ref b0, .ref b1, .ref b2, .ref b3, .int (nI (nn)), .int (nI (0))])), (b0, .inl (cD, 70, .inr (.inr (.inr (.inl (N)))))), (b1, .inl (cZ, 70, .inl (I))), (b2, .inl (cI, 60, .inl (T))), (b3, .inl (cI, 6, .inl (R)))]) [0, 1, 2, 3, 4] (by decide) rfl
  have hFc := va_free (wc := [(h, .inr (2, [.ref b0, .ref b1, .ref b2, .ref b3, .int (nI (nn)), .int (nI (0))])), (b0, .inl (cD, 70, .inr (.inr (.inr (.inl (N)))))), (b1, .inl (cZ, 70, .inl (I))), (b2, .inl (cI, 60, .inl (T))), (b3, .inl (cI, 6, .inl (R)))]) hD hS hA [0, 1, 2, 3, 4] rfl
  refine va_calli (va_runV (As := [.int (ev)]) (rest := []) ⟨hx, hb, hml, hown, hts⟩ (c_X2_hasEntry_no l dC dI cD cZ cI cL h b0 b1 b2 b3 N I T R nn (nI 0) H.size (ev) hbad) (cwV 1 hts gX2_place_X2_hasEntry rfl rfl rfl (by decide +kernel) ⟨Nat.le_of_ble_eq_true rfl, Nat.le_of_ble_eq_true rfl⟩) (okMW_pre ⟨hP, hK⟩ hD) rfl rfl hl.1 rfl (lv_room (Nat.le_of_ble_eq_true rfl)) dX2_place_7 ⟨Nat.zero_le _, Nat.zero_le _⟩) hS (fun q _ h => hFc q h) hFc (fun r1 u1 t H1 locs ht hvm hw hB hz1 hk1 hS => ?_)
  obtain ⟨hP1, hK1, hD1⟩ := hB
  rw [ht] at hP1
  have hD := hD1.weaken (fun _ q _ h => hFc q.1 h)
  have hP := hP1
  generalize H1 = H at hP hS ⊢
  have hP : va_P (dC, dI) vwCl [(h, .inr (2, [.ref b0, .ref b1, .ref b2, .ref b3, .int (nI (nn)), .int (nI (1))])), (b0, .inl (cD, 70, .inr (.inr (.inr (.inl (N)))))), (b1, .inl (cZ, 70, .inl (I))), (b2, .inl (cI, 60, .inl (T))), (b3, .inl (cI, 6, .inl (R)))] H := hP
  have hD : va_D A [(h, .inr (2, [.ref b0, .ref b1, .ref b2, .ref b3, .int (nI (nn)), .int (nI (1))])), (b0, .inl (cD, 70, .inr (.inr (.inr (.inl (N)))))), (b1, .inl (cZ, 70, .inl (I))), (b2, .inl (cI, 60, .inl (T))), (b3, .inl (cI, 6, .inl (R)))] := hD
  subst hw
  refine xb_if_eq (tgt := 21) hx hb dX2_place_10 (by decide) (fun _ => ?_) (fun q => absurd q (by decide))
  refine lv_iconst (v := nI 0) hx hb dX2_place_21 (by decide) ?_
  exact W.iret (v := nI 0) hx hb hr (fun t ht hW => ⟨⟨_, (), rfl, rfl, by rw [ht]; exact hP, va_K.moved hW.alike hK, hD⟩, hS.F ht⟩) hS.2.2 dX2_place_22
set_option maxHeartbeats 4000000 in
set_option maxRecDepth 100000 in
theorem c_X2_place_n2 (l : Launch) (dC : Nat → ClassId) (dI : Nat → Nat → Nat) (cD cZ cI cL : ClassId) (h b0 b1 b2 b3 : Nat) (N : Nat → UInt64) (I T R : Nat → Int32) (nn : Nat) (th : Int32) (sz : Nat) (hnn : nn ≤ 6) (fb : Bool) (en : Nat) (bv : Int32) (sb : Bool) (hen : en < nn) (hbad : vB bv 5 = false) : Met l yX2_place wsX2_place ({ frames := 2, cells := 0, slots := 0, locals := 42 }) (va_Pc [.ref h, .int (nI (Bool.toNat (fb))), .int (nI (en)), .int (bv), .int (nI (Bool.toNat (sb)))] (fun U => U.heap.size = sz ∧ okM dC dI cD cZ cI cL h b0 b1 b2 b3 N I T R nn th U U.heap ∧ va_D (fun _ => True) (wM cD cZ cI cL h b0 b1 b2 b3 N I T R nn th))) (va_Qi (fun (r : Int32) (_ : Unit) => r = nI 0) (fun _ t => atM dC dI cD cZ cI cL (va_A (wM cD cZ cI cL h b0 b1 b2 b3 N I T R nn th) sz) h b0 b1 b2 b3 N I T R nn (nI 1) t) (va_A (wM cD cZ cI cL h b0 b1 b2 b3 N I T R nn th) sz)) 0 0 (va_A (wM cD cZ cI cL h b0 b1 b2 b3 N I T R nn th) sz) := by
  refine Met.ofW (cc := cX2_place) (maxL := 9) (ret := (some .int)) (by decide) rfl ?_
  intro p e s m args below meth c s₁ B hml hv
  obtain ⟨rfl, hsz, hO, hD0⟩ := hv
  obtain ⟨hP, hK⟩ := id hO
  have hx := B.exec
  have hb := B.bytes
  have hr := B.returns
  have hts := atoms_spec (ws := wsX2_place) B.pre
  have hown : s.vm.findClass RX2 = some m.cls := findClass_of_methodNamed B.named
  have hlocks := B.notSynchronized
  subst hsz
  have hD := hD0.self (sz := s.heap.size)
  generalize hAe : va_A (wM cD cZ cI cL h b0 b1 b2 b3 N I T R nn th) s.heap.size = A at hD ⊢
  have hA : ∀ q : Nat, s.heap.size ≤ q → A q := fun q h => by rw [← hAe]; exact Or.inr h
  have hS : va_S A s.heap s.heap [] := va_S.rf
  have hP : va_P (dC, dI) vwCl [(h, .inr (2, [.ref b0, .ref b1, .ref b2, .ref b3, .int (nI (nn)), .int (th)])), (b0, .inl (cD, 70, .inr (.inr (.inr (.inl (N)))))), (b1, .inl (cZ, 70, .inl (I))), (b2, .inl (cI, 60, .inl (T))), (b3, .inl (cI, 6, .inl (R)))] s.heap := hP
  have hD : va_D A [(h, .inr (2, [.ref b0, .ref b1, .ref b2, .ref b3, .int (nI (nn)), .int (th)])), (b0, .inl (cD, 70, .inr (.inr (.inr (.inl (N)))))), (b1, .inl (cZ, 70, .inl (I))), (b2, .inl (cI, 60, .inl (T))), (b3, .inl (cI, 6, .inl (R)))] := hD
  have hin2 : ∀ w ∈ wsX20, w ∈ wsX2_place := (fun w h => List.mem_cons_of_mem _ (List.mem_append_right _ h))
  have fl24 := hts (.fieldLink RX2 24 "JuryTableModel" "thrown" "I") (by decide +kernel)
  have hl := lv_entry ([.ref h, .int (nI (Bool.toNat (fb))), .int (nI (en)), .int (bv), .int (nI (Bool.toNat (sb)))]) (n := 9) (Nat.le_of_ble_eq_true rfl)
  rw [lg_entry_eq]
  generalize (lg_sl ([.ref h, .int (nI (Bool.toNat (fb))), .int (nI (en)), .int (bv), .int (nI (Bool.toNat (sb)))]) ++ List.replicate (9 - (lg_sl ([.ref h, .int (nI (Bool.toNat (fb))), .int (nI (en)), .int (bv), .int (nI (Bool.toNat (sb)))])).length) Slot.unset).toArray = ls at hl ⊢
  have hl : lv_has ls 9 [(0, .ref h), (1, .int (nI (Bool.toNat (fb)))), (2, .int (nI (en))), (3, .int (bv)), (4, .int (nI (Bool.toNat (sb))))] := hl
  refine lv_aload_n hx hb dX2_place_0 rfl (lv_at hl 0 rfl) ?_
  refine lv_iconst (v := nI 0) hx hb dX2_place_1 (by decide) ?_
  refine va_put (D := (dC, dI)) (ci := 2) (v := .int (nI (0))) (ty := .int) (C := RX2) (T := TX2) (N := 6) hx hb hts hin2 tyX2 tyX2_ok nmX2 hown hK hP hD hS 0 rfl rfl 5 (by decide) fl24 (fun _ h9 => h9) rfl (by decide +kernel) rfl rfl (Nat.le_of_ble_eq_true rfl) dX2_place_2 (fun H locs hP hD hS => ?_)
  have hP : va_P (dC, dI) vwCl [(h, .inr (2, [.ref b0, .ref b1, .ref b2, .ref b3, .int (nI (nn)), .int (nI (0))])), (b0, .inl (cD, 70, .inr (.inr (.inr (.inl (N)))))), (b1, .inl (cZ, 70, .inl (I))), (b2, .inl (cI, 60, .inl (T))), (b3, .inl (cI, 6, .inl (R)))] H := hP
  have hD : va_D A [(h, .inr (2, [.ref b0, .ref b1, .ref b2, .ref b3, .int (nI (nn)), .int (nI (0))])), (b0, .inl (cD, 70, .inr (.inr (.inr (.inl (N)))))), (b1, .inl (cZ, 70, .inl (I))), (b2, .inl (cI, 60, .inl (T))), (b3, .inl (cI, 6, .inl (R)))] := hD
  refine lv_aload_n hx hb dX2_place_5 rfl (lv_at hl 0 rfl) ?_
  refine lv_iload_n hx hb dX2_place_6 rfl (lv_at hl 2 rfl) ?_
  refine vp_callSi (va_Run.run (va_runV (As := [.int (nI (en))]) (rest := []) ⟨hx, hb, hml, hown, hts⟩ (c_X2_hasEntry_ok l dC dI cD cZ cI cL h b0 b1 b2 b3 N I T R nn (nI 0) (en) (by omega) (by omega)) (cwV 1 hts gX2_place_X2_hasEntry rfl rfl rfl (by decide +kernel) ⟨Nat.le_of_ble_eq_true rfl, Nat.le_of_ble_eq_true rfl⟩) (okM_pre ⟨hP, hK⟩) rfl rfl hl.1 rfl (lv_room (Nat.le_of_ble_eq_true rfl)) dX2_place_7 ⟨Nat.zero_le _, Nat.zero_le _⟩)) (fun r1 er1 => ?_)
  subst er1
  refine xb_if_eq (tgt := 21) hx hb dX2_place_10 (by decide) (fun q => absurd q (by decide)) (fun _ => ?_)
  refine lv_aload_n hx hb dX2_place_13 rfl (lv_at hl 0 rfl) ?_
  refine lv_iload_n hx hb dX2_place_14 rfl (lv_at hl 3 rfl) ?_
  have hPc := hP.sub (ws' := [(h, .inr (2, [.ref b0, .ref b1, .ref b2, .ref b3, .int (nI (nn)), .int (nI (0))])), (b0, .inl (cD, 70, .inr (.inr (.inr (.inl (N)))))), (b1, .inl (cZ, 70, .inl (I))), (b2, .inl (cI, 60, .inl (T))), (b3, .inl (cI, 6, .inl (R)))]) [0, 1, 2, 3, 4] rfl
  have hDc := hD.sub (ws' := [(h, .inr (2, [.ref b0, .ref b1, .ref b2, .ref b3, .int (nI (nn)), .int (nI (0))])), (b0, .inl (cD, 70, .inr (.inr (.inr (.inl (N)))))), (b1, .inl (cZ, 70, .inl (I))), (b2, .inl (cI, 60, .inl (T))), (b3, .inl (cI, 6, .inl (R)))]) [0, 1, 2, 3, 4] (by decide) rfl
  have hFc := va_free (wc := [(h, .inr (2, [.ref b0, .ref b1, .ref b2, .ref b3, .int (nI (nn)), .int (nI (0))])), (b0, .inl (cD, 70, .inr (.inr (.inr (.inl (N)))))), (b1, .inl (cZ, 70, .inl (I))), (b2, .inl (cI, 60, .inl (T))), (b3, .inl (cI, 6, .inl (R)))]) hD hS hA [0, 1, 2, 3, 4] rfl
  refine va_calli (va_runV (As := [.int (bv)]) (rest := []) ⟨hx, hb, hml, hown, hts⟩ (c_X2_hasSeat_no l dC dI cD cZ cI cL h b0 b1 b2 b3 N I T R nn (nI 0) H.size (bv) hbad) (cwV 1 hts gX2_place_X2_hasSeat rfl rfl rfl (by decide +kernel) ⟨Nat.le_of_ble_eq_true rfl, Nat.le_of_ble_eq_true rfl⟩) (okMW_pre ⟨hP, hK⟩ hD) rfl rfl hl.1 rfl (lv_room (Nat.le_of_ble_eq_true rfl)) dX2_place_15 ⟨Nat.zero_le _, Nat.zero_le _⟩) hS (fun q _ h => hFc q h) hFc (fun r2 u2 t H1 locs ht hvm hw hB hz1 hk1 hS => ?_)
  obtain ⟨hP1, hK1, hD1⟩ := hB
  rw [ht] at hP1
  have hD := hD1.weaken (fun _ q _ h => hFc q.1 h)
  have hP := hP1
  generalize H1 = H at hP hS ⊢
  have hP : va_P (dC, dI) vwCl [(h, .inr (2, [.ref b0, .ref b1, .ref b2, .ref b3, .int (nI (nn)), .int (nI (1))])), (b0, .inl (cD, 70, .inr (.inr (.inr (.inl (N)))))), (b1, .inl (cZ, 70, .inl (I))), (b2, .inl (cI, 60, .inl (T))), (b3, .inl (cI, 6, .inl (R)))] H := hP
  have hD : va_D A [(h, .inr (2, [.ref b0, .ref b1, .ref b2, .ref b3, .int (nI (nn)), .int (nI (1))])), (b0, .inl (cD, 70, .inr (.inr (.inr (.inl (N)))))), (b1, .inl (cZ, 70, .inl (I))), (b2, .inl (cI, 60, .inl (T))), (b3, .inl (cI, 6, .inl (R)))] := hD
  subst hw
  refine xb_if_ne (tgt := 23) hx hb dX2_place_18 (by decide) (fun q => absurd q (by decide)) (fun _ => ?_)
  refine lv_iconst (v := nI 0) hx hb dX2_place_21 (by decide) ?_
  exact W.iret (v := nI 0) hx hb hr (fun t ht hW => ⟨⟨_, (), rfl, rfl, by rw [ht]; exact hP, va_K.moved hW.alike hK, hD⟩, hS.F ht⟩) hS.2.2 dX2_place_22
