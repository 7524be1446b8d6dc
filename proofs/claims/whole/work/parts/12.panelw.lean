set_option maxHeartbeats 4000000 in
set_option maxRecDepth 100000 in
theorem c_X0_writeDouble (l : Launch) (dC : Nat → ClassId) (dI : Nat → Nat → Nat) (cD cZ cI cL : ClassId) (h a0 a1 a2 a3 : Nat) (N : Nat → UInt64) (G T O : Nat → Int32) (sz : Nat) (i : Nat) (v : UInt64) (hi : i < 35) (hv : FP.dcmp v v = some .eq) : Met l yX0_writeDouble wsX0_writeDouble ({ frames := 0, cells := 0, slots := 0, locals := 0 }) (va_Pc [.ref h, .int (nI (i)), .double (v)] (fun U => U.heap.size = sz ∧ okP dC dI cD cZ cI cL h a0 a1 a2 a3 N G T O U U.heap ∧ va_D (fun _ => True) (wP cD cZ cI cL h a0 a1 a2 a3 N G T O))) (va_Qv (fun _ : Unit => True) (fun _ t => atP dC dI cD cZ cI cL (va_A (wP cD cZ cI cL h a0 a1 a2 a3 N G T O) sz) h a0 a1 a2 a3 (vf_upd N i v) (upd G i (nI (Bool.toNat true))) T O t) (va_A (wP cD cZ cI cL h a0 a1 a2 a3 N G T O) sz)) 0 0 (va_A (wP cD cZ cI cL h a0 a1 a2 a3 N G T O) sz) := by
  refine Met.ofW (cc := cX0_writeDouble) (maxL := 4) (ret := none) (by decide) rfl ?_
  intro p e s m args below meth c s₁ B hml hv
  obtain ⟨rfl, hsz, hO, hD0⟩ := hv
  obtain ⟨hP, hK, hN⟩ := id hO
  have hx := B.exec
  have hb := B.bytes
  have hr := B.returns
  have hts := atoms_spec (ws := wsX0_writeDouble) B.pre
  have hown : s.vm.findClass RX0 = some m.cls := findClass_of_methodNamed B.named
  have hlocks := B.notSynchronized
  subst hsz
  have hD := hD0.self (sz := s.heap.size)
  generalize hAe : va_A (wP cD cZ cI cL h a0 a1 a2 a3 N G T O) s.heap.size = A at hD ⊢
  have hA : ∀ q : Nat, s.heap.size ≤ q → A q := fun q h => by rw [← hAe]; exact Or.inr h
  have hS : va_S A s.heap s.heap [] := va_S.rf
  have hP : va_P (dC, dI) vwCl [(h, .inr (0, [.ref a0, .ref a1, .ref a2, .ref a3])), (a0, .inl (cD, 35, .inr (.inr (.inr (.inl (N)))))), (a1, .inl (cZ, 35, .inl (G))), (a2, .inl (cI, 30, .inl (T))), (a3, .inl (cI, 6, .inl (O)))] s.heap := hP
  have hD : va_D A [(h, .inr (0, [.ref a0, .ref a1, .ref a2, .ref a3])), (a0, .inl (cD, 35, .inr (.inr (.inr (.inl (N)))))), (a1, .inl (cZ, 35, .inl (G))), (a2, .inl (cI, 30, .inl (T))), (a3, .inl (cI, 6, .inl (O)))] := hD
  have hin0 : ∀ w ∈ wsX00, w ∈ wsX0_writeDouble := (fun w h => List.mem_cons_of_mem _ (List.mem_append_right _ h))
  have fl9 := hts (.fieldLink RX0 9 "JuryTable$Panel" "numbers" "[D") (by decide +kernel)
  have fl15 := hts (.fieldLink RX0 15 "JuryTable$Panel" "given" "[Z") (by decide +kernel)
  have hl := lv_entry ([.ref h, .int (nI (i)), .double (v)]) (n := 4) (Nat.le_of_ble_eq_true rfl)
  rw [lg_entry_eq]
  generalize (lg_sl ([.ref h, .int (nI (i)), .double (v)]) ++ List.replicate (4 - (lg_sl ([.ref h, .int (nI (i)), .double (v)])).length) Slot.unset).toArray = ls at hl ⊢
  have hl : lv_has ls 4 [(0, .ref h), (1, .int (nI (i))), (2, .double (v))] := hl
  refine lv_aload_n hx hb dX0_writeDouble_0 rfl (lv_at hl 0 rfl) ?_
  refine va_get (D := (dC, dI)) (ci := 0) (v := .ref a1) (C := RX0) (T := TX0) (N := 4) hx hb hts hin0 hown hK hP 0 rfl rfl 1 (by decide) fl15 (fun _ h9 => h9) rfl dX0_writeDouble_1 ?_
  refine lv_iload_n hx hb dX0_writeDouble_4 rfl (lv_at hl 1 rfl) ?_
  refine lv_dload_n hx hb dX0_writeDouble_5 rfl (lv_at hl 2 rfl) ?_
  refine lv_dload_n hx hb dX0_writeDouble_6 rfl (lv_at hl 2 rfl) ?_
  refine xd_ne (tgt := 15) hx hb dX0_writeDouble_7 dX0_writeDouble_8 (by decide) (fun c7 => ?_) (fun c7 => ?_)
  · exact absurd hv c7
  · refine lv_iconst (v := nI 1) hx hb dX0_writeDouble_11 (by decide) ?_
    refine lv_goto (tgt := 16) hx hb dX0_writeDouble_12 (by decide) ?_
    refine xn_zast hx hb hK hP hD hS 2 1 rfl rfl (n := 35) (j := i) (x := true) (by omega) (by decide) dX0_writeDouble_16 (fun H locs hP hD hS => ?_)
    have hP : va_P (dC, dI) vwCl [(h, .inr (0, [.ref a0, .ref a1, .ref a2, .ref a3])), (a0, .inl (cD, 35, .inr (.inr (.inr (.inl (N)))))), (a1, .inl (cZ, 35, .inl (upd G i (nI (Bool.toNat (true)))))), (a2, .inl (cI, 30, .inl (T))), (a3, .inl (cI, 6, .inl (O)))] H := hP
    have hD : va_D A [(h, .inr (0, [.ref a0, .ref a1, .ref a2, .ref a3])), (a0, .inl (cD, 35, .inr (.inr (.inr (.inl (N)))))), (a1, .inl (cZ, 35, .inl (upd G i (nI (Bool.toNat (true)))))), (a2, .inl (cI, 30, .inl (T))), (a3, .inl (cI, 6, .inl (O)))] := hD
    refine lv_aload_n hx hb dX0_writeDouble_17 rfl (lv_at hl 0 rfl) ?_
    refine va_get (D := (dC, dI)) (ci := 0) (v := .ref a0) (C := RX0) (T := TX0) (N := 4) hx hb hts hin0 hown hK hP 0 rfl rfl 0 (by decide) fl9 (fun _ h9 => h9) rfl dX0_writeDouble_18 ?_
    refine lv_iload_n hx hb dX0_writeDouble_21 rfl (lv_at hl 1 rfl) ?_
    refine lv_dload_n hx hb dX0_writeDouble_22 rfl (lv_at hl 2 rfl) ?_
    refine lv_dload_n hx hb dX0_writeDouble_23 rfl (lv_at hl 2 rfl) ?_
    refine xd_ne (tgt := 32) hx hb dX0_writeDouble_24 dX0_writeDouble_25 (by decide) (fun c24 => ?_) (fun c24 => ?_)
    · exact absurd hv c24
    · refine lv_dload_n hx hb dX0_writeDouble_28 rfl (lv_at hl 2 rfl) ?_
      refine lv_goto (tgt := 33) hx hb dX0_writeDouble_29 (by decide) ?_
      refine xn_dast hx hb hK hP hD hS 1 0 rfl rfl (n := 35) (j := i) (by omega) (by decide) dX0_writeDouble_33 (fun H locs hP hD hS => ?_)
      have hP : va_P (dC, dI) vwCl [(h, .inr (0, [.ref a0, .ref a1, .ref a2, .ref a3])), (a0, .inl (cD, 35, .inr (.inr (.inr (.inl (vf_upd N i v)))))), (a1, .inl (cZ, 35, .inl (upd G i (nI (Bool.toNat (true)))))), (a2, .inl (cI, 30, .inl (T))), (a3, .inl (cI, 6, .inl (O)))] H := hP
      have hD : va_D A [(h, .inr (0, [.ref a0, .ref a1, .ref a2, .ref a3])), (a0, .inl (cD, 35, .inr (.inr (.inr (.inl (vf_upd N i v)))))), (a1, .inl (cZ, 35, .inl (upd G i (nI (Bool.toNat (true)))))), (a2, .inl (cI, 30, .inl (T))), (a3, .inl (cI, 6, .inl (O)))] := hD
      exact W.vret hx hb hr (fun t ht hW => ⟨⟨(), rfl, trivial, by rw [ht]; exact hP, va_K.moved hW.alike hK, hD⟩, hS.F ht⟩) hS.2.2 dX0_writeDouble_34
set_option maxHeartbeats 4000000 in
set_option maxRecDepth 100000 in
theorem c_X0_erase (l : Launch) (dC : Nat → ClassId) (dI : Nat → Nat → Nat) (cD cZ cI cL : ClassId) (h a0 a1 a2 a3 : Nat) (N : Nat → UInt64) (G T O : Nat → Int32) (sz : Nat) (i : Nat) (hi : i < 35) (hG : ∀ j, G j = 0 ∨ G j = 1) : Met l yX0_erase wsX0_erase ({ frames := 0, cells := 0, slots := 0, locals := 0 }) (va_Pc [.ref h, .int (nI (i))] (fun U => U.heap.size = sz ∧ okP dC dI cD cZ cI cL h a0 a1 a2 a3 N G T O U U.heap ∧ va_D (fun _ => True) (wP cD cZ cI cL h a0 a1 a2 a3 N G T O))) (va_Qi (fun (r : Int32) (_ : Unit) => r = G i) (fun _ t => atP dC dI cD cZ cI cL (va_A (wP cD cZ cI cL h a0 a1 a2 a3 N G T O) sz) h a0 a1 a2 a3 N (upd G i (nI (Bool.toNat false))) T O t) (va_A (wP cD cZ cI cL h a0 a1 a2 a3 N G T O) sz)) 0 0 (va_A (wP cD cZ cI cL h a0 a1 a2 a3 N G T O) sz) := by
  refine Met.ofW (cc := cX0_erase) (maxL := 3) (ret := (some .boolean)) (by decide) rfl ?_
  intro p e s m args below meth c s₁ B hml hv
  obtain ⟨rfl, hsz, hO, hD0⟩ := hv
  obtain ⟨hP, hK, hN⟩ := id hO
  have hx := B.exec
  have hb := B.bytes
  have hr := B.returns
  have hts := atoms_spec (ws := wsX0_erase) B.pre
  have hown : s.vm.findClass RX0 = some m.cls := findClass_of_methodNamed B.named
  have hlocks := B.notSynchronized
  subst hsz
  have hD := hD0.self (sz := s.heap.size)
  generalize hAe : va_A (wP cD cZ cI cL h a0 a1 a2 a3 N G T O) s.heap.size = A at hD ⊢
  have hA : ∀ q : Nat, s.heap.size ≤ q → A q := fun q h => by rw [← hAe]; exact Or.inr h
  have hS : va_S A s.heap s.heap [] := va_S.rf
  have hP : va_P (dC, dI) vwCl [(h, .inr (0, [.ref a0, .ref a1, .ref a2, .ref a3])), (a0, .inl (cD, 35, .inr (.inr (.inr (.inl (N)))))), (a1, .inl (cZ, 35, .inl (G))), (a2, .inl (cI, 30, .inl (T))), (a3, .inl (cI, 6, .inl (O)))] s.heap := hP
  have hD : va_D A [(h, .inr (0, [.ref a0, .ref a1, .ref a2, .ref a3])), (a0, .inl (cD, 35, .inr (.inr (.inr (.inl (N)))))), (a1, .inl (cZ, 35, .inl (G))), (a2, .inl (cI, 30, .inl (T))), (a3, .inl (cI, 6, .inl (O)))] := hD
  have hin0 : ∀ w ∈ wsX00, w ∈ wsX0_erase := (fun w h => List.mem_cons_of_mem _ (List.mem_append_right _ h))
  have fl15 := hts (.fieldLink RX0 15 "JuryTable$Panel" "given" "[Z") (by decide +kernel)
  have hl := lv_entry ([.ref h, .int (nI (i))]) (n := 3) (Nat.le_of_ble_eq_true rfl)
  rw [lg_entry_eq]
  generalize (lg_sl ([.ref h, .int (nI (i))]) ++ List.replicate (3 - (lg_sl ([.ref h, .int (nI (i))])).length) Slot.unset).toArray = ls at hl ⊢
  have hl : lv_has ls 3 [(0, .ref h), (1, .int (nI (i)))] := hl
  refine lv_aload_n hx hb dX0_erase_0 rfl (lv_at hl 0 rfl) ?_
  refine va_get (D := (dC, dI)) (ci := 0) (v := .ref a1) (C := RX0) (T := TX0) (N := 4) hx hb hts hin0 hown hK hP 0 rfl rfl 1 (by decide) fl15 (fun _ h9 => h9) rfl dX0_erase_1 ?_
  refine lv_iload_n hx hb dX0_erase_4 rfl (lv_at hl 1 rfl) ?_
  refine xn_zald hx hb hK hP 2 1 rfl rfl (n := 35) (j := i) (by omega) (by decide) dX0_erase_5 ?_
  refine lv_istore_n (lv' := [(2, .int (G i)), (0, .ref h), (1, .int (nI (i)))]) hx hb dX0_erase_6 rfl hl (by decide) rfl (fun ls hl => ?_)
  refine lv_aload_n hx hb dX0_erase_7 rfl (lv_at hl 1 rfl) ?_
  refine va_get (D := (dC, dI)) (ci := 0) (v := .ref a1) (C := RX0) (T := TX0) (N := 4) hx hb hts hin0 hown hK hP 0 rfl rfl 1 (by decide) fl15 (fun _ h9 => h9) rfl dX0_erase_8 ?_
  refine lv_iload_n hx hb dX0_erase_11 rfl (lv_at hl 2 rfl) ?_
  refine lv_iconst (v := nI 0) hx hb dX0_erase_12 (by decide) ?_
  refine xn_zast hx hb hK hP hD hS 2 1 rfl rfl (n := 35) (j := i) (x := false) (by omega) (by decide) dX0_erase_13 (fun H locs hP hD hS => ?_)
  have hP : va_P (dC, dI) vwCl [(h, .inr (0, [.ref a0, .ref a1, .ref a2, .ref a3])), (a0, .inl (cD, 35, .inr (.inr (.inr (.inl (N)))))), (a1, .inl (cZ, 35, .inl (upd G i (nI (Bool.toNat (false)))))), (a2, .inl (cI, 30, .inl (T))), (a3, .inl (cI, 6, .inl (O)))] H := hP
  have hD : va_D A [(h, .inr (0, [.ref a0, .ref a1, .ref a2, .ref a3])), (a0, .inl (cD, 35, .inr (.inr (.inr (.inl (N)))))), (a1, .inl (cZ, 35, .inl (upd G i (nI (Bool.toNat (false)))))), (a2, .inl (cI, 30, .inl (T))), (a3, .inl (cI, 6, .inl (O)))] := hD
  refine lv_iload_n hx hb dX0_erase_14 rfl (lv_at hl 0 rfl) ?_
  exact W.zret (v := G i) (ty := .boolean) hx hb hr (xz_nar (hG i)) (fun t ht hW => ⟨⟨_, (), rfl, rfl, by rw [ht]; exact hP, va_K.moved hW.alike hK, hD⟩, hS.F ht⟩) hS.2.2 dX0_erase_15
set_option maxHeartbeats 4000000 in
set_option maxRecDepth 100000 in
theorem c_X0_writeFloat (l : Launch) (dC : Nat → ClassId) (dI : Nat → Nat → Nat) (cD cZ cI cL : ClassId) (h a0 a1 a2 a3 : Nat) (N : Nat → UInt64) (G T O : Nat → Int32) (sz : Nat) (i : Nat) (fv : UInt32) (hi : i < 35) (hv : FP.fcmp fv fv = some .eq) (hn : vf_n64 (FP.f2d fv)) (hvd : FP.dcmp (FP.f2d fv) (FP.f2d fv) = some .eq) : Met l yX0_writeFloat wsX0_writeFloat ({ frames := 1, cells := 0, slots := 0, locals := 23 }) (va_Pc [.ref h, .int (nI (i)), .float (fv)] (fun U => U.heap.size = sz ∧ okP dC dI cD cZ cI cL h a0 a1 a2 a3 N G T O U U.heap ∧ va_D (fun _ => True) (wP cD cZ cI cL h a0 a1 a2 a3 N G T O))) (va_Qv (fun _ : Unit => True) (fun _ t => atP dC dI cD cZ cI cL (va_A (wP cD cZ cI cL h a0 a1 a2 a3 N G T O) sz) h a0 a1 a2 a3 (vf_upd N i (FP.f2d fv)) (upd G i (nI (Bool.toNat true))) T O t) (va_A (wP cD cZ cI cL h a0 a1 a2 a3 N G T O) sz)) 0 0 (va_A (wP cD cZ cI cL h a0 a1 a2 a3 N G T O) sz) := by
  refine Met.ofW (cc := cX0_writeFloat) (maxL := 3) (ret := none) (by decide) rfl ?_
  intro p e s m args below meth c s₁ B hml hv
  obtain ⟨rfl, hsz, hO, hD0⟩ := hv
  obtain ⟨hP, hK, hN⟩ := id hO
  have hx := B.exec
  have hb := B.bytes
  have hr := B.returns
  have hts := atoms_spec (ws := wsX0_writeFloat) B.pre
  have hown : s.vm.findClass RX0 = some m.cls := findClass_of_methodNamed B.named
  have hlocks := B.notSynchronized
  subst hsz
  have hD := hD0.self (sz := s.heap.size)
  generalize hAe : va_A (wP cD cZ cI cL h a0 a1 a2 a3 N G T O) s.heap.size = A at hD ⊢
  have hA : ∀ q : Nat, s.heap.size ≤ q → A q := fun q h => by rw [← hAe]; exact Or.inr h
  have hS : va_S A s.heap s.heap [] := va_S.rf
  have hP : va_P (dC, dI) vwCl [(h, .inr (0, [.ref a0, .ref a1, .ref a2, .ref a3])), (a0, .inl (cD, 35, .inr (.inr (.inr (.inl (N)))))), (a1, .inl (cZ, 35, .inl (G))), (a2, .inl (cI, 30, .inl (T))), (a3, .inl (cI, 6, .inl (O)))] s.heap := hP
  have hD : va_D A [(h, .inr (0, [.ref a0, .ref a1, .ref a2, .ref a3])), (a0, .inl (cD, 35, .inr (.inr (.inr (.inl (N)))))), (a1, .inl (cZ, 35, .inl (G))), (a2, .inl (cI, 30, .inl (T))), (a3, .inl (cI, 6, .inl (O)))] := hD
  have hl := lv_entry ([.ref h, .int (nI (i)), .float (fv)]) (n := 3) (Nat.le_of_ble_eq_true rfl)
  rw [lg_entry_eq]
  generalize (lg_sl ([.ref h, .int (nI (i)), .float (fv)]) ++ List.replicate (3 - (lg_sl ([.ref h, .int (nI (i)), .float (fv)])).length) Slot.unset).toArray = ls at hl ⊢
  have hl : lv_has ls 3 [(0, .ref h), (1, .int (nI (i))), (2, .float (fv))] := hl
  refine lv_fload_n hx hb dX0_writeFloat_0 rfl (lv_at hl 2 rfl) ?_
  refine lv_fload_n hx hb dX0_writeFloat_1 rfl (lv_at hl 2 rfl) ?_
  refine xf_ne (tgt := 16) hx hb dX0_writeFloat_2 dX0_writeFloat_3 (by decide) (fun c2 => ?_) (fun c2 => ?_)
  · exact absurd hv c2
  · refine lv_aload_n hx hb dX0_writeFloat_6 rfl (lv_at hl 0 rfl) ?_
    refine lv_iload_n hx hb dX0_writeFloat_7 rfl (lv_at hl 1 rfl) ?_
    refine lv_fload_n hx hb dX0_writeFloat_8 rfl (lv_at hl 2 rfl) ?_
    refine lv_f2d hx hb dX0_writeFloat_9 hn ?_
    have hPc := hP.sub (ws' := [(h, .inr (0, [.ref a0, .ref a1, .ref a2, .ref a3])), (a0, .inl (cD, 35, .inr (.inr (.inr (.inl (N)))))), (a1, .inl (cZ, 35, .inl (G))), (a2, .inl (cI, 30, .inl (T))), (a3, .inl (cI, 6, .inl (O)))]) [0, 1, 2, 3, 4] rfl
    have hDc := hD.sub (ws' := [(h, .inr (0, [.ref a0, .ref a1, .ref a2, .ref a3])), (a0, .inl (cD, 35, .inr (.inr (.inr (.inl (N)))))), (a1, .inl (cZ, 35, .inl (G))), (a2, .inl (cI, 30, .inl (T))), (a3, .inl (cI, 6, .inl (O)))]) [0, 1, 2, 3, 4] (by decide) rfl
    have hFc := va_free (wc := [(h, .inr (0, [.ref a0, .ref a1, .ref a2, .ref a3])), (a0, .inl (cD, 35, .inr (.inr (.inr (.inl (N)))))), (a1, .inl (cZ, 35, .inl (G))), (a2, .inl (cI, 30, .inl (T))), (a3, .inl (cI, 6, .inl (O)))]) hD hS hA [0, 1, 2, 3, 4] rfl
    refine va_callv (va_runV (As := [.int (nI (i)), .double (FP.f2d fv)]) (rest := []) ⟨hx, hb, hml, hown, hts⟩ (c_X0_writeDouble l dC dI cD cZ cI cL h a0 a1 a2 a3 N G T O s.heap.size (i) (FP.f2d fv) (by omega) (hvd)) (cwV 2 hts gX0_writeFloat_X0_writeDouble rfl rfl rfl (by decide +kernel) ⟨Nat.le_of_ble_eq_true rfl, Nat.le_of_ble_eq_true rfl⟩) (okPW_pre ⟨hP, hK, hN⟩ hD) rfl rfl hl.1 rfl (lv_room (Nat.le_of_ble_eq_true rfl)) dX0_writeFloat_10 ⟨Nat.zero_le _, Nat.zero_le _⟩) hS (fun q _ h => hFc q h) hFc (fun u1 t H1 locs ht hvm hw hB hz1 hk1 hS => ?_)
    obtain ⟨hP1, hK1, hD1⟩ := hB
    rw [ht] at hP1
    have hD := hD1.weaken (fun _ q _ h => hFc q.1 h)
    have hP := hP1
    generalize H1 = H at hP hS ⊢
    have hP : va_P (dC, dI) vwCl [(h, .inr (0, [.ref a0, .ref a1, .ref a2, .ref a3])), (a0, .inl (cD, 35, .inr (.inr (.inr (.inl (vf_upd N i (FP.f2d fv))))))), (a1, .inl (cZ, 35, .inl (upd G i (nI (Bool.toNat true))))), (a2, .inl (cI, 30, .inl (T))), (a3, .inl (cI, 6, .inl (O)))] H := hP
    have hD : va_D A [(h, .inr (0, [.ref a0, .ref a1, .ref a2, .ref a3])), (a0, .inl (cD, 35, .inr (.inr (.inr (.inl (vf_upd N i (FP.f2d fv))))))), (a1, .inl (cZ, 35, .inl (upd G i (nI (Bool.toNat true))))), (a2, .inl (cI, 30, .inl (T))), (a3, .inl (cI, 6, .inl (O)))] := hD
    refine lv_goto (tgt := 22) hx hb dX0_writeFloat_13 (by decide) ?_
    exact W.vret hx hb hr (fun t ht hW => ⟨⟨(), rfl, trivial, by rw [ht]; exact hP, va_K.moved hW.alike hK, hD⟩, hS.F ht⟩) hS.2.2 dX0_writeFloat_22
set_option maxHeartbeats 4000000 in
set_option maxRecDepth 100000 in
theorem c_X0_keepTruth (l : Launch) (dC : Nat → ClassId) (dI : Nat → Nat → Nat) (cD cZ cI cL : ClassId) (h a0 a1 a2 a3 : Nat) (N : Nat → UInt64) (G T O : Nat → Int32) (sz : Nat) (en bn kn : Nat) (hen : en < 6) (hbn : bn < 5) (hkn : kn < 24) : Met l yX0_keepTruth wsX0_keepTruth ({ frames := 2, cells := 0, slots := 0, locals := 51 }) (va_Pc [.ref h, .int (nI (en)), .int (nI (bn)), .int (nI (kn))] (fun U => U.heap.size = sz ∧ okP dC dI cD cZ cI cL h a0 a1 a2 a3 N G T O U U.heap ∧ va_D (fun _ => True) (wP cD cZ cI cL h a0 a1 a2 a3 N G T O))) (va_Qi (fun (r : Int32) (_ : Unit) => r = nI (Bool.toNat (so G N (en * 5 + bn) (6 * 5 + bn) kn))) (fun _ t => atP dC dI cD cZ cI cL (va_A (wP cD cZ cI cL h a0 a1 a2 a3 N G T O) sz) h a0 a1 a2 a3 N G (upd T (en * 5 + bn) (nI (Bool.toNat (so G N (en * 5 + bn) (6 * 5 + bn) kn)))) O t) (va_A (wP cD cZ cI cL h a0 a1 a2 a3 N G T O) sz)) 0 0 (va_A (wP cD cZ cI cL h a0 a1 a2 a3 N G T O) sz) := by
  refine Met.ofW (cc := cX0_keepTruth) (maxL := 5) (ret := (some .boolean)) (by decide) rfl ?_
  intro p e s m args below meth c s₁ B hml hv
  obtain ⟨rfl, hsz, hO, hD0⟩ := hv
  obtain ⟨hP, hK, hN⟩ := id hO
  have hx := B.exec
  have hb := B.bytes
  have hr := B.returns
  have hts := atoms_spec (ws := wsX0_keepTruth) B.pre
  have hown : s.vm.findClass RX0 = some m.cls := findClass_of_methodNamed B.named
  have hlocks := B.notSynchronized
  subst hsz
  have hD := hD0.self (sz := s.heap.size)
  generalize hAe : va_A (wP cD cZ cI cL h a0 a1 a2 a3 N G T O) s.heap.size = A at hD ⊢
  have hA : ∀ q : Nat, s.heap.size ≤ q → A q := fun q h => by rw [← hAe]; exact Or.inr h
  have hS : va_S A s.heap s.heap [] := va_S.rf
  have hP : va_P (dC, dI) vwCl [(h, .inr (0, [.ref a0, .ref a1, .ref a2, .ref a3])), (a0, .inl (cD, 35, .inr (.inr (.inr (.inl (N)))))), (a1, .inl (cZ, 35, .inl (G))), (a2, .inl (cI, 30, .inl (T))), (a3, .inl (cI, 6, .inl (O)))] s.heap := hP
  have hD : va_D A [(h, .inr (0, [.ref a0, .ref a1, .ref a2, .ref a3])), (a0, .inl (cD, 35, .inr (.inr (.inr (.inl (N)))))), (a1, .inl (cZ, 35, .inl (G))), (a2, .inl (cI, 30, .inl (T))), (a3, .inl (cI, 6, .inl (O)))] := hD
  have hin0 : ∀ w ∈ wsX00, w ∈ wsX0_keepTruth := (fun w h => List.mem_cons_of_mem _ (List.mem_append_right _ h))
  have fl19 := hts (.fieldLink RX0 19 "JuryTable$Panel" "truths" "[I") (by decide +kernel)
  have hl := lv_entry ([.ref h, .int (nI (en)), .int (nI (bn)), .int (nI (kn))]) (n := 5) (Nat.le_of_ble_eq_true rfl)
  rw [lg_entry_eq]
  generalize (lg_sl ([.ref h, .int (nI (en)), .int (nI (bn)), .int (nI (kn))]) ++ List.replicate (5 - (lg_sl ([.ref h, .int (nI (en)), .int (nI (bn)), .int (nI (kn))])).length) Slot.unset).toArray = ls at hl ⊢
  have hl : lv_has ls 5 [(0, .ref h), (1, .int (nI (en))), (2, .int (nI (bn))), (3, .int (nI (kn)))] := hl
  refine lv_aload_n hx hb dX0_keepTruth_0 rfl (lv_at hl 0 rfl) ?_
  refine lv_iload_n hx hb dX0_keepTruth_1 rfl (lv_at hl 1 rfl) ?_
  refine lv_iload_n hx hb dX0_keepTruth_2 rfl (lv_at hl 2 rfl) ?_
  refine lv_iload_n hx hb dX0_keepTruth_3 rfl (lv_at hl 3 rfl) ?_
  refine vp_callSi (va_Run.run (va_runV (As := [.int (nI (en)), .int (nI (bn)), .int (nI (kn))]) (rest := []) ⟨hx, hb, hml, hown, hts⟩ (c_X0_isSo l dC dI cD cZ cI cL h a0 a1 a2 a3 N G T O (en) (bn) (kn) (by omega) (by omega) (by omega)) (cwV 3 hts gX0_keepTruth_X0_isSo rfl rfl rfl (by decide +kernel) ⟨Nat.le_of_ble_eq_true rfl, Nat.le_of_ble_eq_true rfl⟩) (okP_pre ⟨hP, hK, hN⟩) rfl rfl hl.1 rfl (lv_room (Nat.le_of_ble_eq_true rfl)) dX0_keepTruth_4 ⟨Nat.zero_le _, Nat.zero_le _⟩)) (fun r1 er1 => ?_)
  subst er1
  refine lv_istore (lv' := [(4, .int (nI (Bool.toNat (so G N (en * 5 + bn) (6 * 5 + bn) kn)))), (0, .ref h), (1, .int (nI (en))), (2, .int (nI (bn))), (3, .int (nI (kn)))]) hx hb dX0_keepTruth_7 hl (by decide) rfl (fun ls hl => ?_)
  refine lv_aload_n hx hb dX0_keepTruth_9 rfl (lv_at hl 1 rfl) ?_
  refine va_get (D := (dC, dI)) (ci := 0) (v := .ref a2) (C := RX0) (T := TX0) (N := 4) hx hb hts hin0 hown hK hP 0 rfl rfl 2 (by decide) fl19 (fun _ h9 => h9) rfl dX0_keepTruth_10 ?_
  refine lv_iload_n hx hb dX0_keepTruth_13 rfl (lv_at hl 2 rfl) ?_
  refine lv_iload_n hx hb dX0_keepTruth_14 rfl (lv_at hl 3 rfl) ?_
  refine vp_callSi (va_Run.run (va_runSN (host := RX1) (As := [.int (nI (en)), .int (nI (bn))]) (rest := [.ref a2]) ⟨hx, hb, hml, hown, hts⟩ (c_X1_cellOf l (en) (bn)) ⟨va_cnB 2 hts gX0_keepTruth_X1_cellOf_n40 rfl rfl rfl hN (hts (.initialized RX1) (by decide +kernel)) (by decide +kernel) ⟨Nat.le_of_ble_eq_true rfl, Nat.le_of_ble_eq_true rfl⟩, hts (.static yX1_cellOf) (by decide +kernel), trivial⟩ preT rfl rfl hl.1 rfl (lv_room (Nat.le_of_ble_eq_true rfl)) dX0_keepTruth_15 ⟨Nat.zero_le _, Nat.zero_le _⟩)) (fun r2 er2 => ?_)
  subst er2
  refine lv_iload hx hb dX0_keepTruth_18 (lv_at hl 0 rfl) ?_
  refine jb_if_eq hx hb dX0_keepTruth_20 dX0_keepTruth_23 dX0_keepTruth_24 dX0_keepTruth_27 ?_
  refine xn_iast hx hb hK hP hD hS 3 2 rfl rfl (n := 30) (j := en * 5 + bn) (by omega) (by decide) dX0_keepTruth_28 (fun H locs hP hD hS => ?_)
  have hP : va_P (dC, dI) vwCl [(h, .inr (0, [.ref a0, .ref a1, .ref a2, .ref a3])), (a0, .inl (cD, 35, .inr (.inr (.inr (.inl (N)))))), (a1, .inl (cZ, 35, .inl (G))), (a2, .inl (cI, 30, .inl (upd T (en * 5 + bn) (nI (Bool.toNat (so G N (en * 5 + bn) (6 * 5 + bn) kn)))))), (a3, .inl (cI, 6, .inl (O)))] H := hP
  have hD : va_D A [(h, .inr (0, [.ref a0, .ref a1, .ref a2, .ref a3])), (a0, .inl (cD, 35, .inr (.inr (.inr (.inl (N)))))), (a1, .inl (cZ, 35, .inl (G))), (a2, .inl (cI, 30, .inl (upd T (en * 5 + bn) (nI (Bool.toNat (so G N (en * 5 + bn) (6 * 5 + bn) kn)))))), (a3, .inl (cI, 6, .inl (O)))] := hD
  refine lv_iload hx hb dX0_keepTruth_29 (lv_at hl 0 rfl) ?_
  exact W.zret (v := nI (Bool.toNat (so G N (en * 5 + bn) (6 * 5 + bn) kn))) (ty := .boolean) hx hb hr (xb_nar _) (fun t ht hW => ⟨⟨_, (), rfl, rfl, by rw [ht]; exact hP, va_K.moved hW.alike hK, hD⟩, hS.F ht⟩) hS.2.2 dX0_keepTruth_31
set_option maxHeartbeats 4000000 in
set_option maxRecDepth 100000 in
theorem c_X0_lineUp (l : Launch) (dC : Nat → ClassId) (dI : Nat → Nat → Nat) (cD cZ cI cL : ClassId) (h a0 a1 a2 a3 : Nat) (N : Nat → UInt64) (G T O : Nat → Int32) (sz : Nat) (nx sn : Nat) (sb : Bool) (o : Nat → Nat) (hnx : nx < 6) (hsn : sn < 5) (hag : agr O o nx nx) : Met l yX0_lineUp wsX0_lineUp ({ frames := 2, cells := 0, slots := 0, locals := 47 }) (va_Pc [.ref h, .int (nI (nx)), .int (nI (sn)), .int (nI (Bool.toNat (sb)))] (fun U => U.heap.size = sz ∧ okP dC dI cD cZ cI cL h a0 a1 a2 a3 N G T O U U.heap ∧ va_D (fun _ => True) (wP cD cZ cI cL h a0 a1 a2 a3 N G T O))) (va_Qv (fun O9 : (Nat → Int32) => agr O9 (ins (fun a b => gh (rl G N (a * 5 + sn) (b * 5 + sn)) sb) o nx nx) (nx + 1) (nx + 1)) (fun O9 t => atP dC dI cD cZ cI cL (va_A (wP cD cZ cI cL h a0 a1 a2 a3 N G T O) sz) h a0 a1 a2 a3 N G T O9 t) (va_A (wP cD cZ cI cL h a0 a1 a2 a3 N G T O) sz)) 0 0 (va_A (wP cD cZ cI cL h a0 a1 a2 a3 N G T O) sz) := by
  refine Met.ofW (cc := cX0_lineUp) (maxL := 5) (ret := none) (by decide) rfl ?_
  intro p e s m args below meth c s₁ B hml hv
  obtain ⟨rfl, hsz, hO, hD0⟩ := hv
  obtain ⟨hP, hK, hN⟩ := id hO
  have hx := B.exec
  have hb := B.bytes
  have hr := B.returns
  have hts := atoms_spec (ws := wsX0_lineUp) B.pre
  have hown : s.vm.findClass RX0 = some m.cls := findClass_of_methodNamed B.named
  have hlocks := B.notSynchronized
  subst hsz
  have hD := hD0.self (sz := s.heap.size)
  generalize hAe : va_A (wP cD cZ cI cL h a0 a1 a2 a3 N G T O) s.heap.size = A at hD ⊢
  have hA : ∀ q : Nat, s.heap.size ≤ q → A q := fun q h => by rw [← hAe]; exact Or.inr h
  have hS : va_S A s.heap s.heap [] := va_S.rf
  have hP : va_P (dC, dI) vwCl [(h, .inr (0, [.ref a0, .ref a1, .ref a2, .ref a3])), (a0, .inl (cD, 35, .inr (.inr (.inr (.inl (N)))))), (a1, .inl (cZ, 35, .inl (G))), (a2, .inl (cI, 30, .inl (T))), (a3, .inl (cI, 6, .inl (O)))] s.heap := hP
  have hD : va_D A [(h, .inr (0, [.ref a0, .ref a1, .ref a2, .ref a3])), (a0, .inl (cD, 35, .inr (.inr (.inr (.inl (N)))))), (a1, .inl (cZ, 35, .inl (G))), (a2, .inl (cI, 30, .inl (T))), (a3, .inl (cI, 6, .inl (O)))] := hD
  have hin0 : ∀ w ∈ wsX00, w ∈ wsX0_lineUp := (fun w h => List.mem_cons_of_mem _ (List.mem_append_right _ h))
  have fl23 := hts (.fieldLink RX0 23 "JuryTable$Panel" "order" "[I") (by decide +kernel)
  have hl := lv_entry ([.ref h, .int (nI (nx)), .int (nI (sn)), .int (nI (Bool.toNat (sb)))]) (n := 5) (Nat.le_of_ble_eq_true rfl)
  rw [lg_entry_eq]
  generalize (lg_sl ([.ref h, .int (nI (nx)), .int (nI (sn)), .int (nI (Bool.toNat (sb)))]) ++ List.replicate (5 - (lg_sl ([.ref h, .int (nI (nx)), .int (nI (sn)), .int (nI (Bool.toNat (sb)))])).length) Slot.unset).toArray = ls at hl ⊢
  have hl : lv_has ls 5 [(0, .ref h), (1, .int (nI (nx))), (2, .int (nI (sn))), (3, .int (nI (Bool.toNat (sb))))] := hl
  refine lv_iload_n hx hb dX0_lineUp_0 rfl (lv_at hl 1 rfl) ?_
  refine lv_istore (lv' := [(4, .int (nI (nx))), (0, .ref h), (1, .int (nI (nx))), (2, .int (nI (sn))), (3, .int (nI (Bool.toNat (sb))))]) hx hb dX0_lineUp_1 hl (by decide) rfl (fun ls hl => ?_)
  refine W_loopH (α := Nat × (Nat → Int32) × (Nat → Nat)) (P := fun n a H locs ls => (a.1 < n ∧ a.1 < nx + 1) ∧ agr a.2.1 a.2.2 (nx + 1) a.1 ∧ ins (fun a b => gh (rl G N (a * 5 + sn) (b * 5 + sn)) sb) a.2.2 nx a.1 = ins (fun a b => gh (rl G N (a * 5 + sn) (b * 5 + sn)) sb) o nx nx ∧ va_P (dC, dI) vwCl (wP cD cZ cI cL h a0 a1 a2 a3 N G T a.2.1) H ∧ va_D A (wP cD cZ cI cL h a0 a1 a2 a3 N G T a.2.1) ∧ va_S A s.heap H locs ∧ lv_has ls 5 [(4, .int (nI (a.1))), (0, .ref h), (1, .int (nI (nx))), (2, .int (nI (sn))), (3, .int (nI (Bool.toNat (sb))))]) (st := fun _ => []) 3 (fun a H locs ls h => by have := h.1; omega) (fun n ih a H locs ls h => ?_) (nx + 1) (nx, O, o) s.heap [] ls ⟨⟨Nat.lt_succ_self _, Nat.lt_succ_self _⟩, agr_beg hag, rfl, hP, hD, hS, lv_sub hl [0, 1, 2, 3, 4] rfl⟩
  obtain ⟨pl, O2, o2⟩ := a
  dsimp only at h
  obtain ⟨⟨hpn, hpx⟩, hagr, hins, hP, hD, hS, hl⟩ := h
  have hP : va_P (dC, dI) vwCl [(h, .inr (0, [.ref a0, .ref a1, .ref a2, .ref a3])), (a0, .inl (cD, 35, .inr (.inr (.inr (.inl (N)))))), (a1, .inl (cZ, 35, .inl (G))), (a2, .inl (cI, 30, .inl (T))), (a3, .inl (cI, 6, .inl (O2)))] H := hP
  have hD : va_D A [(h, .inr (0, [.ref a0, .ref a1, .ref a2, .ref a3])), (a0, .inl (cD, 35, .inr (.inr (.inr (.inl (N)))))), (a1, .inl (cZ, 35, .inl (G))), (a2, .inl (cI, 30, .inl (T))), (a3, .inl (cI, 6, .inl (O2)))] := hD
  refine lv_iload hx hb dX0_lineUp_3 (lv_at hl 0 rfl) ?_
  refine xn_if_le (tgt := 49) hx hb (by omega) dX0_lineUp_5 (by decide) (fun c5 => ?_) (fun c5 => ?_)
  · refine lv_aload_n hx hb dX0_lineUp_49 rfl (lv_at hl 1 rfl) ?_
    refine va_get (D := (dC, dI)) (ci := 0) (v := .ref a3) (C := RX0) (T := TX0) (N := 4) hx hb hts hin0 hown hK hP 0 rfl rfl 3 (by decide) fl23 (fun _ h9 => h9) rfl dX0_lineUp_50 ?_
    refine lv_iload hx hb dX0_lineUp_53 (lv_at hl 0 rfl) ?_
    refine lv_iload_n hx hb dX0_lineUp_55 rfl (lv_at hl 2 rfl) ?_
    refine xn_iast hx hb hK hP hD hS 4 2 rfl rfl (n := 6) (j := pl) (by omega) (by decide) dX0_lineUp_56 (fun H locs hP hD hS => ?_)
    have hP : va_P (dC, dI) vwCl [(h, .inr (0, [.ref a0, .ref a1, .ref a2, .ref a3])), (a0, .inl (cD, 35, .inr (.inr (.inr (.inl (N)))))), (a1, .inl (cZ, 35, .inl (G))), (a2, .inl (cI, 30, .inl (T))), (a3, .inl (cI, 6, .inl (upd O2 pl (nI nx))))] H := hP
    have hD : va_D A [(h, .inr (0, [.ref a0, .ref a1, .ref a2, .ref a3])), (a0, .inl (cD, 35, .inr (.inr (.inr (.inl (N)))))), (a1, .inl (cZ, 35, .inl (G))), (a2, .inl (cI, 30, .inl (T))), (a3, .inl (cI, 6, .inl (upd O2 pl (nI nx))))] := hD
    exact W.vret hx hb hr (fun t ht hW => ⟨⟨upd O2 pl (nI nx), rfl, (by rw [← hins, ← ins_zero (g := (fun a b => gh (rl G N (a * 5 + sn) (b * 5 + sn)) sb)) c5]; exact agr_end hagr (by omega)), by rw [ht]; exact hP, va_K.moved hW.alike hK, hD⟩, hS.F ht⟩) hS.2.2 dX0_lineUp_57
  · refine lv_aload_n hx hb dX0_lineUp_8 rfl (lv_at hl 1 rfl) ?_
    refine lv_aload_n hx hb dX0_lineUp_9 rfl (lv_at hl 1 rfl) ?_
    refine va_get (D := (dC, dI)) (ci := 0) (v := .ref a3) (C := RX0) (T := TX0) (N := 4) hx hb hts hin0 hown hK hP 0 rfl rfl 3 (by decide) fl23 (fun _ h9 => h9) rfl dX0_lineUp_10 ?_
    refine lv_iload hx hb dX0_lineUp_13 (lv_at hl 0 rfl) ?_
    refine lv_iconst (v := nI 1) hx hb dX0_lineUp_15 (by decide) ?_
    refine xn_isub hx hb (by omega) dX0_lineUp_16 ?_
    refine xn_iald hx hb hK hP 4 2 rfl rfl (n := 6) (j := pl - 1) (by omega) (by decide) dX0_lineUp_17 ?_
    rw [agr_at hagr (j := pl - 1) (by omega) (by omega)]
    have hol := agr_lt hagr (j := pl - 1) (by omega) (by omega)
    refine lv_iload_n hx hb dX0_lineUp_18 rfl (lv_at hl 2 rfl) ?_
    refine lv_iload_n hx hb dX0_lineUp_19 rfl (lv_at hl 3 rfl) ?_
    refine lv_iload_n hx hb dX0_lineUp_20 rfl (lv_at hl 4 rfl) ?_
    refine vp_callSi (va_Run.run (va_runV (As := [.int (nI (o2 (pl - 1))), .int (nI (nx)), .int (nI (sn)), .int (nI (Bool.toNat (sb)))]) (rest := []) ⟨hx, hb, hml, hown, hts⟩ (c_X0_goesAhead l dC dI cD cZ cI cL h a0 a1 a2 a3 N G T O2 (o2 (pl - 1)) (nx) (sn) (sb) (by omega) (by omega) (by omega)) (cwV 4 hts gX0_lineUp_X0_goesAhead rfl rfl rfl (by decide +kernel) ⟨Nat.le_of_ble_eq_true rfl, Nat.le_of_ble_eq_true rfl⟩) (okP_pre ⟨hP, hK, hN⟩) rfl rfl hl.1 rfl (lv_room (Nat.le_of_ble_eq_true rfl)) dX0_lineUp_21 ⟨Nat.zero_le _, Nat.zero_le _⟩)) (fun r1 er1 => ?_)
    subst er1
    refine xb_if_eq (tgt := 49) hx hb dX0_lineUp_24 (by decide) (fun c24 => ?_) (fun c24 => ?_)
    · refine lv_aload_n hx hb dX0_lineUp_49 rfl (lv_at hl 1 rfl) ?_
      refine va_get (D := (dC, dI)) (ci := 0) (v := .ref a3) (C := RX0) (T := TX0) (N := 4) hx hb hts hin0 hown hK hP 0 rfl rfl 3 (by decide) fl23 (fun _ h9 => h9) rfl dX0_lineUp_50 ?_
      refine lv_iload hx hb dX0_lineUp_53 (lv_at hl 0 rfl) ?_
      refine lv_iload_n hx hb dX0_lineUp_55 rfl (lv_at hl 2 rfl) ?_
      refine xn_iast hx hb hK hP hD hS 4 2 rfl rfl (n := 6) (j := pl) (by omega) (by decide) dX0_lineUp_56 (fun H locs hP hD hS => ?_)
      have hP : va_P (dC, dI) vwCl [(h, .inr (0, [.ref a0, .ref a1, .ref a2, .ref a3])), (a0, .inl (cD, 35, .inr (.inr (.inr (.inl (N)))))), (a1, .inl (cZ, 35, .inl (G))), (a2, .inl (cI, 30, .inl (T))), (a3, .inl (cI, 6, .inl (upd O2 pl (nI nx))))] H := hP
      have hD : va_D A [(h, .inr (0, [.ref a0, .ref a1, .ref a2, .ref a3])), (a0, .inl (cD, 35, .inr (.inr (.inr (.inl (N)))))), (a1, .inl (cZ, 35, .inl (G))), (a2, .inl (cI, 30, .inl (T))), (a3, .inl (cI, 6, .inl (upd O2 pl (nI nx))))] := hD
      exact W.vret hx hb hr (fun t ht hW => ⟨⟨upd O2 pl (nI nx), rfl, (by rw [← hins, ← ins_stop (g := (fun a b => gh (rl G N (a * 5 + sn) (b * 5 + sn)) sb)) (by omega) c24]; exact agr_end hagr (by omega)), by rw [ht]; exact hP, va_K.moved hW.alike hK, hD⟩, hS.F ht⟩) hS.2.2 dX0_lineUp_57
    · refine lv_aload_n hx hb dX0_lineUp_27 rfl (lv_at hl 1 rfl) ?_
      refine va_get (D := (dC, dI)) (ci := 0) (v := .ref a3) (C := RX0) (T := TX0) (N := 4) hx hb hts hin0 hown hK hP 0 rfl rfl 3 (by decide) fl23 (fun _ h9 => h9) rfl dX0_lineUp_28 ?_
      refine lv_iload hx hb dX0_lineUp_31 (lv_at hl 0 rfl) ?_
      refine lv_aload_n hx hb dX0_lineUp_33 rfl (lv_at hl 1 rfl) ?_
      refine va_get (D := (dC, dI)) (ci := 0) (v := .ref a3) (C := RX0) (T := TX0) (N := 4) hx hb hts hin0 hown hK hP 0 rfl rfl 3 (by decide) fl23 (fun _ h9 => h9) rfl dX0_lineUp_34 ?_
      refine lv_iload hx hb dX0_lineUp_37 (lv_at hl 0 rfl) ?_
      refine lv_iconst (v := nI 1) hx hb dX0_lineUp_39 (by decide) ?_
      refine xn_isub hx hb (by omega) dX0_lineUp_40 ?_
      refine xn_iald hx hb hK hP 4 2 rfl rfl (n := 6) (j := pl - 1) (by omega) (by decide) dX0_lineUp_41 ?_
      rw [agr_at hagr (j := pl - 1) (by omega) (by omega)]
      have hol := agr_lt hagr (j := pl - 1) (by omega) (by omega)
      refine xn_iast hx hb hK hP hD hS 4 2 rfl rfl (n := 6) (j := pl) (by omega) (by decide) dX0_lineUp_42 (fun H locs hP hD hS => ?_)
      have hP : va_P (dC, dI) vwCl [(h, .inr (0, [.ref a0, .ref a1, .ref a2, .ref a3])), (a0, .inl (cD, 35, .inr (.inr (.inr (.inl (N)))))), (a1, .inl (cZ, 35, .inl (G))), (a2, .inl (cI, 30, .inl (T))), (a3, .inl (cI, 6, .inl (upd O2 pl (nI (o2 (pl - 1))))))] H := hP
      have hD : va_D A [(h, .inr (0, [.ref a0, .ref a1, .ref a2, .ref a3])), (a0, .inl (cD, 35, .inr (.inr (.inr (.inl (N)))))), (a1, .inl (cZ, 35, .inl (G))), (a2, .inl (cI, 30, .inl (T))), (a3, .inl (cI, 6, .inl (upd O2 pl (nI (o2 (pl - 1))))))] := hD
      refine xn_iincm (lv2 := [(4, .int (nI (pl - 1))), (0, .ref h), (1, .int (nI (nx))), (2, .int (nI (sn))), (3, .int (nI (Bool.toNat (sb))))]) hx hb dX0_lineUp_43 hl (by omega) (k0 := 0) rfl (by decide) rfl (fun ls hl => ?_)
      refine lv_goto (tgt := 3) hx hb dX0_lineUp_46 (by decide) ?_
      exact ih (pl - 1, upd O2 pl (nI (o2 (pl - 1))), va_up o2 pl (o2 (pl - 1))) H locs ls ⟨⟨(by show pl - 1 < n; omega), (by show pl - 1 < nx + 1; omega)⟩, agr_go hagr (by omega) (by omega), (ins_go (by omega) c24).trans hins, hP, hD, hS, lv_sub hl [0, 1, 2, 3, 4] rfl⟩
set_option maxHeartbeats 4000000 in
set_option maxRecDepth 100000 in
theorem c_X0_placeOf (l : Launch) (dC : Nat → ClassId) (dI : Nat → Nat → Nat) (cD cZ cI cL : ClassId) (h a0 a1 a2 a3 : Nat) (N : Nat → UInt64) (G T O : Nat → Int32) (sz : Nat) (en sn : Nat) (sb : Bool) (nn : Nat) (hen : en < 6) (hsn : sn < 5) (hnn : nn ≤ 6) : Met l yX0_placeOf wsX0_placeOf ({ frames := 3, cells := 0, slots := 0, locals := 71 }) (va_Pc [.ref h, .int (nI (en)), .int (nI (sn)), .int (nI (Bool.toNat (sb))), .int (nI (nn))] (fun U => U.heap.size = sz ∧ okP dC dI cD cZ cI cL h a0 a1 a2 a3 N G T O U U.heap ∧ va_D (fun _ => True) (wP cD cZ cI cL h a0 a1 a2 a3 N G T O))) (va_Qi (fun (r : Int32) (O9 : (Nat → Int32)) => r = nI (stp (fun j => decide (lin (fun a b => gh (rl G N (a * 5 + sn) (b * 5 + sn)) sb) nn j ≠ en)) nn 0)) (fun O9 t => atP dC dI cD cZ cI cL (va_A (wP cD cZ cI cL h a0 a1 a2 a3 N G T O) sz) h a0 a1 a2 a3 N G T O9 t) (va_A (wP cD cZ cI cL h a0 a1 a2 a3 N G T O) sz)) 0 0 (va_A (wP cD cZ cI cL h a0 a1 a2 a3 N G T O) sz) := by
  refine Met.ofW (cc := cX0_placeOf) (maxL := 6) (ret := (some .int)) (by decide) rfl ?_
  intro p e s m args below meth c s₁ B hml hv
  obtain ⟨rfl, hsz, hO, hD0⟩ := hv
  obtain ⟨hP, hK, hN⟩ := id hO
  have hx := B.exec
  have hb := B.bytes
  have hr := B.returns
  have hts := atoms_spec (ws := wsX0_placeOf) B.pre
  have hown : s.vm.findClass RX0 = some m.cls := findClass_of_methodNamed B.named
  have hlocks := B.notSynchronized
  subst hsz
  have hD := hD0.self (sz := s.heap.size)
  generalize hAe : va_A (wP cD cZ cI cL h a0 a1 a2 a3 N G T O) s.heap.size = A at hD ⊢
  have hA : ∀ q : Nat, s.heap.size ≤ q → A q := fun q h => by rw [← hAe]; exact Or.inr h
  have hS : va_S A s.heap s.heap [] := va_S.rf
  have hP : va_P (dC, dI) vwCl [(h, .inr (0, [.ref a0, .ref a1, .ref a2, .ref a3])), (a0, .inl (cD, 35, .inr (.inr (.inr (.inl (N)))))), (a1, .inl (cZ, 35, .inl (G))), (a2, .inl (cI, 30, .inl (T))), (a3, .inl (cI, 6, .inl (O)))] s.heap := hP
  have hD : va_D A [(h, .inr (0, [.ref a0, .ref a1, .ref a2, .ref a3])), (a0, .inl (cD, 35, .inr (.inr (.inr (.inl (N)))))), (a1, .inl (cZ, 35, .inl (G))), (a2, .inl (cI, 30, .inl (T))), (a3, .inl (cI, 6, .inl (O)))] := hD
  have hin0 : ∀ w ∈ wsX00, w ∈ wsX0_placeOf := (fun w h => List.mem_cons_of_mem _ (List.mem_append_right _ h))
  have fl23 := hts (.fieldLink RX0 23 "JuryTable$Panel" "order" "[I") (by decide +kernel)
  have hl := lv_entry ([.ref h, .int (nI (en)), .int (nI (sn)), .int (nI (Bool.toNat (sb))), .int (nI (nn))]) (n := 6) (Nat.le_of_ble_eq_true rfl)
  rw [lg_entry_eq]
  generalize (lg_sl ([.ref h, .int (nI (en)), .int (nI (sn)), .int (nI (Bool.toNat (sb))), .int (nI (nn))]) ++ List.replicate (6 - (lg_sl ([.ref h, .int (nI (en)), .int (nI (sn)), .int (nI (Bool.toNat (sb))), .int (nI (nn))])).length) Slot.unset).toArray = ls at hl ⊢
  have hl : lv_has ls 6 [(0, .ref h), (1, .int (nI (en))), (2, .int (nI (sn))), (3, .int (nI (Bool.toNat (sb)))), (4, .int (nI (nn)))] := hl
  refine lv_iconst (v := nI 0) hx hb dX0_placeOf_0 (by decide) ?_
  refine lv_istore (lv' := [(5, .int (nI (0))), (0, .ref h), (1, .int (nI (en))), (2, .int (nI (sn))), (3, .int (nI (Bool.toNat (sb)))), (4, .int (nI (nn)))]) hx hb dX0_placeOf_1 hl (by decide) rfl (fun ls hl => ?_)
  refine W_loopH (α := Nat × (Nat → Int32)) (P := fun n a H locs ls => (a.1 + n = nn + 1 ∧ a.1 < nn + 1) ∧ agr a.2 (lin (fun a b => gh (rl G N (a * 5 + sn) (b * 5 + sn)) sb) a.1) a.1 a.1 ∧ va_P (dC, dI) vwCl (wP cD cZ cI cL h a0 a1 a2 a3 N G T a.2) H ∧ va_D A (wP cD cZ cI cL h a0 a1 a2 a3 N G T a.2) ∧ va_S A s.heap H locs ∧ lv_has ls 6 [(5, .int (nI (a.1))), (0, .ref h), (1, .int (nI (en))), (2, .int (nI (sn))), (3, .int (nI (Bool.toNat (sb)))), (4, .int (nI (nn)))]) (st := fun _ => []) 3 (fun a H locs ls h => by have := h.1; omega) (fun n ih a H locs ls h => ?_) (nn + 1) (0, O) s.heap [] ls ⟨⟨by show 0 + (nn + 1) = nn + 1; omega, by show 0 < nn + 1; omega⟩, fun j hj => absurd hj (Nat.not_lt_zero _), hP, hD, hS, lv_sub hl [0, 1, 2, 3, 4, 5] rfl⟩
  obtain ⟨i, O2⟩ := a
  dsimp only at h
  obtain ⟨⟨hin, hix⟩, hagr, hP, hD, hS, hl⟩ := h
  have hP : va_P (dC, dI) vwCl [(h, .inr (0, [.ref a0, .ref a1, .ref a2, .ref a3])), (a0, .inl (cD, 35, .inr (.inr (.inr (.inl (N)))))), (a1, .inl (cZ, 35, .inl (G))), (a2, .inl (cI, 30, .inl (T))), (a3, .inl (cI, 6, .inl (O2)))] H := hP
  have hD : va_D A [(h, .inr (0, [.ref a0, .ref a1, .ref a2, .ref a3])), (a0, .inl (cD, 35, .inr (.inr (.inr (.inl (N)))))), (a1, .inl (cZ, 35, .inl (G))), (a2, .inl (cI, 30, .inl (T))), (a3, .inl (cI, 6, .inl (O2)))] := hD
  refine lv_iload hx hb dX0_placeOf_3 (lv_at hl 0 rfl) ?_
  refine lv_iload hx hb dX0_placeOf_5 (lv_at hl 5 rfl) ?_
  refine xn_icmp_ge (tgt := 24) hx hb (by omega) (by omega) dX0_placeOf_7 (by decide) (fun c7 => ?_) (fun c7 => ?_)
  · refine lv_iconst (v := nI 0) hx hb dX0_placeOf_24 (by decide) ?_
    refine lv_istore (lv' := [(5, .int (nI (0))), (0, .ref h), (1, .int (nI (en))), (2, .int (nI (sn))), (3, .int (nI (Bool.toNat (sb)))), (4, .int (nI (nn)))]) hx hb dX0_placeOf_25 hl (by decide) rfl (fun ls hl => ?_)
    have hin9 : i = nn := by omega
    subst hin9
    refine W_loop (α := Nat) (P := fun n j ls => (j + n = i + 1 ∧ j < i + 1) ∧ stp (fun j => decide (lin (fun a b => gh (rl G N (a * 5 + sn) (b * 5 + sn)) sb) i j ≠ en)) (i - j) j = stp (fun j => decide (lin (fun a b => gh (rl G N (a * 5 + sn) (b * 5 + sn)) sb) i j ≠ en)) i 0 ∧ lv_has ls 6 [(5, .int (nI (j))), (0, .ref h), (1, .int (nI (en))), (2, .int (nI (sn))), (3, .int (nI (Bool.toNat (sb)))), (4, .int (nI (i)))]) (st := fun _ => []) 27 (fun j ls h => by have := h.1; omega) (fun n ih j ls h => ?_) (i + 1) 0 ls ⟨⟨by omega, by omega⟩, rfl, lv_sub hl [0, 1, 2, 3, 4, 5] rfl⟩
    obtain ⟨⟨hjn, hjx⟩, h2, hl⟩ := h
    refine lv_iload hx hb dX0_placeOf_27 (lv_at hl 0 rfl) ?_
    refine lv_iload hx hb dX0_placeOf_29 (lv_at hl 5 rfl) ?_
    refine xn_icmp_ge (tgt := 51) hx hb (by omega) (by omega) dX0_placeOf_31 (by decide) (fun c31 => ?_) (fun c31 => ?_)
    · refine lv_iload hx hb dX0_placeOf_51 (lv_at hl 0 rfl) ?_
      exact W.iret (v := nI j) hx hb hr (fun t ht hW => ⟨⟨_, O2, rfl, (by rw [← h2, show j = i by omega, Nat.sub_self]; rfl), by rw [ht]; exact hP, va_K.moved hW.alike hK, hD⟩, hS.F ht⟩) hS.2.2 dX0_placeOf_53
    · refine lv_aload_n hx hb dX0_placeOf_34 rfl (lv_at hl 1 rfl) ?_
      refine va_get (D := (dC, dI)) (ci := 0) (v := .ref a3) (C := RX0) (T := TX0) (N := 4) hx hb hts hin0 hown hK hP 0 rfl rfl 3 (by decide) fl23 (fun _ h9 => h9) rfl dX0_placeOf_35 ?_
      refine lv_iload hx hb dX0_placeOf_38 (lv_at hl 0 rfl) ?_
      refine xn_iald hx hb hK hP 4 2 rfl rfl (n := 6) (j := j) (by omega) (by decide) dX0_placeOf_40 ?_
      rw [agr_at hagr (j := j) (by omega) (by omega)]
      have hol := agr_lt hagr (j := j) (by omega) (by omega)
      refine lv_iload_n hx hb dX0_placeOf_41 rfl (lv_at hl 2 rfl) ?_
      refine xn_icmp_eq (tgt := 51) hx hb (by omega) (by omega) dX0_placeOf_42 (by decide) (fun c42 => ?_) (fun c42 => ?_)
      · refine lv_iload hx hb dX0_placeOf_51 (lv_at hl 0 rfl) ?_
        exact W.iret (v := nI j) hx hb hr (fun t ht hW => ⟨⟨_, O2, rfl, (by rw [← h2, show i - j = (i - j - 1) + 1 by omega, stp_stop (f := (fun j => decide (lin (fun a b => gh (rl G N (a * 5 + sn) (b * 5 + sn)) sb) i j ≠ en))) (decide_eq_false (fun q => q c42))]), by rw [ht]; exact hP, va_K.moved hW.alike hK, hD⟩, hS.F ht⟩) hS.2.2 dX0_placeOf_53
      · refine xn_iinc (lv2 := [(5, .int (nI (j + 1))), (0, .ref h), (1, .int (nI (en))), (2, .int (nI (sn))), (3, .int (nI (Bool.toNat (sb)))), (4, .int (nI (i)))]) hx hb dX0_placeOf_45 hl (k0 := 0) rfl (by decide) rfl (fun ls hl => ?_)
        refine lv_goto (tgt := 27) hx hb dX0_placeOf_48 (by decide) ?_
        exact ih (j + 1) ls ⟨⟨by omega, by omega⟩, by rw [← h2, show i - j = (i - (j + 1)) + 1 by omega, stp_go (f := (fun j => decide (lin (fun a b => gh (rl G N (a * 5 + sn) (b * 5 + sn)) sb) i j ≠ en))) (decide_eq_true c42)], lv_sub hl [0, 1, 2, 3, 4, 5] rfl⟩
  · refine lv_aload_n hx hb dX0_placeOf_10 rfl (lv_at hl 1 rfl) ?_
    refine lv_iload hx hb dX0_placeOf_11 (lv_at hl 0 rfl) ?_
    refine lv_iload_n hx hb dX0_placeOf_13 rfl (lv_at hl 3 rfl) ?_
    refine lv_iload_n hx hb dX0_placeOf_14 rfl (lv_at hl 4 rfl) ?_
    have hPc := hP.sub (ws' := [(h, .inr (0, [.ref a0, .ref a1, .ref a2, .ref a3])), (a0, .inl (cD, 35, .inr (.inr (.inr (.inl (N)))))), (a1, .inl (cZ, 35, .inl (G))), (a2, .inl (cI, 30, .inl (T))), (a3, .inl (cI, 6, .inl (O2)))]) [0, 1, 2, 3, 4] rfl
    have hDc := hD.sub (ws' := [(h, .inr (0, [.ref a0, .ref a1, .ref a2, .ref a3])), (a0, .inl (cD, 35, .inr (.inr (.inr (.inl (N)))))), (a1, .inl (cZ, 35, .inl (G))), (a2, .inl (cI, 30, .inl (T))), (a3, .inl (cI, 6, .inl (O2)))]) [0, 1, 2, 3, 4] (by decide) rfl
    have hFc := va_free (wc := [(h, .inr (0, [.ref a0, .ref a1, .ref a2, .ref a3])), (a0, .inl (cD, 35, .inr (.inr (.inr (.inl (N)))))), (a1, .inl (cZ, 35, .inl (G))), (a2, .inl (cI, 30, .inl (T))), (a3, .inl (cI, 6, .inl (O2)))]) hD hS hA [0, 1, 2, 3, 4] rfl
    refine va_callv (va_runV (As := [.int (nI (i)), .int (nI (sn)), .int (nI (Bool.toNat (sb)))]) (rest := []) ⟨hx, hb, hml, hown, hts⟩ (c_X0_lineUp l dC dI cD cZ cI cL h a0 a1 a2 a3 N G T O2 H.size (i) (sn) (sb) (lin (fun a b => gh (rl G N (a * 5 + sn) (b * 5 + sn)) sb) i) (by omega) (by omega) hagr) (cwV 3 hts gX0_placeOf_X0_lineUp rfl rfl rfl (by decide +kernel) ⟨Nat.le_of_ble_eq_true rfl, Nat.le_of_ble_eq_true rfl⟩) (okPW_pre ⟨hP, hK, hN⟩ hD) rfl rfl hl.1 rfl (lv_room (Nat.le_of_ble_eq_true rfl)) dX0_placeOf_15 ⟨Nat.zero_le _, Nat.zero_le _⟩) hS (fun q _ h => hFc q h) hFc (fun u1 t H1 locs ht hvm hw hB hz1 hk1 hS => ?_)
    obtain ⟨hP1, hK1, hD1⟩ := hB
    rw [ht] at hP1
    have hD := hD1.weaken (fun _ q _ h => hFc q.1 h)
    have hP := hP1
    generalize H1 = H at hP hS ⊢
    have hP : va_P (dC, dI) vwCl [(h, .inr (0, [.ref a0, .ref a1, .ref a2, .ref a3])), (a0, .inl (cD, 35, .inr (.inr (.inr (.inl (N)))))), (a1, .inl (cZ, 35, .inl (G))), (a2, .inl (cI, 30, .inl (T))), (a3, .inl (cI, 6, .inl (u1)))] H := hP
    have hD : va_D A [(h, .inr (0, [.ref a0, .ref a1, .ref a2, .ref a3])), (a0, .inl (cD, 35, .inr (.inr (.inr (.inl (N)))))), (a1, .inl (cZ, 35, .inl (G))), (a2, .inl (cI, 30, .inl (T))), (a3, .inl (cI, 6, .inl (u1)))] := hD
    refine xn_iinc (lv2 := [(5, .int (nI (i + 1))), (0, .ref h), (1, .int (nI (en))), (2, .int (nI (sn))), (3, .int (nI (Bool.toNat (sb)))), (4, .int (nI (nn)))]) hx hb dX0_placeOf_18 hl (k0 := 0) rfl (by decide) rfl (fun ls hl => ?_)
    refine lv_goto (tgt := 3) hx hb dX0_placeOf_21 (by decide) ?_
    exact ih (i + 1, u1) H locs ls ⟨⟨(by show i + 1 + n = nn + 1; omega), (by show i + 1 < nn + 1; omega)⟩, hw, hP, hD, hS, lv_sub hl [0, 1, 2, 3, 4, 5] rfl⟩
