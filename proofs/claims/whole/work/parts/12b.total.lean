set_option maxHeartbeats 4000000 in
set_option maxRecDepth 100000 in
theorem c_J7_fill_d0a16 (l : Launch) (dC : Nat → ClassId) (dI : Nat → Nat → Nat) (cD cZ cI cL : ClassId) (q : Nat) (f : Nat → Int64) (tv : Int64) (sz : Nat) : Met l yJ7_fill_d0a16 wsJ7_fill_d0a16 ({ frames := 0, cells := 0, slots := 0, locals := 0 }) (va_Pc [.ref q, .long (tv)] (fun U => U.heap.size = sz ∧ okN dC dI cD cZ cI cL [(q, .inl (cL, 42, .inr (.inl f)))] U U.heap ∧ va_D (fun _ => True) ([(q, .inl (cL, 42, .inr (.inl f)))]))) (va_Qv (fun f9 : (Nat → Int64) => ∀ j, j < 42 → f9 j = tv) (fun f9 t => atN dC dI cD cZ cI cL (va_A ([(q, .inl (cL, 42, .inr (.inl f)))]) sz) [(q, .inl (cL, 42, .inr (.inl f9)))] t) (va_A ([(q, .inl (cL, 42, .inr (.inl f)))]) sz)) 0 0 (va_A ([(q, .inl (cL, 42, .inr (.inl f)))]) sz) := by
  refine Met.ofW (cc := cJ7_fill_d0a16) (maxL := 5) (ret := none) (by decide) rfl ?_
  intro p e s m args below meth c s₁ B hml hv
  obtain ⟨rfl, hsz, hO, hD0⟩ := hv
  obtain ⟨hP, hK⟩ := id hO
  have hx := B.exec
  have hb := B.bytes
  have hr := B.returns
  have hts := atoms_spec (ws := wsJ7_fill_d0a16) B.pre
  have hown : s.vm.findClass RJ7 = some m.cls := findClass_of_methodNamed B.named
  have hlocks := B.notSynchronized
  subst hsz
  have hD := hD0.self (sz := s.heap.size)
  generalize hAe : va_A ([(q, .inl (cL, 42, .inr (.inl f)))]) s.heap.size = A at hD ⊢
  have hA : ∀ q : Nat, s.heap.size ≤ q → A q := fun q h => by rw [← hAe]; exact Or.inr h
  have hS : va_S A s.heap s.heap [] := va_S.rf
  have hP : va_P (dC, dI) vwCl [(q, .inl (cL, 42, .inr (.inl (f))))] s.heap := hP
  have hD : va_D A [(q, .inl (cL, 42, .inr (.inl (f))))] := hD
  have hl := lv_entry ([.ref q, .long (tv)]) (n := 5) (Nat.le_of_ble_eq_true rfl)
  rw [lg_entry_eq]
  generalize (lg_sl ([.ref q, .long (tv)]) ++ List.replicate (5 - (lg_sl ([.ref q, .long (tv)])).length) Slot.unset).toArray = ls at hl ⊢
  have hl : lv_has ls 5 [(0, .ref q), (1, .long (tv))] := hl
  refine lv_iconst (v := nI 0) hx hb dJ7_fill_d0a16_0 (by decide) ?_
  refine lv_istore_n (lv' := [(3, .int (nI (0))), (0, .ref q), (1, .long (tv))]) hx hb dJ7_fill_d0a16_1 rfl hl (by decide) rfl (fun ls hl => ?_)
  refine lv_aload_n hx hb dJ7_fill_d0a16_2 rfl (lv_at hl 1 rfl) ?_
  refine va_alen (v := nI 42) hx hb hK hP 0 3 rfl rfl rfl dJ7_fill_d0a16_3 ?_
  refine lv_istore (lv' := [(4, .int (nI (42))), (3, .int (nI (0))), (0, .ref q), (1, .long (tv))]) hx hb dJ7_fill_d0a16_4 hl (by decide) rfl (fun ls hl => ?_)
  refine W_loopH (α := Nat × (Nat → Int64)) (P := fun n a H locs ls => (a.1 + n = 43 ∧ a.1 < 43) ∧ (∀ j, j < a.1 → a.2 j = tv) ∧ va_P (dC, dI) vwCl [(q, .inl (cL, 42, .inr (.inl a.2)))] H ∧ va_D A [(q, .inl (cL, 42, .inr (.inl a.2)))] ∧ va_S A s.heap H locs ∧ lv_has ls 5 [(3, .int (nI (a.1))), (0, .ref q), (1, .long (tv)), (4, .int (nI (42)))]) (st := fun _ => []) 6 (fun a H locs ls h => by have := h.1; omega) (fun n ih a H locs ls h => ?_) 43 (0, f) s.heap [] ls ⟨⟨(rfl : 0 + 43 = 43), (by show 0 < 43; decide)⟩, fun j hj => absurd hj (Nat.not_lt_zero _), hP, hD, hS, lv_sub hl [1, 2, 3, 0] rfl⟩
  obtain ⟨i, f2⟩ := a
  dsimp only at h
  obtain ⟨⟨hin, hix⟩, hall, hP, hD, hS, hl⟩ := h
  have hP : va_P (dC, dI) vwCl [(q, .inl (cL, 42, .inr (.inl (f2))))] H := hP
  have hD : va_D A [(q, .inl (cL, 42, .inr (.inl (f2))))] := hD
  refine lv_iload_n hx hb dJ7_fill_d0a16_6 rfl (lv_at hl 0 rfl) ?_
  refine lv_iload hx hb dJ7_fill_d0a16_7 (lv_at hl 3 rfl) ?_
  refine xn_icmp_ge (tgt := 22) hx hb (by omega) (by decide) dJ7_fill_d0a16_9 (by decide) (fun c9 => ?_) (fun c9 => ?_)
  · exact W.vret hx hb hr (fun t ht hW => ⟨⟨f2, rfl, (fun j hj => hall j (by omega)), by rw [ht]; exact hP, va_K.moved hW.alike hK, hD⟩, hS.F ht⟩) hS.2.2 dJ7_fill_d0a16_22
  · refine lv_aload_n hx hb dJ7_fill_d0a16_12 rfl (lv_at hl 1 rfl) ?_
    refine lv_iload_n hx hb dJ7_fill_d0a16_13 rfl (lv_at hl 0 rfl) ?_
    refine lv_lload_n hx hb dJ7_fill_d0a16_14 rfl (lv_at hl 2 rfl) ?_
    refine xn_last hx hb hK hP hD hS 0 3 rfl rfl (n := 42) (j := i) (by omega) (by decide) dJ7_fill_d0a16_15 (fun H locs hP hD hS => ?_)
    have hP : va_P (dC, dI) vwCl [(q, .inl (cL, 42, .inr (.inl (vp_updL f2 i tv))))] H := hP
    have hD : va_D A [(q, .inl (cL, 42, .inr (.inl (vp_updL f2 i tv))))] := hD
    refine xn_iinc (lv2 := [(3, .int (nI (i + 1))), (0, .ref q), (1, .long (tv)), (4, .int (nI (42)))]) hx hb dJ7_fill_d0a16_16 hl (k0 := 0) rfl (by decide) rfl (fun ls hl => ?_)
    refine lv_goto (tgt := 6) hx hb dJ7_fill_d0a16_19 (by decide) ?_
    exact ih (i + 1, vp_updL f2 i tv) H locs ls ⟨⟨(by show i + 1 + n = 43; omega), (by show i + 1 < 43; omega)⟩, updL_all hall, hP, hD, hS, lv_sub hl [0, 1, 2, 3] rfl⟩
set_option maxHeartbeats 4000000 in
set_option maxRecDepth 100000 in
theorem c_X3_restart (l : Launch) (dC : Nat → ClassId) (dI : Nat → Nat → Nat) (cD cZ cI cL : ClassId) (h t0 : Nat) (D : Nat → Int64) (sz : Nat) : Met l yX3_restart wsX3_restart ({ frames := 1, cells := 0, slots := 0, locals := 24 }) (va_Pc [.ref h] (fun U => U.heap.size = sz ∧ okT dC dI cD cZ cI cL h t0 D U U.heap ∧ va_D (fun _ => True) (wT cL h t0 D))) (va_Qv (fun D9 : (Nat → Int64) => one21 D9 0) (fun D9 t => atT dC dI cD cZ cI cL (va_A (wT cL h t0 D) sz) h t0 D9 t) (va_A (wT cL h t0 D) sz)) 0 0 (va_A (wT cL h t0 D) sz) := by
  refine Met.ofW (cc := cX3_restart) (maxL := 1) (ret := none) (by decide) rfl ?_
  intro p e s m args below meth c s₁ B hml hv
  obtain ⟨rfl, hsz, hO, hD0⟩ := hv
  obtain ⟨hP, hK⟩ := id hO
  have hx := B.exec
  have hb := B.bytes
  have hr := B.returns
  have hts := atoms_spec (ws := wsX3_restart) B.pre
  have hown : s.vm.findClass RX3 = some m.cls := findClass_of_methodNamed B.named
  have hlocks := B.notSynchronized
  subst hsz
  have hD := hD0.self (sz := s.heap.size)
  generalize hAe : va_A (wT cL h t0 D) s.heap.size = A at hD ⊢
  have hA : ∀ q : Nat, s.heap.size ≤ q → A q := fun q h => by rw [← hAe]; exact Or.inr h
  have hS : va_S A s.heap s.heap [] := va_S.rf
  have hP : va_P (dC, dI) vwCl [(h, .inr (3, [.ref t0])), (t0, .inl (cL, 42, .inr (.inl (D))))] s.heap := hP
  have hD : va_D A [(h, .inr (3, [.ref t0])), (t0, .inl (cL, 42, .inr (.inl (D))))] := hD
  have hin3 : ∀ w ∈ wsX30, w ∈ wsX3_restart := (fun w h => List.mem_cons_of_mem _ (List.mem_append_right _ h))
  have fl9 := hts (.fieldLink RX3 9 "JuryTable$Total" "digits" "[J") (by decide +kernel)
  have hl := lv_entry ([.ref h]) (n := 1) (Nat.le_of_ble_eq_true rfl)
  rw [lg_entry_eq]
  generalize (lg_sl ([.ref h]) ++ List.replicate (1 - (lg_sl ([.ref h])).length) Slot.unset).toArray = ls at hl ⊢
  have hl : lv_has ls 1 [(0, .ref h)] := hl
  refine lv_aload_n hx hb dX3_restart_0 rfl (lv_at hl 0 rfl) ?_
  refine va_get (D := (dC, dI)) (ci := 3) (v := .ref t0) (C := RX3) (T := TX3) (N := 1) hx hb hts hin3 hown hK hP 0 rfl rfl 0 (by decide) fl9 (fun _ h9 => h9) rfl dX3_restart_1 ?_
  refine lv_lconst (v := 0) hx hb dX3_restart_4 (by decide) ?_
  have hPc := hP.sub (ws' := [(t0, .inl (cL, 42, .inr (.inl (D))))]) [1] rfl
  have hDc := hD.sub (ws' := [(t0, .inl (cL, 42, .inr (.inl (D))))]) [1] (by decide) rfl
  have hFc := va_free (wc := [(t0, .inl (cL, 42, .inr (.inl (D))))]) hD hS hA [1] rfl
  refine va_callv (va_runS (As := [.ref t0, .long (0)]) (rest := []) ⟨hx, hb, hml, hown, hts⟩ (c_J7_fill_d0a16 l dC dI cD cZ cI cL t0 (D) (0) s.heap.size) (va_cwS 2 hts gX3_restart_J7_fill_d0a16 rfl rfl rfl (by decide +kernel) ⟨Nat.le_of_ble_eq_true rfl, Nat.le_of_ble_eq_true rfl⟩) (okN_preS hPc hK hDc) rfl rfl hl.1 rfl (lv_room (Nat.le_of_ble_eq_true rfl)) dX3_restart_5 ⟨Nat.zero_le _, Nat.zero_le _⟩) hS (fun q _ h => hFc q h) hFc (fun D9 t H1 locs ht hvm hw hB hz1 hk1 hS => ?_)
  obtain ⟨hP1, hK1, hD1⟩ := hB
  rw [ht] at hP1
  obtain ⟨hP, hD⟩ := va_join (wr := [(h, .inr (3, [.ref t0]))]) (w1 := [(t0, .inl (cL, 42, .inr (.inl (D9))))]) hP hD [1] [0] rfl rfl (by decide) (by decide) hk1 hFc hP1 hD1
  generalize H1 = H at hP hS ⊢
  have hP : va_P (dC, dI) vwCl [(h, .inr (3, [.ref t0])), (t0, .inl (cL, 42, .inr (.inl (D9))))] H := hP
  have hD : va_D A [(h, .inr (3, [.ref t0])), (t0, .inl (cL, 42, .inr (.inl (D9))))] := hD
  exact W.vret hx hb hr (fun t ht hW => ⟨⟨D9, rfl, (one_0 hw), by rw [ht]; exact hP, va_K.moved hW.alike hK, hD⟩, hS.F ht⟩) hS.2.2 dX3_restart_8
set_option maxHeartbeats 4000000 in
set_option maxRecDepth 100000 in
theorem c_X3_takeApart (l : Launch) (dC : Nat → ClassId) (dI : Nat → Nat → Nat) (cD cZ cI cL : ClassId) (h t0 : Nat) (D : Nat → Int64) (sz : Nat) (sv : Int64) (x : UInt64) (h1 : one21 D sv) (hg : gd x) : Met l yX3_takeApart wsX3_takeApart ({ frames := 0, cells := 0, slots := 0, locals := 0 }) (va_Pc [.ref h, .double (x), .int (nI (21)), .double (4593671619917905920)] (fun U => U.heap.size = sz ∧ okT dC dI cD cZ cI cL h t0 D U U.heap ∧ va_D (fun _ => True) (wT cL h t0 D))) (va_Qv (fun D9 : (Nat → Int64) => one21 D9 (sv + e8 x)) (fun D9 t => atT dC dI cD cZ cI cL (va_A (wT cL h t0 D) sz) h t0 D9 t) (va_A (wT cL h t0 D) sz)) 0 0 (va_A (wT cL h t0 D) sz) := by
  refine Met.ofW (cc := cX3_takeApart) (maxL := 13) (ret := none) (by decide) rfl ?_
  intro p e s m args below meth c s₁ B hml hv
  obtain ⟨rfl, hsz, hO, hD0⟩ := hv
  obtain ⟨hP, hK⟩ := id hO
  have hx := B.exec
  have hb := B.bytes
  have hr := B.returns
  have hts := atoms_spec (ws := wsX3_takeApart) B.pre
  have hown : s.vm.findClass RX3 = some m.cls := findClass_of_methodNamed B.named
  have hlocks := B.notSynchronized
  subst hsz
  have hD := hD0.self (sz := s.heap.size)
  generalize hAe : va_A (wT cL h t0 D) s.heap.size = A at hD ⊢
  have hA : ∀ q : Nat, s.heap.size ≤ q → A q := fun q h => by rw [← hAe]; exact Or.inr h
  have hS : va_S A s.heap s.heap [] := va_S.rf
  have hP : va_P (dC, dI) vwCl [(h, .inr (3, [.ref t0])), (t0, .inl (cL, 42, .inr (.inl (D))))] s.heap := hP
  have hD : va_D A [(h, .inr (3, [.ref t0])), (t0, .inl (cL, 42, .inr (.inl (D))))] := hD
  have hin3 : ∀ w ∈ wsX30, w ∈ wsX3_takeApart := (fun w h => List.mem_cons_of_mem _ (List.mem_append_right _ h))
  have fl9 := hts (.fieldLink RX3 9 "JuryTable$Total" "digits" "[J") (by decide +kernel)
  have hl := lv_entry ([.ref h, .double (x), .int (nI (21)), .double (4593671619917905920)]) (n := 13) (Nat.le_of_ble_eq_true rfl)
  rw [lg_entry_eq]
  generalize (lg_sl ([.ref h, .double (x), .int (nI (21)), .double (4593671619917905920)]) ++ List.replicate (13 - (lg_sl ([.ref h, .double (x), .int (nI (21)), .double (4593671619917905920)])).length) Slot.unset).toArray = ls at hl ⊢
  have hl : lv_has ls 13 [(0, .ref h), (1, .double (x)), (3, .int (nI (21))), (4, .double (4593671619917905920))] := hl
  refine lv_dload_n hx hb dX3_takeApart_0 rfl (lv_at hl 1 rfl) ?_
  refine lv_dstore (lv' := [(6, .double (x)), (0, .ref h), (1, .double (x)), (3, .int (nI (21))), (4, .double (4593671619917905920))]) hx hb dX3_takeApart_1 hl (by decide) rfl (fun ls hl => ?_)
  refine lv_dload hx hb dX3_takeApart_3 (lv_at hl 4 rfl) ?_
  refine lv_dstore (lv' := [(8, .double (4593671619917905920)), (6, .double (x)), (0, .ref h), (1, .double (x)), (3, .int (nI (21))), (4, .double (4593671619917905920))]) hx hb dX3_takeApart_5 hl (by decide) rfl (fun ls hl => ?_)
  refine lv_iload_n hx hb dX3_takeApart_7 rfl (lv_at hl 4 rfl) ?_
  refine lv_istore (lv' := [(10, .int (nI (21))), (8, .double (4593671619917905920)), (6, .double (x)), (0, .ref h), (1, .double (x)), (3, .int (nI (21))), (4, .double (4593671619917905920))]) hx hb dX3_takeApart_8 hl (by decide) rfl (fun ls hl => ?_)
  refine lv_iload hx hb dX3_takeApart_10 (lv_at hl 0 rfl) ?_
  refine lv_if_lt (tgt := 67) hx hb dX3_takeApart_12 (by decide) (fun q => absurd q (by decide)) (fun _ => ?_)
  refine lv_dload hx hb dX3_takeApart_15 (lv_at hl 2 rfl) ?_
  refine lv_dconst0 hx hb dX3_takeApart_17 ?_
  rw [fz_c0]
  refine xd_eq (tgt := 67) hx hb dX3_takeApart_18 dX3_takeApart_19 (by decide) (fun c18 => ?_) (fun c18 => ?_)
  · exact W.vret hx hb hr (fun t ht hW => ⟨⟨D, rfl, (one_same h1 (gd_z hg c18)), by rw [ht]; exact hP, va_K.moved hW.alike hK, hD⟩, hS.F ht⟩) hS.2.2 dX3_takeApart_67
  · refine lv_dload hx hb dX3_takeApart_22 (lv_at hl 2 rfl) ?_
    refine lv_dload hx hb dX3_takeApart_24 (lv_at hl 1 rfl) ?_
    refine lv_ddiv hx hb dX3_takeApart_26 (gd_nd hg) ?_
    refine lv_d2l hx hb dX3_takeApart_27 ?_
    rw [gd_div hg]
    refine lv_lstore (lv' := [(11, .long (e8 x)), (10, .int (nI (21))), (8, .double (4593671619917905920)), (6, .double (x)), (0, .ref h), (1, .double (x)), (3, .int (nI (21))), (4, .double (4593671619917905920))]) hx hb dX3_takeApart_28 hl (by decide) rfl (fun ls hl => ?_)
    refine lv_aload_n hx hb dX3_takeApart_30 rfl (lv_at hl 4 rfl) ?_
    refine va_get (D := (dC, dI)) (ci := 3) (v := .ref t0) (C := RX3) (T := TX3) (N := 1) hx hb hts hin3 hown hK hP 0 rfl rfl 0 (by decide) fl9 (fun _ h9 => h9) rfl dX3_takeApart_31 ?_
    refine lv_iload hx hb dX3_takeApart_34 (lv_at hl 1 rfl) ?_
    refine lv_dup2_11 hx hb dX3_takeApart_36 rfl rfl ?_
    refine xn_lald hx hb hK hP 1 3 rfl rfl (n := 42) (j := 21) (by decide) (by decide) dX3_takeApart_37 ?_
    refine lv_lload hx hb dX3_takeApart_38 (lv_at hl 0 rfl) ?_
    refine lv_ladd hx hb dX3_takeApart_40 ?_
    refine xn_last hx hb hK hP hD hS 1 3 rfl rfl (n := 42) (j := 21) (by decide) (by decide) dX3_takeApart_41 (fun H locs hP hD hS => ?_)
    have hP : va_P (dC, dI) vwCl [(h, .inr (3, [.ref t0])), (t0, .inl (cL, 42, .inr (.inl (vp_updL D 21 ((D 21) + (e8 x))))))] H := hP
    have hD : va_D A [(h, .inr (3, [.ref t0])), (t0, .inl (cL, 42, .inr (.inl (vp_updL D 21 ((D 21) + (e8 x))))))] := hD
    refine lv_dload hx hb dX3_takeApart_42 (lv_at hl 3 rfl) ?_
    refine lv_lload hx hb dX3_takeApart_44 (lv_at hl 0 rfl) ?_
    refine lv_l2d hx hb dX3_takeApart_46 ?_
    refine lv_dload hx hb dX3_takeApart_47 (lv_at hl 2 rfl) ?_
    refine lv_dmul hx hb dX3_takeApart_49 (gd_nm hg) ?_
    refine lv_dsub hx hb dX3_takeApart_50 (by rw [gd_left hg]; exact n64_0) ?_
    rw [gd_left hg]
    refine lv_dstore (lv' := [(6, .double (0)), (11, .long (e8 x)), (10, .int (nI (21))), (8, .double (4593671619917905920)), (0, .ref h), (1, .double (x)), (3, .int (nI (21))), (4, .double (4593671619917905920))]) hx hb dX3_takeApart_51 hl (by decide) rfl (fun ls hl => ?_)
    refine lv_dload hx hb dX3_takeApart_53 (lv_at hl 3 rfl) ?_
    refine lv_ldc2d hx hb hown (hts (.constantDouble RX3 37 (4377498837804122112)) (by decide +kernel)) dX3_takeApart_55 ?_
    refine lv_dmul hx hb dX3_takeApart_58 (by unfold vf_n64; decide +kernel) ?_
    refine lv_dstore (lv' := [(8, .double (FP.dmul 4593671619917905920 4377498837804122112)), (6, .double (0)), (11, .long (e8 x)), (10, .int (nI (21))), (0, .ref h), (1, .double (x)), (3, .int (nI (21))), (4, .double (4593671619917905920))]) hx hb dX3_takeApart_59 hl (by decide) rfl (fun ls hl => ?_)
    refine xn_iincm (lv2 := [(10, .int (nI (21 - 1))), (8, .double (FP.dmul 4593671619917905920 4377498837804122112)), (6, .double (0)), (11, .long (e8 x)), (0, .ref h), (1, .double (x)), (3, .int (nI (21))), (4, .double (4593671619917905920))]) hx hb dX3_takeApart_61 hl (by omega) (k0 := 3) rfl (by decide) rfl (fun ls hl => ?_)
    refine lv_goto (tgt := 10) hx hb dX3_takeApart_64 (by decide) ?_
    refine lv_iload hx hb dX3_takeApart_10 (lv_at hl 0 rfl) ?_
    refine lv_if_lt (tgt := 67) hx hb dX3_takeApart_12 (by decide) (fun q => absurd q (nI_pos (by omega))) (fun _ => ?_)
    refine lv_dload hx hb dX3_takeApart_15 (lv_at hl 2 rfl) ?_
    refine lv_dconst0 hx hb dX3_takeApart_17 ?_
    rw [fz_c0]
    refine xd_eq (tgt := 67) hx hb dX3_takeApart_18 dX3_takeApart_19 (by decide) (fun c18 => ?_) (fun c18 => ?_)
    · exact W.vret hx hb hr (fun t ht hW => ⟨⟨vp_updL D 21 ((D 21) + (e8 x)), rfl, (one_up h1), by rw [ht]; exact hP, va_K.moved hW.alike hK, hD⟩, hS.F ht⟩) hS.2.2 dX3_takeApart_67
    · exact absurd (by decide +kernel) c18
set_option maxHeartbeats 4000000 in
set_option maxRecDepth 100000 in
theorem c_X3_include (l : Launch) (dC : Nat → ClassId) (dI : Nat → Nat → Nat) (cD cZ cI cL : ClassId) (h t0 : Nat) (D : Nat → Int64) (sz : Nat) (sv : Int64) (x : UInt64) (h1 : one21 D sv) (hg : gd x) : Met l yX3_include wsX3_include ({ frames := 1, cells := 0, slots := 0, locals := 32 }) (va_Pc [.ref h, .double (x)] (fun U => U.heap.size = sz ∧ okT dC dI cD cZ cI cL h t0 D U U.heap ∧ va_D (fun _ => True) (wT cL h t0 D))) (va_Qv (fun D9 : (Nat → Int64) => one21 D9 (sv + e8 x)) (fun D9 t => atT dC dI cD cZ cI cL (va_A (wT cL h t0 D) sz) h t0 D9 t) (va_A (wT cL h t0 D) sz)) 0 0 (va_A (wT cL h t0 D) sz) := by
  refine Met.ofW (cc := cX3_include) (maxL := 3) (ret := none) (by decide) rfl ?_
  intro p e s m args below meth c s₁ B hml hv
  obtain ⟨rfl, hsz, hO, hD0⟩ := hv
  obtain ⟨hP, hK⟩ := id hO
  have hx := B.exec
  have hb := B.bytes
  have hr := B.returns
  have hts := atoms_spec (ws := wsX3_include) B.pre
  have hown : s.vm.findClass RX3 = some m.cls := findClass_of_methodNamed B.named
  have hlocks := B.notSynchronized
  subst hsz
  have hD := hD0.self (sz := s.heap.size)
  generalize hAe : va_A (wT cL h t0 D) s.heap.size = A at hD ⊢
  have hA : ∀ q : Nat, s.heap.size ≤ q → A q := fun q h => by rw [← hAe]; exact Or.inr h
  have hS : va_S A s.heap s.heap [] := va_S.rf
  have hP : va_P (dC, dI) vwCl [(h, .inr (3, [.ref t0])), (t0, .inl (cL, 42, .inr (.inl (D))))] s.heap := hP
  have hD : va_D A [(h, .inr (3, [.ref t0])), (t0, .inl (cL, 42, .inr (.inl (D))))] := hD
  have hl := lv_entry ([.ref h, .double (x)]) (n := 3) (Nat.le_of_ble_eq_true rfl)
  rw [lg_entry_eq]
  generalize (lg_sl ([.ref h, .double (x)]) ++ List.replicate (3 - (lg_sl ([.ref h, .double (x)])).length) Slot.unset).toArray = ls at hl ⊢
  have hl : lv_has ls 3 [(0, .ref h), (1, .double (x))] := hl
  refine lv_dload_n hx hb dX3_include_0 rfl (lv_at hl 1 rfl) ?_
  refine lv_ldc2d hx hb hown (hts (.constantDouble RX3 19 (9218868437227405311)) (by decide +kernel)) dX3_include_1 ?_
  refine xd_le (tgt := 24) hx hb dX3_include_4 dX3_include_5 (by decide) (fun c4 => ?_) (fun c4 => ?_)
  · refine lv_dload_n hx hb dX3_include_24 rfl (lv_at hl 1 rfl) ?_
    refine lv_ldc2d hx hb hown (hts (.constantDouble RX3 23 (18442240474082181119)) (by decide +kernel)) dX3_include_25 ?_
    refine xd_ge (tgt := 48) hx hb dX3_include_28 dX3_include_29 (by decide) (fun c28 => ?_) (fun c28 => ?_)
    · refine lv_dload_n hx hb dX3_include_48 rfl (lv_at hl 1 rfl) ?_
      refine lv_ldc2d hx hb hown (hts (.constantDouble RX3 25 (14046727237768577024)) (by decide +kernel)) dX3_include_49 ?_
      refine xd_le (tgt := 77) hx hb dX3_include_52 dX3_include_53 (by decide) (fun c52 => ?_) (fun c52 => ?_)
      · exact absurd (gd_c3 hg) c52
      · refine lv_dload_n hx hb dX3_include_56 rfl (lv_at hl 1 rfl) ?_
        refine lv_ldc2d hx hb hown (hts (.constantDouble RX3 27 (4823355200913801216)) (by decide +kernel)) dX3_include_57 ?_
        refine xd_ge (tgt := 77) hx hb dX3_include_60 dX3_include_61 (by decide) (fun c60 => ?_) (fun c60 => ?_)
        · exact absurd (gd_c4 hg) c60
        · refine lv_aload_n hx hb dX3_include_64 rfl (lv_at hl 0 rfl) ?_
          refine lv_dload_n hx hb dX3_include_65 rfl (lv_at hl 1 rfl) ?_
          refine lv_bipush (v := nI 21) hx hb dX3_include_66 (by decide) ?_
          refine lv_ldc2d hx hb hown (hts (.constantDouble RX3 29 (4593671619917905920)) (by decide +kernel)) dX3_include_68 ?_
          have hPc := hP.sub (ws' := [(h, .inr (3, [.ref t0])), (t0, .inl (cL, 42, .inr (.inl (D))))]) [0, 1] rfl
          have hDc := hD.sub (ws' := [(h, .inr (3, [.ref t0])), (t0, .inl (cL, 42, .inr (.inl (D))))]) [0, 1] (by decide) rfl
          have hFc := va_free (wc := [(h, .inr (3, [.ref t0])), (t0, .inl (cL, 42, .inr (.inl (D))))]) hD hS hA [0, 1] rfl
          refine va_callv (va_runV (As := [.double (x), .int (nI (21)), .double (4593671619917905920)]) (rest := []) ⟨hx, hb, hml, hown, hts⟩ (c_X3_takeApart l dC dI cD cZ cI cL h t0 D s.heap.size sv x h1 hg) (cwV 3 hts gX3_include_X3_takeApart rfl rfl rfl (by decide +kernel) ⟨Nat.le_of_ble_eq_true rfl, Nat.le_of_ble_eq_true rfl⟩) (okTW_pre ⟨hP, hK⟩ hD) rfl rfl hl.1 rfl (lv_room (Nat.le_of_ble_eq_true rfl)) dX3_include_71 ⟨Nat.zero_le _, Nat.zero_le _⟩) hS (fun q _ h => hFc q h) hFc (fun u1 t H1 locs ht hvm hw hB hz1 hk1 hS => ?_)
          obtain ⟨hP1, hK1, hD1⟩ := hB
          rw [ht] at hP1
          have hD := hD1.weaken (fun _ q _ h => hFc q.1 h)
          have hP := hP1
          generalize H1 = H at hP hS ⊢
          have hP : va_P (dC, dI) vwCl [(h, .inr (3, [.ref t0])), (t0, .inl (cL, 42, .inr (.inl (u1))))] H := hP
          have hD : va_D A [(h, .inr (3, [.ref t0])), (t0, .inl (cL, 42, .inr (.inl (u1))))] := hD
          refine lv_goto (tgt := 87) hx hb dX3_include_74 (by decide) ?_
          exact W.vret hx hb hr (fun t ht hW => ⟨⟨u1, rfl, hw, by rw [ht]; exact hP, va_K.moved hW.alike hK, hD⟩, hS.F ht⟩) hS.2.2 dX3_include_87
    · exact absurd c28 (gd_c2 hg)
  · exact absurd c4 (gd_c1 hg)
set_option maxHeartbeats 4000000 in
set_option maxRecDepth 100000 in
theorem c_X3_carry (l : Launch) (dC : Nat → ClassId) (dI : Nat → Nat → Nat) (cD cZ cI cL : ClassId) (h t0 : Nat) (D : Nat → Int64) (sz : Nat) : Met l yX3_carry wsX3_carry ({ frames := 0, cells := 0, slots := 0, locals := 0 }) (va_Pc [.ref h] (fun U => U.heap.size = sz ∧ okT dC dI cD cZ cI cL h t0 D U U.heap ∧ va_D (fun _ => True) (wT cL h t0 D))) (va_Qv (fun _ : Unit => True) (fun _ t => atT dC dI cD cZ cI cL (va_A (wT cL h t0 D) sz) h t0 (cr D 41) t) (va_A (wT cL h t0 D) sz)) 0 0 (va_A (wT cL h t0 D) sz) := by
  refine Met.ofW (cc := cX3_carry) (maxL := 2) (ret := none) (by decide) rfl ?_
  intro p e s m args below meth c s₁ B hml hv
  obtain ⟨rfl, hsz, hO, hD0⟩ := hv
  obtain ⟨hP, hK⟩ := id hO
  have hx := B.exec
  have hb := B.bytes
  have hr := B.returns
  have hts := atoms_spec (ws := wsX3_carry) B.pre
  have hown : s.vm.findClass RX3 = some m.cls := findClass_of_methodNamed B.named
  have hlocks := B.notSynchronized
  subst hsz
  have hD := hD0.self (sz := s.heap.size)
  generalize hAe : va_A (wT cL h t0 D) s.heap.size = A at hD ⊢
  have hA : ∀ q : Nat, s.heap.size ≤ q → A q := fun q h => by rw [← hAe]; exact Or.inr h
  have hS : va_S A s.heap s.heap [] := va_S.rf
  have hP : va_P (dC, dI) vwCl [(h, .inr (3, [.ref t0])), (t0, .inl (cL, 42, .inr (.inl (D))))] s.heap := hP
  have hD : va_D A [(h, .inr (3, [.ref t0])), (t0, .inl (cL, 42, .inr (.inl (D))))] := hD
  have hin3 : ∀ w ∈ wsX30, w ∈ wsX3_carry := (fun w h => List.mem_cons_of_mem _ (List.mem_append_right _ h))
  have fl9 := hts (.fieldLink RX3 9 "JuryTable$Total" "digits" "[J") (by decide +kernel)
  have hl := lv_entry ([.ref h]) (n := 2) (Nat.le_of_ble_eq_true rfl)
  rw [lg_entry_eq]
  generalize (lg_sl ([.ref h]) ++ List.replicate (2 - (lg_sl ([.ref h])).length) Slot.unset).toArray = ls at hl ⊢
  have hl : lv_has ls 2 [(0, .ref h)] := hl
  refine lv_iconst (v := nI 0) hx hb dX3_carry_0 (by decide) ?_
  refine lv_istore_n (lv' := [(1, .int (nI (0))), (0, .ref h)]) hx hb dX3_carry_1 rfl hl (by decide) rfl (fun ls hl => ?_)
  refine W_loopH (α := Nat) (P := fun n i H locs ls => (i + n = 42 ∧ i < 42) ∧ va_P (dC, dI) vwCl (wT cL h t0 (cr D i)) H ∧ va_D A (wT cL h t0 (cr D i)) ∧ va_S A s.heap H locs ∧ lv_has ls 2 [(1, .int (nI (i))), (0, .ref h)]) (st := fun _ => []) 2 (fun i H locs ls h => by have := h.1; omega) (fun n ih i H locs ls h => ?_) 42 0 s.heap [] ls ⟨⟨by omega, by omega⟩, hP, hD, hS, lv_sub hl [0, 1] rfl⟩
  obtain ⟨⟨hin, hix⟩, hP, hD, hS, hl⟩ := h
  have hP : va_P (dC, dI) vwCl [(h, .inr (3, [.ref t0])), (t0, .inl (cL, 42, .inr (.inl (cr D i))))] H := hP
  have hD : va_D A [(h, .inr (3, [.ref t0])), (t0, .inl (cL, 42, .inr (.inl (cr D i))))] := hD
  refine lv_iload_n hx hb dX3_carry_2 rfl (lv_at hl 0 rfl) ?_
  refine lv_bipush (v := nI 41) hx hb dX3_carry_3 (by decide) ?_
  refine xn_icmp_ge (tgt := 46) hx hb (by omega) (by decide) dX3_carry_5 (by decide) (fun c5 => ?_) (fun c5 => ?_)
  · have hi9 : i = 41 := by omega
    subst hi9
    exact W.vret hx hb hr (fun t ht hW => ⟨⟨(), rfl, trivial, by rw [ht]; exact hP, va_K.moved hW.alike hK, hD⟩, hS.F ht⟩) hS.2.2 dX3_carry_46
  · refine lv_aload_n hx hb dX3_carry_8 rfl (lv_at hl 1 rfl) ?_
    refine va_get (D := (dC, dI)) (ci := 3) (v := .ref t0) (C := RX3) (T := TX3) (N := 1) hx hb hts hin3 hown hK hP 0 rfl rfl 0 (by decide) fl9 (fun _ h9 => h9) rfl dX3_carry_9 ?_
    refine lv_iload_n hx hb dX3_carry_12 rfl (lv_at hl 0 rfl) ?_
    refine lv_iconst (v := nI 1) hx hb dX3_carry_13 (by decide) ?_
    refine xn_iadd hx hb dX3_carry_14 ?_
    refine lv_dup2_11 hx hb dX3_carry_15 rfl rfl ?_
    refine xn_lald hx hb hK hP 1 3 rfl rfl (n := 42) (j := i + 1) (by omega) (by decide) dX3_carry_16 ?_
    refine lv_aload_n hx hb dX3_carry_17 rfl (lv_at hl 1 rfl) ?_
    refine va_get (D := (dC, dI)) (ci := 3) (v := .ref t0) (C := RX3) (T := TX3) (N := 1) hx hb hts hin3 hown hK hP 0 rfl rfl 0 (by decide) fl9 (fun _ h9 => h9) rfl dX3_carry_18 ?_
    refine lv_iload_n hx hb dX3_carry_21 rfl (lv_at hl 0 rfl) ?_
    refine xn_lald hx hb hK hP 1 3 rfl rfl (n := 42) (j := i) (by omega) (by decide) dX3_carry_22 ?_
    refine lv_bipush (v := nI 51) hx hb dX3_carry_23 (by decide) ?_
    refine lv_lshr (v := ((cr D i) i) >>> (51 : Int64)) hx hb dX3_carry_25 (sh51 _) ?_
    refine lv_ladd hx hb dX3_carry_26 ?_
    refine xn_last hx hb hK hP hD hS 1 3 rfl rfl (n := 42) (j := i + 1) (by omega) (by decide) dX3_carry_27 (fun H locs hP hD hS => ?_)
    have hP : va_P (dC, dI) vwCl [(h, .inr (3, [.ref t0])), (t0, .inl (cL, 42, .inr (.inl (vp_updL (cr D i) (i + 1) (((cr D i) (i + 1)) + (((cr D i) i) >>> (51 : Int64)))))))] H := hP
    have hD : va_D A [(h, .inr (3, [.ref t0])), (t0, .inl (cL, 42, .inr (.inl (vp_updL (cr D i) (i + 1) (((cr D i) (i + 1)) + (((cr D i) i) >>> (51 : Int64)))))))] := hD
    refine lv_aload_n hx hb dX3_carry_28 rfl (lv_at hl 1 rfl) ?_
    refine va_get (D := (dC, dI)) (ci := 3) (v := .ref t0) (C := RX3) (T := TX3) (N := 1) hx hb hts hin3 hown hK hP 0 rfl rfl 0 (by decide) fl9 (fun _ h9 => h9) rfl dX3_carry_29 ?_
    refine lv_iload_n hx hb dX3_carry_32 rfl (lv_at hl 0 rfl) ?_
    refine lv_dup2_11 hx hb dX3_carry_33 rfl rfl ?_
    refine xn_lald hx hb hK hP 1 3 rfl rfl (n := 42) (j := i) (by omega) (by decide) dX3_carry_34 ?_
    refine lv_ldc2 hx hb hown (hts (.constantLong RX3 53 (2251799813685247)) (by decide +kernel)) dX3_carry_35 ?_
    refine lv_land hx hb dX3_carry_38 ?_
    refine xn_last hx hb hK hP hD hS 1 3 rfl rfl (n := 42) (j := i) (by omega) (by decide) dX3_carry_39 (fun H locs hP hD hS => ?_)
    have hP : va_P (dC, dI) vwCl [(h, .inr (3, [.ref t0])), (t0, .inl (cL, 42, .inr (.inl (vp_updL (vp_updL (cr D i) (i + 1) (((cr D i) (i + 1)) + (((cr D i) i) >>> (51 : Int64)))) i (((vp_updL (cr D i) (i + 1) (((cr D i) (i + 1)) + (((cr D i) i) >>> (51 : Int64)))) i) &&& 2251799813685247)))))] H := hP
    have hD : va_D A [(h, .inr (3, [.ref t0])), (t0, .inl (cL, 42, .inr (.inl (vp_updL (vp_updL (cr D i) (i + 1) (((cr D i) (i + 1)) + (((cr D i) i) >>> (51 : Int64)))) i (((vp_updL (cr D i) (i + 1) (((cr D i) (i + 1)) + (((cr D i) i) >>> (51 : Int64)))) i) &&& 2251799813685247)))))] := hD
    refine xn_iinc (lv2 := [(1, .int (nI (i + 1))), (0, .ref h)]) hx hb dX3_carry_40 hl (k0 := 0) rfl (by decide) rfl (fun ls hl => ?_)
    refine lv_goto (tgt := 2) hx hb dX3_carry_43 (by decide) ?_
    exact ih (i + 1) H locs ls ⟨⟨by omega, by omega⟩, hP, hD, hS, lv_sub hl [0, 1] rfl⟩
set_option maxHeartbeats 4000000 in
set_option maxRecDepth 100000 in
theorem c_X3_turnSign (l : Launch) (dC : Nat → ClassId) (dI : Nat → Nat → Nat) (cD cZ cI cL : ClassId) (h t0 : Nat) (D : Nat → Int64) (sz : Nat) : Met l yX3_turnSign wsX3_turnSign ({ frames := 0, cells := 0, slots := 0, locals := 0 }) (va_Pc [.ref h] (fun U => U.heap.size = sz ∧ okT dC dI cD cZ cI cL h t0 D U U.heap ∧ va_D (fun _ => True) (wT cL h t0 D))) (va_Qv (fun _ : Unit => True) (fun _ t => atT dC dI cD cZ cI cL (va_A (wT cL h t0 D) sz) h t0 (tn D 42) t) (va_A (wT cL h t0 D) sz)) 0 0 (va_A (wT cL h t0 D) sz) := by
  refine Met.ofW (cc := cX3_turnSign) (maxL := 2) (ret := none) (by decide) rfl ?_
  intro p e s m args below meth c s₁ B hml hv
  obtain ⟨rfl, hsz, hO, hD0⟩ := hv
  obtain ⟨hP, hK⟩ := id hO
  have hx := B.exec
  have hb := B.bytes
  have hr := B.returns
  have hts := atoms_spec (ws := wsX3_turnSign) B.pre
  have hown : s.vm.findClass RX3 = some m.cls := findClass_of_methodNamed B.named
  have hlocks := B.notSynchronized
  subst hsz
  have hD := hD0.self (sz := s.heap.size)
  generalize hAe : va_A (wT cL h t0 D) s.heap.size = A at hD ⊢
  have hA : ∀ q : Nat, s.heap.size ≤ q → A q := fun q h => by rw [← hAe]; exact Or.inr h
  have hS : va_S A s.heap s.heap [] := va_S.rf
  have hP : va_P (dC, dI) vwCl [(h, .inr (3, [.ref t0])), (t0, .inl (cL, 42, .inr (.inl (D))))] s.heap := hP
  have hD : va_D A [(h, .inr (3, [.ref t0])), (t0, .inl (cL, 42, .inr (.inl (D))))] := hD
  have hin3 : ∀ w ∈ wsX30, w ∈ wsX3_turnSign := (fun w h => List.mem_cons_of_mem _ (List.mem_append_right _ h))
  have fl9 := hts (.fieldLink RX3 9 "JuryTable$Total" "digits" "[J") (by decide +kernel)
  have hl := lv_entry ([.ref h]) (n := 2) (Nat.le_of_ble_eq_true rfl)
  rw [lg_entry_eq]
  generalize (lg_sl ([.ref h]) ++ List.replicate (2 - (lg_sl ([.ref h])).length) Slot.unset).toArray = ls at hl ⊢
  have hl : lv_has ls 2 [(0, .ref h)] := hl
  refine lv_iconst (v := nI 0) hx hb dX3_turnSign_0 (by decide) ?_
  refine lv_istore_n (lv' := [(1, .int (nI (0))), (0, .ref h)]) hx hb dX3_turnSign_1 rfl hl (by decide) rfl (fun ls hl => ?_)
  refine W_loopH (α := Nat) (P := fun n i H locs ls => (i + n = 43 ∧ i < 43) ∧ va_P (dC, dI) vwCl (wT cL h t0 (tn D i)) H ∧ va_D A (wT cL h t0 (tn D i)) ∧ va_S A s.heap H locs ∧ lv_has ls 2 [(1, .int (nI (i))), (0, .ref h)]) (st := fun _ => []) 2 (fun i H locs ls h => by have := h.1; omega) (fun n ih i H locs ls h => ?_) 43 0 s.heap [] ls ⟨⟨by omega, by omega⟩, hP, hD, hS, lv_sub hl [0, 1] rfl⟩
  obtain ⟨⟨hin, hix⟩, hP, hD, hS, hl⟩ := h
  have hP : va_P (dC, dI) vwCl [(h, .inr (3, [.ref t0])), (t0, .inl (cL, 42, .inr (.inl (tn D i))))] H := hP
  have hD : va_D A [(h, .inr (3, [.ref t0])), (t0, .inl (cL, 42, .inr (.inl (tn D i))))] := hD
  refine lv_iload_n hx hb dX3_turnSign_2 rfl (lv_at hl 0 rfl) ?_
  refine lv_bipush (v := nI 41) hx hb dX3_turnSign_3 (by decide) ?_
  refine xn_icmp_gt (tgt := 27) hx hb (by omega) (by decide) dX3_turnSign_5 (by decide) (fun c5 => ?_) (fun c5 => ?_)
  · have hi9 : i = 42 := by omega
    subst hi9
    exact W.vret hx hb hr (fun t ht hW => ⟨⟨(), rfl, trivial, by rw [ht]; exact hP, va_K.moved hW.alike hK, hD⟩, hS.F ht⟩) hS.2.2 dX3_turnSign_27
  · refine lv_aload_n hx hb dX3_turnSign_8 rfl (lv_at hl 1 rfl) ?_
    refine va_get (D := (dC, dI)) (ci := 3) (v := .ref t0) (C := RX3) (T := TX3) (N := 1) hx hb hts hin3 hown hK hP 0 rfl rfl 0 (by decide) fl9 (fun _ h9 => h9) rfl dX3_turnSign_9 ?_
    refine lv_iload_n hx hb dX3_turnSign_12 rfl (lv_at hl 0 rfl) ?_
    refine lv_aload_n hx hb dX3_turnSign_13 rfl (lv_at hl 1 rfl) ?_
    refine va_get (D := (dC, dI)) (ci := 3) (v := .ref t0) (C := RX3) (T := TX3) (N := 1) hx hb hts hin3 hown hK hP 0 rfl rfl 0 (by decide) fl9 (fun _ h9 => h9) rfl dX3_turnSign_14 ?_
    refine lv_iload_n hx hb dX3_turnSign_17 rfl (lv_at hl 0 rfl) ?_
    refine xn_lald hx hb hK hP 1 3 rfl rfl (n := 42) (j := i) (by omega) (by decide) dX3_turnSign_18 ?_
    refine lv_lneg hx hb dX3_turnSign_19 ?_
    refine xn_last hx hb hK hP hD hS 1 3 rfl rfl (n := 42) (j := i) (by omega) (by decide) dX3_turnSign_20 (fun H locs hP hD hS => ?_)
    have hP : va_P (dC, dI) vwCl [(h, .inr (3, [.ref t0])), (t0, .inl (cL, 42, .inr (.inl (vp_updL (tn D i) i (-((tn D i) i))))))] H := hP
    have hD : va_D A [(h, .inr (3, [.ref t0])), (t0, .inl (cL, 42, .inr (.inl (vp_updL (tn D i) i (-((tn D i) i))))))] := hD
    refine xn_iinc (lv2 := [(1, .int (nI (i + 1))), (0, .ref h)]) hx hb dX3_turnSign_21 hl (k0 := 0) rfl (by decide) rfl (fun ls hl => ?_)
    refine lv_goto (tgt := 2) hx hb dX3_turnSign_24 (by decide) ?_
    exact ih (i + 1) H locs ls ⟨⟨by omega, by omega⟩, hP, hD, hS, lv_sub hl [0, 1] rfl⟩
set_option maxHeartbeats 4000000 in
set_option maxRecDepth 100000 in
theorem c_X3_isBeyondLong (l : Launch) (dC : Nat → ClassId) (dI : Nat → Nat → Nat) (cD cZ cI cL : ClassId) (h t0 : Nat) (D : Nat → Int64) (sv : Int64) (h1 : one21 D sv) : Met l yX3_isBeyondLong wsX3_isBeyondLong ({ frames := 0, cells := 0, slots := 0, locals := 0 }) (va_Pc [.ref h] (fun U => okT dC dI cD cZ cI cL h t0 D U U.heap)) (vp_Si (fun r => r = nI (Bool.toNat false))) 0 0 (fun _ => False) := by
  refine Met.ofW (cc := cX3_isBeyondLong) (maxL := 3) (ret := (some .boolean)) (by decide) rfl ?_
  intro p e s m args below meth c s₁ B hml hv
  obtain ⟨rfl, hO⟩ := hv
  obtain ⟨hP, hK⟩ := id hO
  have hP : va_P (dC, dI) vwCl [(h, .inr (3, [.ref t0])), (t0, .inl (cL, 42, .inr (.inl (D))))] s.heap := hP
  have hx := B.exec
  have hb := B.bytes
  have hr := B.returns
  have hts := atoms_spec (ws := wsX3_isBeyondLong) B.pre
  have hown : s.vm.findClass RX3 = some m.cls := findClass_of_methodNamed B.named
  have hlocks := B.notSynchronized
  have hin3 : ∀ w ∈ wsX30, w ∈ wsX3_isBeyondLong := (fun w h => List.mem_cons_of_mem _ (List.mem_append_right _ h))
  have fl9 := hts (.fieldLink RX3 9 "JuryTable$Total" "digits" "[J") (by decide +kernel)
  have hl := lv_entry ([.ref h]) (n := 3) (Nat.le_of_ble_eq_true rfl)
  rw [lg_entry_eq]
  generalize (lg_sl ([.ref h]) ++ List.replicate (3 - (lg_sl ([.ref h])).length) Slot.unset).toArray = ls at hl ⊢
  have hl : lv_has ls 3 [(0, .ref h)] := hl
  refine lv_aload_n hx hb dX3_isBeyondLong_0 rfl (lv_at hl 0 rfl) ?_
  refine va_get (D := (dC, dI)) (ci := 3) (v := .ref t0) (C := RX3) (T := TX3) (N := 1) hx hb hts hin3 hown hK hP 0 rfl rfl 0 (by decide) fl9 (fun _ h9 => h9) rfl dX3_isBeyondLong_1 ?_
  refine lv_bipush (v := nI 22) hx hb dX3_isBeyondLong_4 (by decide) ?_
  refine xn_lald hx hb hK hP 1 3 rfl rfl (n := 42) (j := 22) (by decide) (by decide) dX3_isBeyondLong_6 ?_
  refine lv_bipush (v := nI 12) hx hb dX3_isBeyondLong_7 (by decide) ?_
  refine lv_lshr (v := (D 22) >>> (12 : Int64)) hx hb dX3_isBeyondLong_9 (sh12 _) ?_
  refine lv_lconst (v := 0) hx hb dX3_isBeyondLong_10 (by decide) ?_
  refine W.lcmp hx hb dX3_isBeyondLong_11 ?_
  refine lv_if_eq (tgt := 19) hx hb dX3_isBeyondLong_12 (by decide) (fun _ => ?_) (fun q => absurd q (fun z => z (by rw [one_22 h1]; decide)))
  refine lv_iconst (v := nI 0) hx hb dX3_isBeyondLong_19 (by decide) ?_
  refine lv_istore_n (lv' := [(1, .int (nI (0))), (0, .ref h)]) hx hb dX3_isBeyondLong_20 rfl hl (by decide) rfl (fun ls hl => ?_)
  refine lv_bipush (v := nI 23) hx hb dX3_isBeyondLong_21 (by decide) ?_
  refine lv_istore_n (lv' := [(2, .int (nI (23))), (1, .int (nI (0))), (0, .ref h)]) hx hb dX3_isBeyondLong_23 rfl hl (by decide) rfl (fun ls hl => ?_)
  refine W_loop (α := Nat) (P := fun n i ls => i + n = 43 ∧ 23 ≤ i ∧ i < 43 ∧ lv_has ls 3 [(1, .int (nI (0))), (2, .int (nI (i))), (0, .ref h)]) (st := fun _ => []) 24 (fun i ls h => by have := h.1; have := h.2.2.1; omega) (fun n ih i ls h => ?_) (20) (23) ls ⟨by omega, by omega, by omega, lv_sub hl [1, 0, 2] rfl⟩
  obtain ⟨hin, hi1, hi2, hl⟩ := h
  refine lv_iload_n hx hb dX3_isBeyondLong_24 rfl (lv_at hl 1 rfl) ?_
  refine lv_bipush (v := nI 41) hx hb dX3_isBeyondLong_25 (by decide) ?_
  refine xn_icmp_gt (tgt := 57) hx hb (by omega) (by decide) dX3_isBeyondLong_27 (by decide) (fun c27 => ?_) (fun c27 => ?_)
  · refine lv_iload_n hx hb dX3_isBeyondLong_57 rfl (lv_at hl 0 rfl) ?_
    exact W.zret (v := nI (Bool.toNat false)) (ty := .boolean) hx hb hr (xb_nar false) (fun t ht hW => ⟨_, rfl, rfl, ht⟩) (fun q hq => absurd hq List.not_mem_nil) dX3_isBeyondLong_58
  · refine lv_iload_n hx hb dX3_isBeyondLong_30 rfl (lv_at hl 0 rfl) ?_
    refine lv_if_ne (tgt := 45) hx hb dX3_isBeyondLong_31 (by decide) (fun q => absurd (by decide) q) (fun _ => ?_)
    refine lv_aload_n hx hb dX3_isBeyondLong_34 rfl (lv_at hl 2 rfl) ?_
    refine va_get (D := (dC, dI)) (ci := 3) (v := .ref t0) (C := RX3) (T := TX3) (N := 1) hx hb hts hin3 hown hK hP 0 rfl rfl 0 (by decide) fl9 (fun _ h9 => h9) rfl dX3_isBeyondLong_35 ?_
    refine lv_iload_n hx hb dX3_isBeyondLong_38 rfl (lv_at hl 1 rfl) ?_
    refine xn_lald hx hb hK hP 1 3 rfl rfl (n := 42) (j := i) (by omega) (by decide) dX3_isBeyondLong_39 ?_
    refine lv_lconst (v := 0) hx hb dX3_isBeyondLong_40 (by decide) ?_
    refine W.lcmp hx hb dX3_isBeyondLong_41 ?_
    refine lv_if_eq (tgt := 49) hx hb dX3_isBeyondLong_42 (by decide) (fun _ => ?_) (fun q => absurd q (fun z => z (by rw [one_z h1 (show 22 ≤ i by omega) (show i < 42 by omega)]; decide)))
    refine lv_iconst (v := nI 0) hx hb dX3_isBeyondLong_49 (by decide) ?_
    refine lv_istore_n (lv' := [(1, .int (nI (0))), (2, .int (nI (i))), (0, .ref h)]) hx hb dX3_isBeyondLong_50 rfl hl (by decide) rfl (fun ls hl => ?_)
    refine xn_iinc (lv2 := [(2, .int (nI (i + 1))), (1, .int (nI (0))), (0, .ref h)]) hx hb dX3_isBeyondLong_51 hl (k0 := 1) rfl (by decide) rfl (fun ls hl => ?_)
    refine lv_goto (tgt := 24) hx hb dX3_isBeyondLong_54 (by decide) ?_
    exact ih (i + 1) ls ⟨by omega, by omega, by omega, lv_sub hl [1, 0, 2] rfl⟩
set_option maxHeartbeats 4000000 in
set_option maxRecDepth 100000 in
theorem c_X3_wholeEighths_p (l : Launch) (dC : Nat → ClassId) (dI : Nat → Nat → Nat) (cD cZ cI cL : ClassId) (h t0 : Nat) (D : Nat → Int64) (sz : Nat) (sv : Int64) (h1 : one21 D sv) (hlo : 0 ≤ sv.toInt) (hhi : sv.toInt < 2251799813685248) : Met l yX3_wholeEighths wsX3_wholeEighths ({ frames := 1, cells := 0, slots := 0, locals := 22 }) (va_Pc [.ref h] (fun U => U.heap.size = sz ∧ okT dC dI cD cZ cI cL h t0 D U U.heap ∧ va_D (fun _ => True) (wT cL h t0 D))) (va_Ql (fun (r : Int64) (D9 : (Nat → Int64)) => r = sv) (fun D9 t => atT dC dI cD cZ cI cL (va_A (wT cL h t0 D) sz) h t0 D9 t) (va_A (wT cL h t0 D) sz)) 0 0 (va_A (wT cL h t0 D) sz) := by
  refine Met.ofW (cc := cX3_wholeEighths) (maxL := 4) (ret := (some .long)) (by decide) rfl ?_
  intro p e s m args below meth c s₁ B hml hv
  obtain ⟨rfl, hsz, hO, hD0⟩ := hv
  obtain ⟨hP, hK⟩ := id hO
  have hx := B.exec
  have hb := B.bytes
  have hr := B.returns
  have hts := atoms_spec (ws := wsX3_wholeEighths) B.pre
  have hown : s.vm.findClass RX3 = some m.cls := findClass_of_methodNamed B.named
  have hlocks := B.notSynchronized
  subst hsz
  have hD := hD0.self (sz := s.heap.size)
  generalize hAe : va_A (wT cL h t0 D) s.heap.size = A at hD ⊢
  have hA : ∀ q : Nat, s.heap.size ≤ q → A q := fun q h => by rw [← hAe]; exact Or.inr h
  have hS : va_S A s.heap s.heap [] := va_S.rf
  have hP : va_P (dC, dI) vwCl [(h, .inr (3, [.ref t0])), (t0, .inl (cL, 42, .inr (.inl (D))))] s.heap := hP
  have hD : va_D A [(h, .inr (3, [.ref t0])), (t0, .inl (cL, 42, .inr (.inl (D))))] := hD
  have hin3 : ∀ w ∈ wsX30, w ∈ wsX3_wholeEighths := (fun w h => List.mem_cons_of_mem _ (List.mem_append_right _ h))
  have fl9 := hts (.fieldLink RX3 9 "JuryTable$Total" "digits" "[J") (by decide +kernel)
  have hl := lv_entry ([.ref h]) (n := 4) (Nat.le_of_ble_eq_true rfl)
  rw [lg_entry_eq]
  generalize (lg_sl ([.ref h]) ++ List.replicate (4 - (lg_sl ([.ref h])).length) Slot.unset).toArray = ls at hl ⊢
  have hl : lv_has ls 4 [(0, .ref h)] := hl
  have hc1 := whole_p h1 hlo hhi
  refine lv_aload_n hx hb dX3_wholeEighths_0 rfl (lv_at hl 0 rfl) ?_
  have hPc := hP.sub (ws' := [(h, .inr (3, [.ref t0])), (t0, .inl (cL, 42, .inr (.inl (D))))]) [0, 1] rfl
  have hDc := hD.sub (ws' := [(h, .inr (3, [.ref t0])), (t0, .inl (cL, 42, .inr (.inl (D))))]) [0, 1] (by decide) rfl
  have hFc := va_free (wc := [(h, .inr (3, [.ref t0])), (t0, .inl (cL, 42, .inr (.inl (D))))]) hD hS hA [0, 1] rfl
  refine va_callv (va_runV (As := []) (rest := []) ⟨hx, hb, hml, hown, hts⟩ (c_X3_carry l dC dI cD cZ cI cL h t0 D s.heap.size) (cwV 0 hts gX3_wholeEighths_X3_carry rfl rfl rfl (by decide +kernel) ⟨Nat.le_of_ble_eq_true rfl, Nat.le_of_ble_eq_true rfl⟩) (okTW_pre ⟨hP, hK⟩ hD) rfl rfl hl.1 rfl (lv_room (Nat.le_of_ble_eq_true rfl)) dX3_wholeEighths_1 ⟨Nat.zero_le _, Nat.zero_le _⟩) hS (fun q _ h => hFc q h) hFc (fun u1 t H1 locs ht hvm hw hB hz1 hk1 hS => ?_)
  obtain ⟨hP1, hK1, hD1⟩ := hB
  rw [ht] at hP1
  have hD := hD1.weaken (fun _ q _ h => hFc q.1 h)
  have hP := hP1
  generalize H1 = H at hP hS ⊢
  have hP : va_P (dC, dI) vwCl [(h, .inr (3, [.ref t0])), (t0, .inl (cL, 42, .inr (.inl (cr D 41))))] H := hP
  have hD : va_D A [(h, .inr (3, [.ref t0])), (t0, .inl (cL, 42, .inr (.inl (cr D 41))))] := hD
  refine lv_aload_n hx hb dX3_wholeEighths_4 rfl (lv_at hl 0 rfl) ?_
  refine va_get (D := (dC, dI)) (ci := 3) (v := .ref t0) (C := RX3) (T := TX3) (N := 1) hx hb hts hin3 hown hK hP 0 rfl rfl 0 (by decide) fl9 (fun _ h9 => h9) rfl dX3_wholeEighths_5 ?_
  refine lv_bipush (v := nI 41) hx hb dX3_wholeEighths_8 (by decide) ?_
  refine xn_lald hx hb hK hP 1 3 rfl rfl (n := 42) (j := 41) (by decide) (by decide) dX3_wholeEighths_10 ?_
  refine lv_lconst (v := 0) hx hb dX3_wholeEighths_11 (by decide) ?_
  refine W.lcmp hx hb dX3_wholeEighths_12 ?_
  refine lv_if_ge (tgt := 20) hx hb dX3_wholeEighths_13 (by decide) (fun _ => ?_) (fun q => absurd q (fun z => z (by rw [one_41 hc1]; decide)))
  refine lv_iconst (v := nI 0) hx hb dX3_wholeEighths_20 (by decide) ?_
  refine lv_istore_n (lv' := [(1, .int (nI (0))), (0, .ref h)]) hx hb dX3_wholeEighths_21 rfl hl (by decide) rfl (fun ls hl => ?_)
  refine lv_iload_n hx hb dX3_wholeEighths_22 rfl (lv_at hl 0 rfl) ?_
  refine lv_if_eq (tgt := 34) hx hb dX3_wholeEighths_23 (by decide) (fun _ => ?_) (fun q => absurd (by decide) q)
  refine lv_aload_n hx hb dX3_wholeEighths_34 rfl (lv_at hl 1 rfl) ?_
  refine vp_callSi (va_Run.run (va_runV (As := []) (rest := []) ⟨hx, hb, hml, hown, hts⟩ (c_X3_isBeyondLong l dC dI cD cZ cI cL h t0 (cr D 41) sv hc1) (cwV 0 hts gX3_wholeEighths_X3_isBeyondLong rfl rfl rfl (by decide +kernel) ⟨Nat.le_of_ble_eq_true rfl, Nat.le_of_ble_eq_true rfl⟩) (okT_pre ⟨hP, hK⟩) rfl rfl hl.1 rfl (lv_room (Nat.le_of_ble_eq_true rfl)) dX3_wholeEighths_35 ⟨Nat.zero_le _, Nat.zero_le _⟩)) (fun r2 er2 => ?_)
  subst er2
  refine xb_if_eq (tgt := 55) hx hb dX3_wholeEighths_38 (by decide) (fun _ => ?_) (fun q => absurd q (by decide))
  refine lv_aload_n hx hb dX3_wholeEighths_55 rfl (lv_at hl 1 rfl) ?_
  refine va_get (D := (dC, dI)) (ci := 3) (v := .ref t0) (C := RX3) (T := TX3) (N := 1) hx hb hts hin3 hown hK hP 0 rfl rfl 0 (by decide) fl9 (fun _ h9 => h9) rfl dX3_wholeEighths_56 ?_
  refine lv_bipush (v := nI 22) hx hb dX3_wholeEighths_59 (by decide) ?_
  refine xn_lald hx hb hK hP 1 3 rfl rfl (n := 42) (j := 22) (by decide) (by decide) dX3_wholeEighths_61 ?_
  refine lv_bipush (v := nI 51) hx hb dX3_wholeEighths_62 (by decide) ?_
  refine lv_lshl (v := ((cr D 41) 22) <<< (51 : Int64)) hx hb dX3_wholeEighths_64 (sl51 _) ?_
  refine lv_aload_n hx hb dX3_wholeEighths_65 rfl (lv_at hl 1 rfl) ?_
  refine va_get (D := (dC, dI)) (ci := 3) (v := .ref t0) (C := RX3) (T := TX3) (N := 1) hx hb hts hin3 hown hK hP 0 rfl rfl 0 (by decide) fl9 (fun _ h9 => h9) rfl dX3_wholeEighths_66 ?_
  refine lv_bipush (v := nI 21) hx hb dX3_wholeEighths_69 (by decide) ?_
  refine xn_lald hx hb hK hP 1 3 rfl rfl (n := 42) (j := 21) (by decide) (by decide) dX3_wholeEighths_71 ?_
  refine lv_ladd hx hb dX3_wholeEighths_72 ?_
  refine lv_lstore_n (lv' := [(2, .long ((((cr D 41) 22) <<< (51 : Int64)) + ((cr D 41) 21))), (1, .int (nI (0))), (0, .ref h)]) hx hb dX3_wholeEighths_73 rfl hl (by decide) rfl (fun ls hl => ?_)
  refine lv_iload_n hx hb dX3_wholeEighths_74 rfl (lv_at hl 1 rfl) ?_
  refine lv_if_eq (tgt := 83) hx hb dX3_wholeEighths_75 (by decide) (fun _ => ?_) (fun q => absurd (by decide) q)
  refine lv_lload_n hx hb dX3_wholeEighths_83 rfl (lv_at hl 0 rfl) ?_
  exact W.lret (v := (((cr D 41) 22) <<< (51 : Int64)) + ((cr D 41) 21)) hx hb hr (fun t ht hW => ⟨⟨_, cr D 41, rfl, (by rw [one_22 hc1, one_21 hc1, show (0 : Int64) <<< (51 : Int64) = 0 by decide, Int64.zero_add]), by rw [ht]; exact hP, va_K.moved hW.alike hK, hD⟩, hS.F ht⟩) hS.2.2 dX3_wholeEighths_84
set_option maxHeartbeats 4000000 in
set_option maxRecDepth 100000 in
theorem c_X3_wholeEighths_n (l : Launch) (dC : Nat → ClassId) (dI : Nat → Nat → Nat) (cD cZ cI cL : ClassId) (h t0 : Nat) (D : Nat → Int64) (sz : Nat) (sv : Int64) (h1 : one21 D sv) (hlo : sv.toInt < 0) (hhi : -1125899906842624 ≤ sv.toInt) : Met l yX3_wholeEighths wsX3_wholeEighths ({ frames := 1, cells := 0, slots := 0, locals := 22 }) (va_Pc [.ref h] (fun U => U.heap.size = sz ∧ okT dC dI cD cZ cI cL h t0 D U U.heap ∧ va_D (fun _ => True) (wT cL h t0 D))) (va_Ql (fun (r : Int64) (D9 : (Nat → Int64)) => r = sv) (fun D9 t => atT dC dI cD cZ cI cL (va_A (wT cL h t0 D) sz) h t0 D9 t) (va_A (wT cL h t0 D) sz)) 0 0 (va_A (wT cL h t0 D) sz) := by
  refine Met.ofW (cc := cX3_wholeEighths) (maxL := 4) (ret := (some .long)) (by decide) rfl ?_
  intro p e s m args below meth c s₁ B hml hv
  obtain ⟨rfl, hsz, hO, hD0⟩ := hv
  obtain ⟨hP, hK⟩ := id hO
  have hx := B.exec
  have hb := B.bytes
  have hr := B.returns
  have hts := atoms_spec (ws := wsX3_wholeEighths) B.pre
  have hown : s.vm.findClass RX3 = some m.cls := findClass_of_methodNamed B.named
  have hlocks := B.notSynchronized
  subst hsz
  have hD := hD0.self (sz := s.heap.size)
  generalize hAe : va_A (wT cL h t0 D) s.heap.size = A at hD ⊢
  have hA : ∀ q : Nat, s.heap.size ≤ q → A q := fun q h => by rw [← hAe]; exact Or.inr h
  have hS : va_S A s.heap s.heap [] := va_S.rf
  have hP : va_P (dC, dI) vwCl [(h, .inr (3, [.ref t0])), (t0, .inl (cL, 42, .inr (.inl (D))))] s.heap := hP
  have hD : va_D A [(h, .inr (3, [.ref t0])), (t0, .inl (cL, 42, .inr (.inl (D))))] := hD
  have hin3 : ∀ w ∈ wsX30, w ∈ wsX3_wholeEighths := (fun w h => List.mem_cons_of_mem _ (List.mem_append_right _ h))
  have fl9 := hts (.fieldLink RX3 9 "JuryTable$Total" "digits" "[J") (by decide +kernel)
  have hl := lv_entry ([.ref h]) (n := 4) (Nat.le_of_ble_eq_true rfl)
  rw [lg_entry_eq]
  generalize (lg_sl ([.ref h]) ++ List.replicate (4 - (lg_sl ([.ref h])).length) Slot.unset).toArray = ls at hl ⊢
  have hl : lv_has ls 4 [(0, .ref h)] := hl
  obtain ⟨hm41, hc2⟩ := whole_n h1 hlo hhi
  refine lv_aload_n hx hb dX3_wholeEighths_0 rfl (lv_at hl 0 rfl) ?_
  have hPc := hP.sub (ws' := [(h, .inr (3, [.ref t0])), (t0, .inl (cL, 42, .inr (.inl (D))))]) [0, 1] rfl
  have hDc := hD.sub (ws' := [(h, .inr (3, [.ref t0])), (t0, .inl (cL, 42, .inr (.inl (D))))]) [0, 1] (by decide) rfl
  have hFc := va_free (wc := [(h, .inr (3, [.ref t0])), (t0, .inl (cL, 42, .inr (.inl (D))))]) hD hS hA [0, 1] rfl
  refine va_callv (va_runV (As := []) (rest := []) ⟨hx, hb, hml, hown, hts⟩ (c_X3_carry l dC dI cD cZ cI cL h t0 D s.heap.size) (cwV 0 hts gX3_wholeEighths_X3_carry rfl rfl rfl (by decide +kernel) ⟨Nat.le_of_ble_eq_true rfl, Nat.le_of_ble_eq_true rfl⟩) (okTW_pre ⟨hP, hK⟩ hD) rfl rfl hl.1 rfl (lv_room (Nat.le_of_ble_eq_true rfl)) dX3_wholeEighths_1 ⟨Nat.zero_le _, Nat.zero_le _⟩) hS (fun q _ h => hFc q h) hFc (fun u1 t H1 locs ht hvm hw hB hz1 hk1 hS => ?_)
  obtain ⟨hP1, hK1, hD1⟩ := hB
  rw [ht] at hP1
  have hD := hD1.weaken (fun _ q _ h => hFc q.1 h)
  have hP := hP1
  generalize H1 = H at hP hS ⊢
  have hP : va_P (dC, dI) vwCl [(h, .inr (3, [.ref t0])), (t0, .inl (cL, 42, .inr (.inl (cr D 41))))] H := hP
  have hD : va_D A [(h, .inr (3, [.ref t0])), (t0, .inl (cL, 42, .inr (.inl (cr D 41))))] := hD
  refine lv_aload_n hx hb dX3_wholeEighths_4 rfl (lv_at hl 0 rfl) ?_
  refine va_get (D := (dC, dI)) (ci := 3) (v := .ref t0) (C := RX3) (T := TX3) (N := 1) hx hb hts hin3 hown hK hP 0 rfl rfl 0 (by decide) fl9 (fun _ h9 => h9) rfl dX3_wholeEighths_5 ?_
  refine lv_bipush (v := nI 41) hx hb dX3_wholeEighths_8 (by decide) ?_
  refine xn_lald hx hb hK hP 1 3 rfl rfl (n := 42) (j := 41) (by decide) (by decide) dX3_wholeEighths_10 ?_
  refine lv_lconst (v := 0) hx hb dX3_wholeEighths_11 (by decide) ?_
  refine W.lcmp hx hb dX3_wholeEighths_12 ?_
  refine lv_if_ge (tgt := 20) hx hb dX3_wholeEighths_13 (by decide) (fun q => absurd q (by rw [hm41]; decide)) (fun _ => ?_)
  refine lv_iconst (v := nI 1) hx hb dX3_wholeEighths_16 (by decide) ?_
  refine lv_goto (tgt := 21) hx hb dX3_wholeEighths_17 (by decide) ?_
  refine lv_istore_n (lv' := [(1, .int (nI (1))), (0, .ref h)]) hx hb dX3_wholeEighths_21 rfl hl (by decide) rfl (fun ls hl => ?_)
  refine lv_iload_n hx hb dX3_wholeEighths_22 rfl (lv_at hl 0 rfl) ?_
  refine lv_if_eq (tgt := 34) hx hb dX3_wholeEighths_23 (by decide) (fun q => absurd q (by decide)) (fun _ => ?_)
  refine lv_aload_n hx hb dX3_wholeEighths_26 rfl (lv_at hl 1 rfl) ?_
  have hPc := hP.sub (ws' := [(h, .inr (3, [.ref t0])), (t0, .inl (cL, 42, .inr (.inl (cr D 41))))]) [0, 1] rfl
  have hDc := hD.sub (ws' := [(h, .inr (3, [.ref t0])), (t0, .inl (cL, 42, .inr (.inl (cr D 41))))]) [0, 1] (by decide) rfl
  have hFc := va_free (wc := [(h, .inr (3, [.ref t0])), (t0, .inl (cL, 42, .inr (.inl (cr D 41))))]) hD hS hA [0, 1] rfl
  refine va_callv (va_runV (As := []) (rest := []) ⟨hx, hb, hml, hown, hts⟩ (c_X3_turnSign l dC dI cD cZ cI cL h t0 (cr D 41) H.size) (cwV 0 hts gX3_wholeEighths_X3_turnSign rfl rfl rfl (by decide +kernel) ⟨Nat.le_of_ble_eq_true rfl, Nat.le_of_ble_eq_true rfl⟩) (okTW_pre ⟨hP, hK⟩ hD) rfl rfl hl.1 rfl (lv_room (Nat.le_of_ble_eq_true rfl)) dX3_wholeEighths_27 ⟨Nat.zero_le _, Nat.zero_le _⟩) hS (fun q _ h => hFc q h) hFc (fun u2 t H1 locs ht hvm hw hB hz1 hk1 hS => ?_)
  obtain ⟨hP1, hK1, hD1⟩ := hB
  rw [ht] at hP1
  have hD := hD1.weaken (fun _ q _ h => hFc q.1 h)
  have hP := hP1
  generalize H1 = H at hP hS ⊢
  have hP : va_P (dC, dI) vwCl [(h, .inr (3, [.ref t0])), (t0, .inl (cL, 42, .inr (.inl (tn (cr D 41) 42))))] H := hP
  have hD : va_D A [(h, .inr (3, [.ref t0])), (t0, .inl (cL, 42, .inr (.inl (tn (cr D 41) 42))))] := hD
  refine lv_aload_n hx hb dX3_wholeEighths_30 rfl (lv_at hl 1 rfl) ?_
  have hPc := hP.sub (ws' := [(h, .inr (3, [.ref t0])), (t0, .inl (cL, 42, .inr (.inl (tn (cr D 41) 42))))]) [0, 1] rfl
  have hDc := hD.sub (ws' := [(h, .inr (3, [.ref t0])), (t0, .inl (cL, 42, .inr (.inl (tn (cr D 41) 42))))]) [0, 1] (by decide) rfl
  have hFc := va_free (wc := [(h, .inr (3, [.ref t0])), (t0, .inl (cL, 42, .inr (.inl (tn (cr D 41) 42))))]) hD hS hA [0, 1] rfl
  refine va_callv (va_runV (As := []) (rest := []) ⟨hx, hb, hml, hown, hts⟩ (c_X3_carry l dC dI cD cZ cI cL h t0 (tn (cr D 41) 42) H.size) (cwV 0 hts gX3_wholeEighths_X3_carry rfl rfl rfl (by decide +kernel) ⟨Nat.le_of_ble_eq_true rfl, Nat.le_of_ble_eq_true rfl⟩) (okTW_pre ⟨hP, hK⟩ hD) rfl rfl hl.1 rfl (lv_room (Nat.le_of_ble_eq_true rfl)) dX3_wholeEighths_31 ⟨Nat.zero_le _, Nat.zero_le _⟩) hS (fun q _ h => hFc q h) hFc (fun u3 t H1 locs ht hvm hw hB hz1 hk1 hS => ?_)
  obtain ⟨hP1, hK1, hD1⟩ := hB
  rw [ht] at hP1
  have hD := hD1.weaken (fun _ q _ h => hFc q.1 h)
  have hP := hP1
  generalize H1 = H at hP hS ⊢
  have hP : va_P (dC, dI) vwCl [(h, .inr (3, [.ref t0])), (t0, .inl (cL, 42, .inr (.inl (cr (tn (cr D 41) 42) 41))))] H := hP
  have hD : va_D A [(h, .inr (3, [.ref t0])), (t0, .inl (cL, 42, .inr (.inl (cr (tn (cr D 41) 42) 41))))] := hD
  refine lv_aload_n hx hb dX3_wholeEighths_34 rfl (lv_at hl 1 rfl) ?_
  refine vp_callSi (va_Run.run (va_runV (As := []) (rest := []) ⟨hx, hb, hml, hown, hts⟩ (c_X3_isBeyondLong l dC dI cD cZ cI cL h t0 (cr (tn (cr D 41) 42) 41) (-sv) hc2) (cwV 0 hts gX3_wholeEighths_X3_isBeyondLong rfl rfl rfl (by decide +kernel) ⟨Nat.le_of_ble_eq_true rfl, Nat.le_of_ble_eq_true rfl⟩) (okT_pre ⟨hP, hK⟩) rfl rfl hl.1 rfl (lv_room (Nat.le_of_ble_eq_true rfl)) dX3_wholeEighths_35 ⟨Nat.zero_le _, Nat.zero_le _⟩)) (fun r4 er4 => ?_)
  subst er4
  refine xb_if_eq (tgt := 55) hx hb dX3_wholeEighths_38 (by decide) (fun _ => ?_) (fun q => absurd q (by decide))
  refine lv_aload_n hx hb dX3_wholeEighths_55 rfl (lv_at hl 1 rfl) ?_
  refine va_get (D := (dC, dI)) (ci := 3) (v := .ref t0) (C := RX3) (T := TX3) (N := 1) hx hb hts hin3 hown hK hP 0 rfl rfl 0 (by decide) fl9 (fun _ h9 => h9) rfl dX3_wholeEighths_56 ?_
  refine lv_bipush (v := nI 22) hx hb dX3_wholeEighths_59 (by decide) ?_
  refine xn_lald hx hb hK hP 1 3 rfl rfl (n := 42) (j := 22) (by decide) (by decide) dX3_wholeEighths_61 ?_
  refine lv_bipush (v := nI 51) hx hb dX3_wholeEighths_62 (by decide) ?_
  refine lv_lshl (v := ((cr (tn (cr D 41) 42) 41) 22) <<< (51 : Int64)) hx hb dX3_wholeEighths_64 (sl51 _) ?_
  refine lv_aload_n hx hb dX3_wholeEighths_65 rfl (lv_at hl 1 rfl) ?_
  refine va_get (D := (dC, dI)) (ci := 3) (v := .ref t0) (C := RX3) (T := TX3) (N := 1) hx hb hts hin3 hown hK hP 0 rfl rfl 0 (by decide) fl9 (fun _ h9 => h9) rfl dX3_wholeEighths_66 ?_
  refine lv_bipush (v := nI 21) hx hb dX3_wholeEighths_69 (by decide) ?_
  refine xn_lald hx hb hK hP 1 3 rfl rfl (n := 42) (j := 21) (by decide) (by decide) dX3_wholeEighths_71 ?_
  refine lv_ladd hx hb dX3_wholeEighths_72 ?_
  refine lv_lstore_n (lv' := [(2, .long ((((cr (tn (cr D 41) 42) 41) 22) <<< (51 : Int64)) + ((cr (tn (cr D 41) 42) 41) 21))), (1, .int (nI (1))), (0, .ref h)]) hx hb dX3_wholeEighths_73 rfl hl (by decide) rfl (fun ls hl => ?_)
  refine lv_iload_n hx hb dX3_wholeEighths_74 rfl (lv_at hl 1 rfl) ?_
  refine lv_if_eq (tgt := 83) hx hb dX3_wholeEighths_75 (by decide) (fun q => absurd q (by decide)) (fun _ => ?_)
  refine lv_lload_n hx hb dX3_wholeEighths_78 rfl (lv_at hl 0 rfl) ?_
  refine lv_lneg hx hb dX3_wholeEighths_79 ?_
  refine lv_goto (tgt := 84) hx hb dX3_wholeEighths_80 (by decide) ?_
  exact W.lret (v := -((((cr (tn (cr D 41) 42) 41) 22) <<< (51 : Int64)) + ((cr (tn (cr D 41) 42) 41) 21))) hx hb hr (fun t ht hW => ⟨⟨_, cr (tn (cr D 41) 42) 41, rfl, (by rw [one_22 hc2, one_21 hc2, show (0 : Int64) <<< (51 : Int64) = 0 by decide, Int64.zero_add, Int64.neg_neg]), by rw [ht]; exact hP, va_K.moved hW.alike hK, hD⟩, hS.F ht⟩) hS.2.2 dX3_wholeEighths_84
set_option maxHeartbeats 4000000 in
set_option maxRecDepth 100000 in
theorem c_X0_sumOfEighths (l : Launch) (dC : Nat → ClassId) (dI : Nat → Nat → Nat) (cD cZ cI cL : ClassId) (h a0 a1 a2 a3 tt t0 : Nat) (N : Nat → UInt64) (G T O : Nat → Int32) (D : Nat → Int64) (sz : Nat) (en : Nat) (hen : en < 6) (hg : ∀ j, gd (N j)) : Met l yX0_sumOfEighths wsX0_sumOfEighths ({ frames := 2, cells := 0, slots := 0, locals := 54 }) (va_Pc [.ref h, .int (nI (en)), .ref tt] (fun U => U.heap.size = sz ∧ okS dC dI cD cZ cI cL h a0 a1 a2 a3 tt t0 N G T O D U U.heap ∧ va_D (fun _ => True) (wS cD cZ cI cL h a0 a1 a2 a3 tt t0 N G T O D))) (va_Ql (fun (r : Int64) (D9 : (Nat → Int64)) => r = sm (fun b => if G (en * 5 + b) = 0 then 0 else e8 (N (en * 5 + b))) 5) (fun D9 t => atS dC dI cD cZ cI cL (va_A (wS cD cZ cI cL h a0 a1 a2 a3 tt t0 N G T O D) sz) h a0 a1 a2 a3 tt t0 N G T O D9 t) (va_A (wS cD cZ cI cL h a0 a1 a2 a3 tt t0 N G T O D) sz)) 0 0 (va_A (wS cD cZ cI cL h a0 a1 a2 a3 tt t0 N G T O D) sz) := by
  refine Met.ofW (cc := cX0_sumOfEighths) (maxL := 5) (ret := (some .long)) (by decide) rfl ?_
  intro p e s m args below meth c s₁ B hml hv
  obtain ⟨rfl, hsz, hO, hD0⟩ := hv
  obtain ⟨hP, hK, hN⟩ := id hO
  have hx := B.exec
  have hb := B.bytes
  have hr := B.returns
  have hts := atoms_spec (ws := wsX0_sumOfEighths) B.pre
  have hown : s.vm.findClass RX0 = some m.cls := findClass_of_methodNamed B.named
  have hlocks := B.notSynchronized
  subst hsz
  have hD := hD0.self (sz := s.heap.size)
  generalize hAe : va_A (wS cD cZ cI cL h a0 a1 a2 a3 tt t0 N G T O D) s.heap.size = A at hD ⊢
  have hA : ∀ q : Nat, s.heap.size ≤ q → A q := fun q h => by rw [← hAe]; exact Or.inr h
  have hS : va_S A s.heap s.heap [] := va_S.rf
  have hP : va_P (dC, dI) vwCl [(h, .inr (0, [.ref a0, .ref a1, .ref a2, .ref a3])), (a0, .inl (cD, 35, .inr (.inr (.inr (.inl (N)))))), (a1, .inl (cZ, 35, .inl (G))), (a2, .inl (cI, 30, .inl (T))), (a3, .inl (cI, 6, .inl (O))), (tt, .inr (3, [.ref t0])), (t0, .inl (cL, 42, .inr (.inl (D))))] s.heap := hP
  have hD : va_D A [(h, .inr (0, [.ref a0, .ref a1, .ref a2, .ref a3])), (a0, .inl (cD, 35, .inr (.inr (.inr (.inl (N)))))), (a1, .inl (cZ, 35, .inl (G))), (a2, .inl (cI, 30, .inl (T))), (a3, .inl (cI, 6, .inl (O))), (tt, .inr (3, [.ref t0])), (t0, .inl (cL, 42, .inr (.inl (D))))] := hD
  have hin0 : ∀ w ∈ wsX00, w ∈ wsX0_sumOfEighths := (fun w h => List.mem_cons_of_mem _ (List.mem_append_left _ (List.mem_append_right _ h)))
  have fl9 := hts (.fieldLink RX0 9 "JuryTable$Panel" "numbers" "[D") (by decide +kernel)
  have fl15 := hts (.fieldLink RX0 15 "JuryTable$Panel" "given" "[Z") (by decide +kernel)
  have hl := lv_entry ([.ref h, .int (nI (en)), .ref tt]) (n := 5) (Nat.le_of_ble_eq_true rfl)
  rw [lg_entry_eq]
  generalize (lg_sl ([.ref h, .int (nI (en)), .ref tt]) ++ List.replicate (5 - (lg_sl ([.ref h, .int (nI (en)), .ref tt])).length) Slot.unset).toArray = ls at hl ⊢
  have hl : lv_has ls 5 [(0, .ref h), (1, .int (nI (en))), (2, .ref tt)] := hl
  refine lv_aload_n hx hb dX0_sumOfEighths_0 rfl (lv_at hl 2 rfl) ?_
  have hPc := hP.sub (ws' := [(tt, .inr (3, [.ref t0])), (t0, .inl (cL, 42, .inr (.inl (D))))]) [5, 6] rfl
  have hDc := hD.sub (ws' := [(tt, .inr (3, [.ref t0])), (t0, .inl (cL, 42, .inr (.inl (D))))]) [5, 6] (by decide) rfl
  have hFc := va_free (wc := [(tt, .inr (3, [.ref t0])), (t0, .inl (cL, 42, .inr (.inl (D))))]) hD hS hA [5, 6] rfl
  refine va_callv (va_runV (As := []) (rest := []) ⟨hx, hb, hml, hown, hts⟩ (c_X3_restart l dC dI cD cZ cI cL tt t0 D s.heap.size) (cwV 0 hts gX0_sumOfEighths_X3_restart rfl rfl rfl (by decide +kernel) ⟨Nat.le_of_ble_eq_true rfl, Nat.le_of_ble_eq_true rfl⟩) (okTW_pre ⟨hPc, hK⟩ hDc) rfl rfl hl.1 rfl (lv_room (Nat.le_of_ble_eq_true rfl)) dX0_sumOfEighths_1 ⟨Nat.zero_le _, Nat.zero_le _⟩) hS (fun q _ h => hFc q h) hFc (fun u1 t H1 locs ht hvm hw hB hz1 hk1 hS => ?_)
  obtain ⟨hP1, hK1, hD1⟩ := hB
  rw [ht] at hP1
  obtain ⟨hP, hD⟩ := va_join (wr := [(h, .inr (0, [.ref a0, .ref a1, .ref a2, .ref a3])), (a0, .inl (cD, 35, .inr (.inr (.inr (.inl (N)))))), (a1, .inl (cZ, 35, .inl (G))), (a2, .inl (cI, 30, .inl (T))), (a3, .inl (cI, 6, .inl (O)))]) (w1 := [(tt, .inr (3, [.ref t0])), (t0, .inl (cL, 42, .inr (.inl (u1))))]) hP hD [5, 6] [0, 1, 2, 3, 4] rfl rfl (by decide) (by decide) hk1 hFc hP1 hD1
  have hP := hP.sub (ws' := [(h, .inr (0, [.ref a0, .ref a1, .ref a2, .ref a3])), (a0, .inl (cD, 35, .inr (.inr (.inr (.inl (N)))))), (a1, .inl (cZ, 35, .inl (G))), (a2, .inl (cI, 30, .inl (T))), (a3, .inl (cI, 6, .inl (O))), (tt, .inr (3, [.ref t0])), (t0, .inl (cL, 42, .inr (.inl (u1))))]) [0, 1, 2, 3, 4, 5, 6] rfl
  have hD := hD.sub (ws' := [(h, .inr (0, [.ref a0, .ref a1, .ref a2, .ref a3])), (a0, .inl (cD, 35, .inr (.inr (.inr (.inl (N)))))), (a1, .inl (cZ, 35, .inl (G))), (a2, .inl (cI, 30, .inl (T))), (a3, .inl (cI, 6, .inl (O))), (tt, .inr (3, [.ref t0])), (t0, .inl (cL, 42, .inr (.inl (u1))))]) [0, 1, 2, 3, 4, 5, 6] (by decide) rfl
  generalize H1 = H at hP hS ⊢
  have hP : va_P (dC, dI) vwCl [(h, .inr (0, [.ref a0, .ref a1, .ref a2, .ref a3])), (a0, .inl (cD, 35, .inr (.inr (.inr (.inl (N)))))), (a1, .inl (cZ, 35, .inl (G))), (a2, .inl (cI, 30, .inl (T))), (a3, .inl (cI, 6, .inl (O))), (tt, .inr (3, [.ref t0])), (t0, .inl (cL, 42, .inr (.inl (u1))))] H := hP
  have hD : va_D A [(h, .inr (0, [.ref a0, .ref a1, .ref a2, .ref a3])), (a0, .inl (cD, 35, .inr (.inr (.inr (.inl (N)))))), (a1, .inl (cZ, 35, .inl (G))), (a2, .inl (cI, 30, .inl (T))), (a3, .inl (cI, 6, .inl (O))), (tt, .inr (3, [.ref t0])), (t0, .inl (cL, 42, .inr (.inl (u1))))] := hD
  refine lv_iconst (v := nI 0) hx hb dX0_sumOfEighths_4 (by decide) ?_
  refine lv_istore_n (lv' := [(3, .int (nI (0))), (0, .ref h), (1, .int (nI (en))), (2, .ref tt)]) hx hb dX0_sumOfEighths_5 rfl hl (by decide) rfl (fun ls hl => ?_)
  refine W_loopH (α := Nat × (Nat → Int64)) (P := fun n a H locs ls => (a.1 + n = 6 ∧ a.1 < 6) ∧ one21 a.2 (sm (fun b => if G (en * 5 + b) = 0 then 0 else e8 (N (en * 5 + b))) a.1) ∧ va_P (dC, dI) vwCl (wS cD cZ cI cL h a0 a1 a2 a3 tt t0 N G T O a.2) H ∧ va_D A (wS cD cZ cI cL h a0 a1 a2 a3 tt t0 N G T O a.2) ∧ va_S A s.heap H locs ∧ lv_has ls 5 [(3, .int (nI (a.1))), (0, .ref h), (1, .int (nI (en))), (2, .ref tt)]) (st := fun _ => []) 6 (fun a H locs ls h => by have := h.1; omega) (fun n ih a H locs ls h => ?_) 6 (0, u1) H _ ls ⟨⟨(rfl : 0 + 6 = 6), (by show 0 < 6; decide)⟩, hw, hP, hD, hS, lv_sub hl [0, 1, 2, 3] rfl⟩
  obtain ⟨i, D2⟩ := a
  dsimp only at h
  obtain ⟨⟨hin, hix⟩, hone, hP, hD, hS, hl⟩ := h
  have hP : va_P (dC, dI) vwCl [(h, .inr (0, [.ref a0, .ref a1, .ref a2, .ref a3])), (a0, .inl (cD, 35, .inr (.inr (.inr (.inl (N)))))), (a1, .inl (cZ, 35, .inl (G))), (a2, .inl (cI, 30, .inl (T))), (a3, .inl (cI, 6, .inl (O))), (tt, .inr (3, [.ref t0])), (t0, .inl (cL, 42, .inr (.inl (D2))))] H := hP
  have hD : va_D A [(h, .inr (0, [.ref a0, .ref a1, .ref a2, .ref a3])), (a0, .inl (cD, 35, .inr (.inr (.inr (.inl (N)))))), (a1, .inl (cZ, 35, .inl (G))), (a2, .inl (cI, 30, .inl (T))), (a3, .inl (cI, 6, .inl (O))), (tt, .inr (3, [.ref t0])), (t0, .inl (cL, 42, .inr (.inl (D2))))] := hD
  refine lv_iload_n hx hb dX0_sumOfEighths_6 rfl (lv_at hl 0 rfl) ?_
  refine lv_iconst (v := nI 5) hx hb dX0_sumOfEighths_7 (by decide) ?_
  refine xn_icmp_ge (tgt := 45) hx hb (by omega) (by decide) dX0_sumOfEighths_8 (by decide) (fun c8 => ?_) (fun c8 => ?_)
  · refine lv_aload_n hx hb dX0_sumOfEighths_45 rfl (lv_at hl 3 rfl) ?_
    have hi5 : i = 5 := by omega
    subst hi5
    have hsb := sm_b (f := (fun b => if G (en * 5 + b) = 0 then 0 else e8 (N (en * 5 + b)))) (fun j => by split <;> first | exact gd_b (hg _) | decide) 5 (Nat.le_refl 5)
    by_cases hs0 : 0 ≤ (sm (fun b => if G (en * 5 + b) = 0 then 0 else e8 (N (en * 5 + b))) 5).toInt
    · have hPc := hP.sub (ws' := [(tt, .inr (3, [.ref t0])), (t0, .inl (cL, 42, .inr (.inl (D2))))]) [5, 6] rfl
      have hDc := hD.sub (ws' := [(tt, .inr (3, [.ref t0])), (t0, .inl (cL, 42, .inr (.inl (D2))))]) [5, 6] (by decide) rfl
      have hFc := va_free (wc := [(tt, .inr (3, [.ref t0])), (t0, .inl (cL, 42, .inr (.inl (D2))))]) hD hS hA [5, 6] rfl
      refine va_calll (va_runV (As := []) (rest := []) ⟨hx, hb, hml, hown, hts⟩ (c_X3_wholeEighths_p l dC dI cD cZ cI cL tt t0 D2 H.size (sm (fun b => if G (en * 5 + b) = 0 then 0 else e8 (N (en * 5 + b))) 5) hone hs0 (by omega)) (cwV 0 hts gX0_sumOfEighths_X3_wholeEighths rfl rfl rfl (by decide +kernel) ⟨Nat.le_of_ble_eq_true rfl, Nat.le_of_ble_eq_true rfl⟩) (okTW_pre ⟨hPc, hK⟩ hDc) rfl rfl hl.1 rfl (lv_room (Nat.le_of_ble_eq_true rfl)) dX0_sumOfEighths_46 ⟨Nat.zero_le _, Nat.zero_le _⟩) hS (fun q _ h => hFc q h) hFc (fun r2 u2 t H1 locs ht hvm hw hB hz1 hk1 hS => ?_)
      obtain ⟨hP1, hK1, hD1⟩ := hB
      rw [ht] at hP1
      obtain ⟨hP, hD⟩ := va_join (wr := [(h, .inr (0, [.ref a0, .ref a1, .ref a2, .ref a3])), (a0, .inl (cD, 35, .inr (.inr (.inr (.inl (N)))))), (a1, .inl (cZ, 35, .inl (G))), (a2, .inl (cI, 30, .inl (T))), (a3, .inl (cI, 6, .inl (O)))]) (w1 := [(tt, .inr (3, [.ref t0])), (t0, .inl (cL, 42, .inr (.inl (u2))))]) hP hD [5, 6] [0, 1, 2, 3, 4] rfl rfl (by decide) (by decide) hk1 hFc hP1 hD1
      have hP := hP.sub (ws' := [(h, .inr (0, [.ref a0, .ref a1, .ref a2, .ref a3])), (a0, .inl (cD, 35, .inr (.inr (.inr (.inl (N)))))), (a1, .inl (cZ, 35, .inl (G))), (a2, .inl (cI, 30, .inl (T))), (a3, .inl (cI, 6, .inl (O))), (tt, .inr (3, [.ref t0])), (t0, .inl (cL, 42, .inr (.inl (u2))))]) [0, 1, 2, 3, 4, 5, 6] rfl
      have hD := hD.sub (ws' := [(h, .inr (0, [.ref a0, .ref a1, .ref a2, .ref a3])), (a0, .inl (cD, 35, .inr (.inr (.inr (.inl (N)))))), (a1, .inl (cZ, 35, .inl (G))), (a2, .inl (cI, 30, .inl (T))), (a3, .inl (cI, 6, .inl (O))), (tt, .inr (3, [.ref t0])), (t0, .inl (cL, 42, .inr (.inl (u2))))]) [0, 1, 2, 3, 4, 5, 6] (by decide) rfl
      generalize H1 = H at hP hS ⊢
      have hP : va_P (dC, dI) vwCl [(h, .inr (0, [.ref a0, .ref a1, .ref a2, .ref a3])), (a0, .inl (cD, 35, .inr (.inr (.inr (.inl (N)))))), (a1, .inl (cZ, 35, .inl (G))), (a2, .inl (cI, 30, .inl (T))), (a3, .inl (cI, 6, .inl (O))), (tt, .inr (3, [.ref t0])), (t0, .inl (cL, 42, .inr (.inl (u2))))] H := hP
      have hD : va_D A [(h, .inr (0, [.ref a0, .ref a1, .ref a2, .ref a3])), (a0, .inl (cD, 35, .inr (.inr (.inr (.inl (N)))))), (a1, .inl (cZ, 35, .inl (G))), (a2, .inl (cI, 30, .inl (T))), (a3, .inl (cI, 6, .inl (O))), (tt, .inr (3, [.ref t0])), (t0, .inl (cL, 42, .inr (.inl (u2))))] := hD
      subst hw
      exact W.lret (v := sm (fun b => if G (en * 5 + b) = 0 then 0 else e8 (N (en * 5 + b))) 5) hx hb hr (fun t ht hW => ⟨⟨_, u2, rfl, rfl, by rw [ht]; exact hP, va_K.moved hW.alike hK, hD⟩, hS.F ht⟩) hS.2.2 dX0_sumOfEighths_49
    · have hPc := hP.sub (ws' := [(tt, .inr (3, [.ref t0])), (t0, .inl (cL, 42, .inr (.inl (D2))))]) [5, 6] rfl
      have hDc := hD.sub (ws' := [(tt, .inr (3, [.ref t0])), (t0, .inl (cL, 42, .inr (.inl (D2))))]) [5, 6] (by decide) rfl
      have hFc := va_free (wc := [(tt, .inr (3, [.ref t0])), (t0, .inl (cL, 42, .inr (.inl (D2))))]) hD hS hA [5, 6] rfl
      refine va_calll (va_runV (As := []) (rest := []) ⟨hx, hb, hml, hown, hts⟩ (c_X3_wholeEighths_n l dC dI cD cZ cI cL tt t0 D2 H.size (sm (fun b => if G (en * 5 + b) = 0 then 0 else e8 (N (en * 5 + b))) 5) hone (by omega) (by omega)) (cwV 0 hts gX0_sumOfEighths_X3_wholeEighths rfl rfl rfl (by decide +kernel) ⟨Nat.le_of_ble_eq_true rfl, Nat.le_of_ble_eq_true rfl⟩) (okTW_pre ⟨hPc, hK⟩ hDc) rfl rfl hl.1 rfl (lv_room (Nat.le_of_ble_eq_true rfl)) dX0_sumOfEighths_46 ⟨Nat.zero_le _, Nat.zero_le _⟩) hS (fun q _ h => hFc q h) hFc (fun r3 u3 t H1 locs ht hvm hw hB hz1 hk1 hS => ?_)
      obtain ⟨hP1, hK1, hD1⟩ := hB
      rw [ht] at hP1
      obtain ⟨hP, hD⟩ := va_join (wr := [(h, .inr (0, [.ref a0, .ref a1, .ref a2, .ref a3])), (a0, .inl (cD, 35, .inr (.inr (.inr (.inl (N)))))), (a1, .inl (cZ, 35, .inl (G))), (a2, .inl (cI, 30, .inl (T))), (a3, .inl (cI, 6, .inl (O)))]) (w1 := [(tt, .inr (3, [.ref t0])), (t0, .inl (cL, 42, .inr (.inl (u3))))]) hP hD [5, 6] [0, 1, 2, 3, 4] rfl rfl (by decide) (by decide) hk1 hFc hP1 hD1
      have hP := hP.sub (ws' := [(h, .inr (0, [.ref a0, .ref a1, .ref a2, .ref a3])), (a0, .inl (cD, 35, .inr (.inr (.inr (.inl (N)))))), (a1, .inl (cZ, 35, .inl (G))), (a2, .inl (cI, 30, .inl (T))), (a3, .inl (cI, 6, .inl (O))), (tt, .inr (3, [.ref t0])), (t0, .inl (cL, 42, .inr (.inl (u3))))]) [0, 1, 2, 3, 4, 5, 6] rfl
      have hD := hD.sub (ws' := [(h, .inr (0, [.ref a0, .ref a1, .ref a2, .ref a3])), (a0, .inl (cD, 35, .inr (.inr (.inr (.inl (N)))))), (a1, .inl (cZ, 35, .inl (G))), (a2, .inl (cI, 30, .inl (T))), (a3, .inl (cI, 6, .inl (O))), (tt, .inr (3, [.ref t0])), (t0, .inl (cL, 42, .inr (.inl (u3))))]) [0, 1, 2, 3, 4, 5, 6] (by decide) rfl
      generalize H1 = H at hP hS ⊢
      have hP : va_P (dC, dI) vwCl [(h, .inr (0, [.ref a0, .ref a1, .ref a2, .ref a3])), (a0, .inl (cD, 35, .inr (.inr (.inr (.inl (N)))))), (a1, .inl (cZ, 35, .inl (G))), (a2, .inl (cI, 30, .inl (T))), (a3, .inl (cI, 6, .inl (O))), (tt, .inr (3, [.ref t0])), (t0, .inl (cL, 42, .inr (.inl (u3))))] H := hP
      have hD : va_D A [(h, .inr (0, [.ref a0, .ref a1, .ref a2, .ref a3])), (a0, .inl (cD, 35, .inr (.inr (.inr (.inl (N)))))), (a1, .inl (cZ, 35, .inl (G))), (a2, .inl (cI, 30, .inl (T))), (a3, .inl (cI, 6, .inl (O))), (tt, .inr (3, [.ref t0])), (t0, .inl (cL, 42, .inr (.inl (u3))))] := hD
      subst hw
      exact W.lret (v := sm (fun b => if G (en * 5 + b) = 0 then 0 else e8 (N (en * 5 + b))) 5) hx hb hr (fun t ht hW => ⟨⟨_, u3, rfl, rfl, by rw [ht]; exact hP, va_K.moved hW.alike hK, hD⟩, hS.F ht⟩) hS.2.2 dX0_sumOfEighths_49
  · refine lv_iload_n hx hb dX0_sumOfEighths_11 rfl (lv_at hl 2 rfl) ?_
    refine lv_iload_n hx hb dX0_sumOfEighths_12 rfl (lv_at hl 0 rfl) ?_
    refine vp_callSi (va_Run.run (va_runSN (host := RX1) (As := [.int (nI (en)), .int (nI (i))]) (rest := []) ⟨hx, hb, hml, hown, hts⟩ (c_X1_cellOf l (en) (i)) ⟨va_cnB 2 hts gX0_sumOfEighths_X1_cellOf_n40 rfl rfl rfl hN (hts (.initialized RX1) (by decide +kernel)) (by decide +kernel) ⟨Nat.le_of_ble_eq_true rfl, Nat.le_of_ble_eq_true rfl⟩, hts (.static yX1_cellOf) (by decide +kernel), trivial⟩ preT rfl rfl hl.1 rfl (lv_room (Nat.le_of_ble_eq_true rfl)) dX0_sumOfEighths_13 ⟨Nat.zero_le _, Nat.zero_le _⟩)) (fun r4 er4 => ?_)
    subst er4
    refine lv_istore (lv' := [(4, .int (nI (en * 5 + i))), (3, .int (nI (i))), (0, .ref h), (1, .int (nI (en))), (2, .ref tt)]) hx hb dX0_sumOfEighths_16 hl (by decide) rfl (fun ls hl => ?_)
    refine lv_aload_n hx hb dX0_sumOfEighths_18 rfl (lv_at hl 2 rfl) ?_
    refine va_get (D := (dC, dI)) (ci := 0) (v := .ref a1) (C := RX0) (T := TX0) (N := 4) hx hb hts hin0 hown hK hP 0 rfl rfl 1 (by decide) fl15 (fun _ h9 => h9) rfl dX0_sumOfEighths_19 ?_
    refine lv_iload hx hb dX0_sumOfEighths_22 (lv_at hl 0 rfl) ?_
    refine xn_zald hx hb hK hP 2 1 rfl rfl (n := 35) (j := en * 5 + i) (by omega) (by decide) dX0_sumOfEighths_24 ?_
    refine lv_if_eq (tgt := 39) hx hb dX0_sumOfEighths_25 (by decide) (fun c25 => ?_) (fun c25 => ?_)
    · refine xn_iinc (lv2 := [(3, .int (nI (i + 1))), (4, .int (nI (en * 5 + i))), (0, .ref h), (1, .int (nI (en))), (2, .ref tt)]) hx hb dX0_sumOfEighths_39 hl (k0 := 1) rfl (by decide) rfl (fun ls hl => ?_)
      refine lv_goto (tgt := 6) hx hb dX0_sumOfEighths_42 (by decide) ?_
      exact ih (i + 1, D2) H locs ls ⟨⟨(by show i + 1 + n = 6; omega), (by show i + 1 < 6; omega)⟩, (by rw [sm_f (f := (fun b => if G (en * 5 + b) = 0 then 0 else e8 (N (en * 5 + b)))) (if_pos c25)]; exact hone), hP, hD, hS, lv_sub hl [0, 2, 3, 4] rfl⟩
    · refine lv_aload_n hx hb dX0_sumOfEighths_28 rfl (lv_at hl 4 rfl) ?_
      refine lv_aload_n hx hb dX0_sumOfEighths_29 rfl (lv_at hl 2 rfl) ?_
      refine va_get (D := (dC, dI)) (ci := 0) (v := .ref a0) (C := RX0) (T := TX0) (N := 4) hx hb hts hin0 hown hK hP 0 rfl rfl 0 (by decide) fl9 (fun _ h9 => h9) rfl dX0_sumOfEighths_30 ?_
      refine lv_iload hx hb dX0_sumOfEighths_33 (lv_at hl 0 rfl) ?_
      refine xn_dald hx hb hK hP 1 0 rfl rfl (n := 35) (j := en * 5 + i) (by omega) (by decide) dX0_sumOfEighths_35 ?_
      have hPc := hP.sub (ws' := [(tt, .inr (3, [.ref t0])), (t0, .inl (cL, 42, .inr (.inl (D2))))]) [5, 6] rfl
      have hDc := hD.sub (ws' := [(tt, .inr (3, [.ref t0])), (t0, .inl (cL, 42, .inr (.inl (D2))))]) [5, 6] (by decide) rfl
      have hFc := va_free (wc := [(tt, .inr (3, [.ref t0])), (t0, .inl (cL, 42, .inr (.inl (D2))))]) hD hS hA [5, 6] rfl
      refine va_callv (va_runV (As := [.double (N (en * 5 + i))]) (rest := []) ⟨hx, hb, hml, hown, hts⟩ (c_X3_include l dC dI cD cZ cI cL tt t0 D2 H.size (sm (fun b => if G (en * 5 + b) = 0 then 0 else e8 (N (en * 5 + b))) i) (N (en * 5 + i)) hone (hg _)) (cwV 1 hts gX0_sumOfEighths_X3_include rfl rfl rfl (by decide +kernel) ⟨Nat.le_of_ble_eq_true rfl, Nat.le_of_ble_eq_true rfl⟩) (okTW_pre ⟨hPc, hK⟩ hDc) rfl rfl hl.1 rfl (lv_room (Nat.le_of_ble_eq_true rfl)) dX0_sumOfEighths_36 ⟨Nat.zero_le _, Nat.zero_le _⟩) hS (fun q _ h => hFc q h) hFc (fun u5 t H1 locs ht hvm hw hB hz1 hk1 hS => ?_)
      obtain ⟨hP1, hK1, hD1⟩ := hB
      rw [ht] at hP1
      obtain ⟨hP, hD⟩ := va_join (wr := [(h, .inr (0, [.ref a0, .ref a1, .ref a2, .ref a3])), (a0, .inl (cD, 35, .inr (.inr (.inr (.inl (N)))))), (a1, .inl (cZ, 35, .inl (G))), (a2, .inl (cI, 30, .inl (T))), (a3, .inl (cI, 6, .inl (O)))]) (w1 := [(tt, .inr (3, [.ref t0])), (t0, .inl (cL, 42, .inr (.inl (u5))))]) hP hD [5, 6] [0, 1, 2, 3, 4] rfl rfl (by decide) (by decide) hk1 hFc hP1 hD1
      have hP := hP.sub (ws' := [(h, .inr (0, [.ref a0, .ref a1, .ref a2, .ref a3])), (a0, .inl (cD, 35, .inr (.inr (.inr (.inl (N)))))), (a1, .inl (cZ, 35, .inl (G))), (a2, .inl (cI, 30, .inl (T))), (a3, .inl (cI, 6, .inl (O))), (tt, .inr (3, [.ref t0])), (t0, .inl (cL, 42, .inr (.inl (u5))))]) [0, 1, 2, 3, 4, 5, 6] rfl
      have hD := hD.sub (ws' := [(h, .inr (0, [.ref a0, .ref a1, .ref a2, .ref a3])), (a0, .inl (cD, 35, .inr (.inr (.inr (.inl (N)))))), (a1, .inl (cZ, 35, .inl (G))), (a2, .inl (cI, 30, .inl (T))), (a3, .inl (cI, 6, .inl (O))), (tt, .inr (3, [.ref t0])), (t0, .inl (cL, 42, .inr (.inl (u5))))]) [0, 1, 2, 3, 4, 5, 6] (by decide) rfl
      generalize H1 = H at hP hS ⊢
      have hP : va_P (dC, dI) vwCl [(h, .inr (0, [.ref a0, .ref a1, .ref a2, .ref a3])), (a0, .inl (cD, 35, .inr (.inr (.inr (.inl (N)))))), (a1, .inl (cZ, 35, .inl (G))), (a2, .inl (cI, 30, .inl (T))), (a3, .inl (cI, 6, .inl (O))), (tt, .inr (3, [.ref t0])), (t0, .inl (cL, 42, .inr (.inl (u5))))] H := hP
      have hD : va_D A [(h, .inr (0, [.ref a0, .ref a1, .ref a2, .ref a3])), (a0, .inl (cD, 35, .inr (.inr (.inr (.inl (N)))))), (a1, .inl (cZ, 35, .inl (G))), (a2, .inl (cI, 30, .inl (T))), (a3, .inl (cI, 6, .inl (O))), (tt, .inr (3, [.ref t0])), (t0, .inl (cL, 42, .inr (.inl (u5))))] := hD
      refine xn_iinc (lv2 := [(3, .int (nI (i + 1))), (4, .int (nI (en * 5 + i))), (0, .ref h), (1, .int (nI (en))), (2, .ref tt)]) hx hb dX0_sumOfEighths_39 hl (k0 := 1) rfl (by decide) rfl (fun ls hl => ?_)
      refine lv_goto (tgt := 6) hx hb dX0_sumOfEighths_42 (by decide) ?_
      exact ih (i + 1, u5) H locs ls ⟨⟨(by show i + 1 + n = 6; omega), (by show i + 1 < 6; omega)⟩, (by rw [sm_t (f := (fun b => if G (en * 5 + b) = 0 then 0 else e8 (N (en * 5 + b)))) (if_neg c25)]; exact hw), hP, hD, hS, lv_sub hl [0, 2, 3, 4] rfl⟩
