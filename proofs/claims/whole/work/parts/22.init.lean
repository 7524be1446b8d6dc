set_option maxHeartbeats 4000000 in
set_option maxRecDepth 100000 in
theorem c_J7_fill_53178 (l : Launch) (dC : Nat → ClassId) (dI : Nat → Nat → Nat) (cD cZ cI cL : ClassId) (q : Nat) (f : Nat → Int32) (tv : Int32) (sz : Nat) : Met l yJ7_fill_53178 wsJ7_fill_53178 ({ frames := 0, cells := 0, slots := 0, locals := 0 }) (va_Pc [.ref q, .int (tv)] (fun U => U.heap.size = sz ∧ okN dC dI cD cZ cI cL [(q, .inl (cI, 30, .inl f))] U U.heap ∧ va_D (fun _ => True) ([(q, .inl (cI, 30, .inl f))]))) (va_Qv (fun f9 : (Nat → Int32) => ∀ j, j < 30 → f9 j = tv) (fun f9 t => atN dC dI cD cZ cI cL (va_A ([(q, .inl (cI, 30, .inl f))]) sz) [(q, .inl (cI, 30, .inl f9))] t) (va_A ([(q, .inl (cI, 30, .inl f))]) sz)) 0 0 (va_A ([(q, .inl (cI, 30, .inl f))]) sz) := by
  refine Met.ofW (cc := cJ7_fill_53178) (maxL := 4) (ret := none) (by decide) rfl ?_
  intro p e s m args below meth c s₁ B hml hv
  obtain ⟨rfl, hsz, hO, hD0⟩ := hv
  obtain ⟨hP, hK⟩ := id hO
  have hx := B.exec
  have hb := B.bytes
  have hr := B.returns
  have hts := atoms_spec (ws := wsJ7_fill_53178) B.pre
  have hown : s.vm.findClass RJ7 = some m.cls := findClass_of_methodNamed B.named
  have hlocks := B.notSynchronized
  subst hsz
  have hD := hD0.self (sz := s.heap.size)
  generalize hAe : va_A ([(q, .inl (cI, 30, .inl f))]) s.heap.size = A at hD ⊢
  have hA : ∀ q : Nat, s.heap.size ≤ q → A q := fun q h => by rw [← hAe]; exact Or.inr h
  have hS : va_S A s.heap s.heap [] := va_S.rf
  have hP : va_P (dC, dI) vwCl [(q, .inl (cI, 30, .inl (f)))] s.heap := hP
  have hD : va_D A [(q, .inl (cI, 30, .inl (f)))] := hD
  have hl := lv_entry ([.ref q, .int (tv)]) (n := 4) (Nat.le_of_ble_eq_true rfl)
  rw [lg_entry_eq]
  generalize (lg_sl ([.ref q, .int (tv)]) ++ List.replicate (4 - (lg_sl ([.ref q, .int (tv)])).length) Slot.unset).toArray = ls at hl ⊢
  have hl : lv_has ls 4 [(0, .ref q), (1, .int (tv))] := hl
  refine lv_iconst (v := nI 0) hx hb dJ7_fill_53178_0 (by decide) ?_
  refine lv_istore_n (lv' := [(2, .int (nI (0))), (0, .ref q), (1, .int (tv))]) hx hb dJ7_fill_53178_1 rfl hl (by decide) rfl (fun ls hl => ?_)
  refine lv_aload_n hx hb dJ7_fill_53178_2 rfl (lv_at hl 1 rfl) ?_
  refine va_alen (v := nI 30) hx hb hK hP 0 2 rfl rfl rfl dJ7_fill_53178_3 ?_
  refine lv_istore_n (lv' := [(3, .int (nI (30))), (2, .int (nI (0))), (0, .ref q), (1, .int (tv))]) hx hb dJ7_fill_53178_4 rfl hl (by decide) rfl (fun ls hl => ?_)
  refine W_loopH (α := Nat × (Nat → Int32)) (P := fun n a H locs ls => (a.1 + n = 31 ∧ a.1 < 31) ∧ (∀ j, j < a.1 → a.2 j = tv) ∧ va_P (dC, dI) vwCl [(q, .inl (cI, 30, .inl a.2))] H ∧ va_D A [(q, .inl (cI, 30, .inl a.2))] ∧ va_S A s.heap H locs ∧ lv_has ls 4 [(2, .int (nI (a.1))), (0, .ref q), (1, .int (tv)), (3, .int (nI (30)))]) (st := fun _ => []) 5 (fun a H locs ls h => by have := h.1; omega) (fun n ih a H locs ls h => ?_) 31 (0, f) s.heap [] ls ⟨⟨(rfl : 0 + 31 = 31), (by show 0 < 31; decide)⟩, fun j hj => absurd hj (Nat.not_lt_zero _), hP, hD, hS, lv_sub hl [1, 2, 3, 0] rfl⟩
  obtain ⟨i, f2⟩ := a
  dsimp only at h
  obtain ⟨⟨hin, hix⟩, hall, hP, hD, hS, hl⟩ := h
  have hP : va_P (dC, dI) vwCl [(q, .inl (cI, 30, .inl (f2)))] H := hP
  have hD : va_D A [(q, .inl (cI, 30, .inl (f2)))] := hD
  refine lv_iload_n hx hb dJ7_fill_53178_5 rfl (lv_at hl 0 rfl) ?_
  refine lv_iload_n hx hb dJ7_fill_53178_6 rfl (lv_at hl 3 rfl) ?_
  refine xn_icmp_ge (tgt := 20) hx hb (by omega) (by decide) dJ7_fill_53178_7 (by decide) (fun c7 => ?_) (fun c7 => ?_)
  · exact W.vret hx hb hr (fun t ht hW => ⟨⟨f2, rfl, (fun j hj => hall j (by omega)), by rw [ht]; exact hP, va_K.moved hW.alike hK, hD⟩, hS.F ht⟩) hS.2.2 dJ7_fill_53178_20
  · refine lv_aload_n hx hb dJ7_fill_53178_10 rfl (lv_at hl 1 rfl) ?_
    refine lv_iload_n hx hb dJ7_fill_53178_11 rfl (lv_at hl 0 rfl) ?_
    refine lv_iload_n hx hb dJ7_fill_53178_12 rfl (lv_at hl 2 rfl) ?_
    refine xn_iast hx hb hK hP hD hS 0 2 rfl rfl (n := 30) (j := i) (by omega) (by decide) dJ7_fill_53178_13 (fun H locs hP hD hS => ?_)
    have hP : va_P (dC, dI) vwCl [(q, .inl (cI, 30, .inl (upd f2 i tv)))] H := hP
    have hD : va_D A [(q, .inl (cI, 30, .inl (upd f2 i tv)))] := hD
    refine xn_iinc (lv2 := [(2, .int (nI (i + 1))), (0, .ref q), (1, .int (tv)), (3, .int (nI (30)))]) hx hb dJ7_fill_53178_14 hl (k0 := 0) rfl (by decide) rfl (fun ls hl => ?_)
    refine lv_goto (tgt := 5) hx hb dJ7_fill_53178_17 (by decide) ?_
    exact ih (i + 1, upd f2 i tv) H locs ls ⟨⟨(by show i + 1 + n = 31; omega), (by show i + 1 < 31; omega)⟩, upd_all hall, hP, hD, hS, lv_sub hl [0, 1, 2, 3] rfl⟩
set_option maxHeartbeats 4000000 in
set_option maxRecDepth 100000 in
theorem c_X0_init (l : Launch) (dC : Nat → ClassId) (dI : Nat → Nat → Nat) (cD cZ cI cL : ClassId) (h : Nat) (sz : Nat) : Met l yX0_init wsX0_init ({ frames := 1, cells := 4, slots := 106, locals := 23 }) (va_Pc [.ref h] (fun U => U.heap.size = sz ∧ okN dC dI cD cZ cI cL [(h, .inr (0, [.null, .null, .null, .null]))] U U.heap ∧ va_D (fun _ => True) ([(h, .inr (0, [.null, .null, .null, .null]))]))) (va_Qv (fun u : (Nat × Nat × Nat × Nat × (Nat → Int32)) => ∀ j, j < 30 → u.2.2.2.2 j = -1) (fun u t => atN dC dI cD cZ cI cL (va_A ([(h, .inr (0, [.null, .null, .null, .null]))]) sz) (wP cD cZ cI cL h u.1 u.2.1 u.2.2.1 u.2.2.2.1 (fun _ => 0) (fun _ => 0) u.2.2.2.2 (fun _ => 0)) t) (va_A ([(h, .inr (0, [.null, .null, .null, .null]))]) sz)) 4 106 (va_A ([(h, .inr (0, [.null, .null, .null, .null]))]) sz) := by
  refine Met.ofW (cc := cX0_init) (maxL := 1) (ret := none) (by decide) rfl ?_
  intro p e s m args below meth c s₁ B hml hv
  obtain ⟨rfl, hsz, hO, hD0⟩ := hv
  obtain ⟨hP, hK⟩ := id hO
  have hx := B.exec
  have hb := B.bytes
  have hr := B.returns
  have hts := atoms_spec (ws := wsX0_init) B.pre
  have hown : s.vm.findClass RX0 = some m.cls := findClass_of_methodNamed B.named
  have hlocks := B.notSynchronized
  subst hsz
  have hD := hD0.self (sz := s.heap.size)
  generalize hAe : va_A ([(h, .inr (0, [.null, .null, .null, .null]))]) s.heap.size = A at hD ⊢
  have hA : ∀ q : Nat, s.heap.size ≤ q → A q := fun q h => by rw [← hAe]; exact Or.inr h
  have hS : va_S A s.heap s.heap [] := va_S.rf
  have hP : va_P (dC, dI) vwCl [(h, .inr (0, [.null, .null, .null, .null]))] s.heap := hP
  have hD : va_D A [(h, .inr (0, [.null, .null, .null, .null]))] := hD
  have hin : meth.name = "<init>" := (name_of_methodNamed B.named B.method).1
  have hin0 : ∀ w ∈ wsX00, w ∈ wsX0_init := (fun w h => List.mem_cons_of_mem _ (List.mem_append_right _ h))
  have fl9 := hts (.fieldLink RX0 9 "JuryTable$Panel" "numbers" "[D") (by decide +kernel)
  have fl15 := hts (.fieldLink RX0 15 "JuryTable$Panel" "given" "[Z") (by decide +kernel)
  have fl19 := hts (.fieldLink RX0 19 "JuryTable$Panel" "truths" "[I") (by decide +kernel)
  have fl23 := hts (.fieldLink RX0 23 "JuryTable$Panel" "order" "[I") (by decide +kernel)
  have hl := lv_entry ([.ref h]) (n := 1) (Nat.le_of_ble_eq_true rfl)
  rw [lg_entry_eq]
  generalize (lg_sl ([.ref h]) ++ List.replicate (1 - (lg_sl ([.ref h])).length) Slot.unset).toArray = ls at hl ⊢
  have hl : lv_has ls 1 [(0, .ref h)] := hl
  refine lv_aload_n hx hb dX0_init_0 rfl (lv_at hl 0 rfl) ?_
  refine W.objInit hx hb hown (hts (.methodLink RX0 3 objectInit) (by decide +kernel)) (hts (.instanceMethod objectInit) (by decide +kernel)) (hts (.code objectInit ⟨#[0xb1]⟩ 1 none) (List.mem_cons_of_mem _ (List.mem_append_left _ (List.mem_of_getElem? (i := 2) rfl)))) rfl (by rw [hml]; exact hl.1) rfl dX0_init_1 (Nat.le_of_ble_eq_true rfl) (Nat.le_of_ble_eq_true rfl) ?_
  refine W.eq (g2 := F0 m 4 ls []) rfl ?_
  refine lv_aload_n hx hb dX0_init_4 rfl (lv_at hl 0 rfl) ?_
  refine lv_bipush (v := nI 35) hx hb dX0_init_5 (by decide) ?_
  refine va_newa (atype := .double) (a0 := (35, .inr (.inr (.inr (.inl (fun _ => 0)))))) (ty := .double) (N' := 35) hx hb (hts (.arrayClass .double) (by decide +kernel)) rfl hK hP hD hS hA (vcD 35) (nI_pos (by decide)) (nI_clamp (by decide)) (byD 35 (by decide)) (show 0 + 1 ≤ 4 by decide) (show 0 + 35 ≤ 106 by decide) dX0_init_7 (fun q7 cA H hK hP hD hS => ?_)
  have ecA := acD hK 0 4 rfl rfl
  subst ecA
  have hK := hK.sub (tys' := tP cD cZ cI cL) [0, 1, 2, 3] rfl
  have hP : va_P (dC, dI) vwCl [(h, .inr (0, [.null, .null, .null, .null])), (q7, .inl (cD, 35, .inr (.inr (.inr (.inl (fun _ => 0))))))] H := hP
  have hD : va_D A [(h, .inr (0, [.null, .null, .null, .null])), (q7, .inl (cD, 35, .inr (.inr (.inr (.inl (fun _ => 0))))))] := hD
  refine W.widen (k := 1) (n := 35) (by omega) (by omega) ?_
  refine va_putF (D := (dC, dI)) (ci := 0) (v := .ref q7) (ty := .array .double) (C := RX0) (T := TX0) (N := 4) hx hb hts hin0 tyX0 tyX0_ok nmX0 hown hK hP hD hS 0 rfl rfl 0 (by decide) fl9 (fun _ h9 => h9) rfl hin rfl (by decide +kernel) rfl rfl (Nat.le_of_ble_eq_true rfl) dX0_init_9 (fun H locs hP hD hS => ?_)
  have hP : va_P (dC, dI) vwCl [(h, .inr (0, [.ref q7, .null, .null, .null])), (q7, .inl (cD, 35, .inr (.inr (.inr (.inl (fun _ => 0))))))] H := hP
  have hD : va_D A [(h, .inr (0, [.ref q7, .null, .null, .null])), (q7, .inl (cD, 35, .inr (.inr (.inr (.inl (fun _ => 0))))))] := hD
  refine lv_aload_n hx hb dX0_init_12 rfl (lv_at hl 0 rfl) ?_
  refine lv_bipush (v := nI 35) hx hb dX0_init_13 (by decide) ?_
  refine va_newa (atype := .boolean) (a0 := (35, .inl (fun _ => 0))) (ty := .boolean) (N' := 35) hx hb (hts (.arrayClass .boolean) (by decide +kernel)) rfl hK hP hD hS hA (vcZ 35) (nI_pos (by decide)) (nI_clamp (by decide)) (byZ 35 (by decide)) (show 1 + 1 ≤ 4 by decide) (show 35 + 35 ≤ 106 by decide) dX0_init_15 (fun q15 cA H hK hP hD hS => ?_)
  have ecA := acZ hK 1 4 rfl rfl
  subst ecA
  have hK := hK.sub (tys' := tP cD cZ cI cL) [0, 1, 2, 3] rfl
  have hP : va_P (dC, dI) vwCl [(h, .inr (0, [.ref q7, .null, .null, .null])), (q7, .inl (cD, 35, .inr (.inr (.inr (.inl (fun _ => 0)))))), (q15, .inl (cZ, 35, .inl (fun _ => 0)))] H := hP
  have hD : va_D A [(h, .inr (0, [.ref q7, .null, .null, .null])), (q7, .inl (cD, 35, .inr (.inr (.inr (.inl (fun _ => 0)))))), (q15, .inl (cZ, 35, .inl (fun _ => 0)))] := hD
  refine W.widen (k := 2) (n := 70) (by omega) (by omega) ?_
  refine va_putF (D := (dC, dI)) (ci := 0) (v := .ref q15) (ty := .array .boolean) (C := RX0) (T := TX0) (N := 4) hx hb hts hin0 tyX0 tyX0_ok nmX0 hown hK hP hD hS 0 rfl rfl 1 (by decide) fl15 (fun _ h9 => h9) rfl hin rfl (by decide +kernel) rfl rfl (Nat.le_of_ble_eq_true rfl) dX0_init_17 (fun H locs hP hD hS => ?_)
  have hP : va_P (dC, dI) vwCl [(h, .inr (0, [.ref q7, .ref q15, .null, .null])), (q7, .inl (cD, 35, .inr (.inr (.inr (.inl (fun _ => 0)))))), (q15, .inl (cZ, 35, .inl (fun _ => 0)))] H := hP
  have hD : va_D A [(h, .inr (0, [.ref q7, .ref q15, .null, .null])), (q7, .inl (cD, 35, .inr (.inr (.inr (.inl (fun _ => 0)))))), (q15, .inl (cZ, 35, .inl (fun _ => 0)))] := hD
  refine lv_aload_n hx hb dX0_init_20 rfl (lv_at hl 0 rfl) ?_
  refine lv_bipush (v := nI 30) hx hb dX0_init_21 (by decide) ?_
  refine va_newa (atype := .int) (a0 := (30, .inl (fun _ => 0))) (ty := .int) (N' := 30) hx hb (hts (.arrayClass .int) (by decide +kernel)) rfl hK hP hD hS hA (vcI 30) (nI_pos (by decide)) (nI_clamp (by decide)) (byI 30 (by decide)) (show 2 + 1 ≤ 4 by decide) (show 70 + 30 ≤ 106 by decide) dX0_init_23 (fun q23 cA H hK hP hD hS => ?_)
  have ecA := acI hK 2 4 rfl rfl
  subst ecA
  have hK := hK.sub (tys' := tP cD cZ cI cL) [0, 1, 2, 3] rfl
  have hP : va_P (dC, dI) vwCl [(h, .inr (0, [.ref q7, .ref q15, .null, .null])), (q7, .inl (cD, 35, .inr (.inr (.inr (.inl (fun _ => 0)))))), (q15, .inl (cZ, 35, .inl (fun _ => 0))), (q23, .inl (cI, 30, .inl (fun _ => 0)))] H := hP
  have hD : va_D A [(h, .inr (0, [.ref q7, .ref q15, .null, .null])), (q7, .inl (cD, 35, .inr (.inr (.inr (.inl (fun _ => 0)))))), (q15, .inl (cZ, 35, .inl (fun _ => 0))), (q23, .inl (cI, 30, .inl (fun _ => 0)))] := hD
  refine W.widen (k := 3) (n := 100) (by omega) (by omega) ?_
  refine va_putF (D := (dC, dI)) (ci := 0) (v := .ref q23) (ty := .array .int) (C := RX0) (T := TX0) (N := 4) hx hb hts hin0 tyX0 tyX0_ok nmX0 hown hK hP hD hS 0 rfl rfl 2 (by decide) fl19 (fun _ h9 => h9) rfl hin rfl (by decide +kernel) rfl rfl (Nat.le_of_ble_eq_true rfl) dX0_init_25 (fun H locs hP hD hS => ?_)
  have hP : va_P (dC, dI) vwCl [(h, .inr (0, [.ref q7, .ref q15, .ref q23, .null])), (q7, .inl (cD, 35, .inr (.inr (.inr (.inl (fun _ => 0)))))), (q15, .inl (cZ, 35, .inl (fun _ => 0))), (q23, .inl (cI, 30, .inl (fun _ => 0)))] H := hP
  have hD : va_D A [(h, .inr (0, [.ref q7, .ref q15, .ref q23, .null])), (q7, .inl (cD, 35, .inr (.inr (.inr (.inl (fun _ => 0)))))), (q15, .inl (cZ, 35, .inl (fun _ => 0))), (q23, .inl (cI, 30, .inl (fun _ => 0)))] := hD
  refine lv_aload_n hx hb dX0_init_28 rfl (lv_at hl 0 rfl) ?_
  refine lv_bipush (v := nI 6) hx hb dX0_init_29 (by decide) ?_
  refine va_newa (atype := .int) (a0 := (6, .inl (fun _ => 0))) (ty := .int) (N' := 6) hx hb (hts (.arrayClass .int) (by decide +kernel)) rfl hK hP hD hS hA (vcI 6) (nI_pos (by decide)) (nI_clamp (by decide)) (byI 6 (by decide)) (show 3 + 1 ≤ 4 by decide) (show 100 + 6 ≤ 106 by decide) dX0_init_31 (fun q31 cA H hK hP hD hS => ?_)
  have ecA := acI hK 2 4 rfl rfl
  subst ecA
  have hK := hK.sub (tys' := tP cD cZ cI cL) [0, 1, 2, 3] rfl
  have hP : va_P (dC, dI) vwCl [(h, .inr (0, [.ref q7, .ref q15, .ref q23, .null])), (q7, .inl (cD, 35, .inr (.inr (.inr (.inl (fun _ => 0)))))), (q15, .inl (cZ, 35, .inl (fun _ => 0))), (q23, .inl (cI, 30, .inl (fun _ => 0))), (q31, .inl (cI, 6, .inl (fun _ => 0)))] H := hP
  have hD : va_D A [(h, .inr (0, [.ref q7, .ref q15, .ref q23, .null])), (q7, .inl (cD, 35, .inr (.inr (.inr (.inl (fun _ => 0)))))), (q15, .inl (cZ, 35, .inl (fun _ => 0))), (q23, .inl (cI, 30, .inl (fun _ => 0))), (q31, .inl (cI, 6, .inl (fun _ => 0)))] := hD
  refine W.widen (k := 4) (n := 106) (by omega) (by omega) ?_
  refine va_putF (D := (dC, dI)) (ci := 0) (v := .ref q31) (ty := .array .int) (C := RX0) (T := TX0) (N := 4) hx hb hts hin0 tyX0 tyX0_ok nmX0 hown hK hP hD hS 0 rfl rfl 3 (by decide) fl23 (fun _ h9 => h9) rfl hin rfl (by decide +kernel) rfl rfl (Nat.le_of_ble_eq_true rfl) dX0_init_33 (fun H locs hP hD hS => ?_)
  have hP : va_P (dC, dI) vwCl [(h, .inr (0, [.ref q7, .ref q15, .ref q23, .ref q31])), (q7, .inl (cD, 35, .inr (.inr (.inr (.inl (fun _ => 0)))))), (q15, .inl (cZ, 35, .inl (fun _ => 0))), (q23, .inl (cI, 30, .inl (fun _ => 0))), (q31, .inl (cI, 6, .inl (fun _ => 0)))] H := hP
  have hD : va_D A [(h, .inr (0, [.ref q7, .ref q15, .ref q23, .ref q31])), (q7, .inl (cD, 35, .inr (.inr (.inr (.inl (fun _ => 0)))))), (q15, .inl (cZ, 35, .inl (fun _ => 0))), (q23, .inl (cI, 30, .inl (fun _ => 0))), (q31, .inl (cI, 6, .inl (fun _ => 0)))] := hD
  refine lv_aload_n hx hb dX0_init_36 rfl (lv_at hl 0 rfl) ?_
  refine va_get (D := (dC, dI)) (ci := 0) (v := .ref q23) (C := RX0) (T := TX0) (N := 4) hx hb hts hin0 hown hK hP 0 rfl rfl 2 (by decide) fl19 (fun _ h9 => h9) rfl dX0_init_37 ?_
  refine lv_iconst (v := (-1)) hx hb dX0_init_40 (by decide) ?_
  have hPc := hP.sub (ws' := [(q23, .inl (cI, 30, .inl (fun _ => 0)))]) [3] rfl
  have hDc := hD.sub (ws' := [(q23, .inl (cI, 30, .inl (fun _ => 0)))]) [3] (by decide) rfl
  have hFc := va_free (wc := [(q23, .inl (cI, 30, .inl (fun _ => 0)))]) hD hS hA [3] rfl
  refine va_callv (va_runS (As := [.ref q23, .int (-1)]) (rest := []) ⟨hx, hb, hml, hown, hts⟩ (c_J7_fill_53178 l dC dI cD cZ cI cL q23 (fun _ => 0) (-1) H.size) (va_cwS 2 hts gX0_init_J7_fill_53178 rfl rfl rfl (by decide +kernel) ⟨Nat.le_of_ble_eq_true rfl, Nat.le_of_ble_eq_true rfl⟩) (okN_preS hPc hK hDc) rfl rfl hl.1 rfl (lv_room (Nat.le_of_ble_eq_true rfl)) dX0_init_41 ⟨show 4 + 0 ≤ 4 by decide, show 106 + 0 ≤ 106 by decide⟩) hS (fun q _ h => hFc q h) hFc (fun T9 t H1 locs ht hvm hw hB hz1 hk1 hS => ?_)
  obtain ⟨hP1, hK1, hD1⟩ := hB
  rw [ht] at hP1
  obtain ⟨hP, hD⟩ := va_join (wr := [(h, .inr (0, [.ref q7, .ref q15, .ref q23, .ref q31])), (q7, .inl (cD, 35, .inr (.inr (.inr (.inl (fun _ => 0)))))), (q15, .inl (cZ, 35, .inl (fun _ => 0))), (q31, .inl (cI, 6, .inl (fun _ => 0)))]) (w1 := [(q23, .inl (cI, 30, .inl (T9)))]) hP hD [3] [0, 1, 2, 4] rfl rfl (by decide) (by decide) hk1 hFc hP1 hD1
  generalize H1 = H at hP hS ⊢
  have hP : va_P (dC, dI) vwCl [(h, .inr (0, [.ref q7, .ref q15, .ref q23, .ref q31])), (q7, .inl (cD, 35, .inr (.inr (.inr (.inl (fun _ => 0)))))), (q15, .inl (cZ, 35, .inl (fun _ => 0))), (q31, .inl (cI, 6, .inl (fun _ => 0))), (q23, .inl (cI, 30, .inl (T9)))] H := hP
  have hD : va_D A [(h, .inr (0, [.ref q7, .ref q15, .ref q23, .ref q31])), (q7, .inl (cD, 35, .inr (.inr (.inr (.inl (fun _ => 0)))))), (q15, .inl (cZ, 35, .inl (fun _ => 0))), (q31, .inl (cI, 6, .inl (fun _ => 0))), (q23, .inl (cI, 30, .inl (T9)))] := hD
  have hP := hP.sub (ws' := [(h, .inr (0, [.ref q7, .ref q15, .ref q23, .ref q31])), (q7, .inl (cD, 35, .inr (.inr (.inr (.inl (fun _ => 0)))))), (q15, .inl (cZ, 35, .inl (fun _ => 0))), (q23, .inl (cI, 30, .inl (T9))), (q31, .inl (cI, 6, .inl (fun _ => 0)))]) [0, 1, 2, 4, 3] rfl
  have hD := hD.sub (ws' := [(h, .inr (0, [.ref q7, .ref q15, .ref q23, .ref q31])), (q7, .inl (cD, 35, .inr (.inr (.inr (.inl (fun _ => 0)))))), (q15, .inl (cZ, 35, .inl (fun _ => 0))), (q23, .inl (cI, 30, .inl (T9))), (q31, .inl (cI, 6, .inl (fun _ => 0)))]) [0, 1, 2, 4, 3] (by decide) rfl
  exact W.vret hx hb hr (fun t ht hW => ⟨⟨(q7, q15, q23, q31, T9), rfl, hw, by rw [ht]; exact hP, va_K.moved hW.alike hK, hD⟩, hS.F ht⟩) hS.2.2 dX0_init_44
set_option maxHeartbeats 4000000 in
set_option maxRecDepth 100000 in
theorem c_X3_init (l : Launch) (dC : Nat → ClassId) (dI : Nat → Nat → Nat) (cD cZ cI cL : ClassId) (h : Nat) (sz : Nat) : Met l yX3_init wsX3_init ({ frames := 1, cells := 1, slots := 42, locals := 12 }) (va_Pc [.ref h] (fun U => U.heap.size = sz ∧ okN dC dI cD cZ cI cL [(h, .inr (3, [.null]))] U U.heap ∧ va_D (fun _ => True) ([(h, .inr (3, [.null]))]))) (va_Qv (fun u : Nat => True) (fun u t => atN dC dI cD cZ cI cL (va_A ([(h, .inr (3, [.null]))]) sz) (wT cL h u (fun _ => 0)) t) (va_A ([(h, .inr (3, [.null]))]) sz)) 1 42 (va_A ([(h, .inr (3, [.null]))]) sz) := by
  refine Met.ofW (cc := cX3_init) (maxL := 1) (ret := none) (by decide) rfl ?_
  intro p e s m args below meth c s₁ B hml hv
  obtain ⟨rfl, hsz, hO, hD0⟩ := hv
  obtain ⟨hP, hK⟩ := id hO
  have hx := B.exec
  have hb := B.bytes
  have hr := B.returns
  have hts := atoms_spec (ws := wsX3_init) B.pre
  have hown : s.vm.findClass RX3 = some m.cls := findClass_of_methodNamed B.named
  have hlocks := B.notSynchronized
  subst hsz
  have hD := hD0.self (sz := s.heap.size)
  generalize hAe : va_A ([(h, .inr (3, [.null]))]) s.heap.size = A at hD ⊢
  have hA : ∀ q : Nat, s.heap.size ≤ q → A q := fun q h => by rw [← hAe]; exact Or.inr h
  have hS : va_S A s.heap s.heap [] := va_S.rf
  have hP : va_P (dC, dI) vwCl [(h, .inr (3, [.null]))] s.heap := hP
  have hD : va_D A [(h, .inr (3, [.null]))] := hD
  have hin : meth.name = "<init>" := (name_of_methodNamed B.named B.method).1
  have hin3 : ∀ w ∈ wsX30, w ∈ wsX3_init := (fun w h => List.mem_cons_of_mem _ (List.mem_append_right _ h))
  have fl9 := hts (.fieldLink RX3 9 "JuryTable$Total" "digits" "[J") (by decide +kernel)
  have hl := lv_entry ([.ref h]) (n := 1) (Nat.le_of_ble_eq_true rfl)
  rw [lg_entry_eq]
  generalize (lg_sl ([.ref h]) ++ List.replicate (1 - (lg_sl ([.ref h])).length) Slot.unset).toArray = ls at hl ⊢
  have hl : lv_has ls 1 [(0, .ref h)] := hl
  refine lv_aload_n hx hb dX3_init_0 rfl (lv_at hl 0 rfl) ?_
  refine W.objInit hx hb hown (hts (.methodLink RX3 3 objectInit) (by decide +kernel)) (hts (.instanceMethod objectInit) (by decide +kernel)) (hts (.code objectInit ⟨#[0xb1]⟩ 1 none) (List.mem_cons_of_mem _ (List.mem_append_left _ (List.mem_of_getElem? (i := 2) rfl)))) rfl (by rw [hml]; exact hl.1) rfl dX3_init_1 (Nat.le_of_ble_eq_true rfl) (Nat.le_of_ble_eq_true rfl) ?_
  refine W.eq (g2 := F0 m 4 ls []) rfl ?_
  refine lv_aload_n hx hb dX3_init_4 rfl (lv_at hl 0 rfl) ?_
  refine lv_bipush (v := nI 42) hx hb dX3_init_5 (by decide) ?_
  refine va_newa (atype := .long) (a0 := (42, .inr (.inl (fun _ => 0)))) (ty := .long) (N' := 42) hx hb (hts (.arrayClass .long) (by decide +kernel)) rfl hK hP hD hS hA (vcJ 42) (nI_pos (by decide)) (nI_clamp (by decide)) (byJ 42 (by decide)) (show 0 + 1 ≤ 1 by decide) (show 0 + 42 ≤ 42 by decide) dX3_init_7 (fun q7 cA H hK hP hD hS => ?_)
  have ecA := acJ hK 3 4 rfl rfl
  subst ecA
  have hK := hK.sub (tys' := tP cD cZ cI cL) [0, 1, 2, 3] rfl
  have hP : va_P (dC, dI) vwCl [(h, .inr (3, [.null])), (q7, .inl (cL, 42, .inr (.inl (fun _ => 0))))] H := hP
  have hD : va_D A [(h, .inr (3, [.null])), (q7, .inl (cL, 42, .inr (.inl (fun _ => 0))))] := hD
  refine W.widen (k := 1) (n := 42) (by omega) (by omega) ?_
  refine va_putF (D := (dC, dI)) (ci := 3) (v := .ref q7) (ty := .array .long) (C := RX3) (T := TX3) (N := 1) hx hb hts hin3 tyX3 tyX3_ok nmX3 hown hK hP hD hS 0 rfl rfl 0 (by decide) fl9 (fun _ h9 => h9) rfl hin rfl (by decide +kernel) rfl rfl (Nat.le_of_ble_eq_true rfl) dX3_init_9 (fun H locs hP hD hS => ?_)
  have hP : va_P (dC, dI) vwCl [(h, .inr (3, [.ref q7])), (q7, .inl (cL, 42, .inr (.inl (fun _ => 0))))] H := hP
  have hD : va_D A [(h, .inr (3, [.ref q7])), (q7, .inl (cL, 42, .inr (.inl (fun _ => 0))))] := hD
  have hP := hP.sub (ws' := [(h, .inr (3, [.ref q7])), (q7, .inl (cL, 42, .inr (.inl (fun _ => 0))))]) [0, 1] rfl
  have hD := hD.sub (ws' := [(h, .inr (3, [.ref q7])), (q7, .inl (cL, 42, .inr (.inl (fun _ => 0))))]) [0, 1] (by decide) rfl
  exact W.vret hx hb hr (fun t ht hW => ⟨⟨q7, rfl, trivial, by rw [ht]; exact hP, va_K.moved hW.alike hK, hD⟩, hS.F ht⟩) hS.2.2 dX3_init_12
set_option maxHeartbeats 4000000 in
set_option maxRecDepth 100000 in
theorem c_X1_init (l : Launch) (dC : Nat → ClassId) (dI : Nat → Nat → Nat) (cD cZ cI cL : ClassId) (h : Nat) (sz : Nat) : Met l yX1_init wsX1_init ({ frames := 2, cells := 12, slots := 263, locals := 43 }) (va_Pc [.ref h] (fun U => U.heap.size = sz ∧ okN dC dI cD cZ cI cL [(h, .inr (1, [.null, .null, .null, .int (nI (0))]))] U U.heap ∧ va_D (fun _ => True) ([(h, .inr (1, [.null, .null, .null, .int (nI (0))]))]))) (va_Qv (fun u : ((Nat × Nat × Nat × Nat × Nat × (Nat → Int32)) × (Nat × Nat × Nat × Nat × Nat × (Nat → Int32)) × (Nat × Nat)) => (∀ j, j < 30 → u.1.2.2.2.2.2 j = -1) ∧ (∀ j, j < 30 → u.2.1.2.2.2.2.2 j = -1)) (fun u t => atN dC dI cD cZ cI cL (va_A ([(h, .inr (1, [.null, .null, .null, .int (nI (0))]))]) sz) (wJ cD cZ cI cL h u.1.1 u.1.2.1 u.1.2.2.1 u.1.2.2.2.1 u.1.2.2.2.2.1 u.2.1.1 u.2.1.2.1 u.2.1.2.2.1 u.2.1.2.2.2.1 u.2.1.2.2.2.2.1 u.2.2.1 u.2.2.2 (fun _ => 0) (fun _ => 0) u.1.2.2.2.2.2 (fun _ => 0) (fun _ => 0) (fun _ => 0) u.2.1.2.2.2.2.2 (fun _ => 0) (fun _ => 0) 0 true) t) (va_A ([(h, .inr (1, [.null, .null, .null, .int (nI (0))]))]) sz)) 12 263 (va_A ([(h, .inr (1, [.null, .null, .null, .int (nI (0))]))]) sz) := by
  refine Met.ofW (cc := cX1_init) (maxL := 1) (ret := none) (by decide) rfl ?_
  intro p e s m args below meth c s₁ B hml hv
  obtain ⟨rfl, hsz, hO, hD0⟩ := hv
  obtain ⟨hP, hK⟩ := id hO
  have hx := B.exec
  have hb := B.bytes
  have hr := B.returns
  have hts := atoms_spec (ws := wsX1_init) B.pre
  have hown : s.vm.findClass RX1 = some m.cls := findClass_of_methodNamed B.named
  have hlocks := B.notSynchronized
  subst hsz
  have hD := hD0.self (sz := s.heap.size)
  generalize hAe : va_A ([(h, .inr (1, [.null, .null, .null, .int (nI (0))]))]) s.heap.size = A at hD ⊢
  have hA : ∀ q : Nat, s.heap.size ≤ q → A q := fun q h => by rw [← hAe]; exact Or.inr h
  have hS : va_S A s.heap s.heap [] := va_S.rf
  have hP : va_P (dC, dI) vwCl [(h, .inr (1, [.null, .null, .null, .int (nI (0))]))] s.heap := hP
  have hD : va_D A [(h, .inr (1, [.null, .null, .null, .int (nI (0))]))] := hD
  have hin : meth.name = "<init>" := (name_of_methodNamed B.named B.method).1
  have hin0 : ∀ w ∈ wsX00, w ∈ wsX1_init := (fun w h => List.mem_cons_of_mem _ (List.mem_append_left _ (List.mem_append_left _ (List.mem_append_right _ h))))
  have hin1 : ∀ w ∈ wsX10, w ∈ wsX1_init := (fun w h => List.mem_cons_of_mem _ (List.mem_append_left _ (List.mem_append_right _ h)))
  have hin3 : ∀ w ∈ wsX30, w ∈ wsX1_init := (fun w h => List.mem_cons_of_mem _ (List.mem_append_right _ h))
  have fl12 := hts (.fieldLink RX1 12 "JuryTable" "judges" "LJuryTable$Panel;") (by decide +kernel)
  have fl16 := hts (.fieldLink RX1 16 "JuryTable" "scorers" "LJuryTable$Panel;") (by decide +kernel)
  have fl22 := hts (.fieldLink RX1 22 "JuryTable" "total" "LJuryTable$Total;") (by decide +kernel)
  have fl26 := hts (.fieldLink RX1 26 "JuryTable" "entries" "I") (by decide +kernel)
  have hl := lv_entry ([.ref h]) (n := 1) (Nat.le_of_ble_eq_true rfl)
  rw [lg_entry_eq]
  generalize (lg_sl ([.ref h]) ++ List.replicate (1 - (lg_sl ([.ref h])).length) Slot.unset).toArray = ls at hl ⊢
  have hl : lv_has ls 1 [(0, .ref h)] := hl
  refine lv_aload_n hx hb dX1_init_0 rfl (lv_at hl 0 rfl) ?_
  refine W.objInit hx hb hown (hts (.methodLink RX1 3 objectInit) (by decide +kernel)) (hts (.instanceMethod objectInit) (by decide +kernel)) (hts (.code objectInit ⟨#[0xb1]⟩ 1 none) (List.mem_cons_of_mem _ (List.mem_append_left _ (List.mem_append_left _ (List.mem_append_left _ (List.mem_append_left _ (List.mem_of_getElem? (i := 2) rfl))))))) rfl (by rw [hml]; exact hl.1) rfl dX1_init_1 (Nat.le_of_ble_eq_true rfl) (Nat.le_of_ble_eq_true rfl) ?_
  refine W.eq (g2 := F0 m 4 ls []) rfl ?_
  refine lv_aload_n hx hb dX1_init_4 rfl (lv_at hl 0 rfl) ?_
  refine va_new (ci := 0) (fs := [.null, .null, .null, .null]) (C := RX0) (T := TX0) (N := 4) hx hb hts hin0 tyX0 tyX0_ok hown (hts (.classLink RX1 9 RX0) (by decide +kernel)) (hts (.instantiable RX0 4) (by decide +kernel)) (hts (.initialized RX0) (by decide +kernel)) hK hP hD hS hA rfl (fun j hj => by rcases (show j = 0 ∨ j = 1 ∨ j = 2 ∨ j = 3 by omega) with rfl | rfl | rfl | rfl <;> rfl) (show 0 + 1 ≤ 12 by decide) (show 0 + 4 ≤ 263 by decide) dX1_init_5 (fun q5 H hP hD hS => ?_)
  have hP : va_P (dC, dI) vwCl [(h, .inr (1, [.null, .null, .null, .int (nI (0))])), (q5, .inr (0, [.null, .null, .null, .null]))] H := hP
  have hD : va_D A [(h, .inr (1, [.null, .null, .null, .int (nI (0))])), (q5, .inr (0, [.null, .null, .null, .null]))] := hD
  refine W.widen (k := 1) (n := 4) (by omega) (by omega) ?_
  refine lv_dup hx hb dX1_init_8 rfl ?_
  have hPc := hP.sub (ws' := [(q5, .inr (0, [.null, .null, .null, .null]))]) [1] rfl
  have hDc := hD.sub (ws' := [(q5, .inr (0, [.null, .null, .null, .null]))]) [1] (by decide) rfl
  have hFc := va_free (wc := [(q5, .inr (0, [.null, .null, .null, .null]))]) hD hS hA [1] rfl
  refine va_callv (va_runI (As := []) (rest := [.ref q5, .ref h]) ⟨hx, hb, hml, hown, hts⟩ (c_X0_init l dC dI cD cZ cI cL q5 H.size) (cwI 0 hts gX1_init_X0_init rfl rfl rfl (hts (.initialized RX0) (by decide +kernel)) (hts (.methodLink RX1 11 yX0_init) (by decide +kernel)) (hts (.instanceMethod yX0_init) (by decide +kernel)) rfl (by decide +kernel) ⟨Nat.le_of_ble_eq_true rfl, Nat.le_of_ble_eq_true rfl⟩) (okN_preS (As := [.ref q5]) hPc hK hDc) rfl rfl hl.1 rfl (lv_room (Nat.le_of_ble_eq_true rfl)) dX1_init_9 ⟨show 1 + 4 ≤ 12 by decide, show 4 + 106 ≤ 263 by decide⟩) hS (fun q _ h => hFc q h) hFc (fun u1 t H1 locs ht hvm hw1 hB hz1 hk1 hS => ?_)
  obtain ⟨a1, b1, c1, d1, T1⟩ := u1
  obtain ⟨hP1, hK1, hD1⟩ := hB
  rw [ht] at hP1
  obtain ⟨hP, hD⟩ := va_join (wr := [(h, .inr (1, [.null, .null, .null, .int (nI (0))]))]) (w1 := [(q5, .inr (0, [.ref a1, .ref b1, .ref c1, .ref d1])), (a1, .inl (cD, 35, .inr (.inr (.inr (.inl (fun _ => 0)))))), (b1, .inl (cZ, 35, .inl (fun _ => 0))), (c1, .inl (cI, 30, .inl (T1))), (d1, .inl (cI, 6, .inl (fun _ => 0)))]) hP hD [1] [0] rfl rfl (by decide) (by decide) hk1 hFc hP1 hD1
  generalize H1 = H at hP hS ⊢
  have hP : va_P (dC, dI) vwCl [(h, .inr (1, [.null, .null, .null, .int (nI (0))])), (q5, .inr (0, [.ref a1, .ref b1, .ref c1, .ref d1])), (a1, .inl (cD, 35, .inr (.inr (.inr (.inl (fun _ => 0)))))), (b1, .inl (cZ, 35, .inl (fun _ => 0))), (c1, .inl (cI, 30, .inl (T1))), (d1, .inl (cI, 6, .inl (fun _ => 0)))] H := hP
  have hD : va_D A [(h, .inr (1, [.null, .null, .null, .int (nI (0))])), (q5, .inr (0, [.ref a1, .ref b1, .ref c1, .ref d1])), (a1, .inl (cD, 35, .inr (.inr (.inr (.inl (fun _ => 0)))))), (b1, .inl (cZ, 35, .inl (fun _ => 0))), (c1, .inl (cI, 30, .inl (T1))), (d1, .inl (cI, 6, .inl (fun _ => 0)))] := hD
  refine W.widen (k := 5) (n := 110) (by omega) (by omega) ?_
  refine va_putF (D := (dC, dI)) (ci := 1) (v := .ref q5) (ty := .object "JuryTable$Panel") (C := RX1) (T := TX1) (N := 4) hx hb hts hin1 tyX1 tyX1_ok nmX1 hown hK hP hD hS 0 rfl rfl 0 (by decide) fl12 (fun _ h9 => h9) rfl hin rfl (by decide +kernel) rfl rfl (Nat.le_of_ble_eq_true rfl) dX1_init_12 (fun H locs hP hD hS => ?_)
  have hP : va_P (dC, dI) vwCl [(h, .inr (1, [.ref q5, .null, .null, .int (nI (0))])), (q5, .inr (0, [.ref a1, .ref b1, .ref c1, .ref d1])), (a1, .inl (cD, 35, .inr (.inr (.inr (.inl (fun _ => 0)))))), (b1, .inl (cZ, 35, .inl (fun _ => 0))), (c1, .inl (cI, 30, .inl (T1))), (d1, .inl (cI, 6, .inl (fun _ => 0)))] H := hP
  have hD : va_D A [(h, .inr (1, [.ref q5, .null, .null, .int (nI (0))])), (q5, .inr (0, [.ref a1, .ref b1, .ref c1, .ref d1])), (a1, .inl (cD, 35, .inr (.inr (.inr (.inl (fun _ => 0)))))), (b1, .inl (cZ, 35, .inl (fun _ => 0))), (c1, .inl (cI, 30, .inl (T1))), (d1, .inl (cI, 6, .inl (fun _ => 0)))] := hD
  refine lv_aload_n hx hb dX1_init_15 rfl (lv_at hl 0 rfl) ?_
  refine va_new (ci := 0) (fs := [.null, .null, .null, .null]) (C := RX0) (T := TX0) (N := 4) hx hb hts hin0 tyX0 tyX0_ok hown (hts (.classLink RX1 9 RX0) (by decide +kernel)) (hts (.instantiable RX0 4) (by decide +kernel)) (hts (.initialized RX0) (by decide +kernel)) hK hP hD hS hA rfl (fun j hj => by rcases (show j = 0 ∨ j = 1 ∨ j = 2 ∨ j = 3 by omega) with rfl | rfl | rfl | rfl <;> rfl) (show 5 + 1 ≤ 12 by decide) (show 110 + 4 ≤ 263 by decide) dX1_init_16 (fun q16 H hP hD hS => ?_)
  have hP : va_P (dC, dI) vwCl [(h, .inr (1, [.ref q5, .null, .null, .int (nI (0))])), (q5, .inr (0, [.ref a1, .ref b1, .ref c1, .ref d1])), (a1, .inl (cD, 35, .inr (.inr (.inr (.inl (fun _ => 0)))))), (b1, .inl (cZ, 35, .inl (fun _ => 0))), (c1, .inl (cI, 30, .inl (T1))), (d1, .inl (cI, 6, .inl (fun _ => 0))), (q16, .inr (0, [.null, .null, .null, .null]))] H := hP
  have hD : va_D A [(h, .inr (1, [.ref q5, .null, .null, .int (nI (0))])), (q5, .inr (0, [.ref a1, .ref b1, .ref c1, .ref d1])), (a1, .inl (cD, 35, .inr (.inr (.inr (.inl (fun _ => 0)))))), (b1, .inl (cZ, 35, .inl (fun _ => 0))), (c1, .inl (cI, 30, .inl (T1))), (d1, .inl (cI, 6, .inl (fun _ => 0))), (q16, .inr (0, [.null, .null, .null, .null]))] := hD
  refine W.widen (k := 6) (n := 114) (by omega) (by omega) ?_
  refine lv_dup hx hb dX1_init_19 rfl ?_
  have hPc := hP.sub (ws' := [(q16, .inr (0, [.null, .null, .null, .null]))]) [6] rfl
  have hDc := hD.sub (ws' := [(q16, .inr (0, [.null, .null, .null, .null]))]) [6] (by decide) rfl
  have hFc := va_free (wc := [(q16, .inr (0, [.null, .null, .null, .null]))]) hD hS hA [6] rfl
  refine va_callv (va_runI (As := []) (rest := [.ref q16, .ref h]) ⟨hx, hb, hml, hown, hts⟩ (c_X0_init l dC dI cD cZ cI cL q16 H.size) (cwI 0 hts gX1_init_X0_init rfl rfl rfl (hts (.initialized RX0) (by decide +kernel)) (hts (.methodLink RX1 11 yX0_init) (by decide +kernel)) (hts (.instanceMethod yX0_init) (by decide +kernel)) rfl (by decide +kernel) ⟨Nat.le_of_ble_eq_true rfl, Nat.le_of_ble_eq_true rfl⟩) (okN_preS (As := [.ref q16]) hPc hK hDc) rfl rfl hl.1 rfl (lv_room (Nat.le_of_ble_eq_true rfl)) dX1_init_20 ⟨show 6 + 4 ≤ 12 by decide, show 114 + 106 ≤ 263 by decide⟩) hS (fun q _ h => hFc q h) hFc (fun u2 t H1 locs ht hvm hw2 hB hz1 hk1 hS => ?_)
  obtain ⟨a2, b2, c2, d2, T2⟩ := u2
  obtain ⟨hP1, hK1, hD1⟩ := hB
  rw [ht] at hP1
  obtain ⟨hP, hD⟩ := va_join (wr := [(h, .inr (1, [.ref q5, .null, .null, .int (nI (0))])), (q5, .inr (0, [.ref a1, .ref b1, .ref c1, .ref d1])), (a1, .inl (cD, 35, .inr (.inr (.inr (.inl (fun _ => 0)))))), (b1, .inl (cZ, 35, .inl (fun _ => 0))), (c1, .inl (cI, 30, .inl (T1))), (d1, .inl (cI, 6, .inl (fun _ => 0)))]) (w1 := [(q16, .inr (0, [.ref a2, .ref b2, .ref c2, .ref d2])), (a2, .inl (cD, 35, .inr (.inr (.inr (.inl (fun _ => 0)))))), (b2, .inl (cZ, 35, .inl (fun _ => 0))), (c2, .inl (cI, 30, .inl (T2))), (d2, .inl (cI, 6, .inl (fun _ => 0)))]) hP hD [6] [0, 1, 2, 3, 4, 5] rfl rfl (by decide) (by decide) hk1 hFc hP1 hD1
  generalize H1 = H at hP hS ⊢
  have hP : va_P (dC, dI) vwCl [(h, .inr (1, [.ref q5, .null, .null, .int (nI (0))])), (q5, .inr (0, [.ref a1, .ref b1, .ref c1, .ref d1])), (a1, .inl (cD, 35, .inr (.inr (.inr (.inl (fun _ => 0)))))), (b1, .inl (cZ, 35, .inl (fun _ => 0))), (c1, .inl (cI, 30, .inl (T1))), (d1, .inl (cI, 6, .inl (fun _ => 0))), (q16, .inr (0, [.ref a2, .ref b2, .ref c2, .ref d2])), (a2, .inl (cD, 35, .inr (.inr (.inr (.inl (fun _ => 0)))))), (b2, .inl (cZ, 35, .inl (fun _ => 0))), (c2, .inl (cI, 30, .inl (T2))), (d2, .inl (cI, 6, .inl (fun _ => 0)))] H := hP
  have hD : va_D A [(h, .inr (1, [.ref q5, .null, .null, .int (nI (0))])), (q5, .inr (0, [.ref a1, .ref b1, .ref c1, .ref d1])), (a1, .inl (cD, 35, .inr (.inr (.inr (.inl (fun _ => 0)))))), (b1, .inl (cZ, 35, .inl (fun _ => 0))), (c1, .inl (cI, 30, .inl (T1))), (d1, .inl (cI, 6, .inl (fun _ => 0))), (q16, .inr (0, [.ref a2, .ref b2, .ref c2, .ref d2])), (a2, .inl (cD, 35, .inr (.inr (.inr (.inl (fun _ => 0)))))), (b2, .inl (cZ, 35, .inl (fun _ => 0))), (c2, .inl (cI, 30, .inl (T2))), (d2, .inl (cI, 6, .inl (fun _ => 0)))] := hD
  refine W.widen (k := 10) (n := 220) (by omega) (by omega) ?_
  refine va_putF (D := (dC, dI)) (ci := 1) (v := .ref q16) (ty := .object "JuryTable$Panel") (C := RX1) (T := TX1) (N := 4) hx hb hts hin1 tyX1 tyX1_ok nmX1 hown hK hP hD hS 0 rfl rfl 1 (by decide) fl16 (fun _ h9 => h9) rfl hin rfl (by decide +kernel) rfl rfl (Nat.le_of_ble_eq_true rfl) dX1_init_23 (fun H locs hP hD hS => ?_)
  have hP : va_P (dC, dI) vwCl [(h, .inr (1, [.ref q5, .ref q16, .null, .int (nI (0))])), (q5, .inr (0, [.ref a1, .ref b1, .ref c1, .ref d1])), (a1, .inl (cD, 35, .inr (.inr (.inr (.inl (fun _ => 0)))))), (b1, .inl (cZ, 35, .inl (fun _ => 0))), (c1, .inl (cI, 30, .inl (T1))), (d1, .inl (cI, 6, .inl (fun _ => 0))), (q16, .inr (0, [.ref a2, .ref b2, .ref c2, .ref d2])), (a2, .inl (cD, 35, .inr (.inr (.inr (.inl (fun _ => 0)))))), (b2, .inl (cZ, 35, .inl (fun _ => 0))), (c2, .inl (cI, 30, .inl (T2))), (d2, .inl (cI, 6, .inl (fun _ => 0)))] H := hP
  have hD : va_D A [(h, .inr (1, [.ref q5, .ref q16, .null, .int (nI (0))])), (q5, .inr (0, [.ref a1, .ref b1, .ref c1, .ref d1])), (a1, .inl (cD, 35, .inr (.inr (.inr (.inl (fun _ => 0)))))), (b1, .inl (cZ, 35, .inl (fun _ => 0))), (c1, .inl (cI, 30, .inl (T1))), (d1, .inl (cI, 6, .inl (fun _ => 0))), (q16, .inr (0, [.ref a2, .ref b2, .ref c2, .ref d2])), (a2, .inl (cD, 35, .inr (.inr (.inr (.inl (fun _ => 0)))))), (b2, .inl (cZ, 35, .inl (fun _ => 0))), (c2, .inl (cI, 30, .inl (T2))), (d2, .inl (cI, 6, .inl (fun _ => 0)))] := hD
  refine lv_aload_n hx hb dX1_init_26 rfl (lv_at hl 0 rfl) ?_
  refine va_new (ci := 3) (fs := [.null]) (C := RX3) (T := TX3) (N := 1) hx hb hts hin3 tyX3 tyX3_ok hown (hts (.classLink RX1 19 RX3) (by decide +kernel)) (hts (.instantiable RX3 1) (by decide +kernel)) (hts (.initialized RX3) (by decide +kernel)) hK hP hD hS hA rfl (fun j hj => by rcases (show j = 0 by omega) with rfl <;> rfl) (show 10 + 1 ≤ 12 by decide) (show 220 + 1 ≤ 263 by decide) dX1_init_27 (fun q27 H hP hD hS => ?_)
  have hP : va_P (dC, dI) vwCl [(h, .inr (1, [.ref q5, .ref q16, .null, .int (nI (0))])), (q5, .inr (0, [.ref a1, .ref b1, .ref c1, .ref d1])), (a1, .inl (cD, 35, .inr (.inr (.inr (.inl (fun _ => 0)))))), (b1, .inl (cZ, 35, .inl (fun _ => 0))), (c1, .inl (cI, 30, .inl (T1))), (d1, .inl (cI, 6, .inl (fun _ => 0))), (q16, .inr (0, [.ref a2, .ref b2, .ref c2, .ref d2])), (a2, .inl (cD, 35, .inr (.inr (.inr (.inl (fun _ => 0)))))), (b2, .inl (cZ, 35, .inl (fun _ => 0))), (c2, .inl (cI, 30, .inl (T2))), (d2, .inl (cI, 6, .inl (fun _ => 0))), (q27, .inr (3, [.null]))] H := hP
  have hD : va_D A [(h, .inr (1, [.ref q5, .ref q16, .null, .int (nI (0))])), (q5, .inr (0, [.ref a1, .ref b1, .ref c1, .ref d1])), (a1, .inl (cD, 35, .inr (.inr (.inr (.inl (fun _ => 0)))))), (b1, .inl (cZ, 35, .inl (fun _ => 0))), (c1, .inl (cI, 30, .inl (T1))), (d1, .inl (cI, 6, .inl (fun _ => 0))), (q16, .inr (0, [.ref a2, .ref b2, .ref c2, .ref d2])), (a2, .inl (cD, 35, .inr (.inr (.inr (.inl (fun _ => 0)))))), (b2, .inl (cZ, 35, .inl (fun _ => 0))), (c2, .inl (cI, 30, .inl (T2))), (d2, .inl (cI, 6, .inl (fun _ => 0))), (q27, .inr (3, [.null]))] := hD
  refine W.widen (k := 11) (n := 221) (by omega) (by omega) ?_
  refine lv_dup hx hb dX1_init_30 rfl ?_
  have hPc := hP.sub (ws' := [(q27, .inr (3, [.null]))]) [11] rfl
  have hDc := hD.sub (ws' := [(q27, .inr (3, [.null]))]) [11] (by decide) rfl
  have hFc := va_free (wc := [(q27, .inr (3, [.null]))]) hD hS hA [11] rfl
  refine va_callv (va_runI (As := []) (rest := [.ref q27, .ref h]) ⟨hx, hb, hml, hown, hts⟩ (c_X3_init l dC dI cD cZ cI cL q27 H.size) (cwI 0 hts gX1_init_X3_init rfl rfl rfl (hts (.initialized RX3) (by decide +kernel)) (hts (.methodLink RX1 21 yX3_init) (by decide +kernel)) (hts (.instanceMethod yX3_init) (by decide +kernel)) rfl (by decide +kernel) ⟨Nat.le_of_ble_eq_true rfl, Nat.le_of_ble_eq_true rfl⟩) (okN_preS (As := [.ref q27]) hPc hK hDc) rfl rfl hl.1 rfl (lv_room (Nat.le_of_ble_eq_true rfl)) dX1_init_31 ⟨show 11 + 1 ≤ 12 by decide, show 221 + 42 ≤ 263 by decide⟩) hS (fun q _ h => hFc q h) hFc (fun t3 t H1 locs ht hvm hw3 hB hz1 hk1 hS => ?_)
  obtain ⟨hP1, hK1, hD1⟩ := hB
  rw [ht] at hP1
  obtain ⟨hP, hD⟩ := va_join (wr := [(h, .inr (1, [.ref q5, .ref q16, .null, .int (nI (0))])), (q5, .inr (0, [.ref a1, .ref b1, .ref c1, .ref d1])), (a1, .inl (cD, 35, .inr (.inr (.inr (.inl (fun _ => 0)))))), (b1, .inl (cZ, 35, .inl (fun _ => 0))), (c1, .inl (cI, 30, .inl (T1))), (d1, .inl (cI, 6, .inl (fun _ => 0))), (q16, .inr (0, [.ref a2, .ref b2, .ref c2, .ref d2])), (a2, .inl (cD, 35, .inr (.inr (.inr (.inl (fun _ => 0)))))), (b2, .inl (cZ, 35, .inl (fun _ => 0))), (c2, .inl (cI, 30, .inl (T2))), (d2, .inl (cI, 6, .inl (fun _ => 0)))]) (w1 := [(q27, .inr (3, [.ref t3])), (t3, .inl (cL, 42, .inr (.inl (fun _ => 0))))]) hP hD [11] [0, 1, 2, 3, 4, 5, 6, 7, 8, 9, 10] rfl rfl (by decide) (by decide) hk1 hFc hP1 hD1
  generalize H1 = H at hP hS ⊢
  have hP : va_P (dC, dI) vwCl [(h, .inr (1, [.ref q5, .ref q16, .null, .int (nI (0))])), (q5, .inr (0, [.ref a1, .ref b1, .ref c1, .ref d1])), (a1, .inl (cD, 35, .inr (.inr (.inr (.inl (fun _ => 0)))))), (b1, .inl (cZ, 35, .inl (fun _ => 0))), (c1, .inl (cI, 30, .inl (T1))), (d1, .inl (cI, 6, .inl (fun _ => 0))), (q16, .inr (0, [.ref a2, .ref b2, .ref c2, .ref d2])), (a2, .inl (cD, 35, .inr (.inr (.inr (.inl (fun _ => 0)))))), (b2, .inl (cZ, 35, .inl (fun _ => 0))), (c2, .inl (cI, 30, .inl (T2))), (d2, .inl (cI, 6, .inl (fun _ => 0))), (q27, .inr (3, [.ref t3])), (t3, .inl (cL, 42, .inr (.inl (fun _ => 0))))] H := hP
  have hD : va_D A [(h, .inr (1, [.ref q5, .ref q16, .null, .int (nI (0))])), (q5, .inr (0, [.ref a1, .ref b1, .ref c1, .ref d1])), (a1, .inl (cD, 35, .inr (.inr (.inr (.inl (fun _ => 0)))))), (b1, .inl (cZ, 35, .inl (fun _ => 0))), (c1, .inl (cI, 30, .inl (T1))), (d1, .inl (cI, 6, .inl (fun _ => 0))), (q16, .inr (0, [.ref a2, .ref b2, .ref c2, .ref d2])), (a2, .inl (cD, 35, .inr (.inr (.inr (.inl (fun _ => 0)))))), (b2, .inl (cZ, 35, .inl (fun _ => 0))), (c2, .inl (cI, 30, .inl (T2))), (d2, .inl (cI, 6, .inl (fun _ => 0))), (q27, .inr (3, [.ref t3])), (t3, .inl (cL, 42, .inr (.inl (fun _ => 0))))] := hD
  refine W.widen (k := 12) (n := 263) (by omega) (by omega) ?_
  refine va_putF (D := (dC, dI)) (ci := 1) (v := .ref q27) (ty := .object "JuryTable$Total") (C := RX1) (T := TX1) (N := 4) hx hb hts hin1 tyX1 tyX1_ok nmX1 hown hK hP hD hS 0 rfl rfl 2 (by decide) fl22 (fun _ h9 => h9) rfl hin rfl (by decide +kernel) rfl rfl (Nat.le_of_ble_eq_true rfl) dX1_init_34 (fun H locs hP hD hS => ?_)
  have hP : va_P (dC, dI) vwCl [(h, .inr (1, [.ref q5, .ref q16, .ref q27, .int (nI (0))])), (q5, .inr (0, [.ref a1, .ref b1, .ref c1, .ref d1])), (a1, .inl (cD, 35, .inr (.inr (.inr (.inl (fun _ => 0)))))), (b1, .inl (cZ, 35, .inl (fun _ => 0))), (c1, .inl (cI, 30, .inl (T1))), (d1, .inl (cI, 6, .inl (fun _ => 0))), (q16, .inr (0, [.ref a2, .ref b2, .ref c2, .ref d2])), (a2, .inl (cD, 35, .inr (.inr (.inr (.inl (fun _ => 0)))))), (b2, .inl (cZ, 35, .inl (fun _ => 0))), (c2, .inl (cI, 30, .inl (T2))), (d2, .inl (cI, 6, .inl (fun _ => 0))), (q27, .inr (3, [.ref t3])), (t3, .inl (cL, 42, .inr (.inl (fun _ => 0))))] H := hP
  have hD : va_D A [(h, .inr (1, [.ref q5, .ref q16, .ref q27, .int (nI (0))])), (q5, .inr (0, [.ref a1, .ref b1, .ref c1, .ref d1])), (a1, .inl (cD, 35, .inr (.inr (.inr (.inl (fun _ => 0)))))), (b1, .inl (cZ, 35, .inl (fun _ => 0))), (c1, .inl (cI, 30, .inl (T1))), (d1, .inl (cI, 6, .inl (fun _ => 0))), (q16, .inr (0, [.ref a2, .ref b2, .ref c2, .ref d2])), (a2, .inl (cD, 35, .inr (.inr (.inr (.inl (fun _ => 0)))))), (b2, .inl (cZ, 35, .inl (fun _ => 0))), (c2, .inl (cI, 30, .inl (T2))), (d2, .inl (cI, 6, .inl (fun _ => 0))), (q27, .inr (3, [.ref t3])), (t3, .inl (cL, 42, .inr (.inl (fun _ => 0))))] := hD
  refine lv_aload_n hx hb dX1_init_37 rfl (lv_at hl 0 rfl) ?_
  refine lv_iconst (v := nI 0) hx hb dX1_init_38 (by decide) ?_
  refine va_put (D := (dC, dI)) (ci := 1) (v := .int (nI (0))) (ty := .int) (C := RX1) (T := TX1) (N := 4) hx hb hts hin1 tyX1 tyX1_ok nmX1 hown hK hP hD hS 0 rfl rfl 3 (by decide) fl26 (fun _ h9 => h9) rfl (by decide +kernel) rfl rfl (Nat.le_of_ble_eq_true rfl) dX1_init_39 (fun H locs hP hD hS => ?_)
  have hP : va_P (dC, dI) vwCl [(h, .inr (1, [.ref q5, .ref q16, .ref q27, .int (nI (0))])), (q5, .inr (0, [.ref a1, .ref b1, .ref c1, .ref d1])), (a1, .inl (cD, 35, .inr (.inr (.inr (.inl (fun _ => 0)))))), (b1, .inl (cZ, 35, .inl (fun _ => 0))), (c1, .inl (cI, 30, .inl (T1))), (d1, .inl (cI, 6, .inl (fun _ => 0))), (q16, .inr (0, [.ref a2, .ref b2, .ref c2, .ref d2])), (a2, .inl (cD, 35, .inr (.inr (.inr (.inl (fun _ => 0)))))), (b2, .inl (cZ, 35, .inl (fun _ => 0))), (c2, .inl (cI, 30, .inl (T2))), (d2, .inl (cI, 6, .inl (fun _ => 0))), (q27, .inr (3, [.ref t3])), (t3, .inl (cL, 42, .inr (.inl (fun _ => 0))))] H := hP
  have hD : va_D A [(h, .inr (1, [.ref q5, .ref q16, .ref q27, .int (nI (0))])), (q5, .inr (0, [.ref a1, .ref b1, .ref c1, .ref d1])), (a1, .inl (cD, 35, .inr (.inr (.inr (.inl (fun _ => 0)))))), (b1, .inl (cZ, 35, .inl (fun _ => 0))), (c1, .inl (cI, 30, .inl (T1))), (d1, .inl (cI, 6, .inl (fun _ => 0))), (q16, .inr (0, [.ref a2, .ref b2, .ref c2, .ref d2])), (a2, .inl (cD, 35, .inr (.inr (.inr (.inl (fun _ => 0)))))), (b2, .inl (cZ, 35, .inl (fun _ => 0))), (c2, .inl (cI, 30, .inl (T2))), (d2, .inl (cI, 6, .inl (fun _ => 0))), (q27, .inr (3, [.ref t3])), (t3, .inl (cL, 42, .inr (.inl (fun _ => 0))))] := hD
  have hP := hP.sub (ws' := [(h, .inr (1, [.ref q5, .ref q16, .ref q27, .int (nI (0))])), (q5, .inr (0, [.ref a1, .ref b1, .ref c1, .ref d1])), (a1, .inl (cD, 35, .inr (.inr (.inr (.inl (fun _ => 0)))))), (b1, .inl (cZ, 35, .inl (fun _ => 0))), (c1, .inl (cI, 30, .inl (T1))), (d1, .inl (cI, 6, .inl (fun _ => 0))), (q16, .inr (0, [.ref a2, .ref b2, .ref c2, .ref d2])), (a2, .inl (cD, 35, .inr (.inr (.inr (.inl (fun _ => 0)))))), (b2, .inl (cZ, 35, .inl (fun _ => 0))), (c2, .inl (cI, 30, .inl (T2))), (d2, .inl (cI, 6, .inl (fun _ => 0))), (q27, .inr (3, [.ref t3])), (t3, .inl (cL, 42, .inr (.inl (fun _ => 0))))]) [0, 1, 2, 3, 4, 5, 6, 7, 8, 9, 10, 11, 12] rfl
  have hD := hD.sub (ws' := [(h, .inr (1, [.ref q5, .ref q16, .ref q27, .int (nI (0))])), (q5, .inr (0, [.ref a1, .ref b1, .ref c1, .ref d1])), (a1, .inl (cD, 35, .inr (.inr (.inr (.inl (fun _ => 0)))))), (b1, .inl (cZ, 35, .inl (fun _ => 0))), (c1, .inl (cI, 30, .inl (T1))), (d1, .inl (cI, 6, .inl (fun _ => 0))), (q16, .inr (0, [.ref a2, .ref b2, .ref c2, .ref d2])), (a2, .inl (cD, 35, .inr (.inr (.inr (.inl (fun _ => 0)))))), (b2, .inl (cZ, 35, .inl (fun _ => 0))), (c2, .inl (cI, 30, .inl (T2))), (d2, .inl (cI, 6, .inl (fun _ => 0))), (q27, .inr (3, [.ref t3])), (t3, .inl (cL, 42, .inr (.inl (fun _ => 0))))]) [0, 1, 2, 3, 4, 5, 6, 7, 8, 9, 10, 11, 12] (by decide) rfl
  exact W.vret hx hb hr (fun t ht hW => ⟨⟨((q5, a1, b1, c1, d1, T1), (q16, a2, b2, c2, d2, T2), (q27, t3)), rfl, ⟨hw1, hw2⟩, by rw [ht]; exact hP, va_K.moved hW.alike hK, hD⟩, hS.F ht⟩) hS.2.2 dX1_init_42
set_option maxHeartbeats 4000000 in
set_option maxRecDepth 100000 in
theorem c_X2_init (l : Launch) (dC : Nat → ClassId) (dI : Nat → Nat → Nat) (cD cZ cI cL : ClassId) (h : Nat) (sz : Nat) : Met l yX2_init wsX2_init ({ frames := 1, cells := 4, slots := 206, locals := 12 }) (va_Pc [.ref h] (fun U => U.heap.size = sz ∧ okN dC dI cD cZ cI cL [(h, .inr (2, [.null, .null, .null, .null, .int (nI (0)), .int (nI (0))]))] U U.heap ∧ va_D (fun _ => True) ([(h, .inr (2, [.null, .null, .null, .null, .int (nI (0)), .int (nI (0))]))]))) (va_Qv (fun u : (Nat × Nat × Nat × Nat × (Nat → Int32)) => ∀ j, j < 60 → u.2.2.2.2 j = -1) (fun u t => atN dC dI cD cZ cI cL (va_A ([(h, .inr (2, [.null, .null, .null, .null, .int (nI (0)), .int (nI (0))]))]) sz) (wM cD cZ cI cL h u.1 u.2.1 u.2.2.1 u.2.2.2.1 (fun _ => 0) (fun _ => 0) u.2.2.2.2 (fun _ => 0) 0 (nI 0)) t) (va_A ([(h, .inr (2, [.null, .null, .null, .null, .int (nI (0)), .int (nI (0))]))]) sz)) 4 206 (va_A ([(h, .inr (2, [.null, .null, .null, .null, .int (nI (0)), .int (nI (0))]))]) sz) := by
  refine Met.ofW (cc := cX2_init) (maxL := 2) (ret := none) (by decide) rfl ?_
  intro p e s m args below meth c s₁ B hml hv
  obtain ⟨rfl, hsz, hO, hD0⟩ := hv
  obtain ⟨hP, hK⟩ := id hO
  have hx := B.exec
  have hb := B.bytes
  have hr := B.returns
  have hts := atoms_spec (ws := wsX2_init) B.pre
  have hown : s.vm.findClass RX2 = some m.cls := findClass_of_methodNamed B.named
  have hlocks := B.notSynchronized
  subst hsz
  have hD := hD0.self (sz := s.heap.size)
  generalize hAe : va_A ([(h, .inr (2, [.null, .null, .null, .null, .int (nI (0)), .int (nI (0))]))]) s.heap.size = A at hD ⊢
  have hA : ∀ q : Nat, s.heap.size ≤ q → A q := fun q h => by rw [← hAe]; exact Or.inr h
  have hS : va_S A s.heap s.heap [] := va_S.rf
  have hP : va_P (dC, dI) vwCl [(h, .inr (2, [.null, .null, .null, .null, .int (nI (0)), .int (nI (0))]))] s.heap := hP
  have hD : va_D A [(h, .inr (2, [.null, .null, .null, .null, .int (nI (0)), .int (nI (0))]))] := hD
  have hin : meth.name = "<init>" := (name_of_methodNamed B.named B.method).1
  have hin2 : ∀ w ∈ wsX20, w ∈ wsX2_init := (fun w h => List.mem_cons_of_mem _ (List.mem_append_right _ h))
  have fl7 := hts (.fieldLink RX2 7 "JuryTableModel" "number" "[D") (by decide +kernel)
  have fl13 := hts (.fieldLink RX2 13 "JuryTableModel" "isThere" "[Z") (by decide +kernel)
  have fl17 := hts (.fieldLink RX2 17 "JuryTableModel" "truth" "[I") (by decide +kernel)
  have fl21 := hts (.fieldLink RX2 21 "JuryTableModel" "row" "[I") (by decide +kernel)
  have hl := lv_entry ([.ref h]) (n := 2) (Nat.le_of_ble_eq_true rfl)
  rw [lg_entry_eq]
  generalize (lg_sl ([.ref h]) ++ List.replicate (2 - (lg_sl ([.ref h])).length) Slot.unset).toArray = ls at hl ⊢
  have hl : lv_has ls 2 [(0, .ref h)] := hl
  refine lv_aload_n hx hb dX2_init_0 rfl (lv_at hl 0 rfl) ?_
  refine W.objInit hx hb hown (hts (.methodLink RX2 1 objectInit) (by decide +kernel)) (hts (.instanceMethod objectInit) (by decide +kernel)) (hts (.code objectInit ⟨#[0xb1]⟩ 1 none) (List.mem_cons_of_mem _ (List.mem_append_left _ (List.mem_of_getElem? (i := 2) rfl)))) rfl (by rw [hml]; exact hl.1) rfl dX2_init_1 (Nat.le_of_ble_eq_true rfl) (Nat.le_of_ble_eq_true rfl) ?_
  refine W.eq (g2 := F0 m 4 ls []) rfl ?_
  refine lv_aload_n hx hb dX2_init_4 rfl (lv_at hl 0 rfl) ?_
  refine lv_bipush (v := nI 70) hx hb dX2_init_5 (by decide) ?_
  refine va_newa (atype := .double) (a0 := (70, .inr (.inr (.inr (.inl (fun _ => 0)))))) (ty := .double) (N' := 70) hx hb (hts (.arrayClass .double) (by decide +kernel)) rfl hK hP hD hS hA (vcD 70) (nI_pos (by decide)) (nI_clamp (by decide)) (byD 70 (by decide)) (show 0 + 1 ≤ 4 by decide) (show 0 + 70 ≤ 206 by decide) dX2_init_7 (fun q7 cA H hK hP hD hS => ?_)
  have ecA := acD hK 0 4 rfl rfl
  subst ecA
  have hK := hK.sub (tys' := tP cD cZ cI cL) [0, 1, 2, 3] rfl
  have hP : va_P (dC, dI) vwCl [(h, .inr (2, [.null, .null, .null, .null, .int (nI (0)), .int (nI (0))])), (q7, .inl (cD, 70, .inr (.inr (.inr (.inl (fun _ => 0))))))] H := hP
  have hD : va_D A [(h, .inr (2, [.null, .null, .null, .null, .int (nI (0)), .int (nI (0))])), (q7, .inl (cD, 70, .inr (.inr (.inr (.inl (fun _ => 0))))))] := hD
  refine W.widen (k := 1) (n := 70) (by omega) (by omega) ?_
  refine va_putF (D := (dC, dI)) (ci := 2) (v := .ref q7) (ty := .array .double) (C := RX2) (T := TX2) (N := 6) hx hb hts hin2 tyX2 tyX2_ok nmX2 hown hK hP hD hS 0 rfl rfl 0 (by decide) fl7 (fun _ h9 => h9) rfl hin rfl (by decide +kernel) rfl rfl (Nat.le_of_ble_eq_true rfl) dX2_init_9 (fun H locs hP hD hS => ?_)
  have hP : va_P (dC, dI) vwCl [(h, .inr (2, [.ref q7, .null, .null, .null, .int (nI (0)), .int (nI (0))])), (q7, .inl (cD, 70, .inr (.inr (.inr (.inl (fun _ => 0))))))] H := hP
  have hD : va_D A [(h, .inr (2, [.ref q7, .null, .null, .null, .int (nI (0)), .int (nI (0))])), (q7, .inl (cD, 70, .inr (.inr (.inr (.inl (fun _ => 0))))))] := hD
  refine lv_aload_n hx hb dX2_init_12 rfl (lv_at hl 0 rfl) ?_
  refine lv_bipush (v := nI 70) hx hb dX2_init_13 (by decide) ?_
  refine va_newa (atype := .boolean) (a0 := (70, .inl (fun _ => 0))) (ty := .boolean) (N' := 70) hx hb (hts (.arrayClass .boolean) (by decide +kernel)) rfl hK hP hD hS hA (vcZ 70) (nI_pos (by decide)) (nI_clamp (by decide)) (byZ 70 (by decide)) (show 1 + 1 ≤ 4 by decide) (show 70 + 70 ≤ 206 by decide) dX2_init_15 (fun q15 cA H hK hP hD hS => ?_)
  have ecA := acZ hK 1 4 rfl rfl
  subst ecA
  have hK := hK.sub (tys' := tP cD cZ cI cL) [0, 1, 2, 3] rfl
  have hP : va_P (dC, dI) vwCl [(h, .inr (2, [.ref q7, .null, .null, .null, .int (nI (0)), .int (nI (0))])), (q7, .inl (cD, 70, .inr (.inr (.inr (.inl (fun _ => 0)))))), (q15, .inl (cZ, 70, .inl (fun _ => 0)))] H := hP
  have hD : va_D A [(h, .inr (2, [.ref q7, .null, .null, .null, .int (nI (0)), .int (nI (0))])), (q7, .inl (cD, 70, .inr (.inr (.inr (.inl (fun _ => 0)))))), (q15, .inl (cZ, 70, .inl (fun _ => 0)))] := hD
  refine W.widen (k := 2) (n := 140) (by omega) (by omega) ?_
  refine va_putF (D := (dC, dI)) (ci := 2) (v := .ref q15) (ty := .array .boolean) (C := RX2) (T := TX2) (N := 6) hx hb hts hin2 tyX2 tyX2_ok nmX2 hown hK hP hD hS 0 rfl rfl 1 (by decide) fl13 (fun _ h9 => h9) rfl hin rfl (by decide +kernel) rfl rfl (Nat.le_of_ble_eq_true rfl) dX2_init_17 (fun H locs hP hD hS => ?_)
  have hP : va_P (dC, dI) vwCl [(h, .inr (2, [.ref q7, .ref q15, .null, .null, .int (nI (0)), .int (nI (0))])), (q7, .inl (cD, 70, .inr (.inr (.inr (.inl (fun _ => 0)))))), (q15, .inl (cZ, 70, .inl (fun _ => 0)))] H := hP
  have hD : va_D A [(h, .inr (2, [.ref q7, .ref q15, .null, .null, .int (nI (0)), .int (nI (0))])), (q7, .inl (cD, 70, .inr (.inr (.inr (.inl (fun _ => 0)))))), (q15, .inl (cZ, 70, .inl (fun _ => 0)))] := hD
  refine lv_aload_n hx hb dX2_init_20 rfl (lv_at hl 0 rfl) ?_
  refine lv_bipush (v := nI 60) hx hb dX2_init_21 (by decide) ?_
  refine va_newa (atype := .int) (a0 := (60, .inl (fun _ => 0))) (ty := .int) (N' := 60) hx hb (hts (.arrayClass .int) (by decide +kernel)) rfl hK hP hD hS hA (vcI 60) (nI_pos (by decide)) (nI_clamp (by decide)) (byI 60 (by decide)) (show 2 + 1 ≤ 4 by decide) (show 140 + 60 ≤ 206 by decide) dX2_init_23 (fun q23 cA H hK hP hD hS => ?_)
  have ecA := acI hK 2 4 rfl rfl
  subst ecA
  have hK := hK.sub (tys' := tP cD cZ cI cL) [0, 1, 2, 3] rfl
  have hP : va_P (dC, dI) vwCl [(h, .inr (2, [.ref q7, .ref q15, .null, .null, .int (nI (0)), .int (nI (0))])), (q7, .inl (cD, 70, .inr (.inr (.inr (.inl (fun _ => 0)))))), (q15, .inl (cZ, 70, .inl (fun _ => 0))), (q23, .inl (cI, 60, .inl (fun _ => 0)))] H := hP
  have hD : va_D A [(h, .inr (2, [.ref q7, .ref q15, .null, .null, .int (nI (0)), .int (nI (0))])), (q7, .inl (cD, 70, .inr (.inr (.inr (.inl (fun _ => 0)))))), (q15, .inl (cZ, 70, .inl (fun _ => 0))), (q23, .inl (cI, 60, .inl (fun _ => 0)))] := hD
  refine W.widen (k := 3) (n := 200) (by omega) (by omega) ?_
  refine va_putF (D := (dC, dI)) (ci := 2) (v := .ref q23) (ty := .array .int) (C := RX2) (T := TX2) (N := 6) hx hb hts hin2 tyX2 tyX2_ok nmX2 hown hK hP hD hS 0 rfl rfl 2 (by decide) fl17 (fun _ h9 => h9) rfl hin rfl (by decide +kernel) rfl rfl (Nat.le_of_ble_eq_true rfl) dX2_init_25 (fun H locs hP hD hS => ?_)
  have hP : va_P (dC, dI) vwCl [(h, .inr (2, [.ref q7, .ref q15, .ref q23, .null, .int (nI (0)), .int (nI (0))])), (q7, .inl (cD, 70, .inr (.inr (.inr (.inl (fun _ => 0)))))), (q15, .inl (cZ, 70, .inl (fun _ => 0))), (q23, .inl (cI, 60, .inl (fun _ => 0)))] H := hP
  have hD : va_D A [(h, .inr (2, [.ref q7, .ref q15, .ref q23, .null, .int (nI (0)), .int (nI (0))])), (q7, .inl (cD, 70, .inr (.inr (.inr (.inl (fun _ => 0)))))), (q15, .inl (cZ, 70, .inl (fun _ => 0))), (q23, .inl (cI, 60, .inl (fun _ => 0)))] := hD
  refine lv_aload_n hx hb dX2_init_28 rfl (lv_at hl 0 rfl) ?_
  refine lv_bipush (v := nI 6) hx hb dX2_init_29 (by decide) ?_
  refine va_newa (atype := .int) (a0 := (6, .inl (fun _ => 0))) (ty := .int) (N' := 6) hx hb (hts (.arrayClass .int) (by decide +kernel)) rfl hK hP hD hS hA (vcI 6) (nI_pos (by decide)) (nI_clamp (by decide)) (byI 6 (by decide)) (show 3 + 1 ≤ 4 by decide) (show 200 + 6 ≤ 206 by decide) dX2_init_31 (fun q31 cA H hK hP hD hS => ?_)
  have ecA := acI hK 2 4 rfl rfl
  subst ecA
  have hK := hK.sub (tys' := tP cD cZ cI cL) [0, 1, 2, 3] rfl
  have hP : va_P (dC, dI) vwCl [(h, .inr (2, [.ref q7, .ref q15, .ref q23, .null, .int (nI (0)), .int (nI (0))])), (q7, .inl (cD, 70, .inr (.inr (.inr (.inl (fun _ => 0)))))), (q15, .inl (cZ, 70, .inl (fun _ => 0))), (q23, .inl (cI, 60, .inl (fun _ => 0))), (q31, .inl (cI, 6, .inl (fun _ => 0)))] H := hP
  have hD : va_D A [(h, .inr (2, [.ref q7, .ref q15, .ref q23, .null, .int (nI (0)), .int (nI (0))])), (q7, .inl (cD, 70, .inr (.inr (.inr (.inl (fun _ => 0)))))), (q15, .inl (cZ, 70, .inl (fun _ => 0))), (q23, .inl (cI, 60, .inl (fun _ => 0))), (q31, .inl (cI, 6, .inl (fun _ => 0)))] := hD
  refine W.widen (k := 4) (n := 206) (by omega) (by omega) ?_
  refine va_putF (D := (dC, dI)) (ci := 2) (v := .ref q31) (ty := .array .int) (C := RX2) (T := TX2) (N := 6) hx hb hts hin2 tyX2 tyX2_ok nmX2 hown hK hP hD hS 0 rfl rfl 3 (by decide) fl21 (fun _ h9 => h9) rfl hin rfl (by decide +kernel) rfl rfl (Nat.le_of_ble_eq_true rfl) dX2_init_33 (fun H locs hP hD hS => ?_)
  have hP : va_P (dC, dI) vwCl [(h, .inr (2, [.ref q7, .ref q15, .ref q23, .ref q31, .int (nI (0)), .int (nI (0))])), (q7, .inl (cD, 70, .inr (.inr (.inr (.inl (fun _ => 0)))))), (q15, .inl (cZ, 70, .inl (fun _ => 0))), (q23, .inl (cI, 60, .inl (fun _ => 0))), (q31, .inl (cI, 6, .inl (fun _ => 0)))] H := hP
  have hD : va_D A [(h, .inr (2, [.ref q7, .ref q15, .ref q23, .ref q31, .int (nI (0)), .int (nI (0))])), (q7, .inl (cD, 70, .inr (.inr (.inr (.inl (fun _ => 0)))))), (q15, .inl (cZ, 70, .inl (fun _ => 0))), (q23, .inl (cI, 60, .inl (fun _ => 0))), (q31, .inl (cI, 6, .inl (fun _ => 0)))] := hD
  refine lv_iconst (v := nI 0) hx hb dX2_init_36 (by decide) ?_
  refine lv_istore_n (lv' := [(1, .int (nI (0))), (0, .ref h)]) hx hb dX2_init_37 rfl hl (by decide) rfl (fun ls hl => ?_)
  have hP := hP.sub (ws' := [(h, .inr (2, [.ref q7, .ref q15, .ref q23, .ref q31, .int (nI (0)), .int (nI (0))])), (q7, .inl (cD, 70, .inr (.inr (.inr (.inl (fun _ => 0)))))), (q15, .inl (cZ, 70, .inl (fun _ => 0))), (q23, .inl (cI, 60, .inl (fun _ => 0))), (q31, .inl (cI, 6, .inl (fun _ => 0)))]) [0, 1, 2, 3, 4] rfl
  have hD := hD.sub (ws' := [(h, .inr (2, [.ref q7, .ref q15, .ref q23, .ref q31, .int (nI (0)), .int (nI (0))])), (q7, .inl (cD, 70, .inr (.inr (.inr (.inl (fun _ => 0)))))), (q15, .inl (cZ, 70, .inl (fun _ => 0))), (q23, .inl (cI, 60, .inl (fun _ => 0))), (q31, .inl (cI, 6, .inl (fun _ => 0)))]) [0, 1, 2, 3, 4] (by decide) rfl
  refine W_loopH (α := Nat × (Nat → Int32)) (P := fun n a H locs ls => (a.1 + n = 61 ∧ a.1 < 61) ∧ (∀ j, j < a.1 → a.2 j = -1) ∧ va_P (dC, dI) vwCl [(h, .inr (2, [.ref q7, .ref q15, .ref q23, .ref q31, .int (nI (0)), .int (nI (0))])), (q7, .inl (cD, 70, .inr (.inr (.inr (.inl (fun _ => 0)))))), (q15, .inl (cZ, 70, .inl (fun _ => 0))), (q23, .inl (cI, 60, .inl (a.2))), (q31, .inl (cI, 6, .inl (fun _ => 0)))] H ∧ va_D A [(h, .inr (2, [.ref q7, .ref q15, .ref q23, .ref q31, .int (nI (0)), .int (nI (0))])), (q7, .inl (cD, 70, .inr (.inr (.inr (.inl (fun _ => 0)))))), (q15, .inl (cZ, 70, .inl (fun _ => 0))), (q23, .inl (cI, 60, .inl (a.2))), (q31, .inl (cI, 6, .inl (fun _ => 0)))] ∧ va_S A s.heap H locs ∧ lv_has ls 2 [(1, .int (nI (a.1))), (0, .ref h)]) (st := fun _ => []) 38 (fun a H locs ls h => by have := h.1; omega) (fun n ih a H locs ls h => ?_) 61 (0, fun _ => 0) H _ ls ⟨⟨(rfl : 0 + 61 = 61), (by show 0 < 61; decide)⟩, fun j hj => absurd hj (Nat.not_lt_zero _), hP, hD, hS, lv_sub hl [0, 1] rfl⟩
  obtain ⟨k, T2⟩ := a
  dsimp only at h
  obtain ⟨⟨hin, hix⟩, hall, hP, hD, hS, hl⟩ := h
  have hP : va_P (dC, dI) vwCl [(h, .inr (2, [.ref q7, .ref q15, .ref q23, .ref q31, .int (nI (0)), .int (nI (0))])), (q7, .inl (cD, 70, .inr (.inr (.inr (.inl (fun _ => 0)))))), (q15, .inl (cZ, 70, .inl (fun _ => 0))), (q23, .inl (cI, 60, .inl (T2))), (q31, .inl (cI, 6, .inl (fun _ => 0)))] H := hP
  have hD : va_D A [(h, .inr (2, [.ref q7, .ref q15, .ref q23, .ref q31, .int (nI (0)), .int (nI (0))])), (q7, .inl (cD, 70, .inr (.inr (.inr (.inl (fun _ => 0)))))), (q15, .inl (cZ, 70, .inl (fun _ => 0))), (q23, .inl (cI, 60, .inl (T2))), (q31, .inl (cI, 6, .inl (fun _ => 0)))] := hD
  refine lv_iload_n hx hb dX2_init_38 rfl (lv_at hl 0 rfl) ?_
  refine lv_bipush (v := nI 60) hx hb dX2_init_39 (by decide) ?_
  refine xn_icmp_ge (tgt := 57) hx hb (by omega) (by decide) dX2_init_41 (by decide) (fun c41 => ?_) (fun c41 => ?_)
  · exact W.vret hx hb hr (fun t ht hW => ⟨⟨(q7, q15, q23, q31, T2), rfl, (fun j hj => hall j (by omega)), by rw [ht]; exact hP, va_K.moved hW.alike hK, hD⟩, hS.F ht⟩) hS.2.2 dX2_init_57
  · refine lv_aload_n hx hb dX2_init_44 rfl (lv_at hl 1 rfl) ?_
    refine va_get (D := (dC, dI)) (ci := 2) (v := .ref q23) (C := RX2) (T := TX2) (N := 6) hx hb hts hin2 hown hK hP 0 rfl rfl 2 (by decide) fl17 (fun _ h9 => h9) rfl dX2_init_45 ?_
    refine lv_iload_n hx hb dX2_init_48 rfl (lv_at hl 0 rfl) ?_
    refine lv_iconst (v := (-1)) hx hb dX2_init_49 (by decide) ?_
    refine xn_iast hx hb hK hP hD hS 3 2 rfl rfl (n := 60) (j := k) (by omega) (by decide) dX2_init_50 (fun H locs hP hD hS => ?_)
    have hP : va_P (dC, dI) vwCl [(h, .inr (2, [.ref q7, .ref q15, .ref q23, .ref q31, .int (nI (0)), .int (nI (0))])), (q7, .inl (cD, 70, .inr (.inr (.inr (.inl (fun _ => 0)))))), (q15, .inl (cZ, 70, .inl (fun _ => 0))), (q23, .inl (cI, 60, .inl (upd T2 k (-1)))), (q31, .inl (cI, 6, .inl (fun _ => 0)))] H := hP
    have hD : va_D A [(h, .inr (2, [.ref q7, .ref q15, .ref q23, .ref q31, .int (nI (0)), .int (nI (0))])), (q7, .inl (cD, 70, .inr (.inr (.inr (.inl (fun _ => 0)))))), (q15, .inl (cZ, 70, .inl (fun _ => 0))), (q23, .inl (cI, 60, .inl (upd T2 k (-1)))), (q31, .inl (cI, 6, .inl (fun _ => 0)))] := hD
    refine xn_iinc (lv2 := [(1, .int (nI (k + 1))), (0, .ref h)]) hx hb dX2_init_51 hl (k0 := 0) rfl (by decide) rfl (fun ls hl => ?_)
    refine lv_goto (tgt := 38) hx hb dX2_init_54 (by decide) ?_
    exact ih (k + 1, upd T2 k (-1)) H locs ls ⟨⟨(by show k + 1 + n = 61; omega), (by show k + 1 < 61; omega)⟩, upd_all hall, hP, hD, hS, lv_sub hl [0, 1] rfl⟩
