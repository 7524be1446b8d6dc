set_option maxHeartbeats 4000000 in
set_option maxRecDepth 100000 in
theorem c_X1_requireEntry_ok (l : Launch) (dC : Nat → ClassId) (dI : Nat → Nat → Nat) (cD cZ cI cL : ClassId) (h pf f0 f1 f2 f3 po o0 o1 o2 o3 tt t0 : Nat) (NF : Nat → UInt64) (GF TF OF : Nat → Int32) (NO : Nat → UInt64) (GO TO OO : Nat → Int32) (DG : Nat → Int64) (nn : Nat) (fb : Bool) (en : Nat) (hen : en < nn) (hnn : nn ≤ 6) : Met l yX1_requireEntry wsX1_requireEntry ({ frames := 0, cells := 0, slots := 0, locals := 0 }) (va_Pc [.ref h, .int (nI (en))] (fun U => okJ dC dI cD cZ cI cL h pf f0 f1 f2 f3 po o0 o1 o2 o3 tt t0 NF GF TF OF NO GO TO OO DG nn fb U U.heap)) (va_Sv (fun _ => True)) 0 0 (fun _ => False) := by
  refine Met.ofW (cc := cX1_requireEntry) (maxL := 2) (ret := none) (by decide) rfl ?_
  intro p e s m args below meth c s₁ B hml hv
  obtain ⟨rfl, hO⟩ := hv
  obtain ⟨hP, hK, hE⟩ := id hO
  have hP : va_P (dC, dI) vwCl [(h, .inr (1, [.ref (cond fb pf po), .ref (cond fb po pf), .ref tt, .int (nI (nn))])), (pf, .inr (0, [.ref f0, .ref f1, .ref f2, .ref f3])), (f0, .inl (cD, 35, .inr (.inr (.inr (.inl (NF)))))), (f1, .inl (cZ, 35, .inl (GF))), (f2, .inl (cI, 30, .inl (TF))), (f3, .inl (cI, 6, .inl (OF))), (po, .inr (0, [.ref o0, .ref o1, .ref o2, .ref o3])), (o0, .inl (cD, 35, .inr (.inr (.inr (.inl (NO)))))), (o1, .inl (cZ, 35, .inl (GO))), (o2, .inl (cI, 30, .inl (TO))), (o3, .inl (cI, 6, .inl (OO))), (tt, .inr (3, [.ref t0])), (t0, .inl (cL, 42, .inr (.inl (DG))))] s.heap := hP
  have hx := B.exec
  have hb := B.bytes
  have hr := B.returns
  have hts := atoms_spec (ws := wsX1_requireEntry) B.pre
  have hown : s.vm.findClass RX1 = some m.cls := findClass_of_methodNamed B.named
  have hlocks := B.notSynchronized
  have hin1 : ∀ w ∈ wsX10, w ∈ wsX1_requireEntry := (fun w h => List.mem_cons_of_mem _ (List.mem_append_left _ (List.mem_append_right _ h)))
  have fl26 := hts (.fieldLink RX1 26 "JuryTable" "entries" "I") (by decide +kernel)
  have hl := lv_entry ([.ref h, .int (nI (en))]) (n := 2) (Nat.le_of_ble_eq_true rfl)
  rw [lg_entry_eq]
  generalize (lg_sl ([.ref h, .int (nI (en))]) ++ List.replicate (2 - (lg_sl ([.ref h, .int (nI (en))])).length) Slot.unset).toArray = ls at hl ⊢
  have hl : lv_has ls 2 [(0, .ref h), (1, .int (nI (en)))] := hl
  refine lv_iload_n hx hb dX1_requireEntry_0 rfl (lv_at hl 1 rfl) ?_
  refine lv_if_lt (tgt := 12) hx hb dX1_requireEntry_1 (by decide) (fun q => absurd q (nI_pos (by omega))) (fun _ => ?_)
  refine lv_iload_n hx hb dX1_requireEntry_4 rfl (lv_at hl 1 rfl) ?_
  refine lv_aload_n hx hb dX1_requireEntry_5 rfl (lv_at hl 0 rfl) ?_
  refine va_get (D := (dC, dI)) (ci := 1) (v := .int (nI (nn))) (C := RX1) (T := TX1) (N := 4) hx hb hts hin1 hown hK hP 0 rfl rfl 3 (by decide) fl26 (fun _ h9 => h9) rfl dX1_requireEntry_6 ?_
  refine xn_icmp_lt (tgt := 22) hx hb (by omega) (by omega) dX1_requireEntry_9 (by decide) (fun _ => ?_) (fun q => absurd q (by omega))
  exact W.vret hx hb hr (fun t ht hW => ⟨rfl, trivial, ht⟩) (fun q hq => absurd hq List.not_mem_nil) dX1_requireEntry_22
set_option maxHeartbeats 4000000 in
set_option maxRecDepth 100000 in
theorem c_X1_requireSeat_ok (l : Launch) (bn : Nat) (hbn : bn < 5) : Met l yX1_requireSeat wsX1_requireSeat ({ frames := 0, cells := 0, slots := 0, locals := 0 }) (va_Pc [.int (nI (bn))] (fun _ => True)) (va_Sv (fun _ => True)) 0 0 (fun _ => False) := by
  refine Met.ofW (cc := cX1_requireSeat) (maxL := 1) (ret := none) (by decide) rfl ?_
  intro p e s m args below meth c s₁ B hml hv
  obtain ⟨rfl, -⟩ := hv
  have hx := B.exec
  have hb := B.bytes
  have hr := B.returns
  have hts := atoms_spec (ws := wsX1_requireSeat) B.pre
  have hown : s.vm.findClass RX1 = some m.cls := findClass_of_methodNamed B.named
  have hlocks := B.notSynchronized
  have hl := lv_entry ([.int (nI (bn))]) (n := 1) (Nat.le_of_ble_eq_true rfl)
  rw [lg_entry_eq]
  generalize (lg_sl ([.int (nI (bn))]) ++ List.replicate (1 - (lg_sl ([.int (nI (bn))])).length) Slot.unset).toArray = ls at hl ⊢
  have hl : lv_has ls 1 [(0, .int (nI (bn)))] := hl
  refine lv_iload_n hx hb dX1_requireSeat_0 rfl (lv_at hl 0 rfl) ?_
  refine lv_if_lt (tgt := 9) hx hb dX1_requireSeat_1 (by decide) (fun q => absurd q (nI_pos (by omega))) (fun _ => ?_)
  refine lv_iload_n hx hb dX1_requireSeat_4 rfl (lv_at hl 0 rfl) ?_
  refine lv_iconst (v := nI 5) hx hb dX1_requireSeat_5 (by decide) ?_
  refine xn_icmp_lt (tgt := 19) hx hb (by omega) (by decide) dX1_requireSeat_6 (by decide) (fun _ => ?_) (fun q => absurd q (by omega))
  exact W.vret hx hb hr (fun t ht hW => ⟨rfl, trivial, ht⟩) (fun q hq => absurd hq List.not_mem_nil) dX1_requireSeat_19
set_option maxHeartbeats 4000000 in
set_option maxRecDepth 100000 in
theorem c_X1_requireBelow_ok (l : Launch) (xn hi : Nat) (hxn : xn < hi) (hhi : hi ≤ 24) : Met l yX1_requireBelow wsX1_requireBelow ({ frames := 0, cells := 0, slots := 0, locals := 0 }) (va_Pc [.int (nI (xn)), .int (nI (hi))] (fun _ => True)) (va_Sv (fun _ => True)) 0 0 (fun _ => False) := by
  refine Met.ofW (cc := cX1_requireBelow) (maxL := 2) (ret := none) (by decide) rfl ?_
  intro p e s m args below meth c s₁ B hml hv
  obtain ⟨rfl, -⟩ := hv
  have hx := B.exec
  have hb := B.bytes
  have hr := B.returns
  have hts := atoms_spec (ws := wsX1_requireBelow) B.pre
  have hown : s.vm.findClass RX1 = some m.cls := findClass_of_methodNamed B.named
  have hlocks := B.notSynchronized
  have hl := lv_entry ([.int (nI (xn)), .int (nI (hi))]) (n := 2) (Nat.le_of_ble_eq_true rfl)
  rw [lg_entry_eq]
  generalize (lg_sl ([.int (nI (xn)), .int (nI (hi))]) ++ List.replicate (2 - (lg_sl ([.int (nI (xn)), .int (nI (hi))])).length) Slot.unset).toArray = ls at hl ⊢
  have hl : lv_has ls 2 [(0, .int (nI (xn))), (1, .int (nI (hi)))] := hl
  refine lv_iload_n hx hb dX1_requireBelow_0 rfl (lv_at hl 0 rfl) ?_
  refine lv_if_lt (tgt := 9) hx hb dX1_requireBelow_1 (by decide) (fun q => absurd q (nI_pos (by omega))) (fun _ => ?_)
  refine lv_iload_n hx hb dX1_requireBelow_4 rfl (lv_at hl 0 rfl) ?_
  refine lv_iload_n hx hb dX1_requireBelow_5 rfl (lv_at hl 1 rfl) ?_
  refine xn_icmp_lt (tgt := 19) hx hb (by omega) (by omega) dX1_requireBelow_6 (by decide) (fun _ => ?_) (fun q => absurd q (by omega))
  exact W.vret hx hb hr (fun t ht hW => ⟨rfl, trivial, ht⟩) (fun q hq => absurd hq List.not_mem_nil) dX1_requireBelow_19
set_option maxHeartbeats 4000000 in
set_option maxRecDepth 100000 in
theorem c_X1_requireEntryOrNone_ok (l : Launch) (dC : Nat → ClassId) (dI : Nat → Nat → Nat) (cD cZ cI cL : ClassId) (h pf f0 f1 f2 f3 po o0 o1 o2 o3 tt t0 : Nat) (NF : Nat → UInt64) (GF TF OF : Nat → Int32) (NO : Nat → UInt64) (GO TO OO : Nat → Int32) (DG : Nat → Int64) (nn : Nat) (fb : Bool) (en : Nat) (hen : en < nn) (hnn : nn ≤ 6) : Met l yX1_requireEntryOrNone wsX1_requireEntryOrNone ({ frames := 1, cells := 0, slots := 0, locals := 21 }) (va_Pc [.ref h, .int (nI (en))] (fun U => okJ dC dI cD cZ cI cL h pf f0 f1 f2 f3 po o0 o1 o2 o3 tt t0 NF GF TF OF NO GO TO OO DG nn fb U U.heap)) (va_Sv (fun _ => True)) 0 0 (fun _ => False) := by
  refine Met.ofW (cc := cX1_requireEntryOrNone) (maxL := 2) (ret := none) (by decide) rfl ?_
  intro p e s m args below meth c s₁ B hml hv
  obtain ⟨rfl, hO⟩ := hv
  obtain ⟨hP, hK, hE⟩ := id hO
  have hP : va_P (dC, dI) vwCl [(h, .inr (1, [.ref (cond fb pf po), .ref (cond fb po pf), .ref tt, .int (nI (nn))])), (pf, .inr (0, [.ref f0, .ref f1, .ref f2, .ref f3])), (f0, .inl (cD, 35, .inr (.inr (.inr (.inl (NF)))))), (f1, .inl (cZ, 35, .inl (GF))), (f2, .inl (cI, 30, .inl (TF))), (f3, .inl (cI, 6, .inl (OF))), (po, .inr (0, [.ref o0, .ref o1, .ref o2, .ref o3])), (o0, .inl (cD, 35, .inr (.inr (.inr (.inl (NO)))))), (o1, .inl (cZ, 35, .inl (GO))), (o2, .inl (cI, 30, .inl (TO))), (o3, .inl (cI, 6, .inl (OO))), (tt, .inr (3, [.ref t0])), (t0, .inl (cL, 42, .inr (.inl (DG))))] s.heap := hP
  have hx := B.exec
  have hb := B.bytes
  have hr := B.returns
  have hts := atoms_spec (ws := wsX1_requireEntryOrNone) B.pre
  have hown : s.vm.findClass RX1 = some m.cls := findClass_of_methodNamed B.named
  have hlocks := B.notSynchronized
  have hl := lv_entry ([.ref h, .int (nI (en))]) (n := 2) (Nat.le_of_ble_eq_true rfl)
  rw [lg_entry_eq]
  generalize (lg_sl ([.ref h, .int (nI (en))]) ++ List.replicate (2 - (lg_sl ([.ref h, .int (nI (en))])).length) Slot.unset).toArray = ls at hl ⊢
  have hl : lv_has ls 2 [(0, .ref h), (1, .int (nI (en)))] := hl
  have hN := hE.nest
  refine lv_iload_n hx hb dX1_requireEntryOrNone_0 rfl (lv_at hl 1 rfl) ?_
  refine lv_iconst (v := (-1)) hx hb dX1_requireEntryOrNone_1 (by decide) ?_
  refine lv_icmp_eq (tgt := 10) hx hb dX1_requireEntryOrNone_2 (by decide) (fun q => absurd q (nI_nm1 (by omega))) (fun _ => ?_)
  refine lv_aload_n hx hb dX1_requireEntryOrNone_5 rfl (lv_at hl 0 rfl) ?_
  refine lv_iload_n hx hb dX1_requireEntryOrNone_6 rfl (lv_at hl 1 rfl) ?_
  refine va_csv (va_Run.run (va_runV (As := [.int (nI (en))]) (rest := []) ⟨hx, hb, hml, hown, hts⟩ (c_X1_requireEntry_ok l dC dI cD cZ cI cL h pf f0 f1 f2 f3 po o0 o1 o2 o3 tt t0 NF GF TF OF NO GO TO OO DG nn fb (en) (by omega) (by omega)) (cwV 1 hts gX1_requireEntryOrNone_X1_requireEntry rfl rfl rfl (by decide +kernel) ⟨Nat.le_of_ble_eq_true rfl, Nat.le_of_ble_eq_true rfl⟩) (okJ_pre ⟨hP, hK, hE⟩) rfl rfl hl.1 rfl (lv_room (Nat.le_of_ble_eq_true rfl)) dX1_requireEntryOrNone_7 ⟨Nat.zero_le _, Nat.zero_le _⟩)) (fun _ => ?_)
  exact W.vret hx hb hr (fun t ht hW => ⟨rfl, trivial, ht⟩) (fun q hq => absurd hq List.not_mem_nil) dX1_requireEntryOrNone_10
set_option maxHeartbeats 4000000 in
set_option maxRecDepth 100000 in
theorem c_X1_requireEntryOrNone_okN (l : Launch) (dC : Nat → ClassId) (dI : Nat → Nat → Nat) (cD cZ cI cL : ClassId) (h pf f0 f1 f2 f3 po o0 o1 o2 o3 tt t0 : Nat) (NF : Nat → UInt64) (GF TF OF : Nat → Int32) (NO : Nat → UInt64) (GO TO OO : Nat → Int32) (DG : Nat → Int64) (nn : Nat) (fb : Bool) : Met l yX1_requireEntryOrNone wsX1_requireEntryOrNone ({ frames := 0, cells := 0, slots := 0, locals := 0 }) (va_Pc [.ref h, .int (-1)] (fun U => okJ dC dI cD cZ cI cL h pf f0 f1 f2 f3 po o0 o1 o2 o3 tt t0 NF GF TF OF NO GO TO OO DG nn fb U U.heap)) (va_Sv (fun _ => True)) 0 0 (fun _ => False) := by
  refine Met.ofW (cc := cX1_requireEntryOrNone) (maxL := 2) (ret := none) (by decide) rfl ?_
  intro p e s m args below meth c s₁ B hml hv
  obtain ⟨rfl, hO⟩ := hv
  obtain ⟨hP, hK, hE⟩ := id hO
  have hP : va_P (dC, dI) vwCl [(h, .inr (1, [.ref (cond fb pf po), .ref (cond fb po pf), .ref tt, .int (nI (nn))])), (pf, .inr (0, [.ref f0, .ref f1, .ref f2, .ref f3])), (f0, .inl (cD, 35, .inr (.inr (.inr (.inl (NF)))))), (f1, .inl (cZ, 35, .inl (GF))), (f2, .inl (cI, 30, .inl (TF))), (f3, .inl (cI, 6, .inl (OF))), (po, .inr (0, [.ref o0, .ref o1, .ref o2, .ref o3])), (o0, .inl (cD, 35, .inr (.inr (.inr (.inl (NO)))))), (o1, .inl (cZ, 35, .inl (GO))), (o2, .inl (cI, 30, .inl (TO))), (o3, .inl (cI, 6, .inl (OO))), (tt, .inr (3, [.ref t0])), (t0, .inl (cL, 42, .inr (.inl (DG))))] s.heap := hP
  have hx := B.exec
  have hb := B.bytes
  have hr := B.returns
  have hts := atoms_spec (ws := wsX1_requireEntryOrNone) B.pre
  have hown : s.vm.findClass RX1 = some m.cls := findClass_of_methodNamed B.named
  have hlocks := B.notSynchronized
  have hl := lv_entry ([.ref h, .int (-1)]) (n := 2) (Nat.le_of_ble_eq_true rfl)
  rw [lg_entry_eq]
  generalize (lg_sl ([.ref h, .int (-1)]) ++ List.replicate (2 - (lg_sl ([.ref h, .int (-1)])).length) Slot.unset).toArray = ls at hl ⊢
  have hl : lv_has ls 2 [(0, .ref h), (1, .int (-1))] := hl
  have hN := hE.nest
  refine lv_iload_n hx hb dX1_requireEntryOrNone_0 rfl (lv_at hl 1 rfl) ?_
  refine lv_iconst (v := (-1)) hx hb dX1_requireEntryOrNone_1 (by decide) ?_
  refine lv_icmp_eq (tgt := 10) hx hb dX1_requireEntryOrNone_2 (by decide) (fun _ => ?_) (fun q => absurd (by decide) q)
  exact W.vret hx hb hr (fun t ht hW => ⟨rfl, trivial, ht⟩) (fun q hq => absurd hq List.not_mem_nil) dX1_requireEntryOrNone_10
set_option maxHeartbeats 4000000 in
set_option maxRecDepth 100000 in
theorem c_X1_panel (l : Launch) (dC : Nat → ClassId) (dI : Nat → Nat → Nat) (cD cZ cI cL : ClassId) (h pf f0 f1 f2 f3 po o0 o1 o2 o3 tt t0 : Nat) (NF : Nat → UInt64) (GF TF OF : Nat → Int32) (NO : Nat → UInt64) (GO TO OO : Nat → Int32) (DG : Nat → Int64) (nn : Nat) (fb : Bool) : Met l yX1_panel wsX1_panel ({ frames := 0, cells := 0, slots := 0, locals := 0 }) (va_Pc [.ref h, .int (nI (Bool.toNat (fb)))] (fun U => okJ dC dI cD cZ cI cL h pf f0 f1 f2 f3 po o0 o1 o2 o3 tt t0 NF GF TF OF NO GO TO OO DG nn fb U U.heap)) (va_Sr (fun k => pf = k) (fun k => .ref k)) 0 0 (fun _ => False) := by
  refine Met.ofW (cc := cX1_panel) (maxL := 2) (ret := (some (.object "JuryTable$Panel"))) (by decide) rfl ?_
  intro p e s m args below meth c s₁ B hml hv
  obtain ⟨rfl, hO⟩ := hv
  obtain ⟨hP, hK, hE⟩ := id hO
  have hP : va_P (dC, dI) vwCl [(h, .inr (1, [.ref (cond fb pf po), .ref (cond fb po pf), .ref tt, .int (nI (nn))])), (pf, .inr (0, [.ref f0, .ref f1, .ref f2, .ref f3])), (f0, .inl (cD, 35, .inr (.inr (.inr (.inl (NF)))))), (f1, .inl (cZ, 35, .inl (GF))), (f2, .inl (cI, 30, .inl (TF))), (f3, .inl (cI, 6, .inl (OF))), (po, .inr (0, [.ref o0, .ref o1, .ref o2, .ref o3])), (o0, .inl (cD, 35, .inr (.inr (.inr (.inl (NO)))))), (o1, .inl (cZ, 35, .inl (GO))), (o2, .inl (cI, 30, .inl (TO))), (o3, .inl (cI, 6, .inl (OO))), (tt, .inr (3, [.ref t0])), (t0, .inl (cL, 42, .inr (.inl (DG))))] s.heap := hP
  have hx := B.exec
  have hb := B.bytes
  have hr := B.returns
  have hts := atoms_spec (ws := wsX1_panel) B.pre
  have hown : s.vm.findClass RX1 = some m.cls := findClass_of_methodNamed B.named
  have hlocks := B.notSynchronized
  have hin1 : ∀ w ∈ wsX10, w ∈ wsX1_panel := (fun w h => List.mem_cons_of_mem _ (List.mem_append_right _ h))
  have fl12 := hts (.fieldLink RX1 12 "JuryTable" "judges" "LJuryTable$Panel;") (by decide +kernel)
  have fl16 := hts (.fieldLink RX1 16 "JuryTable" "scorers" "LJuryTable$Panel;") (by decide +kernel)
  have hl := lv_entry ([.ref h, .int (nI (Bool.toNat (fb)))]) (n := 2) (Nat.le_of_ble_eq_true rfl)
  rw [lg_entry_eq]
  generalize (lg_sl ([.ref h, .int (nI (Bool.toNat (fb)))]) ++ List.replicate (2 - (lg_sl ([.ref h, .int (nI (Bool.toNat (fb)))])).length) Slot.unset).toArray = ls at hl ⊢
  have hl : lv_has ls 2 [(0, .ref h), (1, .int (nI (Bool.toNat (fb))))] := hl
  have hN := hE.nest
  refine lv_iload_n hx hb dX1_panel_0 rfl (lv_at hl 1 rfl) ?_
  refine xb_if_eq (tgt := 11) hx hb dX1_panel_1 (by decide) (fun c1 => ?_) (fun c1 => ?_)
  · refine lv_aload_n hx hb dX1_panel_11 rfl (lv_at hl 0 rfl) ?_
    refine va_get (D := (dC, dI)) (ci := 1) (v := .ref (cond fb po pf)) (C := RX1) (T := TX1) (N := 4) hx hb hts hin1 hown hK hP 0 rfl rfl 1 (by decide) fl16 (fun _ h9 => h9) rfl dX1_panel_12 ?_
    exact W.aret (v := .ref (cond fb po pf)) hx hb hr (Or.inl ⟨_, rfl⟩) (Or.inr ⟨_, rfl⟩) (fun t ht hW => ⟨_, rfl, by rw [c1]; rfl, ht⟩) (fun q hq => absurd hq List.not_mem_nil) dX1_panel_15
  · refine lv_aload_n hx hb dX1_panel_4 rfl (lv_at hl 0 rfl) ?_
    refine va_get (D := (dC, dI)) (ci := 1) (v := .ref (cond fb pf po)) (C := RX1) (T := TX1) (N := 4) hx hb hts hin1 hown hK hP 0 rfl rfl 0 (by decide) fl12 (fun _ h9 => h9) rfl dX1_panel_5 ?_
    refine lv_goto (tgt := 15) hx hb dX1_panel_8 (by decide) ?_
    exact W.aret (v := .ref (cond fb pf po)) hx hb hr (Or.inl ⟨_, rfl⟩) (Or.inr ⟨_, rfl⟩) (fun t ht hW => ⟨_, rfl, by rw [c1]; rfl, ht⟩) (fun q hq => absurd hq List.not_mem_nil) dX1_panel_15
set_option maxHeartbeats 4000000 in
set_option maxRecDepth 100000 in
theorem c_X1_rowOf_ok (l : Launch) (en : Nat) (hen : en < 6) : Met l yX1_rowOf wsX1_rowOf ({ frames := 0, cells := 0, slots := 0, locals := 0 }) (va_Pc [.int (nI (en))] (fun _ => True)) (vp_Si (fun r => r = nI en)) 0 0 (fun _ => False) := by
  refine Met.ofW (cc := cX1_rowOf) (maxL := 1) (ret := (some .int)) (by decide) rfl ?_
  intro p e s m args below meth c s₁ B hml hv
  obtain ⟨rfl, -⟩ := hv
  have hx := B.exec
  have hb := B.bytes
  have hr := B.returns
  have hts := atoms_spec (ws := wsX1_rowOf) B.pre
  have hown : s.vm.findClass RX1 = some m.cls := findClass_of_methodNamed B.named
  have hlocks := B.notSynchronized
  have hl := lv_entry ([.int (nI (en))]) (n := 1) (Nat.le_of_ble_eq_true rfl)
  rw [lg_entry_eq]
  generalize (lg_sl ([.int (nI (en))]) ++ List.replicate (1 - (lg_sl ([.int (nI (en))])).length) Slot.unset).toArray = ls at hl ⊢
  have hl : lv_has ls 1 [(0, .int (nI (en)))] := hl
  refine lv_iload_n hx hb dX1_rowOf_0 rfl (lv_at hl 0 rfl) ?_
  refine lv_iconst (v := (-1)) hx hb dX1_rowOf_1 (by decide) ?_
  refine lv_icmp_ne (tgt := 10) hx hb dX1_rowOf_2 (by decide) (fun _ => ?_) (fun q => absurd q (nI_nm1 (by omega)))
  refine lv_iload_n hx hb dX1_rowOf_10 rfl (lv_at hl 0 rfl) ?_
  exact W.iret (v := nI en) hx hb hr (fun t ht hW => ⟨_, rfl, rfl, ht⟩) (fun q hq => absurd hq List.not_mem_nil) dX1_rowOf_11
set_option maxHeartbeats 4000000 in
set_option maxRecDepth 100000 in
theorem c_X1_rowOf_okN (l : Launch) : Met l yX1_rowOf wsX1_rowOf ({ frames := 0, cells := 0, slots := 0, locals := 0 }) (va_Pc [.int (-1)] (fun _ => True)) (vp_Si (fun r => r = nI 6)) 0 0 (fun _ => False) := by
  refine Met.ofW (cc := cX1_rowOf) (maxL := 1) (ret := (some .int)) (by decide) rfl ?_
  intro p e s m args below meth c s₁ B hml hv
  obtain ⟨rfl, -⟩ := hv
  have hx := B.exec
  have hb := B.bytes
  have hr := B.returns
  have hts := atoms_spec (ws := wsX1_rowOf) B.pre
  have hown : s.vm.findClass RX1 = some m.cls := findClass_of_methodNamed B.named
  have hlocks := B.notSynchronized
  have hl := lv_entry ([.int (-1)]) (n := 1) (Nat.le_of_ble_eq_true rfl)
  rw [lg_entry_eq]
  generalize (lg_sl ([.int (-1)]) ++ List.replicate (1 - (lg_sl ([.int (-1)])).length) Slot.unset).toArray = ls at hl ⊢
  have hl : lv_has ls 1 [(0, .int (-1))] := hl
  refine lv_iload_n hx hb dX1_rowOf_0 rfl (lv_at hl 0 rfl) ?_
  refine lv_iconst (v := (-1)) hx hb dX1_rowOf_1 (by decide) ?_
  refine lv_icmp_ne (tgt := 10) hx hb dX1_rowOf_2 (by decide) (fun q => absurd (by decide) q) (fun _ => ?_)
  refine lv_bipush (v := nI 6) hx hb dX1_rowOf_5 (by decide) ?_
  refine lv_goto (tgt := 11) hx hb dX1_rowOf_7 (by decide) ?_
  exact W.iret (v := nI 6) hx hb hr (fun t ht hW => ⟨_, rfl, rfl, ht⟩) (fun q hq => absurd hq List.not_mem_nil) dX1_rowOf_11
set_option maxHeartbeats 4000000 in
set_option maxRecDepth 100000 in
theorem c_X1_entry_ok (l : Launch) (dC : Nat → ClassId) (dI : Nat → Nat → Nat) (cD cZ cI cL : ClassId) (h pf f0 f1 f2 f3 po o0 o1 o2 o3 tt t0 : Nat) (NF : Nat → UInt64) (GF TF OF : Nat → Int32) (NO : Nat → UInt64) (GO TO OO : Nat → Int32) (DG : Nat → Int64) (nn : Nat) (sz : Nat) (hn6 : nn < 6) : Met l yX1_entry wsX1_entry ({ frames := 0, cells := 0, slots := 0, locals := 0 }) (va_Pc [.ref h] (fun U => U.heap.size = sz ∧ okJ dC dI cD cZ cI cL h pf f0 f1 f2 f3 po o0 o1 o2 o3 tt t0 NF GF TF OF NO GO TO OO DG nn true U U.heap ∧ va_D (fun _ => True) (wJ cD cZ cI cL h pf f0 f1 f2 f3 po o0 o1 o2 o3 tt t0 NF GF TF OF NO GO TO OO DG nn true))) (va_Qi (fun (r : Int32) (_ : Unit) => r = nI nn) (fun _ t => atJ dC dI cD cZ cI cL (va_A (wJ cD cZ cI cL h pf f0 f1 f2 f3 po o0 o1 o2 o3 tt t0 NF GF TF OF NO GO TO OO DG nn true) sz) h pf f0 f1 f2 f3 po o0 o1 o2 o3 tt t0 NF GF TF OF NO GO TO OO DG (nn + 1) true t) (va_A (wJ cD cZ cI cL h pf f0 f1 f2 f3 po o0 o1 o2 o3 tt t0 NF GF TF OF NO GO TO OO DG nn true) sz)) 0 0 (va_A (wJ cD cZ cI cL h pf f0 f1 f2 f3 po o0 o1 o2 o3 tt t0 NF GF TF OF NO GO TO OO DG nn true) sz) := by
  refine Met.ofW (cc := cX1_entry) (maxL := 2) (ret := (some .int)) (by decide) rfl ?_
  intro p e s m args below meth c s₁ B hml hv
  obtain ⟨rfl, hsz, hO, hD0⟩ := hv
  obtain ⟨hP, hK, hE⟩ := id hO
  have hx := B.exec
  have hb := B.bytes
  have hr := B.returns
  have hts := atoms_spec (ws := wsX1_entry) B.pre
  have hown : s.vm.findClass RX1 = some m.cls := findClass_of_methodNamed B.named
  have hlocks := B.notSynchronized
  subst hsz
  have hD := hD0.self (sz := s.heap.size)
  generalize hAe : va_A (wJ cD cZ cI cL h pf f0 f1 f2 f3 po o0 o1 o2 o3 tt t0 NF GF TF OF NO GO TO OO DG nn true) s.heap.size = A at hD ⊢
  have hA : ∀ q : Nat, s.heap.size ≤ q → A q := fun q h => by rw [← hAe]; exact Or.inr h
  have hS : va_S A s.heap s.heap [] := va_S.rf
  have hP : va_P (dC, dI) vwCl [(h, .inr (1, [.ref pf, .ref po, .ref tt, .int (nI (nn))])), (pf, .inr (0, [.ref f0, .ref f1, .ref f2, .ref f3])), (f0, .inl (cD, 35, .inr (.inr (.inr (.inl (NF)))))), (f1, .inl (cZ, 35, .inl (GF))), (f2, .inl (cI, 30, .inl (TF))), (f3, .inl (cI, 6, .inl (OF))), (po, .inr (0, [.ref o0, .ref o1, .ref o2, .ref o3])), (o0, .inl (cD, 35, .inr (.inr (.inr (.inl (NO)))))), (o1, .inl (cZ, 35, .inl (GO))), (o2, .inl (cI, 30, .inl (TO))), (o3, .inl (cI, 6, .inl (OO))), (tt, .inr (3, [.ref t0])), (t0, .inl (cL, 42, .inr (.inl (DG))))] s.heap := hP
  have hD : va_D A [(h, .inr (1, [.ref pf, .ref po, .ref tt, .int (nI (nn))])), (pf, .inr (0, [.ref f0, .ref f1, .ref f2, .ref f3])), (f0, .inl (cD, 35, .inr (.inr (.inr (.inl (NF)))))), (f1, .inl (cZ, 35, .inl (GF))), (f2, .inl (cI, 30, .inl (TF))), (f3, .inl (cI, 6, .inl (OF))), (po, .inr (0, [.ref o0, .ref o1, .ref o2, .ref o3])), (o0, .inl (cD, 35, .inr (.inr (.inr (.inl (NO)))))), (o1, .inl (cZ, 35, .inl (GO))), (o2, .inl (cI, 30, .inl (TO))), (o3, .inl (cI, 6, .inl (OO))), (tt, .inr (3, [.ref t0])), (t0, .inl (cL, 42, .inr (.inl (DG))))] := hD
  have hin1 : ∀ w ∈ wsX10, w ∈ wsX1_entry := (fun w h => List.mem_cons_of_mem _ (List.mem_append_left _ (List.mem_append_right _ h)))
  have fl26 := hts (.fieldLink RX1 26 "JuryTable" "entries" "I") (by decide +kernel)
  have hl := lv_entry ([.ref h]) (n := 2) (Nat.le_of_ble_eq_true rfl)
  rw [lg_entry_eq]
  generalize (lg_sl ([.ref h]) ++ List.replicate (2 - (lg_sl ([.ref h])).length) Slot.unset).toArray = ls at hl ⊢
  have hl : lv_has ls 2 [(0, .ref h)] := hl
  have hN := hE.nest
  refine lv_aload_n hx hb dX1_entry_0 rfl (lv_at hl 0 rfl) ?_
  refine va_get (D := (dC, dI)) (ci := 1) (v := .int (nI (nn))) (C := RX1) (T := TX1) (N := 4) hx hb hts hin1 hown hK hP 0 rfl rfl 3 (by decide) fl26 (fun _ h9 => h9) rfl dX1_entry_1 ?_
  refine lv_bipush (v := nI 6) hx hb dX1_entry_4 (by decide) ?_
  refine xn_icmp_lt (tgt := 19) hx hb (by omega) (by decide) dX1_entry_6 (by decide) (fun _ => ?_) (fun q => absurd q (by omega))
  refine lv_aload_n hx hb dX1_entry_19 rfl (lv_at hl 0 rfl) ?_
  refine va_get (D := (dC, dI)) (ci := 1) (v := .int (nI (nn))) (C := RX1) (T := TX1) (N := 4) hx hb hts hin1 hown hK hP 0 rfl rfl 3 (by decide) fl26 (fun _ h9 => h9) rfl dX1_entry_20 ?_
  refine lv_istore_n (lv' := [(1, .int (nI (nn))), (0, .ref h)]) hx hb dX1_entry_23 rfl hl (by decide) rfl (fun ls hl => ?_)
  refine lv_aload_n hx hb dX1_entry_24 rfl (lv_at hl 1 rfl) ?_
  refine lv_dup hx hb dX1_entry_25 rfl ?_
  refine va_get (D := (dC, dI)) (ci := 1) (v := .int (nI (nn))) (C := RX1) (T := TX1) (N := 4) hx hb hts hin1 hown hK hP 0 rfl rfl 3 (by decide) fl26 (fun _ h9 => h9) rfl dX1_entry_26 ?_
  refine lv_iconst (v := nI 1) hx hb dX1_entry_29 (by decide) ?_
  refine xn_iadd hx hb dX1_entry_30 ?_
  refine va_put (D := (dC, dI)) (ci := 1) (v := .int (nI (nn + 1))) (ty := .int) (C := RX1) (T := TX1) (N := 4) hx hb hts hin1 tyX1 tyX1_ok nmX1 hown hK hP hD hS 0 rfl rfl 3 (by decide) fl26 (fun _ h9 => h9) rfl (by decide +kernel) rfl rfl (Nat.le_of_ble_eq_true rfl) dX1_entry_31 (fun H locs hP hD hS => ?_)
  have hP : va_P (dC, dI) vwCl [(h, .inr (1, [.ref pf, .ref po, .ref tt, .int (nI (nn + 1))])), (pf, .inr (0, [.ref f0, .ref f1, .ref f2, .ref f3])), (f0, .inl (cD, 35, .inr (.inr (.inr (.inl (NF)))))), (f1, .inl (cZ, 35, .inl (GF))), (f2, .inl (cI, 30, .inl (TF))), (f3, .inl (cI, 6, .inl (OF))), (po, .inr (0, [.ref o0, .ref o1, .ref o2, .ref o3])), (o0, .inl (cD, 35, .inr (.inr (.inr (.inl (NO)))))), (o1, .inl (cZ, 35, .inl (GO))), (o2, .inl (cI, 30, .inl (TO))), (o3, .inl (cI, 6, .inl (OO))), (tt, .inr (3, [.ref t0])), (t0, .inl (cL, 42, .inr (.inl (DG))))] H := hP
  have hD : va_D A [(h, .inr (1, [.ref pf, .ref po, .ref tt, .int (nI (nn + 1))])), (pf, .inr (0, [.ref f0, .ref f1, .ref f2, .ref f3])), (f0, .inl (cD, 35, .inr (.inr (.inr (.inl (NF)))))), (f1, .inl (cZ, 35, .inl (GF))), (f2, .inl (cI, 30, .inl (TF))), (f3, .inl (cI, 6, .inl (OF))), (po, .inr (0, [.ref o0, .ref o1, .ref o2, .ref o3])), (o0, .inl (cD, 35, .inr (.inr (.inr (.inl (NO)))))), (o1, .inl (cZ, 35, .inl (GO))), (o2, .inl (cI, 30, .inl (TO))), (o3, .inl (cI, 6, .inl (OO))), (tt, .inr (3, [.ref t0])), (t0, .inl (cL, 42, .inr (.inl (DG))))] := hD
  refine lv_iload_n hx hb dX1_entry_34 rfl (lv_at hl 0 rfl) ?_
  exact W.iret (v := nI nn) hx hb hr (fun t ht hW => ⟨⟨_, (), rfl, rfl, by rw [ht]; exact hP, va_K.moved hW.alike hK, hD⟩, hS.F ht⟩) hS.2.2 dX1_entry_35
set_option maxHeartbeats 4000000 in
set_option maxRecDepth 100000 in
theorem c_X1_mark_ok (l : Launch) (dC : Nat → ClassId) (dI : Nat → Nat → Nat) (cD cZ cI cL : ClassId) (h pf f0 f1 f2 f3 po o0 o1 o2 o3 tt t0 : Nat) (NF : Nat → UInt64) (GF TF OF : Nat → Int32) (NO : Nat → UInt64) (GO TO OO : Nat → Int32) (DG : Nat → Int64) (nn : Nat) (sz : Nat) (hnn : nn ≤ 6) (en bn : Nat) (hen : en < nn) (hbn : bn < 5) (v : UInt64) (hvd : FP.dcmp v v = some .eq) : Met l yX1_mark wsX1_mark ({ frames := 1, cells := 0, slots := 0, locals := 23 }) (va_Pc [.ref h, .int (nI (en)), .int (nI (bn)), .double (v)] (fun U => U.heap.size = sz ∧ okJ dC dI cD cZ cI cL h pf f0 f1 f2 f3 po o0 o1 o2 o3 tt t0 NF GF TF OF NO GO TO OO DG nn true U U.heap ∧ va_D (fun _ => True) (wJ cD cZ cI cL h pf f0 f1 f2 f3 po o0 o1 o2 o3 tt t0 NF GF TF OF NO GO TO OO DG nn true))) (va_Qv (fun _ : Unit => True) (fun _ t => atJ dC dI cD cZ cI cL (va_A (wJ cD cZ cI cL h pf f0 f1 f2 f3 po o0 o1 o2 o3 tt t0 NF GF TF OF NO GO TO OO DG nn true) sz) h pf f0 f1 f2 f3 po o0 o1 o2 o3 tt t0 (vf_upd NF (en * 5 + bn) v) (upd GF (en * 5 + bn) (nI (Bool.toNat true))) TF OF NO GO TO OO DG nn true t) (va_A (wJ cD cZ cI cL h pf f0 f1 f2 f3 po o0 o1 o2 o3 tt t0 NF GF TF OF NO GO TO OO DG nn true) sz)) 0 0 (va_A (wJ cD cZ cI cL h pf f0 f1 f2 f3 po o0 o1 o2 o3 tt t0 NF GF TF OF NO GO TO OO DG nn true) sz) := by
  refine Met.ofW (cc := cX1_mark) (maxL := 5) (ret := none) (by decide) rfl ?_
  intro p e s m args below meth c s₁ B hml hv
  obtain ⟨rfl, hsz, hO, hD0⟩ := hv
  obtain ⟨hP, hK, hE⟩ := id hO
  have hx := B.exec
  have hb := B.bytes
  have hr := B.returns
  have hts := atoms_spec (ws := wsX1_mark) B.pre
  have hown : s.vm.findClass RX1 = some m.cls := findClass_of_methodNamed B.named
  have hlocks := B.notSynchronized
  subst hsz
  have hD := hD0.self (sz := s.heap.size)
  generalize hAe : va_A (wJ cD cZ cI cL h pf f0 f1 f2 f3 po o0 o1 o2 o3 tt t0 NF GF TF OF NO GO TO OO DG nn true) s.heap.size = A at hD ⊢
  have hA : ∀ q : Nat, s.heap.size ≤ q → A q := fun q h => by rw [← hAe]; exact Or.inr h
  have hS : va_S A s.heap s.heap [] := va_S.rf
  have hP : va_P (dC, dI) vwCl [(h, .inr (1, [.ref pf, .ref po, .ref tt, .int (nI (nn))])), (pf, .inr (0, [.ref f0, .ref f1, .ref f2, .ref f3])), (f0, .inl (cD, 35, .inr (.inr (.inr (.inl (NF)))))), (f1, .inl (cZ, 35, .inl (GF))), (f2, .inl (cI, 30, .inl (TF))), (f3, .inl (cI, 6, .inl (OF))), (po, .inr (0, [.ref o0, .ref o1, .ref o2, .ref o3])), (o0, .inl (cD, 35, .inr (.inr (.inr (.inl (NO)))))), (o1, .inl (cZ, 35, .inl (GO))), (o2, .inl (cI, 30, .inl (TO))), (o3, .inl (cI, 6, .inl (OO))), (tt, .inr (3, [.ref t0])), (t0, .inl (cL, 42, .inr (.inl (DG))))] s.heap := hP
  have hD : va_D A [(h, .inr (1, [.ref pf, .ref po, .ref tt, .int (nI (nn))])), (pf, .inr (0, [.ref f0, .ref f1, .ref f2, .ref f3])), (f0, .inl (cD, 35, .inr (.inr (.inr (.inl (NF)))))), (f1, .inl (cZ, 35, .inl (GF))), (f2, .inl (cI, 30, .inl (TF))), (f3, .inl (cI, 6, .inl (OF))), (po, .inr (0, [.ref o0, .ref o1, .ref o2, .ref o3])), (o0, .inl (cD, 35, .inr (.inr (.inr (.inl (NO)))))), (o1, .inl (cZ, 35, .inl (GO))), (o2, .inl (cI, 30, .inl (TO))), (o3, .inl (cI, 6, .inl (OO))), (tt, .inr (3, [.ref t0])), (t0, .inl (cL, 42, .inr (.inl (DG))))] := hD
  have hin1 : ∀ w ∈ wsX10, w ∈ wsX1_mark := (fun w h => List.mem_cons_of_mem _ (List.mem_append_left _ (List.mem_append_left _ (List.mem_append_right _ h))))
  have fl12 := hts (.fieldLink RX1 12 "JuryTable" "judges" "LJuryTable$Panel;") (by decide +kernel)
  have hl := lv_entry ([.ref h, .int (nI (en)), .int (nI (bn)), .double (v)]) (n := 5) (Nat.le_of_ble_eq_true rfl)
  rw [lg_entry_eq]
  generalize (lg_sl ([.ref h, .int (nI (en)), .int (nI (bn)), .double (v)]) ++ List.replicate (5 - (lg_sl ([.ref h, .int (nI (en)), .int (nI (bn)), .double (v)])).length) Slot.unset).toArray = ls at hl ⊢
  have hl : lv_has ls 5 [(0, .ref h), (1, .int (nI (en))), (2, .int (nI (bn))), (3, .double (v))] := hl
  have hN := hE.nest
  refine lv_aload_n hx hb dX1_mark_0 rfl (lv_at hl 0 rfl) ?_
  refine lv_iload_n hx hb dX1_mark_1 rfl (lv_at hl 1 rfl) ?_
  refine va_csv (va_Run.run (va_runV (As := [.int (nI (en))]) (rest := []) ⟨hx, hb, hml, hown, hts⟩ (c_X1_requireEntry_ok l dC dI cD cZ cI cL h pf f0 f1 f2 f3 po o0 o1 o2 o3 tt t0 NF GF TF OF NO GO TO OO DG nn true (en) (by omega) (by omega)) (cwV 1 hts gX1_mark_X1_requireEntry rfl rfl rfl (by decide +kernel) ⟨Nat.le_of_ble_eq_true rfl, Nat.le_of_ble_eq_true rfl⟩) (okJ_pre ⟨hP, hK, hE⟩) rfl rfl hl.1 rfl (lv_room (Nat.le_of_ble_eq_true rfl)) dX1_mark_2 ⟨Nat.zero_le _, Nat.zero_le _⟩)) (fun _ => ?_)
  refine lv_iload_n hx hb dX1_mark_5 rfl (lv_at hl 2 rfl) ?_
  refine va_csv (va_Run.run (va_runS (As := [.int (nI (bn))]) (rest := []) ⟨hx, hb, hml, hown, hts⟩ (c_X1_requireSeat_ok l (bn) (by omega)) (va_cwS 1 hts gX1_mark_X1_requireSeat rfl rfl rfl (by decide +kernel) ⟨Nat.le_of_ble_eq_true rfl, Nat.le_of_ble_eq_true rfl⟩) preT rfl rfl hl.1 rfl (lv_room (Nat.le_of_ble_eq_true rfl)) dX1_mark_6 ⟨Nat.zero_le _, Nat.zero_le _⟩)) (fun _ => ?_)
  refine lv_aload_n hx hb dX1_mark_9 rfl (lv_at hl 0 rfl) ?_
  refine va_get (D := (dC, dI)) (ci := 1) (v := .ref pf) (C := RX1) (T := TX1) (N := 4) hx hb hts hin1 hown hK hP 0 rfl rfl 0 (by decide) fl12 (fun _ h9 => h9) rfl dX1_mark_10 ?_
  refine lv_iload_n hx hb dX1_mark_13 rfl (lv_at hl 1 rfl) ?_
  refine lv_iload_n hx hb dX1_mark_14 rfl (lv_at hl 2 rfl) ?_
  refine vp_callSi (va_Run.run (va_runS (As := [.int (nI (en)), .int (nI (bn))]) (rest := [.ref pf]) ⟨hx, hb, hml, hown, hts⟩ (c_X1_cellOf l (en) (bn)) (va_cwS 2 hts gX1_mark_X1_cellOf rfl rfl rfl (by decide +kernel) ⟨Nat.le_of_ble_eq_true rfl, Nat.le_of_ble_eq_true rfl⟩) preT rfl rfl hl.1 rfl (lv_room (Nat.le_of_ble_eq_true rfl)) dX1_mark_15 ⟨Nat.zero_le _, Nat.zero_le _⟩)) (fun r3 er3 => ?_)
  subst er3
  refine lv_dload_n hx hb dX1_mark_18 rfl (lv_at hl 3 rfl) ?_
  have hPc := hP.sub (ws' := [(pf, .inr (0, [.ref f0, .ref f1, .ref f2, .ref f3])), (f0, .inl (cD, 35, .inr (.inr (.inr (.inl (NF)))))), (f1, .inl (cZ, 35, .inl (GF))), (f2, .inl (cI, 30, .inl (TF))), (f3, .inl (cI, 6, .inl (OF)))]) [1, 2, 3, 4, 5] rfl
  have hDc := hD.sub (ws' := [(pf, .inr (0, [.ref f0, .ref f1, .ref f2, .ref f3])), (f0, .inl (cD, 35, .inr (.inr (.inr (.inl (NF)))))), (f1, .inl (cZ, 35, .inl (GF))), (f2, .inl (cI, 30, .inl (TF))), (f3, .inl (cI, 6, .inl (OF)))]) [1, 2, 3, 4, 5] (by decide) rfl
  have hFc := va_free (wc := [(pf, .inr (0, [.ref f0, .ref f1, .ref f2, .ref f3])), (f0, .inl (cD, 35, .inr (.inr (.inr (.inl (NF)))))), (f1, .inl (cZ, 35, .inl (GF))), (f2, .inl (cI, 30, .inl (TF))), (f3, .inl (cI, 6, .inl (OF)))]) hD hS hA [1, 2, 3, 4, 5] rfl
  refine va_callv (va_runV (As := [.int (nI (en * 5 + bn)), .double (v)]) (rest := []) ⟨hx, hb, hml, hown, hts⟩ (c_X0_writeDouble l dC dI cD cZ cI cL pf f0 f1 f2 f3 NF GF TF OF s.heap.size (en * 5 + bn) (v) (by omega) (hvd)) (cwV 2 hts gX1_mark_X0_writeDouble rfl rfl rfl (by decide +kernel) ⟨Nat.le_of_ble_eq_true rfl, Nat.le_of_ble_eq_true rfl⟩) (okPW_pre ⟨hPc, hK, hN⟩ hDc) rfl rfl hl.1 rfl (lv_room (Nat.le_of_ble_eq_true rfl)) dX1_mark_19 ⟨Nat.zero_le _, Nat.zero_le _⟩) hS (fun q _ h => hFc q h) hFc (fun u4 t H1 locs ht hvm hw hB hz1 hk1 hS => ?_)
  obtain ⟨hP1, hK1, hD1⟩ := hB
  rw [ht] at hP1
  obtain ⟨hP, hD⟩ := va_join (wr := [(h, .inr (1, [.ref pf, .ref po, .ref tt, .int (nI (nn))])), (po, .inr (0, [.ref o0, .ref o1, .ref o2, .ref o3])), (o0, .inl (cD, 35, .inr (.inr (.inr (.inl (NO)))))), (o1, .inl (cZ, 35, .inl (GO))), (o2, .inl (cI, 30, .inl (TO))), (o3, .inl (cI, 6, .inl (OO))), (tt, .inr (3, [.ref t0])), (t0, .inl (cL, 42, .inr (.inl (DG))))]) (w1 := [(pf, .inr (0, [.ref f0, .ref f1, .ref f2, .ref f3])), (f0, .inl (cD, 35, .inr (.inr (.inr (.inl (vf_upd NF (en * 5 + bn) v)))))), (f1, .inl (cZ, 35, .inl (upd GF (en * 5 + bn) (nI (Bool.toNat true))))), (f2, .inl (cI, 30, .inl (TF))), (f3, .inl (cI, 6, .inl (OF)))]) hP hD [1, 2, 3, 4, 5] [0, 6, 7, 8, 9, 10, 11, 12] rfl rfl (by decide) (by decide) hk1 hFc hP1 hD1
  have hP := hP.sub (ws' := [(h, .inr (1, [.ref pf, .ref po, .ref tt, .int (nI (nn))])), (pf, .inr (0, [.ref f0, .ref f1, .ref f2, .ref f3])), (f0, .inl (cD, 35, .inr (.inr (.inr (.inl (vf_upd NF (en * 5 + bn) v)))))), (f1, .inl (cZ, 35, .inl (upd GF (en * 5 + bn) (nI (Bool.toNat true))))), (f2, .inl (cI, 30, .inl (TF))), (f3, .inl (cI, 6, .inl (OF))), (po, .inr (0, [.ref o0, .ref o1, .ref o2, .ref o3])), (o0, .inl (cD, 35, .inr (.inr (.inr (.inl (NO)))))), (o1, .inl (cZ, 35, .inl (GO))), (o2, .inl (cI, 30, .inl (TO))), (o3, .inl (cI, 6, .inl (OO))), (tt, .inr (3, [.ref t0])), (t0, .inl (cL, 42, .inr (.inl (DG))))]) [0, 8, 9, 10, 11, 12, 1, 2, 3, 4, 5, 6, 7] rfl
  have hD := hD.sub (ws' := [(h, .inr (1, [.ref pf, .ref po, .ref tt, .int (nI (nn))])), (pf, .inr (0, [.ref f0, .ref f1, .ref f2, .ref f3])), (f0, .inl (cD, 35, .inr (.inr (.inr (.inl (vf_upd NF (en * 5 + bn) v)))))), (f1, .inl (cZ, 35, .inl (upd GF (en * 5 + bn) (nI (Bool.toNat true))))), (f2, .inl (cI, 30, .inl (TF))), (f3, .inl (cI, 6, .inl (OF))), (po, .inr (0, [.ref o0, .ref o1, .ref o2, .ref o3])), (o0, .inl (cD, 35, .inr (.inr (.inr (.inl (NO)))))), (o1, .inl (cZ, 35, .inl (GO))), (o2, .inl (cI, 30, .inl (TO))), (o3, .inl (cI, 6, .inl (OO))), (tt, .inr (3, [.ref t0])), (t0, .inl (cL, 42, .inr (.inl (DG))))]) [0, 8, 9, 10, 11, 12, 1, 2, 3, 4, 5, 6, 7] (by decide) rfl
  generalize H1 = H at hP hS ⊢
  have hP : va_P (dC, dI) vwCl [(h, .inr (1, [.ref pf, .ref po, .ref tt, .int (nI (nn))])), (pf, .inr (0, [.ref f0, .ref f1, .ref f2, .ref f3])), (f0, .inl (cD, 35, .inr (.inr (.inr (.inl (vf_upd NF (en * 5 + bn) v)))))), (f1, .inl (cZ, 35, .inl (upd GF (en * 5 + bn) (nI (Bool.toNat true))))), (f2, .inl (cI, 30, .inl (TF))), (f3, .inl (cI, 6, .inl (OF))), (po, .inr (0, [.ref o0, .ref o1, .ref o2, .ref o3])), (o0, .inl (cD, 35, .inr (.inr (.inr (.inl (NO)))))), (o1, .inl (cZ, 35, .inl (GO))), (o2, .inl (cI, 30, .inl (TO))), (o3, .inl (cI, 6, .inl (OO))), (tt, .inr (3, [.ref t0])), (t0, .inl (cL, 42, .inr (.inl (DG))))] H := hP
  have hD : va_D A [(h, .inr (1, [.ref pf, .ref po, .ref tt, .int (nI (nn))])), (pf, .inr (0, [.ref f0, .ref f1, .ref f2, .ref f3])), (f0, .inl (cD, 35, .inr (.inr (.inr (.inl (vf_upd NF (en * 5 + bn) v)))))), (f1, .inl (cZ, 35, .inl (upd GF (en * 5 + bn) (nI (Bool.toNat true))))), (f2, .inl (cI, 30, .inl (TF))), (f3, .inl (cI, 6, .inl (OF))), (po, .inr (0, [.ref o0, .ref o1, .ref o2, .ref o3])), (o0, .inl (cD, 35, .inr (.inr (.inr (.inl (NO)))))), (o1, .inl (cZ, 35, .inl (GO))), (o2, .inl (cI, 30, .inl (TO))), (o3, .inl (cI, 6, .inl (OO))), (tt, .inr (3, [.ref t0])), (t0, .inl (cL, 42, .inr (.inl (DG))))] := hD
  exact W.vret hx hb hr (fun t ht hW => ⟨⟨(), rfl, trivial, by rw [ht]; exact hP, va_K.moved hW.alike hK, hD⟩, hS.F ht⟩) hS.2.2 dX1_mark_22
set_option maxHeartbeats 4000000 in
set_option maxRecDepth 100000 in
theorem c_X1_points_ok (l : Launch) (dC : Nat → ClassId) (dI : Nat → Nat → Nat) (cD cZ cI cL : ClassId) (h pf f0 f1 f2 f3 po o0 o1 o2 o3 tt t0 : Nat) (NF : Nat → UInt64) (GF TF OF : Nat → Int32) (NO : Nat → UInt64) (GO TO OO : Nat → Int32) (DG : Nat → Int64) (nn : Nat) (sz : Nat) (hnn : nn ≤ 6) (en bn : Nat) (hen : en < nn) (hbn : bn < 5) (fv : UInt32) (hvf : FP.fcmp fv fv = some .eq) (hnf : vf_n64 (FP.f2d fv)) (hvd : FP.dcmp (FP.f2d fv) (FP.f2d fv) = some .eq) : Met l yX1_points wsX1_points ({ frames := 2, cells := 0, slots := 0, locals := 45 }) (va_Pc [.ref h, .int (nI (en)), .int (nI (bn)), .float (fv)] (fun U => U.heap.size = sz ∧ okJ dC dI cD cZ cI cL h pf f0 f1 f2 f3 po o0 o1 o2 o3 tt t0 NF GF TF OF NO GO TO OO DG nn false U U.heap ∧ va_D (fun _ => True) (wJ cD cZ cI cL h pf f0 f1 f2 f3 po o0 o1 o2 o3 tt t0 NF GF TF OF NO GO TO OO DG nn false))) (va_Qv (fun _ : Unit => True) (fun _ t => atJ dC dI cD cZ cI cL (va_A (wJ cD cZ cI cL h pf f0 f1 f2 f3 po o0 o1 o2 o3 tt t0 NF GF TF OF NO GO TO OO DG nn false) sz) h pf f0 f1 f2 f3 po o0 o1 o2 o3 tt t0 (vf_upd NF (en * 5 + bn) (FP.f2d fv)) (upd GF (en * 5 + bn) (nI (Bool.toNat true))) TF OF NO GO TO OO DG nn false t) (va_A (wJ cD cZ cI cL h pf f0 f1 f2 f3 po o0 o1 o2 o3 tt t0 NF GF TF OF NO GO TO OO DG nn false) sz)) 0 0 (va_A (wJ cD cZ cI cL h pf f0 f1 f2 f3 po o0 o1 o2 o3 tt t0 NF GF TF OF NO GO TO OO DG nn false) sz) := by
  refine Met.ofW (cc := cX1_points) (maxL := 4) (ret := none) (by decide) rfl ?_
  intro p e s m args below meth c s₁ B hml hv
  obtain ⟨rfl, hsz, hO, hD0⟩ := hv
  obtain ⟨hP, hK, hE⟩ := id hO
  have hx := B.exec
  have hb := B.bytes
  have hr := B.returns
  have hts := atoms_spec (ws := wsX1_points) B.pre
  have hown : s.vm.findClass RX1 = some m.cls := findClass_of_methodNamed B.named
  have hlocks := B.notSynchronized
  subst hsz
  have hD := hD0.self (sz := s.heap.size)
  generalize hAe : va_A (wJ cD cZ cI cL h pf f0 f1 f2 f3 po o0 o1 o2 o3 tt t0 NF GF TF OF NO GO TO OO DG nn false) s.heap.size = A at hD ⊢
  have hA : ∀ q : Nat, s.heap.size ≤ q → A q := fun q h => by rw [← hAe]; exact Or.inr h
  have hS : va_S A s.heap s.heap [] := va_S.rf
  have hP : va_P (dC, dI) vwCl [(h, .inr (1, [.ref po, .ref pf, .ref tt, .int (nI (nn))])), (pf, .inr (0, [.ref f0, .ref f1, .ref f2, .ref f3])), (f0, .inl (cD, 35, .inr (.inr (.inr (.inl (NF)))))), (f1, .inl (cZ, 35, .inl (GF))), (f2, .inl (cI, 30, .inl (TF))), (f3, .inl (cI, 6, .inl (OF))), (po, .inr (0, [.ref o0, .ref o1, .ref o2, .ref o3])), (o0, .inl (cD, 35, .inr (.inr (.inr (.inl (NO)))))), (o1, .inl (cZ, 35, .inl (GO))), (o2, .inl (cI, 30, .inl (TO))), (o3, .inl (cI, 6, .inl (OO))), (tt, .inr (3, [.ref t0])), (t0, .inl (cL, 42, .inr (.inl (DG))))] s.heap := hP
  have hD : va_D A [(h, .inr (1, [.ref po, .ref pf, .ref tt, .int (nI (nn))])), (pf, .inr (0, [.ref f0, .ref f1, .ref f2, .ref f3])), (f0, .inl (cD, 35, .inr (.inr (.inr (.inl (NF)))))), (f1, .inl (cZ, 35, .inl (GF))), (f2, .inl (cI, 30, .inl (TF))), (f3, .inl (cI, 6, .inl (OF))), (po, .inr (0, [.ref o0, .ref o1, .ref o2, .ref o3])), (o0, .inl (cD, 35, .inr (.inr (.inr (.inl (NO)))))), (o1, .inl (cZ, 35, .inl (GO))), (o2, .inl (cI, 30, .inl (TO))), (o3, .inl (cI, 6, .inl (OO))), (tt, .inr (3, [.ref t0])), (t0, .inl (cL, 42, .inr (.inl (DG))))] := hD
  have hin1 : ∀ w ∈ wsX10, w ∈ wsX1_points := (fun w h => List.mem_cons_of_mem _ (List.mem_append_left _ (List.mem_append_left _ (List.mem_append_right _ h))))
  have fl16 := hts (.fieldLink RX1 16 "JuryTable" "scorers" "LJuryTable$Panel;") (by decide +kernel)
  have hl := lv_entry ([.ref h, .int (nI (en)), .int (nI (bn)), .float (fv)]) (n := 4) (Nat.le_of_ble_eq_true rfl)
  rw [lg_entry_eq]
  generalize (lg_sl ([.ref h, .int (nI (en)), .int (nI (bn)), .float (fv)]) ++ List.replicate (4 - (lg_sl ([.ref h, .int (nI (en)), .int (nI (bn)), .float (fv)])).length) Slot.unset).toArray = ls at hl ⊢
  have hl : lv_has ls 4 [(0, .ref h), (1, .int (nI (en))), (2, .int (nI (bn))), (3, .float (fv))] := hl
  have hN := hE.nest
  refine lv_aload_n hx hb dX1_points_0 rfl (lv_at hl 0 rfl) ?_
  refine lv_iload_n hx hb dX1_points_1 rfl (lv_at hl 1 rfl) ?_
  refine va_csv (va_Run.run (va_runV (As := [.int (nI (en))]) (rest := []) ⟨hx, hb, hml, hown, hts⟩ (c_X1_requireEntry_ok l dC dI cD cZ cI cL h pf f0 f1 f2 f3 po o0 o1 o2 o3 tt t0 NF GF TF OF NO GO TO OO DG nn false (en) (by omega) (by omega)) (cwV 1 hts gX1_points_X1_requireEntry rfl rfl rfl (by decide +kernel) ⟨Nat.le_of_ble_eq_true rfl, Nat.le_of_ble_eq_true rfl⟩) (okJ_pre ⟨hP, hK, hE⟩) rfl rfl hl.1 rfl (lv_room (Nat.le_of_ble_eq_true rfl)) dX1_points_2 ⟨Nat.zero_le _, Nat.zero_le _⟩)) (fun _ => ?_)
  refine lv_iload_n hx hb dX1_points_5 rfl (lv_at hl 2 rfl) ?_
  refine va_csv (va_Run.run (va_runS (As := [.int (nI (bn))]) (rest := []) ⟨hx, hb, hml, hown, hts⟩ (c_X1_requireSeat_ok l (bn) (by omega)) (va_cwS 1 hts gX1_points_X1_requireSeat rfl rfl rfl (by decide +kernel) ⟨Nat.le_of_ble_eq_true rfl, Nat.le_of_ble_eq_true rfl⟩) preT rfl rfl hl.1 rfl (lv_room (Nat.le_of_ble_eq_true rfl)) dX1_points_6 ⟨Nat.zero_le _, Nat.zero_le _⟩)) (fun _ => ?_)
  refine lv_aload_n hx hb dX1_points_9 rfl (lv_at hl 0 rfl) ?_
  refine va_get (D := (dC, dI)) (ci := 1) (v := .ref pf) (C := RX1) (T := TX1) (N := 4) hx hb hts hin1 hown hK hP 0 rfl rfl 1 (by decide) fl16 (fun _ h9 => h9) rfl dX1_points_10 ?_
  refine lv_iload_n hx hb dX1_points_13 rfl (lv_at hl 1 rfl) ?_
  refine lv_iload_n hx hb dX1_points_14 rfl (lv_at hl 2 rfl) ?_
  refine vp_callSi (va_Run.run (va_runS (As := [.int (nI (en)), .int (nI (bn))]) (rest := [.ref pf]) ⟨hx, hb, hml, hown, hts⟩ (c_X1_cellOf l (en) (bn)) (va_cwS 2 hts gX1_points_X1_cellOf rfl rfl rfl (by decide +kernel) ⟨Nat.le_of_ble_eq_true rfl, Nat.le_of_ble_eq_true rfl⟩) preT rfl rfl hl.1 rfl (lv_room (Nat.le_of_ble_eq_true rfl)) dX1_points_15 ⟨Nat.zero_le _, Nat.zero_le _⟩)) (fun r3 er3 => ?_)
  subst er3
  refine lv_fload_n hx hb dX1_points_18 rfl (lv_at hl 3 rfl) ?_
  have hPc := hP.sub (ws' := [(pf, .inr (0, [.ref f0, .ref f1, .ref f2, .ref f3])), (f0, .inl (cD, 35, .inr (.inr (.inr (.inl (NF)))))), (f1, .inl (cZ, 35, .inl (GF))), (f2, .inl (cI, 30, .inl (TF))), (f3, .inl (cI, 6, .inl (OF)))]) [1, 2, 3, 4, 5] rfl
  have hDc := hD.sub (ws' := [(pf, .inr (0, [.ref f0, .ref f1, .ref f2, .ref f3])), (f0, .inl (cD, 35, .inr (.inr (.inr (.inl (NF)))))), (f1, .inl (cZ, 35, .inl (GF))), (f2, .inl (cI, 30, .inl (TF))), (f3, .inl (cI, 6, .inl (OF)))]) [1, 2, 3, 4, 5] (by decide) rfl
  have hFc := va_free (wc := [(pf, .inr (0, [.ref f0, .ref f1, .ref f2, .ref f3])), (f0, .inl (cD, 35, .inr (.inr (.inr (.inl (NF)))))), (f1, .inl (cZ, 35, .inl (GF))), (f2, .inl (cI, 30, .inl (TF))), (f3, .inl (cI, 6, .inl (OF)))]) hD hS hA [1, 2, 3, 4, 5] rfl
  refine va_callv (va_runV (As := [.int (nI (en * 5 + bn)), .float (fv)]) (rest := []) ⟨hx, hb, hml, hown, hts⟩ (c_X0_writeFloat l dC dI cD cZ cI cL pf f0 f1 f2 f3 NF GF TF OF s.heap.size (en * 5 + bn) (fv) (by omega) hvf hnf hvd) (cwV 2 hts gX1_points_X0_writeFloat rfl rfl rfl (by decide +kernel) ⟨Nat.le_of_ble_eq_true rfl, Nat.le_of_ble_eq_true rfl⟩) (okPW_pre ⟨hPc, hK, hN⟩ hDc) rfl rfl hl.1 rfl (lv_room (Nat.le_of_ble_eq_true rfl)) dX1_points_19 ⟨Nat.zero_le _, Nat.zero_le _⟩) hS (fun q _ h => hFc q h) hFc (fun u4 t H1 locs ht hvm hw hB hz1 hk1 hS => ?_)
  obtain ⟨hP1, hK1, hD1⟩ := hB
  rw [ht] at hP1
  obtain ⟨hP, hD⟩ := va_join (wr := [(h, .inr (1, [.ref po, .ref pf, .ref tt, .int (nI (nn))])), (po, .inr (0, [.ref o0, .ref o1, .ref o2, .ref o3])), (o0, .inl (cD, 35, .inr (.inr (.inr (.inl (NO)))))), (o1, .inl (cZ, 35, .inl (GO))), (o2, .inl (cI, 30, .inl (TO))), (o3, .inl (cI, 6, .inl (OO))), (tt, .inr (3, [.ref t0])), (t0, .inl (cL, 42, .inr (.inl (DG))))]) (w1 := [(pf, .inr (0, [.ref f0, .ref f1, .ref f2, .ref f3])), (f0, .inl (cD, 35, .inr (.inr (.inr (.inl (vf_upd NF (en * 5 + bn) (FP.f2d fv))))))), (f1, .inl (cZ, 35, .inl (upd GF (en * 5 + bn) (nI (Bool.toNat true))))), (f2, .inl (cI, 30, .inl (TF))), (f3, .inl (cI, 6, .inl (OF)))]) hP hD [1, 2, 3, 4, 5] [0, 6, 7, 8, 9, 10, 11, 12] rfl rfl (by decide) (by decide) hk1 hFc hP1 hD1
  have hP := hP.sub (ws' := [(h, .inr (1, [.ref po, .ref pf, .ref tt, .int (nI (nn))])), (pf, .inr (0, [.ref f0, .ref f1, .ref f2, .ref f3])), (f0, .inl (cD, 35, .inr (.inr (.inr (.inl (vf_upd NF (en * 5 + bn) (FP.f2d fv))))))), (f1, .inl (cZ, 35, .inl (upd GF (en * 5 + bn) (nI (Bool.toNat true))))), (f2, .inl (cI, 30, .inl (TF))), (f3, .inl (cI, 6, .inl (OF))), (po, .inr (0, [.ref o0, .ref o1, .ref o2, .ref o3])), (o0, .inl (cD, 35, .inr (.inr (.inr (.inl (NO)))))), (o1, .inl (cZ, 35, .inl (GO))), (o2, .inl (cI, 30, .inl (TO))), (o3, .inl (cI, 6, .inl (OO))), (tt, .inr (3, [.ref t0])), (t0, .inl (cL, 42, .inr (.inl (DG))))]) [0, 8, 9, 10, 11, 12, 1, 2, 3, 4, 5, 6, 7] rfl
  have hD := hD.sub (ws' := [(h, .inr (1, [.ref po, .ref pf, .ref tt, .int (nI (nn))])), (pf, .inr (0, [.ref f0, .ref f1, .ref f2, .ref f3])), (f0, .inl (cD, 35, .inr (.inr (.inr (.inl (vf_upd NF (en * 5 + bn) (FP.f2d fv))))))), (f1, .inl (cZ, 35, .inl (upd GF (en * 5 + bn) (nI (Bool.toNat true))))), (f2, .inl (cI, 30, .inl (TF))), (f3, .inl (cI, 6, .inl (OF))), (po, .inr (0, [.ref o0, .ref o1, .ref o2, .ref o3])), (o0, .inl (cD, 35, .inr (.inr (.inr (.inl (NO)))))), (o1, .inl (cZ, 35, .inl (GO))), (o2, .inl (cI, 30, .inl (TO))), (o3, .inl (cI, 6, .inl (OO))), (tt, .inr (3, [.ref t0])), (t0, .inl (cL, 42, .inr (.inl (DG))))]) [0, 8, 9, 10, 11, 12, 1, 2, 3, 4, 5, 6, 7] (by decide) rfl
  generalize H1 = H at hP hS ⊢
  have hP : va_P (dC, dI) vwCl [(h, .inr (1, [.ref po, .ref pf, .ref tt, .int (nI (nn))])), (pf, .inr (0, [.ref f0, .ref f1, .ref f2, .ref f3])), (f0, .inl (cD, 35, .inr (.inr (.inr (.inl (vf_upd NF (en * 5 + bn) (FP.f2d fv))))))), (f1, .inl (cZ, 35, .inl (upd GF (en * 5 + bn) (nI (Bool.toNat true))))), (f2, .inl (cI, 30, .inl (TF))), (f3, .inl (cI, 6, .inl (OF))), (po, .inr (0, [.ref o0, .ref o1, .ref o2, .ref o3])), (o0, .inl (cD, 35, .inr (.inr (.inr (.inl (NO)))))), (o1, .inl (cZ, 35, .inl (GO))), (o2, .inl (cI, 30, .inl (TO))), (o3, .inl (cI, 6, .inl (OO))), (tt, .inr (3, [.ref t0])), (t0, .inl (cL, 42, .inr (.inl (DG))))] H := hP
  have hD : va_D A [(h, .inr (1, [.ref po, .ref pf, .ref tt, .int (nI (nn))])), (pf, .inr (0, [.ref f0, .ref f1, .ref f2, .ref f3])), (f0, .inl (cD, 35, .inr (.inr (.inr (.inl (vf_upd NF (en * 5 + bn) (FP.f2d fv))))))), (f1, .inl (cZ, 35, .inl (upd GF (en * 5 + bn) (nI (Bool.toNat true))))), (f2, .inl (cI, 30, .inl (TF))), (f3, .inl (cI, 6, .inl (OF))), (po, .inr (0, [.ref o0, .ref o1, .ref o2, .ref o3])), (o0, .inl (cD, 35, .inr (.inr (.inr (.inl (NO)))))), (o1, .inl (cZ, 35, .inl (GO))), (o2, .inl (cI, 30, .inl (TO))), (o3, .inl (cI, 6, .inl (OO))), (tt, .inr (3, [.ref t0])), (t0, .inl (cL, 42, .inr (.inl (DG))))] := hD
  exact W.vret hx hb hr (fun t ht hW => ⟨⟨(), rfl, trivial, by rw [ht]; exact hP, va_K.moved hW.alike hK, hD⟩, hS.F ht⟩) hS.2.2 dX1_points_22
set_option maxHeartbeats 4000000 in
set_option maxRecDepth 100000 in
theorem c_X1_bar_ok (l : Launch) (dC : Nat → ClassId) (dI : Nat → Nat → Nat) (cD cZ cI cL : ClassId) (h pf f0 f1 f2 f3 po o0 o1 o2 o3 tt t0 : Nat) (NF : Nat → UInt64) (GF TF OF : Nat → Int32) (NO : Nat → UInt64) (GO TO OO : Nat → Int32) (DG : Nat → Int64) (nn : Nat) (sz : Nat) (bn : Nat) (hbn : bn < 5) (v : UInt64) (hvd : FP.dcmp v v = some .eq) : Met l yX1_bar wsX1_bar ({ frames := 1, cells := 0, slots := 0, locals := 23 }) (va_Pc [.ref h, .int (nI (bn)), .double (v)] (fun U => U.heap.size = sz ∧ okJ dC dI cD cZ cI cL h pf f0 f1 f2 f3 po o0 o1 o2 o3 tt t0 NF GF TF OF NO GO TO OO DG nn true U U.heap ∧ va_D (fun _ => True) (wJ cD cZ cI cL h pf f0 f1 f2 f3 po o0 o1 o2 o3 tt t0 NF GF TF OF NO GO TO OO DG nn true))) (va_Qv (fun _ : Unit => True) (fun _ t => atJ dC dI cD cZ cI cL (va_A (wJ cD cZ cI cL h pf f0 f1 f2 f3 po o0 o1 o2 o3 tt t0 NF GF TF OF NO GO TO OO DG nn true) sz) h pf f0 f1 f2 f3 po o0 o1 o2 o3 tt t0 (vf_upd NF (6 * 5 + bn) v) (upd GF (6 * 5 + bn) (nI (Bool.toNat true))) TF OF NO GO TO OO DG nn true t) (va_A (wJ cD cZ cI cL h pf f0 f1 f2 f3 po o0 o1 o2 o3 tt t0 NF GF TF OF NO GO TO OO DG nn true) sz)) 0 0 (va_A (wJ cD cZ cI cL h pf f0 f1 f2 f3 po o0 o1 o2 o3 tt t0 NF GF TF OF NO GO TO OO DG nn true) sz) := by
  refine Met.ofW (cc := cX1_bar) (maxL := 4) (ret := none) (by decide) rfl ?_
  intro p e s m args below meth c s₁ B hml hv
  obtain ⟨rfl, hsz, hO, hD0⟩ := hv
  obtain ⟨hP, hK, hE⟩ := id hO
  have hx := B.exec
  have hb := B.bytes
  have hr := B.returns
  have hts := atoms_spec (ws := wsX1_bar) B.pre
  have hown : s.vm.findClass RX1 = some m.cls := findClass_of_methodNamed B.named
  have hlocks := B.notSynchronized
  subst hsz
  have hD := hD0.self (sz := s.heap.size)
  generalize hAe : va_A (wJ cD cZ cI cL h pf f0 f1 f2 f3 po o0 o1 o2 o3 tt t0 NF GF TF OF NO GO TO OO DG nn true) s.heap.size = A at hD ⊢
  have hA : ∀ q : Nat, s.heap.size ≤ q → A q := fun q h => by rw [← hAe]; exact Or.inr h
  have hS : va_S A s.heap s.heap [] := va_S.rf
  have hP : va_P (dC, dI) vwCl [(h, .inr (1, [.ref pf, .ref po, .ref tt, .int (nI (nn))])), (pf, .inr (0, [.ref f0, .ref f1, .ref f2, .ref f3])), (f0, .inl (cD, 35, .inr (.inr (.inr (.inl (NF)))))), (f1, .inl (cZ, 35, .inl (GF))), (f2, .inl (cI, 30, .inl (TF))), (f3, .inl (cI, 6, .inl (OF))), (po, .inr (0, [.ref o0, .ref o1, .ref o2, .ref o3])), (o0, .inl (cD, 35, .inr (.inr (.inr (.inl (NO)))))), (o1, .inl (cZ, 35, .inl (GO))), (o2, .inl (cI, 30, .inl (TO))), (o3, .inl (cI, 6, .inl (OO))), (tt, .inr (3, [.ref t0])), (t0, .inl (cL, 42, .inr (.inl (DG))))] s.heap := hP
  have hD : va_D A [(h, .inr (1, [.ref pf, .ref po, .ref tt, .int (nI (nn))])), (pf, .inr (0, [.ref f0, .ref f1, .ref f2, .ref f3])), (f0, .inl (cD, 35, .inr (.inr (.inr (.inl (NF)))))), (f1, .inl (cZ, 35, .inl (GF))), (f2, .inl (cI, 30, .inl (TF))), (f3, .inl (cI, 6, .inl (OF))), (po, .inr (0, [.ref o0, .ref o1, .ref o2, .ref o3])), (o0, .inl (cD, 35, .inr (.inr (.inr (.inl (NO)))))), (o1, .inl (cZ, 35, .inl (GO))), (o2, .inl (cI, 30, .inl (TO))), (o3, .inl (cI, 6, .inl (OO))), (tt, .inr (3, [.ref t0])), (t0, .inl (cL, 42, .inr (.inl (DG))))] := hD
  have hin1 : ∀ w ∈ wsX10, w ∈ wsX1_bar := (fun w h => List.mem_cons_of_mem _ (List.mem_append_left _ (List.mem_append_left _ (List.mem_append_right _ h))))
  have fl12 := hts (.fieldLink RX1 12 "JuryTable" "judges" "LJuryTable$Panel;") (by decide +kernel)
  have hl := lv_entry ([.ref h, .int (nI (bn)), .double (v)]) (n := 4) (Nat.le_of_ble_eq_true rfl)
  rw [lg_entry_eq]
  generalize (lg_sl ([.ref h, .int (nI (bn)), .double (v)]) ++ List.replicate (4 - (lg_sl ([.ref h, .int (nI (bn)), .double (v)])).length) Slot.unset).toArray = ls at hl ⊢
  have hl : lv_has ls 4 [(0, .ref h), (1, .int (nI (bn))), (2, .double (v))] := hl
  have hN := hE.nest
  refine lv_iload_n hx hb dX1_bar_0 rfl (lv_at hl 1 rfl) ?_
  refine va_csv (va_Run.run (va_runS (As := [.int (nI (bn))]) (rest := []) ⟨hx, hb, hml, hown, hts⟩ (c_X1_requireSeat_ok l (bn) (by omega)) (va_cwS 1 hts gX1_bar_X1_requireSeat rfl rfl rfl (by decide +kernel) ⟨Nat.le_of_ble_eq_true rfl, Nat.le_of_ble_eq_true rfl⟩) preT rfl rfl hl.1 rfl (lv_room (Nat.le_of_ble_eq_true rfl)) dX1_bar_1 ⟨Nat.zero_le _, Nat.zero_le _⟩)) (fun _ => ?_)
  refine lv_aload_n hx hb dX1_bar_4 rfl (lv_at hl 0 rfl) ?_
  refine va_get (D := (dC, dI)) (ci := 1) (v := .ref pf) (C := RX1) (T := TX1) (N := 4) hx hb hts hin1 hown hK hP 0 rfl rfl 0 (by decide) fl12 (fun _ h9 => h9) rfl dX1_bar_5 ?_
  refine lv_bipush (v := nI 6) hx hb dX1_bar_8 (by decide) ?_
  refine lv_iload_n hx hb dX1_bar_10 rfl (lv_at hl 1 rfl) ?_
  refine vp_callSi (va_Run.run (va_runS (As := [.int (nI (6)), .int (nI (bn))]) (rest := [.ref pf]) ⟨hx, hb, hml, hown, hts⟩ (c_X1_cellOf l (6) (bn)) (va_cwS 2 hts gX1_bar_X1_cellOf rfl rfl rfl (by decide +kernel) ⟨Nat.le_of_ble_eq_true rfl, Nat.le_of_ble_eq_true rfl⟩) preT rfl rfl hl.1 rfl (lv_room (Nat.le_of_ble_eq_true rfl)) dX1_bar_11 ⟨Nat.zero_le _, Nat.zero_le _⟩)) (fun r2 er2 => ?_)
  subst er2
  refine lv_dload_n hx hb dX1_bar_14 rfl (lv_at hl 2 rfl) ?_
  have hPc := hP.sub (ws' := [(pf, .inr (0, [.ref f0, .ref f1, .ref f2, .ref f3])), (f0, .inl (cD, 35, .inr (.inr (.inr (.inl (NF)))))), (f1, .inl (cZ, 35, .inl (GF))), (f2, .inl (cI, 30, .inl (TF))), (f3, .inl (cI, 6, .inl (OF)))]) [1, 2, 3, 4, 5] rfl
  have hDc := hD.sub (ws' := [(pf, .inr (0, [.ref f0, .ref f1, .ref f2, .ref f3])), (f0, .inl (cD, 35, .inr (.inr (.inr (.inl (NF)))))), (f1, .inl (cZ, 35, .inl (GF))), (f2, .inl (cI, 30, .inl (TF))), (f3, .inl (cI, 6, .inl (OF)))]) [1, 2, 3, 4, 5] (by decide) rfl
  have hFc := va_free (wc := [(pf, .inr (0, [.ref f0, .ref f1, .ref f2, .ref f3])), (f0, .inl (cD, 35, .inr (.inr (.inr (.inl (NF)))))), (f1, .inl (cZ, 35, .inl (GF))), (f2, .inl (cI, 30, .inl (TF))), (f3, .inl (cI, 6, .inl (OF)))]) hD hS hA [1, 2, 3, 4, 5] rfl
  refine va_callv (va_runV (As := [.int (nI (6 * 5 + bn)), .double (v)]) (rest := []) ⟨hx, hb, hml, hown, hts⟩ (c_X0_writeDouble l dC dI cD cZ cI cL pf f0 f1 f2 f3 NF GF TF OF s.heap.size (6 * 5 + bn) (v) (by omega) (hvd)) (cwV 2 hts gX1_bar_X0_writeDouble rfl rfl rfl (by decide +kernel) ⟨Nat.le_of_ble_eq_true rfl, Nat.le_of_ble_eq_true rfl⟩) (okPW_pre ⟨hPc, hK, hN⟩ hDc) rfl rfl hl.1 rfl (lv_room (Nat.le_of_ble_eq_true rfl)) dX1_bar_15 ⟨Nat.zero_le _, Nat.zero_le _⟩) hS (fun q _ h => hFc q h) hFc (fun u3 t H1 locs ht hvm hw hB hz1 hk1 hS => ?_)
  obtain ⟨hP1, hK1, hD1⟩ := hB
  rw [ht] at hP1
  obtain ⟨hP, hD⟩ := va_join (wr := [(h, .inr (1, [.ref pf, .ref po, .ref tt, .int (nI (nn))])), (po, .inr (0, [.ref o0, .ref o1, .ref o2, .ref o3])), (o0, .inl (cD, 35, .inr (.inr (.inr (.inl (NO)))))), (o1, .inl (cZ, 35, .inl (GO))), (o2, .inl (cI, 30, .inl (TO))), (o3, .inl (cI, 6, .inl (OO))), (tt, .inr (3, [.ref t0])), (t0, .inl (cL, 42, .inr (.inl (DG))))]) (w1 := [(pf, .inr (0, [.ref f0, .ref f1, .ref f2, .ref f3])), (f0, .inl (cD, 35, .inr (.inr (.inr (.inl (vf_upd NF (6 * 5 + bn) v)))))), (f1, .inl (cZ, 35, .inl (upd GF (6 * 5 + bn) (nI (Bool.toNat true))))), (f2, .inl (cI, 30, .inl (TF))), (f3, .inl (cI, 6, .inl (OF)))]) hP hD [1, 2, 3, 4, 5] [0, 6, 7, 8, 9, 10, 11, 12] rfl rfl (by decide) (by decide) hk1 hFc hP1 hD1
  have hP := hP.sub (ws' := [(h, .inr (1, [.ref pf, .ref po, .ref tt, .int (nI (nn))])), (pf, .inr (0, [.ref f0, .ref f1, .ref f2, .ref f3])), (f0, .inl (cD, 35, .inr (.inr (.inr (.inl (vf_upd NF (6 * 5 + bn) v)))))), (f1, .inl (cZ, 35, .inl (upd GF (6 * 5 + bn) (nI (Bool.toNat true))))), (f2, .inl (cI, 30, .inl (TF))), (f3, .inl (cI, 6, .inl (OF))), (po, .inr (0, [.ref o0, .ref o1, .ref o2, .ref o3])), (o0, .inl (cD, 35, .inr (.inr (.inr (.inl (NO)))))), (o1, .inl (cZ, 35, .inl (GO))), (o2, .inl (cI, 30, .inl (TO))), (o3, .inl (cI, 6, .inl (OO))), (tt, .inr (3, [.ref t0])), (t0, .inl (cL, 42, .inr (.inl (DG))))]) [0, 8, 9, 10, 11, 12, 1, 2, 3, 4, 5, 6, 7] rfl
  have hD := hD.sub (ws' := [(h, .inr (1, [.ref pf, .ref po, .ref tt, .int (nI (nn))])), (pf, .inr (0, [.ref f0, .ref f1, .ref f2, .ref f3])), (f0, .inl (cD, 35, .inr (.inr (.inr (.inl (vf_upd NF (6 * 5 + bn) v)))))), (f1, .inl (cZ, 35, .inl (upd GF (6 * 5 + bn) (nI (Bool.toNat true))))), (f2, .inl (cI, 30, .inl (TF))), (f3, .inl (cI, 6, .inl (OF))), (po, .inr (0, [.ref o0, .ref o1, .ref o2, .ref o3])), (o0, .inl (cD, 35, .inr (.inr (.inr (.inl (NO)))))), (o1, .inl (cZ, 35, .inl (GO))), (o2, .inl (cI, 30, .inl (TO))), (o3, .inl (cI, 6, .inl (OO))), (tt, .inr (3, [.ref t0])), (t0, .inl (cL, 42, .inr (.inl (DG))))]) [0, 8, 9, 10, 11, 12, 1, 2, 3, 4, 5, 6, 7] (by decide) rfl
  generalize H1 = H at hP hS ⊢
  have hP : va_P (dC, dI) vwCl [(h, .inr (1, [.ref pf, .ref po, .ref tt, .int (nI (nn))])), (pf, .inr (0, [.ref f0, .ref f1, .ref f2, .ref f3])), (f0, .inl (cD, 35, .inr (.inr (.inr (.inl (vf_upd NF (6 * 5 + bn) v)))))), (f1, .inl (cZ, 35, .inl (upd GF (6 * 5 + bn) (nI (Bool.toNat true))))), (f2, .inl (cI, 30, .inl (TF))), (f3, .inl (cI, 6, .inl (OF))), (po, .inr (0, [.ref o0, .ref o1, .ref o2, .ref o3])), (o0, .inl (cD, 35, .inr (.inr (.inr (.inl (NO)))))), (o1, .inl (cZ, 35, .inl (GO))), (o2, .inl (cI, 30, .inl (TO))), (o3, .inl (cI, 6, .inl (OO))), (tt, .inr (3, [.ref t0])), (t0, .inl (cL, 42, .inr (.inl (DG))))] H := hP
  have hD : va_D A [(h, .inr (1, [.ref pf, .ref po, .ref tt, .int (nI (nn))])), (pf, .inr (0, [.ref f0, .ref f1, .ref f2, .ref f3])), (f0, .inl (cD, 35, .inr (.inr (.inr (.inl (vf_upd NF (6 * 5 + bn) v)))))), (f1, .inl (cZ, 35, .inl (upd GF (6 * 5 + bn) (nI (Bool.toNat true))))), (f2, .inl (cI, 30, .inl (TF))), (f3, .inl (cI, 6, .inl (OF))), (po, .inr (0, [.ref o0, .ref o1, .ref o2, .ref o3])), (o0, .inl (cD, 35, .inr (.inr (.inr (.inl (NO)))))), (o1, .inl (cZ, 35, .inl (GO))), (o2, .inl (cI, 30, .inl (TO))), (o3, .inl (cI, 6, .inl (OO))), (tt, .inr (3, [.ref t0])), (t0, .inl (cL, 42, .inr (.inl (DG))))] := hD
  exact W.vret hx hb hr (fun t ht hW => ⟨⟨(), rfl, trivial, by rw [ht]; exact hP, va_K.moved hW.alike hK, hD⟩, hS.F ht⟩) hS.2.2 dX1_bar_18
set_option maxHeartbeats 4000000 in
set_option maxRecDepth 100000 in
theorem c_X1_line_ok (l : Launch) (dC : Nat → ClassId) (dI : Nat → Nat → Nat) (cD cZ cI cL : ClassId) (h pf f0 f1 f2 f3 po o0 o1 o2 o3 tt t0 : Nat) (NF : Nat → UInt64) (GF TF OF : Nat → Int32) (NO : Nat → UInt64) (GO TO OO : Nat → Int32) (DG : Nat → Int64) (nn : Nat) (sz : Nat) (bn : Nat) (hbn : bn < 5) (fv : UInt32) (hvf : FP.fcmp fv fv = some .eq) (hnf : vf_n64 (FP.f2d fv)) (hvd : FP.dcmp (FP.f2d fv) (FP.f2d fv) = some .eq) : Met l yX1_line wsX1_line ({ frames := 2, cells := 0, slots := 0, locals := 45 }) (va_Pc [.ref h, .int (nI (bn)), .float (fv)] (fun U => U.heap.size = sz ∧ okJ dC dI cD cZ cI cL h pf f0 f1 f2 f3 po o0 o1 o2 o3 tt t0 NF GF TF OF NO GO TO OO DG nn false U U.heap ∧ va_D (fun _ => True) (wJ cD cZ cI cL h pf f0 f1 f2 f3 po o0 o1 o2 o3 tt t0 NF GF TF OF NO GO TO OO DG nn false))) (va_Qv (fun _ : Unit => True) (fun _ t => atJ dC dI cD cZ cI cL (va_A (wJ cD cZ cI cL h pf f0 f1 f2 f3 po o0 o1 o2 o3 tt t0 NF GF TF OF NO GO TO OO DG nn false) sz) h pf f0 f1 f2 f3 po o0 o1 o2 o3 tt t0 (vf_upd NF (6 * 5 + bn) (FP.f2d fv)) (upd GF (6 * 5 + bn) (nI (Bool.toNat true))) TF OF NO GO TO OO DG nn false t) (va_A (wJ cD cZ cI cL h pf f0 f1 f2 f3 po o0 o1 o2 o3 tt t0 NF GF TF OF NO GO TO OO DG nn false) sz)) 0 0 (va_A (wJ cD cZ cI cL h pf f0 f1 f2 f3 po o0 o1 o2 o3 tt t0 NF GF TF OF NO GO TO OO DG nn false) sz) := by
  refine Met.ofW (cc := cX1_line) (maxL := 3) (ret := none) (by decide) rfl ?_
  intro p e s m args below meth c s₁ B hml hv
  obtain ⟨rfl, hsz, hO, hD0⟩ := hv
  obtain ⟨hP, hK, hE⟩ := id hO
  have hx := B.exec
  have hb := B.bytes
  have hr := B.returns
  have hts := atoms_spec (ws := wsX1_line) B.pre
  have hown : s.vm.findClass RX1 = some m.cls := findClass_of_methodNamed B.named
  have hlocks := B.notSynchronized
  subst hsz
  have hD := hD0.self (sz := s.heap.size)
  generalize hAe : va_A (wJ cD cZ cI cL h pf f0 f1 f2 f3 po o0 o1 o2 o3 tt t0 NF GF TF OF NO GO TO OO DG nn false) s.heap.size = A at hD ⊢
  have hA : ∀ q : Nat, s.heap.size ≤ q → A q := fun q h => by rw [← hAe]; exact Or.inr h
  have hS : va_S A s.heap s.heap [] := va_S.rf
  have hP : va_P (dC, dI) vwCl [(h, .inr (1, [.ref po, .ref pf, .ref tt, .int (nI (nn))])), (pf, .inr (0, [.ref f0, .ref f1, .ref f2, .ref f3])), (f0, .inl (cD, 35, .inr (.inr (.inr (.inl (NF)))))), (f1, .inl (cZ, 35, .inl (GF))), (f2, .inl (cI, 30, .inl (TF))), (f3, .inl (cI, 6, .inl (OF))), (po, .inr (0, [.ref o0, .ref o1, .ref o2, .ref o3])), (o0, .inl (cD, 35, .inr (.inr (.inr (.inl (NO)))))), (o1, .inl (cZ, 35, .inl (GO))), (o2, .inl (cI, 30, .inl (TO))), (o3, .inl (cI, 6, .inl (OO))), (tt, .inr (3, [.ref t0])), (t0, .inl (cL, 42, .inr (.inl (DG))))] s.heap := hP
  have hD : va_D A [(h, .inr (1, [.ref po, .ref pf, .ref tt, .int (nI (nn))])), (pf, .inr (0, [.ref f0, .ref f1, .ref f2, .ref f3])), (f0, .inl (cD, 35, .inr (.inr (.inr (.inl (NF)))))), (f1, .inl (cZ, 35, .inl (GF))), (f2, .inl (cI, 30, .inl (TF))), (f3, .inl (cI, 6, .inl (OF))), (po, .inr (0, [.ref o0, .ref o1, .ref o2, .ref o3])), (o0, .inl (cD, 35, .inr (.inr (.inr (.inl (NO)))))), (o1, .inl (cZ, 35, .inl (GO))), (o2, .inl (cI, 30, .inl (TO))), (o3, .inl (cI, 6, .inl (OO))), (tt, .inr (3, [.ref t0])), (t0, .inl (cL, 42, .inr (.inl (DG))))] := hD
  have hin1 : ∀ w ∈ wsX10, w ∈ wsX1_line := (fun w h => List.mem_cons_of_mem _ (List.mem_append_left _ (List.mem_append_left _ (List.mem_append_right _ h))))
  have fl16 := hts (.fieldLink RX1 16 "JuryTable" "scorers" "LJuryTable$Panel;") (by decide +kernel)
  have hl := lv_entry ([.ref h, .int (nI (bn)), .float (fv)]) (n := 3) (Nat.le_of_ble_eq_true rfl)
  rw [lg_entry_eq]
  generalize (lg_sl ([.ref h, .int (nI (bn)), .float (fv)]) ++ List.replicate (3 - (lg_sl ([.ref h, .int (nI (bn)), .float (fv)])).length) Slot.unset).toArray = ls at hl ⊢
  have hl : lv_has ls 3 [(0, .ref h), (1, .int (nI (bn))), (2, .float (fv))] := hl
  have hN := hE.nest
  refine lv_iload_n hx hb dX1_line_0 rfl (lv_at hl 1 rfl) ?_
  refine va_csv (va_Run.run (va_runS (As := [.int (nI (bn))]) (rest := []) ⟨hx, hb, hml, hown, hts⟩ (c_X1_requireSeat_ok l (bn) (by omega)) (va_cwS 1 hts gX1_line_X1_requireSeat rfl rfl rfl (by decide +kernel) ⟨Nat.le_of_ble_eq_true rfl, Nat.le_of_ble_eq_true rfl⟩) preT rfl rfl hl.1 rfl (lv_room (Nat.le_of_ble_eq_true rfl)) dX1_line_1 ⟨Nat.zero_le _, Nat.zero_le _⟩)) (fun _ => ?_)
  refine lv_aload_n hx hb dX1_line_4 rfl (lv_at hl 0 rfl) ?_
  refine va_get (D := (dC, dI)) (ci := 1) (v := .ref pf) (C := RX1) (T := TX1) (N := 4) hx hb hts hin1 hown hK hP 0 rfl rfl 1 (by decide) fl16 (fun _ h9 => h9) rfl dX1_line_5 ?_
  refine lv_bipush (v := nI 6) hx hb dX1_line_8 (by decide) ?_
  refine lv_iload_n hx hb dX1_line_10 rfl (lv_at hl 1 rfl) ?_
  refine vp_callSi (va_Run.run (va_runS (As := [.int (nI (6)), .int (nI (bn))]) (rest := [.ref pf]) ⟨hx, hb, hml, hown, hts⟩ (c_X1_cellOf l (6) (bn)) (va_cwS 2 hts gX1_line_X1_cellOf rfl rfl rfl (by decide +kernel) ⟨Nat.le_of_ble_eq_true rfl, Nat.le_of_ble_eq_true rfl⟩) preT rfl rfl hl.1 rfl (lv_room (Nat.le_of_ble_eq_true rfl)) dX1_line_11 ⟨Nat.zero_le _, Nat.zero_le _⟩)) (fun r2 er2 => ?_)
  subst er2
  refine lv_fload_n hx hb dX1_line_14 rfl (lv_at hl 2 rfl) ?_
  have hPc := hP.sub (ws' := [(pf, .inr (0, [.ref f0, .ref f1, .ref f2, .ref f3])), (f0, .inl (cD, 35, .inr (.inr (.inr (.inl (NF)))))), (f1, .inl (cZ, 35, .inl (GF))), (f2, .inl (cI, 30, .inl (TF))), (f3, .inl (cI, 6, .inl (OF)))]) [1, 2, 3, 4, 5] rfl
  have hDc := hD.sub (ws' := [(pf, .inr (0, [.ref f0, .ref f1, .ref f2, .ref f3])), (f0, .inl (cD, 35, .inr (.inr (.inr (.inl (NF)))))), (f1, .inl (cZ, 35, .inl (GF))), (f2, .inl (cI, 30, .inl (TF))), (f3, .inl (cI, 6, .inl (OF)))]) [1, 2, 3, 4, 5] (by decide) rfl
  have hFc := va_free (wc := [(pf, .inr (0, [.ref f0, .ref f1, .ref f2, .ref f3])), (f0, .inl (cD, 35, .inr (.inr (.inr (.inl (NF)))))), (f1, .inl (cZ, 35, .inl (GF))), (f2, .inl (cI, 30, .inl (TF))), (f3, .inl (cI, 6, .inl (OF)))]) hD hS hA [1, 2, 3, 4, 5] rfl
  refine va_callv (va_runV (As := [.int (nI (6 * 5 + bn)), .float (fv)]) (rest := []) ⟨hx, hb, hml, hown, hts⟩ (c_X0_writeFloat l dC dI cD cZ cI cL pf f0 f1 f2 f3 NF GF TF OF s.heap.size (6 * 5 + bn) (fv) (by omega) hvf hnf hvd) (cwV 2 hts gX1_line_X0_writeFloat rfl rfl rfl (by decide +kernel) ⟨Nat.le_of_ble_eq_true rfl, Nat.le_of_ble_eq_true rfl⟩) (okPW_pre ⟨hPc, hK, hN⟩ hDc) rfl rfl hl.1 rfl (lv_room (Nat.le_of_ble_eq_true rfl)) dX1_line_15 ⟨Nat.zero_le _, Nat.zero_le _⟩) hS (fun q _ h => hFc q h) hFc (fun u3 t H1 locs ht hvm hw hB hz1 hk1 hS => ?_)
  obtain ⟨hP1, hK1, hD1⟩ := hB
  rw [ht] at hP1
  obtain ⟨hP, hD⟩ := va_join (wr := [(h, .inr (1, [.ref po, .ref pf, .ref tt, .int (nI (nn))])), (po, .inr (0, [.ref o0, .ref o1, .ref o2, .ref o3])), (o0, .inl (cD, 35, .inr (.inr (.inr (.inl (NO)))))), (o1, .inl (cZ, 35, .inl (GO))), (o2, .inl (cI, 30, .inl (TO))), (o3, .inl (cI, 6, .inl (OO))), (tt, .inr (3, [.ref t0])), (t0, .inl (cL, 42, .inr (.inl (DG))))]) (w1 := [(pf, .inr (0, [.ref f0, .ref f1, .ref f2, .ref f3])), (f0, .inl (cD, 35, .inr (.inr (.inr (.inl (vf_upd NF (6 * 5 + bn) (FP.f2d fv))))))), (f1, .inl (cZ, 35, .inl (upd GF (6 * 5 + bn) (nI (Bool.toNat true))))), (f2, .inl (cI, 30, .inl (TF))), (f3, .inl (cI, 6, .inl (OF)))]) hP hD [1, 2, 3, 4, 5] [0, 6, 7, 8, 9, 10, 11, 12] rfl rfl (by decide) (by decide) hk1 hFc hP1 hD1
  have hP := hP.sub (ws' := [(h, .inr (1, [.ref po, .ref pf, .ref tt, .int (nI (nn))])), (pf, .inr (0, [.ref f0, .ref f1, .ref f2, .ref f3])), (f0, .inl (cD, 35, .inr (.inr (.inr (.inl (vf_upd NF (6 * 5 + bn) (FP.f2d fv))))))), (f1, .inl (cZ, 35, .inl (upd GF (6 * 5 + bn) (nI (Bool.toNat true))))), (f2, .inl (cI, 30, .inl (TF))), (f3, .inl (cI, 6, .inl (OF))), (po, .inr (0, [.ref o0, .ref o1, .ref o2, .ref o3])), (o0, .inl (cD, 35, .inr (.inr (.inr (.inl (NO)))))), (o1, .inl (cZ, 35, .inl (GO))), (o2, .inl (cI, 30, .inl (TO))), (o3, .inl (cI, 6, .inl (OO))), (tt, .inr (3, [.ref t0])), (t0, .inl (cL, 42, .inr (.inl (DG))))]) [0, 8, 9, 10, 11, 12, 1, 2, 3, 4, 5, 6, 7] rfl
  have hD := hD.sub (ws' := [(h, .inr (1, [.ref po, .ref pf, .ref tt, .int (nI (nn))])), (pf, .inr (0, [.ref f0, .ref f1, .ref f2, .ref f3])), (f0, .inl (cD, 35, .inr (.inr (.inr (.inl (vf_upd NF (6 * 5 + bn) (FP.f2d fv))))))), (f1, .inl (cZ, 35, .inl (upd GF (6 * 5 + bn) (nI (Bool.toNat true))))), (f2, .inl (cI, 30, .inl (TF))), (f3, .inl (cI, 6, .inl (OF))), (po, .inr (0, [.ref o0, .ref o1, .ref o2, .ref o3])), (o0, .inl (cD, 35, .inr (.inr (.inr (.inl (NO)))))), (o1, .inl (cZ, 35, .inl (GO))), (o2, .inl (cI, 30, .inl (TO))), (o3, .inl (cI, 6, .inl (OO))), (tt, .inr (3, [.ref t0])), (t0, .inl (cL, 42, .inr (.inl (DG))))]) [0, 8, 9, 10, 11, 12, 1, 2, 3, 4, 5, 6, 7] (by decide) rfl
  generalize H1 = H at hP hS ⊢
  have hP : va_P (dC, dI) vwCl [(h, .inr (1, [.ref po, .ref pf, .ref tt, .int (nI (nn))])), (pf, .inr (0, [.ref f0, .ref f1, .ref f2, .ref f3])), (f0, .inl (cD, 35, .inr (.inr (.inr (.inl (vf_upd NF (6 * 5 + bn) (FP.f2d fv))))))), (f1, .inl (cZ, 35, .inl (upd GF (6 * 5 + bn) (nI (Bool.toNat true))))), (f2, .inl (cI, 30, .inl (TF))), (f3, .inl (cI, 6, .inl (OF))), (po, .inr (0, [.ref o0, .ref o1, .ref o2, .ref o3])), (o0, .inl (cD, 35, .inr (.inr (.inr (.inl (NO)))))), (o1, .inl (cZ, 35, .inl (GO))), (o2, .inl (cI, 30, .inl (TO))), (o3, .inl (cI, 6, .inl (OO))), (tt, .inr (3, [.ref t0])), (t0, .inl (cL, 42, .inr (.inl (DG))))] H := hP
  have hD : va_D A [(h, .inr (1, [.ref po, .ref pf, .ref tt, .int (nI (nn))])), (pf, .inr (0, [.ref f0, .ref f1, .ref f2, .ref f3])), (f0, .inl (cD, 35, .inr (.inr (.inr (.inl (vf_upd NF (6 * 5 + bn) (FP.f2d fv))))))), (f1, .inl (cZ, 35, .inl (upd GF (6 * 5 + bn) (nI (Bool.toNat true))))), (f2, .inl (cI, 30, .inl (TF))), (f3, .inl (cI, 6, .inl (OF))), (po, .inr (0, [.ref o0, .ref o1, .ref o2, .ref o3])), (o0, .inl (cD, 35, .inr (.inr (.inr (.inl (NO)))))), (o1, .inl (cZ, 35, .inl (GO))), (o2, .inl (cI, 30, .inl (TO))), (o3, .inl (cI, 6, .inl (OO))), (tt, .inr (3, [.ref t0])), (t0, .inl (cL, 42, .inr (.inl (DG))))] := hD
  exact W.vret hx hb hr (fun t ht hW => ⟨⟨(), rfl, trivial, by rw [ht]; exact hP, va_K.moved hW.alike hK, hD⟩, hS.F ht⟩) hS.2.2 dX1_line_18
set_option maxHeartbeats 4000000 in
set_option maxRecDepth 100000 in
theorem c_X1_clear_ok (l : Launch) (dC : Nat → ClassId) (dI : Nat → Nat → Nat) (cD cZ cI cL : ClassId) (h pf f0 f1 f2 f3 po o0 o1 o2 o3 tt t0 : Nat) (NF : Nat → UInt64) (GF TF OF : Nat → Int32) (NO : Nat → UInt64) (GO TO OO : Nat → Int32) (DG : Nat → Int64) (nn : Nat) (fb : Bool) (sz : Nat) (hnn : nn ≤ 6) (en bn : Nat) (hen : en < nn) (hbn : bn < 5) (hG : ∀ j, GF j = 0 ∨ GF j = 1) : Met l yX1_clear wsX1_clear ({ frames := 2, cells := 0, slots := 0, locals := 42 }) (va_Pc [.ref h, .int (nI (Bool.toNat (fb))), .int (nI (en)), .int (nI (bn))] (fun U => U.heap.size = sz ∧ okJ dC dI cD cZ cI cL h pf f0 f1 f2 f3 po o0 o1 o2 o3 tt t0 NF GF TF OF NO GO TO OO DG nn fb U U.heap ∧ va_D (fun _ => True) (wJ cD cZ cI cL h pf f0 f1 f2 f3 po o0 o1 o2 o3 tt t0 NF GF TF OF NO GO TO OO DG nn fb))) (va_Qi (fun (r : Int32) (_ : Unit) => r = GF (en * 5 + bn)) (fun _ t => atJ dC dI cD cZ cI cL (va_A (wJ cD cZ cI cL h pf f0 f1 f2 f3 po o0 o1 o2 o3 tt t0 NF GF TF OF NO GO TO OO DG nn fb) sz) h pf f0 f1 f2 f3 po o0 o1 o2 o3 tt t0 NF (upd GF (en * 5 + bn) (nI (Bool.toNat false))) TF OF NO GO TO OO DG nn fb t) (va_A (wJ cD cZ cI cL h pf f0 f1 f2 f3 po o0 o1 o2 o3 tt t0 NF GF TF OF NO GO TO OO DG nn fb) sz)) 0 0 (va_A (wJ cD cZ cI cL h pf f0 f1 f2 f3 po o0 o1 o2 o3 tt t0 NF GF TF OF NO GO TO OO DG nn fb) sz) := by
  refine Met.ofW (cc := cX1_clear) (maxL := 4) (ret := (some .boolean)) (by decide) rfl ?_
  intro p e s m args below meth c s₁ B hml hv
  obtain ⟨rfl, hsz, hO, hD0⟩ := hv
  obtain ⟨hP, hK, hE⟩ := id hO
  have hx := B.exec
  have hb := B.bytes
  have hr := B.returns
  have hts := atoms_spec (ws := wsX1_clear) B.pre
  have hown : s.vm.findClass RX1 = some m.cls := findClass_of_methodNamed B.named
  have hlocks := B.notSynchronized
  subst hsz
  have hD := hD0.self (sz := s.heap.size)
  generalize hAe : va_A (wJ cD cZ cI cL h pf f0 f1 f2 f3 po o0 o1 o2 o3 tt t0 NF GF TF OF NO GO TO OO DG nn fb) s.heap.size = A at hD ⊢
  have hA : ∀ q : Nat, s.heap.size ≤ q → A q := fun q h => by rw [← hAe]; exact Or.inr h
  have hS : va_S A s.heap s.heap [] := va_S.rf
  have hP : va_P (dC, dI) vwCl [(h, .inr (1, [.ref (cond fb pf po), .ref (cond fb po pf), .ref tt, .int (nI (nn))])), (pf, .inr (0, [.ref f0, .ref f1, .ref f2, .ref f3])), (f0, .inl (cD, 35, .inr (.inr (.inr (.inl (NF)))))), (f1, .inl (cZ, 35, .inl (GF))), (f2, .inl (cI, 30, .inl (TF))), (f3, .inl (cI, 6, .inl (OF))), (po, .inr (0, [.ref o0, .ref o1, .ref o2, .ref o3])), (o0, .inl (cD, 35, .inr (.inr (.inr (.inl (NO)))))), (o1, .inl (cZ, 35, .inl (GO))), (o2, .inl (cI, 30, .inl (TO))), (o3, .inl (cI, 6, .inl (OO))), (tt, .inr (3, [.ref t0])), (t0, .inl (cL, 42, .inr (.inl (DG))))] s.heap := hP
  have hD : va_D A [(h, .inr (1, [.ref (cond fb pf po), .ref (cond fb po pf), .ref tt, .int (nI (nn))])), (pf, .inr (0, [.ref f0, .ref f1, .ref f2, .ref f3])), (f0, .inl (cD, 35, .inr (.inr (.inr (.inl (NF)))))), (f1, .inl (cZ, 35, .inl (GF))), (f2, .inl (cI, 30, .inl (TF))), (f3, .inl (cI, 6, .inl (OF))), (po, .inr (0, [.ref o0, .ref o1, .ref o2, .ref o3])), (o0, .inl (cD, 35, .inr (.inr (.inr (.inl (NO)))))), (o1, .inl (cZ, 35, .inl (GO))), (o2, .inl (cI, 30, .inl (TO))), (o3, .inl (cI, 6, .inl (OO))), (tt, .inr (3, [.ref t0])), (t0, .inl (cL, 42, .inr (.inl (DG))))] := hD
  have hl := lv_entry ([.ref h, .int (nI (Bool.toNat (fb))), .int (nI (en)), .int (nI (bn))]) (n := 4) (Nat.le_of_ble_eq_true rfl)
  rw [lg_entry_eq]
  generalize (lg_sl ([.ref h, .int (nI (Bool.toNat (fb))), .int (nI (en)), .int (nI (bn))]) ++ List.replicate (4 - (lg_sl ([.ref h, .int (nI (Bool.toNat (fb))), .int (nI (en)), .int (nI (bn))])).length) Slot.unset).toArray = ls at hl ⊢
  have hl : lv_has ls 4 [(0, .ref h), (1, .int (nI (Bool.toNat (fb)))), (2, .int (nI (en))), (3, .int (nI (bn)))] := hl
  have hN := hE.nest
  refine lv_aload_n hx hb dX1_clear_0 rfl (lv_at hl 0 rfl) ?_
  refine lv_iload_n hx hb dX1_clear_1 rfl (lv_at hl 2 rfl) ?_
  refine va_csv (va_Run.run (va_runV (As := [.int (nI (en))]) (rest := []) ⟨hx, hb, hml, hown, hts⟩ (c_X1_requireEntryOrNone_ok l dC dI cD cZ cI cL h pf f0 f1 f2 f3 po o0 o1 o2 o3 tt t0 NF GF TF OF NO GO TO OO DG nn fb (en) (by omega) (by omega)) (cwV 1 hts gX1_clear_X1_requireEntryOrNone rfl rfl rfl (by decide +kernel) ⟨Nat.le_of_ble_eq_true rfl, Nat.le_of_ble_eq_true rfl⟩) (okJ_pre ⟨hP, hK, hE⟩) rfl rfl hl.1 rfl (lv_room (Nat.le_of_ble_eq_true rfl)) dX1_clear_2 ⟨Nat.zero_le _, Nat.zero_le _⟩)) (fun _ => ?_)
  refine lv_iload_n hx hb dX1_clear_5 rfl (lv_at hl 3 rfl) ?_
  refine va_csv (va_Run.run (va_runS (As := [.int (nI (bn))]) (rest := []) ⟨hx, hb, hml, hown, hts⟩ (c_X1_requireSeat_ok l (bn) (by omega)) (va_cwS 1 hts gX1_clear_X1_requireSeat rfl rfl rfl (by decide +kernel) ⟨Nat.le_of_ble_eq_true rfl, Nat.le_of_ble_eq_true rfl⟩) preT rfl rfl hl.1 rfl (lv_room (Nat.le_of_ble_eq_true rfl)) dX1_clear_6 ⟨Nat.zero_le _, Nat.zero_le _⟩)) (fun _ => ?_)
  refine lv_aload_n hx hb dX1_clear_9 rfl (lv_at hl 0 rfl) ?_
  refine lv_iload_n hx hb dX1_clear_10 rfl (lv_at hl 1 rfl) ?_
  refine va_csr (va_Run.run (va_runV (As := [.int (nI (Bool.toNat (fb)))]) (rest := []) ⟨hx, hb, hml, hown, hts⟩ (c_X1_panel l dC dI cD cZ cI cL h pf f0 f1 f2 f3 po o0 o1 o2 o3 tt t0 NF GF TF OF NO GO TO OO DG nn fb) (cwV 1 hts gX1_clear_X1_panel rfl rfl rfl (by decide +kernel) ⟨Nat.le_of_ble_eq_true rfl, Nat.le_of_ble_eq_true rfl⟩) (okJ_pre ⟨hP, hK, hE⟩) rfl rfl hl.1 rfl (lv_room (Nat.le_of_ble_eq_true rfl)) dX1_clear_11 ⟨Nat.zero_le _, Nat.zero_le _⟩)) (fun r3 er3 => ?_)
  subst er3
  refine W.eq (g2 := F0 m 14 ls [.ref pf]) rfl ?_
  refine lv_iload_n hx hb dX1_clear_14 rfl (lv_at hl 2 rfl) ?_
  refine vp_callSi (va_Run.run (va_runS (As := [.int (nI (en))]) (rest := [.ref pf]) ⟨hx, hb, hml, hown, hts⟩ (c_X1_rowOf_ok l (en) (by omega)) (va_cwS 1 hts gX1_clear_X1_rowOf rfl rfl rfl (by decide +kernel) ⟨Nat.le_of_ble_eq_true rfl, Nat.le_of_ble_eq_true rfl⟩) preT rfl rfl hl.1 rfl (lv_room (Nat.le_of_ble_eq_true rfl)) dX1_clear_15 ⟨Nat.zero_le _, Nat.zero_le _⟩)) (fun r4 er4 => ?_)
  subst er4
  refine lv_iload_n hx hb dX1_clear_18 rfl (lv_at hl 3 rfl) ?_
  refine vp_callSi (va_Run.run (va_runS (As := [.int (nI (en)), .int (nI (bn))]) (rest := [.ref pf]) ⟨hx, hb, hml, hown, hts⟩ (c_X1_cellOf l (en) (bn)) (va_cwS 2 hts gX1_clear_X1_cellOf rfl rfl rfl (by decide +kernel) ⟨Nat.le_of_ble_eq_true rfl, Nat.le_of_ble_eq_true rfl⟩) preT rfl rfl hl.1 rfl (lv_room (Nat.le_of_ble_eq_true rfl)) dX1_clear_19 ⟨Nat.zero_le _, Nat.zero_le _⟩)) (fun r5 er5 => ?_)
  subst er5
  have hPc := hP.sub (ws' := [(pf, .inr (0, [.ref f0, .ref f1, .ref f2, .ref f3])), (f0, .inl (cD, 35, .inr (.inr (.inr (.inl (NF)))))), (f1, .inl (cZ, 35, .inl (GF))), (f2, .inl (cI, 30, .inl (TF))), (f3, .inl (cI, 6, .inl (OF)))]) [1, 2, 3, 4, 5] rfl
  have hDc := hD.sub (ws' := [(pf, .inr (0, [.ref f0, .ref f1, .ref f2, .ref f3])), (f0, .inl (cD, 35, .inr (.inr (.inr (.inl (NF)))))), (f1, .inl (cZ, 35, .inl (GF))), (f2, .inl (cI, 30, .inl (TF))), (f3, .inl (cI, 6, .inl (OF)))]) [1, 2, 3, 4, 5] (by decide) rfl
  have hFc := va_free (wc := [(pf, .inr (0, [.ref f0, .ref f1, .ref f2, .ref f3])), (f0, .inl (cD, 35, .inr (.inr (.inr (.inl (NF)))))), (f1, .inl (cZ, 35, .inl (GF))), (f2, .inl (cI, 30, .inl (TF))), (f3, .inl (cI, 6, .inl (OF)))]) hD hS hA [1, 2, 3, 4, 5] rfl
  refine va_calli (va_runV (As := [.int (nI (en * 5 + bn))]) (rest := []) ⟨hx, hb, hml, hown, hts⟩ (c_X0_erase l dC dI cD cZ cI cL pf f0 f1 f2 f3 NF GF TF OF s.heap.size (en * 5 + bn) (by omega) (hG)) (cwV 1 hts gX1_clear_X0_erase rfl rfl rfl (by decide +kernel) ⟨Nat.le_of_ble_eq_true rfl, Nat.le_of_ble_eq_true rfl⟩) (okPW_pre ⟨hPc, hK, hN⟩ hDc) rfl rfl hl.1 rfl (lv_room (Nat.le_of_ble_eq_true rfl)) dX1_clear_22 ⟨Nat.zero_le _, Nat.zero_le _⟩) hS (fun q _ h => hFc q h) hFc (fun r6 u6 t H1 locs ht hvm hw hB hz1 hk1 hS => ?_)
  obtain ⟨hP1, hK1, hD1⟩ := hB
  rw [ht] at hP1
  obtain ⟨hP, hD⟩ := va_join (wr := [(h, .inr (1, [.ref (cond fb pf po), .ref (cond fb po pf), .ref tt, .int (nI (nn))])), (po, .inr (0, [.ref o0, .ref o1, .ref o2, .ref o3])), (o0, .inl (cD, 35, .inr (.inr (.inr (.inl (NO)))))), (o1, .inl (cZ, 35, .inl (GO))), (o2, .inl (cI, 30, .inl (TO))), (o3, .inl (cI, 6, .inl (OO))), (tt, .inr (3, [.ref t0])), (t0, .inl (cL, 42, .inr (.inl (DG))))]) (w1 := [(pf, .inr (0, [.ref f0, .ref f1, .ref f2, .ref f3])), (f0, .inl (cD, 35, .inr (.inr (.inr (.inl (NF)))))), (f1, .inl (cZ, 35, .inl (upd GF (en * 5 + bn) (nI (Bool.toNat false))))), (f2, .inl (cI, 30, .inl (TF))), (f3, .inl (cI, 6, .inl (OF)))]) hP hD [1, 2, 3, 4, 5] [0, 6, 7, 8, 9, 10, 11, 12] rfl rfl (by decide) (by decide) hk1 hFc hP1 hD1
  have hP := hP.sub (ws' := [(h, .inr (1, [.ref (cond fb pf po), .ref (cond fb po pf), .ref tt, .int (nI (nn))])), (pf, .inr (0, [.ref f0, .ref f1, .ref f2, .ref f3])), (f0, .inl (cD, 35, .inr (.inr (.inr (.inl (NF)))))), (f1, .inl (cZ, 35, .inl (upd GF (en * 5 + bn) (nI (Bool.toNat false))))), (f2, .inl (cI, 30, .inl (TF))), (f3, .inl (cI, 6, .inl (OF))), (po, .inr (0, [.ref o0, .ref o1, .ref o2, .ref o3])), (o0, .inl (cD, 35, .inr (.inr (.inr (.inl (NO)))))), (o1, .inl (cZ, 35, .inl (GO))), (o2, .inl (cI, 30, .inl (TO))), (o3, .inl (cI, 6, .inl (OO))), (tt, .inr (3, [.ref t0])), (t0, .inl (cL, 42, .inr (.inl (DG))))]) [0, 8, 9, 10, 11, 12, 1, 2, 3, 4, 5, 6, 7] rfl
  have hD := hD.sub (ws' := [(h, .inr (1, [.ref (cond fb pf po), .ref (cond fb po pf), .ref tt, .int (nI (nn))])), (pf, .inr (0, [.ref f0, .ref f1, .ref f2, .ref f3])), (f0, .inl (cD, 35, .inr (.inr (.inr (.inl (NF)))))), (f1, .inl (cZ, 35, .inl (upd GF (en * 5 + bn) (nI (Bool.toNat false))))), (f2, .inl (cI, 30, .inl (TF))), (f3, .inl (cI, 6, .inl (OF))), (po, .inr (0, [.ref o0, .ref o1, .ref o2, .ref o3])), (o0, .inl (cD, 35, .inr (.inr (.inr (.inl (NO)))))), (o1, .inl (cZ, 35, .inl (GO))), (o2, .inl (cI, 30, .inl (TO))), (o3, .inl (cI, 6, .inl (OO))), (tt, .inr (3, [.ref t0])), (t0, .inl (cL, 42, .inr (.inl (DG))))]) [0, 8, 9, 10, 11, 12, 1, 2, 3, 4, 5, 6, 7] (by decide) rfl
  generalize H1 = H at hP hS ⊢
  have hP : va_P (dC, dI) vwCl [(h, .inr (1, [.ref (cond fb pf po), .ref (cond fb po pf), .ref tt, .int (nI (nn))])), (pf, .inr (0, [.ref f0, .ref f1, .ref f2, .ref f3])), (f0, .inl (cD, 35, .inr (.inr (.inr (.inl (NF)))))), (f1, .inl (cZ, 35, .inl (upd GF (en * 5 + bn) (nI (Bool.toNat false))))), (f2, .inl (cI, 30, .inl (TF))), (f3, .inl (cI, 6, .inl (OF))), (po, .inr (0, [.ref o0, .ref o1, .ref o2, .ref o3])), (o0, .inl (cD, 35, .inr (.inr (.inr (.inl (NO)))))), (o1, .inl (cZ, 35, .inl (GO))), (o2, .inl (cI, 30, .inl (TO))), (o3, .inl (cI, 6, .inl (OO))), (tt, .inr (3, [.ref t0])), (t0, .inl (cL, 42, .inr (.inl (DG))))] H := hP
  have hD : va_D A [(h, .inr (1, [.ref (cond fb pf po), .ref (cond fb po pf), .ref tt, .int (nI (nn))])), (pf, .inr (0, [.ref f0, .ref f1, .ref f2, .ref f3])), (f0, .inl (cD, 35, .inr (.inr (.inr (.inl (NF)))))), (f1, .inl (cZ, 35, .inl (upd GF (en * 5 + bn) (nI (Bool.toNat false))))), (f2, .inl (cI, 30, .inl (TF))), (f3, .inl (cI, 6, .inl (OF))), (po, .inr (0, [.ref o0, .ref o1, .ref o2, .ref o3])), (o0, .inl (cD, 35, .inr (.inr (.inr (.inl (NO)))))), (o1, .inl (cZ, 35, .inl (GO))), (o2, .inl (cI, 30, .inl (TO))), (o3, .inl (cI, 6, .inl (OO))), (tt, .inr (3, [.ref t0])), (t0, .inl (cL, 42, .inr (.inl (DG))))] := hD
  subst hw
  exact W.zret (v := GF (en * 5 + bn)) (ty := .boolean) hx hb hr (xz_nar (hG _)) (fun t ht hW => ⟨⟨_, (), rfl, rfl, by rw [ht]; exact hP, va_K.moved hW.alike hK, hD⟩, hS.F ht⟩) hS.2.2 dX1_clear_25
set_option maxHeartbeats 4000000 in
set_option maxRecDepth 100000 in
theorem c_X1_told_ok (l : Launch) (dC : Nat → ClassId) (dI : Nat → Nat → Nat) (cD cZ cI cL : ClassId) (h pf f0 f1 f2 f3 po o0 o1 o2 o3 tt t0 : Nat) (NF : Nat → UInt64) (GF TF OF : Nat → Int32) (NO : Nat → UInt64) (GO TO OO : Nat → Int32) (DG : Nat → Int64) (nn : Nat) (fb : Bool) (hnn : nn ≤ 6) (en bn : Nat) (hen : en < nn) (hbn : bn < 5) (hG : ∀ j, GF j = 0 ∨ GF j = 1) (hg : ∀ j, gd (NF j)) (hth : ¬ GF (en * 5 + bn) = 0) : Met l yX1_told wsX1_told ({ frames := 2, cells := 0, slots := 0, locals := 42 }) (va_Pc [.ref h, .int (nI (Bool.toNat (fb))), .int (nI (en)), .int (nI (bn))] (fun U => okJ dC dI cD cZ cI cL h pf f0 f1 f2 f3 po o0 o1 o2 o3 tt t0 NF GF TF OF NO GO TO OO DG nn fb U U.heap)) (vp_Sl (fun r => r = e8 (NF (en * 5 + bn)))) 0 0 (fun _ => False) := by
  refine Met.ofW (cc := cX1_told) (maxL := 6) (ret := (some .long)) (by decide) rfl ?_
  intro p e s m args below meth c s₁ B hml hv
  obtain ⟨rfl, hO⟩ := hv
  obtain ⟨hP, hK, hE⟩ := id hO
  have hP : va_P (dC, dI) vwCl [(h, .inr (1, [.ref (cond fb pf po), .ref (cond fb po pf), .ref tt, .int (nI (nn))])), (pf, .inr (0, [.ref f0, .ref f1, .ref f2, .ref f3])), (f0, .inl (cD, 35, .inr (.inr (.inr (.inl (NF)))))), (f1, .inl (cZ, 35, .inl (GF))), (f2, .inl (cI, 30, .inl (TF))), (f3, .inl (cI, 6, .inl (OF))), (po, .inr (0, [.ref o0, .ref o1, .ref o2, .ref o3])), (o0, .inl (cD, 35, .inr (.inr (.inr (.inl (NO)))))), (o1, .inl (cZ, 35, .inl (GO))), (o2, .inl (cI, 30, .inl (TO))), (o3, .inl (cI, 6, .inl (OO))), (tt, .inr (3, [.ref t0])), (t0, .inl (cL, 42, .inr (.inl (DG))))] s.heap := hP
  have hx := B.exec
  have hb := B.bytes
  have hr := B.returns
  have hts := atoms_spec (ws := wsX1_told) B.pre
  have hown : s.vm.findClass RX1 = some m.cls := findClass_of_methodNamed B.named
  have hlocks := B.notSynchronized
  have hl := lv_entry ([.ref h, .int (nI (Bool.toNat (fb))), .int (nI (en)), .int (nI (bn))]) (n := 6) (Nat.le_of_ble_eq_true rfl)
  rw [lg_entry_eq]
  generalize (lg_sl ([.ref h, .int (nI (Bool.toNat (fb))), .int (nI (en)), .int (nI (bn))]) ++ List.replicate (6 - (lg_sl ([.ref h, .int (nI (Bool.toNat (fb))), .int (nI (en)), .int (nI (bn))])).length) Slot.unset).toArray = ls at hl ⊢
  have hl : lv_has ls 6 [(0, .ref h), (1, .int (nI (Bool.toNat (fb)))), (2, .int (nI (en))), (3, .int (nI (bn)))] := hl
  have hN := hE.nest
  refine lv_aload_n hx hb dX1_told_0 rfl (lv_at hl 0 rfl) ?_
  refine lv_iload_n hx hb dX1_told_1 rfl (lv_at hl 2 rfl) ?_
  refine va_csv (va_Run.run (va_runV (As := [.int (nI (en))]) (rest := []) ⟨hx, hb, hml, hown, hts⟩ (c_X1_requireEntryOrNone_ok l dC dI cD cZ cI cL h pf f0 f1 f2 f3 po o0 o1 o2 o3 tt t0 NF GF TF OF NO GO TO OO DG nn fb (en) (by omega) (by omega)) (cwV 1 hts gX1_told_X1_requireEntryOrNone rfl rfl rfl (by decide +kernel) ⟨Nat.le_of_ble_eq_true rfl, Nat.le_of_ble_eq_true rfl⟩) (okJ_pre ⟨hP, hK, hE⟩) rfl rfl hl.1 rfl (lv_room (Nat.le_of_ble_eq_true rfl)) dX1_told_2 ⟨Nat.zero_le _, Nat.zero_le _⟩)) (fun _ => ?_)
  refine lv_iload_n hx hb dX1_told_5 rfl (lv_at hl 3 rfl) ?_
  refine va_csv (va_Run.run (va_runS (As := [.int (nI (bn))]) (rest := []) ⟨hx, hb, hml, hown, hts⟩ (c_X1_requireSeat_ok l (bn) (by omega)) (va_cwS 1 hts gX1_told_X1_requireSeat rfl rfl rfl (by decide +kernel) ⟨Nat.le_of_ble_eq_true rfl, Nat.le_of_ble_eq_true rfl⟩) preT rfl rfl hl.1 rfl (lv_room (Nat.le_of_ble_eq_true rfl)) dX1_told_6 ⟨Nat.zero_le _, Nat.zero_le _⟩)) (fun _ => ?_)
  refine lv_iload_n hx hb dX1_told_9 rfl (lv_at hl 2 rfl) ?_
  refine vp_callSi (va_Run.run (va_runS (As := [.int (nI (en))]) (rest := []) ⟨hx, hb, hml, hown, hts⟩ (c_X1_rowOf_ok l (en) (by omega)) (va_cwS 1 hts gX1_told_X1_rowOf rfl rfl rfl (by decide +kernel) ⟨Nat.le_of_ble_eq_true rfl, Nat.le_of_ble_eq_true rfl⟩) preT rfl rfl hl.1 rfl (lv_room (Nat.le_of_ble_eq_true rfl)) dX1_told_10 ⟨Nat.zero_le _, Nat.zero_le _⟩)) (fun r3 er3 => ?_)
  subst er3
  refine lv_iload_n hx hb dX1_told_13 rfl (lv_at hl 3 rfl) ?_
  refine vp_callSi (va_Run.run (va_runS (As := [.int (nI (en)), .int (nI (bn))]) (rest := []) ⟨hx, hb, hml, hown, hts⟩ (c_X1_cellOf l (en) (bn)) (va_cwS 2 hts gX1_told_X1_cellOf rfl rfl rfl (by decide +kernel) ⟨Nat.le_of_ble_eq_true rfl, Nat.le_of_ble_eq_true rfl⟩) preT rfl rfl hl.1 rfl (lv_room (Nat.le_of_ble_eq_true rfl)) dX1_told_14 ⟨Nat.zero_le _, Nat.zero_le _⟩)) (fun r4 er4 => ?_)
  subst er4
  refine lv_istore (lv' := [(4, .int (nI (en * 5 + bn))), (0, .ref h), (1, .int (nI (Bool.toNat (fb)))), (2, .int (nI (en))), (3, .int (nI (bn)))]) hx hb dX1_told_17 hl (by decide) rfl (fun ls hl => ?_)
  refine lv_aload_n hx hb dX1_told_19 rfl (lv_at hl 1 rfl) ?_
  refine lv_iload_n hx hb dX1_told_20 rfl (lv_at hl 2 rfl) ?_
  refine va_csr (va_Run.run (va_runV (As := [.int (nI (Bool.toNat (fb)))]) (rest := []) ⟨hx, hb, hml, hown, hts⟩ (c_X1_panel l dC dI cD cZ cI cL h pf f0 f1 f2 f3 po o0 o1 o2 o3 tt t0 NF GF TF OF NO GO TO OO DG nn fb) (cwV 1 hts gX1_told_X1_panel rfl rfl rfl (by decide +kernel) ⟨Nat.le_of_ble_eq_true rfl, Nat.le_of_ble_eq_true rfl⟩) (okJ_pre ⟨hP, hK, hE⟩) rfl rfl hl.1 rfl (lv_room (Nat.le_of_ble_eq_true rfl)) dX1_told_21 ⟨Nat.zero_le _, Nat.zero_le _⟩)) (fun r5 er5 => ?_)
  subst er5
  refine W.eq (g2 := F0 m 24 ls [.ref pf]) rfl ?_
  refine lv_astore (lv' := [(5, .ref pf), (4, .int (nI (en * 5 + bn))), (0, .ref h), (1, .int (nI (Bool.toNat (fb)))), (2, .int (nI (en))), (3, .int (nI (bn)))]) hx hb dX1_told_24 hl (by decide) rfl (fun ls hl => ?_)
  refine lv_aload hx hb dX1_told_26 (lv_at hl 0 rfl) ?_
  refine lv_iload hx hb dX1_told_28 (lv_at hl 1 rfl) ?_
  refine vp_callSi (va_Run.run (va_runV (As := [.int (nI (en * 5 + bn))]) (rest := []) ⟨hx, hb, hml, hown, hts⟩ (c_X0_isNumber l dC dI cD cZ cI cL pf f0 f1 f2 f3 NF GF TF OF (en * 5 + bn) (by omega) hG) (cwV 1 hts gX1_told_X0_isNumber rfl rfl rfl (by decide +kernel) ⟨Nat.le_of_ble_eq_true rfl, Nat.le_of_ble_eq_true rfl⟩) (okP_pre ⟨hP.sub (ws' := [(pf, .inr (0, [.ref f0, .ref f1, .ref f2, .ref f3])), (f0, .inl (cD, 35, .inr (.inr (.inr (.inl (NF)))))), (f1, .inl (cZ, 35, .inl (GF))), (f2, .inl (cI, 30, .inl (TF))), (f3, .inl (cI, 6, .inl (OF)))]) [1, 2, 3, 4, 5] rfl, hK, hN⟩) rfl rfl hl.1 rfl (lv_room (Nat.le_of_ble_eq_true rfl)) dX1_told_30 ⟨Nat.zero_le _, Nat.zero_le _⟩)) (fun r6 er6 => ?_)
  subst er6
  refine lv_if_ne (tgt := 46) hx hb dX1_told_33 (by decide) (fun _ => ?_) (fun q => absurd q hth)
  refine lv_aload hx hb dX1_told_46 (lv_at hl 0 rfl) ?_
  refine lv_iload hx hb dX1_told_48 (lv_at hl 1 rfl) ?_
  refine vp_callSl (va_Run.run (va_runV (As := [.int (nI (en * 5 + bn))]) (rest := []) ⟨hx, hb, hml, hown, hts⟩ (c_X0_eighthsAt l dC dI cD cZ cI cL pf f0 f1 f2 f3 NF GF TF OF (en * 5 + bn) (by omega) (hg _)) (cwV 1 hts gX1_told_X0_eighthsAt rfl rfl rfl (by decide +kernel) ⟨Nat.le_of_ble_eq_true rfl, Nat.le_of_ble_eq_true rfl⟩) (okP_pre ⟨hP.sub (ws' := [(pf, .inr (0, [.ref f0, .ref f1, .ref f2, .ref f3])), (f0, .inl (cD, 35, .inr (.inr (.inr (.inl (NF)))))), (f1, .inl (cZ, 35, .inl (GF))), (f2, .inl (cI, 30, .inl (TF))), (f3, .inl (cI, 6, .inl (OF)))]) [1, 2, 3, 4, 5] rfl, hK, hN⟩) rfl rfl hl.1 rfl (lv_room (Nat.le_of_ble_eq_true rfl)) dX1_told_50 ⟨Nat.zero_le _, Nat.zero_le _⟩)) (fun r7 er7 => ?_)
  subst er7
  exact W.lret (v := e8 (NF (en * 5 + bn))) hx hb hr (fun t ht hW => ⟨_, rfl, rfl, ht⟩) (fun q hq => absurd hq List.not_mem_nil) dX1_told_53
set_option maxHeartbeats 4000000 in
set_option maxRecDepth 100000 in
theorem c_X1_clear_okN (l : Launch) (dC : Nat → ClassId) (dI : Nat → Nat → Nat) (cD cZ cI cL : ClassId) (h pf f0 f1 f2 f3 po o0 o1 o2 o3 tt t0 : Nat) (NF : Nat → UInt64) (GF TF OF : Nat → Int32) (NO : Nat → UInt64) (GO TO OO : Nat → Int32) (DG : Nat → Int64) (nn : Nat) (fb : Bool) (sz : Nat) (bn : Nat) (hbn : bn < 5) (hG : ∀ j, GF j = 0 ∨ GF j = 1) : Met l yX1_clear wsX1_clear ({ frames := 2, cells := 0, slots := 0, locals := 42 }) (va_Pc [.ref h, .int (nI (Bool.toNat (fb))), .int (-1), .int (nI (bn))] (fun U => U.heap.size = sz ∧ okJ dC dI cD cZ cI cL h pf f0 f1 f2 f3 po o0 o1 o2 o3 tt t0 NF GF TF OF NO GO TO OO DG nn fb U U.heap ∧ va_D (fun _ => True) (wJ cD cZ cI cL h pf f0 f1 f2 f3 po o0 o1 o2 o3 tt t0 NF GF TF OF NO GO TO OO DG nn fb))) (va_Qi (fun (r : Int32) (_ : Unit) => r = GF (6 * 5 + bn)) (fun _ t => atJ dC dI cD cZ cI cL (va_A (wJ cD cZ cI cL h pf f0 f1 f2 f3 po o0 o1 o2 o3 tt t0 NF GF TF OF NO GO TO OO DG nn fb) sz) h pf f0 f1 f2 f3 po o0 o1 o2 o3 tt t0 NF (upd GF (6 * 5 + bn) (nI (Bool.toNat false))) TF OF NO GO TO OO DG nn fb t) (va_A (wJ cD cZ cI cL h pf f0 f1 f2 f3 po o0 o1 o2 o3 tt t0 NF GF TF OF NO GO TO OO DG nn fb) sz)) 0 0 (va_A (wJ cD cZ cI cL h pf f0 f1 f2 f3 po o0 o1 o2 o3 tt t0 NF GF TF OF NO GO TO OO DG nn fb) sz) := by
  refine Met.ofW (cc := cX1_clear) (maxL := 4) (ret := (some .boolean)) (by decide) rfl ?_
  intro p e s m args below meth c s₁ B hml hv
  obtain ⟨rfl, hsz, hO, hD0⟩ := hv
  obtain ⟨hP, hK, hE⟩ := id hO
  have hx := B.exec
  have hb := B.bytes
  have hr := B.returns
  have hts := atoms_spec (ws := wsX1_clear) B.pre
  have hown : s.vm.findClass RX1 = some m.cls := findClass_of_methodNamed B.named
  have hlocks := B.notSynchronized
  subst hsz
  have hD := hD0.self (sz := s.heap.size)
  generalize hAe : va_A (wJ cD cZ cI cL h pf f0 f1 f2 f3 po o0 o1 o2 o3 tt t0 NF GF TF OF NO GO TO OO DG nn fb) s.heap.size = A at hD ⊢
  have hA : ∀ q : Nat, s.heap.size ≤ q → A q := fun q h => by rw [← hAe]; exact Or.inr h
  have hS : va_S A s.heap s.heap [] := va_S.rf
  have hP : va_P (dC, dI) vwCl [(h, .inr (1, [.ref (cond fb pf po), .ref (cond fb po pf), .ref tt, .int (nI (nn))])), (pf, .inr (0, [.ref f0, .ref f1, .ref f2, .ref f3])), (f0, .inl (cD, 35, .inr (.inr (.inr (.inl (NF)))))), (f1, .inl (cZ, 35, .inl (GF))), (f2, .inl (cI, 30, .inl (TF))), (f3, .inl (cI, 6, .inl (OF))), (po, .inr (0, [.ref o0, .ref o1, .ref o2, .ref o3])), (o0, .inl (cD, 35, .inr (.inr (.inr (.inl (NO)))))), (o1, .inl (cZ, 35, .inl (GO))), (o2, .inl (cI, 30, .inl (TO))), (o3, .inl (cI, 6, .inl (OO))), (tt, .inr (3, [.ref t0])), (t0, .inl (cL, 42, .inr (.inl (DG))))] s.heap := hP
  have hD : va_D A [(h, .inr (1, [.ref (cond fb pf po), .ref (cond fb po pf), .ref tt, .int (nI (nn))])), (pf, .inr (0, [.ref f0, .ref f1, .ref f2, .ref f3])), (f0, .inl (cD, 35, .inr (.inr (.inr (.inl (NF)))))), (f1, .inl (cZ, 35, .inl (GF))), (f2, .inl (cI, 30, .inl (TF))), (f3, .inl (cI, 6, .inl (OF))), (po, .inr (0, [.ref o0, .ref o1, .ref o2, .ref o3])), (o0, .inl (cD, 35, .inr (.inr (.inr (.inl (NO)))))), (o1, .inl (cZ, 35, .inl (GO))), (o2, .inl (cI, 30, .inl (TO))), (o3, .inl (cI, 6, .inl (OO))), (tt, .inr (3, [.ref t0])), (t0, .inl (cL, 42, .inr (.inl (DG))))] := hD
  have hl := lv_entry ([.ref h, .int (nI (Bool.toNat (fb))), .int (-1), .int (nI (bn))]) (n := 4) (Nat.le_of_ble_eq_true rfl)
  rw [lg_entry_eq]
  generalize (lg_sl ([.ref h, .int (nI (Bool.toNat (fb))), .int (-1), .int (nI (bn))]) ++ List.replicate (4 - (lg_sl ([.ref h, .int (nI (Bool.toNat (fb))), .int (-1), .int (nI (bn))])).length) Slot.unset).toArray = ls at hl ⊢
  have hl : lv_has ls 4 [(0, .ref h), (1, .int (nI (Bool.toNat (fb)))), (2, .int (-1)), (3, .int (nI (bn)))] := hl
  have hN := hE.nest
  refine lv_aload_n hx hb dX1_clear_0 rfl (lv_at hl 0 rfl) ?_
  refine lv_iload_n hx hb dX1_clear_1 rfl (lv_at hl 2 rfl) ?_
  refine va_csv (va_Run.run (va_runV (As := [.int (-1)]) (rest := []) ⟨hx, hb, hml, hown, hts⟩ (c_X1_requireEntryOrNone_okN l dC dI cD cZ cI cL h pf f0 f1 f2 f3 po o0 o1 o2 o3 tt t0 NF GF TF OF NO GO TO OO DG nn fb) (cwV 1 hts gX1_clear_X1_requireEntryOrNone rfl rfl rfl (by decide +kernel) ⟨Nat.le_of_ble_eq_true rfl, Nat.le_of_ble_eq_true rfl⟩) (okJ_pre ⟨hP, hK, hE⟩) rfl rfl hl.1 rfl (lv_room (Nat.le_of_ble_eq_true rfl)) dX1_clear_2 ⟨Nat.zero_le _, Nat.zero_le _⟩)) (fun _ => ?_)
  refine lv_iload_n hx hb dX1_clear_5 rfl (lv_at hl 3 rfl) ?_
  refine va_csv (va_Run.run (va_runS (As := [.int (nI (bn))]) (rest := []) ⟨hx, hb, hml, hown, hts⟩ (c_X1_requireSeat_ok l (bn) (by omega)) (va_cwS 1 hts gX1_clear_X1_requireSeat rfl rfl rfl (by decide +kernel) ⟨Nat.le_of_ble_eq_true rfl, Nat.le_of_ble_eq_true rfl⟩) preT rfl rfl hl.1 rfl (lv_room (Nat.le_of_ble_eq_true rfl)) dX1_clear_6 ⟨Nat.zero_le _, Nat.zero_le _⟩)) (fun _ => ?_)
  refine lv_aload_n hx hb dX1_clear_9 rfl (lv_at hl 0 rfl) ?_
  refine lv_iload_n hx hb dX1_clear_10 rfl (lv_at hl 1 rfl) ?_
  refine va_csr (va_Run.run (va_runV (As := [.int (nI (Bool.toNat (fb)))]) (rest := []) ⟨hx, hb, hml, hown, hts⟩ (c_X1_panel l dC dI cD cZ cI cL h pf f0 f1 f2 f3 po o0 o1 o2 o3 tt t0 NF GF TF OF NO GO TO OO DG nn fb) (cwV 1 hts gX1_clear_X1_panel rfl rfl rfl (by decide +kernel) ⟨Nat.le_of_ble_eq_true rfl, Nat.le_of_ble_eq_true rfl⟩) (okJ_pre ⟨hP, hK, hE⟩) rfl rfl hl.1 rfl (lv_room (Nat.le_of_ble_eq_true rfl)) dX1_clear_11 ⟨Nat.zero_le _, Nat.zero_le _⟩)) (fun r3 er3 => ?_)
  subst er3
  refine W.eq (g2 := F0 m 14 ls [.ref pf]) rfl ?_
  refine lv_iload_n hx hb dX1_clear_14 rfl (lv_at hl 2 rfl) ?_
  refine vp_callSi (va_Run.run (va_runS (As := [.int (-1)]) (rest := [.ref pf]) ⟨hx, hb, hml, hown, hts⟩ (c_X1_rowOf_okN l) (va_cwS 1 hts gX1_clear_X1_rowOf rfl rfl rfl (by decide +kernel) ⟨Nat.le_of_ble_eq_true rfl, Nat.le_of_ble_eq_true rfl⟩) preT rfl rfl hl.1 rfl (lv_room (Nat.le_of_ble_eq_true rfl)) dX1_clear_15 ⟨Nat.zero_le _, Nat.zero_le _⟩)) (fun r4 er4 => ?_)
  subst er4
  refine lv_iload_n hx hb dX1_clear_18 rfl (lv_at hl 3 rfl) ?_
  refine vp_callSi (va_Run.run (va_runS (As := [.int (nI (6)), .int (nI (bn))]) (rest := [.ref pf]) ⟨hx, hb, hml, hown, hts⟩ (c_X1_cellOf l (6) (bn)) (va_cwS 2 hts gX1_clear_X1_cellOf rfl rfl rfl (by decide +kernel) ⟨Nat.le_of_ble_eq_true rfl, Nat.le_of_ble_eq_true rfl⟩) preT rfl rfl hl.1 rfl (lv_room (Nat.le_of_ble_eq_true rfl)) dX1_clear_19 ⟨Nat.zero_le _, Nat.zero_le _⟩)) (fun r5 er5 => ?_)
  subst er5
  have hPc := hP.sub (ws' := [(pf, .inr (0, [.ref f0, .ref f1, .ref f2, .ref f3])), (f0, .inl (cD, 35, .inr (.inr (.inr (.inl (NF)))))), (f1, .inl (cZ, 35, .inl (GF))), (f2, .inl (cI, 30, .inl (TF))), (f3, .inl (cI, 6, .inl (OF)))]) [1, 2, 3, 4, 5] rfl
  have hDc := hD.sub (ws' := [(pf, .inr (0, [.ref f0, .ref f1, .ref f2, .ref f3])), (f0, .inl (cD, 35, .inr (.inr (.inr (.inl (NF)))))), (f1, .inl (cZ, 35, .inl (GF))), (f2, .inl (cI, 30, .inl (TF))), (f3, .inl (cI, 6, .inl (OF)))]) [1, 2, 3, 4, 5] (by decide) rfl
  have hFc := va_free (wc := [(pf, .inr (0, [.ref f0, .ref f1, .ref f2, .ref f3])), (f0, .inl (cD, 35, .inr (.inr (.inr (.inl (NF)))))), (f1, .inl (cZ, 35, .inl (GF))), (f2, .inl (cI, 30, .inl (TF))), (f3, .inl (cI, 6, .inl (OF)))]) hD hS hA [1, 2, 3, 4, 5] rfl
  refine va_calli (va_runV (As := [.int (nI (6 * 5 + bn))]) (rest := []) ⟨hx, hb, hml, hown, hts⟩ (c_X0_erase l dC dI cD cZ cI cL pf f0 f1 f2 f3 NF GF TF OF s.heap.size (6 * 5 + bn) (by omega) (hG)) (cwV 1 hts gX1_clear_X0_erase rfl rfl rfl (by decide +kernel) ⟨Nat.le_of_ble_eq_true rfl, Nat.le_of_ble_eq_true rfl⟩) (okPW_pre ⟨hPc, hK, hN⟩ hDc) rfl rfl hl.1 rfl (lv_room (Nat.le_of_ble_eq_true rfl)) dX1_clear_22 ⟨Nat.zero_le _, Nat.zero_le _⟩) hS (fun q _ h => hFc q h) hFc (fun r6 u6 t H1 locs ht hvm hw hB hz1 hk1 hS => ?_)
  obtain ⟨hP1, hK1, hD1⟩ := hB
  rw [ht] at hP1
  obtain ⟨hP, hD⟩ := va_join (wr := [(h, .inr (1, [.ref (cond fb pf po), .ref (cond fb po pf), .ref tt, .int (nI (nn))])), (po, .inr (0, [.ref o0, .ref o1, .ref o2, .ref o3])), (o0, .inl (cD, 35, .inr (.inr (.inr (.inl (NO)))))), (o1, .inl (cZ, 35, .inl (GO))), (o2, .inl (cI, 30, .inl (TO))), (o3, .inl (cI, 6, .inl (OO))), (tt, .inr (3, [.ref t0])), (t0, .inl (cL, 42, .inr (.inl (DG))))]) (w1 := [(pf, .inr (0, [.ref f0, .ref f1, .ref f2, .ref f3])), (f0, .inl (cD, 35, .inr (.inr (.inr (.inl (NF)))))), (f1, .inl (cZ, 35, .inl (upd GF (6 * 5 + bn) (nI (Bool.toNat false))))), (f2, .inl (cI, 30, .inl (TF))), (f3, .inl (cI, 6, .inl (OF)))]) hP hD [1, 2, 3, 4, 5] [0, 6, 7, 8, 9, 10, 11, 12] rfl rfl (by decide) (by decide) hk1 hFc hP1 hD1
  have hP := hP.sub (ws' := [(h, .inr (1, [.ref (cond fb pf po), .ref (cond fb po pf), .ref tt, .int (nI (nn))])), (pf, .inr (0, [.ref f0, .ref f1, .ref f2, .ref f3])), (f0, .inl (cD, 35, .inr (.inr (.inr (.inl (NF)))))), (f1, .inl (cZ, 35, .inl (upd GF (6 * 5 + bn) (nI (Bool.toNat false))))), (f2, .inl (cI, 30, .inl (TF))), (f3, .inl (cI, 6, .inl (OF))), (po, .inr (0, [.ref o0, .ref o1, .ref o2, .ref o3])), (o0, .inl (cD, 35, .inr (.inr (.inr (.inl (NO)))))), (o1, .inl (cZ, 35, .inl (GO))), (o2, .inl (cI, 30, .inl (TO))), (o3, .inl (cI, 6, .inl (OO))), (tt, .inr (3, [.ref t0])), (t0, .inl (cL, 42, .inr (.inl (DG))))]) [0, 8, 9, 10, 11, 12, 1, 2, 3, 4, 5, 6, 7] rfl
  have hD := hD.sub (ws' := [(h, .inr (1, [.ref (cond fb pf po), .ref (cond fb po pf), .ref tt, .int (nI (nn))])), (pf, .inr (0, [.ref f0, .ref f1, .ref f2, .ref f3])), (f0, .inl (cD, 35, .inr (.inr (.inr (.inl (NF)))))), (f1, .inl (cZ, 35, .inl (upd GF (6 * 5 + bn) (nI (Bool.toNat false))))), (f2, .inl (cI, 30, .inl (TF))), (f3, .inl (cI, 6, .inl (OF))), (po, .inr (0, [.ref o0, .ref o1, .ref o2, .ref o3])), (o0, .inl (cD, 35, .inr (.inr (.inr (.inl (NO)))))), (o1, .inl (cZ, 35, .inl (GO))), (o2, .inl (cI, 30, .inl (TO))), (o3, .inl (cI, 6, .inl (OO))), (tt, .inr (3, [.ref t0])), (t0, .inl (cL, 42, .inr (.inl (DG))))]) [0, 8, 9, 10, 11, 12, 1, 2, 3, 4, 5, 6, 7] (by decide) rfl
  generalize H1 = H at hP hS ⊢
  have hP : va_P (dC, dI) vwCl [(h, .inr (1, [.ref (cond fb pf po), .ref (cond fb po pf), .ref tt, .int (nI (nn))])), (pf, .inr (0, [.ref f0, .ref f1, .ref f2, .ref f3])), (f0, .inl (cD, 35, .inr (.inr (.inr (.inl (NF)))))), (f1, .inl (cZ, 35, .inl (upd GF (6 * 5 + bn) (nI (Bool.toNat false))))), (f2, .inl (cI, 30, .inl (TF))), (f3, .inl (cI, 6, .inl (OF))), (po, .inr (0, [.ref o0, .ref o1, .ref o2, .ref o3])), (o0, .inl (cD, 35, .inr (.inr (.inr (.inl (NO)))))), (o1, .inl (cZ, 35, .inl (GO))), (o2, .inl (cI, 30, .inl (TO))), (o3, .inl (cI, 6, .inl (OO))), (tt, .inr (3, [.ref t0])), (t0, .inl (cL, 42, .inr (.inl (DG))))] H := hP
  have hD : va_D A [(h, .inr (1, [.ref (cond fb pf po), .ref (cond fb po pf), .ref tt, .int (nI (nn))])), (pf, .inr (0, [.ref f0, .ref f1, .ref f2, .ref f3])), (f0, .inl (cD, 35, .inr (.inr (.inr (.inl (NF)))))), (f1, .inl (cZ, 35, .inl (upd GF (6 * 5 + bn) (nI (Bool.toNat false))))), (f2, .inl (cI, 30, .inl (TF))), (f3, .inl (cI, 6, .inl (OF))), (po, .inr (0, [.ref o0, .ref o1, .ref o2, .ref o3])), (o0, .inl (cD, 35, .inr (.inr (.inr (.inl (NO)))))), (o1, .inl (cZ, 35, .inl (GO))), (o2, .inl (cI, 30, .inl (TO))), (o3, .inl (cI, 6, .inl (OO))), (tt, .inr (3, [.ref t0])), (t0, .inl (cL, 42, .inr (.inl (DG))))] := hD
  subst hw
  exact W.zret (v := GF (6 * 5 + bn)) (ty := .boolean) hx hb hr (xz_nar (hG _)) (fun t ht hW => ⟨⟨_, (), rfl, rfl, by rw [ht]; exact hP, va_K.moved hW.alike hK, hD⟩, hS.F ht⟩) hS.2.2 dX1_clear_25
set_option maxHeartbeats 4000000 in
set_option maxRecDepth 100000 in
theorem c_X1_told_okN (l : Launch) (dC : Nat → ClassId) (dI : Nat → Nat → Nat) (cD cZ cI cL : ClassId) (h pf f0 f1 f2 f3 po o0 o1 o2 o3 tt t0 : Nat) (NF : Nat → UInt64) (GF TF OF : Nat → Int32) (NO : Nat → UInt64) (GO TO OO : Nat → Int32) (DG : Nat → Int64) (nn : Nat) (fb : Bool) (bn : Nat) (hbn : bn < 5) (hG : ∀ j, GF j = 0 ∨ GF j = 1) (hg : ∀ j, gd (NF j)) (hth : ¬ GF (6 * 5 + bn) = 0) : Met l yX1_told wsX1_told ({ frames := 2, cells := 0, slots := 0, locals := 42 }) (va_Pc [.ref h, .int (nI (Bool.toNat (fb))), .int (-1), .int (nI (bn))] (fun U => okJ dC dI cD cZ cI cL h pf f0 f1 f2 f3 po o0 o1 o2 o3 tt t0 NF GF TF OF NO GO TO OO DG nn fb U U.heap)) (vp_Sl (fun r => r = e8 (NF (6 * 5 + bn)))) 0 0 (fun _ => False) := by
  refine Met.ofW (cc := cX1_told) (maxL := 6) (ret := (some .long)) (by decide) rfl ?_
  intro p e s m args below meth c s₁ B hml hv
  obtain ⟨rfl, hO⟩ := hv
  obtain ⟨hP, hK, hE⟩ := id hO
  have hP : va_P (dC, dI) vwCl [(h, .inr (1, [.ref (cond fb pf po), .ref (cond fb po pf), .ref tt, .int (nI (nn))])), (pf, .inr (0, [.ref f0, .ref f1, .ref f2, .ref f3])), (f0, .inl (cD, 35, .inr (.inr (.inr (.inl (NF)))))), (f1, .inl (cZ, 35, .inl (GF))), (f2, .inl (cI, 30, .inl (TF))), (f3, .inl (cI, 6, .inl (OF))), (po, .inr (0, [.ref o0, .ref o1, .ref o2, .ref o3])), (o0, .inl (cD, 35, .inr (.inr (.inr (.inl (NO)))))), (o1, .inl (cZ, 35, .inl (GO))), (o2, .inl (cI, 30, .inl (TO))), (o3, .inl (cI, 6, .inl (OO))), (tt, .inr (3, [.ref t0])), (t0, .inl (cL, 42, .inr (.inl (DG))))] s.heap := hP
  have hx := B.exec
  have hb := B.bytes
  have hr := B.returns
  have hts := atoms_spec (ws := wsX1_told) B.pre
  have hown : s.vm.findClass RX1 = some m.cls := findClass_of_methodNamed B.named
  have hlocks := B.notSynchronized
  have hl := lv_entry ([.ref h, .int (nI (Bool.toNat (fb))), .int (-1), .int (nI (bn))]) (n := 6) (Nat.le_of_ble_eq_true rfl)
  rw [lg_entry_eq]
  generalize (lg_sl ([.ref h, .int (nI (Bool.toNat (fb))), .int (-1), .int (nI (bn))]) ++ List.replicate (6 - (lg_sl ([.ref h, .int (nI (Bool.toNat (fb))), .int (-1), .int (nI (bn))])).length) Slot.unset).toArray = ls at hl ⊢
  have hl : lv_has ls 6 [(0, .ref h), (1, .int (nI (Bool.toNat (fb)))), (2, .int (-1)), (3, .int (nI (bn)))] := hl
  have hN := hE.nest
  refine lv_aload_n hx hb dX1_told_0 rfl (lv_at hl 0 rfl) ?_
  refine lv_iload_n hx hb dX1_told_1 rfl (lv_at hl 2 rfl) ?_
  refine va_csv (va_Run.run (va_runV (As := [.int (-1)]) (rest := []) ⟨hx, hb, hml, hown, hts⟩ (c_X1_requireEntryOrNone_okN l dC dI cD cZ cI cL h pf f0 f1 f2 f3 po o0 o1 o2 o3 tt t0 NF GF TF OF NO GO TO OO DG nn fb) (cwV 1 hts gX1_told_X1_requireEntryOrNone rfl rfl rfl (by decide +kernel) ⟨Nat.le_of_ble_eq_true rfl, Nat.le_of_ble_eq_true rfl⟩) (okJ_pre ⟨hP, hK, hE⟩) rfl rfl hl.1 rfl (lv_room (Nat.le_of_ble_eq_true rfl)) dX1_told_2 ⟨Nat.zero_le _, Nat.zero_le _⟩)) (fun _ => ?_)
  refine lv_iload_n hx hb dX1_told_5 rfl (lv_at hl 3 rfl) ?_
  refine va_csv (va_Run.run (va_runS (As := [.int (nI (bn))]) (rest := []) ⟨hx, hb, hml, hown, hts⟩ (c_X1_requireSeat_ok l (bn) (by omega)) (va_cwS 1 hts gX1_told_X1_requireSeat rfl rfl rfl (by decide +kernel) ⟨Nat.le_of_ble_eq_true rfl, Nat.le_of_ble_eq_true rfl⟩) preT rfl rfl hl.1 rfl (lv_room (Nat.le_of_ble_eq_true rfl)) dX1_told_6 ⟨Nat.zero_le _, Nat.zero_le _⟩)) (fun _ => ?_)
  refine lv_iload_n hx hb dX1_told_9 rfl (lv_at hl 2 rfl) ?_
  refine vp_callSi (va_Run.run (va_runS (As := [.int (-1)]) (rest := []) ⟨hx, hb, hml, hown, hts⟩ (c_X1_rowOf_okN l) (va_cwS 1 hts gX1_told_X1_rowOf rfl rfl rfl (by decide +kernel) ⟨Nat.le_of_ble_eq_true rfl, Nat.le_of_ble_eq_true rfl⟩) preT rfl rfl hl.1 rfl (lv_room (Nat.le_of_ble_eq_true rfl)) dX1_told_10 ⟨Nat.zero_le _, Nat.zero_le _⟩)) (fun r3 er3 => ?_)
  subst er3
  refine lv_iload_n hx hb dX1_told_13 rfl (lv_at hl 3 rfl) ?_
  refine vp_callSi (va_Run.run (va_runS (As := [.int (nI (6)), .int (nI (bn))]) (rest := []) ⟨hx, hb, hml, hown, hts⟩ (c_X1_cellOf l (6) (bn)) (va_cwS 2 hts gX1_told_X1_cellOf rfl rfl rfl (by decide +kernel) ⟨Nat.le_of_ble_eq_true rfl, Nat.le_of_ble_eq_true rfl⟩) preT rfl rfl hl.1 rfl (lv_room (Nat.le_of_ble_eq_true rfl)) dX1_told_14 ⟨Nat.zero_le _, Nat.zero_le _⟩)) (fun r4 er4 => ?_)
  subst er4
  refine lv_istore (lv' := [(4, .int (nI (6 * 5 + bn))), (0, .ref h), (1, .int (nI (Bool.toNat (fb)))), (2, .int (-1)), (3, .int (nI (bn)))]) hx hb dX1_told_17 hl (by decide) rfl (fun ls hl => ?_)
  refine lv_aload_n hx hb dX1_told_19 rfl (lv_at hl 1 rfl) ?_
  refine lv_iload_n hx hb dX1_told_20 rfl (lv_at hl 2 rfl) ?_
  refine va_csr (va_Run.run (va_runV (As := [.int (nI (Bool.toNat (fb)))]) (rest := []) ⟨hx, hb, hml, hown, hts⟩ (c_X1_panel l dC dI cD cZ cI cL h pf f0 f1 f2 f3 po o0 o1 o2 o3 tt t0 NF GF TF OF NO GO TO OO DG nn fb) (cwV 1 hts gX1_told_X1_panel rfl rfl rfl (by decide +kernel) ⟨Nat.le_of_ble_eq_true rfl, Nat.le_of_ble_eq_true rfl⟩) (okJ_pre ⟨hP, hK, hE⟩) rfl rfl hl.1 rfl (lv_room (Nat.le_of_ble_eq_true rfl)) dX1_told_21 ⟨Nat.zero_le _, Nat.zero_le _⟩)) (fun r5 er5 => ?_)
  subst er5
  refine W.eq (g2 := F0 m 24 ls [.ref pf]) rfl ?_
  refine lv_astore (lv' := [(5, .ref pf), (4, .int (nI (6 * 5 + bn))), (0, .ref h), (1, .int (nI (Bool.toNat (fb)))), (2, .int (-1)), (3, .int (nI (bn)))]) hx hb dX1_told_24 hl (by decide) rfl (fun ls hl => ?_)
  refine lv_aload hx hb dX1_told_26 (lv_at hl 0 rfl) ?_
  refine lv_iload hx hb dX1_told_28 (lv_at hl 1 rfl) ?_
  refine vp_callSi (va_Run.run (va_runV (As := [.int (nI (6 * 5 + bn))]) (rest := []) ⟨hx, hb, hml, hown, hts⟩ (c_X0_isNumber l dC dI cD cZ cI cL pf f0 f1 f2 f3 NF GF TF OF (6 * 5 + bn) (by omega) hG) (cwV 1 hts gX1_told_X0_isNumber rfl rfl rfl (by decide +kernel) ⟨Nat.le_of_ble_eq_true rfl, Nat.le_of_ble_eq_true rfl⟩) (okP_pre ⟨hP.sub (ws' := [(pf, .inr (0, [.ref f0, .ref f1, .ref f2, .ref f3])), (f0, .inl (cD, 35, .inr (.inr (.inr (.inl (NF)))))), (f1, .inl (cZ, 35, .inl (GF))), (f2, .inl (cI, 30, .inl (TF))), (f3, .inl (cI, 6, .inl (OF)))]) [1, 2, 3, 4, 5] rfl, hK, hN⟩) rfl rfl hl.1 rfl (lv_room (Nat.le_of_ble_eq_true rfl)) dX1_told_30 ⟨Nat.zero_le _, Nat.zero_le _⟩)) (fun r6 er6 => ?_)
  subst er6
  refine lv_if_ne (tgt := 46) hx hb dX1_told_33 (by decide) (fun _ => ?_) (fun q => absurd q hth)
  refine lv_aload hx hb dX1_told_46 (lv_at hl 0 rfl) ?_
  refine lv_iload hx hb dX1_told_48 (lv_at hl 1 rfl) ?_
  refine vp_callSl (va_Run.run (va_runV (As := [.int (nI (6 * 5 + bn))]) (rest := []) ⟨hx, hb, hml, hown, hts⟩ (c_X0_eighthsAt l dC dI cD cZ cI cL pf f0 f1 f2 f3 NF GF TF OF (6 * 5 + bn) (by omega) (hg _)) (cwV 1 hts gX1_told_X0_eighthsAt rfl rfl rfl (by decide +kernel) ⟨Nat.le_of_ble_eq_true rfl, Nat.le_of_ble_eq_true rfl⟩) (okP_pre ⟨hP.sub (ws' := [(pf, .inr (0, [.ref f0, .ref f1, .ref f2, .ref f3])), (f0, .inl (cD, 35, .inr (.inr (.inr (.inl (NF)))))), (f1, .inl (cZ, 35, .inl (GF))), (f2, .inl (cI, 30, .inl (TF))), (f3, .inl (cI, 6, .inl (OF)))]) [1, 2, 3, 4, 5] rfl, hK, hN⟩) rfl rfl hl.1 rfl (lv_room (Nat.le_of_ble_eq_true rfl)) dX1_told_50 ⟨Nat.zero_le _, Nat.zero_le _⟩)) (fun r7 er7 => ?_)
  subst er7
  exact W.lret (v := e8 (NF (6 * 5 + bn))) hx hb hr (fun t ht hW => ⟨_, rfl, rfl, ht⟩) (fun q hq => absurd hq List.not_mem_nil) dX1_told_53
set_option maxHeartbeats 4000000 in
set_option maxRecDepth 100000 in
theorem c_X1_holds_ok (l : Launch) (dC : Nat → ClassId) (dI : Nat → Nat → Nat) (cD cZ cI cL : ClassId) (h pf f0 f1 f2 f3 po o0 o1 o2 o3 tt t0 : Nat) (NF : Nat → UInt64) (GF TF OF : Nat → Int32) (NO : Nat → UInt64) (GO TO OO : Nat → Int32) (DG : Nat → Int64) (nn : Nat) (fb : Bool) (hnn : nn ≤ 6) (en bn : Nat) (hen : en < nn) (hbn : bn < 5) (kn : Nat) (hkn : kn < 24) : Met l yX1_holds wsX1_holds ({ frames := 2, cells := 0, slots := 0, locals := 51 }) (va_Pc [.ref h, .int (nI (Bool.toNat (fb))), .int (nI (en)), .int (nI (bn)), .int (nI (kn))] (fun U => okJ dC dI cD cZ cI cL h pf f0 f1 f2 f3 po o0 o1 o2 o3 tt t0 NF GF TF OF NO GO TO OO DG nn fb U U.heap)) (vp_Si (fun r => r = nI (Bool.toNat (so GF NF (en * 5 + bn) (6 * 5 + bn) kn)))) 0 0 (fun _ => False) := by
  refine Met.ofW (cc := cX1_holds) (maxL := 5) (ret := (some .boolean)) (by decide) rfl ?_
  intro p e s m args below meth c s₁ B hml hv
  obtain ⟨rfl, hO⟩ := hv
  obtain ⟨hP, hK, hE⟩ := id hO
  have hP : va_P (dC, dI) vwCl [(h, .inr (1, [.ref (cond fb pf po), .ref (cond fb po pf), .ref tt, .int (nI (nn))])), (pf, .inr (0, [.ref f0, .ref f1, .ref f2, .ref f3])), (f0, .inl (cD, 35, .inr (.inr (.inr (.inl (NF)))))), (f1, .inl (cZ, 35, .inl (GF))), (f2, .inl (cI, 30, .inl (TF))), (f3, .inl (cI, 6, .inl (OF))), (po, .inr (0, [.ref o0, .ref o1, .ref o2, .ref o3])), (o0, .inl (cD, 35, .inr (.inr (.inr (.inl (NO)))))), (o1, .inl (cZ, 35, .inl (GO))), (o2, .inl (cI, 30, .inl (TO))), (o3, .inl (cI, 6, .inl (OO))), (tt, .inr (3, [.ref t0])), (t0, .inl (cL, 42, .inr (.inl (DG))))] s.heap := hP
  have hx := B.exec
  have hb := B.bytes
  have hr := B.returns
  have hts := atoms_spec (ws := wsX1_holds) B.pre
  have hown : s.vm.findClass RX1 = some m.cls := findClass_of_methodNamed B.named
  have hlocks := B.notSynchronized
  have hl := lv_entry ([.ref h, .int (nI (Bool.toNat (fb))), .int (nI (en)), .int (nI (bn)), .int (nI (kn))]) (n := 5) (Nat.le_of_ble_eq_true rfl)
  rw [lg_entry_eq]
  generalize (lg_sl ([.ref h, .int (nI (Bool.toNat (fb))), .int (nI (en)), .int (nI (bn)), .int (nI (kn))]) ++ List.replicate (5 - (lg_sl ([.ref h, .int (nI (Bool.toNat (fb))), .int (nI (en)), .int (nI (bn)), .int (nI (kn))])).length) Slot.unset).toArray = ls at hl ⊢
  have hl : lv_has ls 5 [(0, .ref h), (1, .int (nI (Bool.toNat (fb)))), (2, .int (nI (en))), (3, .int (nI (bn))), (4, .int (nI (kn)))] := hl
  have hN := hE.nest
  refine lv_aload_n hx hb dX1_holds_0 rfl (lv_at hl 0 rfl) ?_
  refine lv_iload_n hx hb dX1_holds_1 rfl (lv_at hl 2 rfl) ?_
  refine va_csv (va_Run.run (va_runV (As := [.int (nI (en))]) (rest := []) ⟨hx, hb, hml, hown, hts⟩ (c_X1_requireEntry_ok l dC dI cD cZ cI cL h pf f0 f1 f2 f3 po o0 o1 o2 o3 tt t0 NF GF TF OF NO GO TO OO DG nn fb (en) (by omega) (by omega)) (cwV 1 hts gX1_holds_X1_requireEntry rfl rfl rfl (by decide +kernel) ⟨Nat.le_of_ble_eq_true rfl, Nat.le_of_ble_eq_true rfl⟩) (okJ_pre ⟨hP, hK, hE⟩) rfl rfl hl.1 rfl (lv_room (Nat.le_of_ble_eq_true rfl)) dX1_holds_2 ⟨Nat.zero_le _, Nat.zero_le _⟩)) (fun _ => ?_)
  refine lv_iload_n hx hb dX1_holds_5 rfl (lv_at hl 3 rfl) ?_
  refine va_csv (va_Run.run (va_runS (As := [.int (nI (bn))]) (rest := []) ⟨hx, hb, hml, hown, hts⟩ (c_X1_requireSeat_ok l (bn) (by omega)) (va_cwS 1 hts gX1_holds_X1_requireSeat rfl rfl rfl (by decide +kernel) ⟨Nat.le_of_ble_eq_true rfl, Nat.le_of_ble_eq_true rfl⟩) preT rfl rfl hl.1 rfl (lv_room (Nat.le_of_ble_eq_true rfl)) dX1_holds_6 ⟨Nat.zero_le _, Nat.zero_le _⟩)) (fun _ => ?_)
  refine lv_iload hx hb dX1_holds_9 (lv_at hl 4 rfl) ?_
  refine lv_bipush (v := nI 24) hx hb dX1_holds_11 (by decide) ?_
  refine va_csv (va_Run.run (va_runS (As := [.int (nI (kn)), .int (nI (24))]) (rest := []) ⟨hx, hb, hml, hown, hts⟩ (c_X1_requireBelow_ok l (kn) (24) (by omega) (by omega)) (va_cwS 2 hts gX1_holds_X1_requireBelow rfl rfl rfl (by decide +kernel) ⟨Nat.le_of_ble_eq_true rfl, Nat.le_of_ble_eq_true rfl⟩) preT rfl rfl hl.1 rfl (lv_room (Nat.le_of_ble_eq_true rfl)) dX1_holds_13 ⟨Nat.zero_le _, Nat.zero_le _⟩)) (fun _ => ?_)
  refine lv_aload_n hx hb dX1_holds_16 rfl (lv_at hl 0 rfl) ?_
  refine lv_iload_n hx hb dX1_holds_17 rfl (lv_at hl 1 rfl) ?_
  refine va_csr (va_Run.run (va_runV (As := [.int (nI (Bool.toNat (fb)))]) (rest := []) ⟨hx, hb, hml, hown, hts⟩ (c_X1_panel l dC dI cD cZ cI cL h pf f0 f1 f2 f3 po o0 o1 o2 o3 tt t0 NF GF TF OF NO GO TO OO DG nn fb) (cwV 1 hts gX1_holds_X1_panel rfl rfl rfl (by decide +kernel) ⟨Nat.le_of_ble_eq_true rfl, Nat.le_of_ble_eq_true rfl⟩) (okJ_pre ⟨hP, hK, hE⟩) rfl rfl hl.1 rfl (lv_room (Nat.le_of_ble_eq_true rfl)) dX1_holds_18 ⟨Nat.zero_le _, Nat.zero_le _⟩)) (fun r4 er4 => ?_)
  subst er4
  refine W.eq (g2 := F0 m 21 ls [.ref pf]) rfl ?_
  refine lv_iload_n hx hb dX1_holds_21 rfl (lv_at hl 2 rfl) ?_
  refine lv_iload_n hx hb dX1_holds_22 rfl (lv_at hl 3 rfl) ?_
  refine lv_iload hx hb dX1_holds_23 (lv_at hl 4 rfl) ?_
  refine vp_callSi (va_Run.run (va_runV (As := [.int (nI (en)), .int (nI (bn)), .int (nI (kn))]) (rest := []) ⟨hx, hb, hml, hown, hts⟩ (c_X0_isSo l dC dI cD cZ cI cL pf f0 f1 f2 f3 NF GF TF OF (en) (bn) (kn) (by omega) (by omega) (by omega)) (cwV 3 hts gX1_holds_X0_isSo rfl rfl rfl (by decide +kernel) ⟨Nat.le_of_ble_eq_true rfl, Nat.le_of_ble_eq_true rfl⟩) (okP_pre ⟨hP.sub (ws' := [(pf, .inr (0, [.ref f0, .ref f1, .ref f2, .ref f3])), (f0, .inl (cD, 35, .inr (.inr (.inr (.inl (NF)))))), (f1, .inl (cZ, 35, .inl (GF))), (f2, .inl (cI, 30, .inl (TF))), (f3, .inl (cI, 6, .inl (OF)))]) [1, 2, 3, 4, 5] rfl, hK, hN⟩) rfl rfl hl.1 rfl (lv_room (Nat.le_of_ble_eq_true rfl)) dX1_holds_25 ⟨Nat.zero_le _, Nat.zero_le _⟩)) (fun r5 er5 => ?_)
  subst er5
  exact W.zret (v := nI (Bool.toNat (so GF NF (en * 5 + bn) (6 * 5 + bn) kn))) (ty := .boolean) hx hb hr (xb_nar _) (fun t ht hW => ⟨_, rfl, rfl, ht⟩) (fun q hq => absurd hq List.not_mem_nil) dX1_holds_28
set_option maxHeartbeats 4000000 in
set_option maxRecDepth 100000 in
theorem c_X1_tally_ok (l : Launch) (dC : Nat → ClassId) (dI : Nat → Nat → Nat) (cD cZ cI cL : ClassId) (h pf f0 f1 f2 f3 po o0 o1 o2 o3 tt t0 : Nat) (NF : Nat → UInt64) (GF TF OF : Nat → Int32) (NO : Nat → UInt64) (GO TO OO : Nat → Int32) (DG : Nat → Int64) (nn : Nat) (fb : Bool) (hnn : nn ≤ 6) (en : Nat) (hen : en < nn) (kn : Nat) (hkn : kn < 24) : Met l yX1_tally wsX1_tally ({ frames := 3, cells := 0, slots := 0, locals := 75 }) (va_Pc [.ref h, .int (nI (Bool.toNat (fb))), .int (nI (en)), .int (nI (kn))] (fun U => okJ dC dI cD cZ cI cL h pf f0 f1 f2 f3 po o0 o1 o2 o3 tt t0 NF GF TF OF NO GO TO OO DG nn fb U U.heap)) (vp_Si (fun r => r = nI (cnt (fun b => so GF NF (en * 5 + b) (6 * 5 + b) kn) 5))) 0 0 (fun _ => False) := by
  refine Met.ofW (cc := cX1_tally) (maxL := 4) (ret := (some .int)) (by decide) rfl ?_
  intro p e s m args below meth c s₁ B hml hv
  obtain ⟨rfl, hO⟩ := hv
  obtain ⟨hP, hK, hE⟩ := id hO
  have hP : va_P (dC, dI) vwCl [(h, .inr (1, [.ref (cond fb pf po), .ref (cond fb po pf), .ref tt, .int (nI (nn))])), (pf, .inr (0, [.ref f0, .ref f1, .ref f2, .ref f3])), (f0, .inl (cD, 35, .inr (.inr (.inr (.inl (NF)))))), (f1, .inl (cZ, 35, .inl (GF))), (f2, .inl (cI, 30, .inl (TF))), (f3, .inl (cI, 6, .inl (OF))), (po, .inr (0, [.ref o0, .ref o1, .ref o2, .ref o3])), (o0, .inl (cD, 35, .inr (.inr (.inr (.inl (NO)))))), (o1, .inl (cZ, 35, .inl (GO))), (o2, .inl (cI, 30, .inl (TO))), (o3, .inl (cI, 6, .inl (OO))), (tt, .inr (3, [.ref t0])), (t0, .inl (cL, 42, .inr (.inl (DG))))] s.heap := hP
  have hx := B.exec
  have hb := B.bytes
  have hr := B.returns
  have hts := atoms_spec (ws := wsX1_tally) B.pre
  have hown : s.vm.findClass RX1 = some m.cls := findClass_of_methodNamed B.named
  have hlocks := B.notSynchronized
  have hl := lv_entry ([.ref h, .int (nI (Bool.toNat (fb))), .int (nI (en)), .int (nI (kn))]) (n := 4) (Nat.le_of_ble_eq_true rfl)
  rw [lg_entry_eq]
  generalize (lg_sl ([.ref h, .int (nI (Bool.toNat (fb))), .int (nI (en)), .int (nI (kn))]) ++ List.replicate (4 - (lg_sl ([.ref h, .int (nI (Bool.toNat (fb))), .int (nI (en)), .int (nI (kn))])).length) Slot.unset).toArray = ls at hl ⊢
  have hl : lv_has ls 4 [(0, .ref h), (1, .int (nI (Bool.toNat (fb)))), (2, .int (nI (en))), (3, .int (nI (kn)))] := hl
  have hN := hE.nest
  refine lv_aload_n hx hb dX1_tally_0 rfl (lv_at hl 0 rfl) ?_
  refine lv_iload_n hx hb dX1_tally_1 rfl (lv_at hl 2 rfl) ?_
  refine va_csv (va_Run.run (va_runV (As := [.int (nI (en))]) (rest := []) ⟨hx, hb, hml, hown, hts⟩ (c_X1_requireEntry_ok l dC dI cD cZ cI cL h pf f0 f1 f2 f3 po o0 o1 o2 o3 tt t0 NF GF TF OF NO GO TO OO DG nn fb (en) (by omega) (by omega)) (cwV 1 hts gX1_tally_X1_requireEntry rfl rfl rfl (by decide +kernel) ⟨Nat.le_of_ble_eq_true rfl, Nat.le_of_ble_eq_true rfl⟩) (okJ_pre ⟨hP, hK, hE⟩) rfl rfl hl.1 rfl (lv_room (Nat.le_of_ble_eq_true rfl)) dX1_tally_2 ⟨Nat.zero_le _, Nat.zero_le _⟩)) (fun _ => ?_)
  refine lv_iload_n hx hb dX1_tally_5 rfl (lv_at hl 3 rfl) ?_
  refine lv_bipush (v := nI 24) hx hb dX1_tally_6 (by decide) ?_
  refine va_csv (va_Run.run (va_runS (As := [.int (nI (kn)), .int (nI (24))]) (rest := []) ⟨hx, hb, hml, hown, hts⟩ (c_X1_requireBelow_ok l (kn) (24) (by omega) (by omega)) (va_cwS 2 hts gX1_tally_X1_requireBelow rfl rfl rfl (by decide +kernel) ⟨Nat.le_of_ble_eq_true rfl, Nat.le_of_ble_eq_true rfl⟩) preT rfl rfl hl.1 rfl (lv_room (Nat.le_of_ble_eq_true rfl)) dX1_tally_8 ⟨Nat.zero_le _, Nat.zero_le _⟩)) (fun _ => ?_)
  refine lv_aload_n hx hb dX1_tally_11 rfl (lv_at hl 0 rfl) ?_
  refine lv_iload_n hx hb dX1_tally_12 rfl (lv_at hl 1 rfl) ?_
  refine va_csr (va_Run.run (va_runV (As := [.int (nI (Bool.toNat (fb)))]) (rest := []) ⟨hx, hb, hml, hown, hts⟩ (c_X1_panel l dC dI cD cZ cI cL h pf f0 f1 f2 f3 po o0 o1 o2 o3 tt t0 NF GF TF OF NO GO TO OO DG nn fb) (cwV 1 hts gX1_tally_X1_panel rfl rfl rfl (by decide +kernel) ⟨Nat.le_of_ble_eq_true rfl, Nat.le_of_ble_eq_true rfl⟩) (okJ_pre ⟨hP, hK, hE⟩) rfl rfl hl.1 rfl (lv_room (Nat.le_of_ble_eq_true rfl)) dX1_tally_13 ⟨Nat.zero_le _, Nat.zero_le _⟩)) (fun r3 er3 => ?_)
  subst er3
  refine W.eq (g2 := F0 m 16 ls [.ref pf]) rfl ?_
  refine lv_iload_n hx hb dX1_tally_16 rfl (lv_at hl 2 rfl) ?_
  refine lv_iload_n hx hb dX1_tally_17 rfl (lv_at hl 3 rfl) ?_
  refine vp_callSi (va_Run.run (va_runV (As := [.int (nI (en)), .int (nI (kn))]) (rest := []) ⟨hx, hb, hml, hown, hts⟩ (c_X0_seatsWhereSo l dC dI cD cZ cI cL pf f0 f1 f2 f3 NF GF TF OF (en) (kn) (by omega) (by omega)) (cwV 2 hts gX1_tally_X0_seatsWhereSo rfl rfl rfl (by decide +kernel) ⟨Nat.le_of_ble_eq_true rfl, Nat.le_of_ble_eq_true rfl⟩) (okP_pre ⟨hP.sub (ws' := [(pf, .inr (0, [.ref f0, .ref f1, .ref f2, .ref f3])), (f0, .inl (cD, 35, .inr (.inr (.inr (.inl (NF)))))), (f1, .inl (cZ, 35, .inl (GF))), (f2, .inl (cI, 30, .inl (TF))), (f3, .inl (cI, 6, .inl (OF)))]) [1, 2, 3, 4, 5] rfl, hK, hN⟩) rfl rfl hl.1 rfl (lv_room (Nat.le_of_ble_eq_true rfl)) dX1_tally_18 ⟨Nat.zero_le _, Nat.zero_le _⟩)) (fun r4 er4 => ?_)
  subst er4
  exact W.iret (v := nI (cnt (fun b => so GF NF (en * 5 + b) (6 * 5 + b) kn) 5)) hx hb hr (fun t ht hW => ⟨_, rfl, rfl, ht⟩) (fun q hq => absurd hq List.not_mem_nil) dX1_tally_21
set_option maxHeartbeats 4000000 in
set_option maxRecDepth 100000 in
theorem c_X1_run_ok (l : Launch) (dC : Nat → ClassId) (dI : Nat → Nat → Nat) (cD cZ cI cL : ClassId) (h pf f0 f1 f2 f3 po o0 o1 o2 o3 tt t0 : Nat) (NF : Nat → UInt64) (GF TF OF : Nat → Int32) (NO : Nat → UInt64) (GO TO OO : Nat → Int32) (DG : Nat → Int64) (nn : Nat) (fb : Bool) (hnn : nn ≤ 6) (en fr : Nat) (hen : en < nn) (hfr : fr < 6) (kn : Nat) (hkn : kn < 24) : Met l yX1_run wsX1_run ({ frames := 3, cells := 0, slots := 0, locals := 75 }) (va_Pc [.ref h, .int (nI (Bool.toNat (fb))), .int (nI (en)), .int (nI (fr)), .int (nI (kn))] (fun U => okJ dC dI cD cZ cI cL h pf f0 f1 f2 f3 po o0 o1 o2 o3 tt t0 NF GF TF OF NO GO TO OO DG nn fb U U.heap)) (vp_Si (fun r => r = nI (stp (fun b => so GF NF (en * 5 + b) (6 * 5 + b) kn) (5 - fr) fr))) 0 0 (fun _ => False) := by
  refine Met.ofW (cc := cX1_run) (maxL := 5) (ret := (some .int)) (by decide) rfl ?_
  intro p e s m args below meth c s₁ B hml hv
  obtain ⟨rfl, hO⟩ := hv
  obtain ⟨hP, hK, hE⟩ := id hO
  have hP : va_P (dC, dI) vwCl [(h, .inr (1, [.ref (cond fb pf po), .ref (cond fb po pf), .ref tt, .int (nI (nn))])), (pf, .inr (0, [.ref f0, .ref f1, .ref f2, .ref f3])), (f0, .inl (cD, 35, .inr (.inr (.inr (.inl (NF)))))), (f1, .inl (cZ, 35, .inl (GF))), (f2, .inl (cI, 30, .inl (TF))), (f3, .inl (cI, 6, .inl (OF))), (po, .inr (0, [.ref o0, .ref o1, .ref o2, .ref o3])), (o0, .inl (cD, 35, .inr (.inr (.inr (.inl (NO)))))), (o1, .inl (cZ, 35, .inl (GO))), (o2, .inl (cI, 30, .inl (TO))), (o3, .inl (cI, 6, .inl (OO))), (tt, .inr (3, [.ref t0])), (t0, .inl (cL, 42, .inr (.inl (DG))))] s.heap := hP
  have hx := B.exec
  have hb := B.bytes
  have hr := B.returns
  have hts := atoms_spec (ws := wsX1_run) B.pre
  have hown : s.vm.findClass RX1 = some m.cls := findClass_of_methodNamed B.named
  have hlocks := B.notSynchronized
  have hl := lv_entry ([.ref h, .int (nI (Bool.toNat (fb))), .int (nI (en)), .int (nI (fr)), .int (nI (kn))]) (n := 5) (Nat.le_of_ble_eq_true rfl)
  rw [lg_entry_eq]
  generalize (lg_sl ([.ref h, .int (nI (Bool.toNat (fb))), .int (nI (en)), .int (nI (fr)), .int (nI (kn))]) ++ List.replicate (5 - (lg_sl ([.ref h, .int (nI (Bool.toNat (fb))), .int (nI (en)), .int (nI (fr)), .int (nI (kn))])).length) Slot.unset).toArray = ls at hl ⊢
  have hl : lv_has ls 5 [(0, .ref h), (1, .int (nI (Bool.toNat (fb)))), (2, .int (nI (en))), (3, .int (nI (fr))), (4, .int (nI (kn)))] := hl
  have hN := hE.nest
  refine lv_aload_n hx hb dX1_run_0 rfl (lv_at hl 0 rfl) ?_
  refine lv_iload_n hx hb dX1_run_1 rfl (lv_at hl 2 rfl) ?_
  refine va_csv (va_Run.run (va_runV (As := [.int (nI (en))]) (rest := []) ⟨hx, hb, hml, hown, hts⟩ (c_X1_requireEntry_ok l dC dI cD cZ cI cL h pf f0 f1 f2 f3 po o0 o1 o2 o3 tt t0 NF GF TF OF NO GO TO OO DG nn fb (en) (by omega) (by omega)) (cwV 1 hts gX1_run_X1_requireEntry rfl rfl rfl (by decide +kernel) ⟨Nat.le_of_ble_eq_true rfl, Nat.le_of_ble_eq_true rfl⟩) (okJ_pre ⟨hP, hK, hE⟩) rfl rfl hl.1 rfl (lv_room (Nat.le_of_ble_eq_true rfl)) dX1_run_2 ⟨Nat.zero_le _, Nat.zero_le _⟩)) (fun _ => ?_)
  refine lv_iload_n hx hb dX1_run_5 rfl (lv_at hl 3 rfl) ?_
  refine lv_iconst (v := nI 5) hx hb dX1_run_6 (by decide) ?_
  refine xn_icmp_eq (tgt := 14) hx hb (by omega) (by decide) dX1_run_7 (by decide) (fun c7 => ?_) (fun c7 => ?_)
  · refine lv_iload hx hb dX1_run_14 (lv_at hl 4 rfl) ?_
    refine lv_bipush (v := nI 24) hx hb dX1_run_16 (by decide) ?_
    refine va_csv (va_Run.run (va_runS (As := [.int (nI (kn)), .int (nI (24))]) (rest := []) ⟨hx, hb, hml, hown, hts⟩ (c_X1_requireBelow_ok l (kn) (24) (by omega) (by omega)) (va_cwS 2 hts gX1_run_X1_requireBelow rfl rfl rfl (by decide +kernel) ⟨Nat.le_of_ble_eq_true rfl, Nat.le_of_ble_eq_true rfl⟩) preT rfl rfl hl.1 rfl (lv_room (Nat.le_of_ble_eq_true rfl)) dX1_run_18 ⟨Nat.zero_le _, Nat.zero_le _⟩)) (fun _ => ?_)
    refine lv_aload_n hx hb dX1_run_21 rfl (lv_at hl 0 rfl) ?_
    refine lv_iload_n hx hb dX1_run_22 rfl (lv_at hl 1 rfl) ?_
    refine va_csr (va_Run.run (va_runV (As := [.int (nI (Bool.toNat (fb)))]) (rest := []) ⟨hx, hb, hml, hown, hts⟩ (c_X1_panel l dC dI cD cZ cI cL h pf f0 f1 f2 f3 po o0 o1 o2 o3 tt t0 NF GF TF OF NO GO TO OO DG nn fb) (cwV 1 hts gX1_run_X1_panel rfl rfl rfl (by decide +kernel) ⟨Nat.le_of_ble_eq_true rfl, Nat.le_of_ble_eq_true rfl⟩) (okJ_pre ⟨hP, hK, hE⟩) rfl rfl hl.1 rfl (lv_room (Nat.le_of_ble_eq_true rfl)) dX1_run_23 ⟨Nat.zero_le _, Nat.zero_le _⟩)) (fun r3 er3 => ?_)
    subst er3
    refine W.eq (g2 := F0 m 26 ls [.ref pf]) rfl ?_
    refine lv_iload_n hx hb dX1_run_26 rfl (lv_at hl 2 rfl) ?_
    refine lv_iload_n hx hb dX1_run_27 rfl (lv_at hl 3 rfl) ?_
    refine lv_iload hx hb dX1_run_28 (lv_at hl 4 rfl) ?_
    refine vp_callSi (va_Run.run (va_runV (As := [.int (nI (en)), .int (nI (fr)), .int (nI (kn))]) (rest := []) ⟨hx, hb, hml, hown, hts⟩ (c_X0_stopOf l dC dI cD cZ cI cL pf f0 f1 f2 f3 NF GF TF OF (en) (fr) (kn) (by omega) (by omega) (by omega)) (cwV 3 hts gX1_run_X0_stopOf rfl rfl rfl (by decide +kernel) ⟨Nat.le_of_ble_eq_true rfl, Nat.le_of_ble_eq_true rfl⟩) (okP_pre ⟨hP.sub (ws' := [(pf, .inr (0, [.ref f0, .ref f1, .ref f2, .ref f3])), (f0, .inl (cD, 35, .inr (.inr (.inr (.inl (NF)))))), (f1, .inl (cZ, 35, .inl (GF))), (f2, .inl (cI, 30, .inl (TF))), (f3, .inl (cI, 6, .inl (OF)))]) [1, 2, 3, 4, 5] rfl, hK, hN⟩) rfl rfl hl.1 rfl (lv_room (Nat.le_of_ble_eq_true rfl)) dX1_run_30 ⟨Nat.zero_le _, Nat.zero_le _⟩)) (fun r4 er4 => ?_)
    subst er4
    exact W.iret (v := nI (stp (fun b => so GF NF (en * 5 + b) (6 * 5 + b) kn) (5 - fr) fr)) hx hb hr (fun t ht hW => ⟨_, rfl, rfl, ht⟩) (fun q hq => absurd hq List.not_mem_nil) dX1_run_33
  · refine lv_iload_n hx hb dX1_run_10 rfl (lv_at hl 3 rfl) ?_
    refine va_csv (va_Run.run (va_runS (As := [.int (nI (fr))]) (rest := []) ⟨hx, hb, hml, hown, hts⟩ (c_X1_requireSeat_ok l (fr) (by omega)) (va_cwS 1 hts gX1_run_X1_requireSeat rfl rfl rfl (by decide +kernel) ⟨Nat.le_of_ble_eq_true rfl, Nat.le_of_ble_eq_true rfl⟩) preT rfl rfl hl.1 rfl (lv_room (Nat.le_of_ble_eq_true rfl)) dX1_run_11 ⟨Nat.zero_le _, Nat.zero_le _⟩)) (fun _ => ?_)
    refine lv_iload hx hb dX1_run_14 (lv_at hl 4 rfl) ?_
    refine lv_bipush (v := nI 24) hx hb dX1_run_16 (by decide) ?_
    refine va_csv (va_Run.run (va_runS (As := [.int (nI (kn)), .int (nI (24))]) (rest := []) ⟨hx, hb, hml, hown, hts⟩ (c_X1_requireBelow_ok l (kn) (24) (by omega) (by omega)) (va_cwS 2 hts gX1_run_X1_requireBelow rfl rfl rfl (by decide +kernel) ⟨Nat.le_of_ble_eq_true rfl, Nat.le_of_ble_eq_true rfl⟩) preT rfl rfl hl.1 rfl (lv_room (Nat.le_of_ble_eq_true rfl)) dX1_run_18 ⟨Nat.zero_le _, Nat.zero_le _⟩)) (fun _ => ?_)
    refine lv_aload_n hx hb dX1_run_21 rfl (lv_at hl 0 rfl) ?_
    refine lv_iload_n hx hb dX1_run_22 rfl (lv_at hl 1 rfl) ?_
    refine va_csr (va_Run.run (va_runV (As := [.int (nI (Bool.toNat (fb)))]) (rest := []) ⟨hx, hb, hml, hown, hts⟩ (c_X1_panel l dC dI cD cZ cI cL h pf f0 f1 f2 f3 po o0 o1 o2 o3 tt t0 NF GF TF OF NO GO TO OO DG nn fb) (cwV 1 hts gX1_run_X1_panel rfl rfl rfl (by decide +kernel) ⟨Nat.le_of_ble_eq_true rfl, Nat.le_of_ble_eq_true rfl⟩) (okJ_pre ⟨hP, hK, hE⟩) rfl rfl hl.1 rfl (lv_room (Nat.le_of_ble_eq_true rfl)) dX1_run_23 ⟨Nat.zero_le _, Nat.zero_le _⟩)) (fun r7 er7 => ?_)
    subst er7
    refine W.eq (g2 := F0 m 26 ls [.ref pf]) rfl ?_
    refine lv_iload_n hx hb dX1_run_26 rfl (lv_at hl 2 rfl) ?_
    refine lv_iload_n hx hb dX1_run_27 rfl (lv_at hl 3 rfl) ?_
    refine lv_iload hx hb dX1_run_28 (lv_at hl 4 rfl) ?_
    refine vp_callSi (va_Run.run (va_runV (As := [.int (nI (en)), .int (nI (fr)), .int (nI (kn))]) (rest := []) ⟨hx, hb, hml, hown, hts⟩ (c_X0_stopOf l dC dI cD cZ cI cL pf f0 f1 f2 f3 NF GF TF OF (en) (fr) (kn) (by omega) (by omega) (by omega)) (cwV 3 hts gX1_run_X0_stopOf rfl rfl rfl (by decide +kernel) ⟨Nat.le_of_ble_eq_true rfl, Nat.le_of_ble_eq_true rfl⟩) (okP_pre ⟨hP.sub (ws' := [(pf, .inr (0, [.ref f0, .ref f1, .ref f2, .ref f3])), (f0, .inl (cD, 35, .inr (.inr (.inr (.inl (NF)))))), (f1, .inl (cZ, 35, .inl (GF))), (f2, .inl (cI, 30, .inl (TF))), (f3, .inl (cI, 6, .inl (OF)))]) [1, 2, 3, 4, 5] rfl, hK, hN⟩) rfl rfl hl.1 rfl (lv_room (Nat.le_of_ble_eq_true rfl)) dX1_run_30 ⟨Nat.zero_le _, Nat.zero_le _⟩)) (fun r8 er8 => ?_)
    subst er8
    exact W.iret (v := nI (stp (fun b => so GF NF (en * 5 + b) (6 * 5 + b) kn) (5 - fr) fr)) hx hb hr (fun t ht hW => ⟨_, rfl, rfl, ht⟩) (fun q hq => absurd hq List.not_mem_nil) dX1_run_33
set_option maxHeartbeats 4000000 in
set_option maxRecDepth 100000 in
theorem c_X1_keep_ok (l : Launch) (dC : Nat → ClassId) (dI : Nat → Nat → Nat) (cD cZ cI cL : ClassId) (h pf f0 f1 f2 f3 po o0 o1 o2 o3 tt t0 : Nat) (NF : Nat → UInt64) (GF TF OF : Nat → Int32) (NO : Nat → UInt64) (GO TO OO : Nat → Int32) (DG : Nat → Int64) (nn : Nat) (fb : Bool) (sz : Nat) (hnn : nn ≤ 6) (en bn : Nat) (hen : en < nn) (hbn : bn < 5) (kn : Nat) (hkn : kn < 24) : Met l yX1_keep wsX1_keep ({ frames := 3, cells := 0, slots := 0, locals := 75 }) (va_Pc [.ref h, .int (nI (Bool.toNat (fb))), .int (nI (en)), .int (nI (bn)), .int (nI (kn))] (fun U => U.heap.size = sz ∧ okJ dC dI cD cZ cI cL h pf f0 f1 f2 f3 po o0 o1 o2 o3 tt t0 NF GF TF OF NO GO TO OO DG nn fb U U.heap ∧ va_D (fun _ => True) (wJ cD cZ cI cL h pf f0 f1 f2 f3 po o0 o1 o2 o3 tt t0 NF GF TF OF NO GO TO OO DG nn fb))) (va_Qi (fun (r : Int32) (_ : Unit) => r = nI (Bool.toNat (so GF NF (en * 5 + bn) (6 * 5 + bn) kn))) (fun _ t => atJ dC dI cD cZ cI cL (va_A (wJ cD cZ cI cL h pf f0 f1 f2 f3 po o0 o1 o2 o3 tt t0 NF GF TF OF NO GO TO OO DG nn fb) sz) h pf f0 f1 f2 f3 po o0 o1 o2 o3 tt t0 NF GF (upd TF (en * 5 + bn) (nI (Bool.toNat (so GF NF (en * 5 + bn) (6 * 5 + bn) kn)))) OF NO GO TO OO DG nn fb t) (va_A (wJ cD cZ cI cL h pf f0 f1 f2 f3 po o0 o1 o2 o3 tt t0 NF GF TF OF NO GO TO OO DG nn fb) sz)) 0 0 (va_A (wJ cD cZ cI cL h pf f0 f1 f2 f3 po o0 o1 o2 o3 tt t0 NF GF TF OF NO GO TO OO DG nn fb) sz) := by
  refine Met.ofW (cc := cX1_keep) (maxL := 5) (ret := (some .boolean)) (by decide) rfl ?_
  intro p e s m args below meth c s₁ B hml hv
  obtain ⟨rfl, hsz, hO, hD0⟩ := hv
  obtain ⟨hP, hK, hE⟩ := id hO
  have hx := B.exec
  have hb := B.bytes
  have hr := B.returns
  have hts := atoms_spec (ws := wsX1_keep) B.pre
  have hown : s.vm.findClass RX1 = some m.cls := findClass_of_methodNamed B.named
  have hlocks := B.notSynchronized
  subst hsz
  have hD := hD0.self (sz := s.heap.size)
  generalize hAe : va_A (wJ cD cZ cI cL h pf f0 f1 f2 f3 po o0 o1 o2 o3 tt t0 NF GF TF OF NO GO TO OO DG nn fb) s.heap.size = A at hD ⊢
  have hA : ∀ q : Nat, s.heap.size ≤ q → A q := fun q h => by rw [← hAe]; exact Or.inr h
  have hS : va_S A s.heap s.heap [] := va_S.rf
  have hP : va_P (dC, dI) vwCl [(h, .inr (1, [.ref (cond fb pf po), .ref (cond fb po pf), .ref tt, .int (nI (nn))])), (pf, .inr (0, [.ref f0, .ref f1, .ref f2, .ref f3])), (f0, .inl (cD, 35, .inr (.inr (.inr (.inl (NF)))))), (f1, .inl (cZ, 35, .inl (GF))), (f2, .inl (cI, 30, .inl (TF))), (f3, .inl (cI, 6, .inl (OF))), (po, .inr (0, [.ref o0, .ref o1, .ref o2, .ref o3])), (o0, .inl (cD, 35, .inr (.inr (.inr (.inl (NO)))))), (o1, .inl (cZ, 35, .inl (GO))), (o2, .inl (cI, 30, .inl (TO))), (o3, .inl (cI, 6, .inl (OO))), (tt, .inr (3, [.ref t0])), (t0, .inl (cL, 42, .inr (.inl (DG))))] s.heap := hP
  have hD : va_D A [(h, .inr (1, [.ref (cond fb pf po), .ref (cond fb po pf), .ref tt, .int (nI (nn))])), (pf, .inr (0, [.ref f0, .ref f1, .ref f2, .ref f3])), (f0, .inl (cD, 35, .inr (.inr (.inr (.inl (NF)))))), (f1, .inl (cZ, 35, .inl (GF))), (f2, .inl (cI, 30, .inl (TF))), (f3, .inl (cI, 6, .inl (OF))), (po, .inr (0, [.ref o0, .ref o1, .ref o2, .ref o3])), (o0, .inl (cD, 35, .inr (.inr (.inr (.inl (NO)))))), (o1, .inl (cZ, 35, .inl (GO))), (o2, .inl (cI, 30, .inl (TO))), (o3, .inl (cI, 6, .inl (OO))), (tt, .inr (3, [.ref t0])), (t0, .inl (cL, 42, .inr (.inl (DG))))] := hD
  have hl := lv_entry ([.ref h, .int (nI (Bool.toNat (fb))), .int (nI (en)), .int (nI (bn)), .int (nI (kn))]) (n := 5) (Nat.le_of_ble_eq_true rfl)
  rw [lg_entry_eq]
  generalize (lg_sl ([.ref h, .int (nI (Bool.toNat (fb))), .int (nI (en)), .int (nI (bn)), .int (nI (kn))]) ++ List.replicate (5 - (lg_sl ([.ref h, .int (nI (Bool.toNat (fb))), .int (nI (en)), .int (nI (bn)), .int (nI (kn))])).length) Slot.unset).toArray = ls at hl ⊢
  have hl : lv_has ls 5 [(0, .ref h), (1, .int (nI (Bool.toNat (fb)))), (2, .int (nI (en))), (3, .int (nI (bn))), (4, .int (nI (kn)))] := hl
  have hN := hE.nest
  refine lv_aload_n hx hb dX1_keep_0 rfl (lv_at hl 0 rfl) ?_
  refine lv_iload_n hx hb dX1_keep_1 rfl (lv_at hl 2 rfl) ?_
  refine va_csv (va_Run.run (va_runV (As := [.int (nI (en))]) (rest := []) ⟨hx, hb, hml, hown, hts⟩ (c_X1_requireEntry_ok l dC dI cD cZ cI cL h pf f0 f1 f2 f3 po o0 o1 o2 o3 tt t0 NF GF TF OF NO GO TO OO DG nn fb (en) (by omega) (by omega)) (cwV 1 hts gX1_keep_X1_requireEntry rfl rfl rfl (by decide +kernel) ⟨Nat.le_of_ble_eq_true rfl, Nat.le_of_ble_eq_true rfl⟩) (okJ_pre ⟨hP, hK, hE⟩) rfl rfl hl.1 rfl (lv_room (Nat.le_of_ble_eq_true rfl)) dX1_keep_2 ⟨Nat.zero_le _, Nat.zero_le _⟩)) (fun _ => ?_)
  refine lv_iload_n hx hb dX1_keep_5 rfl (lv_at hl 3 rfl) ?_
  refine va_csv (va_Run.run (va_runS (As := [.int (nI (bn))]) (rest := []) ⟨hx, hb, hml, hown, hts⟩ (c_X1_requireSeat_ok l (bn) (by omega)) (va_cwS 1 hts gX1_keep_X1_requireSeat rfl rfl rfl (by decide +kernel) ⟨Nat.le_of_ble_eq_true rfl, Nat.le_of_ble_eq_true rfl⟩) preT rfl rfl hl.1 rfl (lv_room (Nat.le_of_ble_eq_true rfl)) dX1_keep_6 ⟨Nat.zero_le _, Nat.zero_le _⟩)) (fun _ => ?_)
  refine lv_iload hx hb dX1_keep_9 (lv_at hl 4 rfl) ?_
  refine lv_bipush (v := nI 24) hx hb dX1_keep_11 (by decide) ?_
  refine va_csv (va_Run.run (va_runS (As := [.int (nI (kn)), .int (nI (24))]) (rest := []) ⟨hx, hb, hml, hown, hts⟩ (c_X1_requireBelow_ok l (kn) (24) (by omega) (by omega)) (va_cwS 2 hts gX1_keep_X1_requireBelow rfl rfl rfl (by decide +kernel) ⟨Nat.le_of_ble_eq_true rfl, Nat.le_of_ble_eq_true rfl⟩) preT rfl rfl hl.1 rfl (lv_room (Nat.le_of_ble_eq_true rfl)) dX1_keep_13 ⟨Nat.zero_le _, Nat.zero_le _⟩)) (fun _ => ?_)
  refine lv_aload_n hx hb dX1_keep_16 rfl (lv_at hl 0 rfl) ?_
  refine lv_iload_n hx hb dX1_keep_17 rfl (lv_at hl 1 rfl) ?_
  refine va_csr (va_Run.run (va_runV (As := [.int (nI (Bool.toNat (fb)))]) (rest := []) ⟨hx, hb, hml, hown, hts⟩ (c_X1_panel l dC dI cD cZ cI cL h pf f0 f1 f2 f3 po o0 o1 o2 o3 tt t0 NF GF TF OF NO GO TO OO DG nn fb) (cwV 1 hts gX1_keep_X1_panel rfl rfl rfl (by decide +kernel) ⟨Nat.le_of_ble_eq_true rfl, Nat.le_of_ble_eq_true rfl⟩) (okJ_pre ⟨hP, hK, hE⟩) rfl rfl hl.1 rfl (lv_room (Nat.le_of_ble_eq_true rfl)) dX1_keep_18 ⟨Nat.zero_le _, Nat.zero_le _⟩)) (fun r4 er4 => ?_)
  subst er4
  refine W.eq (g2 := F0 m 21 ls [.ref pf]) rfl ?_
  refine lv_iload_n hx hb dX1_keep_21 rfl (lv_at hl 2 rfl) ?_
  refine lv_iload_n hx hb dX1_keep_22 rfl (lv_at hl 3 rfl) ?_
  refine lv_iload hx hb dX1_keep_23 (lv_at hl 4 rfl) ?_
  have hPc := hP.sub (ws' := [(pf, .inr (0, [.ref f0, .ref f1, .ref f2, .ref f3])), (f0, .inl (cD, 35, .inr (.inr (.inr (.inl (NF)))))), (f1, .inl (cZ, 35, .inl (GF))), (f2, .inl (cI, 30, .inl (TF))), (f3, .inl (cI, 6, .inl (OF)))]) [1, 2, 3, 4, 5] rfl
  have hDc := hD.sub (ws' := [(pf, .inr (0, [.ref f0, .ref f1, .ref f2, .ref f3])), (f0, .inl (cD, 35, .inr (.inr (.inr (.inl (NF)))))), (f1, .inl (cZ, 35, .inl (GF))), (f2, .inl (cI, 30, .inl (TF))), (f3, .inl (cI, 6, .inl (OF)))]) [1, 2, 3, 4, 5] (by decide) rfl
  have hFc := va_free (wc := [(pf, .inr (0, [.ref f0, .ref f1, .ref f2, .ref f3])), (f0, .inl (cD, 35, .inr (.inr (.inr (.inl (NF)))))), (f1, .inl (cZ, 35, .inl (GF))), (f2, .inl (cI, 30, .inl (TF))), (f3, .inl (cI, 6, .inl (OF)))]) hD hS hA [1, 2, 3, 4, 5] rfl
  refine va_calli (va_runV (As := [.int (nI (en)), .int (nI (bn)), .int (nI (kn))]) (rest := []) ⟨hx, hb, hml, hown, hts⟩ (c_X0_keepTruth l dC dI cD cZ cI cL pf f0 f1 f2 f3 NF GF TF OF s.heap.size (en) (bn) (kn) (by omega) (by omega) (by omega)) (cwV 3 hts gX1_keep_X0_keepTruth rfl rfl rfl (by decide +kernel) ⟨Nat.le_of_ble_eq_true rfl, Nat.le_of_ble_eq_true rfl⟩) (okPW_pre ⟨hPc, hK, hN⟩ hDc) rfl rfl hl.1 rfl (lv_room (Nat.le_of_ble_eq_true rfl)) dX1_keep_25 ⟨Nat.zero_le _, Nat.zero_le _⟩) hS (fun q _ h => hFc q h) hFc (fun r5 u5 t H1 locs ht hvm hw hB hz1 hk1 hS => ?_)
  obtain ⟨hP1, hK1, hD1⟩ := hB
  rw [ht] at hP1
  obtain ⟨hP, hD⟩ := va_join (wr := [(h, .inr (1, [.ref (cond fb pf po), .ref (cond fb po pf), .ref tt, .int (nI (nn))])), (po, .inr (0, [.ref o0, .ref o1, .ref o2, .ref o3])), (o0, .inl (cD, 35, .inr (.inr (.inr (.inl (NO)))))), (o1, .inl (cZ, 35, .inl (GO))), (o2, .inl (cI, 30, .inl (TO))), (o3, .inl (cI, 6, .inl (OO))), (tt, .inr (3, [.ref t0])), (t0, .inl (cL, 42, .inr (.inl (DG))))]) (w1 := [(pf, .inr (0, [.ref f0, .ref f1, .ref f2, .ref f3])), (f0, .inl (cD, 35, .inr (.inr (.inr (.inl (NF)))))), (f1, .inl (cZ, 35, .inl (GF))), (f2, .inl (cI, 30, .inl (upd TF (en * 5 + bn) (nI (Bool.toNat (so GF NF (en * 5 + bn) (6 * 5 + bn) kn)))))), (f3, .inl (cI, 6, .inl (OF)))]) hP hD [1, 2, 3, 4, 5] [0, 6, 7, 8, 9, 10, 11, 12] rfl rfl (by decide) (by decide) hk1 hFc hP1 hD1
  have hP := hP.sub (ws' := [(h, .inr (1, [.ref (cond fb pf po), .ref (cond fb po pf), .ref tt, .int (nI (nn))])), (pf, .inr (0, [.ref f0, .ref f1, .ref f2, .ref f3])), (f0, .inl (cD, 35, .inr (.inr (.inr (.inl (NF)))))), (f1, .inl (cZ, 35, .inl (GF))), (f2, .inl (cI, 30, .inl (upd TF (en * 5 + bn) (nI (Bool.toNat (so GF NF (en * 5 + bn) (6 * 5 + bn) kn)))))), (f3, .inl (cI, 6, .inl (OF))), (po, .inr (0, [.ref o0, .ref o1, .ref o2, .ref o3])), (o0, .inl (cD, 35, .inr (.inr (.inr (.inl (NO)))))), (o1, .inl (cZ, 35, .inl (GO))), (o2, .inl (cI, 30, .inl (TO))), (o3, .inl (cI, 6, .inl (OO))), (tt, .inr (3, [.ref t0])), (t0, .inl (cL, 42, .inr (.inl (DG))))]) [0, 8, 9, 10, 11, 12, 1, 2, 3, 4, 5, 6, 7] rfl
  have hD := hD.sub (ws' := [(h, .inr (1, [.ref (cond fb pf po), .ref (cond fb po pf), .ref tt, .int (nI (nn))])), (pf, .inr (0, [.ref f0, .ref f1, .ref f2, .ref f3])), (f0, .inl (cD, 35, .inr (.inr (.inr (.inl (NF)))))), (f1, .inl (cZ, 35, .inl (GF))), (f2, .inl (cI, 30, .inl (upd TF (en * 5 + bn) (nI (Bool.toNat (so GF NF (en * 5 + bn) (6 * 5 + bn) kn)))))), (f3, .inl (cI, 6, .inl (OF))), (po, .inr (0, [.ref o0, .ref o1, .ref o2, .ref o3])), (o0, .inl (cD, 35, .inr (.inr (.inr (.inl (NO)))))), (o1, .inl (cZ, 35, .inl (GO))), (o2, .inl (cI, 30, .inl (TO))), (o3, .inl (cI, 6, .inl (OO))), (tt, .inr (3, [.ref t0])), (t0, .inl (cL, 42, .inr (.inl (DG))))]) [0, 8, 9, 10, 11, 12, 1, 2, 3, 4, 5, 6, 7] (by decide) rfl
  generalize H1 = H at hP hS ⊢
  have hP : va_P (dC, dI) vwCl [(h, .inr (1, [.ref (cond fb pf po), .ref (cond fb po pf), .ref tt, .int (nI (nn))])), (pf, .inr (0, [.ref f0, .ref f1, .ref f2, .ref f3])), (f0, .inl (cD, 35, .inr (.inr (.inr (.inl (NF)))))), (f1, .inl (cZ, 35, .inl (GF))), (f2, .inl (cI, 30, .inl (upd TF (en * 5 + bn) (nI (Bool.toNat (so GF NF (en * 5 + bn) (6 * 5 + bn) kn)))))), (f3, .inl (cI, 6, .inl (OF))), (po, .inr (0, [.ref o0, .ref o1, .ref o2, .ref o3])), (o0, .inl (cD, 35, .inr (.inr (.inr (.inl (NO)))))), (o1, .inl (cZ, 35, .inl (GO))), (o2, .inl (cI, 30, .inl (TO))), (o3, .inl (cI, 6, .inl (OO))), (tt, .inr (3, [.ref t0])), (t0, .inl (cL, 42, .inr (.inl (DG))))] H := hP
  have hD : va_D A [(h, .inr (1, [.ref (cond fb pf po), .ref (cond fb po pf), .ref tt, .int (nI (nn))])), (pf, .inr (0, [.ref f0, .ref f1, .ref f2, .ref f3])), (f0, .inl (cD, 35, .inr (.inr (.inr (.inl (NF)))))), (f1, .inl (cZ, 35, .inl (GF))), (f2, .inl (cI, 30, .inl (upd TF (en * 5 + bn) (nI (Bool.toNat (so GF NF (en * 5 + bn) (6 * 5 + bn) kn)))))), (f3, .inl (cI, 6, .inl (OF))), (po, .inr (0, [.ref o0, .ref o1, .ref o2, .ref o3])), (o0, .inl (cD, 35, .inr (.inr (.inr (.inl (NO)))))), (o1, .inl (cZ, 35, .inl (GO))), (o2, .inl (cI, 30, .inl (TO))), (o3, .inl (cI, 6, .inl (OO))), (tt, .inr (3, [.ref t0])), (t0, .inl (cL, 42, .inr (.inl (DG))))] := hD
  subst hw
  exact W.zret (v := nI (Bool.toNat (so GF NF (en * 5 + bn) (6 * 5 + bn) kn))) (ty := .boolean) hx hb hr (xb_nar _) (fun t ht hW => ⟨⟨_, (), rfl, rfl, by rw [ht]; exact hP, va_K.moved hW.alike hK, hD⟩, hS.F ht⟩) hS.2.2 dX1_keep_28
set_option maxHeartbeats 4000000 in
set_option maxRecDepth 100000 in
theorem c_X1_kept_ok (l : Launch) (dC : Nat → ClassId) (dI : Nat → Nat → Nat) (cD cZ cI cL : ClassId) (h pf f0 f1 f2 f3 po o0 o1 o2 o3 tt t0 : Nat) (NF : Nat → UInt64) (GF TF OF : Nat → Int32) (NO : Nat → UInt64) (GO TO OO : Nat → Int32) (DG : Nat → Int64) (nn : Nat) (fb : Bool) (hnn : nn ≤ 6) (en bn : Nat) (hen : en < nn) (hbn : bn < 5) : Met l yX1_kept wsX1_kept ({ frames := 1, cells := 0, slots := 0, locals := 21 }) (va_Pc [.ref h, .int (nI (Bool.toNat (fb))), .int (nI (en)), .int (nI (bn))] (fun U => okJ dC dI cD cZ cI cL h pf f0 f1 f2 f3 po o0 o1 o2 o3 tt t0 NF GF TF OF NO GO TO OO DG nn fb U U.heap)) (vp_Si (fun r => r = TF (en * 5 + bn))) 0 0 (fun _ => False) := by
  refine Met.ofW (cc := cX1_kept) (maxL := 4) (ret := (some .int)) (by decide) rfl ?_
  intro p e s m args below meth c s₁ B hml hv
  obtain ⟨rfl, hO⟩ := hv
  obtain ⟨hP, hK, hE⟩ := id hO
  have hP : va_P (dC, dI) vwCl [(h, .inr (1, [.ref (cond fb pf po), .ref (cond fb po pf), .ref tt, .int (nI (nn))])), (pf, .inr (0, [.ref f0, .ref f1, .ref f2, .ref f3])), (f0, .inl (cD, 35, .inr (.inr (.inr (.inl (NF)))))), (f1, .inl (cZ, 35, .inl (GF))), (f2, .inl (cI, 30, .inl (TF))), (f3, .inl (cI, 6, .inl (OF))), (po, .inr (0, [.ref o0, .ref o1, .ref o2, .ref o3])), (o0, .inl (cD, 35, .inr (.inr (.inr (.inl (NO)))))), (o1, .inl (cZ, 35, .inl (GO))), (o2, .inl (cI, 30, .inl (TO))), (o3, .inl (cI, 6, .inl (OO))), (tt, .inr (3, [.ref t0])), (t0, .inl (cL, 42, .inr (.inl (DG))))] s.heap := hP
  have hx := B.exec
  have hb := B.bytes
  have hr := B.returns
  have hts := atoms_spec (ws := wsX1_kept) B.pre
  have hown : s.vm.findClass RX1 = some m.cls := findClass_of_methodNamed B.named
  have hlocks := B.notSynchronized
  have hl := lv_entry ([.ref h, .int (nI (Bool.toNat (fb))), .int (nI (en)), .int (nI (bn))]) (n := 4) (Nat.le_of_ble_eq_true rfl)
  rw [lg_entry_eq]
  generalize (lg_sl ([.ref h, .int (nI (Bool.toNat (fb))), .int (nI (en)), .int (nI (bn))]) ++ List.replicate (4 - (lg_sl ([.ref h, .int (nI (Bool.toNat (fb))), .int (nI (en)), .int (nI (bn))])).length) Slot.unset).toArray = ls at hl ⊢
  have hl : lv_has ls 4 [(0, .ref h), (1, .int (nI (Bool.toNat (fb)))), (2, .int (nI (en))), (3, .int (nI (bn)))] := hl
  have hN := hE.nest
  refine lv_aload_n hx hb dX1_kept_0 rfl (lv_at hl 0 rfl) ?_
  refine lv_iload_n hx hb dX1_kept_1 rfl (lv_at hl 2 rfl) ?_
  refine va_csv (va_Run.run (va_runV (As := [.int (nI (en))]) (rest := []) ⟨hx, hb, hml, hown, hts⟩ (c_X1_requireEntry_ok l dC dI cD cZ cI cL h pf f0 f1 f2 f3 po o0 o1 o2 o3 tt t0 NF GF TF OF NO GO TO OO DG nn fb (en) (by omega) (by omega)) (cwV 1 hts gX1_kept_X1_requireEntry rfl rfl rfl (by decide +kernel) ⟨Nat.le_of_ble_eq_true rfl, Nat.le_of_ble_eq_true rfl⟩) (okJ_pre ⟨hP, hK, hE⟩) rfl rfl hl.1 rfl (lv_room (Nat.le_of_ble_eq_true rfl)) dX1_kept_2 ⟨Nat.zero_le _, Nat.zero_le _⟩)) (fun _ => ?_)
  refine lv_iload_n hx hb dX1_kept_5 rfl (lv_at hl 3 rfl) ?_
  refine va_csv (va_Run.run (va_runS (As := [.int (nI (bn))]) (rest := []) ⟨hx, hb, hml, hown, hts⟩ (c_X1_requireSeat_ok l (bn) (by omega)) (va_cwS 1 hts gX1_kept_X1_requireSeat rfl rfl rfl (by decide +kernel) ⟨Nat.le_of_ble_eq_true rfl, Nat.le_of_ble_eq_true rfl⟩) preT rfl rfl hl.1 rfl (lv_room (Nat.le_of_ble_eq_true rfl)) dX1_kept_6 ⟨Nat.zero_le _, Nat.zero_le _⟩)) (fun _ => ?_)
  refine lv_aload_n hx hb dX1_kept_9 rfl (lv_at hl 0 rfl) ?_
  refine lv_iload_n hx hb dX1_kept_10 rfl (lv_at hl 1 rfl) ?_
  refine va_csr (va_Run.run (va_runV (As := [.int (nI (Bool.toNat (fb)))]) (rest := []) ⟨hx, hb, hml, hown, hts⟩ (c_X1_panel l dC dI cD cZ cI cL h pf f0 f1 f2 f3 po o0 o1 o2 o3 tt t0 NF GF TF OF NO GO TO OO DG nn fb) (cwV 1 hts gX1_kept_X1_panel rfl rfl rfl (by decide +kernel) ⟨Nat.le_of_ble_eq_true rfl, Nat.le_of_ble_eq_true rfl⟩) (okJ_pre ⟨hP, hK, hE⟩) rfl rfl hl.1 rfl (lv_room (Nat.le_of_ble_eq_true rfl)) dX1_kept_11 ⟨Nat.zero_le _, Nat.zero_le _⟩)) (fun r3 er3 => ?_)
  subst er3
  refine W.eq (g2 := F0 m 14 ls [.ref pf]) rfl ?_
  refine lv_iload_n hx hb dX1_kept_14 rfl (lv_at hl 2 rfl) ?_
  refine lv_iload_n hx hb dX1_kept_15 rfl (lv_at hl 3 rfl) ?_
  refine vp_callSi (va_Run.run (va_runS (As := [.int (nI (en)), .int (nI (bn))]) (rest := [.ref pf]) ⟨hx, hb, hml, hown, hts⟩ (c_X1_cellOf l (en) (bn)) (va_cwS 2 hts gX1_kept_X1_cellOf rfl rfl rfl (by decide +kernel) ⟨Nat.le_of_ble_eq_true rfl, Nat.le_of_ble_eq_true rfl⟩) preT rfl rfl hl.1 rfl (lv_room (Nat.le_of_ble_eq_true rfl)) dX1_kept_16 ⟨Nat.zero_le _, Nat.zero_le _⟩)) (fun r4 er4 => ?_)
  subst er4
  refine vp_callSi (va_Run.run (va_runV (As := [.int (nI (en * 5 + bn))]) (rest := []) ⟨hx, hb, hml, hown, hts⟩ (c_X0_truthAt l dC dI cD cZ cI cL pf f0 f1 f2 f3 NF GF TF OF (en * 5 + bn) (by omega)) (cwV 1 hts gX1_kept_X0_truthAt rfl rfl rfl (by decide +kernel) ⟨Nat.le_of_ble_eq_true rfl, Nat.le_of_ble_eq_true rfl⟩) (okP_pre ⟨hP.sub (ws' := [(pf, .inr (0, [.ref f0, .ref f1, .ref f2, .ref f3])), (f0, .inl (cD, 35, .inr (.inr (.inr (.inl (NF)))))), (f1, .inl (cZ, 35, .inl (GF))), (f2, .inl (cI, 30, .inl (TF))), (f3, .inl (cI, 6, .inl (OF)))]) [1, 2, 3, 4, 5] rfl, hK, hN⟩) rfl rfl hl.1 rfl (lv_room (Nat.le_of_ble_eq_true rfl)) dX1_kept_19 ⟨Nat.zero_le _, Nat.zero_le _⟩)) (fun r5 er5 => ?_)
  subst er5
  exact W.iret (v := TF (en * 5 + bn)) hx hb hr (fun t ht hW => ⟨_, rfl, rfl, ht⟩) (fun q hq => absurd hq List.not_mem_nil) dX1_kept_22
set_option maxHeartbeats 4000000 in
set_option maxRecDepth 100000 in
theorem c_X1_place_ok (l : Launch) (dC : Nat → ClassId) (dI : Nat → Nat → Nat) (cD cZ cI cL : ClassId) (h pf f0 f1 f2 f3 po o0 o1 o2 o3 tt t0 : Nat) (NF : Nat → UInt64) (GF TF OF : Nat → Int32) (NO : Nat → UInt64) (GO TO OO : Nat → Int32) (DG : Nat → Int64) (nn : Nat) (fb : Bool) (sz : Nat) (hnn : nn ≤ 6) (en bn : Nat) (hen : en < nn) (hbn : bn < 5) (sb : Bool) : Met l yX1_place wsX1_place ({ frames := 4, cells := 0, slots := 0, locals := 96 }) (va_Pc [.ref h, .int (nI (Bool.toNat (fb))), .int (nI (en)), .int (nI (bn)), .int (nI (Bool.toNat (sb)))] (fun U => U.heap.size = sz ∧ okJ dC dI cD cZ cI cL h pf f0 f1 f2 f3 po o0 o1 o2 o3 tt t0 NF GF TF OF NO GO TO OO DG nn fb U U.heap ∧ va_D (fun _ => True) (wJ cD cZ cI cL h pf f0 f1 f2 f3 po o0 o1 o2 o3 tt t0 NF GF TF OF NO GO TO OO DG nn fb))) (va_Qi (fun (r : Int32) (O9 : (Nat → Int32)) => r = nI (stp (fun j => decide (lin (fun a b => gh (rl GF NF (a * 5 + bn) (b * 5 + bn)) sb) nn j ≠ en)) nn 0)) (fun O9 t => atJ dC dI cD cZ cI cL (va_A (wJ cD cZ cI cL h pf f0 f1 f2 f3 po o0 o1 o2 o3 tt t0 NF GF TF OF NO GO TO OO DG nn fb) sz) h pf f0 f1 f2 f3 po o0 o1 o2 o3 tt t0 NF GF TF O9 NO GO TO OO DG nn fb t) (va_A (wJ cD cZ cI cL h pf f0 f1 f2 f3 po o0 o1 o2 o3 tt t0 NF GF TF OF NO GO TO OO DG nn fb) sz)) 0 0 (va_A (wJ cD cZ cI cL h pf f0 f1 f2 f3 po o0 o1 o2 o3 tt t0 NF GF TF OF NO GO TO OO DG nn fb) sz) := by
  refine Met.ofW (cc := cX1_place) (maxL := 5) (ret := (some .int)) (by decide) rfl ?_
  intro p e s m args below meth c s₁ B hml hv
  obtain ⟨rfl, hsz, hO, hD0⟩ := hv
  obtain ⟨hP, hK, hE⟩ := id hO
  have hx := B.exec
  have hb := B.bytes
  have hr := B.returns
  have hts := atoms_spec (ws := wsX1_place) B.pre
  have hown : s.vm.findClass RX1 = some m.cls := findClass_of_methodNamed B.named
  have hlocks := B.notSynchronized
  subst hsz
  have hD := hD0.self (sz := s.heap.size)
  generalize hAe : va_A (wJ cD cZ cI cL h pf f0 f1 f2 f3 po o0 o1 o2 o3 tt t0 NF GF TF OF NO GO TO OO DG nn fb) s.heap.size = A at hD ⊢
  have hA : ∀ q : Nat, s.heap.size ≤ q → A q := fun q h => by rw [← hAe]; exact Or.inr h
  have hS : va_S A s.heap s.heap [] := va_S.rf
  have hP : va_P (dC, dI) vwCl [(h, .inr (1, [.ref (cond fb pf po), .ref (cond fb po pf), .ref tt, .int (nI (nn))])), (pf, .inr (0, [.ref f0, .ref f1, .ref f2, .ref f3])), (f0, .inl (cD, 35, .inr (.inr (.inr (.inl (NF)))))), (f1, .inl (cZ, 35, .inl (GF))), (f2, .inl (cI, 30, .inl (TF))), (f3, .inl (cI, 6, .inl (OF))), (po, .inr (0, [.ref o0, .ref o1, .ref o2, .ref o3])), (o0, .inl (cD, 35, .inr (.inr (.inr (.inl (NO)))))), (o1, .inl (cZ, 35, .inl (GO))), (o2, .inl (cI, 30, .inl (TO))), (o3, .inl (cI, 6, .inl (OO))), (tt, .inr (3, [.ref t0])), (t0, .inl (cL, 42, .inr (.inl (DG))))] s.heap := hP
  have hD : va_D A [(h, .inr (1, [.ref (cond fb pf po), .ref (cond fb po pf), .ref tt, .int (nI (nn))])), (pf, .inr (0, [.ref f0, .ref f1, .ref f2, .ref f3])), (f0, .inl (cD, 35, .inr (.inr (.inr (.inl (NF)))))), (f1, .inl (cZ, 35, .inl (GF))), (f2, .inl (cI, 30, .inl (TF))), (f3, .inl (cI, 6, .inl (OF))), (po, .inr (0, [.ref o0, .ref o1, .ref o2, .ref o3])), (o0, .inl (cD, 35, .inr (.inr (.inr (.inl (NO)))))), (o1, .inl (cZ, 35, .inl (GO))), (o2, .inl (cI, 30, .inl (TO))), (o3, .inl (cI, 6, .inl (OO))), (tt, .inr (3, [.ref t0])), (t0, .inl (cL, 42, .inr (.inl (DG))))] := hD
  have hin1 : ∀ w ∈ wsX10, w ∈ wsX1_place := (fun w h => List.mem_cons_of_mem _ (List.mem_append_left _ (List.mem_append_left _ (List.mem_append_right _ h))))
  have fl26 := hts (.fieldLink RX1 26 "JuryTable" "entries" "I") (by decide +kernel)
  have hl := lv_entry ([.ref h, .int (nI (Bool.toNat (fb))), .int (nI (en)), .int (nI (bn)), .int (nI (Bool.toNat (sb)))]) (n := 5) (Nat.le_of_ble_eq_true rfl)
  rw [lg_entry_eq]
  generalize (lg_sl ([.ref h, .int (nI (Bool.toNat (fb))), .int (nI (en)), .int (nI (bn)), .int (nI (Bool.toNat (sb)))]) ++ List.replicate (5 - (lg_sl ([.ref h, .int (nI (Bool.toNat (fb))), .int (nI (en)), .int (nI (bn)), .int (nI (Bool.toNat (sb)))])).length) Slot.unset).toArray = ls at hl ⊢
  have hl : lv_has ls 5 [(0, .ref h), (1, .int (nI (Bool.toNat (fb)))), (2, .int (nI (en))), (3, .int (nI (bn))), (4, .int (nI (Bool.toNat (sb))))] := hl
  have hN := hE.nest
  refine lv_aload_n hx hb dX1_place_0 rfl (lv_at hl 0 rfl) ?_
  refine lv_iload_n hx hb dX1_place_1 rfl (lv_at hl 2 rfl) ?_
  refine va_csv (va_Run.run (va_runV (As := [.int (nI (en))]) (rest := []) ⟨hx, hb, hml, hown, hts⟩ (c_X1_requireEntry_ok l dC dI cD cZ cI cL h pf f0 f1 f2 f3 po o0 o1 o2 o3 tt t0 NF GF TF OF NO GO TO OO DG nn fb (en) (by omega) (by omega)) (cwV 1 hts gX1_place_X1_requireEntry rfl rfl rfl (by decide +kernel) ⟨Nat.le_of_ble_eq_true rfl, Nat.le_of_ble_eq_true rfl⟩) (okJ_pre ⟨hP, hK, hE⟩) rfl rfl hl.1 rfl (lv_room (Nat.le_of_ble_eq_true rfl)) dX1_place_2 ⟨Nat.zero_le _, Nat.zero_le _⟩)) (fun _ => ?_)
  refine lv_iload_n hx hb dX1_place_5 rfl (lv_at hl 3 rfl) ?_
  refine va_csv (va_Run.run (va_runS (As := [.int (nI (bn))]) (rest := []) ⟨hx, hb, hml, hown, hts⟩ (c_X1_requireSeat_ok l (bn) (by omega)) (va_cwS 1 hts gX1_place_X1_requireSeat rfl rfl rfl (by decide +kernel) ⟨Nat.le_of_ble_eq_true rfl, Nat.le_of_ble_eq_true rfl⟩) preT rfl rfl hl.1 rfl (lv_room (Nat.le_of_ble_eq_true rfl)) dX1_place_6 ⟨Nat.zero_le _, Nat.zero_le _⟩)) (fun _ => ?_)
  refine lv_aload_n hx hb dX1_place_9 rfl (lv_at hl 0 rfl) ?_
  refine lv_iload_n hx hb dX1_place_10 rfl (lv_at hl 1 rfl) ?_
  refine va_csr (va_Run.run (va_runV (As := [.int (nI (Bool.toNat (fb)))]) (rest := []) ⟨hx, hb, hml, hown, hts⟩ (c_X1_panel l dC dI cD cZ cI cL h pf f0 f1 f2 f3 po o0 o1 o2 o3 tt t0 NF GF TF OF NO GO TO OO DG nn fb) (cwV 1 hts gX1_place_X1_panel rfl rfl rfl (by decide +kernel) ⟨Nat.le_of_ble_eq_true rfl, Nat.le_of_ble_eq_true rfl⟩) (okJ_pre ⟨hP, hK, hE⟩) rfl rfl hl.1 rfl (lv_room (Nat.le_of_ble_eq_true rfl)) dX1_place_11 ⟨Nat.zero_le _, Nat.zero_le _⟩)) (fun r3 er3 => ?_)
  subst er3
  refine W.eq (g2 := F0 m 14 ls [.ref pf]) rfl ?_
  refine lv_iload_n hx hb dX1_place_14 rfl (lv_at hl 2 rfl) ?_
  refine lv_iload_n hx hb dX1_place_15 rfl (lv_at hl 3 rfl) ?_
  refine lv_iload hx hb dX1_place_16 (lv_at hl 4 rfl) ?_
  refine lv_aload_n hx hb dX1_place_18 rfl (lv_at hl 0 rfl) ?_
  refine va_get (D := (dC, dI)) (ci := 1) (v := .int (nI (nn))) (C := RX1) (T := TX1) (N := 4) hx hb hts hin1 hown hK hP 0 rfl rfl 3 (by decide) fl26 (fun _ h9 => h9) rfl dX1_place_19 ?_
  have hPc := hP.sub (ws' := [(pf, .inr (0, [.ref f0, .ref f1, .ref f2, .ref f3])), (f0, .inl (cD, 35, .inr (.inr (.inr (.inl (NF)))))), (f1, .inl (cZ, 35, .inl (GF))), (f2, .inl (cI, 30, .inl (TF))), (f3, .inl (cI, 6, .inl (OF)))]) [1, 2, 3, 4, 5] rfl
  have hDc := hD.sub (ws' := [(pf, .inr (0, [.ref f0, .ref f1, .ref f2, .ref f3])), (f0, .inl (cD, 35, .inr (.inr (.inr (.inl (NF)))))), (f1, .inl (cZ, 35, .inl (GF))), (f2, .inl (cI, 30, .inl (TF))), (f3, .inl (cI, 6, .inl (OF)))]) [1, 2, 3, 4, 5] (by decide) rfl
  have hFc := va_free (wc := [(pf, .inr (0, [.ref f0, .ref f1, .ref f2, .ref f3])), (f0, .inl (cD, 35, .inr (.inr (.inr (.inl (NF)))))), (f1, .inl (cZ, 35, .inl (GF))), (f2, .inl (cI, 30, .inl (TF))), (f3, .inl (cI, 6, .inl (OF)))]) hD hS hA [1, 2, 3, 4, 5] rfl
  refine va_calli (va_runV (As := [.int (nI (en)), .int (nI (bn)), .int (nI (Bool.toNat (sb))), .int (nI (nn))]) (rest := []) ⟨hx, hb, hml, hown, hts⟩ (c_X0_placeOf l dC dI cD cZ cI cL pf f0 f1 f2 f3 NF GF TF OF s.heap.size (en) (bn) (sb) (nn) (by omega) (by omega) (by omega)) (cwV 4 hts gX1_place_X0_placeOf rfl rfl rfl (by decide +kernel) ⟨Nat.le_of_ble_eq_true rfl, Nat.le_of_ble_eq_true rfl⟩) (okPW_pre ⟨hPc, hK, hN⟩ hDc) rfl rfl hl.1 rfl (lv_room (Nat.le_of_ble_eq_true rfl)) dX1_place_22 ⟨Nat.zero_le _, Nat.zero_le _⟩) hS (fun q _ h => hFc q h) hFc (fun r4 u4 t H1 locs ht hvm hw hB hz1 hk1 hS => ?_)
  obtain ⟨hP1, hK1, hD1⟩ := hB
  rw [ht] at hP1
  obtain ⟨hP, hD⟩ := va_join (wr := [(h, .inr (1, [.ref (cond fb pf po), .ref (cond fb po pf), .ref tt, .int (nI (nn))])), (po, .inr (0, [.ref o0, .ref o1, .ref o2, .ref o3])), (o0, .inl (cD, 35, .inr (.inr (.inr (.inl (NO)))))), (o1, .inl (cZ, 35, .inl (GO))), (o2, .inl (cI, 30, .inl (TO))), (o3, .inl (cI, 6, .inl (OO))), (tt, .inr (3, [.ref t0])), (t0, .inl (cL, 42, .inr (.inl (DG))))]) (w1 := [(pf, .inr (0, [.ref f0, .ref f1, .ref f2, .ref f3])), (f0, .inl (cD, 35, .inr (.inr (.inr (.inl (NF)))))), (f1, .inl (cZ, 35, .inl (GF))), (f2, .inl (cI, 30, .inl (TF))), (f3, .inl (cI, 6, .inl (u4)))]) hP hD [1, 2, 3, 4, 5] [0, 6, 7, 8, 9, 10, 11, 12] rfl rfl (by decide) (by decide) hk1 hFc hP1 hD1
  have hP := hP.sub (ws' := [(h, .inr (1, [.ref (cond fb pf po), .ref (cond fb po pf), .ref tt, .int (nI (nn))])), (pf, .inr (0, [.ref f0, .ref f1, .ref f2, .ref f3])), (f0, .inl (cD, 35, .inr (.inr (.inr (.inl (NF)))))), (f1, .inl (cZ, 35, .inl (GF))), (f2, .inl (cI, 30, .inl (TF))), (f3, .inl (cI, 6, .inl (u4))), (po, .inr (0, [.ref o0, .ref o1, .ref o2, .ref o3])), (o0, .inl (cD, 35, .inr (.inr (.inr (.inl (NO)))))), (o1, .inl (cZ, 35, .inl (GO))), (o2, .inl (cI, 30, .inl (TO))), (o3, .inl (cI, 6, .inl (OO))), (tt, .inr (3, [.ref t0])), (t0, .inl (cL, 42, .inr (.inl (DG))))]) [0, 8, 9, 10, 11, 12, 1, 2, 3, 4, 5, 6, 7] rfl
  have hD := hD.sub (ws' := [(h, .inr (1, [.ref (cond fb pf po), .ref (cond fb po pf), .ref tt, .int (nI (nn))])), (pf, .inr (0, [.ref f0, .ref f1, .ref f2, .ref f3])), (f0, .inl (cD, 35, .inr (.inr (.inr (.inl (NF)))))), (f1, .inl (cZ, 35, .inl (GF))), (f2, .inl (cI, 30, .inl (TF))), (f3, .inl (cI, 6, .inl (u4))), (po, .inr (0, [.ref o0, .ref o1, .ref o2, .ref o3])), (o0, .inl (cD, 35, .inr (.inr (.inr (.inl (NO)))))), (o1, .inl (cZ, 35, .inl (GO))), (o2, .inl (cI, 30, .inl (TO))), (o3, .inl (cI, 6, .inl (OO))), (tt, .inr (3, [.ref t0])), (t0, .inl (cL, 42, .inr (.inl (DG))))]) [0, 8, 9, 10, 11, 12, 1, 2, 3, 4, 5, 6, 7] (by decide) rfl
  generalize H1 = H at hP hS ⊢
  have hP : va_P (dC, dI) vwCl [(h, .inr (1, [.ref (cond fb pf po), .ref (cond fb po pf), .ref tt, .int (nI (nn))])), (pf, .inr (0, [.ref f0, .ref f1, .ref f2, .ref f3])), (f0, .inl (cD, 35, .inr (.inr (.inr (.inl (NF)))))), (f1, .inl (cZ, 35, .inl (GF))), (f2, .inl (cI, 30, .inl (TF))), (f3, .inl (cI, 6, .inl (u4))), (po, .inr (0, [.ref o0, .ref o1, .ref o2, .ref o3])), (o0, .inl (cD, 35, .inr (.inr (.inr (.inl (NO)))))), (o1, .inl (cZ, 35, .inl (GO))), (o2, .inl (cI, 30, .inl (TO))), (o3, .inl (cI, 6, .inl (OO))), (tt, .inr (3, [.ref t0])), (t0, .inl (cL, 42, .inr (.inl (DG))))] H := hP
  have hD : va_D A [(h, .inr (1, [.ref (cond fb pf po), .ref (cond fb po pf), .ref tt, .int (nI (nn))])), (pf, .inr (0, [.ref f0, .ref f1, .ref f2, .ref f3])), (f0, .inl (cD, 35, .inr (.inr (.inr (.inl (NF)))))), (f1, .inl (cZ, 35, .inl (GF))), (f2, .inl (cI, 30, .inl (TF))), (f3, .inl (cI, 6, .inl (u4))), (po, .inr (0, [.ref o0, .ref o1, .ref o2, .ref o3])), (o0, .inl (cD, 35, .inr (.inr (.inr (.inl (NO)))))), (o1, .inl (cZ, 35, .inl (GO))), (o2, .inl (cI, 30, .inl (TO))), (o3, .inl (cI, 6, .inl (OO))), (tt, .inr (3, [.ref t0])), (t0, .inl (cL, 42, .inr (.inl (DG))))] := hD
  subst hw
  exact W.iret (v := nI (stp (fun j => decide (lin (fun a b => gh (rl GF NF (a * 5 + bn) (b * 5 + bn)) sb) nn j ≠ en)) nn 0)) hx hb hr (fun t ht hW => ⟨⟨_, u4, rfl, rfl, by rw [ht]; exact hP, va_K.moved hW.alike hK, hD⟩, hS.F ht⟩) hS.2.2 dX1_place_25
set_option maxHeartbeats 4000000 in
set_option maxRecDepth 100000 in
theorem c_X1_best_ok (l : Launch) (dC : Nat → ClassId) (dI : Nat → Nat → Nat) (cD cZ cI cL : ClassId) (h pf f0 f1 f2 f3 po o0 o1 o2 o3 tt t0 : Nat) (NF : Nat → UInt64) (GF TF OF : Nat → Int32) (NO : Nat → UInt64) (GO TO OO : Nat → Int32) (DG : Nat → Int64) (nn : Nat) (fb : Bool) (hnn : nn ≤ 6) (bn how : Nat) (hbn : bn < 5) (hhow : how < 4) : Met l yX1_best wsX1_best ({ frames := 2, cells := 0, slots := 0, locals := 47 }) (va_Pc [.ref h, .int (nI (Bool.toNat (fb))), .int (nI (bn)), .int (nI (how))] (fun U => okJ dC dI cD cZ cI cL h pf f0 f1 f2 f3 po o0 o1 o2 o3 tt t0 NF GF TF OF NO GO TO OO DG nn fb U U.heap)) (vp_Si (fun r => r = (if nn = 0 then (-1) else nI (bst (fun i j => bet (rl GF NF (i * 5 + bn) (j * 5 + bn)) how) (nn - 1))))) 0 0 (fun _ => False) := by
  refine Met.ofW (cc := cX1_best) (maxL := 4) (ret := (some .int)) (by decide) rfl ?_
  intro p e s m args below meth c s₁ B hml hv
  obtain ⟨rfl, hO⟩ := hv
  obtain ⟨hP, hK, hE⟩ := id hO
  have hP : va_P (dC, dI) vwCl [(h, .inr (1, [.ref (cond fb pf po), .ref (cond fb po pf), .ref tt, .int (nI (nn))])), (pf, .inr (0, [.ref f0, .ref f1, .ref f2, .ref f3])), (f0, .inl (cD, 35, .inr (.inr (.inr (.inl (NF)))))), (f1, .inl (cZ, 35, .inl (GF))), (f2, .inl (cI, 30, .inl (TF))), (f3, .inl (cI, 6, .inl (OF))), (po, .inr (0, [.ref o0, .ref o1, .ref o2, .ref o3])), (o0, .inl (cD, 35, .inr (.inr (.inr (.inl (NO)))))), (o1, .inl (cZ, 35, .inl (GO))), (o2, .inl (cI, 30, .inl (TO))), (o3, .inl (cI, 6, .inl (OO))), (tt, .inr (3, [.ref t0])), (t0, .inl (cL, 42, .inr (.inl (DG))))] s.heap := hP
  have hx := B.exec
  have hb := B.bytes
  have hr := B.returns
  have hts := atoms_spec (ws := wsX1_best) B.pre
  have hown : s.vm.findClass RX1 = some m.cls := findClass_of_methodNamed B.named
  have hlocks := B.notSynchronized
  have hin1 : ∀ w ∈ wsX10, w ∈ wsX1_best := (fun w h => List.mem_cons_of_mem _ (List.mem_append_left _ (List.mem_append_left _ (List.mem_append_left _ (List.mem_append_right _ h)))))
  have fl26 := hts (.fieldLink RX1 26 "JuryTable" "entries" "I") (by decide +kernel)
  have hl := lv_entry ([.ref h, .int (nI (Bool.toNat (fb))), .int (nI (bn)), .int (nI (how))]) (n := 4) (Nat.le_of_ble_eq_true rfl)
  rw [lg_entry_eq]
  generalize (lg_sl ([.ref h, .int (nI (Bool.toNat (fb))), .int (nI (bn)), .int (nI (how))]) ++ List.replicate (4 - (lg_sl ([.ref h, .int (nI (Bool.toNat (fb))), .int (nI (bn)), .int (nI (how))])).length) Slot.unset).toArray = ls at hl ⊢
  have hl : lv_has ls 4 [(0, .ref h), (1, .int (nI (Bool.toNat (fb)))), (2, .int (nI (bn))), (3, .int (nI (how)))] := hl
  have hN := hE.nest
  refine lv_iload_n hx hb dX1_best_0 rfl (lv_at hl 2 rfl) ?_
  refine va_csv (va_Run.run (va_runS (As := [.int (nI (bn))]) (rest := []) ⟨hx, hb, hml, hown, hts⟩ (c_X1_requireSeat_ok l (bn) (by omega)) (va_cwS 1 hts gX1_best_X1_requireSeat rfl rfl rfl (by decide +kernel) ⟨Nat.le_of_ble_eq_true rfl, Nat.le_of_ble_eq_true rfl⟩) preT rfl rfl hl.1 rfl (lv_room (Nat.le_of_ble_eq_true rfl)) dX1_best_1 ⟨Nat.zero_le _, Nat.zero_le _⟩)) (fun _ => ?_)
  refine lv_iload_n hx hb dX1_best_4 rfl (lv_at hl 3 rfl) ?_
  refine lv_iconst (v := nI 4) hx hb dX1_best_5 (by decide) ?_
  refine va_csv (va_Run.run (va_runS (As := [.int (nI (how)), .int (nI (4))]) (rest := []) ⟨hx, hb, hml, hown, hts⟩ (c_X1_requireBelow_ok l (how) (4) (by omega) (by omega)) (va_cwS 2 hts gX1_best_X1_requireBelow rfl rfl rfl (by decide +kernel) ⟨Nat.le_of_ble_eq_true rfl, Nat.le_of_ble_eq_true rfl⟩) preT rfl rfl hl.1 rfl (lv_room (Nat.le_of_ble_eq_true rfl)) dX1_best_6 ⟨Nat.zero_le _, Nat.zero_le _⟩)) (fun _ => ?_)
  refine lv_aload_n hx hb dX1_best_9 rfl (lv_at hl 0 rfl) ?_
  refine lv_iload_n hx hb dX1_best_10 rfl (lv_at hl 1 rfl) ?_
  refine va_csr (va_Run.run (va_runV (As := [.int (nI (Bool.toNat (fb)))]) (rest := []) ⟨hx, hb, hml, hown, hts⟩ (c_X1_panel l dC dI cD cZ cI cL h pf f0 f1 f2 f3 po o0 o1 o2 o3 tt t0 NF GF TF OF NO GO TO OO DG nn fb) (cwV 1 hts gX1_best_X1_panel rfl rfl rfl (by decide +kernel) ⟨Nat.le_of_ble_eq_true rfl, Nat.le_of_ble_eq_true rfl⟩) (okJ_pre ⟨hP, hK, hE⟩) rfl rfl hl.1 rfl (lv_room (Nat.le_of_ble_eq_true rfl)) dX1_best_11 ⟨Nat.zero_le _, Nat.zero_le _⟩)) (fun r3 er3 => ?_)
  subst er3
  refine W.eq (g2 := F0 m 14 ls [.ref pf]) rfl ?_
  refine lv_aload_n hx hb dX1_best_14 rfl (lv_at hl 0 rfl) ?_
  refine va_get (D := (dC, dI)) (ci := 1) (v := .int (nI (nn))) (C := RX1) (T := TX1) (N := 4) hx hb hts hin1 hown hK hP 0 rfl rfl 3 (by decide) fl26 (fun _ h9 => h9) rfl dX1_best_15 ?_
  refine lv_iload_n hx hb dX1_best_18 rfl (lv_at hl 2 rfl) ?_
  refine lv_iload_n hx hb dX1_best_19 rfl (lv_at hl 3 rfl) ?_
  refine vp_callSi (va_Run.run (va_runV (As := [.int (nI (nn)), .int (nI (bn)), .int (nI (how))]) (rest := []) ⟨hx, hb, hml, hown, hts⟩ (c_X0_bestOf l dC dI cD cZ cI cL pf f0 f1 f2 f3 NF GF TF OF (nn) (bn) (how) (by omega) (by omega) (by omega)) (cwV 3 hts gX1_best_X0_bestOf rfl rfl rfl (by decide +kernel) ⟨Nat.le_of_ble_eq_true rfl, Nat.le_of_ble_eq_true rfl⟩) (okP_pre ⟨hP.sub (ws' := [(pf, .inr (0, [.ref f0, .ref f1, .ref f2, .ref f3])), (f0, .inl (cD, 35, .inr (.inr (.inr (.inl (NF)))))), (f1, .inl (cZ, 35, .inl (GF))), (f2, .inl (cI, 30, .inl (TF))), (f3, .inl (cI, 6, .inl (OF)))]) [1, 2, 3, 4, 5] rfl, hK, hN⟩) rfl rfl hl.1 rfl (lv_room (Nat.le_of_ble_eq_true rfl)) dX1_best_20 ⟨Nat.zero_le _, Nat.zero_le _⟩)) (fun r4 er4 => ?_)
  subst er4
  exact W.iret (v := if nn = 0 then (-1) else nI (bst (fun i j => bet (rl GF NF (i * 5 + bn) (j * 5 + bn)) how) (nn - 1))) hx hb hr (fun t ht hW => ⟨_, rfl, rfl, ht⟩) (fun q hq => absurd hq List.not_mem_nil) dX1_best_23
set_option maxHeartbeats 4000000 in
set_option maxRecDepth 100000 in
theorem c_X1_against_ok (l : Launch) (dC : Nat → ClassId) (dI : Nat → Nat → Nat) (cD cZ cI cL : ClassId) (h pf f0 f1 f2 f3 po o0 o1 o2 o3 tt t0 : Nat) (NF : Nat → UInt64) (GF TF OF : Nat → Int32) (NO : Nat → UInt64) (GO TO OO : Nat → Int32) (DG : Nat → Int64) (nn : Nat) (fb : Bool) (hnn : nn ≤ 6) (ea eb wh : Nat) (hea : ea < nn) (heb : eb < nn) (hwh : wh < 5) : Met l yX1_against wsX1_against ({ frames := 2, cells := 0, slots := 0, locals := 47 }) (va_Pc [.ref h, .int (nI (Bool.toNat (fb))), .int (nI (ea)), .int (nI (eb)), .int (nI (wh))] (fun U => okJ dC dI cD cZ cI cL h pf f0 f1 f2 f3 po o0 o1 o2 o3 tt t0 NF GF TF OF NO GO TO OO DG nn fb U U.heap)) (vp_Si (fun r => r = nI (cnt (fun i => ag (rl GF NF (ea * 5 + i) (eb * 5 + i)) wh) 5))) 0 0 (fun _ => False) := by
  refine Met.ofW (cc := cX1_against) (maxL := 5) (ret := (some .int)) (by decide) rfl ?_
  intro p e s m args below meth c s₁ B hml hv
  obtain ⟨rfl, hO⟩ := hv
  obtain ⟨hP, hK, hE⟩ := id hO
  have hP : va_P (dC, dI) vwCl [(h, .inr (1, [.ref (cond fb pf po), .ref (cond fb po pf), .ref tt, .int (nI (nn))])), (pf, .inr (0, [.ref f0, .ref f1, .ref f2, .ref f3])), (f0, .inl (cD, 35, .inr (.inr (.inr (.inl (NF)))))), (f1, .inl (cZ, 35, .inl (GF))), (f2, .inl (cI, 30, .inl (TF))), (f3, .inl (cI, 6, .inl (OF))), (po, .inr (0, [.ref o0, .ref o1, .ref o2, .ref o3])), (o0, .inl (cD, 35, .inr (.inr (.inr (.inl (NO)))))), (o1, .inl (cZ, 35, .inl (GO))), (o2, .inl (cI, 30, .inl (TO))), (o3, .inl (cI, 6, .inl (OO))), (tt, .inr (3, [.ref t0])), (t0, .inl (cL, 42, .inr (.inl (DG))))] s.heap := hP
  have hx := B.exec
  have hb := B.bytes
  have hr := B.returns
  have hts := atoms_spec (ws := wsX1_against) B.pre
  have hown : s.vm.findClass RX1 = some m.cls := findClass_of_methodNamed B.named
  have hlocks := B.notSynchronized
  have hl := lv_entry ([.ref h, .int (nI (Bool.toNat (fb))), .int (nI (ea)), .int (nI (eb)), .int (nI (wh))]) (n := 5) (Nat.le_of_ble_eq_true rfl)
  rw [lg_entry_eq]
  generalize (lg_sl ([.ref h, .int (nI (Bool.toNat (fb))), .int (nI (ea)), .int (nI (eb)), .int (nI (wh))]) ++ List.replicate (5 - (lg_sl ([.ref h, .int (nI (Bool.toNat (fb))), .int (nI (ea)), .int (nI (eb)), .int (nI (wh))])).length) Slot.unset).toArray = ls at hl ⊢
  have hl : lv_has ls 5 [(0, .ref h), (1, .int (nI (Bool.toNat (fb)))), (2, .int (nI (ea))), (3, .int (nI (eb))), (4, .int (nI (wh)))] := hl
  have hN := hE.nest
  refine lv_aload_n hx hb dX1_against_0 rfl (lv_at hl 0 rfl) ?_
  refine lv_iload_n hx hb dX1_against_1 rfl (lv_at hl 2 rfl) ?_
  refine va_csv (va_Run.run (va_runV (As := [.int (nI (ea))]) (rest := []) ⟨hx, hb, hml, hown, hts⟩ (c_X1_requireEntry_ok l dC dI cD cZ cI cL h pf f0 f1 f2 f3 po o0 o1 o2 o3 tt t0 NF GF TF OF NO GO TO OO DG nn fb (ea) (by omega) (by omega)) (cwV 1 hts gX1_against_X1_requireEntry rfl rfl rfl (by decide +kernel) ⟨Nat.le_of_ble_eq_true rfl, Nat.le_of_ble_eq_true rfl⟩) (okJ_pre ⟨hP, hK, hE⟩) rfl rfl hl.1 rfl (lv_room (Nat.le_of_ble_eq_true rfl)) dX1_against_2 ⟨Nat.zero_le _, Nat.zero_le _⟩)) (fun _ => ?_)
  refine lv_aload_n hx hb dX1_against_5 rfl (lv_at hl 0 rfl) ?_
  refine lv_iload_n hx hb dX1_against_6 rfl (lv_at hl 3 rfl) ?_
  refine va_csv (va_Run.run (va_runV (As := [.int (nI (eb))]) (rest := []) ⟨hx, hb, hml, hown, hts⟩ (c_X1_requireEntry_ok l dC dI cD cZ cI cL h pf f0 f1 f2 f3 po o0 o1 o2 o3 tt t0 NF GF TF OF NO GO TO OO DG nn fb (eb) (by omega) (by omega)) (cwV 1 hts gX1_against_X1_requireEntry rfl rfl rfl (by decide +kernel) ⟨Nat.le_of_ble_eq_true rfl, Nat.le_of_ble_eq_true rfl⟩) (okJ_pre ⟨hP, hK, hE⟩) rfl rfl hl.1 rfl (lv_room (Nat.le_of_ble_eq_true rfl)) dX1_against_7 ⟨Nat.zero_le _, Nat.zero_le _⟩)) (fun _ => ?_)
  refine lv_iload hx hb dX1_against_10 (lv_at hl 4 rfl) ?_
  refine lv_iconst (v := nI 5) hx hb dX1_against_12 (by decide) ?_
  refine va_csv (va_Run.run (va_runS (As := [.int (nI (wh)), .int (nI (5))]) (rest := []) ⟨hx, hb, hml, hown, hts⟩ (c_X1_requireBelow_ok l (wh) (5) (by omega) (by omega)) (va_cwS 2 hts gX1_against_X1_requireBelow rfl rfl rfl (by decide +kernel) ⟨Nat.le_of_ble_eq_true rfl, Nat.le_of_ble_eq_true rfl⟩) preT rfl rfl hl.1 rfl (lv_room (Nat.le_of_ble_eq_true rfl)) dX1_against_13 ⟨Nat.zero_le _, Nat.zero_le _⟩)) (fun _ => ?_)
  refine lv_aload_n hx hb dX1_against_16 rfl (lv_at hl 0 rfl) ?_
  refine lv_iload_n hx hb dX1_against_17 rfl (lv_at hl 1 rfl) ?_
  refine va_csr (va_Run.run (va_runV (As := [.int (nI (Bool.toNat (fb)))]) (rest := []) ⟨hx, hb, hml, hown, hts⟩ (c_X1_panel l dC dI cD cZ cI cL h pf f0 f1 f2 f3 po o0 o1 o2 o3 tt t0 NF GF TF OF NO GO TO OO DG nn fb) (cwV 1 hts gX1_against_X1_panel rfl rfl rfl (by decide +kernel) ⟨Nat.le_of_ble_eq_true rfl, Nat.le_of_ble_eq_true rfl⟩) (okJ_pre ⟨hP, hK, hE⟩) rfl rfl hl.1 rfl (lv_room (Nat.le_of_ble_eq_true rfl)) dX1_against_18 ⟨Nat.zero_le _, Nat.zero_le _⟩)) (fun r4 er4 => ?_)
  subst er4
  refine W.eq (g2 := F0 m 21 ls [.ref pf]) rfl ?_
  refine lv_iload_n hx hb dX1_against_21 rfl (lv_at hl 2 rfl) ?_
  refine lv_iload_n hx hb dX1_against_22 rfl (lv_at hl 3 rfl) ?_
  refine lv_iload hx hb dX1_against_23 (lv_at hl 4 rfl) ?_
  refine vp_callSi (va_Run.run (va_runV (As := [.int (nI (ea)), .int (nI (eb)), .int (nI (wh))]) (rest := []) ⟨hx, hb, hml, hown, hts⟩ (c_X0_seatsAgainst l dC dI cD cZ cI cL pf f0 f1 f2 f3 NF GF TF OF (ea) (eb) (wh) (by omega) (by omega) (by omega)) (cwV 3 hts gX1_against_X0_seatsAgainst rfl rfl rfl (by decide +kernel) ⟨Nat.le_of_ble_eq_true rfl, Nat.le_of_ble_eq_true rfl⟩) (okP_pre ⟨hP.sub (ws' := [(pf, .inr (0, [.ref f0, .ref f1, .ref f2, .ref f3])), (f0, .inl (cD, 35, .inr (.inr (.inr (.inl (NF)))))), (f1, .inl (cZ, 35, .inl (GF))), (f2, .inl (cI, 30, .inl (TF))), (f3, .inl (cI, 6, .inl (OF)))]) [1, 2, 3, 4, 5] rfl, hK, hN⟩) rfl rfl hl.1 rfl (lv_room (Nat.le_of_ble_eq_true rfl)) dX1_against_25 ⟨Nat.zero_le _, Nat.zero_le _⟩)) (fun r5 er5 => ?_)
  subst er5
  exact W.iret (v := nI (cnt (fun i => ag (rl GF NF (ea * 5 + i) (eb * 5 + i)) wh) 5)) hx hb hr (fun t ht hW => ⟨_, rfl, rfl, ht⟩) (fun q hq => absurd hq List.not_mem_nil) dX1_against_28
set_option maxHeartbeats 4000000 in
set_option maxRecDepth 100000 in
theorem c_X1_sum_ok (l : Launch) (dC : Nat → ClassId) (dI : Nat → Nat → Nat) (cD cZ cI cL : ClassId) (h pf f0 f1 f2 f3 po o0 o1 o2 o3 tt t0 : Nat) (NF : Nat → UInt64) (GF TF OF : Nat → Int32) (NO : Nat → UInt64) (GO TO OO : Nat → Int32) (DG : Nat → Int64) (nn : Nat) (fb : Bool) (sz : Nat) (hnn : nn ≤ 6) (en : Nat) (hen : en < nn) (hg : ∀ j, gd (NF j)) : Met l yX1_sum wsX1_sum ({ frames := 3, cells := 0, slots := 0, locals := 78 }) (va_Pc [.ref h, .int (nI (Bool.toNat (fb))), .int (nI (en))] (fun U => U.heap.size = sz ∧ okJ dC dI cD cZ cI cL h pf f0 f1 f2 f3 po o0 o1 o2 o3 tt t0 NF GF TF OF NO GO TO OO DG nn fb U U.heap ∧ va_D (fun _ => True) (wJ cD cZ cI cL h pf f0 f1 f2 f3 po o0 o1 o2 o3 tt t0 NF GF TF OF NO GO TO OO DG nn fb))) (va_Ql (fun (r : Int64) (D9 : (Nat → Int64)) => r = sm (fun b => if GF (en * 5 + b) = 0 then 0 else e8 (NF (en * 5 + b))) 5) (fun D9 t => atJ dC dI cD cZ cI cL (va_A (wJ cD cZ cI cL h pf f0 f1 f2 f3 po o0 o1 o2 o3 tt t0 NF GF TF OF NO GO TO OO DG nn fb) sz) h pf f0 f1 f2 f3 po o0 o1 o2 o3 tt t0 NF GF TF OF NO GO TO OO D9 nn fb t) (va_A (wJ cD cZ cI cL h pf f0 f1 f2 f3 po o0 o1 o2 o3 tt t0 NF GF TF OF NO GO TO OO DG nn fb) sz)) 0 0 (va_A (wJ cD cZ cI cL h pf f0 f1 f2 f3 po o0 o1 o2 o3 tt t0 NF GF TF OF NO GO TO OO DG nn fb) sz) := by
  refine Met.ofW (cc := cX1_sum) (maxL := 3) (ret := (some .long)) (by decide) rfl ?_
  intro p e s m args below meth c s₁ B hml hv
  obtain ⟨rfl, hsz, hO, hD0⟩ := hv
  obtain ⟨hP, hK, hE⟩ := id hO
  have hx := B.exec
  have hb := B.bytes
  have hr := B.returns
  have hts := atoms_spec (ws := wsX1_sum) B.pre
  have hown : s.vm.findClass RX1 = some m.cls := findClass_of_methodNamed B.named
  have hlocks := B.notSynchronized
  subst hsz
  have hD := hD0.self (sz := s.heap.size)
  generalize hAe : va_A (wJ cD cZ cI cL h pf f0 f1 f2 f3 po o0 o1 o2 o3 tt t0 NF GF TF OF NO GO TO OO DG nn fb) s.heap.size = A at hD ⊢
  have hA : ∀ q : Nat, s.heap.size ≤ q → A q := fun q h => by rw [← hAe]; exact Or.inr h
  have hS : va_S A s.heap s.heap [] := va_S.rf
  have hP : va_P (dC, dI) vwCl [(h, .inr (1, [.ref (cond fb pf po), .ref (cond fb po pf), .ref tt, .int (nI (nn))])), (pf, .inr (0, [.ref f0, .ref f1, .ref f2, .ref f3])), (f0, .inl (cD, 35, .inr (.inr (.inr (.inl (NF)))))), (f1, .inl (cZ, 35, .inl (GF))), (f2, .inl (cI, 30, .inl (TF))), (f3, .inl (cI, 6, .inl (OF))), (po, .inr (0, [.ref o0, .ref o1, .ref o2, .ref o3])), (o0, .inl (cD, 35, .inr (.inr (.inr (.inl (NO)))))), (o1, .inl (cZ, 35, .inl (GO))), (o2, .inl (cI, 30, .inl (TO))), (o3, .inl (cI, 6, .inl (OO))), (tt, .inr (3, [.ref t0])), (t0, .inl (cL, 42, .inr (.inl (DG))))] s.heap := hP
  have hD : va_D A [(h, .inr (1, [.ref (cond fb pf po), .ref (cond fb po pf), .ref tt, .int (nI (nn))])), (pf, .inr (0, [.ref f0, .ref f1, .ref f2, .ref f3])), (f0, .inl (cD, 35, .inr (.inr (.inr (.inl (NF)))))), (f1, .inl (cZ, 35, .inl (GF))), (f2, .inl (cI, 30, .inl (TF))), (f3, .inl (cI, 6, .inl (OF))), (po, .inr (0, [.ref o0, .ref o1, .ref o2, .ref o3])), (o0, .inl (cD, 35, .inr (.inr (.inr (.inl (NO)))))), (o1, .inl (cZ, 35, .inl (GO))), (o2, .inl (cI, 30, .inl (TO))), (o3, .inl (cI, 6, .inl (OO))), (tt, .inr (3, [.ref t0])), (t0, .inl (cL, 42, .inr (.inl (DG))))] := hD
  have hin1 : ∀ w ∈ wsX10, w ∈ wsX1_sum := (fun w h => List.mem_cons_of_mem _ (List.mem_append_left _ (List.mem_append_left _ (List.mem_append_left _ (List.mem_append_right _ h)))))
  have fl22 := hts (.fieldLink RX1 22 "JuryTable" "total" "LJuryTable$Total;") (by decide +kernel)
  have hl := lv_entry ([.ref h, .int (nI (Bool.toNat (fb))), .int (nI (en))]) (n := 3) (Nat.le_of_ble_eq_true rfl)
  rw [lg_entry_eq]
  generalize (lg_sl ([.ref h, .int (nI (Bool.toNat (fb))), .int (nI (en))]) ++ List.replicate (3 - (lg_sl ([.ref h, .int (nI (Bool.toNat (fb))), .int (nI (en))])).length) Slot.unset).toArray = ls at hl ⊢
  have hl : lv_has ls 3 [(0, .ref h), (1, .int (nI (Bool.toNat (fb)))), (2, .int (nI (en)))] := hl
  have hN := hE.nest
  refine lv_aload_n hx hb dX1_sum_0 rfl (lv_at hl 0 rfl) ?_
  refine lv_iload_n hx hb dX1_sum_1 rfl (lv_at hl 2 rfl) ?_
  refine va_csv (va_Run.run (va_runV (As := [.int (nI (en))]) (rest := []) ⟨hx, hb, hml, hown, hts⟩ (c_X1_requireEntry_ok l dC dI cD cZ cI cL h pf f0 f1 f2 f3 po o0 o1 o2 o3 tt t0 NF GF TF OF NO GO TO OO DG nn fb (en) (by omega) (by omega)) (cwV 1 hts gX1_sum_X1_requireEntry rfl rfl rfl (by decide +kernel) ⟨Nat.le_of_ble_eq_true rfl, Nat.le_of_ble_eq_true rfl⟩) (okJ_pre ⟨hP, hK, hE⟩) rfl rfl hl.1 rfl (lv_room (Nat.le_of_ble_eq_true rfl)) dX1_sum_2 ⟨Nat.zero_le _, Nat.zero_le _⟩)) (fun _ => ?_)
  refine lv_aload_n hx hb dX1_sum_5 rfl (lv_at hl 0 rfl) ?_
  refine lv_iload_n hx hb dX1_sum_6 rfl (lv_at hl 1 rfl) ?_
  refine va_csr (va_Run.run (va_runV (As := [.int (nI (Bool.toNat (fb)))]) (rest := []) ⟨hx, hb, hml, hown, hts⟩ (c_X1_panel l dC dI cD cZ cI cL h pf f0 f1 f2 f3 po o0 o1 o2 o3 tt t0 NF GF TF OF NO GO TO OO DG nn fb) (cwV 1 hts gX1_sum_X1_panel rfl rfl rfl (by decide +kernel) ⟨Nat.le_of_ble_eq_true rfl, Nat.le_of_ble_eq_true rfl⟩) (okJ_pre ⟨hP, hK, hE⟩) rfl rfl hl.1 rfl (lv_room (Nat.le_of_ble_eq_true rfl)) dX1_sum_7 ⟨Nat.zero_le _, Nat.zero_le _⟩)) (fun r2 er2 => ?_)
  subst er2
  refine W.eq (g2 := F0 m 10 ls [.ref pf]) rfl ?_
  refine lv_iload_n hx hb dX1_sum_10 rfl (lv_at hl 2 rfl) ?_
  refine lv_aload_n hx hb dX1_sum_11 rfl (lv_at hl 0 rfl) ?_
  refine va_get (D := (dC, dI)) (ci := 1) (v := .ref tt) (C := RX1) (T := TX1) (N := 4) hx hb hts hin1 hown hK hP 0 rfl rfl 2 (by decide) fl22 (fun _ h9 => h9) rfl dX1_sum_12 ?_
  have hPc := hP.sub (ws' := [(pf, .inr (0, [.ref f0, .ref f1, .ref f2, .ref f3])), (f0, .inl (cD, 35, .inr (.inr (.inr (.inl (NF)))))), (f1, .inl (cZ, 35, .inl (GF))), (f2, .inl (cI, 30, .inl (TF))), (f3, .inl (cI, 6, .inl (OF))), (tt, .inr (3, [.ref t0])), (t0, .inl (cL, 42, .inr (.inl (DG))))]) [1, 2, 3, 4, 5, 11, 12] rfl
  have hDc := hD.sub (ws' := [(pf, .inr (0, [.ref f0, .ref f1, .ref f2, .ref f3])), (f0, .inl (cD, 35, .inr (.inr (.inr (.inl (NF)))))), (f1, .inl (cZ, 35, .inl (GF))), (f2, .inl (cI, 30, .inl (TF))), (f3, .inl (cI, 6, .inl (OF))), (tt, .inr (3, [.ref t0])), (t0, .inl (cL, 42, .inr (.inl (DG))))]) [1, 2, 3, 4, 5, 11, 12] (by decide) rfl
  have hFc := va_free (wc := [(pf, .inr (0, [.ref f0, .ref f1, .ref f2, .ref f3])), (f0, .inl (cD, 35, .inr (.inr (.inr (.inl (NF)))))), (f1, .inl (cZ, 35, .inl (GF))), (f2, .inl (cI, 30, .inl (TF))), (f3, .inl (cI, 6, .inl (OF))), (tt, .inr (3, [.ref t0])), (t0, .inl (cL, 42, .inr (.inl (DG))))]) hD hS hA [1, 2, 3, 4, 5, 11, 12] rfl
  refine va_calll (va_runV (As := [.int (nI (en)), .ref tt]) (rest := []) ⟨hx, hb, hml, hown, hts⟩ (c_X0_sumOfEighths l dC dI cD cZ cI cL pf f0 f1 f2 f3 tt t0 NF GF TF OF DG s.heap.size (en) (by omega) hg) (cwV 2 hts gX1_sum_X0_sumOfEighths rfl rfl rfl (by decide +kernel) ⟨Nat.le_of_ble_eq_true rfl, Nat.le_of_ble_eq_true rfl⟩) (okSW_pre ⟨hPc, hK, hN⟩ hDc) rfl rfl hl.1 rfl (lv_room (Nat.le_of_ble_eq_true rfl)) dX1_sum_15 ⟨Nat.zero_le _, Nat.zero_le _⟩) hS (fun q _ h => hFc q h) hFc (fun r3 u3 t H1 locs ht hvm hw hB hz1 hk1 hS => ?_)
  obtain ⟨hP1, hK1, hD1⟩ := hB
  rw [ht] at hP1
  obtain ⟨hP, hD⟩ := va_join (wr := [(h, .inr (1, [.ref (cond fb pf po), .ref (cond fb po pf), .ref tt, .int (nI (nn))])), (po, .inr (0, [.ref o0, .ref o1, .ref o2, .ref o3])), (o0, .inl (cD, 35, .inr (.inr (.inr (.inl (NO)))))), (o1, .inl (cZ, 35, .inl (GO))), (o2, .inl (cI, 30, .inl (TO))), (o3, .inl (cI, 6, .inl (OO)))]) (w1 := [(pf, .inr (0, [.ref f0, .ref f1, .ref f2, .ref f3])), (f0, .inl (cD, 35, .inr (.inr (.inr (.inl (NF)))))), (f1, .inl (cZ, 35, .inl (GF))), (f2, .inl (cI, 30, .inl (TF))), (f3, .inl (cI, 6, .inl (OF))), (tt, .inr (3, [.ref t0])), (t0, .inl (cL, 42, .inr (.inl (u3))))]) hP hD [1, 2, 3, 4, 5, 11, 12] [0, 6, 7, 8, 9, 10] rfl rfl (by decide) (by decide) hk1 hFc hP1 hD1
  have hP := hP.sub (ws' := [(h, .inr (1, [.ref (cond fb pf po), .ref (cond fb po pf), .ref tt, .int (nI (nn))])), (pf, .inr (0, [.ref f0, .ref f1, .ref f2, .ref f3])), (f0, .inl (cD, 35, .inr (.inr (.inr (.inl (NF)))))), (f1, .inl (cZ, 35, .inl (GF))), (f2, .inl (cI, 30, .inl (TF))), (f3, .inl (cI, 6, .inl (OF))), (po, .inr (0, [.ref o0, .ref o1, .ref o2, .ref o3])), (o0, .inl (cD, 35, .inr (.inr (.inr (.inl (NO)))))), (o1, .inl (cZ, 35, .inl (GO))), (o2, .inl (cI, 30, .inl (TO))), (o3, .inl (cI, 6, .inl (OO))), (tt, .inr (3, [.ref t0])), (t0, .inl (cL, 42, .inr (.inl (u3))))]) [0, 6, 7, 8, 9, 10, 1, 2, 3, 4, 5, 11, 12] rfl
  have hD := hD.sub (ws' := [(h, .inr (1, [.ref (cond fb pf po), .ref (cond fb po pf), .ref tt, .int (nI (nn))])), (pf, .inr (0, [.ref f0, .ref f1, .ref f2, .ref f3])), (f0, .inl (cD, 35, .inr (.inr (.inr (.inl (NF)))))), (f1, .inl (cZ, 35, .inl (GF))), (f2, .inl (cI, 30, .inl (TF))), (f3, .inl (cI, 6, .inl (OF))), (po, .inr (0, [.ref o0, .ref o1, .ref o2, .ref o3])), (o0, .inl (cD, 35, .inr (.inr (.inr (.inl (NO)))))), (o1, .inl (cZ, 35, .inl (GO))), (o2, .inl (cI, 30, .inl (TO))), (o3, .inl (cI, 6, .inl (OO))), (tt, .inr (3, [.ref t0])), (t0, .inl (cL, 42, .inr (.inl (u3))))]) [0, 6, 7, 8, 9, 10, 1, 2, 3, 4, 5, 11, 12] (by decide) rfl
  generalize H1 = H at hP hS ⊢
  have hP : va_P (dC, dI) vwCl [(h, .inr (1, [.ref (cond fb pf po), .ref (cond fb po pf), .ref tt, .int (nI (nn))])), (pf, .inr (0, [.ref f0, .ref f1, .ref f2, .ref f3])), (f0, .inl (cD, 35, .inr (.inr (.inr (.inl (NF)))))), (f1, .inl (cZ, 35, .inl (GF))), (f2, .inl (cI, 30, .inl (TF))), (f3, .inl (cI, 6, .inl (OF))), (po, .inr (0, [.ref o0, .ref o1, .ref o2, .ref o3])), (o0, .inl (cD, 35, .inr (.inr (.inr (.inl (NO)))))), (o1, .inl (cZ, 35, .inl (GO))), (o2, .inl (cI, 30, .inl (TO))), (o3, .inl (cI, 6, .inl (OO))), (tt, .inr (3, [.ref t0])), (t0, .inl (cL, 42, .inr (.inl (u3))))] H := hP
  have hD : va_D A [(h, .inr (1, [.ref (cond fb pf po), .ref (cond fb po pf), .ref tt, .int (nI (nn))])), (pf, .inr (0, [.ref f0, .ref f1, .ref f2, .ref f3])), (f0, .inl (cD, 35, .inr (.inr (.inr (.inl (NF)))))), (f1, .inl (cZ, 35, .inl (GF))), (f2, .inl (cI, 30, .inl (TF))), (f3, .inl (cI, 6, .inl (OF))), (po, .inr (0, [.ref o0, .ref o1, .ref o2, .ref o3])), (o0, .inl (cD, 35, .inr (.inr (.inr (.inl (NO)))))), (o1, .inl (cZ, 35, .inl (GO))), (o2, .inl (cI, 30, .inl (TO))), (o3, .inl (cI, 6, .inl (OO))), (tt, .inr (3, [.ref t0])), (t0, .inl (cL, 42, .inr (.inl (u3))))] := hD
  subst hw
  exact W.lret (v := sm (fun b => if GF (en * 5 + b) = 0 then 0 else e8 (NF (en * 5 + b))) 5) hx hb hr (fun t ht hW => ⟨⟨_, u3, rfl, rfl, by rw [ht]; exact hP, va_K.moved hW.alike hK, hD⟩, hS.F ht⟩) hS.2.2 dX1_sum_18
set_option maxHeartbeats 4000000 in
set_option maxRecDepth 100000 in
theorem c_X1_count_ok (l : Launch) (dC : Nat → ClassId) (dI : Nat → Nat → Nat) (cD cZ cI cL : ClassId) (h pf f0 f1 f2 f3 po o0 o1 o2 o3 tt t0 : Nat) (NF : Nat → UInt64) (GF TF OF : Nat → Int32) (NO : Nat → UInt64) (GO TO OO : Nat → Int32) (DG : Nat → Int64) (nn : Nat) (hnn : nn ≤ 6) (wn : Nat) (hwn : wn < 9) (hcF : cnt (fun i => decide (GF (0 + i) ≠ 0)) 30 ≤ nn * 5) (hcO : cnt (fun i => decide (GO (0 + i) ≠ 0)) 30 ≤ nn * 5) : Met l yX1_count wsX1_count ({ frames := 2, cells := 0, slots := 0, locals := 44 }) (va_Pc [.ref h, .int (nI (wn))] (fun U => okJ dC dI cD cZ cI cL h pf f0 f1 f2 f3 po o0 o1 o2 o3 tt t0 NF GF TF OF NO GO TO OO DG nn true U U.heap)) (vp_Si (fun r => r = cR wn (nI nn) (nI (cnt (fun i => decide (GF (0 + i) ≠ 0)) 30)) (nI (cnt (fun i => decide (GO (0 + i) ≠ 0)) 30)) (nI (nn * 5 - cnt (fun i => decide (GF (0 + i) ≠ 0)) 30)) (nI (nn * 5 - cnt (fun i => decide (GO (0 + i) ≠ 0)) 30)) (nI (cnt (fun i => decide (GF (30 + i) ≠ 0)) 5)) (nI (cnt (fun i => decide (GO (30 + i) ≠ 0)) 5)) (nI (cnt (fun j => decide (TF j = nI 1)) 30 + cnt (fun j => decide (TO j = nI 1)) 30)) (nI (cnt (fun j => decide (TF j = nI 0)) 30 + cnt (fun j => decide (TO j = nI 0)) 30)))) 0 0 (fun _ => False) := by
  refine Met.ofW (cc := cX1_count) (maxL := 2) (ret := (some .int)) (by decide) rfl ?_
  intro p e s m args below meth c s₁ B hml hv
  obtain ⟨rfl, hO⟩ := hv
  obtain ⟨hP, hK, hE⟩ := id hO
  have hP : va_P (dC, dI) vwCl [(h, .inr (1, [.ref pf, .ref po, .ref tt, .int (nI (nn))])), (pf, .inr (0, [.ref f0, .ref f1, .ref f2, .ref f3])), (f0, .inl (cD, 35, .inr (.inr (.inr (.inl (NF)))))), (f1, .inl (cZ, 35, .inl (GF))), (f2, .inl (cI, 30, .inl (TF))), (f3, .inl (cI, 6, .inl (OF))), (po, .inr (0, [.ref o0, .ref o1, .ref o2, .ref o3])), (o0, .inl (cD, 35, .inr (.inr (.inr (.inl (NO)))))), (o1, .inl (cZ, 35, .inl (GO))), (o2, .inl (cI, 30, .inl (TO))), (o3, .inl (cI, 6, .inl (OO))), (tt, .inr (3, [.ref t0])), (t0, .inl (cL, 42, .inr (.inl (DG))))] s.heap := hP
  have hx := B.exec
  have hb := B.bytes
  have hr := B.returns
  have hts := atoms_spec (ws := wsX1_count) B.pre
  have hown : s.vm.findClass RX1 = some m.cls := findClass_of_methodNamed B.named
  have hlocks := B.notSynchronized
  have hin1 : ∀ w ∈ wsX10, w ∈ wsX1_count := (fun w h => List.mem_cons_of_mem _ (List.mem_append_left _ (List.mem_append_left _ (List.mem_append_right _ h))))
  have fl12 := hts (.fieldLink RX1 12 "JuryTable" "judges" "LJuryTable$Panel;") (by decide +kernel)
  have fl16 := hts (.fieldLink RX1 16 "JuryTable" "scorers" "LJuryTable$Panel;") (by decide +kernel)
  have fl26 := hts (.fieldLink RX1 26 "JuryTable" "entries" "I") (by decide +kernel)
  have hl := lv_entry ([.ref h, .int (nI (wn))]) (n := 2) (Nat.le_of_ble_eq_true rfl)
  rw [lg_entry_eq]
  generalize (lg_sl ([.ref h, .int (nI (wn))]) ++ List.replicate (2 - (lg_sl ([.ref h, .int (nI (wn))])).length) Slot.unset).toArray = ls at hl ⊢
  have hl : lv_has ls 2 [(0, .ref h), (1, .int (nI (wn)))] := hl
  have hN := hE.nest
  refine lv_iload_n hx hb dX1_count_0 rfl (lv_at hl 1 rfl) ?_
  refine lv_bipush (v := nI 9) hx hb dX1_count_1 (by decide) ?_
  refine va_csv (va_Run.run (va_runS (As := [.int (nI (wn)), .int (nI (9))]) (rest := []) ⟨hx, hb, hml, hown, hts⟩ (c_X1_requireBelow_ok l (wn) (9) (by omega) (by omega)) (va_cwS 2 hts gX1_count_X1_requireBelow rfl rfl rfl (by decide +kernel) ⟨Nat.le_of_ble_eq_true rfl, Nat.le_of_ble_eq_true rfl⟩) preT rfl rfl hl.1 rfl (lv_room (Nat.le_of_ble_eq_true rfl)) dX1_count_3 ⟨Nat.zero_le _, Nat.zero_le _⟩)) (fun _ => ?_)
  refine lv_iload_n hx hb dX1_count_6 rfl (lv_at hl 1 rfl) ?_
  rcases (show wn = 0 ∨ wn = 1 ∨ wn = 2 ∨ wn = 3 ∨ wn = 4 ∨ wn = 5 ∨ wn = 6 ∨ wn = 7 ∨ 7 < wn by omega) with hsw | hsw | hsw | hsw | hsw | hsw | hsw | hsw | hgt
  · refine lv_tableIn (off := 45) (tgt := 52) hx hb dX1_count_7 (by rw [hsw]; decide) (by rw [hsw]; decide) (by rw [hsw]; decide) (by decide) ?_
    refine lv_aload_n hx hb dX1_count_52 rfl (lv_at hl 0 rfl) ?_
    refine va_get (D := (dC, dI)) (ci := 1) (v := .int (nI (nn))) (C := RX1) (T := TX1) (N := 4) hx hb hts hin1 hown hK hP 0 rfl rfl 3 (by decide) fl26 (fun _ h9 => h9) rfl dX1_count_53 ?_
    exact W.iret (v := nI nn) hx hb hr (fun t ht hW => ⟨_, rfl, by simp [cR, hsw], ht⟩) (fun q hq => absurd hq List.not_mem_nil) dX1_count_56
  · refine lv_tableIn (off := 50) (tgt := 57) hx hb dX1_count_7 (by rw [hsw]; decide) (by rw [hsw]; decide) (by rw [hsw]; decide) (by decide) ?_
    refine lv_aload_n hx hb dX1_count_57 rfl (lv_at hl 0 rfl) ?_
    refine va_get (D := (dC, dI)) (ci := 1) (v := .ref pf) (C := RX1) (T := TX1) (N := 4) hx hb hts hin1 hown hK hP 0 rfl rfl 0 (by decide) fl12 (fun _ h9 => h9) rfl dX1_count_58 ?_
    refine vp_callSi (va_Run.run (va_runV (As := []) (rest := []) ⟨hx, hb, hml, hown, hts⟩ (c_X0_numbersOfEntries l dC dI cD cZ cI cL pf f0 f1 f2 f3 NF GF TF OF) (cwV 0 hts gX1_count_X0_numbersOfEntries rfl rfl rfl (by decide +kernel) ⟨Nat.le_of_ble_eq_true rfl, Nat.le_of_ble_eq_true rfl⟩) (okP_pre ⟨hP.sub (ws' := [(pf, .inr (0, [.ref f0, .ref f1, .ref f2, .ref f3])), (f0, .inl (cD, 35, .inr (.inr (.inr (.inl (NF)))))), (f1, .inl (cZ, 35, .inl (GF))), (f2, .inl (cI, 30, .inl (TF))), (f3, .inl (cI, 6, .inl (OF)))]) [1, 2, 3, 4, 5] rfl, hK, hN⟩) rfl rfl hl.1 rfl (lv_room (Nat.le_of_ble_eq_true rfl)) dX1_count_61 ⟨Nat.zero_le _, Nat.zero_le _⟩)) (fun r2 er2 => ?_)
    subst er2
    exact W.iret (v := nI (cnt (fun i => decide (GF (0 + i) ≠ 0)) 30)) hx hb hr (fun t ht hW => ⟨_, rfl, by simp [cR, hsw], ht⟩) (fun q hq => absurd hq List.not_mem_nil) dX1_count_64
  · refine lv_tableIn (off := 58) (tgt := 65) hx hb dX1_count_7 (by rw [hsw]; decide) (by rw [hsw]; decide) (by rw [hsw]; decide) (by decide) ?_
    refine lv_aload_n hx hb dX1_count_65 rfl (lv_at hl 0 rfl) ?_
    refine va_get (D := (dC, dI)) (ci := 1) (v := .ref po) (C := RX1) (T := TX1) (N := 4) hx hb hts hin1 hown hK hP 0 rfl rfl 1 (by decide) fl16 (fun _ h9 => h9) rfl dX1_count_66 ?_
    refine vp_callSi (va_Run.run (va_runV (As := []) (rest := []) ⟨hx, hb, hml, hown, hts⟩ (c_X0_numbersOfEntries l dC dI cD cZ cI cL po o0 o1 o2 o3 NO GO TO OO) (cwV 0 hts gX1_count_X0_numbersOfEntries rfl rfl rfl (by decide +kernel) ⟨Nat.le_of_ble_eq_true rfl, Nat.le_of_ble_eq_true rfl⟩) (okP_pre ⟨hP.sub (ws' := [(po, .inr (0, [.ref o0, .ref o1, .ref o2, .ref o3])), (o0, .inl (cD, 35, .inr (.inr (.inr (.inl (NO)))))), (o1, .inl (cZ, 35, .inl (GO))), (o2, .inl (cI, 30, .inl (TO))), (o3, .inl (cI, 6, .inl (OO)))]) [6, 7, 8, 9, 10] rfl, hK, hN⟩) rfl rfl hl.1 rfl (lv_room (Nat.le_of_ble_eq_true rfl)) dX1_count_69 ⟨Nat.zero_le _, Nat.zero_le _⟩)) (fun r3 er3 => ?_)
    subst er3
    exact W.iret (v := nI (cnt (fun i => decide (GO (0 + i) ≠ 0)) 30)) hx hb hr (fun t ht hW => ⟨_, rfl, by simp [cR, hsw], ht⟩) (fun q hq => absurd hq List.not_mem_nil) dX1_count_72
  · refine lv_tableIn (off := 66) (tgt := 73) hx hb dX1_count_7 (by rw [hsw]; decide) (by rw [hsw]; decide) (by rw [hsw]; decide) (by decide) ?_
    refine lv_aload_n hx hb dX1_count_73 rfl (lv_at hl 0 rfl) ?_
    refine va_get (D := (dC, dI)) (ci := 1) (v := .int (nI (nn))) (C := RX1) (T := TX1) (N := 4) hx hb hts hin1 hown hK hP 0 rfl rfl 3 (by decide) fl26 (fun _ h9 => h9) rfl dX1_count_74 ?_
    refine lv_iconst (v := nI 5) hx hb dX1_count_77 (by decide) ?_
    refine xn_imul hx hb dX1_count_78 ?_
    refine lv_aload_n hx hb dX1_count_79 rfl (lv_at hl 0 rfl) ?_
    refine va_get (D := (dC, dI)) (ci := 1) (v := .ref pf) (C := RX1) (T := TX1) (N := 4) hx hb hts hin1 hown hK hP 0 rfl rfl 0 (by decide) fl12 (fun _ h9 => h9) rfl dX1_count_80 ?_
    refine vp_callSi (va_Run.run (va_runV (As := []) (rest := [.int (nI (nn * 5))]) ⟨hx, hb, hml, hown, hts⟩ (c_X0_numbersOfEntries l dC dI cD cZ cI cL pf f0 f1 f2 f3 NF GF TF OF) (cwV 0 hts gX1_count_X0_numbersOfEntries rfl rfl rfl (by decide +kernel) ⟨Nat.le_of_ble_eq_true rfl, Nat.le_of_ble_eq_true rfl⟩) (okP_pre ⟨hP.sub (ws' := [(pf, .inr (0, [.ref f0, .ref f1, .ref f2, .ref f3])), (f0, .inl (cD, 35, .inr (.inr (.inr (.inl (NF)))))), (f1, .inl (cZ, 35, .inl (GF))), (f2, .inl (cI, 30, .inl (TF))), (f3, .inl (cI, 6, .inl (OF)))]) [1, 2, 3, 4, 5] rfl, hK, hN⟩) rfl rfl hl.1 rfl (lv_room (Nat.le_of_ble_eq_true rfl)) dX1_count_83 ⟨Nat.zero_le _, Nat.zero_le _⟩)) (fun r4 er4 => ?_)
    subst er4
    refine xn_isub hx hb (by omega) dX1_count_86 ?_
    exact W.iret (v := nI ((nn * 5) - (cnt (fun i => decide (GF (0 + i) ≠ 0)) 30))) hx hb hr (fun t ht hW => ⟨_, rfl, by simp [cR, hsw], ht⟩) (fun q hq => absurd hq List.not_mem_nil) dX1_count_87
  · refine lv_tableIn (off := 81) (tgt := 88) hx hb dX1_count_7 (by rw [hsw]; decide) (by rw [hsw]; decide) (by rw [hsw]; decide) (by decide) ?_
    refine lv_aload_n hx hb dX1_count_88 rfl (lv_at hl 0 rfl) ?_
    refine va_get (D := (dC, dI)) (ci := 1) (v := .int (nI (nn))) (C := RX1) (T := TX1) (N := 4) hx hb hts hin1 hown hK hP 0 rfl rfl 3 (by decide) fl26 (fun _ h9 => h9) rfl dX1_count_89 ?_
    refine lv_iconst (v := nI 5) hx hb dX1_count_92 (by decide) ?_
    refine xn_imul hx hb dX1_count_93 ?_
    refine lv_aload_n hx hb dX1_count_94 rfl (lv_at hl 0 rfl) ?_
    refine va_get (D := (dC, dI)) (ci := 1) (v := .ref po) (C := RX1) (T := TX1) (N := 4) hx hb hts hin1 hown hK hP 0 rfl rfl 1 (by decide) fl16 (fun _ h9 => h9) rfl dX1_count_95 ?_
    refine vp_callSi (va_Run.run (va_runV (As := []) (rest := [.int (nI (nn * 5))]) ⟨hx, hb, hml, hown, hts⟩ (c_X0_numbersOfEntries l dC dI cD cZ cI cL po o0 o1 o2 o3 NO GO TO OO) (cwV 0 hts gX1_count_X0_numbersOfEntries rfl rfl rfl (by decide +kernel) ⟨Nat.le_of_ble_eq_true rfl, Nat.le_of_ble_eq_true rfl⟩) (okP_pre ⟨hP.sub (ws' := [(po, .inr (0, [.ref o0, .ref o1, .ref o2, .ref o3])), (o0, .inl (cD, 35, .inr (.inr (.inr (.inl (NO)))))), (o1, .inl (cZ, 35, .inl (GO))), (o2, .inl (cI, 30, .inl (TO))), (o3, .inl (cI, 6, .inl (OO)))]) [6, 7, 8, 9, 10] rfl, hK, hN⟩) rfl rfl hl.1 rfl (lv_room (Nat.le_of_ble_eq_true rfl)) dX1_count_98 ⟨Nat.zero_le _, Nat.zero_le _⟩)) (fun r5 er5 => ?_)
    subst er5
    refine xn_isub hx hb (by omega) dX1_count_101 ?_
    exact W.iret (v := nI ((nn * 5) - (cnt (fun i => decide (GO (0 + i) ≠ 0)) 30))) hx hb hr (fun t ht hW => ⟨_, rfl, by simp [cR, hsw], ht⟩) (fun q hq => absurd hq List.not_mem_nil) dX1_count_102
  · refine lv_tableIn (off := 96) (tgt := 103) hx hb dX1_count_7 (by rw [hsw]; decide) (by rw [hsw]; decide) (by rw [hsw]; decide) (by decide) ?_
    refine lv_aload_n hx hb dX1_count_103 rfl (lv_at hl 0 rfl) ?_
    refine va_get (D := (dC, dI)) (ci := 1) (v := .ref pf) (C := RX1) (T := TX1) (N := 4) hx hb hts hin1 hown hK hP 0 rfl rfl 0 (by decide) fl12 (fun _ h9 => h9) rfl dX1_count_104 ?_
    refine vp_callSi (va_Run.run (va_runV (As := []) (rest := []) ⟨hx, hb, hml, hown, hts⟩ (c_X0_numbersOfLimits l dC dI cD cZ cI cL pf f0 f1 f2 f3 NF GF TF OF) (cwV 0 hts gX1_count_X0_numbersOfLimits rfl rfl rfl (by decide +kernel) ⟨Nat.le_of_ble_eq_true rfl, Nat.le_of_ble_eq_true rfl⟩) (okP_pre ⟨hP.sub (ws' := [(pf, .inr (0, [.ref f0, .ref f1, .ref f2, .ref f3])), (f0, .inl (cD, 35, .inr (.inr (.inr (.inl (NF)))))), (f1, .inl (cZ, 35, .inl (GF))), (f2, .inl (cI, 30, .inl (TF))), (f3, .inl (cI, 6, .inl (OF)))]) [1, 2, 3, 4, 5] rfl, hK, hN⟩) rfl rfl hl.1 rfl (lv_room (Nat.le_of_ble_eq_true rfl)) dX1_count_107 ⟨Nat.zero_le _, Nat.zero_le _⟩)) (fun r6 er6 => ?_)
    subst er6
    exact W.iret (v := nI (cnt (fun i => decide (GF (30 + i) ≠ 0)) 5)) hx hb hr (fun t ht hW => ⟨_, rfl, by simp [cR, hsw], ht⟩) (fun q hq => absurd hq List.not_mem_nil) dX1_count_110
  · refine lv_tableIn (off := 104) (tgt := 111) hx hb dX1_count_7 (by rw [hsw]; decide) (by rw [hsw]; decide) (by rw [hsw]; decide) (by decide) ?_
    refine lv_aload_n hx hb dX1_count_111 rfl (lv_at hl 0 rfl) ?_
    refine va_get (D := (dC, dI)) (ci := 1) (v := .ref po) (C := RX1) (T := TX1) (N := 4) hx hb hts hin1 hown hK hP 0 rfl rfl 1 (by decide) fl16 (fun _ h9 => h9) rfl dX1_count_112 ?_
    refine vp_callSi (va_Run.run (va_runV (As := []) (rest := []) ⟨hx, hb, hml, hown, hts⟩ (c_X0_numbersOfLimits l dC dI cD cZ cI cL po o0 o1 o2 o3 NO GO TO OO) (cwV 0 hts gX1_count_X0_numbersOfLimits rfl rfl rfl (by decide +kernel) ⟨Nat.le_of_ble_eq_true rfl, Nat.le_of_ble_eq_true rfl⟩) (okP_pre ⟨hP.sub (ws' := [(po, .inr (0, [.ref o0, .ref o1, .ref o2, .ref o3])), (o0, .inl (cD, 35, .inr (.inr (.inr (.inl (NO)))))), (o1, .inl (cZ, 35, .inl (GO))), (o2, .inl (cI, 30, .inl (TO))), (o3, .inl (cI, 6, .inl (OO)))]) [6, 7, 8, 9, 10] rfl, hK, hN⟩) rfl rfl hl.1 rfl (lv_room (Nat.le_of_ble_eq_true rfl)) dX1_count_115 ⟨Nat.zero_le _, Nat.zero_le _⟩)) (fun r7 er7 => ?_)
    subst er7
    exact W.iret (v := nI (cnt (fun i => decide (GO (30 + i) ≠ 0)) 5)) hx hb hr (fun t ht hW => ⟨_, rfl, by simp [cR, hsw], ht⟩) (fun q hq => absurd hq List.not_mem_nil) dX1_count_118
  · refine lv_tableIn (off := 112) (tgt := 119) hx hb dX1_count_7 (by rw [hsw]; decide) (by rw [hsw]; decide) (by rw [hsw]; decide) (by decide) ?_
    refine lv_aload_n hx hb dX1_count_119 rfl (lv_at hl 0 rfl) ?_
    refine va_get (D := (dC, dI)) (ci := 1) (v := .ref pf) (C := RX1) (T := TX1) (N := 4) hx hb hts hin1 hown hK hP 0 rfl rfl 0 (by decide) fl12 (fun _ h9 => h9) rfl dX1_count_120 ?_
    refine lv_iconst (v := nI 1) hx hb dX1_count_123 (by decide) ?_
    refine vp_callSi (va_Run.run (va_runV (As := [.int (nI (1))]) (rest := []) ⟨hx, hb, hml, hown, hts⟩ (c_X0_truthsLike l dC dI cD cZ cI cL pf f0 f1 f2 f3 NF GF TF OF (nI 1)) (cwV 1 hts gX1_count_X0_truthsLike rfl rfl rfl (by decide +kernel) ⟨Nat.le_of_ble_eq_true rfl, Nat.le_of_ble_eq_true rfl⟩) (okP_pre ⟨hP.sub (ws' := [(pf, .inr (0, [.ref f0, .ref f1, .ref f2, .ref f3])), (f0, .inl (cD, 35, .inr (.inr (.inr (.inl (NF)))))), (f1, .inl (cZ, 35, .inl (GF))), (f2, .inl (cI, 30, .inl (TF))), (f3, .inl (cI, 6, .inl (OF)))]) [1, 2, 3, 4, 5] rfl, hK, hN⟩) rfl rfl hl.1 rfl (lv_room (Nat.le_of_ble_eq_true rfl)) dX1_count_124 ⟨Nat.zero_le _, Nat.zero_le _⟩)) (fun r8 er8 => ?_)
    subst er8
    refine lv_aload_n hx hb dX1_count_127 rfl (lv_at hl 0 rfl) ?_
    refine va_get (D := (dC, dI)) (ci := 1) (v := .ref po) (C := RX1) (T := TX1) (N := 4) hx hb hts hin1 hown hK hP 0 rfl rfl 1 (by decide) fl16 (fun _ h9 => h9) rfl dX1_count_128 ?_
    refine lv_iconst (v := nI 1) hx hb dX1_count_131 (by decide) ?_
    refine vp_callSi (va_Run.run (va_runV (As := [.int (nI (1))]) (rest := [.int (nI (cnt (fun j => decide (TF j = (nI 1))) 30))]) ⟨hx, hb, hml, hown, hts⟩ (c_X0_truthsLike l dC dI cD cZ cI cL po o0 o1 o2 o3 NO GO TO OO (nI 1)) (cwV 1 hts gX1_count_X0_truthsLike rfl rfl rfl (by decide +kernel) ⟨Nat.le_of_ble_eq_true rfl, Nat.le_of_ble_eq_true rfl⟩) (okP_pre ⟨hP.sub (ws' := [(po, .inr (0, [.ref o0, .ref o1, .ref o2, .ref o3])), (o0, .inl (cD, 35, .inr (.inr (.inr (.inl (NO)))))), (o1, .inl (cZ, 35, .inl (GO))), (o2, .inl (cI, 30, .inl (TO))), (o3, .inl (cI, 6, .inl (OO)))]) [6, 7, 8, 9, 10] rfl, hK, hN⟩) rfl rfl hl.1 rfl (lv_room (Nat.le_of_ble_eq_true rfl)) dX1_count_132 ⟨Nat.zero_le _, Nat.zero_le _⟩)) (fun r9 er9 => ?_)
    subst er9
    refine xn_iadd hx hb dX1_count_135 ?_
    exact W.iret (v := nI ((cnt (fun j => decide (TF j = (nI 1))) 30) + (cnt (fun j => decide (TO j = (nI 1))) 30))) hx hb hr (fun t ht hW => ⟨_, rfl, by simp [cR, hsw], ht⟩) (fun q hq => absurd hq List.not_mem_nil) dX1_count_136
  · refine xn_tableOut (tgt := 137) hx hb (by omega) dX1_count_7 (by omega) (by decide) ?_
    have hd0 : wn ≠ 0 := by omega
    have hd1 : wn ≠ 1 := by omega
    have hd2 : wn ≠ 2 := by omega
    have hd3 : wn ≠ 3 := by omega
    have hd4 : wn ≠ 4 := by omega
    have hd5 : wn ≠ 5 := by omega
    have hd6 : wn ≠ 6 := by omega
    have hd7 : wn ≠ 7 := by omega
    refine lv_aload_n hx hb dX1_count_137 rfl (lv_at hl 0 rfl) ?_
    refine va_get (D := (dC, dI)) (ci := 1) (v := .ref pf) (C := RX1) (T := TX1) (N := 4) hx hb hts hin1 hown hK hP 0 rfl rfl 0 (by decide) fl12 (fun _ h9 => h9) rfl dX1_count_138 ?_
    refine lv_iconst (v := nI 0) hx hb dX1_count_141 (by decide) ?_
    refine vp_callSi (va_Run.run (va_runV (As := [.int (nI (0))]) (rest := []) ⟨hx, hb, hml, hown, hts⟩ (c_X0_truthsLike l dC dI cD cZ cI cL pf f0 f1 f2 f3 NF GF TF OF (nI 0)) (cwV 1 hts gX1_count_X0_truthsLike rfl rfl rfl (by decide +kernel) ⟨Nat.le_of_ble_eq_true rfl, Nat.le_of_ble_eq_true rfl⟩) (okP_pre ⟨hP.sub (ws' := [(pf, .inr (0, [.ref f0, .ref f1, .ref f2, .ref f3])), (f0, .inl (cD, 35, .inr (.inr (.inr (.inl (NF)))))), (f1, .inl (cZ, 35, .inl (GF))), (f2, .inl (cI, 30, .inl (TF))), (f3, .inl (cI, 6, .inl (OF)))]) [1, 2, 3, 4, 5] rfl, hK, hN⟩) rfl rfl hl.1 rfl (lv_room (Nat.le_of_ble_eq_true rfl)) dX1_count_142 ⟨Nat.zero_le _, Nat.zero_le _⟩)) (fun r10 er10 => ?_)
    subst er10
    refine lv_aload_n hx hb dX1_count_145 rfl (lv_at hl 0 rfl) ?_
    refine va_get (D := (dC, dI)) (ci := 1) (v := .ref po) (C := RX1) (T := TX1) (N := 4) hx hb hts hin1 hown hK hP 0 rfl rfl 1 (by decide) fl16 (fun _ h9 => h9) rfl dX1_count_146 ?_
    refine lv_iconst (v := nI 0) hx hb dX1_count_149 (by decide) ?_
    refine vp_callSi (va_Run.run (va_runV (As := [.int (nI (0))]) (rest := [.int (nI (cnt (fun j => decide (TF j = (nI 0))) 30))]) ⟨hx, hb, hml, hown, hts⟩ (c_X0_truthsLike l dC dI cD cZ cI cL po o0 o1 o2 o3 NO GO TO OO (nI 0)) (cwV 1 hts gX1_count_X0_truthsLike rfl rfl rfl (by decide +kernel) ⟨Nat.le_of_ble_eq_true rfl, Nat.le_of_ble_eq_true rfl⟩) (okP_pre ⟨hP.sub (ws' := [(po, .inr (0, [.ref o0, .ref o1, .ref o2, .ref o3])), (o0, .inl (cD, 35, .inr (.inr (.inr (.inl (NO)))))), (o1, .inl (cZ, 35, .inl (GO))), (o2, .inl (cI, 30, .inl (TO))), (o3, .inl (cI, 6, .inl (OO)))]) [6, 7, 8, 9, 10] rfl, hK, hN⟩) rfl rfl hl.1 rfl (lv_room (Nat.le_of_ble_eq_true rfl)) dX1_count_150 ⟨Nat.zero_le _, Nat.zero_le _⟩)) (fun r11 er11 => ?_)
    subst er11
    refine xn_iadd hx hb dX1_count_153 ?_
    exact W.iret (v := nI ((cnt (fun j => decide (TF j = (nI 0))) 30) + (cnt (fun j => decide (TO j = (nI 0))) 30))) hx hb hr (fun t ht hW => ⟨_, rfl, by simp [cR, hd0, hd1, hd2, hd3, hd4, hd5, hd6, hd7], ht⟩) (fun q hq => absurd hq List.not_mem_nil) dX1_count_154
