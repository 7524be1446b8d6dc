set_option maxHeartbeats 4000000 in
set_option maxRecDepth 100000 in
theorem t_X1_requireEntry (l : Launch) (dC : Nat → ClassId) (dI : Nat → Nat → Nat) (cD cZ cI cL : ClassId) (h pf f0 f1 f2 f3 po o0 o1 o2 o3 tt t0 : Nat) (NF : Nat → UInt64) (GF TF OF : Nat → Int32) (NO : Nat → UInt64) (GO TO OO : Nat → Int32) (DG : Nat → Int64) (nn : Nat) (fb : Bool) (hst : l.stackTraces = false) (ev : Int32) (hbad : vB ev nn = false) : vx_Met l yX1_requireEntry wsX1_requireEntry ({ frames := 6, cells := 1, slots := 6, locals := 82 }) (va_Pc [.ref h, .int (ev)] (fun U => okJ dC dI cD cZ cI cL h pf f0 f1 f2 f3 po o0 o1 o2 o3 tt t0 NF GF TF OF NO GO TO OO DG nn fb U U.heap ∧ exZ U U.heap)) (va_Qv (fun (_ : Unit) => False) (fun _ _ => True) (fun _ => False)) (xN nsX) 1 6 (fun _ => False) := by
  refine vx_ofW (cc := cX1_requireEntry) (maxL := 2) (ret := none) (by decide) rfl ?_
  intro p e s m args below meth c s₁ B hml htab hv
  obtain ⟨rfl, hO, hZ⟩ := hv
  obtain ⟨hP, hK, hE⟩ := id hO
  have hP : va_P (dC, dI) vwCl [(h, .inr (1, [.ref (cond fb pf po), .ref (cond fb po pf), .ref tt, .int (nI (nn))])), (pf, .inr (0, [.ref f0, .ref f1, .ref f2, .ref f3])), (f0, .inl (cD, 35, .inr (.inr (.inr (.inl (NF)))))), (f1, .inl (cZ, 35, .inl (GF))), (f2, .inl (cI, 30, .inl (TF))), (f3, .inl (cI, 6, .inl (OF))), (po, .inr (0, [.ref o0, .ref o1, .ref o2, .ref o3])), (o0, .inl (cD, 35, .inr (.inr (.inr (.inl (NO)))))), (o1, .inl (cZ, 35, .inl (GO))), (o2, .inl (cI, 30, .inl (TO))), (o3, .inl (cI, 6, .inl (OO))), (tt, .inr (3, [.ref t0])), (t0, .inl (cL, 42, .inr (.inl (DG))))] s.heap := hP
  have hN := hE.nest
  have hx := B.exec
  have hb := B.bytes
  have hr := B.returns
  have hts := atoms_spec (ws := wsX1_requireEntry) B.pre
  have hown : s.vm.findClass RX1 = some m.cls := findClass_of_methodNamed B.named
  have hlocks := B.notSynchronized
  have hin1 : ∀ w ∈ wsX10, w ∈ wsX1_requireEntry := (fun w h => List.mem_cons_of_mem _ (List.mem_append_left _ (List.mem_append_right _ h)))
  have fl26 := hts (.fieldLink RX1 26 "JuryTable" "entries" "I") (by decide +kernel)
  have hl := lv_entry ([.ref h, .int (ev)]) (n := 2) (Nat.le_of_ble_eq_true rfl)
  rw [lg_entry_eq]
  generalize (lg_sl ([.ref h, .int (ev)]) ++ List.replicate (2 - (lg_sl ([.ref h, .int (ev)])).length) Slot.unset).toArray = ls at hl ⊢
  have hl : lv_has ls 2 [(0, .ref h), (1, .int (ev))] := hl
  refine lv_iload_n hx hb dX1_requireEntry_0 rfl (lv_at hl 1 rfl) ?_
  refine lv_if_lt (tgt := 12) hx hb dX1_requireEntry_1 (by decide) (fun c1 => ?_) (fun c1 => ?_)
  · obtain ⟨⟨sa, hsa⟩, -, -, -, -, -⟩ := id hE
    exact vx_throwN hx hb hst (own := RX1) (text := "no such entry") (ik := 125) (is := 127) (ic := 129) (sa := sa) (A := fun _ => False) hown (hts (.classLink RX1 125 nsX) (by decide +kernel)) (hts (.initialized nsX) (by decide +kernel)) hsa (hatN hE (fun w h => hts w ((fun w h => List.mem_cons_of_mem _ (List.mem_append_right _ h)) w h))) otN hZ.1 hZ.2 va_S.rf (hl.1.trans hml.symm) dX1_requireEntry_12 dX1_requireEntry_15 dX1_requireEntry_16 dX1_requireEntry_18 dX1_requireEntry_21 (fun x hx9 => (htab x hx9).elim) (Nat.le_of_ble_eq_true rfl) (Nat.le_of_ble_eq_true rfl) (Nat.le_of_ble_eq_true rfl) (Nat.le_of_ble_eq_true rfl) hlocks (fun t hvm h1 h2 => xN_of rfl h1 h2) (fun z hz => absurd hz List.not_mem_nil) (by decide) (by decide)
  · refine lv_iload_n hx hb dX1_requireEntry_4 rfl (lv_at hl 1 rfl) ?_
    refine lv_aload_n hx hb dX1_requireEntry_5 rfl (lv_at hl 0 rfl) ?_
    refine va_get (D := (dC, dI)) (ci := 1) (v := .int (nI (nn))) (C := RX1) (T := TX1) (N := 4) hx hb hts hin1 hown hK hP 0 rfl rfl 3 (by decide) fl26 (fun _ h9 => h9) rfl dX1_requireEntry_6 ?_
    refine lv_icmp_lt (tgt := 22) hx hb dX1_requireEntry_9 (by decide) (fun q => absurd q (fun z => absurd hbad (by rw [show vB ev nn = true from decide_eq_true ⟨c1, i_nle.mpr z⟩]; decide))) (fun _ => ?_)
    obtain ⟨⟨sa, hsa⟩, -, -, -, -, -⟩ := id hE
    exact vx_throwN hx hb hst (own := RX1) (text := "no such entry") (ik := 125) (is := 127) (ic := 129) (sa := sa) (A := fun _ => False) hown (hts (.classLink RX1 125 nsX) (by decide +kernel)) (hts (.initialized nsX) (by decide +kernel)) hsa (hatN hE (fun w h => hts w ((fun w h => List.mem_cons_of_mem _ (List.mem_append_right _ h)) w h))) otN hZ.1 hZ.2 va_S.rf (hl.1.trans hml.symm) dX1_requireEntry_12 dX1_requireEntry_15 dX1_requireEntry_16 dX1_requireEntry_18 dX1_requireEntry_21 (fun x hx9 => (htab x hx9).elim) (Nat.le_of_ble_eq_true rfl) (Nat.le_of_ble_eq_true rfl) (Nat.le_of_ble_eq_true rfl) (Nat.le_of_ble_eq_true rfl) hlocks (fun t hvm h1 h2 => xN_of rfl h1 h2) (fun z hz => absurd hz List.not_mem_nil) (by decide) (by decide)
set_option maxHeartbeats 4000000 in
set_option maxRecDepth 100000 in
theorem t_X1_requireSeat (l : Launch) (hst : l.stackTraces = false) (bv : Int32) (hbad : vB bv 5 = false) : vx_Met l yX1_requireSeat wsX1_requireSeat ({ frames := 6, cells := 1, slots := 6, locals := 82 }) (va_Pc [.int (bv)] (fun U => exS U ∧ exZ U U.heap)) (va_Qv (fun (_ : Unit) => False) (fun _ _ => True) (fun _ => False)) (xN nsX) 1 6 (fun _ => False) := by
  refine vx_ofW (cc := cX1_requireSeat) (maxL := 1) (ret := none) (by decide) rfl ?_
  intro p e s m args below meth c s₁ B hml htab hv
  obtain ⟨rfl, hE, hZ⟩ := hv
  have hx := B.exec
  have hb := B.bytes
  have hr := B.returns
  have hts := atoms_spec (ws := wsX1_requireSeat) B.pre
  have hown : s.vm.findClass RX1 = some m.cls := findClass_of_methodNamed B.named
  have hlocks := B.notSynchronized
  have hl := lv_entry ([.int (bv)]) (n := 1) (Nat.le_of_ble_eq_true rfl)
  rw [lg_entry_eq]
  generalize (lg_sl ([.int (bv)]) ++ List.replicate (1 - (lg_sl ([.int (bv)])).length) Slot.unset).toArray = ls at hl ⊢
  have hl : lv_has ls 1 [(0, .int (bv))] := hl
  refine lv_iload_n hx hb dX1_requireSeat_0 rfl (lv_at hl 0 rfl) ?_
  refine lv_if_lt (tgt := 9) hx hb dX1_requireSeat_1 (by decide) (fun c1 => ?_) (fun c1 => ?_)
  · obtain ⟨-, ⟨sa, hsa⟩, -, -, -, -⟩ := id hE
    exact vx_throwN hx hb hst (own := RX1) (text := "no such seat") (ik := 125) (is := 130) (ic := 129) (sa := sa) (A := fun _ => False) hown (hts (.classLink RX1 125 nsX) (by decide +kernel)) (hts (.initialized nsX) (by decide +kernel)) hsa (hatN hE (fun w h => hts w ((fun w h => List.mem_cons_of_mem _ (List.mem_append_right _ h)) w h))) otN hZ.1 hZ.2 va_S.rf (hl.1.trans hml.symm) dX1_requireSeat_9 dX1_requireSeat_12 dX1_requireSeat_13 dX1_requireSeat_15 dX1_requireSeat_18 (fun x hx9 => (htab x hx9).elim) (Nat.le_of_ble_eq_true rfl) (Nat.le_of_ble_eq_true rfl) (Nat.le_of_ble_eq_true rfl) (Nat.le_of_ble_eq_true rfl) hlocks (fun t hvm h1 h2 => xN_of rfl h1 h2) (fun z hz => absurd hz List.not_mem_nil) (by decide) (by decide)
  · refine lv_iload_n hx hb dX1_requireSeat_4 rfl (lv_at hl 0 rfl) ?_
    refine lv_iconst (v := nI 5) hx hb dX1_requireSeat_5 (by decide) ?_
    refine lv_icmp_lt (tgt := 19) hx hb dX1_requireSeat_6 (by decide) (fun q => absurd q (fun z => absurd hbad (by rw [show vB bv 5 = true from decide_eq_true ⟨c1, i_nle.mpr z⟩]; decide))) (fun _ => ?_)
    obtain ⟨-, ⟨sa, hsa⟩, -, -, -, -⟩ := id hE
    exact vx_throwN hx hb hst (own := RX1) (text := "no such seat") (ik := 125) (is := 130) (ic := 129) (sa := sa) (A := fun _ => False) hown (hts (.classLink RX1 125 nsX) (by decide +kernel)) (hts (.initialized nsX) (by decide +kernel)) hsa (hatN hE (fun w h => hts w ((fun w h => List.mem_cons_of_mem _ (List.mem_append_right _ h)) w h))) otN hZ.1 hZ.2 va_S.rf (hl.1.trans hml.symm) dX1_requireSeat_9 dX1_requireSeat_12 dX1_requireSeat_13 dX1_requireSeat_15 dX1_requireSeat_18 (fun x hx9 => (htab x hx9).elim) (Nat.le_of_ble_eq_true rfl) (Nat.le_of_ble_eq_true rfl) (Nat.le_of_ble_eq_true rfl) (Nat.le_of_ble_eq_true rfl) hlocks (fun t hvm h1 h2 => xN_of rfl h1 h2) (fun z hz => absurd hz List.not_mem_nil) (by decide) (by decide)
set_option maxHeartbeats 4000000 in
set_option maxRecDepth 100000 in
theorem t_X1_requireBelow (l : Launch) (hst : l.stackTraces = false) (kv : Int32) (hi : Nat) (hbad : vB kv hi = false) : vx_Met l yX1_requireBelow wsX1_requireBelow ({ frames := 6, cells := 1, slots := 6, locals := 82 }) (va_Pc [.int (kv), .int (nI (hi))] (fun U => exS U ∧ exZ U U.heap)) (va_Qv (fun (_ : Unit) => False) (fun _ _ => True) (fun _ => False)) (xN iaX) 1 6 (fun _ => False) := by
  refine vx_ofW (cc := cX1_requireBelow) (maxL := 2) (ret := none) (by decide) rfl ?_
  intro p e s m args below meth c s₁ B hml htab hv
  obtain ⟨rfl, hE, hZ⟩ := hv
  have hx := B.exec
  have hb := B.bytes
  have hr := B.returns
  have hts := atoms_spec (ws := wsX1_requireBelow) B.pre
  have hown : s.vm.findClass RX1 = some m.cls := findClass_of_methodNamed B.named
  have hlocks := B.notSynchronized
  have hl := lv_entry ([.int (kv), .int (nI (hi))]) (n := 2) (Nat.le_of_ble_eq_true rfl)
  rw [lg_entry_eq]
  generalize (lg_sl ([.int (kv), .int (nI (hi))]) ++ List.replicate (2 - (lg_sl ([.int (kv), .int (nI (hi))])).length) Slot.unset).toArray = ls at hl ⊢
  have hl : lv_has ls 2 [(0, .int (kv)), (1, .int (nI (hi)))] := hl
  refine lv_iload_n hx hb dX1_requireBelow_0 rfl (lv_at hl 0 rfl) ?_
  refine lv_if_lt (tgt := 9) hx hb dX1_requireBelow_1 (by decide) (fun c1 => ?_) (fun c1 => ?_)
  · obtain ⟨-, -, ⟨sa, hsa⟩, -, -, -⟩ := id hE
    exact vx_throwS hx hb hst (own := RX1) (cls := iaX) (text := "no such choice") (names := [rtX, exX]) (ik := 132) (is := 134) (ic := 136) (sa := sa) (A := fun _ => False) hown (by decide +kernel) (by decide +kernel) (hts (.classLink RX1 132 iaX) (by decide +kernel)) (hts (.initialized iaX) (by decide +kernel)) hsa (hatIA hE (fun w h => hts w ((fun w h => List.mem_cons_of_mem _ (List.mem_append_right _ h)) w h))) otIA hZ.1 hZ.2 va_S.rf (hl.1.trans hml.symm) dX1_requireBelow_9 dX1_requireBelow_12 dX1_requireBelow_13 dX1_requireBelow_15 dX1_requireBelow_18 (fun x hx9 => (htab x hx9).elim) (Nat.le_of_ble_eq_true rfl) (Nat.le_of_ble_eq_true rfl) (Nat.le_of_ble_eq_true rfl) (Nat.le_of_ble_eq_true rfl) hlocks (fun t hvm h1 h2 => xN_of rfl h1 h2) (fun z hz => absurd hz List.not_mem_nil) (by decide) (by decide)
  · refine lv_iload_n hx hb dX1_requireBelow_4 rfl (lv_at hl 0 rfl) ?_
    refine lv_iload_n hx hb dX1_requireBelow_5 rfl (lv_at hl 1 rfl) ?_
    refine lv_icmp_lt (tgt := 19) hx hb dX1_requireBelow_6 (by decide) (fun q => absurd q (fun z => absurd hbad (by rw [show vB kv hi = true from decide_eq_true ⟨c1, i_nle.mpr z⟩]; decide))) (fun _ => ?_)
    obtain ⟨-, -, ⟨sa, hsa⟩, -, -, -⟩ := id hE
    exact vx_throwS hx hb hst (own := RX1) (cls := iaX) (text := "no such choice") (names := [rtX, exX]) (ik := 132) (is := 134) (ic := 136) (sa := sa) (A := fun _ => False) hown (by decide +kernel) (by decide +kernel) (hts (.classLink RX1 132 iaX) (by decide +kernel)) (hts (.initialized iaX) (by decide +kernel)) hsa (hatIA hE (fun w h => hts w ((fun w h => List.mem_cons_of_mem _ (List.mem_append_right _ h)) w h))) otIA hZ.1 hZ.2 va_S.rf (hl.1.trans hml.symm) dX1_requireBelow_9 dX1_requireBelow_12 dX1_requireBelow_13 dX1_requireBelow_15 dX1_requireBelow_18 (fun x hx9 => (htab x hx9).elim) (Nat.le_of_ble_eq_true rfl) (Nat.le_of_ble_eq_true rfl) (Nat.le_of_ble_eq_true rfl) (Nat.le_of_ble_eq_true rfl) hlocks (fun t hvm h1 h2 => xN_of rfl h1 h2) (fun z hz => absurd hz List.not_mem_nil) (by decide) (by decide)
set_option maxHeartbeats 4000000 in
set_option maxRecDepth 100000 in
theorem t_X1_requireEntryOrNone (l : Launch) (dC : Nat → ClassId) (dI : Nat → Nat → Nat) (cD cZ cI cL : ClassId) (h pf f0 f1 f2 f3 po o0 o1 o2 o3 tt t0 : Nat) (NF : Nat → UInt64) (GF TF OF : Nat → Int32) (NO : Nat → UInt64) (GO TO OO : Nat → Int32) (DG : Nat → Int64) (nn : Nat) (fb : Bool) (hst : l.stackTraces = false) (ev : Int32) (hbad : vB ev nn = false) (hne : ¬ ev = (-1)) : vx_Met l yX1_requireEntryOrNone wsX1_requireEntryOrNone ({ frames := 7, cells := 1, slots := 6, locals := 103 }) (va_Pc [.ref h, .int (ev)] (fun U => okJ dC dI cD cZ cI cL h pf f0 f1 f2 f3 po o0 o1 o2 o3 tt t0 NF GF TF OF NO GO TO OO DG nn fb U U.heap ∧ exZ U U.heap)) (va_Qv (fun (_ : Unit) => False) (fun _ _ => True) (fun _ => False)) (xN nsX) 1 6 (fun _ => False) := by
  refine vx_ofW (cc := cX1_requireEntryOrNone) (maxL := 2) (ret := none) (by decide) rfl ?_
  intro p e s m args below meth c s₁ B hml htab hv
  obtain ⟨rfl, hO, hZ⟩ := hv
  obtain ⟨hP, hK, hE⟩ := id hO
  have hP : va_P (dC, dI) vwCl [(h, .inr (1, [.ref (cond fb pf po), .ref (cond fb po pf), .ref tt, .int (nI (nn))])), (pf, .inr (0, [.ref f0, .ref f1, .ref f2, .ref f3])), (f0, .inl (cD, 35, .inr (.inr (.inr (.inl (NF)))))), (f1, .inl (cZ, 35, .inl (GF))), (f2, .inl (cI, 30, .inl (TF))), (f3, .inl (cI, 6, .inl (OF))), (po, .inr (0, [.ref o0, .ref o1, .ref o2, .ref o3])), (o0, .inl (cD, 35, .inr (.inr (.inr (.inl (NO)))))), (o1, .inl (cZ, 35, .inl (GO))), (o2, .inl (cI, 30, .inl (TO))), (o3, .inl (cI, 6, .inl (OO))), (tt, .inr (3, [.ref t0])), (t0, .inl (cL, 42, .inr (.inl (DG))))] s.heap := hP
  have hN := hE.nest
  have hx := B.exec
  have hb := B.bytes
  have hr := B.returns
  have hts := atoms_spec (ws := wsX1_requireEntryOrNone) B.pre
  have hown : s.vm.findClass RX1 = some m.cls := findClass_of_methodNamed B.named
  have hlocks := B.notSynchronized
  have hl := lv_entry ([.ref h, .int (ev)]) (n := 2) (Nat.le_of_ble_eq_true rfl)
  rw [lg_entry_eq]
  generalize (lg_sl ([.ref h, .int (ev)]) ++ List.replicate (2 - (lg_sl ([.ref h, .int (ev)])).length) Slot.unset).toArray = ls at hl ⊢
  have hl : lv_has ls 2 [(0, .ref h), (1, .int (ev))] := hl
  refine lv_iload_n hx hb dX1_requireEntryOrNone_0 rfl (lv_at hl 1 rfl) ?_
  refine lv_iconst (v := (-1)) hx hb dX1_requireEntryOrNone_1 (by decide) ?_
  refine lv_icmp_eq (tgt := 10) hx hb dX1_requireEntryOrNone_2 (by decide) (fun q => absurd q hne) (fun _ => ?_)
  refine lv_aload_n hx hb dX1_requireEntryOrNone_5 rfl (lv_at hl 0 rfl) ?_
  refine lv_iload_n hx hb dX1_requireEntryOrNone_6 rfl (lv_at hl 1 rfl) ?_
  refine vx_callv (vx_runV (As := [.int (ev)]) (rest := []) ⟨hx, hb, hml, hown, hts⟩ (t_X1_requireEntry l dC dI cD cZ cI cL h pf f0 f1 f2 f3 po o0 o1 o2 o3 tt t0 NF GF TF OF NO GO TO OO DG nn fb hst (ev) hbad) (cwV 1 hts gX1_requireEntryOrNone_X1_requireEntry rfl rfl rfl (by decide +kernel) ⟨Nat.le_of_ble_eq_true rfl, Nat.le_of_ble_eq_true rfl⟩) (okJX_pre ⟨hP, hK, hE⟩ hZ) rfl rfl hl.1 rfl (lv_room (Nat.le_of_ble_eq_true rfl)) dX1_requireEntryOrNone_7 ⟨Nat.le_of_ble_eq_true rfl, Nat.le_of_ble_eq_true rfl⟩) (A0 := fun _ => False) (H0 := s.heap) va_S.rf (fun q _ h => h.elim) (fun q h => h.elim) (fun q _ h => h.elim) (fun E ce q9 u t H1 locs1 ht hvm hw hB hz1 hk1 hS1 hce hcv hcl => ?_) (fun u t H1 locs1 ht hvm hw hB hz1 hk1 hS1 => hw.elim)
  exact vx_out (fun x hx9 => (htab x hx9).elim) hlocks hce hcv hcl (fun t9 ht9 hvm9 => ⟨(), trivial, hB, by rw [ht9]; exact hz1, fun q h9 h8 => by rw [ht9]; exact hk1 q h9 h8⟩) hS1.2.2 (by decide) (by decide)
set_option maxHeartbeats 4000000 in
set_option maxRecDepth 100000 in
theorem t_X1_entry_t1 (l : Launch) (dC : Nat → ClassId) (dI : Nat → Nat → Nat) (cD cZ cI cL : ClassId) (h pf f0 f1 f2 f3 po o0 o1 o2 o3 tt t0 : Nat) (NF : Nat → UInt64) (GF TF OF : Nat → Int32) (NO : Nat → UInt64) (GO TO OO : Nat → Int32) (DG : Nat → Int64) (nn : Nat) (hst : l.stackTraces = false) (hn6 : nn = 6) : vx_Met l yX1_entry wsX1_entry ({ frames := 6, cells := 1, slots := 6, locals := 82 }) (va_Pc [.ref h] (fun U => okJ dC dI cD cZ cI cL h pf f0 f1 f2 f3 po o0 o1 o2 o3 tt t0 NF GF TF OF NO GO TO OO DG nn true U U.heap ∧ exZ U U.heap)) (va_Qi (fun (_ : Int32) (_ : Unit) => False) (fun _ _ => True) (fun _ => False)) (xN isX) 1 6 (fun _ => False) := by
  refine vx_ofW (cc := cX1_entry) (maxL := 2) (ret := (some .int)) (by decide) rfl ?_
  intro p e s m args below meth c s₁ B hml htab hv
  obtain ⟨rfl, hO, hZ⟩ := hv
  obtain ⟨hP, hK, hE⟩ := id hO
  have hP : va_P (dC, dI) vwCl [(h, .inr (1, [.ref pf, .ref po, .ref tt, .int (nI (nn))])), (pf, .inr (0, [.ref f0, .ref f1, .ref f2, .ref f3])), (f0, .inl (cD, 35, .inr (.inr (.inr (.inl (NF)))))), (f1, .inl (cZ, 35, .inl (GF))), (f2, .inl (cI, 30, .inl (TF))), (f3, .inl (cI, 6, .inl (OF))), (po, .inr (0, [.ref o0, .ref o1, .ref o2, .ref o3])), (o0, .inl (cD, 35, .inr (.inr (.inr (.inl (NO)))))), (o1, .inl (cZ, 35, .inl (GO))), (o2, .inl (cI, 30, .inl (TO))), (o3, .inl (cI, 6, .inl (OO))), (tt, .inr (3, [.ref t0])), (t0, .inl (cL, 42, .inr (.inl (DG))))] s.heap := hP
  have hN := hE.nest
  have hx := B.exec
  have hb := B.bytes
  have hr := B.returns
  have hts := atoms_spec (ws := wsX1_entry) B.pre
  have hown : s.vm.findClass RX1 = some m.cls := findClass_of_methodNamed B.named
  have hlocks := B.notSynchronized
  have hin1 : ∀ w ∈ wsX10, w ∈ wsX1_entry := (fun w h => List.mem_cons_of_mem _ (List.mem_append_left _ (List.mem_append_right _ h)))
  have fl26 := hts (.fieldLink RX1 26 "JuryTable" "entries" "I") (by decide +kernel)
  have hl := lv_entry ([.ref h]) (n := 2) (Nat.le_of_ble_eq_true rfl)
  rw [lg_entry_eq]
  generalize (lg_sl ([.ref h]) ++ List.replicate (2 - (lg_sl ([.ref h])).length) Slot.unset).toArray = ls at hl ⊢
  have hl : lv_has ls 2 [(0, .ref h)] := hl
  refine lv_aload_n hx hb dX1_entry_0 rfl (lv_at hl 0 rfl) ?_
  refine va_get (D := (dC, dI)) (ci := 1) (v := .int (nI (nn))) (C := RX1) (T := TX1) (N := 4) hx hb hts hin1 hown hK hP 0 rfl rfl 3 (by decide) fl26 (fun _ h9 => h9) rfl dX1_entry_1 ?_
  refine lv_bipush (v := nI 6) hx hb dX1_entry_4 (by decide) ?_
  refine xn_icmp_lt (tgt := 19) hx hb (by omega) (by decide) dX1_entry_6 (by decide) (fun q => absurd q (by omega)) (fun _ => ?_)
  obtain ⟨-, -, -, ⟨sa, hsa⟩, -, -⟩ := id hE
  exact vx_throwS hx hb hst (own := RX1) (cls := isX) (text := "all entries have come") (names := [rtX, exX]) (ik := 30) (is := 32) (ic := 34) (sa := sa) (A := fun _ => False) hown (by decide +kernel) (by decide +kernel) (hts (.classLink RX1 30 isX) (by decide +kernel)) (hts (.initialized isX) (by decide +kernel)) hsa (hatIS hE (fun w h => hts w ((fun w h => List.mem_cons_of_mem _ (List.mem_append_right _ h)) w h))) otIS hZ.1 hZ.2 va_S.rf (hl.1.trans hml.symm) dX1_entry_9 dX1_entry_12 dX1_entry_13 dX1_entry_15 dX1_entry_18 (fun x hx9 => (htab x hx9).elim) (Nat.le_of_ble_eq_true rfl) (Nat.le_of_ble_eq_true rfl) (Nat.le_of_ble_eq_true rfl) (Nat.le_of_ble_eq_true rfl) hlocks (fun t hvm h1 h2 => xN_of rfl h1 h2) (fun z hz => absurd hz List.not_mem_nil) (by decide) (by decide)
set_option maxHeartbeats 4000000 in
set_option maxRecDepth 100000 in
theorem t_X1_mark_t1 (l : Launch) (dC : Nat → ClassId) (dI : Nat → Nat → Nat) (cD cZ cI cL : ClassId) (h pf f0 f1 f2 f3 po o0 o1 o2 o3 tt t0 : Nat) (NF : Nat → UInt64) (GF TF OF : Nat → Int32) (NO : Nat → UInt64) (GO TO OO : Nat → Int32) (DG : Nat → Int64) (nn : Nat) (hst : l.stackTraces = false) (ev bv : Int32) (v : UInt64) (hbad : vB ev nn = false) : vx_Met l yX1_mark wsX1_mark ({ frames := 7, cells := 1, slots := 6, locals := 103 }) (va_Pc [.ref h, .int (ev), .int (bv), .double (v)] (fun U => okJ dC dI cD cZ cI cL h pf f0 f1 f2 f3 po o0 o1 o2 o3 tt t0 NF GF TF OF NO GO TO OO DG nn true U U.heap ∧ exZ U U.heap)) (va_Qv (fun (_ : Unit) => False) (fun _ _ => True) (fun _ => False)) (xN nsX) 1 6 (fun _ => False) := by
  refine vx_ofW (cc := cX1_mark) (maxL := 5) (ret := none) (by decide) rfl ?_
  intro p e s m args below meth c s₁ B hml htab hv
  obtain ⟨rfl, hO, hZ⟩ := hv
  obtain ⟨hP, hK, hE⟩ := id hO
  have hP : va_P (dC, dI) vwCl [(h, .inr (1, [.ref pf, .ref po, .ref tt, .int (nI (nn))])), (pf, .inr (0, [.ref f0, .ref f1, .ref f2, .ref f3])), (f0, .inl (cD, 35, .inr (.inr (.inr (.inl (NF)))))), (f1, .inl (cZ, 35, .inl (GF))), (f2, .inl (cI, 30, .inl (TF))), (f3, .inl (cI, 6, .inl (OF))), (po, .inr (0, [.ref o0, .ref o1, .ref o2, .ref o3])), (o0, .inl (cD, 35, .inr (.inr (.inr (.inl (NO)))))), (o1, .inl (cZ, 35, .inl (GO))), (o2, .inl (cI, 30, .inl (TO))), (o3, .inl (cI, 6, .inl (OO))), (tt, .inr (3, [.ref t0])), (t0, .inl (cL, 42, .inr (.inl (DG))))] s.heap := hP
  have hN := hE.nest
  have hx := B.exec
  have hb := B.bytes
  have hr := B.returns
  have hts := atoms_spec (ws := wsX1_mark) B.pre
  have hown : s.vm.findClass RX1 = some m.cls := findClass_of_methodNamed B.named
  have hlocks := B.notSynchronized
  have hl := lv_entry ([.ref h, .int (ev), .int (bv), .double (v)]) (n := 5) (Nat.le_of_ble_eq_true rfl)
  rw [lg_entry_eq]
  generalize (lg_sl ([.ref h, .int (ev), .int (bv), .double (v)]) ++ List.replicate (5 - (lg_sl ([.ref h, .int (ev), .int (bv), .double (v)])).length) Slot.unset).toArray = ls at hl ⊢
  have hl : lv_has ls 5 [(0, .ref h), (1, .int (ev)), (2, .int (bv)), (3, .double (v))] := hl
  refine lv_aload_n hx hb dX1_mark_0 rfl (lv_at hl 0 rfl) ?_
  refine lv_iload_n hx hb dX1_mark_1 rfl (lv_at hl 1 rfl) ?_
  refine vx_callv (vx_runV (As := [.int (ev)]) (rest := []) ⟨hx, hb, hml, hown, hts⟩ (t_X1_requireEntry l dC dI cD cZ cI cL h pf f0 f1 f2 f3 po o0 o1 o2 o3 tt t0 NF GF TF OF NO GO TO OO DG nn true hst (ev) hbad) (cwV 1 hts gX1_mark_X1_requireEntry rfl rfl rfl (by decide +kernel) ⟨Nat.le_of_ble_eq_true rfl, Nat.le_of_ble_eq_true rfl⟩) (okJX_pre ⟨hP, hK, hE⟩ hZ) rfl rfl hl.1 rfl (lv_room (Nat.le_of_ble_eq_true rfl)) dX1_mark_2 ⟨Nat.le_of_ble_eq_true rfl, Nat.le_of_ble_eq_true rfl⟩) (A0 := fun _ => False) (H0 := s.heap) va_S.rf (fun q _ h => h.elim) (fun q h => h.elim) (fun q _ h => h.elim) (fun E ce q9 u t H1 locs1 ht hvm hw hB hz1 hk1 hS1 hce hcv hcl => ?_) (fun u t H1 locs1 ht hvm hw hB hz1 hk1 hS1 => hw.elim)
  exact vx_out (fun x hx9 => (htab x hx9).elim) hlocks hce hcv hcl (fun t9 ht9 hvm9 => ⟨(), trivial, hB, by rw [ht9]; exact hz1, fun q h9 h8 => by rw [ht9]; exact hk1 q h9 h8⟩) hS1.2.2 (by decide) (by decide)
set_option maxHeartbeats 4000000 in
set_option maxRecDepth 100000 in
theorem t_X1_mark_t2 (l : Launch) (dC : Nat → ClassId) (dI : Nat → Nat → Nat) (cD cZ cI cL : ClassId) (h pf f0 f1 f2 f3 po o0 o1 o2 o3 tt t0 : Nat) (NF : Nat → UInt64) (GF TF OF : Nat → Int32) (NO : Nat → UInt64) (GO TO OO : Nat → Int32) (DG : Nat → Int64) (nn : Nat) (hst : l.stackTraces = false) (hnn : nn ≤ 6) (en : Nat) (bv : Int32) (v : UInt64) (hen : en < nn) (hbad : vB bv 5 = false) : vx_Met l yX1_mark wsX1_mark ({ frames := 7, cells := 1, slots := 6, locals := 102 }) (va_Pc [.ref h, .int (nI (en)), .int (bv), .double (v)] (fun U => okJ dC dI cD cZ cI cL h pf f0 f1 f2 f3 po o0 o1 o2 o3 tt t0 NF GF TF OF NO GO TO OO DG nn true U U.heap ∧ exZ U U.heap)) (va_Qv (fun (_ : Unit) => False) (fun _ _ => True) (fun _ => False)) (xN nsX) 1 6 (fun _ => False) := by
  refine vx_ofW (cc := cX1_mark) (maxL := 5) (ret := none) (by decide) rfl ?_
  intro p e s m args below meth c s₁ B hml htab hv
  obtain ⟨rfl, hO, hZ⟩ := hv
  obtain ⟨hP, hK, hE⟩ := id hO
  have hP : va_P (dC, dI) vwCl [(h, .inr (1, [.ref pf, .ref po, .ref tt, .int (nI (nn))])), (pf, .inr (0, [.ref f0, .ref f1, .ref f2, .ref f3])), (f0, .inl (cD, 35, .inr (.inr (.inr (.inl (NF)))))), (f1, .inl (cZ, 35, .inl (GF))), (f2, .inl (cI, 30, .inl (TF))), (f3, .inl (cI, 6, .inl (OF))), (po, .inr (0, [.ref o0, .ref o1, .ref o2, .ref o3])), (o0, .inl (cD, 35, .inr (.inr (.inr (.inl (NO)))))), (o1, .inl (cZ, 35, .inl (GO))), (o2, .inl (cI, 30, .inl (TO))), (o3, .inl (cI, 6, .inl (OO))), (tt, .inr (3, [.ref t0])), (t0, .inl (cL, 42, .inr (.inl (DG))))] s.heap := hP
  have hN := hE.nest
  have hx := B.exec
  have hb := B.bytes
  have hr := B.returns
  have hts := atoms_spec (ws := wsX1_mark) B.pre
  have hown : s.vm.findClass RX1 = some m.cls := findClass_of_methodNamed B.named
  have hlocks := B.notSynchronized
  have hl := lv_entry ([.ref h, .int (nI (en)), .int (bv), .double (v)]) (n := 5) (Nat.le_of_ble_eq_true rfl)
  rw [lg_entry_eq]
  generalize (lg_sl ([.ref h, .int (nI (en)), .int (bv), .double (v)]) ++ List.replicate (5 - (lg_sl ([.ref h, .int (nI (en)), .int (bv), .double (v)])).length) Slot.unset).toArray = ls at hl ⊢
  have hl : lv_has ls 5 [(0, .ref h), (1, .int (nI (en))), (2, .int (bv)), (3, .double (v))] := hl
  refine lv_aload_n hx hb dX1_mark_0 rfl (lv_at hl 0 rfl) ?_
  refine lv_iload_n hx hb dX1_mark_1 rfl (lv_at hl 1 rfl) ?_
  refine va_csv (va_Run.run (va_runV (As := [.int (nI (en))]) (rest := []) ⟨hx, hb, hml, hown, hts⟩ (c_X1_requireEntry_ok l dC dI cD cZ cI cL h pf f0 f1 f2 f3 po o0 o1 o2 o3 tt t0 NF GF TF OF NO GO TO OO DG nn true (en) (by omega) (by omega)) (cwV 1 hts gX1_mark_X1_requireEntry rfl rfl rfl (by decide +kernel) ⟨Nat.le_of_ble_eq_true rfl, Nat.le_of_ble_eq_true rfl⟩) (okJ_pre ⟨hP, hK, hE⟩) rfl rfl hl.1 rfl (lv_room (Nat.le_of_ble_eq_true rfl)) dX1_mark_2 ⟨Nat.zero_le _, Nat.zero_le _⟩)) (fun _ => ?_)
  refine lv_iload_n hx hb dX1_mark_5 rfl (lv_at hl 2 rfl) ?_
  refine vx_callv (vx_runS (As := [.int (bv)]) (rest := []) ⟨hx, hb, hml, hown, hts⟩ (t_X1_requireSeat l hst (bv) hbad) (va_cwS 1 hts gX1_mark_X1_requireSeat rfl rfl rfl (by decide +kernel) ⟨Nat.le_of_ble_eq_true rfl, Nat.le_of_ble_eq_true rfl⟩) (exX_pre hE hZ) rfl rfl hl.1 rfl (lv_room (Nat.le_of_ble_eq_true rfl)) dX1_mark_6 ⟨Nat.le_of_ble_eq_true rfl, Nat.le_of_ble_eq_true rfl⟩) (A0 := fun _ => False) (H0 := s.heap) va_S.rf (fun q _ h => h.elim) (fun q h => h.elim) (fun q _ h => h.elim) (fun E ce q9 u t H1 locs1 ht hvm hw hB hz1 hk1 hS1 hce hcv hcl => ?_) (fun u t H1 locs1 ht hvm hw hB hz1 hk1 hS1 => hw.elim)
  exact vx_out (fun x hx9 => (htab x hx9).elim) hlocks hce hcv hcl (fun t9 ht9 hvm9 => ⟨(), trivial, hB, by rw [ht9]; exact hz1, fun q h9 h8 => by rw [ht9]; exact hk1 q h9 h8⟩) hS1.2.2 (by decide) (by decide)
set_option maxHeartbeats 4000000 in
set_option maxRecDepth 100000 in
theorem t_X1_points_t1 (l : Launch) (dC : Nat → ClassId) (dI : Nat → Nat → Nat) (cD cZ cI cL : ClassId) (h pf f0 f1 f2 f3 po o0 o1 o2 o3 tt t0 : Nat) (NF : Nat → UInt64) (GF TF OF : Nat → Int32) (NO : Nat → UInt64) (GO TO OO : Nat → Int32) (DG : Nat → Int64) (nn : Nat) (hst : l.stackTraces = false) (ev bv : Int32) (fv : UInt32) (hbad : vB ev nn = false) : vx_Met l yX1_points wsX1_points ({ frames := 7, cells := 1, slots := 6, locals := 103 }) (va_Pc [.ref h, .int (ev), .int (bv), .float (fv)] (fun U => okJ dC dI cD cZ cI cL h pf f0 f1 f2 f3 po o0 o1 o2 o3 tt t0 NF GF TF OF NO GO TO OO DG nn false U U.heap ∧ exZ U U.heap)) (va_Qv (fun (_ : Unit) => False) (fun _ _ => True) (fun _ => False)) (xN nsX) 1 6 (fun _ => False) := by
  refine vx_ofW (cc := cX1_points) (maxL := 4) (ret := none) (by decide) rfl ?_
  intro p e s m args below meth c s₁ B hml htab hv
  obtain ⟨rfl, hO, hZ⟩ := hv
  obtain ⟨hP, hK, hE⟩ := id hO
  have hP : va_P (dC, dI) vwCl [(h, .inr (1, [.ref po, .ref pf, .ref tt, .int (nI (nn))])), (pf, .inr (0, [.ref f0, .ref f1, .ref f2, .ref f3])), (f0, .inl (cD, 35, .inr (.inr (.inr (.inl (NF)))))), (f1, .inl (cZ, 35, .inl (GF))), (f2, .inl (cI, 30, .inl (TF))), (f3, .inl (cI, 6, .inl (OF))), (po, .inr (0, [.ref o0, .ref o1, .ref o2, .ref o3])), (o0, .inl (cD, 35, .inr (.inr (.inr (.inl (NO)))))), (o1, .inl (cZ, 35, .inl (GO))), (o2, .inl (cI, 30, .inl (TO))), (o3, .inl (cI, 6, .inl (OO))), (tt, .inr (3, [.ref t0])), (t0, .inl (cL, 42, .inr (.inl (DG))))] s.heap := hP
  have hN := hE.nest
  have hx := B.exec
  have hb := B.bytes
  have hr := B.returns
  have hts := atoms_spec (ws := wsX1_points) B.pre
  have hown : s.vm.findClass RX1 = some m.cls := findClass_of_methodNamed B.named
  have hlocks := B.notSynchronized
  have hl := lv_entry ([.ref h, .int (ev), .int (bv), .float (fv)]) (n := 4) (Nat.le_of_ble_eq_true rfl)
  rw [lg_entry_eq]
  generalize (lg_sl ([.ref h, .int (ev), .int (bv), .float (fv)]) ++ List.replicate (4 - (lg_sl ([.ref h, .int (ev), .int (bv), .float (fv)])).length) Slot.unset).toArray = ls at hl ⊢
  have hl : lv_has ls 4 [(0, .ref h), (1, .int (ev)), (2, .int (bv)), (3, .float (fv))] := hl
  refine lv_aload_n hx hb dX1_points_0 rfl (lv_at hl 0 rfl) ?_
  refine lv_iload_n hx hb dX1_points_1 rfl (lv_at hl 1 rfl) ?_
  refine vx_callv (vx_runV (As := [.int (ev)]) (rest := []) ⟨hx, hb, hml, hown, hts⟩ (t_X1_requireEntry l dC dI cD cZ cI cL h pf f0 f1 f2 f3 po o0 o1 o2 o3 tt t0 NF GF TF OF NO GO TO OO DG nn false hst (ev) hbad) (cwV 1 hts gX1_points_X1_requireEntry rfl rfl rfl (by decide +kernel) ⟨Nat.le_of_ble_eq_true rfl, Nat.le_of_ble_eq_true rfl⟩) (okJX_pre ⟨hP, hK, hE⟩ hZ) rfl rfl hl.1 rfl (lv_room (Nat.le_of_ble_eq_true rfl)) dX1_points_2 ⟨Nat.le_of_ble_eq_true rfl, Nat.le_of_ble_eq_true rfl⟩) (A0 := fun _ => False) (H0 := s.heap) va_S.rf (fun q _ h => h.elim) (fun q h => h.elim) (fun q _ h => h.elim) (fun E ce q9 u t H1 locs1 ht hvm hw hB hz1 hk1 hS1 hce hcv hcl => ?_) (fun u t H1 locs1 ht hvm hw hB hz1 hk1 hS1 => hw.elim)
  exact vx_out (fun x hx9 => (htab x hx9).elim) hlocks hce hcv hcl (fun t9 ht9 hvm9 => ⟨(), trivial, hB, by rw [ht9]; exact hz1, fun q h9 h8 => by rw [ht9]; exact hk1 q h9 h8⟩) hS1.2.2 (by decide) (by decide)
set_option maxHeartbeats 4000000 in
set_option maxRecDepth 100000 in
theorem t_X1_points_t2 (l : Launch) (dC : Nat → ClassId) (dI : Nat → Nat → Nat) (cD cZ cI cL : ClassId) (h pf f0 f1 f2 f3 po o0 o1 o2 o3 tt t0 : Nat) (NF : Nat → UInt64) (GF TF OF : Nat → Int32) (NO : Nat → UInt64) (GO TO OO : Nat → Int32) (DG : Nat → Int64) (nn : Nat) (hst : l.stackTraces = false) (hnn : nn ≤ 6) (en : Nat) (bv : Int32) (fv : UInt32) (hen : en < nn) (hbad : vB bv 5 = false) : vx_Met l yX1_points wsX1_points ({ frames := 7, cells := 1, slots := 6, locals := 102 }) (va_Pc [.ref h, .int (nI (en)), .int (bv), .float (fv)] (fun U => okJ dC dI cD cZ cI cL h pf f0 f1 f2 f3 po o0 o1 o2 o3 tt t0 NF GF TF OF NO GO TO OO DG nn false U U.heap ∧ exZ U U.heap)) (va_Qv (fun (_ : Unit) => False) (fun _ _ => True) (fun _ => False)) (xN nsX) 1 6 (fun _ => False) := by
  refine vx_ofW (cc := cX1_points) (maxL := 4) (ret := none) (by decide) rfl ?_
  intro p e s m args below meth c s₁ B hml htab hv
  obtain ⟨rfl, hO, hZ⟩ := hv
  obtain ⟨hP, hK, hE⟩ := id hO
  have hP : va_P (dC, dI) vwCl [(h, .inr (1, [.ref po, .ref pf, .ref tt, .int (nI (nn))])), (pf, .inr (0, [.ref f0, .ref f1, .ref f2, .ref f3])), (f0, .inl (cD, 35, .inr (.inr (.inr (.inl (NF)))))), (f1, .inl (cZ, 35, .inl (GF))), (f2, .inl (cI, 30, .inl (TF))), (f3, .inl (cI, 6, .inl (OF))), (po, .inr (0, [.ref o0, .ref o1, .ref o2, .ref o3])), (o0, .inl (cD, 35, .inr (.inr (.inr (.inl (NO)))))), (o1, .inl (cZ, 35, .inl (GO))), (o2, .inl (cI, 30, .inl (TO))), (o3, .inl (cI, 6, .inl (OO))), (tt, .inr (3, [.ref t0])), (t0, .inl (cL, 42, .inr (.inl (DG))))] s.heap := hP
  have hN := hE.nest
  have hx := B.exec
  have hb := B.bytes
  have hr := B.returns
  have hts := atoms_spec (ws := wsX1_points) B.pre
  have hown : s.vm.findClass RX1 = some m.cls := findClass_of_methodNamed B.named
  have hlocks := B.notSynchronized
  have hl := lv_entry ([.ref h, .int (nI (en)), .int (bv), .float (fv)]) (n := 4) (Nat.le_of_ble_eq_true rfl)
  rw [lg_entry_eq]
  generalize (lg_sl ([.ref h, .int (nI (en)), .int (bv), .float (fv)]) ++ List.replicate (4 - (lg_sl ([.ref h, .int (nI (en)), .int (bv), .float (fv)])).length) Slot.unset).toArray = ls at hl ⊢
  have hl : lv_has ls 4 [(0, .ref h), (1, .int (nI (en))), (2, .int (bv)), (3, .float (fv))] := hl
  refine lv_aload_n hx hb dX1_points_0 rfl (lv_at hl 0 rfl) ?_
  refine lv_iload_n hx hb dX1_points_1 rfl (lv_at hl 1 rfl) ?_
  refine va_csv (va_Run.run (va_runV (As := [.int (nI (en))]) (rest := []) ⟨hx, hb, hml, hown, hts⟩ (c_X1_requireEntry_ok l dC dI cD cZ cI cL h pf f0 f1 f2 f3 po o0 o1 o2 o3 tt t0 NF GF TF OF NO GO TO OO DG nn false (en) (by omega) (by omega)) (cwV 1 hts gX1_points_X1_requireEntry rfl rfl rfl (by decide +kernel) ⟨Nat.le_of_ble_eq_true rfl, Nat.le_of_ble_eq_true rfl⟩) (okJ_pre ⟨hP, hK, hE⟩) rfl rfl hl.1 rfl (lv_room (Nat.le_of_ble_eq_true rfl)) dX1_points_2 ⟨Nat.zero_le _, Nat.zero_le _⟩)) (fun _ => ?_)
  refine lv_iload_n hx hb dX1_points_5 rfl (lv_at hl 2 rfl) ?_
  refine vx_callv (vx_runS (As := [.int (bv)]) (rest := []) ⟨hx, hb, hml, hown, hts⟩ (t_X1_requireSeat l hst (bv) hbad) (va_cwS 1 hts gX1_points_X1_requireSeat rfl rfl rfl (by decide +kernel) ⟨Nat.le_of_ble_eq_true rfl, Nat.le_of_ble_eq_true rfl⟩) (exX_pre hE hZ) rfl rfl hl.1 rfl (lv_room (Nat.le_of_ble_eq_true rfl)) dX1_points_6 ⟨Nat.le_of_ble_eq_true rfl, Nat.le_of_ble_eq_true rfl⟩) (A0 := fun _ => False) (H0 := s.heap) va_S.rf (fun q _ h => h.elim) (fun q h => h.elim) (fun q _ h => h.elim) (fun E ce q9 u t H1 locs1 ht hvm hw hB hz1 hk1 hS1 hce hcv hcl => ?_) (fun u t H1 locs1 ht hvm hw hB hz1 hk1 hS1 => hw.elim)
  exact vx_out (fun x hx9 => (htab x hx9).elim) hlocks hce hcv hcl (fun t9 ht9 hvm9 => ⟨(), trivial, hB, by rw [ht9]; exact hz1, fun q h9 h8 => by rw [ht9]; exact hk1 q h9 h8⟩) hS1.2.2 (by decide) (by decide)
set_option maxHeartbeats 4000000 in
set_option maxRecDepth 100000 in
theorem t_X1_bar_t1 (l : Launch) (dC : Nat → ClassId) (dI : Nat → Nat → Nat) (cD cZ cI cL : ClassId) (h pf f0 f1 f2 f3 po o0 o1 o2 o3 tt t0 : Nat) (NF : Nat → UInt64) (GF TF OF : Nat → Int32) (NO : Nat → UInt64) (GO TO OO : Nat → Int32) (DG : Nat → Int64) (nn : Nat) (hst : l.stackTraces = false) (bv : Int32) (v : UInt64) (hbad : vB bv 5 = false) : vx_Met l yX1_bar wsX1_bar ({ frames := 7, cells := 1, slots := 6, locals := 102 }) (va_Pc [.ref h, .int (bv), .double (v)] (fun U => okJ dC dI cD cZ cI cL h pf f0 f1 f2 f3 po o0 o1 o2 o3 tt t0 NF GF TF OF NO GO TO OO DG nn true U U.heap ∧ exZ U U.heap)) (va_Qv (fun (_ : Unit) => False) (fun _ _ => True) (fun _ => False)) (xN nsX) 1 6 (fun _ => False) := by
  refine vx_ofW (cc := cX1_bar) (maxL := 4) (ret := none) (by decide) rfl ?_
  intro p e s m args below meth c s₁ B hml htab hv
  obtain ⟨rfl, hO, hZ⟩ := hv
  obtain ⟨hP, hK, hE⟩ := id hO
  have hP : va_P (dC, dI) vwCl [(h, .inr (1, [.ref pf, .ref po, .ref tt, .int (nI (nn))])), (pf, .inr (0, [.ref f0, .ref f1, .ref f2, .ref f3])), (f0, .inl (cD, 35, .inr (.inr (.inr (.inl (NF)))))), (f1, .inl (cZ, 35, .inl (GF))), (f2, .inl (cI, 30, .inl (TF))), (f3, .inl (cI, 6, .inl (OF))), (po, .inr (0, [.ref o0, .ref o1, .ref o2, .ref o3])), (o0, .inl (cD, 35, .inr (.inr (.inr (.inl (NO)))))), (o1, .inl (cZ, 35, .inl (GO))), (o2, .inl (cI, 30, .inl (TO))), (o3, .inl (cI, 6, .inl (OO))), (tt, .inr (3, [.ref t0])), (t0, .inl (cL, 42, .inr (.inl (DG))))] s.heap := hP
  have hN := hE.nest
  have hx := B.exec
  have hb := B.bytes
  have hr := B.returns
  have hts := atoms_spec (ws := wsX1_bar) B.pre
  have hown : s.vm.findClass RX1 = some m.cls := findClass_of_methodNamed B.named
  have hlocks := B.notSynchronized
  have hl := lv_entry ([.ref h, .int (bv), .double (v)]) (n := 4) (Nat.le_of_ble_eq_true rfl)
  rw [lg_entry_eq]
  generalize (lg_sl ([.ref h, .int (bv), .double (v)]) ++ List.replicate (4 - (lg_sl ([.ref h, .int (bv), .double (v)])).length) Slot.unset).toArray = ls at hl ⊢
  have hl : lv_has ls 4 [(0, .ref h), (1, .int (bv)), (2, .double (v))] := hl
  refine lv_iload_n hx hb dX1_bar_0 rfl (lv_at hl 1 rfl) ?_
  refine vx_callv (vx_runS (As := [.int (bv)]) (rest := []) ⟨hx, hb, hml, hown, hts⟩ (t_X1_requireSeat l hst (bv) hbad) (va_cwS 1 hts gX1_bar_X1_requireSeat rfl rfl rfl (by decide +kernel) ⟨Nat.le_of_ble_eq_true rfl, Nat.le_of_ble_eq_true rfl⟩) (exX_pre hE hZ) rfl rfl hl.1 rfl (lv_room (Nat.le_of_ble_eq_true rfl)) dX1_bar_1 ⟨Nat.le_of_ble_eq_true rfl, Nat.le_of_ble_eq_true rfl⟩) (A0 := fun _ => False) (H0 := s.heap) va_S.rf (fun q _ h => h.elim) (fun q h => h.elim) (fun q _ h => h.elim) (fun E ce q9 u t H1 locs1 ht hvm hw hB hz1 hk1 hS1 hce hcv hcl => ?_) (fun u t H1 locs1 ht hvm hw hB hz1 hk1 hS1 => hw.elim)
  exact vx_out (fun x hx9 => (htab x hx9).elim) hlocks hce hcv hcl (fun t9 ht9 hvm9 => ⟨(), trivial, hB, by rw [ht9]; exact hz1, fun q h9 h8 => by rw [ht9]; exact hk1 q h9 h8⟩) hS1.2.2 (by decide) (by decide)
set_option maxHeartbeats 4000000 in
set_option maxRecDepth 100000 in
theorem t_X1_line_t1 (l : Launch) (dC : Nat → ClassId) (dI : Nat → Nat → Nat) (cD cZ cI cL : ClassId) (h pf f0 f1 f2 f3 po o0 o1 o2 o3 tt t0 : Nat) (NF : Nat → UInt64) (GF TF OF : Nat → Int32) (NO : Nat → UInt64) (GO TO OO : Nat → Int32) (DG : Nat → Int64) (nn : Nat) (hst : l.stackTraces = false) (bv : Int32) (fv : UInt32) (hbad : vB bv 5 = false) : vx_Met l yX1_line wsX1_line ({ frames := 7, cells := 1, slots := 6, locals := 102 }) (va_Pc [.ref h, .int (bv), .float (fv)] (fun U => okJ dC dI cD cZ cI cL h pf f0 f1 f2 f3 po o0 o1 o2 o3 tt t0 NF GF TF OF NO GO TO OO DG nn false U U.heap ∧ exZ U U.heap)) (va_Qv (fun (_ : Unit) => False) (fun _ _ => True) (fun _ => False)) (xN nsX) 1 6 (fun _ => False) := by
  refine vx_ofW (cc := cX1_line) (maxL := 3) (ret := none) (by decide) rfl ?_
  intro p e s m args below meth c s₁ B hml htab hv
  obtain ⟨rfl, hO, hZ⟩ := hv
  obtain ⟨hP, hK, hE⟩ := id hO
  have hP : va_P (dC, dI) vwCl [(h, .inr (1, [.ref po, .ref pf, .ref tt, .int (nI (nn))])), (pf, .inr (0, [.ref f0, .ref f1, .ref f2, .ref f3])), (f0, .inl (cD, 35, .inr (.inr (.inr (.inl (NF)))))), (f1, .inl (cZ, 35, .inl (GF))), (f2, .inl (cI, 30, .inl (TF))), (f3, .inl (cI, 6, .inl (OF))), (po, .inr (0, [.ref o0, .ref o1, .ref o2, .ref o3])), (o0, .inl (cD, 35, .inr (.inr (.inr (.inl (NO)))))), (o1, .inl (cZ, 35, .inl (GO))), (o2, .inl (cI, 30, .inl (TO))), (o3, .inl (cI, 6, .inl (OO))), (tt, .inr (3, [.ref t0])), (t0, .inl (cL, 42, .inr (.inl (DG))))] s.heap := hP
  have hN := hE.nest
  have hx := B.exec
  have hb := B.bytes
  have hr := B.returns
  have hts := atoms_spec (ws := wsX1_line) B.pre
  have hown : s.vm.findClass RX1 = some m.cls := findClass_of_methodNamed B.named
  have hlocks := B.notSynchronized
  have hl := lv_entry ([.ref h, .int (bv), .float (fv)]) (n := 3) (Nat.le_of_ble_eq_true rfl)
  rw [lg_entry_eq]
  generalize (lg_sl ([.ref h, .int (bv), .float (fv)]) ++ List.replicate (3 - (lg_sl ([.ref h, .int (bv), .float (fv)])).length) Slot.unset).toArray = ls at hl ⊢
  have hl : lv_has ls 3 [(0, .ref h), (1, .int (bv)), (2, .float (fv))] := hl
  refine lv_iload_n hx hb dX1_line_0 rfl (lv_at hl 1 rfl) ?_
  refine vx_callv (vx_runS (As := [.int (bv)]) (rest := []) ⟨hx, hb, hml, hown, hts⟩ (t_X1_requireSeat l hst (bv) hbad) (va_cwS 1 hts gX1_line_X1_requireSeat rfl rfl rfl (by decide +kernel) ⟨Nat.le_of_ble_eq_true rfl, Nat.le_of_ble_eq_true rfl⟩) (exX_pre hE hZ) rfl rfl hl.1 rfl (lv_room (Nat.le_of_ble_eq_true rfl)) dX1_line_1 ⟨Nat.le_of_ble_eq_true rfl, Nat.le_of_ble_eq_true rfl⟩) (A0 := fun _ => False) (H0 := s.heap) va_S.rf (fun q _ h => h.elim) (fun q h => h.elim) (fun q _ h => h.elim) (fun E ce q9 u t H1 locs1 ht hvm hw hB hz1 hk1 hS1 hce hcv hcl => ?_) (fun u t H1 locs1 ht hvm hw hB hz1 hk1 hS1 => hw.elim)
  exact vx_out (fun x hx9 => (htab x hx9).elim) hlocks hce hcv hcl (fun t9 ht9 hvm9 => ⟨(), trivial, hB, by rw [ht9]; exact hz1, fun q h9 h8 => by rw [ht9]; exact hk1 q h9 h8⟩) hS1.2.2 (by decide) (by decide)
set_option maxHeartbeats 4000000 in
set_option maxRecDepth 100000 in
theorem t_X1_clear_t1 (l : Launch) (dC : Nat → ClassId) (dI : Nat → Nat → Nat) (cD cZ cI cL : ClassId) (h pf f0 f1 f2 f3 po o0 o1 o2 o3 tt t0 : Nat) (NF : Nat → UInt64) (GF TF OF : Nat → Int32) (NO : Nat → UInt64) (GO TO OO : Nat → Int32) (DG : Nat → Int64) (nn : Nat) (fb : Bool) (hst : l.stackTraces = false) (ev bv : Int32) (hbad : vB ev nn = false) (hne : ¬ ev = (-1)) : vx_Met l yX1_clear wsX1_clear ({ frames := 8, cells := 1, slots := 6, locals := 124 }) (va_Pc [.ref h, .int (nI (Bool.toNat (fb))), .int (ev), .int (bv)] (fun U => okJ dC dI cD cZ cI cL h pf f0 f1 f2 f3 po o0 o1 o2 o3 tt t0 NF GF TF OF NO GO TO OO DG nn fb U U.heap ∧ exZ U U.heap)) (va_Qi (fun (_ : Int32) (_ : Unit) => False) (fun _ _ => True) (fun _ => False)) (xN nsX) 1 6 (fun _ => False) := by
  refine vx_ofW (cc := cX1_clear) (maxL := 4) (ret := (some .boolean)) (by decide) rfl ?_
  intro p e s m args below meth c s₁ B hml htab hv
  obtain ⟨rfl, hO, hZ⟩ := hv
  obtain ⟨hP, hK, hE⟩ := id hO
  have hP : va_P (dC, dI) vwCl [(h, .inr (1, [.ref (cond fb pf po), .ref (cond fb po pf), .ref tt, .int (nI (nn))])), (pf, .inr (0, [.ref f0, .ref f1, .ref f2, .ref f3])), (f0, .inl (cD, 35, .inr (.inr (.inr (.inl (NF)))))), (f1, .inl (cZ, 35, .inl (GF))), (f2, .inl (cI, 30, .inl (TF))), (f3, .inl (cI, 6, .inl (OF))), (po, .inr (0, [.ref o0, .ref o1, .ref o2, .ref o3])), (o0, .inl (cD, 35, .inr (.inr (.inr (.inl (NO)))))), (o1, .inl (cZ, 35, .inl (GO))), (o2, .inl (cI, 30, .inl (TO))), (o3, .inl (cI, 6, .inl (OO))), (tt, .inr (3, [.ref t0])), (t0, .inl (cL, 42, .inr (.inl (DG))))] s.heap := hP
  have hN := hE.nest
  have hx := B.exec
  have hb := B.bytes
  have hr := B.returns
  have hts := atoms_spec (ws := wsX1_clear) B.pre
  have hown : s.vm.findClass RX1 = some m.cls := findClass_of_methodNamed B.named
  have hlocks := B.notSynchronized
  have hl := lv_entry ([.ref h, .int (nI (Bool.toNat (fb))), .int (ev), .int (bv)]) (n := 4) (Nat.le_of_ble_eq_true rfl)
  rw [lg_entry_eq]
  generalize (lg_sl ([.ref h, .int (nI (Bool.toNat (fb))), .int (ev), .int (bv)]) ++ List.replicate (4 - (lg_sl ([.ref h, .int (nI (Bool.toNat (fb))), .int (ev), .int (bv)])).length) Slot.unset).toArray = ls at hl ⊢
  have hl : lv_has ls 4 [(0, .ref h), (1, .int (nI (Bool.toNat (fb)))), (2, .int (ev)), (3, .int (bv))] := hl
  refine lv_aload_n hx hb dX1_clear_0 rfl (lv_at hl 0 rfl) ?_
  refine lv_iload_n hx hb dX1_clear_1 rfl (lv_at hl 2 rfl) ?_
  refine vx_callv (vx_runV (As := [.int (ev)]) (rest := []) ⟨hx, hb, hml, hown, hts⟩ (t_X1_requireEntryOrNone l dC dI cD cZ cI cL h pf f0 f1 f2 f3 po o0 o1 o2 o3 tt t0 NF GF TF OF NO GO TO OO DG nn fb hst (ev) hbad hne) (cwV 1 hts gX1_clear_X1_requireEntryOrNone rfl rfl rfl (by decide +kernel) ⟨Nat.le_of_ble_eq_true rfl, Nat.le_of_ble_eq_true rfl⟩) (okJX_pre ⟨hP, hK, hE⟩ hZ) rfl rfl hl.1 rfl (lv_room (Nat.le_of_ble_eq_true rfl)) dX1_clear_2 ⟨Nat.le_of_ble_eq_true rfl, Nat.le_of_ble_eq_true rfl⟩) (A0 := fun _ => False) (H0 := s.heap) va_S.rf (fun q _ h => h.elim) (fun q h => h.elim) (fun q _ h => h.elim) (fun E ce q9 u t H1 locs1 ht hvm hw hB hz1 hk1 hS1 hce hcv hcl => ?_) (fun u t H1 locs1 ht hvm hw hB hz1 hk1 hS1 => hw.elim)
  exact vx_out (fun x hx9 => (htab x hx9).elim) hlocks hce hcv hcl (fun t9 ht9 hvm9 => ⟨(), trivial, hB, by rw [ht9]; exact hz1, fun q h9 h8 => by rw [ht9]; exact hk1 q h9 h8⟩) hS1.2.2 (by decide) (by decide)
set_option maxHeartbeats 4000000 in
set_option maxRecDepth 100000 in
theorem t_X1_clear_t2 (l : Launch) (dC : Nat → ClassId) (dI : Nat → Nat → Nat) (cD cZ cI cL : ClassId) (h pf f0 f1 f2 f3 po o0 o1 o2 o3 tt t0 : Nat) (NF : Nat → UInt64) (GF TF OF : Nat → Int32) (NO : Nat → UInt64) (GO TO OO : Nat → Int32) (DG : Nat → Int64) (nn : Nat) (fb : Bool) (hst : l.stackTraces = false) (hnn : nn ≤ 6) (en : Nat) (bv : Int32) (hen : en < nn) (hbad : vB bv 5 = false) : vx_Met l yX1_clear wsX1_clear ({ frames := 7, cells := 1, slots := 6, locals := 102 }) (va_Pc [.ref h, .int (nI (Bool.toNat (fb))), .int (nI (en)), .int (bv)] (fun U => okJ dC dI cD cZ cI cL h pf f0 f1 f2 f3 po o0 o1 o2 o3 tt t0 NF GF TF OF NO GO TO OO DG nn fb U U.heap ∧ exZ U U.heap)) (va_Qi (fun (_ : Int32) (_ : Unit) => False) (fun _ _ => True) (fun _ => False)) (xN nsX) 1 6 (fun _ => False) := by
  refine vx_ofW (cc := cX1_clear) (maxL := 4) (ret := (some .boolean)) (by decide) rfl ?_
  intro p e s m args below meth c s₁ B hml htab hv
  obtain ⟨rfl, hO, hZ⟩ := hv
  obtain ⟨hP, hK, hE⟩ := id hO
  have hP : va_P (dC, dI) vwCl [(h, .inr (1, [.ref (cond fb pf po), .ref (cond fb po pf), .ref tt, .int (nI (nn))])), (pf, .inr (0, [.ref f0, .ref f1, .ref f2, .ref f3])), (f0, .inl (cD, 35, .inr (.inr (.inr (.inl (NF)))))), (f1, .inl (cZ, 35, .inl (GF))), (f2, .inl (cI, 30, .inl (TF))), (f3, .inl (cI, 6, .inl (OF))), (po, .inr (0, [.ref o0, .ref o1, .ref o2, .ref o3])), (o0, .inl (cD, 35, .inr (.inr (.inr (.inl (NO)))))), (o1, .inl (cZ, 35, .inl (GO))), (o2, .inl (cI, 30, .inl (TO))), (o3, .inl (cI, 6, .inl (OO))), (tt, .inr (3, [.ref t0])), (t0, .inl (cL, 42, .inr (.inl (DG))))] s.heap := hP
  have hN := hE.nest
  have hx := B.exec
  have hb := B.bytes
  have hr := B.returns
  have hts := atoms_spec (ws := wsX1_clear) B.pre
  have hown : s.vm.findClass RX1 = some m.cls := findClass_of_methodNamed B.named
  have hlocks := B.notSynchronized
  have hl := lv_entry ([.ref h, .int (nI (Bool.toNat (fb))), .int (nI (en)), .int (bv)]) (n := 4) (Nat.le_of_ble_eq_true rfl)
  rw [lg_entry_eq]
  generalize (lg_sl ([.ref h, .int (nI (Bool.toNat (fb))), .int (nI (en)), .int (bv)]) ++ List.replicate (4 - (lg_sl ([.ref h, .int (nI (Bool.toNat (fb))), .int (nI (en)), .int (bv)])).length) Slot.unset).toArray = ls at hl ⊢
  have hl : lv_has ls 4 [(0, .ref h), (1, .int (nI (Bool.toNat (fb)))), (2, .int (nI (en))), (3, .int (bv))] := hl
  refine lv_aload_n hx hb dX1_clear_0 rfl (lv_at hl 0 rfl) ?_
  refine lv_iload_n hx hb dX1_clear_1 rfl (lv_at hl 2 rfl) ?_
  refine va_csv (va_Run.run (va_runV (As := [.int (nI (en))]) (rest := []) ⟨hx, hb, hml, hown, hts⟩ (c_X1_requireEntryOrNone_ok l dC dI cD cZ cI cL h pf f0 f1 f2 f3 po o0 o1 o2 o3 tt t0 NF GF TF OF NO GO TO OO DG nn fb (en) (by omega) (by omega)) (cwV 1 hts gX1_clear_X1_requireEntryOrNone rfl rfl rfl (by decide +kernel) ⟨Nat.le_of_ble_eq_true rfl, Nat.le_of_ble_eq_true rfl⟩) (okJ_pre ⟨hP, hK, hE⟩) rfl rfl hl.1 rfl (lv_room (Nat.le_of_ble_eq_true rfl)) dX1_clear_2 ⟨Nat.zero_le _, Nat.zero_le _⟩)) (fun _ => ?_)
  refine lv_iload_n hx hb dX1_clear_5 rfl (lv_at hl 3 rfl) ?_
  refine vx_callv (vx_runS (As := [.int (bv)]) (rest := []) ⟨hx, hb, hml, hown, hts⟩ (t_X1_requireSeat l hst (bv) hbad) (va_cwS 1 hts gX1_clear_X1_requireSeat rfl rfl rfl (by decide +kernel) ⟨Nat.le_of_ble_eq_true rfl, Nat.le_of_ble_eq_true rfl⟩) (exX_pre hE hZ) rfl rfl hl.1 rfl (lv_room (Nat.le_of_ble_eq_true rfl)) dX1_clear_6 ⟨Nat.le_of_ble_eq_true rfl, Nat.le_of_ble_eq_true rfl⟩) (A0 := fun _ => False) (H0 := s.heap) va_S.rf (fun q _ h => h.elim) (fun q h => h.elim) (fun q _ h => h.elim) (fun E ce q9 u t H1 locs1 ht hvm hw hB hz1 hk1 hS1 hce hcv hcl => ?_) (fun u t H1 locs1 ht hvm hw hB hz1 hk1 hS1 => hw.elim)
  exact vx_out (fun x hx9 => (htab x hx9).elim) hlocks hce hcv hcl (fun t9 ht9 hvm9 => ⟨(), trivial, hB, by rw [ht9]; exact hz1, fun q h9 h8 => by rw [ht9]; exact hk1 q h9 h8⟩) hS1.2.2 (by decide) (by decide)
set_option maxHeartbeats 4000000 in
set_option maxRecDepth 100000 in
theorem t_X1_clear_t2N (l : Launch) (dC : Nat → ClassId) (dI : Nat → Nat → Nat) (cD cZ cI cL : ClassId) (h pf f0 f1 f2 f3 po o0 o1 o2 o3 tt t0 : Nat) (NF : Nat → UInt64) (GF TF OF : Nat → Int32) (NO : Nat → UInt64) (GO TO OO : Nat → Int32) (DG : Nat → Int64) (nn : Nat) (fb : Bool) (hst : l.stackTraces = false) (bv : Int32) (hbad : vB bv 5 = false) : vx_Met l yX1_clear wsX1_clear ({ frames := 7, cells := 1, slots := 6, locals := 102 }) (va_Pc [.ref h, .int (nI (Bool.toNat (fb))), .int (-1), .int (bv)] (fun U => okJ dC dI cD cZ cI cL h pf f0 f1 f2 f3 po o0 o1 o2 o3 tt t0 NF GF TF OF NO GO TO OO DG nn fb U U.heap ∧ exZ U U.heap)) (va_Qi (fun (_ : Int32) (_ : Unit) => False) (fun _ _ => True) (fun _ => False)) (xN nsX) 1 6 (fun _ => False) := by
  refine vx_ofW (cc := cX1_clear) (maxL := 4) (ret := (some .boolean)) (by decide) rfl ?_
  intro p e s m args below meth c s₁ B hml htab hv
  obtain ⟨rfl, hO, hZ⟩ := hv
  obtain ⟨hP, hK, hE⟩ := id hO
  have hP : va_P (dC, dI) vwCl [(h, .inr (1, [.ref (cond fb pf po), .ref (cond fb po pf), .ref tt, .int (nI (nn))])), (pf, .inr (0, [.ref f0, .ref f1, .ref f2, .ref f3])), (f0, .inl (cD, 35, .inr (.inr (.inr (.inl (NF)))))), (f1, .inl (cZ, 35, .inl (GF))), (f2, .inl (cI, 30, .inl (TF))), (f3, .inl (cI, 6, .inl (OF))), (po, .inr (0, [.ref o0, .ref o1, .ref o2, .ref o3])), (o0, .inl (cD, 35, .inr (.inr (.inr (.inl (NO)))))), (o1, .inl (cZ, 35, .inl (GO))), (o2, .inl (cI, 30, .inl (TO))), (o3, .inl (cI, 6, .inl (OO))), (tt, .inr (3, [.ref t0])), (t0, .inl (cL, 42, .inr (.inl (DG))))] s.heap := hP
  have hN := hE.nest
  have hx := B.exec
  have hb := B.bytes
  have hr := B.returns
  have hts := atoms_spec (ws := wsX1_clear) B.pre
  have hown : s.vm.findClass RX1 = some m.cls := findClass_of_methodNamed B.named
  have hlocks := B.notSynchronized
  have hl := lv_entry ([.ref h, .int (nI (Bool.toNat (fb))), .int (-1), .int (bv)]) (n := 4) (Nat.le_of_ble_eq_true rfl)
  rw [lg_entry_eq]
  generalize (lg_sl ([.ref h, .int (nI (Bool.toNat (fb))), .int (-1), .int (bv)]) ++ List.replicate (4 - (lg_sl ([.ref h, .int (nI (Bool.toNat (fb))), .int (-1), .int (bv)])).length) Slot.unset).toArray = ls at hl ⊢
  have hl : lv_has ls 4 [(0, .ref h), (1, .int (nI (Bool.toNat (fb)))), (2, .int (-1)), (3, .int (bv))] := hl
  refine lv_aload_n hx hb dX1_clear_0 rfl (lv_at hl 0 rfl) ?_
  refine lv_iload_n hx hb dX1_clear_1 rfl (lv_at hl 2 rfl) ?_
  refine va_csv (va_Run.run (va_runV (As := [.int (-1)]) (rest := []) ⟨hx, hb, hml, hown, hts⟩ (c_X1_requireEntryOrNone_okN l dC dI cD cZ cI cL h pf f0 f1 f2 f3 po o0 o1 o2 o3 tt t0 NF GF TF OF NO GO TO OO DG nn fb) (cwV 1 hts gX1_clear_X1_requireEntryOrNone rfl rfl rfl (by decide +kernel) ⟨Nat.le_of_ble_eq_true rfl, Nat.le_of_ble_eq_true rfl⟩) (okJ_pre ⟨hP, hK, hE⟩) rfl rfl hl.1 rfl (lv_room (Nat.le_of_ble_eq_true rfl)) dX1_clear_2 ⟨Nat.zero_le _, Nat.zero_le _⟩)) (fun _ => ?_)
  refine lv_iload_n hx hb dX1_clear_5 rfl (lv_at hl 3 rfl) ?_
  refine vx_callv (vx_runS (As := [.int (bv)]) (rest := []) ⟨hx, hb, hml, hown, hts⟩ (t_X1_requireSeat l hst (bv) hbad) (va_cwS 1 hts gX1_clear_X1_requireSeat rfl rfl rfl (by decide +kernel) ⟨Nat.le_of_ble_eq_true rfl, Nat.le_of_ble_eq_true rfl⟩) (exX_pre hE hZ) rfl rfl hl.1 rfl (lv_room (Nat.le_of_ble_eq_true rfl)) dX1_clear_6 ⟨Nat.le_of_ble_eq_true rfl, Nat.le_of_ble_eq_true rfl⟩) (A0 := fun _ => False) (H0 := s.heap) va_S.rf (fun q _ h => h.elim) (fun q h => h.elim) (fun q _ h => h.elim) (fun E ce q9 u t H1 locs1 ht hvm hw hB hz1 hk1 hS1 hce hcv hcl => ?_) (fun u t H1 locs1 ht hvm hw hB hz1 hk1 hS1 => hw.elim)
  exact vx_out (fun x hx9 => (htab x hx9).elim) hlocks hce hcv hcl (fun t9 ht9 hvm9 => ⟨(), trivial, hB, by rw [ht9]; exact hz1, fun q h9 h8 => by rw [ht9]; exact hk1 q h9 h8⟩) hS1.2.2 (by decide) (by decide)
set_option maxHeartbeats 4000000 in
set_option maxRecDepth 100000 in
theorem t_X1_told_t1 (l : Launch) (dC : Nat → ClassId) (dI : Nat → Nat → Nat) (cD cZ cI cL : ClassId) (h pf f0 f1 f2 f3 po o0 o1 o2 o3 tt t0 : Nat) (NF : Nat → UInt64) (GF TF OF : Nat → Int32) (NO : Nat → UInt64) (GO TO OO : Nat → Int32) (DG : Nat → Int64) (nn : Nat) (fb : Bool) (hst : l.stackTraces = false) (ev bv : Int32) (hbad : vB ev nn = false) (hne : ¬ ev = (-1)) : vx_Met l yX1_told wsX1_told ({ frames := 8, cells := 1, slots := 6, locals := 124 }) (va_Pc [.ref h, .int (nI (Bool.toNat (fb))), .int (ev), .int (bv)] (fun U => okJ dC dI cD cZ cI cL h pf f0 f1 f2 f3 po o0 o1 o2 o3 tt t0 NF GF TF OF NO GO TO OO DG nn fb U U.heap ∧ exZ U U.heap)) (va_Ql (fun (_ : Int64) (_ : Unit) => False) (fun _ _ => True) (fun _ => False)) (xN nsX) 1 6 (fun _ => False) := by
  refine vx_ofW (cc := cX1_told) (maxL := 6) (ret := (some .long)) (by decide) rfl ?_
  intro p e s m args below meth c s₁ B hml htab hv
  obtain ⟨rfl, hO, hZ⟩ := hv
  obtain ⟨hP, hK, hE⟩ := id hO
  have hP : va_P (dC, dI) vwCl [(h, .inr (1, [.ref (cond fb pf po), .ref (cond fb po pf), .ref tt, .int (nI (nn))])), (pf, .inr (0, [.ref f0, .ref f1, .ref f2, .ref f3])), (f0, .inl (cD, 35, .inr (.inr (.inr (.inl (NF)))))), (f1, .inl (cZ, 35, .inl (GF))), (f2, .inl (cI, 30, .inl (TF))), (f3, .inl (cI, 6, .inl (OF))), (po, .inr (0, [.ref o0, .ref o1, .ref o2, .ref o3])), (o0, .inl (cD, 35, .inr (.inr (.inr (.inl (NO)))))), (o1, .inl (cZ, 35, .inl (GO))), (o2, .inl (cI, 30, .inl (TO))), (o3, .inl (cI, 6, .inl (OO))), (tt, .inr (3, [.ref t0])), (t0, .inl (cL, 42, .inr (.inl (DG))))] s.heap := hP
  have hN := hE.nest
  have hx := B.exec
  have hb := B.bytes
  have hr := B.returns
  have hts := atoms_spec (ws := wsX1_told) B.pre
  have hown : s.vm.findClass RX1 = some m.cls := findClass_of_methodNamed B.named
  have hlocks := B.notSynchronized
  have hl := lv_entry ([.ref h, .int (nI (Bool.toNat (fb))), .int (ev), .int (bv)]) (n := 6) (Nat.le_of_ble_eq_true rfl)
  rw [lg_entry_eq]
  generalize (lg_sl ([.ref h, .int (nI (Bool.toNat (fb))), .int (ev), .int (bv)]) ++ List.replicate (6 - (lg_sl ([.ref h, .int (nI (Bool.toNat (fb))), .int (ev), .int (bv)])).length) Slot.unset).toArray = ls at hl ⊢
  have hl : lv_has ls 6 [(0, .ref h), (1, .int (nI (Bool.toNat (fb)))), (2, .int (ev)), (3, .int (bv))] := hl
  refine lv_aload_n hx hb dX1_told_0 rfl (lv_at hl 0 rfl) ?_
  refine lv_iload_n hx hb dX1_told_1 rfl (lv_at hl 2 rfl) ?_
  refine vx_callv (vx_runV (As := [.int (ev)]) (rest := []) ⟨hx, hb, hml, hown, hts⟩ (t_X1_requireEntryOrNone l dC dI cD cZ cI cL h pf f0 f1 f2 f3 po o0 o1 o2 o3 tt t0 NF GF TF OF NO GO TO OO DG nn fb hst (ev) hbad hne) (cwV 1 hts gX1_told_X1_requireEntryOrNone rfl rfl rfl (by decide +kernel) ⟨Nat.le_of_ble_eq_true rfl, Nat.le_of_ble_eq_true rfl⟩) (okJX_pre ⟨hP, hK, hE⟩ hZ) rfl rfl hl.1 rfl (lv_room (Nat.le_of_ble_eq_true rfl)) dX1_told_2 ⟨Nat.le_of_ble_eq_true rfl, Nat.le_of_ble_eq_true rfl⟩) (A0 := fun _ => False) (H0 := s.heap) va_S.rf (fun q _ h => h.elim) (fun q h => h.elim) (fun q _ h => h.elim) (fun E ce q9 u t H1 locs1 ht hvm hw hB hz1 hk1 hS1 hce hcv hcl => ?_) (fun u t H1 locs1 ht hvm hw hB hz1 hk1 hS1 => hw.elim)
  exact vx_out (fun x hx9 => (htab x hx9).elim) hlocks hce hcv hcl (fun t9 ht9 hvm9 => ⟨(), trivial, hB, by rw [ht9]; exact hz1, fun q h9 h8 => by rw [ht9]; exact hk1 q h9 h8⟩) hS1.2.2 (by decide) (by decide)
set_option maxHeartbeats 4000000 in
set_option maxRecDepth 100000 in
theorem t_X1_told_t2 (l : Launch) (dC : Nat → ClassId) (dI : Nat → Nat → Nat) (cD cZ cI cL : ClassId) (h pf f0 f1 f2 f3 po o0 o1 o2 o3 tt t0 : Nat) (NF : Nat → UInt64) (GF TF OF : Nat → Int32) (NO : Nat → UInt64) (GO TO OO : Nat → Int32) (DG : Nat → Int64) (nn : Nat) (fb : Bool) (hst : l.stackTraces = false) (hnn : nn ≤ 6) (en : Nat) (bv : Int32) (hen : en < nn) (hbad : vB bv 5 = false) : vx_Met l yX1_told wsX1_told ({ frames := 7, cells := 1, slots := 6, locals := 102 }) (va_Pc [.ref h, .int (nI (Bool.toNat (fb))), .int (nI (en)), .int (bv)] (fun U => okJ dC dI cD cZ cI cL h pf f0 f1 f2 f3 po o0 o1 o2 o3 tt t0 NF GF TF OF NO GO TO OO DG nn fb U U.heap ∧ exZ U U.heap)) (va_Ql (fun (_ : Int64) (_ : Unit) => False) (fun _ _ => True) (fun _ => False)) (xN nsX) 1 6 (fun _ => False) := by
  refine vx_ofW (cc := cX1_told) (maxL := 6) (ret := (some .long)) (by decide) rfl ?_
  intro p e s m args below meth c s₁ B hml htab hv
  obtain ⟨rfl, hO, hZ⟩ := hv
  obtain ⟨hP, hK, hE⟩ := id hO
  have hP : va_P (dC, dI) vwCl [(h, .inr (1, [.ref (cond fb pf po), .ref (cond fb po pf), .ref tt, .int (nI (nn))])), (pf, .inr (0, [.ref f0, .ref f1, .ref f2, .ref f3])), (f0, .inl (cD, 35, .inr (.inr (.inr (.inl (NF)))))), (f1, .inl (cZ, 35, .inl (GF))), (f2, .inl (cI, 30, .inl (TF))), (f3, .inl (cI, 6, .inl (OF))), (po, .inr (0, [.ref o0, .ref o1, .ref o2, .ref o3])), (o0, .inl (cD, 35, .inr (.inr (.inr (.inl (NO)))))), (o1, .inl (cZ, 35, .inl (GO))), (o2, .inl (cI, 30, .inl (TO))), (o3, .inl (cI, 6, .inl (OO))), (tt, .inr (3, [.ref t0])), (t0, .inl (cL, 42, .inr (.inl (DG))))] s.heap := hP
  have hN := hE.nest
  have hx := B.exec
  have hb := B.bytes
  have hr := B.returns
  have hts := atoms_spec (ws := wsX1_told) B.pre
  have hown : s.vm.findClass RX1 = some m.cls := findClass_of_methodNamed B.named
  have hlocks := B.notSynchronized
  have hl := lv_entry ([.ref h, .int (nI (Bool.toNat (fb))), .int (nI (en)), .int (bv)]) (n := 6) (Nat.le_of_ble_eq_true rfl)
  rw [lg_entry_eq]
  generalize (lg_sl ([.ref h, .int (nI (Bool.toNat (fb))), .int (nI (en)), .int (bv)]) ++ List.replicate (6 - (lg_sl ([.ref h, .int (nI (Bool.toNat (fb))), .int (nI (en)), .int (bv)])).length) Slot.unset).toArray = ls at hl ⊢
  have hl : lv_has ls 6 [(0, .ref h), (1, .int (nI (Bool.toNat (fb)))), (2, .int (nI (en))), (3, .int (bv))] := hl
  refine lv_aload_n hx hb dX1_told_0 rfl (lv_at hl 0 rfl) ?_
  refine lv_iload_n hx hb dX1_told_1 rfl (lv_at hl 2 rfl) ?_
  refine va_csv (va_Run.run (va_runV (As := [.int (nI (en))]) (rest := []) ⟨hx, hb, hml, hown, hts⟩ (c_X1_requireEntryOrNone_ok l dC dI cD cZ cI cL h pf f0 f1 f2 f3 po o0 o1 o2 o3 tt t0 NF GF TF OF NO GO TO OO DG nn fb (en) (by omega) (by omega)) (cwV 1 hts gX1_told_X1_requireEntryOrNone rfl rfl rfl (by decide +kernel) ⟨Nat.le_of_ble_eq_true rfl, Nat.le_of_ble_eq_true rfl⟩) (okJ_pre ⟨hP, hK, hE⟩) rfl rfl hl.1 rfl (lv_room (Nat.le_of_ble_eq_true rfl)) dX1_told_2 ⟨Nat.zero_le _, Nat.zero_le _⟩)) (fun _ => ?_)
  refine lv_iload_n hx hb dX1_told_5 rfl (lv_at hl 3 rfl) ?_
  refine vx_callv (vx_runS (As := [.int (bv)]) (rest := []) ⟨hx, hb, hml, hown, hts⟩ (t_X1_requireSeat l hst (bv) hbad) (va_cwS 1 hts gX1_told_X1_requireSeat rfl rfl rfl (by decide +kernel) ⟨Nat.le_of_ble_eq_true rfl, Nat.le_of_ble_eq_true rfl⟩) (exX_pre hE hZ) rfl rfl hl.1 rfl (lv_room (Nat.le_of_ble_eq_true rfl)) dX1_told_6 ⟨Nat.le_of_ble_eq_true rfl, Nat.le_of_ble_eq_true rfl⟩) (A0 := fun _ => False) (H0 := s.heap) va_S.rf (fun q _ h => h.elim) (fun q h => h.elim) (fun q _ h => h.elim) (fun E ce q9 u t H1 locs1 ht hvm hw hB hz1 hk1 hS1 hce hcv hcl => ?_) (fun u t H1 locs1 ht hvm hw hB hz1 hk1 hS1 => hw.elim)
  exact vx_out (fun x hx9 => (htab x hx9).elim) hlocks hce hcv hcl (fun t9 ht9 hvm9 => ⟨(), trivial, hB, by rw [ht9]; exact hz1, fun q h9 h8 => by rw [ht9]; exact hk1 q h9 h8⟩) hS1.2.2 (by decide) (by decide)
set_option maxHeartbeats 4000000 in
set_option maxRecDepth 100000 in
theorem t_X1_told_t2N (l : Launch) (dC : Nat → ClassId) (dI : Nat → Nat → Nat) (cD cZ cI cL : ClassId) (h pf f0 f1 f2 f3 po o0 o1 o2 o3 tt t0 : Nat) (NF : Nat → UInt64) (GF TF OF : Nat → Int32) (NO : Nat → UInt64) (GO TO OO : Nat → Int32) (DG : Nat → Int64) (nn : Nat) (fb : Bool) (hst : l.stackTraces = false) (bv : Int32) (hbad : vB bv 5 = false) : vx_Met l yX1_told wsX1_told ({ frames := 7, cells := 1, slots := 6, locals := 102 }) (va_Pc [.ref h, .int (nI (Bool.toNat (fb))), .int (-1), .int (bv)] (fun U => okJ dC dI cD cZ cI cL h pf f0 f1 f2 f3 po o0 o1 o2 o3 tt t0 NF GF TF OF NO GO TO OO DG nn fb U U.heap ∧ exZ U U.heap)) (va_Ql (fun (_ : Int64) (_ : Unit) => False) (fun _ _ => True) (fun _ => False)) (xN nsX) 1 6 (fun _ => False) := by
  refine vx_ofW (cc := cX1_told) (maxL := 6) (ret := (some .long)) (by decide) rfl ?_
  intro p e s m args below meth c s₁ B hml htab hv
  obtain ⟨rfl, hO, hZ⟩ := hv
  obtain ⟨hP, hK, hE⟩ := id hO
  have hP : va_P (dC, dI) vwCl [(h, .inr (1, [.ref (cond fb pf po), .ref (cond fb po pf), .ref tt, .int (nI (nn))])), (pf, .inr (0, [.ref f0, .ref f1, .ref f2, .ref f3])), (f0, .inl (cD, 35, .inr (.inr (.inr (.inl (NF)))))), (f1, .inl (cZ, 35, .inl (GF))), (f2, .inl (cI, 30, .inl (TF))), (f3, .inl (cI, 6, .inl (OF))), (po, .inr (0, [.ref o0, .ref o1, .ref o2, .ref o3])), (o0, .inl (cD, 35, .inr (.inr (.inr (.inl (NO)))))), (o1, .inl (cZ, 35, .inl (GO))), (o2, .inl (cI, 30, .inl (TO))), (o3, .inl (cI, 6, .inl (OO))), (tt, .inr (3, [.ref t0])), (t0, .inl (cL, 42, .inr (.inl (DG))))] s.heap := hP
  have hN := hE.nest
  have hx := B.exec
  have hb := B.bytes
  have hr := B.returns
  have hts := atoms_spec (ws := wsX1_told) B.pre
  have hown : s.vm.findClass RX1 = some m.cls := findClass_of_methodNamed B.named
  have hlocks := B.notSynchronized
  have hl := lv_entry ([.ref h, .int (nI (Bool.toNat (fb))), .int (-1), .int (bv)]) (n := 6) (Nat.le_of_ble_eq_true rfl)
  rw [lg_entry_eq]
  generalize (lg_sl ([.ref h, .int (nI (Bool.toNat (fb))), .int (-1), .int (bv)]) ++ List.replicate (6 - (lg_sl ([.ref h, .int (nI (Bool.toNat (fb))), .int (-1), .int (bv)])).length) Slot.unset).toArray = ls at hl ⊢
  have hl : lv_has ls 6 [(0, .ref h), (1, .int (nI (Bool.toNat (fb)))), (2, .int (-1)), (3, .int (bv))] := hl
  refine lv_aload_n hx hb dX1_told_0 rfl (lv_at hl 0 rfl) ?_
  refine lv_iload_n hx hb dX1_told_1 rfl (lv_at hl 2 rfl) ?_
  refine va_csv (va_Run.run (va_runV (As := [.int (-1)]) (rest := []) ⟨hx, hb, hml, hown, hts⟩ (c_X1_requireEntryOrNone_okN l dC dI cD cZ cI cL h pf f0 f1 f2 f3 po o0 o1 o2 o3 tt t0 NF GF TF OF NO GO TO OO DG nn fb) (cwV 1 hts gX1_told_X1_requireEntryOrNone rfl rfl rfl (by decide +kernel) ⟨Nat.le_of_ble_eq_true rfl, Nat.le_of_ble_eq_true rfl⟩) (okJ_pre ⟨hP, hK, hE⟩) rfl rfl hl.1 rfl (lv_room (Nat.le_of_ble_eq_true rfl)) dX1_told_2 ⟨Nat.zero_le _, Nat.zero_le _⟩)) (fun _ => ?_)
  refine lv_iload_n hx hb dX1_told_5 rfl (lv_at hl 3 rfl) ?_
  refine vx_callv (vx_runS (As := [.int (bv)]) (rest := []) ⟨hx, hb, hml, hown, hts⟩ (t_X1_requireSeat l hst (bv) hbad) (va_cwS 1 hts gX1_told_X1_requireSeat rfl rfl rfl (by decide +kernel) ⟨Nat.le_of_ble_eq_true rfl, Nat.le_of_ble_eq_true rfl⟩) (exX_pre hE hZ) rfl rfl hl.1 rfl (lv_room (Nat.le_of_ble_eq_true rfl)) dX1_told_6 ⟨Nat.le_of_ble_eq_true rfl, Nat.le_of_ble_eq_true rfl⟩) (A0 := fun _ => False) (H0 := s.heap) va_S.rf (fun q _ h => h.elim) (fun q h => h.elim) (fun q _ h => h.elim) (fun E ce q9 u t H1 locs1 ht hvm hw hB hz1 hk1 hS1 hce hcv hcl => ?_) (fun u t H1 locs1 ht hvm hw hB hz1 hk1 hS1 => hw.elim)
  exact vx_out (fun x hx9 => (htab x hx9).elim) hlocks hce hcv hcl (fun t9 ht9 hvm9 => ⟨(), trivial, hB, by rw [ht9]; exact hz1, fun q h9 h8 => by rw [ht9]; exact hk1 q h9 h8⟩) hS1.2.2 (by decide) (by decide)
set_option maxHeartbeats 4000000 in
set_option maxRecDepth 100000 in
theorem t_X1_told_te (l : Launch) (dC : Nat → ClassId) (dI : Nat → Nat → Nat) (cD cZ cI cL : ClassId) (h pf f0 f1 f2 f3 po o0 o1 o2 o3 tt t0 : Nat) (NF : Nat → UInt64) (GF TF OF : Nat → Int32) (NO : Nat → UInt64) (GO TO OO : Nat → Int32) (DG : Nat → Int64) (nn : Nat) (fb : Bool) (hst : l.stackTraces = false) (hnn : nn ≤ 6) (en bn : Nat) (hen : en < nn) (hbn : bn < 5) (hG : ∀ j, GF j = 0 ∨ GF j = 1) (hth : GF (en * 5 + bn) = 0) : vx_Met l yX1_told wsX1_told ({ frames := 6, cells := 1, slots := 6, locals := 82 }) (va_Pc [.ref h, .int (nI (Bool.toNat (fb))), .int (nI (en)), .int (nI (bn))] (fun U => okJ dC dI cD cZ cI cL h pf f0 f1 f2 f3 po o0 o1 o2 o3 tt t0 NF GF TF OF NO GO TO OO DG nn fb U U.heap ∧ exZ U U.heap)) (va_Ql (fun (_ : Int64) (_ : Unit) => False) (fun _ _ => True) (fun _ => False)) (xN isX) 1 6 (fun _ => False) := by
  refine vx_ofW (cc := cX1_told) (maxL := 6) (ret := (some .long)) (by decide) rfl ?_
  intro p e s m args below meth c s₁ B hml htab hv
  obtain ⟨rfl, hO, hZ⟩ := hv
  obtain ⟨hP, hK, hE⟩ := id hO
  have hP : va_P (dC, dI) vwCl [(h, .inr (1, [.ref (cond fb pf po), .ref (cond fb po pf), .ref tt, .int (nI (nn))])), (pf, .inr (0, [.ref f0, .ref f1, .ref f2, .ref f3])), (f0, .inl (cD, 35, .inr (.inr (.inr (.inl (NF)))))), (f1, .inl (cZ, 35, .inl (GF))), (f2, .inl (cI, 30, .inl (TF))), (f3, .inl (cI, 6, .inl (OF))), (po, .inr (0, [.ref o0, .ref o1, .ref o2, .ref o3])), (o0, .inl (cD, 35, .inr (.inr (.inr (.inl (NO)))))), (o1, .inl (cZ, 35, .inl (GO))), (o2, .inl (cI, 30, .inl (TO))), (o3, .inl (cI, 6, .inl (OO))), (tt, .inr (3, [.ref t0])), (t0, .inl (cL, 42, .inr (.inl (DG))))] s.heap := hP
  have hN := hE.nest
  have hx := B.exec
  have hb := B.bytes
  have hr := B.returns
  have hts := atoms_spec (ws := wsX1_told) B.pre
  have hown : s.vm.findClass RX1 = some m.cls := findClass_of_methodNamed B.named
  have hlocks := B.notSynchronized
  have hl := lv_entry ([.ref h, .int (nI (Bool.toNat (fb))), .int (nI (en)), .int (nI (bn))]) (n := 6) (Nat.le_of_ble_eq_true rfl)
  rw [lg_entry_eq]
  generalize (lg_sl ([.ref h, .int (nI (Bool.toNat (fb))), .int (nI (en)), .int (nI (bn))]) ++ List.replicate (6 - (lg_sl ([.ref h, .int (nI (Bool.toNat (fb))), .int (nI (en)), .int (nI (bn))])).length) Slot.unset).toArray = ls at hl ⊢
  have hl : lv_has ls 6 [(0, .ref h), (1, .int (nI (Bool.toNat (fb)))), (2, .int (nI (en))), (3, .int (nI (bn)))] := hl
  refine lv_aload_n hx hb dX1_told_0 rfl (lv_at hl 0 rfl) ?_
  refine lv_iload_n hx hb dX1_told_1 rfl (lv_at hl 2 rfl) ?_
  refine va_csv (va_Run.run (va_runV (As := [.int (nI (en))]) (rest := []) ⟨hx, hb, hml, hown, hts⟩ (c_X1_requireEntryOrNone_ok l dC dI cD cZ cI cL h pf f0 f1 f2 f3 po o0 o1 o2 o3 tt t0 NF GF TF OF NO GO TO OO DG nn fb (en) (by omega) (by omega)) (cwV 1 hts gX1_told_X1_requireEntryOrNone rfl rfl rfl (by decide +kernel) ⟨Nat.le_of_ble_eq_true rfl, Nat.le_of_ble_eq_true rfl⟩) (okJ_pre ⟨hP, hK, hE⟩) rfl rfl hl.1 rfl (lv_room (Nat.le_of_ble_eq_true rfl)) dX1_told_2 ⟨Nat.zero_le _, Nat.zero_le _⟩)) (fun _ => ?_)
  refine lv_iload_n hx hb dX1_told_5 rfl (lv_at hl 3 rfl) ?_
  refine va_csv (va_Run.run (va_runS (As := [.int (nI (bn))]) (rest := []) ⟨hx, hb, hml, hown, hts⟩ (c_X1_requireSeat_ok l (bn) (by omega)) (va_cwS 1 hts gX1_told_X1_requireSeat rfl rfl rfl (by decide +kernel) ⟨Nat.le_of_ble_eq_true rfl, Nat.le_of_ble_eq_true rfl⟩) preT rfl rfl hl.1 rfl (lv_room (Nat.le_of_ble_eq_true rfl)) dX1_told_6 ⟨Nat.zero_le _, Nat.zero_le _⟩)) (fun _ => ?_)
  refine lv_iload_n hx hb dX1_told_9 rfl (lv_at hl 2 rfl) ?_
  refine vp_callSi (va_Run.run (va_runS (As := [.int (nI (en))]) (rest := []) ⟨hx, hb, hml, hown, hts⟩ (c_X1_rowOf_ok l (en) (by omega)) (va_cwS 1 hts gX1_told_X1_rowOf rfl rfl rfl (by decide +kernel) ⟨Nat.le_of_ble_eq_true rfl, Nat.le_of_ble_eq_true rfl⟩) preT rfl rfl hl.1 rfl (lv_room (Nat.le_of_ble_eq_true rfl)) dX1_told_10 ⟨Nat.zero_le _, Nat.zero_le _⟩)) (fun r3 er3 => ?_)
  subst er3
  refine lv_iload_n hx hb dX1_told_13 rfl (lv_at hl 3 rfl) ?_
  refine vp_callSi (va_Run.run (va_runS (As := [.int (nI (en)), .int (nI (bn))]) (rest := []) ⟨hx, hb, hml, hown, hts⟩ (c_X1_cellOf l (en) (bn)) (va_cwS 2 hts gX1_told_X1_cellOf rfl rfl rfl (by decide +kernel) ⟨Nat.le_of_ble_eq_true rfl, Nat.le_of_ble_eq_true rfl⟩) preT rfl rfl hl.1 rfl (lv_room (Nat.le_of_ble_eq_true rfl)) dX1_told_14 ⟨Nat.zero_le _, Nat.zero_le _⟩)) (fun r4 er4 => ?_)
  subst er4
  refine lv_istore (lv' := [(4, .int (nI (en * 5 + bn))), (0, .ref h), (1, .int (nI (Bool.toNat (fb)))), (2, .int (nI (en))), (3, .int (nI (bn)))]) hx hb dX1_told_17 hl (by decide) rfl (fun ls hl => ?_)
  refine lv_aload_n hx hb dX1_told_19 rfl (lv_at hl 1 rfl) ?_
  refine lv_iload_n hx hb dX1_told_20 rfl (lv_at hl 2 rfl) ?_
  refine va_csr (va_Run.run (va_runV (As := [.int (nI (Bool.toNat (fb)))]) (rest := []) ⟨hx, hb, hml, hown, hts⟩ (c_X1_panel l dC dI cD cZ cI cL h pf f0 f1 f2 f3 po o0 o1 o2 o3 tt t0 NF GF TF OF NO GO TO OO DG nn fb) (cwV 1 hts gX1_told_X1_panel rfl rfl rfl (by decide +kernel) ⟨Nat.le_of_ble_eq_true rfl, Nat.le_of_ble_eq_true rfl⟩) (okJ_pre ⟨hP, hK, hE⟩) rfl rfl hl.1 rfl (lv_room (Nat.le_of_ble_eq_true rfl)) dX1_told_21 ⟨Nat.zero_le _, Nat.zero_le _⟩)) (fun r5 er5 => ?_)
  subst er5
  refine W.eq (g2 := F0 m 24 ls [.ref pf]) rfl ?_
  refine lv_astore (lv' := [(5, .ref pf), (4, .int (nI (en * 5 + bn))), (0, .ref h), (1, .int (nI (Bool.toNat (fb)))), (2, .int (nI (en))), (3, .int (nI (bn)))]) hx hb dX1_told_24 hl (by decide) rfl (fun ls hl => ?_)
  refine lv_aload hx hb dX1_told_26 (lv_at hl 0 rfl) ?_
  refine lv_iload hx hb dX1_told_28 (lv_at hl 1 rfl) ?_
  refine vp_callSi (va_Run.run (va_runV (As := [.int (nI (en * 5 + bn))]) (rest := []) ⟨hx, hb, hml, hown, hts⟩ (c_X0_isNumber l dC dI cD cZ cI cL pf f0 f1 f2 f3 NF GF TF OF (en * 5 + bn) (by omega) hG) (cwV 1 hts gX1_told_X0_isNumber rfl rfl rfl (by decide +kernel) ⟨Nat.le_of_ble_eq_true rfl, Nat.le_of_ble_eq_true rfl⟩) (okP_pre ⟨hP.sub (ws' := [(pf, .inr (0, [.ref f0, .ref f1, .ref f2, .ref f3])), (f0, .inl (cD, 35, .inr (.inr (.inr (.inl (NF)))))), (f1, .inl (cZ, 35, .inl (GF))), (f2, .inl (cI, 30, .inl (TF))), (f3, .inl (cI, 6, .inl (OF)))]) [1, 2, 3, 4, 5] rfl, hK, hN⟩) rfl rfl hl.1 rfl (lv_room (Nat.le_of_ble_eq_true rfl)) dX1_told_30 ⟨Nat.zero_le _, Nat.zero_le _⟩)) (fun r6 er6 => ?_)
  subst er6
  refine lv_if_ne (tgt := 46) hx hb dX1_told_33 (by decide) (fun q => absurd q (fun z => z hth)) (fun _ => ?_)
  obtain ⟨-, -, -, -, ⟨sa, hsa⟩, -⟩ := id hE
  exact vx_throwS hx hb hst (own := RX1) (cls := isX) (text := "it is NONE") (names := [rtX, exX]) (ik := 30) (is := 105) (ic := 34) (sa := sa) (A := fun _ => False) hown (by decide +kernel) (by decide +kernel) (hts (.classLink RX1 30 isX) (by decide +kernel)) (hts (.initialized isX) (by decide +kernel)) hsa (hatIS hE (fun w h => hts w ((fun w h => List.mem_cons_of_mem _ (List.mem_append_left _ (List.mem_append_right _ h))) w h))) otIS hZ.1 hZ.2 va_S.rf (hl.1.trans hml.symm) dX1_told_36 dX1_told_39 dX1_told_40 dX1_told_42 dX1_told_45 (fun x hx9 => (htab x hx9).elim) (Nat.le_of_ble_eq_true rfl) (Nat.le_of_ble_eq_true rfl) (Nat.le_of_ble_eq_true rfl) (Nat.le_of_ble_eq_true rfl) hlocks (fun t hvm h1 h2 => xN_of rfl h1 h2) (fun z hz => absurd hz List.not_mem_nil) (by decide) (by decide)
set_option maxHeartbeats 4000000 in
set_option maxRecDepth 100000 in
theorem t_X1_told_teN (l : Launch) (dC : Nat → ClassId) (dI : Nat → Nat → Nat) (cD cZ cI cL : ClassId) (h pf f0 f1 f2 f3 po o0 o1 o2 o3 tt t0 : Nat) (NF : Nat → UInt64) (GF TF OF : Nat → Int32) (NO : Nat → UInt64) (GO TO OO : Nat → Int32) (DG : Nat → Int64) (nn : Nat) (fb : Bool) (hst : l.stackTraces = false) (bn : Nat) (hbn : bn < 5) (hG : ∀ j, GF j = 0 ∨ GF j = 1) (hth : GF (6 * 5 + bn) = 0) : vx_Met l yX1_told wsX1_told ({ frames := 6, cells := 1, slots := 6, locals := 82 }) (va_Pc [.ref h, .int (nI (Bool.toNat (fb))), .int (-1), .int (nI (bn))] (fun U => okJ dC dI cD cZ cI cL h pf f0 f1 f2 f3 po o0 o1 o2 o3 tt t0 NF GF TF OF NO GO TO OO DG nn fb U U.heap ∧ exZ U U.heap)) (va_Ql (fun (_ : Int64) (_ : Unit) => False) (fun _ _ => True) (fun _ => False)) (xN isX) 1 6 (fun _ => False) := by
  refine vx_ofW (cc := cX1_told) (maxL := 6) (ret := (some .long)) (by decide) rfl ?_
  intro p e s m args below meth c s₁ B hml htab hv
  obtain ⟨rfl, hO, hZ⟩ := hv
  obtain ⟨hP, hK, hE⟩ := id hO
  have hP : va_P (dC, dI) vwCl [(h, .inr (1, [.ref (cond fb pf po), .ref (cond fb po pf), .ref tt, .int (nI (nn))])), (pf, .inr (0, [.ref f0, .ref f1, .ref f2, .ref f3])), (f0, .inl (cD, 35, .inr (.inr (.inr (.inl (NF)))))), (f1, .inl (cZ, 35, .inl (GF))), (f2, .inl (cI, 30, .inl (TF))), (f3, .inl (cI, 6, .inl (OF))), (po, .inr (0, [.ref o0, .ref o1, .ref o2, .ref o3])), (o0, .inl (cD, 35, .inr (.inr (.inr (.inl (NO)))))), (o1, .inl (cZ, 35, .inl (GO))), (o2, .inl (cI, 30, .inl (TO))), (o3, .inl (cI, 6, .inl (OO))), (tt, .inr (3, [.ref t0])), (t0, .inl (cL, 42, .inr (.inl (DG))))] s.heap := hP
  have hN := hE.nest
  have hx := B.exec
  have hb := B.bytes
  have hr := B.returns
  have hts := atoms_spec (ws := wsX1_told) B.pre
  have hown : s.vm.findClass RX1 = some m.cls := findClass_of_methodNamed B.named
  have hlocks := B.notSynchronized
  have hl := lv_entry ([.ref h, .int (nI (Bool.toNat (fb))), .int (-1), .int (nI (bn))]) (n := 6) (Nat.le_of_ble_eq_true rfl)
  rw [lg_entry_eq]
  generalize (lg_sl ([.ref h, .int (nI (Bool.toNat (fb))), .int (-1), .int (nI (bn))]) ++ List.replicate (6 - (lg_sl ([.ref h, .int (nI (Bool.toNat (fb))), .int (-1), .int (nI (bn))])).length) Slot.unset).toArray = ls at hl ⊢
  have hl : lv_has ls 6 [(0, .ref h), (1, .int (nI (Bool.toNat (fb)))), (2, .int (-1)), (3, .int (nI (bn)))] := hl
  refine lv_aload_n hx hb dX1_told_0 rfl (lv_at hl 0 rfl) ?_
  refine lv_iload_n hx hb dX1_told_1 rfl (lv_at hl 2 rfl) ?_
  refine va_csv (va_Run.run (va_runV (As := [.int (-1)]) (rest := []) ⟨hx, hb, hml, hown, hts⟩ (c_X1_requireEntryOrNone_okN l dC dI cD cZ cI cL h pf f0 f1 f2 f3 po o0 o1 o2 o3 tt t0 NF GF TF OF NO GO TO OO DG nn fb) (cwV 1 hts gX1_told_X1_requireEntryOrNone rfl rfl rfl (by decide +kernel) ⟨Nat.le_of_ble_eq_true rfl, Nat.le_of_ble_eq_true rfl⟩) (okJ_pre ⟨hP, hK, hE⟩) rfl rfl hl.1 rfl (lv_room (Nat.le_of_ble_eq_true rfl)) dX1_told_2 ⟨Nat.zero_le _, Nat.zero_le _⟩)) (fun _ => ?_)
  refine lv_iload_n hx hb dX1_told_5 rfl (lv_at hl 3 rfl) ?_
  refine va_csv (va_Run.run (va_runS (As := [.int (nI (bn))]) (rest := []) ⟨hx, hb, hml, hown, hts⟩ (c_X1_requireSeat_ok l (bn) (by omega)) (va_cwS 1 hts gX1_told_X1_requireSeat rfl rfl rfl (by decide +kernel) ⟨Nat.le_of_ble_eq_true rfl, Nat.le_of_ble_eq_true rfl⟩) preT rfl rfl hl.1 rfl (lv_room (Nat.le_of_ble_eq_true rfl)) dX1_told_6 ⟨Nat.zero_le _, Nat.zero_le _⟩)) (fun _ => ?_)
  refine lv_iload_n hx hb dX1_told_9 rfl (lv_at hl 2 rfl) ?_
  refine vp_callSi (va_Run.run (va_runS (As := [.int (-1)]) (rest := []) ⟨hx, hb, hml, hown, hts⟩ (c_X1_rowOf_okN l) (va_cwS 1 hts gX1_told_X1_rowOf rfl rfl rfl (by decide +kernel) ⟨Nat.le_of_ble_eq_true rfl, Nat.le_of_ble_eq_true rfl⟩) preT rfl rfl hl.1 rfl (lv_room (Nat.le_of_ble_eq_true rfl)) dX1_told_10 ⟨Nat.zero_le _, Nat.zero_le _⟩)) (fun r3 er3 => ?_)
  subst er3
  refine lv_iload_n hx hb dX1_told_13 rfl (lv_at hl 3 rfl) ?_
  refine vp_callSi (va_Run.run (va_runS (As := [.int (nI (6)), .int (nI (bn))]) (rest := []) ⟨hx, hb, hml, hown, hts⟩ (c_X1_cellOf l (6) (bn)) (va_cwS 2 hts gX1_told_X1_cellOf rfl rfl rfl (by decide +kernel) ⟨Nat.le_of_ble_eq_true rfl, Nat.le_of_ble_eq_true rfl⟩) preT rfl rfl hl.1 rfl (lv_room (Nat.le_of_ble_eq_true rfl)) dX1_told_14 ⟨Nat.zero_le _, Nat.zero_le _⟩)) (fun r4 er4 => ?_)
  subst er4
  refine lv_istore (lv' := [(4, .int (nI (6 * 5 + bn))), (0, .ref h), (1, .int (nI (Bool.toNat (fb)))), (2, .int (-1)), (3, .int (nI (bn)))]) hx hb dX1_told_17 hl (by decide) rfl (fun ls hl => ?_)
  refine lv_aload_n hx hb dX1_told_19 rfl (lv_at hl 1 rfl) ?_
  refine lv_iload_n hx hb dX1_told_20 rfl (lv_at hl 2 rfl) ?_
  refine va_csr (va_Run.run (va_runV (As := [.int (nI (Bool.toNat (fb)))]) (rest := []) ⟨hx, hb, hml, hown, hts⟩ (c_X1_panel l dC dI cD cZ cI cL h pf f0 f1 f2 f3 po o0 o1 o2 o3 tt t0 NF GF TF OF NO GO TO OO DG nn fb) (cwV 1 hts gX1_told_X1_panel rfl rfl rfl (by decide +kernel) ⟨Nat.le_of_ble_eq_true rfl, Nat.le_of_ble_eq_true rfl⟩) (okJ_pre ⟨hP, hK, hE⟩) rfl rfl hl.1 rfl (lv_room (Nat.le_of_ble_eq_true rfl)) dX1_told_21 ⟨Nat.zero_le _, Nat.zero_le _⟩)) (fun r5 er5 => ?_)
  subst er5
  refine W.eq (g2 := F0 m 24 ls [.ref pf]) rfl ?_
  refine lv_astore (lv' := [(5, .ref pf), (4, .int (nI (6 * 5 + bn))), (0, .ref h), (1, .int (nI (Bool.toNat (fb)))), (2, .int (-1)), (3, .int (nI (bn)))]) hx hb dX1_told_24 hl (by decide) rfl (fun ls hl => ?_)
  refine lv_aload hx hb dX1_told_26 (lv_at hl 0 rfl) ?_
  refine lv_iload hx hb dX1_told_28 (lv_at hl 1 rfl) ?_
  refine vp_callSi (va_Run.run (va_runV (As := [.int (nI (6 * 5 + bn))]) (rest := []) ⟨hx, hb, hml, hown, hts⟩ (c_X0_isNumber l dC dI cD cZ cI cL pf f0 f1 f2 f3 NF GF TF OF (6 * 5 + bn) (by omega) hG) (cwV 1 hts gX1_told_X0_isNumber rfl rfl rfl (by decide +kernel) ⟨Nat.le_of_ble_eq_true rfl, Nat.le_of_ble_eq_true rfl⟩) (okP_pre ⟨hP.sub (ws' := [(pf, .inr (0, [.ref f0, .ref f1, .ref f2, .ref f3])), (f0, .inl (cD, 35, .inr (.inr (.inr (.inl (NF)))))), (f1, .inl (cZ, 35, .inl (GF))), (f2, .inl (cI, 30, .inl (TF))), (f3, .inl (cI, 6, .inl (OF)))]) [1, 2, 3, 4, 5] rfl, hK, hN⟩) rfl rfl hl.1 rfl (lv_room (Nat.le_of_ble_eq_true rfl)) dX1_told_30 ⟨Nat.zero_le _, Nat.zero_le _⟩)) (fun r6 er6 => ?_)
  subst er6
  refine lv_if_ne (tgt := 46) hx hb dX1_told_33 (by decide) (fun q => absurd q (fun z => z hth)) (fun _ => ?_)
  obtain ⟨-, -, -, -, ⟨sa, hsa⟩, -⟩ := id hE
  exact vx_throwS hx hb hst (own := RX1) (cls := isX) (text := "it is NONE") (names := [rtX, exX]) (ik := 30) (is := 105) (ic := 34) (sa := sa) (A := fun _ => False) hown (by decide +kernel) (by decide +kernel) (hts (.classLink RX1 30 isX) (by decide +kernel)) (hts (.initialized isX) (by decide +kernel)) hsa (hatIS hE (fun w h => hts w ((fun w h => List.mem_cons_of_mem _ (List.mem_append_left _ (List.mem_append_right _ h))) w h))) otIS hZ.1 hZ.2 va_S.rf (hl.1.trans hml.symm) dX1_told_36 dX1_told_39 dX1_told_40 dX1_told_42 dX1_told_45 (fun x hx9 => (htab x hx9).elim) (Nat.le_of_ble_eq_true rfl) (Nat.le_of_ble_eq_true rfl) (Nat.le_of_ble_eq_true rfl) (Nat.le_of_ble_eq_true rfl) hlocks (fun t hvm h1 h2 => xN_of rfl h1 h2) (fun z hz => absurd hz List.not_mem_nil) (by decide) (by decide)
set_option maxHeartbeats 4000000 in
set_option maxRecDepth 100000 in
theorem t_X1_holds_t1 (l : Launch) (dC : Nat → ClassId) (dI : Nat → Nat → Nat) (cD cZ cI cL : ClassId) (h pf f0 f1 f2 f3 po o0 o1 o2 o3 tt t0 : Nat) (NF : Nat → UInt64) (GF TF OF : Nat → Int32) (NO : Nat → UInt64) (GO TO OO : Nat → Int32) (DG : Nat → Int64) (nn : Nat) (fb : Bool) (hst : l.stackTraces = false) (ev bv kv : Int32) (hbad : vB ev nn = false) : vx_Met l yX1_holds wsX1_holds ({ frames := 7, cells := 1, slots := 6, locals := 103 }) (va_Pc [.ref h, .int (nI (Bool.toNat (fb))), .int (ev), .int (bv), .int (kv)] (fun U => okJ dC dI cD cZ cI cL h pf f0 f1 f2 f3 po o0 o1 o2 o3 tt t0 NF GF TF OF NO GO TO OO DG nn fb U U.heap ∧ exZ U U.heap)) (va_Qi (fun (_ : Int32) (_ : Unit) => False) (fun _ _ => True) (fun _ => False)) (xN nsX) 1 6 (fun _ => False) := by
  refine vx_ofW (cc := cX1_holds) (maxL := 5) (ret := (some .boolean)) (by decide) rfl ?_
  intro p e s m args below meth c s₁ B hml htab hv
  obtain ⟨rfl, hO, hZ⟩ := hv
  obtain ⟨hP, hK, hE⟩ := id hO
  have hP : va_P (dC, dI) vwCl [(h, .inr (1, [.ref (cond fb pf po), .ref (cond fb po pf), .ref tt, .int (nI (nn))])), (pf, .inr (0, [.ref f0, .ref f1, .ref f2, .ref f3])), (f0, .inl (cD, 35, .inr (.inr (.inr (.inl (NF)))))), (f1, .inl (cZ, 35, .inl (GF))), (f2, .inl (cI, 30, .inl (TF))), (f3, .inl (cI, 6, .inl (OF))), (po, .inr (0, [.ref o0, .ref o1, .ref o2, .ref o3])), (o0, .inl (cD, 35, .inr (.inr (.inr (.inl (NO)))))), (o1, .inl (cZ, 35, .inl (GO))), (o2, .inl (cI, 30, .inl (TO))), (o3, .inl (cI, 6, .inl (OO))), (tt, .inr (3, [.ref t0])), (t0, .inl (cL, 42, .inr (.inl (DG))))] s.heap := hP
  have hN := hE.nest
  have hx := B.exec
  have hb := B.bytes
  have hr := B.returns
  have hts := atoms_spec (ws := wsX1_holds) B.pre
  have hown : s.vm.findClass RX1 = some m.cls := findClass_of_methodNamed B.named
  have hlocks := B.notSynchronized
  have hl := lv_entry ([.ref h, .int (nI (Bool.toNat (fb))), .int (ev), .int (bv), .int (kv)]) (n := 5) (Nat.le_of_ble_eq_true rfl)
  rw [lg_entry_eq]
  generalize (lg_sl ([.ref h, .int (nI (Bool.toNat (fb))), .int (ev), .int (bv), .int (kv)]) ++ List.replicate (5 - (lg_sl ([.ref h, .int (nI (Bool.toNat (fb))), .int (ev), .int (bv), .int (kv)])).length) Slot.unset).toArray = ls at hl ⊢
  have hl : lv_has ls 5 [(0, .ref h), (1, .int (nI (Bool.toNat (fb)))), (2, .int (ev)), (3, .int (bv)), (4, .int (kv))] := hl
  refine lv_aload_n hx hb dX1_holds_0 rfl (lv_at hl 0 rfl) ?_
  refine lv_iload_n hx hb dX1_holds_1 rfl (lv_at hl 2 rfl) ?_
  refine vx_callv (vx_runV (As := [.int (ev)]) (rest := []) ⟨hx, hb, hml, hown, hts⟩ (t_X1_requireEntry l dC dI cD cZ cI cL h pf f0 f1 f2 f3 po o0 o1 o2 o3 tt t0 NF GF TF OF NO GO TO OO DG nn fb hst (ev) hbad) (cwV 1 hts gX1_holds_X1_requireEntry rfl rfl rfl (by decide +kernel) ⟨Nat.le_of_ble_eq_true rfl, Nat.le_of_ble_eq_true rfl⟩) (okJX_pre ⟨hP, hK, hE⟩ hZ) rfl rfl hl.1 rfl (lv_room (Nat.le_of_ble_eq_true rfl)) dX1_holds_2 ⟨Nat.le_of_ble_eq_true rfl, Nat.le_of_ble_eq_true rfl⟩) (A0 := fun _ => False) (H0 := s.heap) va_S.rf (fun q _ h => h.elim) (fun q h => h.elim) (fun q _ h => h.elim) (fun E ce q9 u t H1 locs1 ht hvm hw hB hz1 hk1 hS1 hce hcv hcl => ?_) (fun u t H1 locs1 ht hvm hw hB hz1 hk1 hS1 => hw.elim)
  exact vx_out (fun x hx9 => (htab x hx9).elim) hlocks hce hcv hcl (fun t9 ht9 hvm9 => ⟨(), trivial, hB, by rw [ht9]; exact hz1, fun q h9 h8 => by rw [ht9]; exact hk1 q h9 h8⟩) hS1.2.2 (by decide) (by decide)
set_option maxHeartbeats 4000000 in
set_option maxRecDepth 100000 in
theorem t_X1_holds_t2 (l : Launch) (dC : Nat → ClassId) (dI : Nat → Nat → Nat) (cD cZ cI cL : ClassId) (h pf f0 f1 f2 f3 po o0 o1 o2 o3 tt t0 : Nat) (NF : Nat → UInt64) (GF TF OF : Nat → Int32) (NO : Nat → UInt64) (GO TO OO : Nat → Int32) (DG : Nat → Int64) (nn : Nat) (fb : Bool) (hst : l.stackTraces = false) (hnn : nn ≤ 6) (en : Nat) (bv kv : Int32) (hen : en < nn) (hbad : vB bv 5 = false) : vx_Met l yX1_holds wsX1_holds ({ frames := 7, cells := 1, slots := 6, locals := 102 }) (va_Pc [.ref h, .int (nI (Bool.toNat (fb))), .int (nI (en)), .int (bv), .int (kv)] (fun U => okJ dC dI cD cZ cI cL h pf f0 f1 f2 f3 po o0 o1 o2 o3 tt t0 NF GF TF OF NO GO TO OO DG nn fb U U.heap ∧ exZ U U.heap)) (va_Qi (fun (_ : Int32) (_ : Unit) => False) (fun _ _ => True) (fun _ => False)) (xN nsX) 1 6 (fun _ => False) := by
  refine vx_ofW (cc := cX1_holds) (maxL := 5) (ret := (some .boolean)) (by decide) rfl ?_
  intro p e s m args below meth c s₁ B hml htab hv
  obtain ⟨rfl, hO, hZ⟩ := hv
  obtain ⟨hP, hK, hE⟩ := id hO
  have hP : va_P (dC, dI) vwCl [(h, .inr (1, [.ref (cond fb pf po), .ref (cond fb po pf), .ref tt, .int (nI (nn))])), (pf, .inr (0, [.ref f0, .ref f1, .ref f2, .ref f3])), (f0, .inl (cD, 35, .inr (.inr (.inr (.inl (NF)))))), (f1, .inl (cZ, 35, .inl (GF))), (f2, .inl (cI, 30, .inl (TF))), (f3, .inl (cI, 6, .inl (OF))), (po, .inr (0, [.ref o0, .ref o1, .ref o2, .ref o3])), (o0, .inl (cD, 35, .inr (.inr (.inr (.inl (NO)))))), (o1, .inl (cZ, 35, .inl (GO))), (o2, .inl (cI, 30, .inl (TO))), (o3, .inl (cI, 6, .inl (OO))), (tt, .inr (3, [.ref t0])), (t0, .inl (cL, 42, .inr (.inl (DG))))] s.heap := hP
  have hN := hE.nest
  have hx := B.exec
  have hb := B.bytes
  have hr := B.returns
  have hts := atoms_spec (ws := wsX1_holds) B.pre
  have hown : s.vm.findClass RX1 = some m.cls := findClass_of_methodNamed B.named
  have hlocks := B.notSynchronized
  have hl := lv_entry ([.ref h, .int (nI (Bool.toNat (fb))), .int (nI (en)), .int (bv), .int (kv)]) (n := 5) (Nat.le_of_ble_eq_true rfl)
  rw [lg_entry_eq]
  generalize (lg_sl ([.ref h, .int (nI (Bool.toNat (fb))), .int (nI (en)), .int (bv), .int (kv)]) ++ List.replicate (5 - (lg_sl ([.ref h, .int (nI (Bool.toNat (fb))), .int (nI (en)), .int (bv), .int (kv)])).length) Slot.unset).toArray = ls at hl ⊢
  have hl : lv_has ls 5 [(0, .ref h), (1, .int (nI (Bool.toNat (fb)))), (2, .int (nI (en))), (3, .int (bv)), (4, .int (kv))] := hl
  refine lv_aload_n hx hb dX1_holds_0 rfl (lv_at hl 0 rfl) ?_
  refine lv_iload_n hx hb dX1_holds_1 rfl (lv_at hl 2 rfl) ?_
  refine va_csv (va_Run.run (va_runV (As := [.int (nI (en))]) (rest := []) ⟨hx, hb, hml, hown, hts⟩ (c_X1_requireEntry_ok l dC dI cD cZ cI cL h pf f0 f1 f2 f3 po o0 o1 o2 o3 tt t0 NF GF TF OF NO GO TO OO DG nn fb (en) (by omega) (by omega)) (cwV 1 hts gX1_holds_X1_requireEntry rfl rfl rfl (by decide +kernel) ⟨Nat.le_of_ble_eq_true rfl, Nat.le_of_ble_eq_true rfl⟩) (okJ_pre ⟨hP, hK, hE⟩) rfl rfl hl.1 rfl (lv_room (Nat.le_of_ble_eq_true rfl)) dX1_holds_2 ⟨Nat.zero_le _, Nat.zero_le _⟩)) (fun _ => ?_)
  refine lv_iload_n hx hb dX1_holds_5 rfl (lv_at hl 3 rfl) ?_
  refine vx_callv (vx_runS (As := [.int (bv)]) (rest := []) ⟨hx, hb, hml, hown, hts⟩ (t_X1_requireSeat l hst (bv) hbad) (va_cwS 1 hts gX1_holds_X1_requireSeat rfl rfl rfl (by decide +kernel) ⟨Nat.le_of_ble_eq_true rfl, Nat.le_of_ble_eq_true rfl⟩) (exX_pre hE hZ) rfl rfl hl.1 rfl (lv_room (Nat.le_of_ble_eq_true rfl)) dX1_holds_6 ⟨Nat.le_of_ble_eq_true rfl, Nat.le_of_ble_eq_true rfl⟩) (A0 := fun _ => False) (H0 := s.heap) va_S.rf (fun q _ h => h.elim) (fun q h => h.elim) (fun q _ h => h.elim) (fun E ce q9 u t H1 locs1 ht hvm hw hB hz1 hk1 hS1 hce hcv hcl => ?_) (fun u t H1 locs1 ht hvm hw hB hz1 hk1 hS1 => hw.elim)
  exact vx_out (fun x hx9 => (htab x hx9).elim) hlocks hce hcv hcl (fun t9 ht9 hvm9 => ⟨(), trivial, hB, by rw [ht9]; exact hz1, fun q h9 h8 => by rw [ht9]; exact hk1 q h9 h8⟩) hS1.2.2 (by decide) (by decide)
set_option maxHeartbeats 4000000 in
set_option maxRecDepth 100000 in
theorem t_X1_holds_t3 (l : Launch) (dC : Nat → ClassId) (dI : Nat → Nat → Nat) (cD cZ cI cL : ClassId) (h pf f0 f1 f2 f3 po o0 o1 o2 o3 tt t0 : Nat) (NF : Nat → UInt64) (GF TF OF : Nat → Int32) (NO : Nat → UInt64) (GO TO OO : Nat → Int32) (DG : Nat → Int64) (nn : Nat) (fb : Bool) (hst : l.stackTraces = false) (hnn : nn ≤ 6) (en bn : Nat) (kv : Int32) (hen : en < nn) (hbn : bn < 5) (hbad : vB kv 24 = false) : vx_Met l yX1_holds wsX1_holds ({ frames := 7, cells := 1, slots := 6, locals := 103 }) (va_Pc [.ref h, .int (nI (Bool.toNat (fb))), .int (nI (en)), .int (nI (bn)), .int (kv)] (fun U => okJ dC dI cD cZ cI cL h pf f0 f1 f2 f3 po o0 o1 o2 o3 tt t0 NF GF TF OF NO GO TO OO DG nn fb U U.heap ∧ exZ U U.heap)) (va_Qi (fun (_ : Int32) (_ : Unit) => False) (fun _ _ => True) (fun _ => False)) (xN iaX) 1 6 (fun _ => False) := by
  refine vx_ofW (cc := cX1_holds) (maxL := 5) (ret := (some .boolean)) (by decide) rfl ?_
  intro p e s m args below meth c s₁ B hml htab hv
  obtain ⟨rfl, hO, hZ⟩ := hv
  obtain ⟨hP, hK, hE⟩ := id hO
  have hP : va_P (dC, dI) vwCl [(h, .inr (1, [.ref (cond fb pf po), .ref (cond fb po pf), .ref tt, .int (nI (nn))])), (pf, .inr (0, [.ref f0, .ref f1, .ref f2, .ref f3])), (f0, .inl (cD, 35, .inr (.inr (.inr (.inl (NF)))))), (f1, .inl (cZ, 35, .inl (GF))), (f2, .inl (cI, 30, .inl (TF))), (f3, .inl (cI, 6, .inl (OF))), (po, .inr (0, [.ref o0, .ref o1, .ref o2, .ref o3])), (o0, .inl (cD, 35, .inr (.inr (.inr (.inl (NO)))))), (o1, .inl (cZ, 35, .inl (GO))), (o2, .inl (cI, 30, .inl (TO))), (o3, .inl (cI, 6, .inl (OO))), (tt, .inr (3, [.ref t0])), (t0, .inl (cL, 42, .inr (.inl (DG))))] s.heap := hP
  have hN := hE.nest
  have hx := B.exec
  have hb := B.bytes
  have hr := B.returns
  have hts := atoms_spec (ws := wsX1_holds) B.pre
  have hown : s.vm.findClass RX1 = some m.cls := findClass_of_methodNamed B.named
  have hlocks := B.notSynchronized
  have hl := lv_entry ([.ref h, .int (nI (Bool.toNat (fb))), .int (nI (en)), .int (nI (bn)), .int (kv)]) (n := 5) (Nat.le_of_ble_eq_true rfl)
  rw [lg_entry_eq]
  generalize (lg_sl ([.ref h, .int (nI (Bool.toNat (fb))), .int (nI (en)), .int (nI (bn)), .int (kv)]) ++ List.replicate (5 - (lg_sl ([.ref h, .int (nI (Bool.toNat (fb))), .int (nI (en)), .int (nI (bn)), .int (kv)])).length) Slot.unset).toArray = ls at hl ⊢
  have hl : lv_has ls 5 [(0, .ref h), (1, .int (nI (Bool.toNat (fb)))), (2, .int (nI (en))), (3, .int (nI (bn))), (4, .int (kv))] := hl
  refine lv_aload_n hx hb dX1_holds_0 rfl (lv_at hl 0 rfl) ?_
  refine lv_iload_n hx hb dX1_holds_1 rfl (lv_at hl 2 rfl) ?_
  refine va_csv (va_Run.run (va_runV (As := [.int (nI (en))]) (rest := []) ⟨hx, hb, hml, hown, hts⟩ (c_X1_requireEntry_ok l dC dI cD cZ cI cL h pf f0 f1 f2 f3 po o0 o1 o2 o3 tt t0 NF GF TF OF NO GO TO OO DG nn fb (en) (by omega) (by omega)) (cwV 1 hts gX1_holds_X1_requireEntry rfl rfl rfl (by decide +kernel) ⟨Nat.le_of_ble_eq_true rfl, Nat.le_of_ble_eq_true rfl⟩) (okJ_pre ⟨hP, hK, hE⟩) rfl rfl hl.1 rfl (lv_room (Nat.le_of_ble_eq_true rfl)) dX1_holds_2 ⟨Nat.zero_le _, Nat.zero_le _⟩)) (fun _ => ?_)
  refine lv_iload_n hx hb dX1_holds_5 rfl (lv_at hl 3 rfl) ?_
  refine va_csv (va_Run.run (va_runS (As := [.int (nI (bn))]) (rest := []) ⟨hx, hb, hml, hown, hts⟩ (c_X1_requireSeat_ok l (bn) (by omega)) (va_cwS 1 hts gX1_holds_X1_requireSeat rfl rfl rfl (by decide +kernel) ⟨Nat.le_of_ble_eq_true rfl, Nat.le_of_ble_eq_true rfl⟩) preT rfl rfl hl.1 rfl (lv_room (Nat.le_of_ble_eq_true rfl)) dX1_holds_6 ⟨Nat.zero_le _, Nat.zero_le _⟩)) (fun _ => ?_)
  refine lv_iload hx hb dX1_holds_9 (lv_at hl 4 rfl) ?_
  refine lv_bipush (v := nI 24) hx hb dX1_holds_11 (by decide) ?_
  refine vx_callv (vx_runS (As := [.int (kv), .int (nI (24))]) (rest := []) ⟨hx, hb, hml, hown, hts⟩ (t_X1_requireBelow l hst (kv) (24) hbad) (va_cwS 2 hts gX1_holds_X1_requireBelow rfl rfl rfl (by decide +kernel) ⟨Nat.le_of_ble_eq_true rfl, Nat.le_of_ble_eq_true rfl⟩) (exX_pre hE hZ) rfl rfl hl.1 rfl (lv_room (Nat.le_of_ble_eq_true rfl)) dX1_holds_13 ⟨Nat.le_of_ble_eq_true rfl, Nat.le_of_ble_eq_true rfl⟩) (A0 := fun _ => False) (H0 := s.heap) va_S.rf (fun q _ h => h.elim) (fun q h => h.elim) (fun q _ h => h.elim) (fun E ce q9 u t H1 locs1 ht hvm hw hB hz1 hk1 hS1 hce hcv hcl => ?_) (fun u t H1 locs1 ht hvm hw hB hz1 hk1 hS1 => hw.elim)
  exact vx_out (fun x hx9 => (htab x hx9).elim) hlocks hce hcv hcl (fun t9 ht9 hvm9 => ⟨(), trivial, hB, by rw [ht9]; exact hz1, fun q h9 h8 => by rw [ht9]; exact hk1 q h9 h8⟩) hS1.2.2 (by decide) (by decide)
set_option maxHeartbeats 4000000 in
set_option maxRecDepth 100000 in
theorem t_X1_keep_t1 (l : Launch) (dC : Nat → ClassId) (dI : Nat → Nat → Nat) (cD cZ cI cL : ClassId) (h pf f0 f1 f2 f3 po o0 o1 o2 o3 tt t0 : Nat) (NF : Nat → UInt64) (GF TF OF : Nat → Int32) (NO : Nat → UInt64) (GO TO OO : Nat → Int32) (DG : Nat → Int64) (nn : Nat) (fb : Bool) (hst : l.stackTraces = false) (ev bv kv : Int32) (hbad : vB ev nn = false) : vx_Met l yX1_keep wsX1_keep ({ frames := 7, cells := 1, slots := 6, locals := 103 }) (va_Pc [.ref h, .int (nI (Bool.toNat (fb))), .int (ev), .int (bv), .int (kv)] (fun U => okJ dC dI cD cZ cI cL h pf f0 f1 f2 f3 po o0 o1 o2 o3 tt t0 NF GF TF OF NO GO TO OO DG nn fb U U.heap ∧ exZ U U.heap)) (va_Qi (fun (_ : Int32) (_ : Unit) => False) (fun _ _ => True) (fun _ => False)) (xN nsX) 1 6 (fun _ => False) := by
  refine vx_ofW (cc := cX1_keep) (maxL := 5) (ret := (some .boolean)) (by decide) rfl ?_
  intro p e s m args below meth c s₁ B hml htab hv
  obtain ⟨rfl, hO, hZ⟩ := hv
  obtain ⟨hP, hK, hE⟩ := id hO
  have hP : va_P (dC, dI) vwCl [(h, .inr (1, [.ref (cond fb pf po), .ref (cond fb po pf), .ref tt, .int (nI (nn))])), (pf, .inr (0, [.ref f0, .ref f1, .ref f2, .ref f3])), (f0, .inl (cD, 35, .inr (.inr (.inr (.inl (NF)))))), (f1, .inl (cZ, 35, .inl (GF))), (f2, .inl (cI, 30, .inl (TF))), (f3, .inl (cI, 6, .inl (OF))), (po, .inr (0, [.ref o0, .ref o1, .ref o2, .ref o3])), (o0, .inl (cD, 35, .inr (.inr (.inr (.inl (NO)))))), (o1, .inl (cZ, 35, .inl (GO))), (o2, .inl (cI, 30, .inl (TO))), (o3, .inl (cI, 6, .inl (OO))), (tt, .inr (3, [.ref t0])), (t0, .inl (cL, 42, .inr (.inl (DG))))] s.heap := hP
  have hN := hE.nest
  have hx := B.exec
  have hb := B.bytes
  have hr := B.returns
  have hts := atoms_spec (ws := wsX1_keep) B.pre
  have hown : s.vm.findClass RX1 = some m.cls := findClass_of_methodNamed B.named
  have hlocks := B.notSynchronized
  have hl := lv_entry ([.ref h, .int (nI (Bool.toNat (fb))), .int (ev), .int (bv), .int (kv)]) (n := 5) (Nat.le_of_ble_eq_true rfl)
  rw [lg_entry_eq]
  generalize (lg_sl ([.ref h, .int (nI (Bool.toNat (fb))), .int (ev), .int (bv), .int (kv)]) ++ List.replicate (5 - (lg_sl ([.ref h, .int (nI (Bool.toNat (fb))), .int (ev), .int (bv), .int (kv)])).length) Slot.unset).toArray = ls at hl ⊢
  have hl : lv_has ls 5 [(0, .ref h), (1, .int (nI (Bool.toNat (fb)))), (2, .int (ev)), (3, .int (bv)), (4, .int (kv))] := hl
  refine lv_aload_n hx hb dX1_keep_0 rfl (lv_at hl 0 rfl) ?_
  refine lv_iload_n hx hb dX1_keep_1 rfl (lv_at hl 2 rfl) ?_
  refine vx_callv (vx_runV (As := [.int (ev)]) (rest := []) ⟨hx, hb, hml, hown, hts⟩ (t_X1_requireEntry l dC dI cD cZ cI cL h pf f0 f1 f2 f3 po o0 o1 o2 o3 tt t0 NF GF TF OF NO GO TO OO DG nn fb hst (ev) hbad) (cwV 1 hts gX1_keep_X1_requireEntry rfl rfl rfl (by decide +kernel) ⟨Nat.le_of_ble_eq_true rfl, Nat.le_of_ble_eq_true rfl⟩) (okJX_pre ⟨hP, hK, hE⟩ hZ) rfl rfl hl.1 rfl (lv_room (Nat.le_of_ble_eq_true rfl)) dX1_keep_2 ⟨Nat.le_of_ble_eq_true rfl, Nat.le_of_ble_eq_true rfl⟩) (A0 := fun _ => False) (H0 := s.heap) va_S.rf (fun q _ h => h.elim) (fun q h => h.elim) (fun q _ h => h.elim) (fun E ce q9 u t H1 locs1 ht hvm hw hB hz1 hk1 hS1 hce hcv hcl => ?_) (fun u t H1 locs1 ht hvm hw hB hz1 hk1 hS1 => hw.elim)
  exact vx_out (fun x hx9 => (htab x hx9).elim) hlocks hce hcv hcl (fun t9 ht9 hvm9 => ⟨(), trivial, hB, by rw [ht9]; exact hz1, fun q h9 h8 => by rw [ht9]; exact hk1 q h9 h8⟩) hS1.2.2 (by decide) (by decide)
set_option maxHeartbeats 4000000 in
set_option maxRecDepth 100000 in
theorem t_X1_keep_t2 (l : Launch) (dC : Nat → ClassId) (dI : Nat → Nat → Nat) (cD cZ cI cL : ClassId) (h pf f0 f1 f2 f3 po o0 o1 o2 o3 tt t0 : Nat) (NF : Nat → UInt64) (GF TF OF : Nat → Int32) (NO : Nat → UInt64) (GO TO OO : Nat → Int32) (DG : Nat → Int64) (nn : Nat) (fb : Bool) (hst : l.stackTraces = false) (hnn : nn ≤ 6) (en : Nat) (bv kv : Int32) (hen : en < nn) (hbad : vB bv 5 = false) : vx_Met l yX1_keep wsX1_keep ({ frames := 7, cells := 1, slots := 6, locals := 102 }) (va_Pc [.ref h, .int (nI (Bool.toNat (fb))), .int (nI (en)), .int (bv), .int (kv)] (fun U => okJ dC dI cD cZ cI cL h pf f0 f1 f2 f3 po o0 o1 o2 o3 tt t0 NF GF TF OF NO GO TO OO DG nn fb U U.heap ∧ exZ U U.heap)) (va_Qi (fun (_ : Int32) (_ : Unit) => False) (fun _ _ => True) (fun _ => False)) (xN nsX) 1 6 (fun _ => False) := by
  refine vx_ofW (cc := cX1_keep) (maxL := 5) (ret := (some .boolean)) (by decide) rfl ?_
  intro p e s m args below meth c s₁ B hml htab hv
  obtain ⟨rfl, hO, hZ⟩ := hv
  obtain ⟨hP, hK, hE⟩ := id hO
  have hP : va_P (dC, dI) vwCl [(h, .inr (1, [.ref (cond fb pf po), .ref (cond fb po pf), .ref tt, .int (nI (nn))])), (pf, .inr (0, [.ref f0, .ref f1, .ref f2, .ref f3])), (f0, .inl (cD, 35, .inr (.inr (.inr (.inl (NF)))))), (f1, .inl (cZ, 35, .inl (GF))), (f2, .inl (cI, 30, .inl (TF))), (f3, .inl (cI, 6, .inl (OF))), (po, .inr (0, [.ref o0, .ref o1, .ref o2, .ref o3])), (o0, .inl (cD, 35, .inr (.inr (.inr (.inl (NO)))))), (o1, .inl (cZ, 35, .inl (GO))), (o2, .inl (cI, 30, .inl (TO))), (o3, .inl (cI, 6, .inl (OO))), (tt, .inr (3, [.ref t0])), (t0, .inl (cL, 42, .inr (.inl (DG))))] s.heap := hP
  have hN := hE.nest
  have hx := B.exec
  have hb := B.bytes
  have hr := B.returns
  have hts := atoms_spec (ws := wsX1_keep) B.pre
  have hown : s.vm.findClass RX1 = some m.cls := findClass_of_methodNamed B.named
  have hlocks := B.notSynchronized
  have hl := lv_entry ([.ref h, .int (nI (Bool.toNat (fb))), .int (nI (en)), .int (bv), .int (kv)]) (n := 5) (Nat.le_of_ble_eq_true rfl)
  rw [lg_entry_eq]
  generalize (lg_sl ([.ref h, .int (nI (Bool.toNat (fb))), .int (nI (en)), .int (bv), .int (kv)]) ++ List.replicate (5 - (lg_sl ([.ref h, .int (nI (Bool.toNat (fb))), .int (nI (en)), .int (bv), .int (kv)])).length) Slot.unset).toArray = ls at hl ⊢
  have hl : lv_has ls 5 [(0, .ref h), (1, .int (nI (Bool.toNat (fb)))), (2, .int (nI (en))), (3, .int (bv)), (4, .int (kv))] := hl
  refine lv_aload_n hx hb dX1_keep_0 rfl (lv_at hl 0 rfl) ?_
  refine lv_iload_n hx hb dX1_keep_1 rfl (lv_at hl 2 rfl) ?_
  refine va_csv (va_Run.run (va_runV (As := [.int (nI (en))]) (rest := []) ⟨hx, hb, hml, hown, hts⟩ (c_X1_requireEntry_ok l dC dI cD cZ cI cL h pf f0 f1 f2 f3 po o0 o1 o2 o3 tt t0 NF GF TF OF NO GO TO OO DG nn fb (en) (by omega) (by omega)) (cwV 1 hts gX1_keep_X1_requireEntry rfl rfl rfl (by decide +kernel) ⟨Nat.le_of_ble_eq_true rfl, Nat.le_of_ble_eq_true rfl⟩) (okJ_pre ⟨hP, hK, hE⟩) rfl rfl hl.1 rfl (lv_room (Nat.le_of_ble_eq_true rfl)) dX1_keep_2 ⟨Nat.zero_le _, Nat.zero_le _⟩)) (fun _ => ?_)
  refine lv_iload_n hx hb dX1_keep_5 rfl (lv_at hl 3 rfl) ?_
  refine vx_callv (vx_runS (As := [.int (bv)]) (rest := []) ⟨hx, hb, hml, hown, hts⟩ (t_X1_requireSeat l hst (bv) hbad) (va_cwS 1 hts gX1_keep_X1_requireSeat rfl rfl rfl (by decide +kernel) ⟨Nat.le_of_ble_eq_true rfl, Nat.le_of_ble_eq_true rfl⟩) (exX_pre hE hZ) rfl rfl hl.1 rfl (lv_room (Nat.le_of_ble_eq_true rfl)) dX1_keep_6 ⟨Nat.le_of_ble_eq_true rfl, Nat.le_of_ble_eq_true rfl⟩) (A0 := fun _ => False) (H0 := s.heap) va_S.rf (fun q _ h => h.elim) (fun q h => h.elim) (fun q _ h => h.elim) (fun E ce q9 u t H1 locs1 ht hvm hw hB hz1 hk1 hS1 hce hcv hcl => ?_) (fun u t H1 locs1 ht hvm hw hB hz1 hk1 hS1 => hw.elim)
  exact vx_out (fun x hx9 => (htab x hx9).elim) hlocks hce hcv hcl (fun t9 ht9 hvm9 => ⟨(), trivial, hB, by rw [ht9]; exact hz1, fun q h9 h8 => by rw [ht9]; exact hk1 q h9 h8⟩) hS1.2.2 (by decide) (by decide)
set_option maxHeartbeats 4000000 in
set_option maxRecDepth 100000 in
theorem t_X1_keep_t3 (l : Launch) (dC : Nat → ClassId) (dI : Nat → Nat → Nat) (cD cZ cI cL : ClassId) (h pf f0 f1 f2 f3 po o0 o1 o2 o3 tt t0 : Nat) (NF : Nat → UInt64) (GF TF OF : Nat → Int32) (NO : Nat → UInt64) (GO TO OO : Nat → Int32) (DG : Nat → Int64) (nn : Nat) (fb : Bool) (hst : l.stackTraces = false) (hnn : nn ≤ 6) (en bn : Nat) (kv : Int32) (hen : en < nn) (hbn : bn < 5) (hbad : vB kv 24 = false) : vx_Met l yX1_keep wsX1_keep ({ frames := 7, cells := 1, slots := 6, locals := 103 }) (va_Pc [.ref h, .int (nI (Bool.toNat (fb))), .int (nI (en)), .int (nI (bn)), .int (kv)] (fun U => okJ dC dI cD cZ cI cL h pf f0 f1 f2 f3 po o0 o1 o2 o3 tt t0 NF GF TF OF NO GO TO OO DG nn fb U U.heap ∧ exZ U U.heap)) (va_Qi (fun (_ : Int32) (_ : Unit) => False) (fun _ _ => True) (fun _ => False)) (xN iaX) 1 6 (fun _ => False) := by
  refine vx_ofW (cc := cX1_keep) (maxL := 5) (ret := (some .boolean)) (by decide) rfl ?_
  intro p e s m args below meth c s₁ B hml htab hv
  obtain ⟨rfl, hO, hZ⟩ := hv
  obtain ⟨hP, hK, hE⟩ := id hO
  have hP : va_P (dC, dI) vwCl [(h, .inr (1, [.ref (cond fb pf po), .ref (cond fb po pf), .ref tt, .int (nI (nn))])), (pf, .inr (0, [.ref f0, .ref f1, .ref f2, .ref f3])), (f0, .inl (cD, 35, .inr (.inr (.inr (.inl (NF)))))), (f1, .inl (cZ, 35, .inl (GF))), (f2, .inl (cI, 30, .inl (TF))), (f3, .inl (cI, 6, .inl (OF))), (po, .inr (0, [.ref o0, .ref o1, .ref o2, .ref o3])), (o0, .inl (cD, 35, .inr (.inr (.inr (.inl (NO)))))), (o1, .inl (cZ, 35, .inl (GO))), (o2, .inl (cI, 30, .inl (TO))), (o3, .inl (cI, 6, .inl (OO))), (tt, .inr (3, [.ref t0])), (t0, .inl (cL, 42, .inr (.inl (DG))))] s.heap := hP
  have hN := hE.nest
  have hx := B.exec
  have hb := B.bytes
  have hr := B.returns
  have hts := atoms_spec (ws := wsX1_keep) B.pre
  have hown : s.vm.findClass RX1 = some m.cls := findClass_of_methodNamed B.named
  have hlocks := B.notSynchronized
  have hl := lv_entry ([.ref h, .int (nI (Bool.toNat (fb))), .int (nI (en)), .int (nI (bn)), .int (kv)]) (n := 5) (Nat.le_of_ble_eq_true rfl)
  rw [lg_entry_eq]
  generalize (lg_sl ([.ref h, .int (nI (Bool.toNat (fb))), .int (nI (en)), .int (nI (bn)), .int (kv)]) ++ List.replicate (5 - (lg_sl ([.ref h, .int (nI (Bool.toNat (fb))), .int (nI (en)), .int (nI (bn)), .int (kv)])).length) Slot.unset).toArray = ls at hl ⊢
  have hl : lv_has ls 5 [(0, .ref h), (1, .int (nI (Bool.toNat (fb)))), (2, .int (nI (en))), (3, .int (nI (bn))), (4, .int (kv))] := hl
  refine lv_aload_n hx hb dX1_keep_0 rfl (lv_at hl 0 rfl) ?_
  refine lv_iload_n hx hb dX1_keep_1 rfl (lv_at hl 2 rfl) ?_
  refine va_csv (va_Run.run (va_runV (As := [.int (nI (en))]) (rest := []) ⟨hx, hb, hml, hown, hts⟩ (c_X1_requireEntry_ok l dC dI cD cZ cI cL h pf f0 f1 f2 f3 po o0 o1 o2 o3 tt t0 NF GF TF OF NO GO TO OO DG nn fb (en) (by omega) (by omega)) (cwV 1 hts gX1_keep_X1_requireEntry rfl rfl rfl (by decide +kernel) ⟨Nat.le_of_ble_eq_true rfl, Nat.le_of_ble_eq_true rfl⟩) (okJ_pre ⟨hP, hK, hE⟩) rfl rfl hl.1 rfl (lv_room (Nat.le_of_ble_eq_true rfl)) dX1_keep_2 ⟨Nat.zero_le _, Nat.zero_le _⟩)) (fun _ => ?_)
  refine lv_iload_n hx hb dX1_keep_5 rfl (lv_at hl 3 rfl) ?_
  refine va_csv (va_Run.run (va_runS (As := [.int (nI (bn))]) (rest := []) ⟨hx, hb, hml, hown, hts⟩ (c_X1_requireSeat_ok l (bn) (by omega)) (va_cwS 1 hts gX1_keep_X1_requireSeat rfl rfl rfl (by decide +kernel) ⟨Nat.le_of_ble_eq_true rfl, Nat.le_of_ble_eq_true rfl⟩) preT rfl rfl hl.1 rfl (lv_room (Nat.le_of_ble_eq_true rfl)) dX1_keep_6 ⟨Nat.zero_le _, Nat.zero_le _⟩)) (fun _ => ?_)
  refine lv_iload hx hb dX1_keep_9 (lv_at hl 4 rfl) ?_
  refine lv_bipush (v := nI 24) hx hb dX1_keep_11 (by decide) ?_
  refine vx_callv (vx_runS (As := [.int (kv), .int (nI (24))]) (rest := []) ⟨hx, hb, hml, hown, hts⟩ (t_X1_requireBelow l hst (kv) (24) hbad) (va_cwS 2 hts gX1_keep_X1_requireBelow rfl rfl rfl (by decide +kernel) ⟨Nat.le_of_ble_eq_true rfl, Nat.le_of_ble_eq_true rfl⟩) (exX_pre hE hZ) rfl rfl hl.1 rfl (lv_room (Nat.le_of_ble_eq_true rfl)) dX1_keep_13 ⟨Nat.le_of_ble_eq_true rfl, Nat.le_of_ble_eq_true rfl⟩) (A0 := fun _ => False) (H0 := s.heap) va_S.rf (fun q _ h => h.elim) (fun q h => h.elim) (fun q _ h => h.elim) (fun E ce q9 u t H1 locs1 ht hvm hw hB hz1 hk1 hS1 hce hcv hcl => ?_) (fun u t H1 locs1 ht hvm hw hB hz1 hk1 hS1 => hw.elim)
  exact vx_out (fun x hx9 => (htab x hx9).elim) hlocks hce hcv hcl (fun t9 ht9 hvm9 => ⟨(), trivial, hB, by rw [ht9]; exact hz1, fun q h9 h8 => by rw [ht9]; exact hk1 q h9 h8⟩) hS1.2.2 (by decide) (by decide)
set_option maxHeartbeats 4000000 in
set_option maxRecDepth 100000 in
theorem t_X1_tally_t1 (l : Launch) (dC : Nat → ClassId) (dI : Nat → Nat → Nat) (cD cZ cI cL : ClassId) (h pf f0 f1 f2 f3 po o0 o1 o2 o3 tt t0 : Nat) (NF : Nat → UInt64) (GF TF OF : Nat → Int32) (NO : Nat → UInt64) (GO TO OO : Nat → Int32) (DG : Nat → Int64) (nn : Nat) (fb : Bool) (hst : l.stackTraces = false) (ev kv : Int32) (hbad : vB ev nn = false) : vx_Met l yX1_tally wsX1_tally ({ frames := 7, cells := 1, slots := 6, locals := 103 }) (va_Pc [.ref h, .int (nI (Bool.toNat (fb))), .int (ev), .int (kv)] (fun U => okJ dC dI cD cZ cI cL h pf f0 f1 f2 f3 po o0 o1 o2 o3 tt t0 NF GF TF OF NO GO TO OO DG nn fb U U.heap ∧ exZ U U.heap)) (va_Qi (fun (_ : Int32) (_ : Unit) => False) (fun _ _ => True) (fun _ => False)) (xN nsX) 1 6 (fun _ => False) := by
  refine vx_ofW (cc := cX1_tally) (maxL := 4) (ret := (some .int)) (by decide) rfl ?_
  intro p e s m args below meth c s₁ B hml htab hv
  obtain ⟨rfl, hO, hZ⟩ := hv
  obtain ⟨hP, hK, hE⟩ := id hO
  have hP : va_P (dC, dI) vwCl [(h, .inr (1, [.ref (cond fb pf po), .ref (cond fb po pf), .ref tt, .int (nI (nn))])), (pf, .inr (0, [.ref f0, .ref f1, .ref f2, .ref f3])), (f0, .inl (cD, 35, .inr (.inr (.inr (.inl (NF)))))), (f1, .inl (cZ, 35, .inl (GF))), (f2, .inl (cI, 30, .inl (TF))), (f3, .inl (cI, 6, .inl (OF))), (po, .inr (0, [.ref o0, .ref o1, .ref o2, .ref o3])), (o0, .inl (cD, 35, .inr (.inr (.inr (.inl (NO)))))), (o1, .inl (cZ, 35, .inl (GO))), (o2, .inl (cI, 30, .inl (TO))), (o3, .inl (cI, 6, .inl (OO))), (tt, .inr (3, [.ref t0])), (t0, .inl (cL, 42, .inr (.inl (DG))))] s.heap := hP
  have hN := hE.nest
  have hx := B.exec
  have hb := B.bytes
  have hr := B.returns
  have hts := atoms_spec (ws := wsX1_tally) B.pre
  have hown : s.vm.findClass RX1 = some m.cls := findClass_of_methodNamed B.named
  have hlocks := B.notSynchronized
  have hl := lv_entry ([.ref h, .int (nI (Bool.toNat (fb))), .int (ev), .int (kv)]) (n := 4) (Nat.le_of_ble_eq_true rfl)
  rw [lg_entry_eq]
  generalize (lg_sl ([.ref h, .int (nI (Bool.toNat (fb))), .int (ev), .int (kv)]) ++ List.replicate (4 - (lg_sl ([.ref h, .int (nI (Bool.toNat (fb))), .int (ev), .int (kv)])).length) Slot.unset).toArray = ls at hl ⊢
  have hl : lv_has ls 4 [(0, .ref h), (1, .int (nI (Bool.toNat (fb)))), (2, .int (ev)), (3, .int (kv))] := hl
  refine lv_aload_n hx hb dX1_tally_0 rfl (lv_at hl 0 rfl) ?_
  refine lv_iload_n hx hb dX1_tally_1 rfl (lv_at hl 2 rfl) ?_
  refine vx_callv (vx_runV (As := [.int (ev)]) (rest := []) ⟨hx, hb, hml, hown, hts⟩ (t_X1_requireEntry l dC dI cD cZ cI cL h pf f0 f1 f2 f3 po o0 o1 o2 o3 tt t0 NF GF TF OF NO GO TO OO DG nn fb hst (ev) hbad) (cwV 1 hts gX1_tally_X1_requireEntry rfl rfl rfl (by decide +kernel) ⟨Nat.le_of_ble_eq_true rfl, Nat.le_of_ble_eq_true rfl⟩) (okJX_pre ⟨hP, hK, hE⟩ hZ) rfl rfl hl.1 rfl (lv_room (Nat.le_of_ble_eq_true rfl)) dX1_tally_2 ⟨Nat.le_of_ble_eq_true rfl, Nat.le_of_ble_eq_true rfl⟩) (A0 := fun _ => False) (H0 := s.heap) va_S.rf (fun q _ h => h.elim) (fun q h => h.elim) (fun q _ h => h.elim) (fun E ce q9 u t H1 locs1 ht hvm hw hB hz1 hk1 hS1 hce hcv hcl => ?_) (fun u t H1 locs1 ht hvm hw hB hz1 hk1 hS1 => hw.elim)
  exact vx_out (fun x hx9 => (htab x hx9).elim) hlocks hce hcv hcl (fun t9 ht9 hvm9 => ⟨(), trivial, hB, by rw [ht9]; exact hz1, fun q h9 h8 => by rw [ht9]; exact hk1 q h9 h8⟩) hS1.2.2 (by decide) (by decide)
set_option maxHeartbeats 4000000 in
set_option maxRecDepth 100000 in
theorem t_X1_tally_t3 (l : Launch) (dC : Nat → ClassId) (dI : Nat → Nat → Nat) (cD cZ cI cL : ClassId) (h pf f0 f1 f2 f3 po o0 o1 o2 o3 tt t0 : Nat) (NF : Nat → UInt64) (GF TF OF : Nat → Int32) (NO : Nat → UInt64) (GO TO OO : Nat → Int32) (DG : Nat → Int64) (nn : Nat) (fb : Bool) (hst : l.stackTraces = false) (hnn : nn ≤ 6) (en : Nat) (kv : Int32) (hen : en < nn) (hbad : vB kv 24 = false) : vx_Met l yX1_tally wsX1_tally ({ frames := 7, cells := 1, slots := 6, locals := 103 }) (va_Pc [.ref h, .int (nI (Bool.toNat (fb))), .int (nI (en)), .int (kv)] (fun U => okJ dC dI cD cZ cI cL h pf f0 f1 f2 f3 po o0 o1 o2 o3 tt t0 NF GF TF OF NO GO TO OO DG nn fb U U.heap ∧ exZ U U.heap)) (va_Qi (fun (_ : Int32) (_ : Unit) => False) (fun _ _ => True) (fun _ => False)) (xN iaX) 1 6 (fun _ => False) := by
  refine vx_ofW (cc := cX1_tally) (maxL := 4) (ret := (some .int)) (by decide) rfl ?_
  intro p e s m args below meth c s₁ B hml htab hv
  obtain ⟨rfl, hO, hZ⟩ := hv
  obtain ⟨hP, hK, hE⟩ := id hO
  have hP : va_P (dC, dI) vwCl [(h, .inr (1, [.ref (cond fb pf po), .ref (cond fb po pf), .ref tt, .int (nI (nn))])), (pf, .inr (0, [.ref f0, .ref f1, .ref f2, .ref f3])), (f0, .inl (cD, 35, .inr (.inr (.inr (.inl (NF)))))), (f1, .inl (cZ, 35, .inl (GF))), (f2, .inl (cI, 30, .inl (TF))), (f3, .inl (cI, 6, .inl (OF))), (po, .inr (0, [.ref o0, .ref o1, .ref o2, .ref o3])), (o0, .inl (cD, 35, .inr (.inr (.inr (.inl (NO)))))), (o1, .inl (cZ, 35, .inl (GO))), (o2, .inl (cI, 30, .inl (TO))), (o3, .inl (cI, 6, .inl (OO))), (tt, .inr (3, [.ref t0])), (t0, .inl (cL, 42, .inr (.inl (DG))))] s.heap := hP
  have hN := hE.nest
  have hx := B.exec
  have hb := B.bytes
  have hr := B.returns
  have hts := atoms_spec (ws := wsX1_tally) B.pre
  have hown : s.vm.findClass RX1 = some m.cls := findClass_of_methodNamed B.named
  have hlocks := B.notSynchronized
  have hl := lv_entry ([.ref h, .int (nI (Bool.toNat (fb))), .int (nI (en)), .int (kv)]) (n := 4) (Nat.le_of_ble_eq_true rfl)
  rw [lg_entry_eq]
  generalize (lg_sl ([.ref h, .int (nI (Bool.toNat (fb))), .int (nI (en)), .int (kv)]) ++ List.replicate (4 - (lg_sl ([.ref h, .int (nI (Bool.toNat (fb))), .int (nI (en)), .int (kv)])).length) Slot.unset).toArray = ls at hl ⊢
  have hl : lv_has ls 4 [(0, .ref h), (1, .int (nI (Bool.toNat (fb)))), (2, .int (nI (en))), (3, .int (kv))] := hl
  refine lv_aload_n hx hb dX1_tally_0 rfl (lv_at hl 0 rfl) ?_
  refine lv_iload_n hx hb dX1_tally_1 rfl (lv_at hl 2 rfl) ?_
  refine va_csv (va_Run.run (va_runV (As := [.int (nI (en))]) (rest := []) ⟨hx, hb, hml, hown, hts⟩ (c_X1_requireEntry_ok l dC dI cD cZ cI cL h pf f0 f1 f2 f3 po o0 o1 o2 o3 tt t0 NF GF TF OF NO GO TO OO DG nn fb (en) (by omega) (by omega)) (cwV 1 hts gX1_tally_X1_requireEntry rfl rfl rfl (by decide +kernel) ⟨Nat.le_of_ble_eq_true rfl, Nat.le_of_ble_eq_true rfl⟩) (okJ_pre ⟨hP, hK, hE⟩) rfl rfl hl.1 rfl (lv_room (Nat.le_of_ble_eq_true rfl)) dX1_tally_2 ⟨Nat.zero_le _, Nat.zero_le _⟩)) (fun _ => ?_)
  refine lv_iload_n hx hb dX1_tally_5 rfl (lv_at hl 3 rfl) ?_
  refine lv_bipush (v := nI 24) hx hb dX1_tally_6 (by decide) ?_
  refine vx_callv (vx_runS (As := [.int (kv), .int (nI (24))]) (rest := []) ⟨hx, hb, hml, hown, hts⟩ (t_X1_requireBelow l hst (kv) (24) hbad) (va_cwS 2 hts gX1_tally_X1_requireBelow rfl rfl rfl (by decide +kernel) ⟨Nat.le_of_ble_eq_true rfl, Nat.le_of_ble_eq_true rfl⟩) (exX_pre hE hZ) rfl rfl hl.1 rfl (lv_room (Nat.le_of_ble_eq_true rfl)) dX1_tally_8 ⟨Nat.le_of_ble_eq_true rfl, Nat.le_of_ble_eq_true rfl⟩) (A0 := fun _ => False) (H0 := s.heap) va_S.rf (fun q _ h => h.elim) (fun q h => h.elim) (fun q _ h => h.elim) (fun E ce q9 u t H1 locs1 ht hvm hw hB hz1 hk1 hS1 hce hcv hcl => ?_) (fun u t H1 locs1 ht hvm hw hB hz1 hk1 hS1 => hw.elim)
  exact vx_out (fun x hx9 => (htab x hx9).elim) hlocks hce hcv hcl (fun t9 ht9 hvm9 => ⟨(), trivial, hB, by rw [ht9]; exact hz1, fun q h9 h8 => by rw [ht9]; exact hk1 q h9 h8⟩) hS1.2.2 (by decide) (by decide)
set_option maxHeartbeats 4000000 in
set_option maxRecDepth 100000 in
theorem t_X1_run_t1 (l : Launch) (dC : Nat → ClassId) (dI : Nat → Nat → Nat) (cD cZ cI cL : ClassId) (h pf f0 f1 f2 f3 po o0 o1 o2 o3 tt t0 : Nat) (NF : Nat → UInt64) (GF TF OF : Nat → Int32) (NO : Nat → UInt64) (GO TO OO : Nat → Int32) (DG : Nat → Int64) (nn : Nat) (fb : Bool) (hst : l.stackTraces = false) (ev bv kv : Int32) (hbad : vB ev nn = false) : vx_Met l yX1_run wsX1_run ({ frames := 7, cells := 1, slots := 6, locals := 103 }) (va_Pc [.ref h, .int (nI (Bool.toNat (fb))), .int (ev), .int (bv), .int (kv)] (fun U => okJ dC dI cD cZ cI cL h pf f0 f1 f2 f3 po o0 o1 o2 o3 tt t0 NF GF TF OF NO GO TO OO DG nn fb U U.heap ∧ exZ U U.heap)) (va_Qi (fun (_ : Int32) (_ : Unit) => False) (fun _ _ => True) (fun _ => False)) (xN nsX) 1 6 (fun _ => False) := by
  refine vx_ofW (cc := cX1_run) (maxL := 5) (ret := (some .int)) (by decide) rfl ?_
  intro p e s m args below meth c s₁ B hml htab hv
  obtain ⟨rfl, hO, hZ⟩ := hv
  obtain ⟨hP, hK, hE⟩ := id hO
  have hP : va_P (dC, dI) vwCl [(h, .inr (1, [.ref (cond fb pf po), .ref (cond fb po pf), .ref tt, .int (nI (nn))])), (pf, .inr (0, [.ref f0, .ref f1, .ref f2, .ref f3])), (f0, .inl (cD, 35, .inr (.inr (.inr (.inl (NF)))))), (f1, .inl (cZ, 35, .inl (GF))), (f2, .inl (cI, 30, .inl (TF))), (f3, .inl (cI, 6, .inl (OF))), (po, .inr (0, [.ref o0, .ref o1, .ref o2, .ref o3])), (o0, .inl (cD, 35, .inr (.inr (.inr (.inl (NO)))))), (o1, .inl (cZ, 35, .inl (GO))), (o2, .inl (cI, 30, .inl (TO))), (o3, .inl (cI, 6, .inl (OO))), (tt, .inr (3, [.ref t0])), (t0, .inl (cL, 42, .inr (.inl (DG))))] s.heap := hP
  have hN := hE.nest
  have hx := B.exec
  have hb := B.bytes
  have hr := B.returns
  have hts := atoms_spec (ws := wsX1_run) B.pre
  have hown : s.vm.findClass RX1 = some m.cls := findClass_of_methodNamed B.named
  have hlocks := B.notSynchronized
  have hl := lv_entry ([.ref h, .int (nI (Bool.toNat (fb))), .int (ev), .int (bv), .int (kv)]) (n := 5) (Nat.le_of_ble_eq_true rfl)
  rw [lg_entry_eq]
  generalize (lg_sl ([.ref h, .int (nI (Bool.toNat (fb))), .int (ev), .int (bv), .int (kv)]) ++ List.replicate (5 - (lg_sl ([.ref h, .int (nI (Bool.toNat (fb))), .int (ev), .int (bv), .int (kv)])).length) Slot.unset).toArray = ls at hl ⊢
  have hl : lv_has ls 5 [(0, .ref h), (1, .int (nI (Bool.toNat (fb)))), (2, .int (ev)), (3, .int (bv)), (4, .int (kv))] := hl
  refine lv_aload_n hx hb dX1_run_0 rfl (lv_at hl 0 rfl) ?_
  refine lv_iload_n hx hb dX1_run_1 rfl (lv_at hl 2 rfl) ?_
  refine vx_callv (vx_runV (As := [.int (ev)]) (rest := []) ⟨hx, hb, hml, hown, hts⟩ (t_X1_requireEntry l dC dI cD cZ cI cL h pf f0 f1 f2 f3 po o0 o1 o2 o3 tt t0 NF GF TF OF NO GO TO OO DG nn fb hst (ev) hbad) (cwV 1 hts gX1_run_X1_requireEntry rfl rfl rfl (by decide +kernel) ⟨Nat.le_of_ble_eq_true rfl, Nat.le_of_ble_eq_true rfl⟩) (okJX_pre ⟨hP, hK, hE⟩ hZ) rfl rfl hl.1 rfl (lv_room (Nat.le_of_ble_eq_true rfl)) dX1_run_2 ⟨Nat.le_of_ble_eq_true rfl, Nat.le_of_ble_eq_true rfl⟩) (A0 := fun _ => False) (H0 := s.heap) va_S.rf (fun q _ h => h.elim) (fun q h => h.elim) (fun q _ h => h.elim) (fun E ce q9 u t H1 locs1 ht hvm hw hB hz1 hk1 hS1 hce hcv hcl => ?_) (fun u t H1 locs1 ht hvm hw hB hz1 hk1 hS1 => hw.elim)
  exact vx_out (fun x hx9 => (htab x hx9).elim) hlocks hce hcv hcl (fun t9 ht9 hvm9 => ⟨(), trivial, hB, by rw [ht9]; exact hz1, fun q h9 h8 => by rw [ht9]; exact hk1 q h9 h8⟩) hS1.2.2 (by decide) (by decide)
set_option maxHeartbeats 4000000 in
set_option maxRecDepth 100000 in
theorem t_X1_run_t2 (l : Launch) (dC : Nat → ClassId) (dI : Nat → Nat → Nat) (cD cZ cI cL : ClassId) (h pf f0 f1 f2 f3 po o0 o1 o2 o3 tt t0 : Nat) (NF : Nat → UInt64) (GF TF OF : Nat → Int32) (NO : Nat → UInt64) (GO TO OO : Nat → Int32) (DG : Nat → Int64) (nn : Nat) (fb : Bool) (hst : l.stackTraces = false) (hnn : nn ≤ 6) (en : Nat) (bv kv : Int32) (hen : en < nn) (hbad : vB bv 5 = false) (hn5 : ¬ bv = nI 5) : vx_Met l yX1_run wsX1_run ({ frames := 7, cells := 1, slots := 6, locals := 102 }) (va_Pc [.ref h, .int (nI (Bool.toNat (fb))), .int (nI (en)), .int (bv), .int (kv)] (fun U => okJ dC dI cD cZ cI cL h pf f0 f1 f2 f3 po o0 o1 o2 o3 tt t0 NF GF TF OF NO GO TO OO DG nn fb U U.heap ∧ exZ U U.heap)) (va_Qi (fun (_ : Int32) (_ : Unit) => False) (fun _ _ => True) (fun _ => False)) (xN nsX) 1 6 (fun _ => False) := by
  refine vx_ofW (cc := cX1_run) (maxL := 5) (ret := (some .int)) (by decide) rfl ?_
  intro p e s m args below meth c s₁ B hml htab hv
  obtain ⟨rfl, hO, hZ⟩ := hv
  obtain ⟨hP, hK, hE⟩ := id hO
  have hP : va_P (dC, dI) vwCl [(h, .inr (1, [.ref (cond fb pf po), .ref (cond fb po pf), .ref tt, .int (nI (nn))])), (pf, .inr (0, [.ref f0, .ref f1, .ref f2, .ref f3])), (f0, .inl (cD, 35, .inr (.inr (.inr (.inl (NF)))))), (f1, .inl (cZ, 35, .inl (GF))), (f2, .inl (cI, 30, .inl (TF))), (f3, .inl (cI, 6, .inl (OF))), (po, .inr (0, [.ref o0, .ref o1, .ref o2, .ref o3])), (o0, .inl (cD, 35, .inr (.inr (.inr (.inl (NO)))))), (o1, .inl (cZ, 35, .inl (GO))), (o2, .inl (cI, 30, .inl (TO))), (o3, .inl (cI, 6, .inl (OO))), (tt, .inr (3, [.ref t0])), (t0, .inl (cL, 42, .inr (.inl (DG))))] s.heap := hP
  have hN := hE.nest
  have hx := B.exec
  have hb := B.bytes
  have hr := B.returns
  have hts := atoms_spec (ws := wsX1_run) B.pre
  have hown : s.vm.findClass RX1 = some m.cls := findClass_of_methodNamed B.named
  have hlocks := B.notSynchronized
  have hl := lv_entry ([.ref h, .int (nI (Bool.toNat (fb))), .int (nI (en)), .int (bv), .int (kv)]) (n := 5) (Nat.le_of_ble_eq_true rfl)
  rw [lg_entry_eq]
  generalize (lg_sl ([.ref h, .int (nI (Bool.toNat (fb))), .int (nI (en)), .int (bv), .int (kv)]) ++ List.replicate (5 - (lg_sl ([.ref h, .int (nI (Bool.toNat (fb))), .int (nI (en)), .int (bv), .int (kv)])).length) Slot.unset).toArray = ls at hl ⊢
  have hl : lv_has ls 5 [(0, .ref h), (1, .int (nI (Bool.toNat (fb)))), (2, .int (nI (en))), (3, .int (bv)), (4, .int (kv))] := hl
  refine lv_aload_n hx hb dX1_run_0 rfl (lv_at hl 0 rfl) ?_
  refine lv_iload_n hx hb dX1_run_1 rfl (lv_at hl 2 rfl) ?_
  refine va_csv (va_Run.run (va_runV (As := [.int (nI (en))]) (rest := []) ⟨hx, hb, hml, hown, hts⟩ (c_X1_requireEntry_ok l dC dI cD cZ cI cL h pf f0 f1 f2 f3 po o0 o1 o2 o3 tt t0 NF GF TF OF NO GO TO OO DG nn fb (en) (by omega) (by omega)) (cwV 1 hts gX1_run_X1_requireEntry rfl rfl rfl (by decide +kernel) ⟨Nat.le_of_ble_eq_true rfl, Nat.le_of_ble_eq_true rfl⟩) (okJ_pre ⟨hP, hK, hE⟩) rfl rfl hl.1 rfl (lv_room (Nat.le_of_ble_eq_true rfl)) dX1_run_2 ⟨Nat.zero_le _, Nat.zero_le _⟩)) (fun _ => ?_)
  refine lv_iload_n hx hb dX1_run_5 rfl (lv_at hl 3 rfl) ?_
  refine lv_iconst (v := nI 5) hx hb dX1_run_6 (by decide) ?_
  refine lv_icmp_eq (tgt := 14) hx hb dX1_run_7 (by decide) (fun q => absurd q hn5) (fun _ => ?_)
  refine lv_iload_n hx hb dX1_run_10 rfl (lv_at hl 3 rfl) ?_
  refine vx_callv (vx_runS (As := [.int (bv)]) (rest := []) ⟨hx, hb, hml, hown, hts⟩ (t_X1_requireSeat l hst (bv) hbad) (va_cwS 1 hts gX1_run_X1_requireSeat rfl rfl rfl (by decide +kernel) ⟨Nat.le_of_ble_eq_true rfl, Nat.le_of_ble_eq_true rfl⟩) (exX_pre hE hZ) rfl rfl hl.1 rfl (lv_room (Nat.le_of_ble_eq_true rfl)) dX1_run_11 ⟨Nat.le_of_ble_eq_true rfl, Nat.le_of_ble_eq_true rfl⟩) (A0 := fun _ => False) (H0 := s.heap) va_S.rf (fun q _ h => h.elim) (fun q h => h.elim) (fun q _ h => h.elim) (fun E ce q9 u t H1 locs1 ht hvm hw hB hz1 hk1 hS1 hce hcv hcl => ?_) (fun u t H1 locs1 ht hvm hw hB hz1 hk1 hS1 => hw.elim)
  exact vx_out (fun x hx9 => (htab x hx9).elim) hlocks hce hcv hcl (fun t9 ht9 hvm9 => ⟨(), trivial, hB, by rw [ht9]; exact hz1, fun q h9 h8 => by rw [ht9]; exact hk1 q h9 h8⟩) hS1.2.2 (by decide) (by decide)
set_option maxHeartbeats 4000000 in
set_option maxRecDepth 100000 in
theorem t_X1_run_t3 (l : Launch) (dC : Nat → ClassId) (dI : Nat → Nat → Nat) (cD cZ cI cL : ClassId) (h pf f0 f1 f2 f3 po o0 o1 o2 o3 tt t0 : Nat) (NF : Nat → UInt64) (GF TF OF : Nat → Int32) (NO : Nat → UInt64) (GO TO OO : Nat → Int32) (DG : Nat → Int64) (nn : Nat) (fb : Bool) (hst : l.stackTraces = false) (hnn : nn ≤ 6) (en fr : Nat) (kv : Int32) (hen : en < nn) (hfr : fr < 6) (hbad : vB kv 24 = false) : vx_Met l yX1_run wsX1_run ({ frames := 7, cells := 1, slots := 6, locals := 103 }) (va_Pc [.ref h, .int (nI (Bool.toNat (fb))), .int (nI (en)), .int (nI (fr)), .int (kv)] (fun U => okJ dC dI cD cZ cI cL h pf f0 f1 f2 f3 po o0 o1 o2 o3 tt t0 NF GF TF OF NO GO TO OO DG nn fb U U.heap ∧ exZ U U.heap)) (va_Qi (fun (_ : Int32) (_ : Unit) => False) (fun _ _ => True) (fun _ => False)) (xN iaX) 1 6 (fun _ => False) := by
  refine vx_ofW (cc := cX1_run) (maxL := 5) (ret := (some .int)) (by decide) rfl ?_
  intro p e s m args below meth c s₁ B hml htab hv
  obtain ⟨rfl, hO, hZ⟩ := hv
  obtain ⟨hP, hK, hE⟩ := id hO
  have hP : va_P (dC, dI) vwCl [(h, .inr (1, [.ref (cond fb pf po), .ref (cond fb po pf), .ref tt, .int (nI (nn))])), (pf, .inr (0, [.ref f0, .ref f1, .ref f2, .ref f3])), (f0, .inl (cD, 35, .inr (.inr (.inr (.inl (NF)))))), (f1, .inl (cZ, 35, .inl (GF))), (f2, .inl (cI, 30, .inl (TF))), (f3, .inl (cI, 6, .inl (OF))), (po, .inr (0, [.ref o0, .ref o1, .ref o2, .ref o3])), (o0, .inl (cD, 35, .inr (.inr (.inr (.inl (NO)))))), (o1, .inl (cZ, 35, .inl (GO))), (o2, .inl (cI, 30, .inl (TO))), (o3, .inl (cI, 6, .inl (OO))), (tt, .inr (3, [.ref t0])), (t0, .inl (cL, 42, .inr (.inl (DG))))] s.heap := hP
  have hN := hE.nest
  have hx := B.exec
  have hb := B.bytes
  have hr := B.returns
  have hts := atoms_spec (ws := wsX1_run) B.pre
  have hown : s.vm.findClass RX1 = some m.cls := findClass_of_methodNamed B.named
  have hlocks := B.notSynchronized
  have hl := lv_entry ([.ref h, .int (nI (Bool.toNat (fb))), .int (nI (en)), .int (nI (fr)), .int (kv)]) (n := 5) (Nat.le_of_ble_eq_true rfl)
  rw [lg_entry_eq]
  generalize (lg_sl ([.ref h, .int (nI (Bool.toNat (fb))), .int (nI (en)), .int (nI (fr)), .int (kv)]) ++ List.replicate (5 - (lg_sl ([.ref h, .int (nI (Bool.toNat (fb))), .int (nI (en)), .int (nI (fr)), .int (kv)])).length) Slot.unset).toArray = ls at hl ⊢
  have hl : lv_has ls 5 [(0, .ref h), (1, .int (nI (Bool.toNat (fb)))), (2, .int (nI (en))), (3, .int (nI (fr))), (4, .int (kv))] := hl
  refine lv_aload_n hx hb dX1_run_0 rfl (lv_at hl 0 rfl) ?_
  refine lv_iload_n hx hb dX1_run_1 rfl (lv_at hl 2 rfl) ?_
  refine va_csv (va_Run.run (va_runV (As := [.int (nI (en))]) (rest := []) ⟨hx, hb, hml, hown, hts⟩ (c_X1_requireEntry_ok l dC dI cD cZ cI cL h pf f0 f1 f2 f3 po o0 o1 o2 o3 tt t0 NF GF TF OF NO GO TO OO DG nn fb (en) (by omega) (by omega)) (cwV 1 hts gX1_run_X1_requireEntry rfl rfl rfl (by decide +kernel) ⟨Nat.le_of_ble_eq_true rfl, Nat.le_of_ble_eq_true rfl⟩) (okJ_pre ⟨hP, hK, hE⟩) rfl rfl hl.1 rfl (lv_room (Nat.le_of_ble_eq_true rfl)) dX1_run_2 ⟨Nat.zero_le _, Nat.zero_le _⟩)) (fun _ => ?_)
  refine lv_iload_n hx hb dX1_run_5 rfl (lv_at hl 3 rfl) ?_
  refine lv_iconst (v := nI 5) hx hb dX1_run_6 (by decide) ?_
  refine xn_icmp_eq (tgt := 14) hx hb (by omega) (by decide) dX1_run_7 (by decide) (fun c7 => ?_) (fun c7 => ?_)
  · refine lv_iload hx hb dX1_run_14 (lv_at hl 4 rfl) ?_
    refine lv_bipush (v := nI 24) hx hb dX1_run_16 (by decide) ?_
    refine vx_callv (vx_runS (As := [.int (kv), .int (nI (24))]) (rest := []) ⟨hx, hb, hml, hown, hts⟩ (t_X1_requireBelow l hst (kv) (24) hbad) (va_cwS 2 hts gX1_run_X1_requireBelow rfl rfl rfl (by decide +kernel) ⟨Nat.le_of_ble_eq_true rfl, Nat.le_of_ble_eq_true rfl⟩) (exX_pre hE hZ) rfl rfl hl.1 rfl (lv_room (Nat.le_of_ble_eq_true rfl)) dX1_run_18 ⟨Nat.le_of_ble_eq_true rfl, Nat.le_of_ble_eq_true rfl⟩) (A0 := fun _ => False) (H0 := s.heap) va_S.rf (fun q _ h => h.elim) (fun q h => h.elim) (fun q _ h => h.elim) (fun E ce q9 u t H1 locs1 ht hvm hw hB hz1 hk1 hS1 hce hcv hcl => ?_) (fun u t H1 locs1 ht hvm hw hB hz1 hk1 hS1 => hw.elim)
    exact vx_out (fun x hx9 => (htab x hx9).elim) hlocks hce hcv hcl (fun t9 ht9 hvm9 => ⟨(), trivial, hB, by rw [ht9]; exact hz1, fun q h9 h8 => by rw [ht9]; exact hk1 q h9 h8⟩) hS1.2.2 (by decide) (by decide)
  · refine lv_iload_n hx hb dX1_run_10 rfl (lv_at hl 3 rfl) ?_
    refine va_csv (va_Run.run (va_runS (As := [.int (nI (fr))]) (rest := []) ⟨hx, hb, hml, hown, hts⟩ (c_X1_requireSeat_ok l (fr) (by omega)) (va_cwS 1 hts gX1_run_X1_requireSeat rfl rfl rfl (by decide +kernel) ⟨Nat.le_of_ble_eq_true rfl, Nat.le_of_ble_eq_true rfl⟩) preT rfl rfl hl.1 rfl (lv_room (Nat.le_of_ble_eq_true rfl)) dX1_run_11 ⟨Nat.zero_le _, Nat.zero_le _⟩)) (fun _ => ?_)
    refine lv_iload hx hb dX1_run_14 (lv_at hl 4 rfl) ?_
    refine lv_bipush (v := nI 24) hx hb dX1_run_16 (by decide) ?_
    refine vx_callv (vx_runS (As := [.int (kv), .int (nI (24))]) (rest := []) ⟨hx, hb, hml, hown, hts⟩ (t_X1_requireBelow l hst (kv) (24) hbad) (va_cwS 2 hts gX1_run_X1_requireBelow rfl rfl rfl (by decide +kernel) ⟨Nat.le_of_ble_eq_true rfl, Nat.le_of_ble_eq_true rfl⟩) (exX_pre hE hZ) rfl rfl hl.1 rfl (lv_room (Nat.le_of_ble_eq_true rfl)) dX1_run_18 ⟨Nat.le_of_ble_eq_true rfl, Nat.le_of_ble_eq_true rfl⟩) (A0 := fun _ => False) (H0 := s.heap) va_S.rf (fun q _ h => h.elim) (fun q h => h.elim) (fun q _ h => h.elim) (fun E ce q9 u t H1 locs1 ht hvm hw hB hz1 hk1 hS1 hce hcv hcl => ?_) (fun u t H1 locs1 ht hvm hw hB hz1 hk1 hS1 => hw.elim)
    exact vx_out (fun x hx9 => (htab x hx9).elim) hlocks hce hcv hcl (fun t9 ht9 hvm9 => ⟨(), trivial, hB, by rw [ht9]; exact hz1, fun q h9 h8 => by rw [ht9]; exact hk1 q h9 h8⟩) hS1.2.2 (by decide) (by decide)
set_option maxHeartbeats 4000000 in
set_option maxRecDepth 100000 in
theorem t_X1_kept_t1 (l : Launch) (dC : Nat → ClassId) (dI : Nat → Nat → Nat) (cD cZ cI cL : ClassId) (h pf f0 f1 f2 f3 po o0 o1 o2 o3 tt t0 : Nat) (NF : Nat → UInt64) (GF TF OF : Nat → Int32) (NO : Nat → UInt64) (GO TO OO : Nat → Int32) (DG : Nat → Int64) (nn : Nat) (fb : Bool) (hst : l.stackTraces = false) (ev bv : Int32) (hbad : vB ev nn = false) : vx_Met l yX1_kept wsX1_kept ({ frames := 7, cells := 1, slots := 6, locals := 103 }) (va_Pc [.ref h, .int (nI (Bool.toNat (fb))), .int (ev), .int (bv)] (fun U => okJ dC dI cD cZ cI cL h pf f0 f1 f2 f3 po o0 o1 o2 o3 tt t0 NF GF TF OF NO GO TO OO DG nn fb U U.heap ∧ exZ U U.heap)) (va_Qi (fun (_ : Int32) (_ : Unit) => False) (fun _ _ => True) (fun _ => False)) (xN nsX) 1 6 (fun _ => False) := by
  refine vx_ofW (cc := cX1_kept) (maxL := 4) (ret := (some .int)) (by decide) rfl ?_
  intro p e s m args below meth c s₁ B hml htab hv
  obtain ⟨rfl, hO, hZ⟩ := hv
  obtain ⟨hP, hK, hE⟩ := id hO
  have hP : va_P (dC, dI) vwCl [(h, .inr (1, [.ref (cond fb pf po), .ref (cond fb po pf), .ref tt, .int (nI (nn))])), (pf, .inr (0, [.ref f0, .ref f1, .ref f2, .ref f3])), (f0, .inl (cD, 35, .inr (.inr (.inr (.inl (NF)))))), (f1, .inl (cZ, 35, .inl (GF))), (f2, .inl (cI, 30, .inl (TF))), (f3, .inl (cI, 6, .inl (OF))), (po, .inr (0, [.ref o0, .ref o1, .ref o2, .ref o3])), (o0, .inl (cD, 35, .inr (.inr (.inr (.inl (NO)))))), (o1, .inl (cZ, 35, .inl (GO))), (o2, .inl (cI, 30, .inl (TO))), (o3, .inl (cI, 6, .inl (OO))), (tt, .inr (3, [.ref t0])), (t0, .inl (cL, 42, .inr (.inl (DG))))] s.heap := hP
  have hN := hE.nest
  have hx := B.exec
  have hb := B.bytes
  have hr := B.returns
  have hts := atoms_spec (ws := wsX1_kept) B.pre
  have hown : s.vm.findClass RX1 = some m.cls := findClass_of_methodNamed B.named
  have hlocks := B.notSynchronized
  have hl := lv_entry ([.ref h, .int (nI (Bool.toNat (fb))), .int (ev), .int (bv)]) (n := 4) (Nat.le_of_ble_eq_true rfl)
  rw [lg_entry_eq]
  generalize (lg_sl ([.ref h, .int (nI (Bool.toNat (fb))), .int (ev), .int (bv)]) ++ List.replicate (4 - (lg_sl ([.ref h, .int (nI (Bool.toNat (fb))), .int (ev), .int (bv)])).length) Slot.unset).toArray = ls at hl ⊢
  have hl : lv_has ls 4 [(0, .ref h), (1, .int (nI (Bool.toNat (fb)))), (2, .int (ev)), (3, .int (bv))] := hl
  refine lv_aload_n hx hb dX1_kept_0 rfl (lv_at hl 0 rfl) ?_
  refine lv_iload_n hx hb dX1_kept_1 rfl (lv_at hl 2 rfl) ?_
  refine vx_callv (vx_runV (As := [.int (ev)]) (rest := []) ⟨hx, hb, hml, hown, hts⟩ (t_X1_requireEntry l dC dI cD cZ cI cL h pf f0 f1 f2 f3 po o0 o1 o2 o3 tt t0 NF GF TF OF NO GO TO OO DG nn fb hst (ev) hbad) (cwV 1 hts gX1_kept_X1_requireEntry rfl rfl rfl (by decide +kernel) ⟨Nat.le_of_ble_eq_true rfl, Nat.le_of_ble_eq_true rfl⟩) (okJX_pre ⟨hP, hK, hE⟩ hZ) rfl rfl hl.1 rfl (lv_room (Nat.le_of_ble_eq_true rfl)) dX1_kept_2 ⟨Nat.le_of_ble_eq_true rfl, Nat.le_of_ble_eq_true rfl⟩) (A0 := fun _ => False) (H0 := s.heap) va_S.rf (fun q _ h => h.elim) (fun q h => h.elim) (fun q _ h => h.elim) (fun E ce q9 u t H1 locs1 ht hvm hw hB hz1 hk1 hS1 hce hcv hcl => ?_) (fun u t H1 locs1 ht hvm hw hB hz1 hk1 hS1 => hw.elim)
  exact vx_out (fun x hx9 => (htab x hx9).elim) hlocks hce hcv hcl (fun t9 ht9 hvm9 => ⟨(), trivial, hB, by rw [ht9]; exact hz1, fun q h9 h8 => by rw [ht9]; exact hk1 q h9 h8⟩) hS1.2.2 (by decide) (by decide)
set_option maxHeartbeats 4000000 in
set_option maxRecDepth 100000 in
theorem t_X1_kept_t2 (l : Launch) (dC : Nat → ClassId) (dI : Nat → Nat → Nat) (cD cZ cI cL : ClassId) (h pf f0 f1 f2 f3 po o0 o1 o2 o3 tt t0 : Nat) (NF : Nat → UInt64) (GF TF OF : Nat → Int32) (NO : Nat → UInt64) (GO TO OO : Nat → Int32) (DG : Nat → Int64) (nn : Nat) (fb : Bool) (hst : l.stackTraces = false) (hnn : nn ≤ 6) (en : Nat) (bv : Int32) (hen : en < nn) (hbad : vB bv 5 = false) : vx_Met l yX1_kept wsX1_kept ({ frames := 7, cells := 1, slots := 6, locals := 102 }) (va_Pc [.ref h, .int (nI (Bool.toNat (fb))), .int (nI (en)), .int (bv)] (fun U => okJ dC dI cD cZ cI cL h pf f0 f1 f2 f3 po o0 o1 o2 o3 tt t0 NF GF TF OF NO GO TO OO DG nn fb U U.heap ∧ exZ U U.heap)) (va_Qi (fun (_ : Int32) (_ : Unit) => False) (fun _ _ => True) (fun _ => False)) (xN nsX) 1 6 (fun _ => False) := by
  refine vx_ofW (cc := cX1_kept) (maxL := 4) (ret := (some .int)) (by decide) rfl ?_
  intro p e s m args below meth c s₁ B hml htab hv
  obtain ⟨rfl, hO, hZ⟩ := hv
  obtain ⟨hP, hK, hE⟩ := id hO
  have hP : va_P (dC, dI) vwCl [(h, .inr (1, [.ref (cond fb pf po), .ref (cond fb po pf), .ref tt, .int (nI (nn))])), (pf, .inr (0, [.ref f0, .ref f1, .ref f2, .ref f3])), (f0, .inl (cD, 35, .inr (.inr (.inr (.inl (NF)))))), (f1, .inl (cZ, 35, .inl (GF))), (f2, .inl (cI, 30, .inl (TF))), (f3, .inl (cI, 6, .inl (OF))), (po, .inr (0, [.ref o0, .ref o1, .ref o2, .ref o3])), (o0, .inl (cD, 35, .inr (.inr (.inr (.inl (NO)))))), (o1, .inl (cZ, 35, .inl (GO))), (o2, .inl (cI, 30, .inl (TO))), (o3, .inl (cI, 6, .inl (OO))), (tt, .inr (3, [.ref t0])), (t0, .inl (cL, 42, .inr (.inl (DG))))] s.heap := hP
  have hN := hE.nest
  have hx := B.exec
  have hb := B.bytes
  have hr := B.returns
  have hts := atoms_spec (ws := wsX1_kept) B.pre
  have hown : s.vm.findClass RX1 = some m.cls := findClass_of_methodNamed B.named
  have hlocks := B.notSynchronized
  have hl := lv_entry ([.ref h, .int (nI (Bool.toNat (fb))), .int (nI (en)), .int (bv)]) (n := 4) (Nat.le_of_ble_eq_true rfl)
  rw [lg_entry_eq]
  generalize (lg_sl ([.ref h, .int (nI (Bool.toNat (fb))), .int (nI (en)), .int (bv)]) ++ List.replicate (4 - (lg_sl ([.ref h, .int (nI (Bool.toNat (fb))), .int (nI (en)), .int (bv)])).length) Slot.unset).toArray = ls at hl ⊢
  have hl : lv_has ls 4 [(0, .ref h), (1, .int (nI (Bool.toNat (fb)))), (2, .int (nI (en))), (3, .int (bv))] := hl
  refine lv_aload_n hx hb dX1_kept_0 rfl (lv_at hl 0 rfl) ?_
  refine lv_iload_n hx hb dX1_kept_1 rfl (lv_at hl 2 rfl) ?_
  refine va_csv (va_Run.run (va_runV (As := [.int (nI (en))]) (rest := []) ⟨hx, hb, hml, hown, hts⟩ (c_X1_requireEntry_ok l dC dI cD cZ cI cL h pf f0 f1 f2 f3 po o0 o1 o2 o3 tt t0 NF GF TF OF NO GO TO OO DG nn fb (en) (by omega) (by omega)) (cwV 1 hts gX1_kept_X1_requireEntry rfl rfl rfl (by decide +kernel) ⟨Nat.le_of_ble_eq_true rfl, Nat.le_of_ble_eq_true rfl⟩) (okJ_pre ⟨hP, hK, hE⟩) rfl rfl hl.1 rfl (lv_room (Nat.le_of_ble_eq_true rfl)) dX1_kept_2 ⟨Nat.zero_le _, Nat.zero_le _⟩)) (fun _ => ?_)
  refine lv_iload_n hx hb dX1_kept_5 rfl (lv_at hl 3 rfl) ?_
  refine vx_callv (vx_runS (As := [.int (bv)]) (rest := []) ⟨hx, hb, hml, hown, hts⟩ (t_X1_requireSeat l hst (bv) hbad) (va_cwS 1 hts gX1_kept_X1_requireSeat rfl rfl rfl (by decide +kernel) ⟨Nat.le_of_ble_eq_true rfl, Nat.le_of_ble_eq_true rfl⟩) (exX_pre hE hZ) rfl rfl hl.1 rfl (lv_room (Nat.le_of_ble_eq_true rfl)) dX1_kept_6 ⟨Nat.le_of_ble_eq_true rfl, Nat.le_of_ble_eq_true rfl⟩) (A0 := fun _ => False) (H0 := s.heap) va_S.rf (fun q _ h => h.elim) (fun q h => h.elim) (fun q _ h => h.elim) (fun E ce q9 u t H1 locs1 ht hvm hw hB hz1 hk1 hS1 hce hcv hcl => ?_) (fun u t H1 locs1 ht hvm hw hB hz1 hk1 hS1 => hw.elim)
  exact vx_out (fun x hx9 => (htab x hx9).elim) hlocks hce hcv hcl (fun t9 ht9 hvm9 => ⟨(), trivial, hB, by rw [ht9]; exact hz1, fun q h9 h8 => by rw [ht9]; exact hk1 q h9 h8⟩) hS1.2.2 (by decide) (by decide)
set_option maxHeartbeats 4000000 in
set_option maxRecDepth 100000 in
theorem t_X1_place_t1 (l : Launch) (dC : Nat → ClassId) (dI : Nat → Nat → Nat) (cD cZ cI cL : ClassId) (h pf f0 f1 f2 f3 po o0 o1 o2 o3 tt t0 : Nat) (NF : Nat → UInt64) (GF TF OF : Nat → Int32) (NO : Nat → UInt64) (GO TO OO : Nat → Int32) (DG : Nat → Int64) (nn : Nat) (fb : Bool) (hst : l.stackTraces = false) (ev bv : Int32) (sb : Bool) (hbad : vB ev nn = false) : vx_Met l yX1_place wsX1_place ({ frames := 7, cells := 1, slots := 6, locals := 103 }) (va_Pc [.ref h, .int (nI (Bool.toNat (fb))), .int (ev), .int (bv), .int (nI (Bool.toNat (sb)))] (fun U => okJ dC dI cD cZ cI cL h pf f0 f1 f2 f3 po o0 o1 o2 o3 tt t0 NF GF TF OF NO GO TO OO DG nn fb U U.heap ∧ exZ U U.heap)) (va_Qi (fun (_ : Int32) (_ : Unit) => False) (fun _ _ => True) (fun _ => False)) (xN nsX) 1 6 (fun _ => False) := by
  refine vx_ofW (cc := cX1_place) (maxL := 5) (ret := (some .int)) (by decide) rfl ?_
  intro p e s m args below meth c s₁ B hml htab hv
  obtain ⟨rfl, hO, hZ⟩ := hv
  obtain ⟨hP, hK, hE⟩ := id hO
  have hP : va_P (dC, dI) vwCl [(h, .inr (1, [.ref (cond fb pf po), .ref (cond fb po pf), .ref tt, .int (nI (nn))])), (pf, .inr (0, [.ref f0, .ref f1, .ref f2, .ref f3])), (f0, .inl (cD, 35, .inr (.inr (.inr (.inl (NF)))))), (f1, .inl (cZ, 35, .inl (GF))), (f2, .inl (cI, 30, .inl (TF))), (f3, .inl (cI, 6, .inl (OF))), (po, .inr (0, [.ref o0, .ref o1, .ref o2, .ref o3])), (o0, .inl (cD, 35, .inr (.inr (.inr (.inl (NO)))))), (o1, .inl (cZ, 35, .inl (GO))), (o2, .inl (cI, 30, .inl (TO))), (o3, .inl (cI, 6, .inl (OO))), (tt, .inr (3, [.ref t0])), (t0, .inl (cL, 42, .inr (.inl (DG))))] s.heap := hP
  have hN := hE.nest
  have hx := B.exec
  have hb := B.bytes
  have hr := B.returns
  have hts := atoms_spec (ws := wsX1_place) B.pre
  have hown : s.vm.findClass RX1 = some m.cls := findClass_of_methodNamed B.named
  have hlocks := B.notSynchronized
  have hl := lv_entry ([.ref h, .int (nI (Bool.toNat (fb))), .int (ev), .int (bv), .int (nI (Bool.toNat (sb)))]) (n := 5) (Nat.le_of_ble_eq_true rfl)
  rw [lg_entry_eq]
  generalize (lg_sl ([.ref h, .int (nI (Bool.toNat (fb))), .int (ev), .int (bv), .int (nI (Bool.toNat (sb)))]) ++ List.replicate (5 - (lg_sl ([.ref h, .int (nI (Bool.toNat (fb))), .int (ev), .int (bv), .int (nI (Bool.toNat (sb)))])).length) Slot.unset).toArray = ls at hl ⊢
  have hl : lv_has ls 5 [(0, .ref h), (1, .int (nI (Bool.toNat (fb)))), (2, .int (ev)), (3, .int (bv)), (4, .int (nI (Bool.toNat (sb))))] := hl
  refine lv_aload_n hx hb dX1_place_0 rfl (lv_at hl 0 rfl) ?_
  refine lv_iload_n hx hb dX1_place_1 rfl (lv_at hl 2 rfl) ?_
  refine vx_callv (vx_runV (As := [.int (ev)]) (rest := []) ⟨hx, hb, hml, hown, hts⟩ (t_X1_requireEntry l dC dI cD cZ cI cL h pf f0 f1 f2 f3 po o0 o1 o2 o3 tt t0 NF GF TF OF NO GO TO OO DG nn fb hst (ev) hbad) (cwV 1 hts gX1_place_X1_requireEntry rfl rfl rfl (by decide +kernel) ⟨Nat.le_of_ble_eq_true rfl, Nat.le_of_ble_eq_true rfl⟩) (okJX_pre ⟨hP, hK, hE⟩ hZ) rfl rfl hl.1 rfl (lv_room (Nat.le_of_ble_eq_true rfl)) dX1_place_2 ⟨Nat.le_of_ble_eq_true rfl, Nat.le_of_ble_eq_true rfl⟩) (A0 := fun _ => False) (H0 := s.heap) va_S.rf (fun q _ h => h.elim) (fun q h => h.elim) (fun q _ h => h.elim) (fun E ce q9 u t H1 locs1 ht hvm hw hB hz1 hk1 hS1 hce hcv hcl => ?_) (fun u t H1 locs1 ht hvm hw hB hz1 hk1 hS1 => hw.elim)
  exact vx_out (fun x hx9 => (htab x hx9).elim) hlocks hce hcv hcl (fun t9 ht9 hvm9 => ⟨(), trivial, hB, by rw [ht9]; exact hz1, fun q h9 h8 => by rw [ht9]; exact hk1 q h9 h8⟩) hS1.2.2 (by decide) (by decide)
set_option maxHeartbeats 4000000 in
set_option maxRecDepth 100000 in
theorem t_X1_place_t2 (l : Launch) (dC : Nat → ClassId) (dI : Nat → Nat → Nat) (cD cZ cI cL : ClassId) (h pf f0 f1 f2 f3 po o0 o1 o2 o3 tt t0 : Nat) (NF : Nat → UInt64) (GF TF OF : Nat → Int32) (NO : Nat → UInt64) (GO TO OO : Nat → Int32) (DG : Nat → Int64) (nn : Nat) (fb : Bool) (hst : l.stackTraces = false) (hnn : nn ≤ 6) (en : Nat) (bv : Int32) (sb : Bool) (hen : en < nn) (hbad : vB bv 5 = false) : vx_Met l yX1_place wsX1_place ({ frames := 7, cells := 1, slots := 6, locals := 102 }) (va_Pc [.ref h, .int (nI (Bool.toNat (fb))), .int (nI (en)), .int (bv), .int (nI (Bool.toNat (sb)))] (fun U => okJ dC dI cD cZ cI cL h pf f0 f1 f2 f3 po o0 o1 o2 o3 tt t0 NF GF TF OF NO GO TO OO DG nn fb U U.heap ∧ exZ U U.heap)) (va_Qi (fun (_ : Int32) (_ : Unit) => False) (fun _ _ => True) (fun _ => False)) (xN nsX) 1 6 (fun _ => False) := by
  refine vx_ofW (cc := cX1_place) (maxL := 5) (ret := (some .int)) (by decide) rfl ?_
  intro p e s m args below meth c s₁ B hml htab hv
  obtain ⟨rfl, hO, hZ⟩ := hv
  obtain ⟨hP, hK, hE⟩ := id hO
  have hP : va_P (dC, dI) vwCl [(h, .inr (1, [.ref (cond fb pf po), .ref (cond fb po pf), .ref tt, .int (nI (nn))])), (pf, .inr (0, [.ref f0, .ref f1, .ref f2, .ref f3])), (f0, .inl (cD, 35, .inr (.inr (.inr (.inl (NF)))))), (f1, .inl (cZ, 35, .inl (GF))), (f2, .inl (cI, 30, .inl (TF))), (f3, .inl (cI, 6, .inl (OF))), (po, .inr (0, [.ref o0, .ref o1, .ref o2, .ref o3])), (o0, .inl (cD, 35, .inr (.inr (.inr (.inl (NO)))))), (o1, .inl (cZ, 35, .inl (GO))), (o2, .inl (cI, 30, .inl (TO))), (o3, .inl (cI, 6, .inl (OO))), (tt, .inr (3, [.ref t0])), (t0, .inl (cL, 42, .inr (.inl (DG))))] s.heap := hP
  have hN := hE.nest
  have hx := B.exec
  have hb := B.bytes
  have hr := B.returns
  have hts := atoms_spec (ws := wsX1_place) B.pre
  have hown : s.vm.findClass RX1 = some m.cls := findClass_of_methodNamed B.named
  have hlocks := B.notSynchronized
  have hl := lv_entry ([.ref h, .int (nI (Bool.toNat (fb))), .int (nI (en)), .int (bv), .int (nI (Bool.toNat (sb)))]) (n := 5) (Nat.le_of_ble_eq_true rfl)
  rw [lg_entry_eq]
  generalize (lg_sl ([.ref h, .int (nI (Bool.toNat (fb))), .int (nI (en)), .int (bv), .int (nI (Bool.toNat (sb)))]) ++ List.replicate (5 - (lg_sl ([.ref h, .int (nI (Bool.toNat (fb))), .int (nI (en)), .int (bv), .int (nI (Bool.toNat (sb)))])).length) Slot.unset).toArray = ls at hl ⊢
  have hl : lv_has ls 5 [(0, .ref h), (1, .int (nI (Bool.toNat (fb)))), (2, .int (nI (en))), (3, .int (bv)), (4, .int (nI (Bool.toNat (sb))))] := hl
  refine lv_aload_n hx hb dX1_place_0 rfl (lv_at hl 0 rfl) ?_
  refine lv_iload_n hx hb dX1_place_1 rfl (lv_at hl 2 rfl) ?_
  refine va_csv (va_Run.run (va_runV (As := [.int (nI (en))]) (rest := []) ⟨hx, hb, hml, hown, hts⟩ (c_X1_requireEntry_ok l dC dI cD cZ cI cL h pf f0 f1 f2 f3 po o0 o1 o2 o3 tt t0 NF GF TF OF NO GO TO OO DG nn fb (en) (by omega) (by omega)) (cwV 1 hts gX1_place_X1_requireEntry rfl rfl rfl (by decide +kernel) ⟨Nat.le_of_ble_eq_true rfl, Nat.le_of_ble_eq_true rfl⟩) (okJ_pre ⟨hP, hK, hE⟩) rfl rfl hl.1 rfl (lv_room (Nat.le_of_ble_eq_true rfl)) dX1_place_2 ⟨Nat.zero_le _, Nat.zero_le _⟩)) (fun _ => ?_)
  refine lv_iload_n hx hb dX1_place_5 rfl (lv_at hl 3 rfl) ?_
  refine vx_callv (vx_runS (As := [.int (bv)]) (rest := []) ⟨hx, hb, hml, hown, hts⟩ (t_X1_requireSeat l hst (bv) hbad) (va_cwS 1 hts gX1_place_X1_requireSeat rfl rfl rfl (by decide +kernel) ⟨Nat.le_of_ble_eq_true rfl, Nat.le_of_ble_eq_true rfl⟩) (exX_pre hE hZ) rfl rfl hl.1 rfl (lv_room (Nat.le_of_ble_eq_true rfl)) dX1_place_6 ⟨Nat.le_of_ble_eq_true rfl, Nat.le_of_ble_eq_true rfl⟩) (A0 := fun _ => False) (H0 := s.heap) va_S.rf (fun q _ h => h.elim) (fun q h => h.elim) (fun q _ h => h.elim) (fun E ce q9 u t H1 locs1 ht hvm hw hB hz1 hk1 hS1 hce hcv hcl => ?_) (fun u t H1 locs1 ht hvm hw hB hz1 hk1 hS1 => hw.elim)
  exact vx_out (fun x hx9 => (htab x hx9).elim) hlocks hce hcv hcl (fun t9 ht9 hvm9 => ⟨(), trivial, hB, by rw [ht9]; exact hz1, fun q h9 h8 => by rw [ht9]; exact hk1 q h9 h8⟩) hS1.2.2 (by decide) (by decide)
set_option maxHeartbeats 4000000 in
set_option maxRecDepth 100000 in
theorem t_X1_best_t1 (l : Launch) (dC : Nat → ClassId) (dI : Nat → Nat → Nat) (cD cZ cI cL : ClassId) (h pf f0 f1 f2 f3 po o0 o1 o2 o3 tt t0 : Nat) (NF : Nat → UInt64) (GF TF OF : Nat → Int32) (NO : Nat → UInt64) (GO TO OO : Nat → Int32) (DG : Nat → Int64) (nn : Nat) (fb : Bool) (hst : l.stackTraces = false) (bv hv : Int32) (hbad : vB bv 5 = false) : vx_Met l yX1_best wsX1_best ({ frames := 7, cells := 1, slots := 6, locals := 102 }) (va_Pc [.ref h, .int (nI (Bool.toNat (fb))), .int (bv), .int (hv)] (fun U => okJ dC dI cD cZ cI cL h pf f0 f1 f2 f3 po o0 o1 o2 o3 tt t0 NF GF TF OF NO GO TO OO DG nn fb U U.heap ∧ exZ U U.heap)) (va_Qi (fun (_ : Int32) (_ : Unit) => False) (fun _ _ => True) (fun _ => False)) (xN nsX) 1 6 (fun _ => False) := by
  refine vx_ofW (cc := cX1_best) (maxL := 4) (ret := (some .int)) (by decide) rfl ?_
  intro p e s m args below meth c s₁ B hml htab hv
  obtain ⟨rfl, hO, hZ⟩ := hv
  obtain ⟨hP, hK, hE⟩ := id hO
  have hP : va_P (dC, dI) vwCl [(h, .inr (1, [.ref (cond fb pf po), .ref (cond fb po pf), .ref tt, .int (nI (nn))])), (pf, .inr (0, [.ref f0, .ref f1, .ref f2, .ref f3])), (f0, .inl (cD, 35, .inr (.inr (.inr (.inl (NF)))))), (f1, .inl (cZ, 35, .inl (GF))), (f2, .inl (cI, 30, .inl (TF))), (f3, .inl (cI, 6, .inl (OF))), (po, .inr (0, [.ref o0, .ref o1, .ref o2, .ref o3])), (o0, .inl (cD, 35, .inr (.inr (.inr (.inl (NO)))))), (o1, .inl (cZ, 35, .inl (GO))), (o2, .inl (cI, 30, .inl (TO))), (o3, .inl (cI, 6, .inl (OO))), (tt, .inr (3, [.ref t0])), (t0, .inl (cL, 42, .inr (.inl (DG))))] s.heap := hP
  have hN := hE.nest
  have hx := B.exec
  have hb := B.bytes
  have hr := B.returns
  have hts := atoms_spec (ws := wsX1_best) B.pre
  have hown : s.vm.findClass RX1 = some m.cls := findClass_of_methodNamed B.named
  have hlocks := B.notSynchronized
  have hl := lv_entry ([.ref h, .int (nI (Bool.toNat (fb))), .int (bv), .int (hv)]) (n := 4) (Nat.le_of_ble_eq_true rfl)
  rw [lg_entry_eq]
  generalize (lg_sl ([.ref h, .int (nI (Bool.toNat (fb))), .int (bv), .int (hv)]) ++ List.replicate (4 - (lg_sl ([.ref h, .int (nI (Bool.toNat (fb))), .int (bv), .int (hv)])).length) Slot.unset).toArray = ls at hl ⊢
  have hl : lv_has ls 4 [(0, .ref h), (1, .int (nI (Bool.toNat (fb)))), (2, .int (bv)), (3, .int (hv))] := hl
  refine lv_iload_n hx hb dX1_best_0 rfl (lv_at hl 2 rfl) ?_
  refine vx_callv (vx_runS (As := [.int (bv)]) (rest := []) ⟨hx, hb, hml, hown, hts⟩ (t_X1_requireSeat l hst (bv) hbad) (va_cwS 1 hts gX1_best_X1_requireSeat rfl rfl rfl (by decide +kernel) ⟨Nat.le_of_ble_eq_true rfl, Nat.le_of_ble_eq_true rfl⟩) (exX_pre hE hZ) rfl rfl hl.1 rfl (lv_room (Nat.le_of_ble_eq_true rfl)) dX1_best_1 ⟨Nat.le_of_ble_eq_true rfl, Nat.le_of_ble_eq_true rfl⟩) (A0 := fun _ => False) (H0 := s.heap) va_S.rf (fun q _ h => h.elim) (fun q h => h.elim) (fun q _ h => h.elim) (fun E ce q9 u t H1 locs1 ht hvm hw hB hz1 hk1 hS1 hce hcv hcl => ?_) (fun u t H1 locs1 ht hvm hw hB hz1 hk1 hS1 => hw.elim)
  exact vx_out (fun x hx9 => (htab x hx9).elim) hlocks hce hcv hcl (fun t9 ht9 hvm9 => ⟨(), trivial, hB, by rw [ht9]; exact hz1, fun q h9 h8 => by rw [ht9]; exact hk1 q h9 h8⟩) hS1.2.2 (by decide) (by decide)
set_option maxHeartbeats 4000000 in
set_option maxRecDepth 100000 in
theorem t_X1_best_t2 (l : Launch) (dC : Nat → ClassId) (dI : Nat → Nat → Nat) (cD cZ cI cL : ClassId) (h pf f0 f1 f2 f3 po o0 o1 o2 o3 tt t0 : Nat) (NF : Nat → UInt64) (GF TF OF : Nat → Int32) (NO : Nat → UInt64) (GO TO OO : Nat → Int32) (DG : Nat → Int64) (nn : Nat) (fb : Bool) (hst : l.stackTraces = false) (bn : Nat) (hv : Int32) (hbn : bn < 5) (hbad : vB hv 4 = false) : vx_Met l yX1_best wsX1_best ({ frames := 7, cells := 1, slots := 6, locals := 103 }) (va_Pc [.ref h, .int (nI (Bool.toNat (fb))), .int (nI (bn)), .int (hv)] (fun U => okJ dC dI cD cZ cI cL h pf f0 f1 f2 f3 po o0 o1 o2 o3 tt t0 NF GF TF OF NO GO TO OO DG nn fb U U.heap ∧ exZ U U.heap)) (va_Qi (fun (_ : Int32) (_ : Unit) => False) (fun _ _ => True) (fun _ => False)) (xN iaX) 1 6 (fun _ => False) := by
  refine vx_ofW (cc := cX1_best) (maxL := 4) (ret := (some .int)) (by decide) rfl ?_
  intro p e s m args below meth c s₁ B hml htab hv
  obtain ⟨rfl, hO, hZ⟩ := hv
  obtain ⟨hP, hK, hE⟩ := id hO
  have hP : va_P (dC, dI) vwCl [(h, .inr (1, [.ref (cond fb pf po), .ref (cond fb po pf), .ref tt, .int (nI (nn))])), (pf, .inr (0, [.ref f0, .ref f1, .ref f2, .ref f3])), (f0, .inl (cD, 35, .inr (.inr (.inr (.inl (NF)))))), (f1, .inl (cZ, 35, .inl (GF))), (f2, .inl (cI, 30, .inl (TF))), (f3, .inl (cI, 6, .inl (OF))), (po, .inr (0, [.ref o0, .ref o1, .ref o2, .ref o3])), (o0, .inl (cD, 35, .inr (.inr (.inr (.inl (NO)))))), (o1, .inl (cZ, 35, .inl (GO))), (o2, .inl (cI, 30, .inl (TO))), (o3, .inl (cI, 6, .inl (OO))), (tt, .inr (3, [.ref t0])), (t0, .inl (cL, 42, .inr (.inl (DG))))] s.heap := hP
  have hN := hE.nest
  have hx := B.exec
  have hb := B.bytes
  have hr := B.returns
  have hts := atoms_spec (ws := wsX1_best) B.pre
  have hown : s.vm.findClass RX1 = some m.cls := findClass_of_methodNamed B.named
  have hlocks := B.notSynchronized
  have hl := lv_entry ([.ref h, .int (nI (Bool.toNat (fb))), .int (nI (bn)), .int (hv)]) (n := 4) (Nat.le_of_ble_eq_true rfl)
  rw [lg_entry_eq]
  generalize (lg_sl ([.ref h, .int (nI (Bool.toNat (fb))), .int (nI (bn)), .int (hv)]) ++ List.replicate (4 - (lg_sl ([.ref h, .int (nI (Bool.toNat (fb))), .int (nI (bn)), .int (hv)])).length) Slot.unset).toArray = ls at hl ⊢
  have hl : lv_has ls 4 [(0, .ref h), (1, .int (nI (Bool.toNat (fb)))), (2, .int (nI (bn))), (3, .int (hv))] := hl
  refine lv_iload_n hx hb dX1_best_0 rfl (lv_at hl 2 rfl) ?_
  refine va_csv (va_Run.run (va_runS (As := [.int (nI (bn))]) (rest := []) ⟨hx, hb, hml, hown, hts⟩ (c_X1_requireSeat_ok l (bn) (by omega)) (va_cwS 1 hts gX1_best_X1_requireSeat rfl rfl rfl (by decide +kernel) ⟨Nat.le_of_ble_eq_true rfl, Nat.le_of_ble_eq_true rfl⟩) preT rfl rfl hl.1 rfl (lv_room (Nat.le_of_ble_eq_true rfl)) dX1_best_1 ⟨Nat.zero_le _, Nat.zero_le _⟩)) (fun _ => ?_)
  refine lv_iload_n hx hb dX1_best_4 rfl (lv_at hl 3 rfl) ?_
  refine lv_iconst (v := nI 4) hx hb dX1_best_5 (by decide) ?_
  refine vx_callv (vx_runS (As := [.int (hv), .int (nI (4))]) (rest := []) ⟨hx, hb, hml, hown, hts⟩ (t_X1_requireBelow l hst (hv) (4) hbad) (va_cwS 2 hts gX1_best_X1_requireBelow rfl rfl rfl (by decide +kernel) ⟨Nat.le_of_ble_eq_true rfl, Nat.le_of_ble_eq_true rfl⟩) (exX_pre hE hZ) rfl rfl hl.1 rfl (lv_room (Nat.le_of_ble_eq_true rfl)) dX1_best_6 ⟨Nat.le_of_ble_eq_true rfl, Nat.le_of_ble_eq_true rfl⟩) (A0 := fun _ => False) (H0 := s.heap) va_S.rf (fun q _ h => h.elim) (fun q h => h.elim) (fun q _ h => h.elim) (fun E ce q9 u t H1 locs1 ht hvm hw hB hz1 hk1 hS1 hce hcv hcl => ?_) (fun u t H1 locs1 ht hvm hw hB hz1 hk1 hS1 => hw.elim)
  exact vx_out (fun x hx9 => (htab x hx9).elim) hlocks hce hcv hcl (fun t9 ht9 hvm9 => ⟨(), trivial, hB, by rw [ht9]; exact hz1, fun q h9 h8 => by rw [ht9]; exact hk1 q h9 h8⟩) hS1.2.2 (by decide) (by decide)
set_option maxHeartbeats 4000000 in
set_option maxRecDepth 100000 in
theorem t_X1_against_t1 (l : Launch) (dC : Nat → ClassId) (dI : Nat → Nat → Nat) (cD cZ cI cL : ClassId) (h pf f0 f1 f2 f3 po o0 o1 o2 o3 tt t0 : Nat) (NF : Nat → UInt64) (GF TF OF : Nat → Int32) (NO : Nat → UInt64) (GO TO OO : Nat → Int32) (DG : Nat → Int64) (nn : Nat) (fb : Bool) (hst : l.stackTraces = false) (ev bv kv : Int32) (hbad : vB ev nn = false) : vx_Met l yX1_against wsX1_against ({ frames := 7, cells := 1, slots := 6, locals := 103 }) (va_Pc [.ref h, .int (nI (Bool.toNat (fb))), .int (ev), .int (bv), .int (kv)] (fun U => okJ dC dI cD cZ cI cL h pf f0 f1 f2 f3 po o0 o1 o2 o3 tt t0 NF GF TF OF NO GO TO OO DG nn fb U U.heap ∧ exZ U U.heap)) (va_Qi (fun (_ : Int32) (_ : Unit) => False) (fun _ _ => True) (fun _ => False)) (xN nsX) 1 6 (fun _ => False) := by
  refine vx_ofW (cc := cX1_against) (maxL := 5) (ret := (some .int)) (by decide) rfl ?_
  intro p e s m args below meth c s₁ B hml htab hv
  obtain ⟨rfl, hO, hZ⟩ := hv
  obtain ⟨hP, hK, hE⟩ := id hO
  have hP : va_P (dC, dI) vwCl [(h, .inr (1, [.ref (cond fb pf po), .ref (cond fb po pf), .ref tt, .int (nI (nn))])), (pf, .inr (0, [.ref f0, .ref f1, .ref f2, .ref f3])), (f0, .inl (cD, 35, .inr (.inr (.inr (.inl (NF)))))), (f1, .inl (cZ, 35, .inl (GF))), (f2, .inl (cI, 30, .inl (TF))), (f3, .inl (cI, 6, .inl (OF))), (po, .inr (0, [.ref o0, .ref o1, .ref o2, .ref o3])), (o0, .inl (cD, 35, .inr (.inr (.inr (.inl (NO)))))), (o1, .inl (cZ, 35, .inl (GO))), (o2, .inl (cI, 30, .inl (TO))), (o3, .inl (cI, 6, .inl (OO))), (tt, .inr (3, [.ref t0])), (t0, .inl (cL, 42, .inr (.inl (DG))))] s.heap := hP
  have hN := hE.nest
  have hx := B.exec
  have hb := B.bytes
  have hr := B.returns
  have hts := atoms_spec (ws := wsX1_against) B.pre
  have hown : s.vm.findClass RX1 = some m.cls := findClass_of_methodNamed B.named
  have hlocks := B.notSynchronized
  have hl := lv_entry ([.ref h, .int (nI (Bool.toNat (fb))), .int (ev), .int (bv), .int (kv)]) (n := 5) (Nat.le_of_ble_eq_true rfl)
  rw [lg_entry_eq]
  generalize (lg_sl ([.ref h, .int (nI (Bool.toNat (fb))), .int (ev), .int (bv), .int (kv)]) ++ List.replicate (5 - (lg_sl ([.ref h, .int (nI (Bool.toNat (fb))), .int (ev), .int (bv), .int (kv)])).length) Slot.unset).toArray = ls at hl ⊢
  have hl : lv_has ls 5 [(0, .ref h), (1, .int (nI (Bool.toNat (fb)))), (2, .int (ev)), (3, .int (bv)), (4, .int (kv))] := hl
  refine lv_aload_n hx hb dX1_against_0 rfl (lv_at hl 0 rfl) ?_
  refine lv_iload_n hx hb dX1_against_1 rfl (lv_at hl 2 rfl) ?_
  refine vx_callv (vx_runV (As := [.int (ev)]) (rest := []) ⟨hx, hb, hml, hown, hts⟩ (t_X1_requireEntry l dC dI cD cZ cI cL h pf f0 f1 f2 f3 po o0 o1 o2 o3 tt t0 NF GF TF OF NO GO TO OO DG nn fb hst (ev) hbad) (cwV 1 hts gX1_against_X1_requireEntry rfl rfl rfl (by decide +kernel) ⟨Nat.le_of_ble_eq_true rfl, Nat.le_of_ble_eq_true rfl⟩) (okJX_pre ⟨hP, hK, hE⟩ hZ) rfl rfl hl.1 rfl (lv_room (Nat.le_of_ble_eq_true rfl)) dX1_against_2 ⟨Nat.le_of_ble_eq_true rfl, Nat.le_of_ble_eq_true rfl⟩) (A0 := fun _ => False) (H0 := s.heap) va_S.rf (fun q _ h => h.elim) (fun q h => h.elim) (fun q _ h => h.elim) (fun E ce q9 u t H1 locs1 ht hvm hw hB hz1 hk1 hS1 hce hcv hcl => ?_) (fun u t H1 locs1 ht hvm hw hB hz1 hk1 hS1 => hw.elim)
  exact vx_out (fun x hx9 => (htab x hx9).elim) hlocks hce hcv hcl (fun t9 ht9 hvm9 => ⟨(), trivial, hB, by rw [ht9]; exact hz1, fun q h9 h8 => by rw [ht9]; exact hk1 q h9 h8⟩) hS1.2.2 (by decide) (by decide)
set_option maxHeartbeats 4000000 in
set_option maxRecDepth 100000 in
theorem t_X1_against_t2 (l : Launch) (dC : Nat → ClassId) (dI : Nat → Nat → Nat) (cD cZ cI cL : ClassId) (h pf f0 f1 f2 f3 po o0 o1 o2 o3 tt t0 : Nat) (NF : Nat → UInt64) (GF TF OF : Nat → Int32) (NO : Nat → UInt64) (GO TO OO : Nat → Int32) (DG : Nat → Int64) (nn : Nat) (fb : Bool) (hst : l.stackTraces = false) (hnn : nn ≤ 6) (ea : Nat) (bv kv : Int32) (hea : ea < nn) (hbad : vB bv nn = false) : vx_Met l yX1_against wsX1_against ({ frames := 7, cells := 1, slots := 6, locals := 103 }) (va_Pc [.ref h, .int (nI (Bool.toNat (fb))), .int (nI (ea)), .int (bv), .int (kv)] (fun U => okJ dC dI cD cZ cI cL h pf f0 f1 f2 f3 po o0 o1 o2 o3 tt t0 NF GF TF OF NO GO TO OO DG nn fb U U.heap ∧ exZ U U.heap)) (va_Qi (fun (_ : Int32) (_ : Unit) => False) (fun _ _ => True) (fun _ => False)) (xN nsX) 1 6 (fun _ => False) := by
  refine vx_ofW (cc := cX1_against) (maxL := 5) (ret := (some .int)) (by decide) rfl ?_
  intro p e s m args below meth c s₁ B hml htab hv
  obtain ⟨rfl, hO, hZ⟩ := hv
  obtain ⟨hP, hK, hE⟩ := id hO
  have hP : va_P (dC, dI) vwCl [(h, .inr (1, [.ref (cond fb pf po), .ref (cond fb po pf), .ref tt, .int (nI (nn))])), (pf, .inr (0, [.ref f0, .ref f1, .ref f2, .ref f3])), (f0, .inl (cD, 35, .inr (.inr (.inr (.inl (NF)))))), (f1, .inl (cZ, 35, .inl (GF))), (f2, .inl (cI, 30, .inl (TF))), (f3, .inl (cI, 6, .inl (OF))), (po, .inr (0, [.ref o0, .ref o1, .ref o2, .ref o3])), (o0, .inl (cD, 35, .inr (.inr (.inr (.inl (NO)))))), (o1, .inl (cZ, 35, .inl (GO))), (o2, .inl (cI, 30, .inl (TO))), (o3, .inl (cI, 6, .inl (OO))), (tt, .inr (3, [.ref t0])), (t0, .inl (cL, 42, .inr (.inl (DG))))] s.heap := hP
  have hN := hE.nest
  have hx := B.exec
  have hb := B.bytes
  have hr := B.returns
  have hts := atoms_spec (ws := wsX1_against) B.pre
  have hown : s.vm.findClass RX1 = some m.cls := findClass_of_methodNamed B.named
  have hlocks := B.notSynchronized
  have hl := lv_entry ([.ref h, .int (nI (Bool.toNat (fb))), .int (nI (ea)), .int (bv), .int (kv)]) (n := 5) (Nat.le_of_ble_eq_true rfl)
  rw [lg_entry_eq]
  generalize (lg_sl ([.ref h, .int (nI (Bool.toNat (fb))), .int (nI (ea)), .int (bv), .int (kv)]) ++ List.replicate (5 - (lg_sl ([.ref h, .int (nI (Bool.toNat (fb))), .int (nI (ea)), .int (bv), .int (kv)])).length) Slot.unset).toArray = ls at hl ⊢
  have hl : lv_has ls 5 [(0, .ref h), (1, .int (nI (Bool.toNat (fb)))), (2, .int (nI (ea))), (3, .int (bv)), (4, .int (kv))] := hl
  refine lv_aload_n hx hb dX1_against_0 rfl (lv_at hl 0 rfl) ?_
  refine lv_iload_n hx hb dX1_against_1 rfl (lv_at hl 2 rfl) ?_
  refine va_csv (va_Run.run (va_runV (As := [.int (nI (ea))]) (rest := []) ⟨hx, hb, hml, hown, hts⟩ (c_X1_requireEntry_ok l dC dI cD cZ cI cL h pf f0 f1 f2 f3 po o0 o1 o2 o3 tt t0 NF GF TF OF NO GO TO OO DG nn fb (ea) (by omega) (by omega)) (cwV 1 hts gX1_against_X1_requireEntry rfl rfl rfl (by decide +kernel) ⟨Nat.le_of_ble_eq_true rfl, Nat.le_of_ble_eq_true rfl⟩) (okJ_pre ⟨hP, hK, hE⟩) rfl rfl hl.1 rfl (lv_room (Nat.le_of_ble_eq_true rfl)) dX1_against_2 ⟨Nat.zero_le _, Nat.zero_le _⟩)) (fun _ => ?_)
  refine lv_aload_n hx hb dX1_against_5 rfl (lv_at hl 0 rfl) ?_
  refine lv_iload_n hx hb dX1_against_6 rfl (lv_at hl 3 rfl) ?_
  refine vx_callv (vx_runV (As := [.int (bv)]) (rest := []) ⟨hx, hb, hml, hown, hts⟩ (t_X1_requireEntry l dC dI cD cZ cI cL h pf f0 f1 f2 f3 po o0 o1 o2 o3 tt t0 NF GF TF OF NO GO TO OO DG nn fb hst (bv) hbad) (cwV 1 hts gX1_against_X1_requireEntry rfl rfl rfl (by decide +kernel) ⟨Nat.le_of_ble_eq_true rfl, Nat.le_of_ble_eq_true rfl⟩) (okJX_pre ⟨hP, hK, hE⟩ hZ) rfl rfl hl.1 rfl (lv_room (Nat.le_of_ble_eq_true rfl)) dX1_against_7 ⟨Nat.le_of_ble_eq_true rfl, Nat.le_of_ble_eq_true rfl⟩) (A0 := fun _ => False) (H0 := s.heap) va_S.rf (fun q _ h => h.elim) (fun q h => h.elim) (fun q _ h => h.elim) (fun E ce q9 u t H1 locs1 ht hvm hw hB hz1 hk1 hS1 hce hcv hcl => ?_) (fun u t H1 locs1 ht hvm hw hB hz1 hk1 hS1 => hw.elim)
  exact vx_out (fun x hx9 => (htab x hx9).elim) hlocks hce hcv hcl (fun t9 ht9 hvm9 => ⟨(), trivial, hB, by rw [ht9]; exact hz1, fun q h9 h8 => by rw [ht9]; exact hk1 q h9 h8⟩) hS1.2.2 (by decide) (by decide)
set_option maxHeartbeats 4000000 in
set_option maxRecDepth 100000 in
theorem t_X1_against_t3 (l : Launch) (dC : Nat → ClassId) (dI : Nat → Nat → Nat) (cD cZ cI cL : ClassId) (h pf f0 f1 f2 f3 po o0 o1 o2 o3 tt t0 : Nat) (NF : Nat → UInt64) (GF TF OF : Nat → Int32) (NO : Nat → UInt64) (GO TO OO : Nat → Int32) (DG : Nat → Int64) (nn : Nat) (fb : Bool) (hst : l.stackTraces = false) (hnn : nn ≤ 6) (ea eb : Nat) (kv : Int32) (hea : ea < nn) (heb : eb < nn) (hbad : vB kv 5 = false) : vx_Met l yX1_against wsX1_against ({ frames := 7, cells := 1, slots := 6, locals := 103 }) (va_Pc [.ref h, .int (nI (Bool.toNat (fb))), .int (nI (ea)), .int (nI (eb)), .int (kv)] (fun U => okJ dC dI cD cZ cI cL h pf f0 f1 f2 f3 po o0 o1 o2 o3 tt t0 NF GF TF OF NO GO TO OO DG nn fb U U.heap ∧ exZ U U.heap)) (va_Qi (fun (_ : Int32) (_ : Unit) => False) (fun _ _ => True) (fun _ => False)) (xN iaX) 1 6 (fun _ => False) := by
  refine vx_ofW (cc := cX1_against) (maxL := 5) (ret := (some .int)) (by decide) rfl ?_
  intro p e s m args below meth c s₁ B hml htab hv
  obtain ⟨rfl, hO, hZ⟩ := hv
  obtain ⟨hP, hK, hE⟩ := id hO
  have hP : va_P (dC, dI) vwCl [(h, .inr (1, [.ref (cond fb pf po), .ref (cond fb po pf), .ref tt, .int (nI (nn))])), (pf, .inr (0, [.ref f0, .ref f1, .ref f2, .ref f3])), (f0, .inl (cD, 35, .inr (.inr (.inr (.inl (NF)))))), (f1, .inl (cZ, 35, .inl (GF))), (f2, .inl (cI, 30, .inl (TF))), (f3, .inl (cI, 6, .inl (OF))), (po, .inr (0, [.ref o0, .ref o1, .ref o2, .ref o3])), (o0, .inl (cD, 35, .inr (.inr (.inr (.inl (NO)))))), (o1, .inl (cZ, 35, .inl (GO))), (o2, .inl (cI, 30, .inl (TO))), (o3, .inl (cI, 6, .inl (OO))), (tt, .inr (3, [.ref t0])), (t0, .inl (cL, 42, .inr (.inl (DG))))] s.heap := hP
  have hN := hE.nest
  have hx := B.exec
  have hb := B.bytes
  have hr := B.returns
  have hts := atoms_spec (ws := wsX1_against) B.pre
  have hown : s.vm.findClass RX1 = some m.cls := findClass_of_methodNamed B.named
  have hlocks := B.notSynchronized
  have hl := lv_entry ([.ref h, .int (nI (Bool.toNat (fb))), .int (nI (ea)), .int (nI (eb)), .int (kv)]) (n := 5) (Nat.le_of_ble_eq_true rfl)
  rw [lg_entry_eq]
  generalize (lg_sl ([.ref h, .int (nI (Bool.toNat (fb))), .int (nI (ea)), .int (nI (eb)), .int (kv)]) ++ List.replicate (5 - (lg_sl ([.ref h, .int (nI (Bool.toNat (fb))), .int (nI (ea)), .int (nI (eb)), .int (kv)])).length) Slot.unset).toArray = ls at hl ⊢
  have hl : lv_has ls 5 [(0, .ref h), (1, .int (nI (Bool.toNat (fb)))), (2, .int (nI (ea))), (3, .int (nI (eb))), (4, .int (kv))] := hl
  refine lv_aload_n hx hb dX1_against_0 rfl (lv_at hl 0 rfl) ?_
  refine lv_iload_n hx hb dX1_against_1 rfl (lv_at hl 2 rfl) ?_
  refine va_csv (va_Run.run (va_runV (As := [.int (nI (ea))]) (rest := []) ⟨hx, hb, hml, hown, hts⟩ (c_X1_requireEntry_ok l dC dI cD cZ cI cL h pf f0 f1 f2 f3 po o0 o1 o2 o3 tt t0 NF GF TF OF NO GO TO OO DG nn fb (ea) (by omega) (by omega)) (cwV 1 hts gX1_against_X1_requireEntry rfl rfl rfl (by decide +kernel) ⟨Nat.le_of_ble_eq_true rfl, Nat.le_of_ble_eq_true rfl⟩) (okJ_pre ⟨hP, hK, hE⟩) rfl rfl hl.1 rfl (lv_room (Nat.le_of_ble_eq_true rfl)) dX1_against_2 ⟨Nat.zero_le _, Nat.zero_le _⟩)) (fun _ => ?_)
  refine lv_aload_n hx hb dX1_against_5 rfl (lv_at hl 0 rfl) ?_
  refine lv_iload_n hx hb dX1_against_6 rfl (lv_at hl 3 rfl) ?_
  refine va_csv (va_Run.run (va_runV (As := [.int (nI (eb))]) (rest := []) ⟨hx, hb, hml, hown, hts⟩ (c_X1_requireEntry_ok l dC dI cD cZ cI cL h pf f0 f1 f2 f3 po o0 o1 o2 o3 tt t0 NF GF TF OF NO GO TO OO DG nn fb (eb) (by omega) (by omega)) (cwV 1 hts gX1_against_X1_requireEntry rfl rfl rfl (by decide +kernel) ⟨Nat.le_of_ble_eq_true rfl, Nat.le_of_ble_eq_true rfl⟩) (okJ_pre ⟨hP, hK, hE⟩) rfl rfl hl.1 rfl (lv_room (Nat.le_of_ble_eq_true rfl)) dX1_against_7 ⟨Nat.zero_le _, Nat.zero_le _⟩)) (fun _ => ?_)
  refine lv_iload hx hb dX1_against_10 (lv_at hl 4 rfl) ?_
  refine lv_iconst (v := nI 5) hx hb dX1_against_12 (by decide) ?_
  refine vx_callv (vx_runS (As := [.int (kv), .int (nI (5))]) (rest := []) ⟨hx, hb, hml, hown, hts⟩ (t_X1_requireBelow l hst (kv) (5) hbad) (va_cwS 2 hts gX1_against_X1_requireBelow rfl rfl rfl (by decide +kernel) ⟨Nat.le_of_ble_eq_true rfl, Nat.le_of_ble_eq_true rfl⟩) (exX_pre hE hZ) rfl rfl hl.1 rfl (lv_room (Nat.le_of_ble_eq_true rfl)) dX1_against_13 ⟨Nat.le_of_ble_eq_true rfl, Nat.le_of_ble_eq_true rfl⟩) (A0 := fun _ => False) (H0 := s.heap) va_S.rf (fun q _ h => h.elim) (fun q h => h.elim) (fun q _ h => h.elim) (fun E ce q9 u t H1 locs1 ht hvm hw hB hz1 hk1 hS1 hce hcv hcl => ?_) (fun u t H1 locs1 ht hvm hw hB hz1 hk1 hS1 => hw.elim)
  exact vx_out (fun x hx9 => (htab x hx9).elim) hlocks hce hcv hcl (fun t9 ht9 hvm9 => ⟨(), trivial, hB, by rw [ht9]; exact hz1, fun q h9 h8 => by rw [ht9]; exact hk1 q h9 h8⟩) hS1.2.2 (by decide) (by decide)
set_option maxHeartbeats 4000000 in
set_option maxRecDepth 100000 in
theorem t_X1_sum_t1 (l : Launch) (dC : Nat → ClassId) (dI : Nat → Nat → Nat) (cD cZ cI cL : ClassId) (h pf f0 f1 f2 f3 po o0 o1 o2 o3 tt t0 : Nat) (NF : Nat → UInt64) (GF TF OF : Nat → Int32) (NO : Nat → UInt64) (GO TO OO : Nat → Int32) (DG : Nat → Int64) (nn : Nat) (fb : Bool) (hst : l.stackTraces = false) (ev : Int32) (hbad : vB ev nn = false) : vx_Met l yX1_sum wsX1_sum ({ frames := 7, cells := 1, slots := 6, locals := 103 }) (va_Pc [.ref h, .int (nI (Bool.toNat (fb))), .int (ev)] (fun U => okJ dC dI cD cZ cI cL h pf f0 f1 f2 f3 po o0 o1 o2 o3 tt t0 NF GF TF OF NO GO TO OO DG nn fb U U.heap ∧ exZ U U.heap)) (va_Ql (fun (_ : Int64) (_ : Unit) => False) (fun _ _ => True) (fun _ => False)) (xN nsX) 1 6 (fun _ => False) := by
  refine vx_ofW (cc := cX1_sum) (maxL := 3) (ret := (some .long)) (by decide) rfl ?_
  intro p e s m args below meth c s₁ B hml htab hv
  obtain ⟨rfl, hO, hZ⟩ := hv
  obtain ⟨hP, hK, hE⟩ := id hO
  have hP : va_P (dC, dI) vwCl [(h, .inr (1, [.ref (cond fb pf po), .ref (cond fb po pf), .ref tt, .int (nI (nn))])), (pf, .inr (0, [.ref f0, .ref f1, .ref f2, .ref f3])), (f0, .inl (cD, 35, .inr (.inr (.inr (.inl (NF)))))), (f1, .inl (cZ, 35, .inl (GF))), (f2, .inl (cI, 30, .inl (TF))), (f3, .inl (cI, 6, .inl (OF))), (po, .inr (0, [.ref o0, .ref o1, .ref o2, .ref o3])), (o0, .inl (cD, 35, .inr (.inr (.inr (.inl (NO)))))), (o1, .inl (cZ, 35, .inl (GO))), (o2, .inl (cI, 30, .inl (TO))), (o3, .inl (cI, 6, .inl (OO))), (tt, .inr (3, [.ref t0])), (t0, .inl (cL, 42, .inr (.inl (DG))))] s.heap := hP
  have hN := hE.nest
  have hx := B.exec
  have hb := B.bytes
  have hr := B.returns
  have hts := atoms_spec (ws := wsX1_sum) B.pre
  have hown : s.vm.findClass RX1 = some m.cls := findClass_of_methodNamed B.named
  have hlocks := B.notSynchronized
  have hl := lv_entry ([.ref h, .int (nI (Bool.toNat (fb))), .int (ev)]) (n := 3) (Nat.le_of_ble_eq_true rfl)
  rw [lg_entry_eq]
  generalize (lg_sl ([.ref h, .int (nI (Bool.toNat (fb))), .int (ev)]) ++ List.replicate (3 - (lg_sl ([.ref h, .int (nI (Bool.toNat (fb))), .int (ev)])).length) Slot.unset).toArray = ls at hl ⊢
  have hl : lv_has ls 3 [(0, .ref h), (1, .int (nI (Bool.toNat (fb)))), (2, .int (ev))] := hl
  refine lv_aload_n hx hb dX1_sum_0 rfl (lv_at hl 0 rfl) ?_
  refine lv_iload_n hx hb dX1_sum_1 rfl (lv_at hl 2 rfl) ?_
  refine vx_callv (vx_runV (As := [.int (ev)]) (rest := []) ⟨hx, hb, hml, hown, hts⟩ (t_X1_requireEntry l dC dI cD cZ cI cL h pf f0 f1 f2 f3 po o0 o1 o2 o3 tt t0 NF GF TF OF NO GO TO OO DG nn fb hst (ev) hbad) (cwV 1 hts gX1_sum_X1_requireEntry rfl rfl rfl (by decide +kernel) ⟨Nat.le_of_ble_eq_true rfl, Nat.le_of_ble_eq_true rfl⟩) (okJX_pre ⟨hP, hK, hE⟩ hZ) rfl rfl hl.1 rfl (lv_room (Nat.le_of_ble_eq_true rfl)) dX1_sum_2 ⟨Nat.le_of_ble_eq_true rfl, Nat.le_of_ble_eq_true rfl⟩) (A0 := fun _ => False) (H0 := s.heap) va_S.rf (fun q _ h => h.elim) (fun q h => h.elim) (fun q _ h => h.elim) (fun E ce q9 u t H1 locs1 ht hvm hw hB hz1 hk1 hS1 hce hcv hcl => ?_) (fun u t H1 locs1 ht hvm hw hB hz1 hk1 hS1 => hw.elim)
  exact vx_out (fun x hx9 => (htab x hx9).elim) hlocks hce hcv hcl (fun t9 ht9 hvm9 => ⟨(), trivial, hB, by rw [ht9]; exact hz1, fun q h9 h8 => by rw [ht9]; exact hk1 q h9 h8⟩) hS1.2.2 (by decide) (by decide)
set_option maxHeartbeats 4000000 in
set_option maxRecDepth 100000 in
theorem t_X1_count_t1 (l : Launch) (dC : Nat → ClassId) (dI : Nat → Nat → Nat) (cD cZ cI cL : ClassId) (h pf f0 f1 f2 f3 po o0 o1 o2 o3 tt t0 : Nat) (NF : Nat → UInt64) (GF TF OF : Nat → Int32) (NO : Nat → UInt64) (GO TO OO : Nat → Int32) (DG : Nat → Int64) (nn : Nat) (hst : l.stackTraces = false) (wv : Int32) (hbad : vB wv 9 = false) : vx_Met l yX1_count wsX1_count ({ frames := 7, cells := 1, slots := 6, locals := 103 }) (va_Pc [.ref h, .int (wv)] (fun U => okJ dC dI cD cZ cI cL h pf f0 f1 f2 f3 po o0 o1 o2 o3 tt t0 NF GF TF OF NO GO TO OO DG nn true U U.heap ∧ exZ U U.heap)) (va_Qi (fun (_ : Int32) (_ : Unit) => False) (fun _ _ => True) (fun _ => False)) (xN iaX) 1 6 (fun _ => False) := by
  refine vx_ofW (cc := cX1_count) (maxL := 2) (ret := (some .int)) (by decide) rfl ?_
  intro p e s m args below meth c s₁ B hml htab hv
  obtain ⟨rfl, hO, hZ⟩ := hv
  obtain ⟨hP, hK, hE⟩ := id hO
  have hP : va_P (dC, dI) vwCl [(h, .inr (1, [.ref pf, .ref po, .ref tt, .int (nI (nn))])), (pf, .inr (0, [.ref f0, .ref f1, .ref f2, .ref f3])), (f0, .inl (cD, 35, .inr (.inr (.inr (.inl (NF)))))), (f1, .inl (cZ, 35, .inl (GF))), (f2, .inl (cI, 30, .inl (TF))), (f3, .inl (cI, 6, .inl (OF))), (po, .inr (0, [.ref o0, .ref o1, .ref o2, .ref o3])), (o0, .inl (cD, 35, .inr (.inr (.inr (.inl (NO)))))), (o1, .inl (cZ, 35, .inl (GO))), (o2, .inl (cI, 30, .inl (TO))), (o3, .inl (cI, 6, .inl (OO))), (tt, .inr (3, [.ref t0])), (t0, .inl (cL, 42, .inr (.inl (DG))))] s.heap := hP
  have hN := hE.nest
  have hx := B.exec
  have hb := B.bytes
  have hr := B.returns
  have hts := atoms_spec (ws := wsX1_count) B.pre
  have hown : s.vm.findClass RX1 = some m.cls := findClass_of_methodNamed B.named
  have hlocks := B.notSynchronized
  have hl := lv_entry ([.ref h, .int (wv)]) (n := 2) (Nat.le_of_ble_eq_true rfl)
  rw [lg_entry_eq]
  generalize (lg_sl ([.ref h, .int (wv)]) ++ List.replicate (2 - (lg_sl ([.ref h, .int (wv)])).length) Slot.unset).toArray = ls at hl ⊢
  have hl : lv_has ls 2 [(0, .ref h), (1, .int (wv))] := hl
  refine lv_iload_n hx hb dX1_count_0 rfl (lv_at hl 1 rfl) ?_
  refine lv_bipush (v := nI 9) hx hb dX1_count_1 (by decide) ?_
  refine vx_callv (vx_runS (As := [.int (wv), .int (nI (9))]) (rest := []) ⟨hx, hb, hml, hown, hts⟩ (t_X1_requireBelow l hst (wv) (9) hbad) (va_cwS 2 hts gX1_count_X1_requireBelow rfl rfl rfl (by decide +kernel) ⟨Nat.le_of_ble_eq_true rfl, Nat.le_of_ble_eq_true rfl⟩) (exX_pre hE hZ) rfl rfl hl.1 rfl (lv_room (Nat.le_of_ble_eq_true rfl)) dX1_count_3 ⟨Nat.le_of_ble_eq_true rfl, Nat.le_of_ble_eq_true rfl⟩) (A0 := fun _ => False) (H0 := s.heap) va_S.rf (fun q _ h => h.elim) (fun q h => h.elim) (fun q _ h => h.elim) (fun E ce q9 u t H1 locs1 ht hvm hw hB hz1 hk1 hS1 hce hcv hcl => ?_) (fun u t H1 locs1 ht hvm hw hB hz1 hk1 hS1 => hw.elim)
  exact vx_out (fun x hx9 => (htab x hx9).elim) hlocks hce hcv hcl (fun t9 ht9 hvm9 => ⟨(), trivial, hB, by rw [ht9]; exact hz1, fun q h9 h8 => by rw [ht9]; exact hk1 q h9 h8⟩) hS1.2.2 (by decide) (by decide)
