set_option maxHeartbeats 4000000 in
set_option maxRecDepth 100000 in
theorem c_L_clear_t2N (l : Launch) (dC : Nat → ClassId) (dI : Nat → Nat → Nat) (cD cZ cI cL : ClassId) (h pf f0 f1 f2 f3 po o0 o1 o2 o3 tt t0 : Nat) (NF : Nat → UInt64) (GF TF OF : Nat → Int32) (NO : Nat → UInt64) (GO TO OO : Nat → Int32) (DG : Nat → Int64) (nn : Nat) (fb : Bool) (ox : Nat) (F : Nat → Int64) (sz : Nat) (hst : l.stackTraces = false) (bv : Int32) (hbad : vB bv 5 = false) : Met l yL_clear wsL_clear ({ frames := 8, cells := 1, slots := 6, locals := 125 }) (va_Pc [.ref h, .int (nI (Bool.toNat (fb))), .int (-1), .int (bv), .ref ox] (fun U => U.heap.size = sz ∧ okLX dC dI cD cZ cI cL (wL cD cZ cI cL h pf f0 f1 f2 f3 po o0 o1 o2 o3 tt t0 NF GF TF OF NO GO TO OO DG nn fb ox F) U U.heap ∧ va_D (fun _ => True) (wL cD cZ cI cL h pf f0 f1 f2 f3 po o0 o1 o2 o3 tt t0 NF GF TF OF NO GO TO OO DG nn fb ox F))) (va_Qi (fun (r : Int32) (_ : Unit) => r = nI 1) (fun _ t => atL dC dI cD cZ cI cL (va_A (wL cD cZ cI cL h pf f0 f1 f2 f3 po o0 o1 o2 o3 tt t0 NF GF TF OF NO GO TO OO DG nn fb ox F) sz) (wL cD cZ cI cL h pf f0 f1 f2 f3 po o0 o1 o2 o3 tt t0 NF GF TF OF NO GO TO OO DG nn fb ox F) t) (va_A (wL cD cZ cI cL h pf f0 f1 f2 f3 po o0 o1 o2 o3 tt t0 NF GF TF OF NO GO TO OO DG nn fb ox F) sz)) 1 6 (va_A (wL cD cZ cI cL h pf f0 f1 f2 f3 po o0 o1 o2 o3 tt t0 NF GF TF OF NO GO TO OO DG nn fb ox F) sz) := by
  refine va_MetW (cc := cL_clear) (maxL := 6) (ret := (some .int)) (hh := [(0, 19, 22, 19)]) (by decide) rfl ?_
  intro p e s m args below meth c s₁ B hml hv
  obtain ⟨rfl, hsz, hO, hD0⟩ := hv
  obtain ⟨hP, hK, hE, hZ⟩ := id hO
  have hx := B.exec
  have hb := B.bytes
  have hr := B.returns
  have hts := atoms_spec (ws := wsL_clear) B.pre
  have hown : s.vm.findClass RL = some m.cls := findClass_of_methodNamed B.named
  have hlocks := B.notSynchronized
  have htb := vx_table (x := yL_clear) B (hts _ List.mem_cons_self)
  subst hsz
  have hD := hD0.self (sz := s.heap.size)
  generalize hAe : va_A (wL cD cZ cI cL h pf f0 f1 f2 f3 po o0 o1 o2 o3 tt t0 NF GF TF OF NO GO TO OO DG nn fb ox F) s.heap.size = A at hD ⊢
  have hA : ∀ q : Nat, s.heap.size ≤ q → A q := fun q h => by rw [← hAe]; exact Or.inr h
  have hS : va_S A s.heap s.heap [] := va_S.rf
  have hP : va_P (dC, dI) vwCl [(h, .inr (1, [.ref (cond fb pf po), .ref (cond fb po pf), .ref tt, .int (nI (nn))])), (pf, .inr (0, [.ref f0, .ref f1, .ref f2, .ref f3])), (f0, .inl (cD, 35, .inr (.inr (.inr (.inl (NF)))))), (f1, .inl (cZ, 35, .inl (GF))), (f2, .inl (cI, 30, .inl (TF))), (f3, .inl (cI, 6, .inl (OF))), (po, .inr (0, [.ref o0, .ref o1, .ref o2, .ref o3])), (o0, .inl (cD, 35, .inr (.inr (.inr (.inl (NO)))))), (o1, .inl (cZ, 35, .inl (GO))), (o2, .inl (cI, 30, .inl (TO))), (o3, .inl (cI, 6, .inl (OO))), (tt, .inr (3, [.ref t0])), (t0, .inl (cL, 42, .inr (.inl (DG)))), (ox, .inl (cL, 1, .inr (.inl (F))))] s.heap := hP
  have hD : va_D A [(h, .inr (1, [.ref (cond fb pf po), .ref (cond fb po pf), .ref tt, .int (nI (nn))])), (pf, .inr (0, [.ref f0, .ref f1, .ref f2, .ref f3])), (f0, .inl (cD, 35, .inr (.inr (.inr (.inl (NF)))))), (f1, .inl (cZ, 35, .inl (GF))), (f2, .inl (cI, 30, .inl (TF))), (f3, .inl (cI, 6, .inl (OF))), (po, .inr (0, [.ref o0, .ref o1, .ref o2, .ref o3])), (o0, .inl (cD, 35, .inr (.inr (.inr (.inl (NO)))))), (o1, .inl (cZ, 35, .inl (GO))), (o2, .inl (cI, 30, .inl (TO))), (o3, .inl (cI, 6, .inl (OO))), (tt, .inr (3, [.ref t0])), (t0, .inl (cL, 42, .inr (.inl (DG)))), (ox, .inl (cL, 1, .inr (.inl (F))))] := hD
  have hl := lv_entry ([.ref h, .int (nI (Bool.toNat (fb))), .int (-1), .int (bv), .ref ox]) (n := 6) (Nat.le_of_ble_eq_true rfl)
  rw [lg_entry_eq]
  generalize (lg_sl ([.ref h, .int (nI (Bool.toNat (fb))), .int (-1), .int (bv), .ref ox]) ++ List.replicate (6 - (lg_sl ([.ref h, .int (nI (Bool.toNat (fb))), .int (-1), .int (bv), .ref ox])).length) Slot.unset).toArray = ls at hl ⊢
  have hl : lv_has ls 6 [(0, .ref h), (1, .int (nI (Bool.toNat (fb)))), (2, .int (-1)), (3, .int (bv)), (4, .ref ox)] := hl
  refine lv_aload hx hb dL_clear_0 (lv_at hl 4 rfl) ?_
  refine lv_iconst (v := nI 0) hx hb dL_clear_2 (by decide) ?_
  refine lv_aload_n hx hb dL_clear_3 rfl (lv_at hl 0 rfl) ?_
  refine lv_iload_n hx hb dL_clear_4 rfl (lv_at hl 1 rfl) ?_
  refine lv_iload_n hx hb dL_clear_5 rfl (lv_at hl 2 rfl) ?_
  refine lv_iload_n hx hb dL_clear_6 rfl (lv_at hl 3 rfl) ?_
  refine vx_calli (vx_runV (As := [.int (nI (Bool.toNat (fb))), .int (-1), .int (bv)]) (rest := [.int (nI (0)), .ref ox]) ⟨hx, hb, hml, hown, hts⟩ (t_X1_clear_t2N l dC dI cD cZ cI cL h pf f0 f1 f2 f3 po o0 o1 o2 o3 tt t0 NF GF TF OF NO GO TO OO DG nn fb hst bv hbad) (cwV 3 hts gL_clear_X1_clear rfl rfl rfl (by decide +kernel) ⟨Nat.le_of_ble_eq_true rfl, Nat.le_of_ble_eq_true rfl⟩) (okJX_pre ⟨hP.sub (ws' := [(h, .inr (1, [.ref (cond fb pf po), .ref (cond fb po pf), .ref tt, .int (nI (nn))])), (pf, .inr (0, [.ref f0, .ref f1, .ref f2, .ref f3])), (f0, .inl (cD, 35, .inr (.inr (.inr (.inl (NF)))))), (f1, .inl (cZ, 35, .inl (GF))), (f2, .inl (cI, 30, .inl (TF))), (f3, .inl (cI, 6, .inl (OF))), (po, .inr (0, [.ref o0, .ref o1, .ref o2, .ref o3])), (o0, .inl (cD, 35, .inr (.inr (.inr (.inl (NO)))))), (o1, .inl (cZ, 35, .inl (GO))), (o2, .inl (cI, 30, .inl (TO))), (o3, .inl (cI, 6, .inl (OO))), (tt, .inr (3, [.ref t0])), (t0, .inl (cL, 42, .inr (.inl (DG))))]) [0, 1, 2, 3, 4, 5, 6, 7, 8, 9, 10, 11, 12] rfl, hK, hE⟩ hZ) rfl rfl hl.1 rfl (lv_room (Nat.le_of_ble_eq_true rfl)) dL_clear_7 ⟨Nat.le_of_ble_eq_true rfl, Nat.le_of_ble_eq_true rfl⟩) hS (fun q _ h => h.elim) (fun q h => h.elim) (fun q _ h => h.elim) (fun E ce q9 u t H1 locs ht hvm hw hB hz1 hk1 hS hce hcv hcl => ?_) (fun r u t H1 locs1 ht hvm hw hB hz1 hk1 hS1 => hw.elim)
  have hB9 : E = nsX := hB
  subst hB9
  have hP := hP.kept (fun k q hk => hk1 q.1 ((hP k q hk).lt) (fun z => z))
  generalize H1 = H at hP hS hce ⊢
  refine vx_catch (name := nsX) hown [] ⟨0, 19, 22, 19⟩ [] htb (fun z hz => absurd hz List.not_mem_nil) (by decide) (by decide) (hts (.classLink RL 19 nsX) (by decide +kernel)) hE.cN hce hcv hcl ?_
  refine W.widen (k := 1) (n := 6) (by omega) (by omega) ?_
  have hP : va_P (dC, dI) vwCl [(h, .inr (1, [.ref (cond fb pf po), .ref (cond fb po pf), .ref tt, .int (nI (nn))])), (pf, .inr (0, [.ref f0, .ref f1, .ref f2, .ref f3])), (f0, .inl (cD, 35, .inr (.inr (.inr (.inl (NF)))))), (f1, .inl (cZ, 35, .inl (GF))), (f2, .inl (cI, 30, .inl (TF))), (f3, .inl (cI, 6, .inl (OF))), (po, .inr (0, [.ref o0, .ref o1, .ref o2, .ref o3])), (o0, .inl (cD, 35, .inr (.inr (.inr (.inl (NO)))))), (o1, .inl (cZ, 35, .inl (GO))), (o2, .inl (cI, 30, .inl (TO))), (o3, .inl (cI, 6, .inl (OO))), (tt, .inr (3, [.ref t0])), (t0, .inl (cL, 42, .inr (.inl (DG)))), (ox, .inl (cL, 1, .inr (.inl (F))))] H := hP
  refine lv_astore (lv' := [(5, .ref q9), (0, .ref h), (1, .int (nI (Bool.toNat (fb)))), (2, .int (-1)), (3, .int (bv)), (4, .ref ox)]) hx hb dL_clear_22 hl (by decide) rfl (fun ls hl => ?_)
  refine lv_iconst (v := nI 1) hx hb dL_clear_24 (by decide) ?_
  exact W.iret (v := nI 1) hx hb hr (fun t ht hW => ⟨⟨_, (), rfl, rfl, by rw [ht]; exact hP, va_K.moved hW.alike hK, hD⟩, hS.F ht⟩) hS.2.2 dL_clear_25
set_option maxHeartbeats 4000000 in
set_option maxRecDepth 100000 in
theorem c_L_told_t1 (l : Launch) (dC : Nat → ClassId) (dI : Nat → Nat → Nat) (cD cZ cI cL : ClassId) (h pf f0 f1 f2 f3 po o0 o1 o2 o3 tt t0 : Nat) (NF : Nat → UInt64) (GF TF OF : Nat → Int32) (NO : Nat → UInt64) (GO TO OO : Nat → Int32) (DG : Nat → Int64) (nn : Nat) (fb : Bool) (ox : Nat) (F : Nat → Int64) (sz : Nat) (hst : l.stackTraces = false) (ev bv : Int32) (hbad : vB ev nn = false) (hne : ¬ ev = (-1)) : Met l yL_told wsL_told ({ frames := 9, cells := 1, slots := 6, locals := 149 }) (va_Pc [.ref h, .int (nI (Bool.toNat (fb))), .int (ev), .int (bv), .ref ox] (fun U => U.heap.size = sz ∧ okLX dC dI cD cZ cI cL (wL cD cZ cI cL h pf f0 f1 f2 f3 po o0 o1 o2 o3 tt t0 NF GF TF OF NO GO TO OO DG nn fb ox F) U U.heap ∧ va_D (fun _ => True) (wL cD cZ cI cL h pf f0 f1 f2 f3 po o0 o1 o2 o3 tt t0 NF GF TF OF NO GO TO OO DG nn fb ox F))) (va_Qi (fun (r : Int32) (_ : Unit) => r = nI 1) (fun _ t => atL dC dI cD cZ cI cL (va_A (wL cD cZ cI cL h pf f0 f1 f2 f3 po o0 o1 o2 o3 tt t0 NF GF TF OF NO GO TO OO DG nn fb ox F) sz) (wL cD cZ cI cL h pf f0 f1 f2 f3 po o0 o1 o2 o3 tt t0 NF GF TF OF NO GO TO OO DG nn fb ox F) t) (va_A (wL cD cZ cI cL h pf f0 f1 f2 f3 po o0 o1 o2 o3 tt t0 NF GF TF OF NO GO TO OO DG nn fb ox F) sz)) 1 6 (va_A (wL cD cZ cI cL h pf f0 f1 f2 f3 po o0 o1 o2 o3 tt t0 NF GF TF OF NO GO TO OO DG nn fb ox F) sz) := by
  refine va_MetW (cc := cL_told) (maxL := 6) (ret := (some .int)) (hh := [(0, 11, 14, 19), (0, 11, 18, 13)]) (by decide) rfl ?_
  intro p e s m args below meth c s₁ B hml hv
  obtain ⟨rfl, hsz, hO, hD0⟩ := hv
  obtain ⟨hP, hK, hE, hZ⟩ := id hO
  have hx := B.exec
  have hb := B.bytes
  have hr := B.returns
  have hts := atoms_spec (ws := wsL_told) B.pre
  have hown : s.vm.findClass RL = some m.cls := findClass_of_methodNamed B.named
  have hlocks := B.notSynchronized
  have htb := vx_table (x := yL_told) B (hts _ List.mem_cons_self)
  subst hsz
  have hD := hD0.self (sz := s.heap.size)
  generalize hAe : va_A (wL cD cZ cI cL h pf f0 f1 f2 f3 po o0 o1 o2 o3 tt t0 NF GF TF OF NO GO TO OO DG nn fb ox F) s.heap.size = A at hD ⊢
  have hA : ∀ q : Nat, s.heap.size ≤ q → A q := fun q h => by rw [← hAe]; exact Or.inr h
  have hS : va_S A s.heap s.heap [] := va_S.rf
  have hP : va_P (dC, dI) vwCl [(h, .inr (1, [.ref (cond fb pf po), .ref (cond fb po pf), .ref tt, .int (nI (nn))])), (pf, .inr (0, [.ref f0, .ref f1, .ref f2, .ref f3])), (f0, .inl (cD, 35, .inr (.inr (.inr (.inl (NF)))))), (f1, .inl (cZ, 35, .inl (GF))), (f2, .inl (cI, 30, .inl (TF))), (f3, .inl (cI, 6, .inl (OF))), (po, .inr (0, [.ref o0, .ref o1, .ref o2, .ref o3])), (o0, .inl (cD, 35, .inr (.inr (.inr (.inl (NO)))))), (o1, .inl (cZ, 35, .inl (GO))), (o2, .inl (cI, 30, .inl (TO))), (o3, .inl (cI, 6, .inl (OO))), (tt, .inr (3, [.ref t0])), (t0, .inl (cL, 42, .inr (.inl (DG)))), (ox, .inl (cL, 1, .inr (.inl (F))))] s.heap := hP
  have hD : va_D A [(h, .inr (1, [.ref (cond fb pf po), .ref (cond fb po pf), .ref tt, .int (nI (nn))])), (pf, .inr (0, [.ref f0, .ref f1, .ref f2, .ref f3])), (f0, .inl (cD, 35, .inr (.inr (.inr (.inl (NF)))))), (f1, .inl (cZ, 35, .inl (GF))), (f2, .inl (cI, 30, .inl (TF))), (f3, .inl (cI, 6, .inl (OF))), (po, .inr (0, [.ref o0, .ref o1, .ref o2, .ref o3])), (o0, .inl (cD, 35, .inr (.inr (.inr (.inl (NO)))))), (o1, .inl (cZ, 35, .inl (GO))), (o2, .inl (cI, 30, .inl (TO))), (o3, .inl (cI, 6, .inl (OO))), (tt, .inr (3, [.ref t0])), (t0, .inl (cL, 42, .inr (.inl (DG)))), (ox, .inl (cL, 1, .inr (.inl (F))))] := hD
  have hl := lv_entry ([.ref h, .int (nI (Bool.toNat (fb))), .int (ev), .int (bv), .ref ox]) (n := 6) (Nat.le_of_ble_eq_true rfl)
  rw [lg_entry_eq]
  generalize (lg_sl ([.ref h, .int (nI (Bool.toNat (fb))), .int (ev), .int (bv), .ref ox]) ++ List.replicate (6 - (lg_sl ([.ref h, .int (nI (Bool.toNat (fb))), .int (ev), .int (bv), .ref ox])).length) Slot.unset).toArray = ls at hl ⊢
  have hl : lv_has ls 6 [(0, .ref h), (1, .int (nI (Bool.toNat (fb)))), (2, .int (ev)), (3, .int (bv)), (4, .ref ox)] := hl
  refine lv_aload hx hb dL_told_0 (lv_at hl 4 rfl) ?_
  refine lv_iconst (v := nI 0) hx hb dL_told_2 (by decide) ?_
  refine lv_aload_n hx hb dL_told_3 rfl (lv_at hl 0 rfl) ?_
  refine lv_iload_n hx hb dL_told_4 rfl (lv_at hl 1 rfl) ?_
  refine lv_iload_n hx hb dL_told_5 rfl (lv_at hl 2 rfl) ?_
  refine lv_iload_n hx hb dL_told_6 rfl (lv_at hl 3 rfl) ?_
  refine vx_calll (vx_runV (As := [.int (nI (Bool.toNat (fb))), .int (ev), .int (bv)]) (rest := [.int (nI (0)), .ref ox]) ⟨hx, hb, hml, hown, hts⟩ (t_X1_told_t1 l dC dI cD cZ cI cL h pf f0 f1 f2 f3 po o0 o1 o2 o3 tt t0 NF GF TF OF NO GO TO OO DG nn fb hst ev bv hbad hne) (cwV 3 hts gL_told_X1_told rfl rfl rfl (by decide +kernel) ⟨Nat.le_of_ble_eq_true rfl, Nat.le_of_ble_eq_true rfl⟩) (okJX_pre ⟨hP.sub (ws' := [(h, .inr (1, [.ref (cond fb pf po), .ref (cond fb po pf), .ref tt, .int (nI (nn))])), (pf, .inr (0, [.ref f0, .ref f1, .ref f2, .ref f3])), (f0, .inl (cD, 35, .inr (.inr (.inr (.inl (NF)))))), (f1, .inl (cZ, 35, .inl (GF))), (f2, .inl (cI, 30, .inl (TF))), (f3, .inl (cI, 6, .inl (OF))), (po, .inr (0, [.ref o0, .ref o1, .ref o2, .ref o3])), (o0, .inl (cD, 35, .inr (.inr (.inr (.inl (NO)))))), (o1, .inl (cZ, 35, .inl (GO))), (o2, .inl (cI, 30, .inl (TO))), (o3, .inl (cI, 6, .inl (OO))), (tt, .inr (3, [.ref t0])), (t0, .inl (cL, 42, .inr (.inl (DG))))]) [0, 1, 2, 3, 4, 5, 6, 7, 8, 9, 10, 11, 12] rfl, hK, hE⟩ hZ) rfl rfl hl.1 rfl (lv_room (Nat.le_of_ble_eq_true rfl)) dL_told_7 ⟨Nat.le_of_ble_eq_true rfl, Nat.le_of_ble_eq_true rfl⟩) hS (fun q _ h => h.elim) (fun q h => h.elim) (fun q _ h => h.elim) (fun E ce q9 u t H1 locs ht hvm hw hB hz1 hk1 hS hce hcv hcl => ?_) (fun r u t H1 locs1 ht hvm hw hB hz1 hk1 hS1 => hw.elim)
  have hB9 : E = nsX := hB
  subst hB9
  have hP := hP.kept (fun k q hk => hk1 q.1 ((hP k q hk).lt) (fun z => z))
  generalize H1 = H at hP hS hce ⊢
  refine vx_catch (name := nsX) hown [] ⟨0, 11, 14, 19⟩ [⟨0, 11, 18, 13⟩] htb (fun z hz => absurd hz List.not_mem_nil) (by decide) (by decide) (hts (.classLink RL 19 nsX) (by decide +kernel)) hE.cN hce hcv hcl ?_
  refine W.widen (k := 1) (n := 6) (by omega) (by omega) ?_
  have hP : va_P (dC, dI) vwCl [(h, .inr (1, [.ref (cond fb pf po), .ref (cond fb po pf), .ref tt, .int (nI (nn))])), (pf, .inr (0, [.ref f0, .ref f1, .ref f2, .ref f3])), (f0, .inl (cD, 35, .inr (.inr (.inr (.inl (NF)))))), (f1, .inl (cZ, 35, .inl (GF))), (f2, .inl (cI, 30, .inl (TF))), (f3, .inl (cI, 6, .inl (OF))), (po, .inr (0, [.ref o0, .ref o1, .ref o2, .ref o3])), (o0, .inl (cD, 35, .inr (.inr (.inr (.inl (NO)))))), (o1, .inl (cZ, 35, .inl (GO))), (o2, .inl (cI, 30, .inl (TO))), (o3, .inl (cI, 6, .inl (OO))), (tt, .inr (3, [.ref t0])), (t0, .inl (cL, 42, .inr (.inl (DG)))), (ox, .inl (cL, 1, .inr (.inl (F))))] H := hP
  refine lv_astore (lv' := [(5, .ref q9), (0, .ref h), (1, .int (nI (Bool.toNat (fb)))), (2, .int (ev)), (3, .int (bv)), (4, .ref ox)]) hx hb dL_told_14 hl (by decide) rfl (fun ls hl => ?_)
  refine lv_iconst (v := nI 1) hx hb dL_told_16 (by decide) ?_
  exact W.iret (v := nI 1) hx hb hr (fun t ht hW => ⟨⟨_, (), rfl, rfl, by rw [ht]; exact hP, va_K.moved hW.alike hK, hD⟩, hS.F ht⟩) hS.2.2 dL_told_17
set_option maxHeartbeats 4000000 in
set_option maxRecDepth 100000 in
theorem c_L_told_t2 (l : Launch) (dC : Nat → ClassId) (dI : Nat → Nat → Nat) (cD cZ cI cL : ClassId) (h pf f0 f1 f2 f3 po o0 o1 o2 o3 tt t0 : Nat) (NF : Nat → UInt64) (GF TF OF : Nat → Int32) (NO : Nat → UInt64) (GO TO OO : Nat → Int32) (DG : Nat → Int64) (nn : Nat) (fb : Bool) (ox : Nat) (F : Nat → Int64) (sz : Nat) (hst : l.stackTraces = false) (hnn : nn ≤ 6) (en : Nat) (bv : Int32) (hen : en < nn) (hbad : vB bv 5 = false) : Met l yL_told wsL_told ({ frames := 8, cells := 1, slots := 6, locals := 127 }) (va_Pc [.ref h, .int (nI (Bool.toNat (fb))), .int (nI (en)), .int (bv), .ref ox] (fun U => U.heap.size = sz ∧ okLX dC dI cD cZ cI cL (wL cD cZ cI cL h pf f0 f1 f2 f3 po o0 o1 o2 o3 tt t0 NF GF TF OF NO GO TO OO DG nn fb ox F) U U.heap ∧ va_D (fun _ => True) (wL cD cZ cI cL h pf f0 f1 f2 f3 po o0 o1 o2 o3 tt t0 NF GF TF OF NO GO TO OO DG nn fb ox F))) (va_Qi (fun (r : Int32) (_ : Unit) => r = nI 1) (fun _ t => atL dC dI cD cZ cI cL (va_A (wL cD cZ cI cL h pf f0 f1 f2 f3 po o0 o1 o2 o3 tt t0 NF GF TF OF NO GO TO OO DG nn fb ox F) sz) (wL cD cZ cI cL h pf f0 f1 f2 f3 po o0 o1 o2 o3 tt t0 NF GF TF OF NO GO TO OO DG nn fb ox F) t) (va_A (wL cD cZ cI cL h pf f0 f1 f2 f3 po o0 o1 o2 o3 tt t0 NF GF TF OF NO GO TO OO DG nn fb ox F) sz)) 1 6 (va_A (wL cD cZ cI cL h pf f0 f1 f2 f3 po o0 o1 o2 o3 tt t0 NF GF TF OF NO GO TO OO DG nn fb ox F) sz) := by
  refine va_MetW (cc := cL_told) (maxL := 6) (ret := (some .int)) (hh := [(0, 11, 14, 19), (0, 11, 18, 13)]) (by decide) rfl ?_
  intro p e s m args below meth c s₁ B hml hv
  obtain ⟨rfl, hsz, hO, hD0⟩ := hv
  obtain ⟨hP, hK, hE, hZ⟩ := id hO
  have hx := B.exec
  have hb := B.bytes
  have hr := B.returns
  have hts := atoms_spec (ws := wsL_told) B.pre
  have hown : s.vm.findClass RL = some m.cls := findClass_of_methodNamed B.named
  have hlocks := B.notSynchronized
  have htb := vx_table (x := yL_told) B (hts _ List.mem_cons_self)
  subst hsz
  have hD := hD0.self (sz := s.heap.size)
  generalize hAe : va_A (wL cD cZ cI cL h pf f0 f1 f2 f3 po o0 o1 o2 o3 tt t0 NF GF TF OF NO GO TO OO DG nn fb ox F) s.heap.size = A at hD ⊢
  have hA : ∀ q : Nat, s.heap.size ≤ q → A q := fun q h => by rw [← hAe]; exact Or.inr h
  have hS : va_S A s.heap s.heap [] := va_S.rf
  have hP : va_P (dC, dI) vwCl [(h, .inr (1, [.ref (cond fb pf po), .ref (cond fb po pf), .ref tt, .int (nI (nn))])), (pf, .inr (0, [.ref f0, .ref f1, .ref f2, .ref f3])), (f0, .inl (cD, 35, .inr (.inr (.inr (.inl (NF)))))), (f1, .inl (cZ, 35, .inl (GF))), (f2, .inl (cI, 30, .inl (TF))), (f3, .inl (cI, 6, .inl (OF))), (po, .inr (0, [.ref o0, .ref o1, .ref o2, .ref o3])), (o0, .inl (cD, 35, .inr (.inr (.inr (.inl (NO)))))), (o1, .inl (cZ, 35, .inl (GO))), (o2, .inl (cI, 30, .inl (TO))), (o3, .inl (cI, 6, .inl (OO))), (tt, .inr (3, [.ref t0])), (t0, .inl (cL, 42, .inr (.inl (DG)))), (ox, .inl (cL, 1, .inr (.inl (F))))] s.heap := hP
  have hD : va_D A [(h, .inr (1, [.ref (cond fb pf po), .ref (cond fb po pf), .ref tt, .int (nI (nn))])), (pf, .inr (0, [.ref f0, .ref f1, .ref f2, .ref f3])), (f0, .inl (cD, 35, .inr (.inr (.inr (.inl (NF)))))), (f1, .inl (cZ, 35, .inl (GF))), (f2, .inl (cI, 30, .inl (TF))), (f3, .inl (cI, 6, .inl (OF))), (po, .inr (0, [.ref o0, .ref o1, .ref o2, .ref o3])), (o0, .inl (cD, 35, .inr (.inr (.inr (.inl (NO)))))), (o1, .inl (cZ, 35, .inl (GO))), (o2, .inl (cI, 30, .inl (TO))), (o3, .inl (cI, 6, .inl (OO))), (tt, .inr (3, [.ref t0])), (t0, .inl (cL, 42, .inr (.inl (DG)))), (ox, .inl (cL, 1, .inr (.inl (F))))] := hD
  have hl := lv_entry ([.ref h, .int (nI (Bool.toNat (fb))), .int (nI (en)), .int (bv), .ref ox]) (n := 6) (Nat.le_of_ble_eq_true rfl)
  rw [lg_entry_eq]
  generalize (lg_sl ([.ref h, .int (nI (Bool.toNat (fb))), .int (nI (en)), .int (bv), .ref ox]) ++ List.replicate (6 - (lg_sl ([.ref h, .int (nI (Bool.toNat (fb))), .int (nI (en)), .int (bv), .ref ox])).length) Slot.unset).toArray = ls at hl ⊢
  have hl : lv_has ls 6 [(0, .ref h), (1, .int (nI (Bool.toNat (fb)))), (2, .int (nI (en))), (3, .int (bv)), (4, .ref ox)] := hl
  refine lv_aload hx hb dL_told_0 (lv_at hl 4 rfl) ?_
  refine lv_iconst (v := nI 0) hx hb dL_told_2 (by decide) ?_
  refine lv_aload_n hx hb dL_told_3 rfl (lv_at hl 0 rfl) ?_
  refine lv_iload_n hx hb dL_told_4 rfl (lv_at hl 1 rfl) ?_
  refine lv_iload_n hx hb dL_told_5 rfl (lv_at hl 2 rfl) ?_
  refine lv_iload_n hx hb dL_told_6 rfl (lv_at hl 3 rfl) ?_
  refine vx_calll (vx_runV (As := [.int (nI (Bool.toNat (fb))), .int (nI (en)), .int (bv)]) (rest := [.int (nI (0)), .ref ox]) ⟨hx, hb, hml, hown, hts⟩ (t_X1_told_t2 l dC dI cD cZ cI cL h pf f0 f1 f2 f3 po o0 o1 o2 o3 tt t0 NF GF TF OF NO GO TO OO DG nn fb hst hnn en bv hen hbad) (cwV 3 hts gL_told_X1_told rfl rfl rfl (by decide +kernel) ⟨Nat.le_of_ble_eq_true rfl, Nat.le_of_ble_eq_true rfl⟩) (okJX_pre ⟨hP.sub (ws' := [(h, .inr (1, [.ref (cond fb pf po), .ref (cond fb po pf), .ref tt, .int (nI (nn))])), (pf, .inr (0, [.ref f0, .ref f1, .ref f2, .ref f3])), (f0, .inl (cD, 35, .inr (.inr (.inr (.inl (NF)))))), (f1, .inl (cZ, 35, .inl (GF))), (f2, .inl (cI, 30, .inl (TF))), (f3, .inl (cI, 6, .inl (OF))), (po, .inr (0, [.ref o0, .ref o1, .ref o2, .ref o3])), (o0, .inl (cD, 35, .inr (.inr (.inr (.inl (NO)))))), (o1, .inl (cZ, 35, .inl (GO))), (o2, .inl (cI, 30, .inl (TO))), (o3, .inl (cI, 6, .inl (OO))), (tt, .inr (3, [.ref t0])), (t0, .inl (cL, 42, .inr (.inl (DG))))]) [0, 1, 2, 3, 4, 5, 6, 7, 8, 9, 10, 11, 12] rfl, hK, hE⟩ hZ) rfl rfl hl.1 rfl (lv_room (Nat.le_of_ble_eq_true rfl)) dL_told_7 ⟨Nat.le_of_ble_eq_true rfl, Nat.le_of_ble_eq_true rfl⟩) hS (fun q _ h => h.elim) (fun q h => h.elim) (fun q _ h => h.elim) (fun E ce q9 u t H1 locs ht hvm hw hB hz1 hk1 hS hce hcv hcl => ?_) (fun r u t H1 locs1 ht hvm hw hB hz1 hk1 hS1 => hw.elim)
  have hB9 : E = nsX := hB
  subst hB9
  have hP := hP.kept (fun k q hk => hk1 q.1 ((hP k q hk).lt) (fun z => z))
  generalize H1 = H at hP hS hce ⊢
  refine vx_catch (name := nsX) hown [] ⟨0, 11, 14, 19⟩ [⟨0, 11, 18, 13⟩] htb (fun z hz => absurd hz List.not_mem_nil) (by decide) (by decide) (hts (.classLink RL 19 nsX) (by decide +kernel)) hE.cN hce hcv hcl ?_
  refine W.widen (k := 1) (n := 6) (by omega) (by omega) ?_
  have hP : va_P (dC, dI) vwCl [(h, .inr (1, [.ref (cond fb pf po), .ref (cond fb po pf), .ref tt, .int (nI (nn))])), (pf, .inr (0, [.ref f0, .ref f1, .ref f2, .ref f3])), (f0, .inl (cD, 35, .inr (.inr (.inr (.inl (NF)))))), (f1, .inl (cZ, 35, .inl (GF))), (f2, .inl (cI, 30, .inl (TF))), (f3, .inl (cI, 6, .inl (OF))), (po, .inr (0, [.ref o0, .ref o1, .ref o2, .ref o3])), (o0, .inl (cD, 35, .inr (.inr (.inr (.inl (NO)))))), (o1, .inl (cZ, 35, .inl (GO))), (o2, .inl (cI, 30, .inl (TO))), (o3, .inl (cI, 6, .inl (OO))), (tt, .inr (3, [.ref t0])), (t0, .inl (cL, 42, .inr (.inl (DG)))), (ox, .inl (cL, 1, .inr (.inl (F))))] H := hP
  refine lv_astore (lv' := [(5, .ref q9), (0, .ref h), (1, .int (nI (Bool.toNat (fb)))), (2, .int (nI (en))), (3, .int (bv)), (4, .ref ox)]) hx hb dL_told_14 hl (by decide) rfl (fun ls hl => ?_)
  refine lv_iconst (v := nI 1) hx hb dL_told_16 (by decide) ?_
  exact W.iret (v := nI 1) hx hb hr (fun t ht hW => ⟨⟨_, (), rfl, rfl, by rw [ht]; exact hP, va_K.moved hW.alike hK, hD⟩, hS.F ht⟩) hS.2.2 dL_told_17
set_option maxHeartbeats 4000000 in
set_option maxRecDepth 100000 in
theorem c_L_told_t2N (l : Launch) (dC : Nat → ClassId) (dI : Nat → Nat → Nat) (cD cZ cI cL : ClassId) (h pf f0 f1 f2 f3 po o0 o1 o2 o3 tt t0 : Nat) (NF : Nat → UInt64) (GF TF OF : Nat → Int32) (NO : Nat → UInt64) (GO TO OO : Nat → Int32) (DG : Nat → Int64) (nn : Nat) (fb : Bool) (ox : Nat) (F : Nat → Int64) (sz : Nat) (hst : l.stackTraces = false) (bv : Int32) (hbad : vB bv 5 = false) : Met l yL_told wsL_told ({ frames := 8, cells := 1, slots := 6, locals := 127 }) (va_Pc [.ref h, .int (nI (Bool.toNat (fb))), .int (-1), .int (bv), .ref ox] (fun U => U.heap.size = sz ∧ okLX dC dI cD cZ cI cL (wL cD cZ cI cL h pf f0 f1 f2 f3 po o0 o1 o2 o3 tt t0 NF GF TF OF NO GO TO OO DG nn fb ox F) U U.heap ∧ va_D (fun _ => True) (wL cD cZ cI cL h pf f0 f1 f2 f3 po o0 o1 o2 o3 tt t0 NF GF TF OF NO GO TO OO DG nn fb ox F))) (va_Qi (fun (r : Int32) (_ : Unit) => r = nI 1) (fun _ t => atL dC dI cD cZ cI cL (va_A (wL cD cZ cI cL h pf f0 f1 f2 f3 po o0 o1 o2 o3 tt t0 NF GF TF OF NO GO TO OO DG nn fb ox F) sz) (wL cD cZ cI cL h pf f0 f1 f2 f3 po o0 o1 o2 o3 tt t0 NF GF TF OF NO GO TO OO DG nn fb ox F) t) (va_A (wL cD cZ cI cL h pf f0 f1 f2 f3 po o0 o1 o2 o3 tt t0 NF GF TF OF NO GO TO OO DG nn fb ox F) sz)) 1 6 (va_A (wL cD cZ cI cL h pf f0 f1 f2 f3 po o0 o1 o2 o3 tt t0 NF GF TF OF NO GO TO OO DG nn fb ox F) sz) := by
  refine va_MetW (cc := cL_told) (maxL := 6) (ret := (some .int)) (hh := [(0, 11, 14, 19), (0, 11, 18, 13)]) (by decide) rfl ?_
  intro p e s m args below meth c s₁ B hml hv
  obtain ⟨rfl, hsz, hO, hD0⟩ := hv
  obtain ⟨hP, hK, hE, hZ⟩ := id hO
  have hx := B.exec
  have hb := B.bytes
  have hr := B.returns
  have hts := atoms_spec (ws := wsL_told) B.pre
  have hown : s.vm.findClass RL = some m.cls := findClass_of_methodNamed B.named
  have hlocks := B.notSynchronized
  have htb := vx_table (x := yL_told) B (hts _ List.mem_cons_self)
  subst hsz
  have hD := hD0.self (sz := s.heap.size)
  generalize hAe : va_A (wL cD cZ cI cL h pf f0 f1 f2 f3 po o0 o1 o2 o3 tt t0 NF GF TF OF NO GO TO OO DG nn fb ox F) s.heap.size = A at hD ⊢
  have hA : ∀ q : Nat, s.heap.size ≤ q → A q := fun q h => by rw [← hAe]; exact Or.inr h
  have hS : va_S A s.heap s.heap [] := va_S.rf
  have hP : va_P (dC, dI) vwCl [(h, .inr (1, [.ref (cond fb pf po), .ref (cond fb po pf), .ref tt, .int (nI (nn))])), (pf, .inr (0, [.ref f0, .ref f1, .ref f2, .ref f3])), (f0, .inl (cD, 35, .inr (.inr (.inr (.inl (NF)))))), (f1, .inl (cZ, 35, .inl (GF))), (f2, .inl (cI, 30, .inl (TF))), (f3, .inl (cI, 6, .inl (OF))), (po, .inr (0, [.ref o0, .ref o1, .ref o2, .ref o3])), (o0, .inl (cD, 35, .inr (.inr (.inr (.inl (NO)))))), (o1, .inl (cZ, 35, .inl (GO))), (o2, .inl (cI, 30, .inl (TO))), (o3, .inl (cI, 6, .inl (OO))), (tt, .inr (3, [.ref t0])), (t0, .inl (cL, 42, .inr (.inl (DG)))), (ox, .inl (cL, 1, .inr (.inl (F))))] s.heap := hP
  have hD : va_D A [(h, .inr (1, [.ref (cond fb pf po), .ref (cond fb po pf), .ref tt, .int (nI (nn))])), (pf, .inr (0, [.ref f0, .ref f1, .ref f2, .ref f3])), (f0, .inl (cD, 35, .inr (.inr (.inr (.inl (NF)))))), (f1, .inl (cZ, 35, .inl (GF))), (f2, .inl (cI, 30, .inl (TF))), (f3, .inl (cI, 6, .inl (OF))), (po, .inr (0, [.ref o0, .ref o1, .ref o2, .ref o3])), (o0, .inl (cD, 35, .inr (.inr (.inr (.inl (NO)))))), (o1, .inl (cZ, 35, .inl (GO))), (o2, .inl (cI, 30, .inl (TO))), (o3, .inl (cI, 6, .inl (OO))), (tt, .inr (3, [.ref t0])), (t0, .inl (cL, 42, .inr (.inl (DG)))), (ox, .inl (cL, 1, .inr (.inl (F))))] := hD
  have hl := lv_entry ([.ref h, .int (nI (Bool.toNat (fb))), .int (-1), .int (bv), .ref ox]) (n := 6) (Nat.le_of_ble_eq_true rfl)
  rw [lg_entry_eq]
  generalize (lg_sl ([.ref h, .int (nI (Bool.toNat (fb))), .int (-1), .int (bv), .ref ox]) ++ List.replicate (6 - (lg_sl ([.ref h, .int (nI (Bool.toNat (fb))), .int (-1), .int (bv), .ref ox])).length) Slot.unset).toArray = ls at hl ⊢
  have hl : lv_has ls 6 [(0, .ref h), (1, .int (nI (Bool.toNat (fb)))), (2, .int (-1)), (3, .int (bv)), (4, .ref ox)] := hl
  refine lv_aload hx hb dL_told_0 (lv_at hl 4 rfl) ?_
  refine lv_iconst (v := nI 0) hx hb dL_told_2 (by decide) ?_
  refine lv_aload_n hx hb dL_told_3 rfl (lv_at hl 0 rfl) ?_
  refine lv_iload_n hx hb dL_told_4 rfl (lv_at hl 1 rfl) ?_
  refine lv_iload_n hx hb dL_told_5 rfl (lv_at hl 2 rfl) ?_
  refine lv_iload_n hx hb dL_told_6 rfl (lv_at hl 3 rfl) ?_
  refine vx_calll (vx_runV (As := [.int (nI (Bool.toNat (fb))), .int (-1), .int (bv)]) (rest := [.int (nI (0)), .ref ox]) ⟨hx, hb, hml, hown, hts⟩ (t_X1_told_t2N l dC dI cD cZ cI cL h pf f0 f1 f2 f3 po o0 o1 o2 o3 tt t0 NF GF TF OF NO GO TO OO DG nn fb hst bv hbad) (cwV 3 hts gL_told_X1_told rfl rfl rfl (by decide +kernel) ⟨Nat.le_of_ble_eq_true rfl, Nat.le_of_ble_eq_true rfl⟩) (okJX_pre ⟨hP.sub (ws' := [(h, .inr (1, [.ref (cond fb pf po), .ref (cond fb po pf), .ref tt, .int (nI (nn))])), (pf, .inr (0, [.ref f0, .ref f1, .ref f2, .ref f3])), (f0, .inl (cD, 35, .inr (.inr (.inr (.inl (NF)))))), (f1, .inl (cZ, 35, .inl (GF))), (f2, .inl (cI, 30, .inl (TF))), (f3, .inl (cI, 6, .inl (OF))), (po, .inr (0, [.ref o0, .ref o1, .ref o2, .ref o3])), (o0, .inl (cD, 35, .inr (.inr (.inr (.inl (NO)))))), (o1, .inl (cZ, 35, .inl (GO))), (o2, .inl (cI, 30, .inl (TO))), (o3, .inl (cI, 6, .inl (OO))), (tt, .inr (3, [.ref t0])), (t0, .inl (cL, 42, .inr (.inl (DG))))]) [0, 1, 2, 3, 4, 5, 6, 7, 8, 9, 10, 11, 12] rfl, hK, hE⟩ hZ) rfl rfl hl.1 rfl (lv_room (Nat.le_of_ble_eq_true rfl)) dL_told_7 ⟨Nat.le_of_ble_eq_true rfl, Nat.le_of_ble_eq_true rfl⟩) hS (fun q _ h => h.elim) (fun q h => h.elim) (fun q _ h => h.elim) (fun E ce q9 u t H1 locs ht hvm hw hB hz1 hk1 hS hce hcv hcl => ?_) (fun r u t H1 locs1 ht hvm hw hB hz1 hk1 hS1 => hw.elim)
  have hB9 : E = nsX := hB
  subst hB9
  have hP := hP.kept (fun k q hk => hk1 q.1 ((hP k q hk).lt) (fun z => z))
  generalize H1 = H at hP hS hce ⊢
  refine vx_catch (name := nsX) hown [] ⟨0, 11, 14, 19⟩ [⟨0, 11, 18, 13⟩] htb (fun z hz => absurd hz List.not_mem_nil) (by decide) (by decide) (hts (.classLink RL 19 nsX) (by decide +kernel)) hE.cN hce hcv hcl ?_
  refine W.widen (k := 1) (n := 6) (by omega) (by omega) ?_
  have hP : va_P (dC, dI) vwCl [(h, .inr (1, [.ref (cond fb pf po), .ref (cond fb po pf), .ref tt, .int (nI (nn))])), (pf, .inr (0, [.ref f0, .ref f1, .ref f2, .ref f3])), (f0, .inl (cD, 35, .inr (.inr (.inr (.inl (NF)))))), (f1, .inl (cZ, 35, .inl (GF))), (f2, .inl (cI, 30, .inl (TF))), (f3, .inl (cI, 6, .inl (OF))), (po, .inr (0, [.ref o0, .ref o1, .ref o2, .ref o3])), (o0, .inl (cD, 35, .inr (.inr (.inr (.inl (NO)))))), (o1, .inl (cZ, 35, .inl (GO))), (o2, .inl (cI, 30, .inl (TO))), (o3, .inl (cI, 6, .inl (OO))), (tt, .inr (3, [.ref t0])), (t0, .inl (cL, 42, .inr (.inl (DG)))), (ox, .inl (cL, 1, .inr (.inl (F))))] H := hP
  refine lv_astore (lv' := [(5, .ref q9), (0, .ref h), (1, .int (nI (Bool.toNat (fb)))), (2, .int (-1)), (3, .int (bv)), (4, .ref ox)]) hx hb dL_told_14 hl (by decide) rfl (fun ls hl => ?_)
  refine lv_iconst (v := nI 1) hx hb dL_told_16 (by decide) ?_
  exact W.iret (v := nI 1) hx hb hr (fun t ht hW => ⟨⟨_, (), rfl, rfl, by rw [ht]; exact hP, va_K.moved hW.alike hK, hD⟩, hS.F ht⟩) hS.2.2 dL_told_17
set_option maxHeartbeats 4000000 in
set_option maxRecDepth 100000 in
theorem c_L_told_te (l : Launch) (dC : Nat → ClassId) (dI : Nat → Nat → Nat) (cD cZ cI cL : ClassId) (h pf f0 f1 f2 f3 po o0 o1 o2 o3 tt t0 : Nat) (NF : Nat → UInt64) (GF TF OF : Nat → Int32) (NO : Nat → UInt64) (GO TO OO : Nat → Int32) (DG : Nat → Int64) (nn : Nat) (fb : Bool) (ox : Nat) (F : Nat → Int64) (sz : Nat) (hst : l.stackTraces = false) (hnn : nn ≤ 6) (en bn : Nat) (hen : en < nn) (hbn : bn < 5) (hG : ∀ j, GF j = 0 ∨ GF j = 1) (hth : GF (en * 5 + bn) = 0) : Met l yL_told wsL_told ({ frames := 7, cells := 1, slots := 6, locals := 107 }) (va_Pc [.ref h, .int (nI (Bool.toNat (fb))), .int (nI (en)), .int (nI (bn)), .ref ox] (fun U => U.heap.size = sz ∧ okLX dC dI cD cZ cI cL (wL cD cZ cI cL h pf f0 f1 f2 f3 po o0 o1 o2 o3 tt t0 NF GF TF OF NO GO TO OO DG nn fb ox F) U U.heap ∧ va_D (fun _ => True) (wL cD cZ cI cL h pf f0 f1 f2 f3 po o0 o1 o2 o3 tt t0 NF GF TF OF NO GO TO OO DG nn fb ox F))) (va_Qi (fun (r : Int32) (_ : Unit) => r = nI 2) (fun _ t => atL dC dI cD cZ cI cL (va_A (wL cD cZ cI cL h pf f0 f1 f2 f3 po o0 o1 o2 o3 tt t0 NF GF TF OF NO GO TO OO DG nn fb ox F) sz) (wL cD cZ cI cL h pf f0 f1 f2 f3 po o0 o1 o2 o3 tt t0 NF GF TF OF NO GO TO OO DG nn fb ox F) t) (va_A (wL cD cZ cI cL h pf f0 f1 f2 f3 po o0 o1 o2 o3 tt t0 NF GF TF OF NO GO TO OO DG nn fb ox F) sz)) 1 6 (va_A (wL cD cZ cI cL h pf f0 f1 f2 f3 po o0 o1 o2 o3 tt t0 NF GF TF OF NO GO TO OO DG nn fb ox F) sz) := by
  refine va_MetW (cc := cL_told) (maxL := 6) (ret := (some .int)) (hh := [(0, 11, 14, 19), (0, 11, 18, 13)]) (by decide) rfl ?_
  intro p e s m args below meth c s₁ B hml hv
  obtain ⟨rfl, hsz, hO, hD0⟩ := hv
  obtain ⟨hP, hK, hE, hZ⟩ := id hO
  have hx := B.exec
  have hb := B.bytes
  have hr := B.returns
  have hts := atoms_spec (ws := wsL_told) B.pre
  have hown : s.vm.findClass RL = some m.cls := findClass_of_methodNamed B.named
  have hlocks := B.notSynchronized
  have htb := vx_table (x := yL_told) B (hts _ List.mem_cons_self)
  subst hsz
  have hD := hD0.self (sz := s.heap.size)
  generalize hAe : va_A (wL cD cZ cI cL h pf f0 f1 f2 f3 po o0 o1 o2 o3 tt t0 NF GF TF OF NO GO TO OO DG nn fb ox F) s.heap.size = A at hD ⊢
  have hA : ∀ q : Nat, s.heap.size ≤ q → A q := fun q h => by rw [← hAe]; exact Or.inr h
  have hS : va_S A s.heap s.heap [] := va_S.rf
  have hP : va_P (dC, dI) vwCl [(h, .inr (1, [.ref (cond fb pf po), .ref (cond fb po pf), .ref tt, .int (nI (nn))])), (pf, .inr (0, [.ref f0, .ref f1, .ref f2, .ref f3])), (f0, .inl (cD, 35, .inr (.inr (.inr (.inl (NF)))))), (f1, .inl (cZ, 35, .inl (GF))), (f2, .inl (cI, 30, .inl (TF))), (f3, .inl (cI, 6, .inl (OF))), (po, .inr (0, [.ref o0, .ref o1, .ref o2, .ref o3])), (o0, .inl (cD, 35, .inr (.inr (.inr (.inl (NO)))))), (o1, .inl (cZ, 35, .inl (GO))), (o2, .inl (cI, 30, .inl (TO))), (o3, .inl (cI, 6, .inl (OO))), (tt, .inr (3, [.ref t0])), (t0, .inl (cL, 42, .inr (.inl (DG)))), (ox, .inl (cL, 1, .inr (.inl (F))))] s.heap := hP
  have hD : va_D A [(h, .inr (1, [.ref (cond fb pf po), .ref (cond fb po pf), .ref tt, .int (nI (nn))])), (pf, .inr (0, [.ref f0, .ref f1, .ref f2, .ref f3])), (f0, .inl (cD, 35, .inr (.inr (.inr (.inl (NF)))))), (f1, .inl (cZ, 35, .inl (GF))), (f2, .inl (cI, 30, .inl (TF))), (f3, .inl (cI, 6, .inl (OF))), (po, .inr (0, [.ref o0, .ref o1, .ref o2, .ref o3])), (o0, .inl (cD, 35, .inr (.inr (.inr (.inl (NO)))))), (o1, .inl (cZ, 35, .inl (GO))), (o2, .inl (cI, 30, .inl (TO))), (o3, .inl (cI, 6, .inl (OO))), (tt, .inr (3, [.ref t0])), (t0, .inl (cL, 42, .inr (.inl (DG)))), (ox, .inl (cL, 1, .inr (.inl (F))))] := hD
  have hl := lv_entry ([.ref h, .int (nI (Bool.toNat (fb))), .int (nI (en)), .int (nI (bn)), .ref ox]) (n := 6) (Nat.le_of_ble_eq_true rfl)
  rw [lg_entry_eq]
  generalize (lg_sl ([.ref h, .int (nI (Bool.toNat (fb))), .int (nI (en)), .int (nI (bn)), .ref ox]) ++ List.replicate (6 - (lg_sl ([.ref h, .int (nI (Bool.toNat (fb))), .int (nI (en)), .int (nI (bn)), .ref ox])).length) Slot.unset).toArray = ls at hl ⊢
  have hl : lv_has ls 6 [(0, .ref h), (1, .int (nI (Bool.toNat (fb)))), (2, .int (nI (en))), (3, .int (nI (bn))), (4, .ref ox)] := hl
  refine lv_aload hx hb dL_told_0 (lv_at hl 4 rfl) ?_
  refine lv_iconst (v := nI 0) hx hb dL_told_2 (by decide) ?_
  refine lv_aload_n hx hb dL_told_3 rfl (lv_at hl 0 rfl) ?_
  refine lv_iload_n hx hb dL_told_4 rfl (lv_at hl 1 rfl) ?_
  refine lv_iload_n hx hb dL_told_5 rfl (lv_at hl 2 rfl) ?_
  refine lv_iload_n hx hb dL_told_6 rfl (lv_at hl 3 rfl) ?_
  refine vx_calll (vx_runV (As := [.int (nI (Bool.toNat (fb))), .int (nI (en)), .int (nI (bn))]) (rest := [.int (nI (0)), .ref ox]) ⟨hx, hb, hml, hown, hts⟩ (t_X1_told_te l dC dI cD cZ cI cL h pf f0 f1 f2 f3 po o0 o1 o2 o3 tt t0 NF GF TF OF NO GO TO OO DG nn fb hst hnn en bn hen hbn hG hth) (cwV 3 hts gL_told_X1_told rfl rfl rfl (by decide +kernel) ⟨Nat.le_of_ble_eq_true rfl, Nat.le_of_ble_eq_true rfl⟩) (okJX_pre ⟨hP.sub (ws' := [(h, .inr (1, [.ref (cond fb pf po), .ref (cond fb po pf), .ref tt, .int (nI (nn))])), (pf, .inr (0, [.ref f0, .ref f1, .ref f2, .ref f3])), (f0, .inl (cD, 35, .inr (.inr (.inr (.inl (NF)))))), (f1, .inl (cZ, 35, .inl (GF))), (f2, .inl (cI, 30, .inl (TF))), (f3, .inl (cI, 6, .inl (OF))), (po, .inr (0, [.ref o0, .ref o1, .ref o2, .ref o3])), (o0, .inl (cD, 35, .inr (.inr (.inr (.inl (NO)))))), (o1, .inl (cZ, 35, .inl (GO))), (o2, .inl (cI, 30, .inl (TO))), (o3, .inl (cI, 6, .inl (OO))), (tt, .inr (3, [.ref t0])), (t0, .inl (cL, 42, .inr (.inl (DG))))]) [0, 1, 2, 3, 4, 5, 6, 7, 8, 9, 10, 11, 12] rfl, hK, hE⟩ hZ) rfl rfl hl.1 rfl (lv_room (Nat.le_of_ble_eq_true rfl)) dL_told_7 ⟨Nat.le_of_ble_eq_true rfl, Nat.le_of_ble_eq_true rfl⟩) hS (fun q _ h => h.elim) (fun q h => h.elim) (fun q _ h => h.elim) (fun E ce q9 u t H1 locs ht hvm hw hB hz1 hk1 hS hce hcv hcl => ?_) (fun r u t H1 locs1 ht hvm hw hB hz1 hk1 hS1 => hw.elim)
  have hB9 : E = isX := hB
  subst hB9
  have hP := hP.kept (fun k q hk => hk1 q.1 ((hP k q hk).lt) (fun z => z))
  generalize H1 = H at hP hS hce ⊢
  refine vx_catch (name := isX) hown [⟨0, 11, 14, 19⟩] ⟨0, 11, 18, 13⟩ [] htb (fun z hz => by rw [List.mem_singleton.mp hz]; exact Or.inr ⟨by decide, nsX, hts (.classLink RL 19 nsX) (by decide +kernel), hE.nS⟩) (by decide) (by decide) (hts (.classLink RL 13 isX) (by decide +kernel)) hE.cS hce hcv hcl ?_
  refine W.widen (k := 1) (n := 6) (by omega) (by omega) ?_
  have hP : va_P (dC, dI) vwCl [(h, .inr (1, [.ref (cond fb pf po), .ref (cond fb po pf), .ref tt, .int (nI (nn))])), (pf, .inr (0, [.ref f0, .ref f1, .ref f2, .ref f3])), (f0, .inl (cD, 35, .inr (.inr (.inr (.inl (NF)))))), (f1, .inl (cZ, 35, .inl (GF))), (f2, .inl (cI, 30, .inl (TF))), (f3, .inl (cI, 6, .inl (OF))), (po, .inr (0, [.ref o0, .ref o1, .ref o2, .ref o3])), (o0, .inl (cD, 35, .inr (.inr (.inr (.inl (NO)))))), (o1, .inl (cZ, 35, .inl (GO))), (o2, .inl (cI, 30, .inl (TO))), (o3, .inl (cI, 6, .inl (OO))), (tt, .inr (3, [.ref t0])), (t0, .inl (cL, 42, .inr (.inl (DG)))), (ox, .inl (cL, 1, .inr (.inl (F))))] H := hP
  refine lv_astore (lv' := [(5, .ref q9), (0, .ref h), (1, .int (nI (Bool.toNat (fb)))), (2, .int (nI (en))), (3, .int (nI (bn))), (4, .ref ox)]) hx hb dL_told_18 hl (by decide) rfl (fun ls hl => ?_)
  refine lv_iconst (v := nI 2) hx hb dL_told_20 (by decide) ?_
  exact W.iret (v := nI 2) hx hb hr (fun t ht hW => ⟨⟨_, (), rfl, rfl, by rw [ht]; exact hP, va_K.moved hW.alike hK, hD⟩, hS.F ht⟩) hS.2.2 dL_told_21
set_option maxHeartbeats 4000000 in
set_option maxRecDepth 100000 in
theorem c_L_told_teN (l : Launch) (dC : Nat → ClassId) (dI : Nat → Nat → Nat) (cD cZ cI cL : ClassId) (h pf f0 f1 f2 f3 po o0 o1 o2 o3 tt t0 : Nat) (NF : Nat → UInt64) (GF TF OF : Nat → Int32) (NO : Nat → UInt64) (GO TO OO : Nat → Int32) (DG : Nat → Int64) (nn : Nat) (fb : Bool) (ox : Nat) (F : Nat → Int64) (sz : Nat) (hst : l.stackTraces = false) (bn : Nat) (hbn : bn < 5) (hG : ∀ j, GF j = 0 ∨ GF j = 1) (hth : GF (6 * 5 + bn) = 0) : Met l yL_told wsL_told ({ frames := 7, cells := 1, slots := 6, locals := 107 }) (va_Pc [.ref h, .int (nI (Bool.toNat (fb))), .int (-1), .int (nI (bn)), .ref ox] (fun U => U.heap.size = sz ∧ okLX dC dI cD cZ cI cL (wL cD cZ cI cL h pf f0 f1 f2 f3 po o0 o1 o2 o3 tt t0 NF GF TF OF NO GO TO OO DG nn fb ox F) U U.heap ∧ va_D (fun _ => True) (wL cD cZ cI cL h pf f0 f1 f2 f3 po o0 o1 o2 o3 tt t0 NF GF TF OF NO GO TO OO DG nn fb ox F))) (va_Qi (fun (r : Int32) (_ : Unit) => r = nI 2) (fun _ t => atL dC dI cD cZ cI cL (va_A (wL cD cZ cI cL h pf f0 f1 f2 f3 po o0 o1 o2 o3 tt t0 NF GF TF OF NO GO TO OO DG nn fb ox F) sz) (wL cD cZ cI cL h pf f0 f1 f2 f3 po o0 o1 o2 o3 tt t0 NF GF TF OF NO GO TO OO DG nn fb ox F) t) (va_A (wL cD cZ cI cL h pf f0 f1 f2 f3 po o0 o1 o2 o3 tt t0 NF GF TF OF NO GO TO OO DG nn fb ox F) sz)) 1 6 (va_A (wL cD cZ cI cL h pf f0 f1 f2 f3 po o0 o1 o2 o3 tt t0 NF GF TF OF NO GO TO OO DG nn fb ox F) sz) := by
  refine va_MetW (cc := cL_told) (maxL := 6) (ret := (some .int)) (hh := [(0, 11, 14, 19), (0, 11, 18, 13)]) (by decide) rfl ?_
  intro p e s m args below meth c s₁ B hml hv
  obtain ⟨rfl, hsz, hO, hD0⟩ := hv
  obtain ⟨hP, hK, hE, hZ⟩ := id hO
  have hx := B.exec
  have hb := B.bytes
  have hr := B.returns
  have hts := atoms_spec (ws := wsL_told) B.pre
  have hown : s.vm.findClass RL = some m.cls := findClass_of_methodNamed B.named
  have hlocks := B.notSynchronized
  have htb := vx_table (x := yL_told) B (hts _ List.mem_cons_self)
  subst hsz
  have hD := hD0.self (sz := s.heap.size)
  generalize hAe : va_A (wL cD cZ cI cL h pf f0 f1 f2 f3 po o0 o1 o2 o3 tt t0 NF GF TF OF NO GO TO OO DG nn fb ox F) s.heap.size = A at hD ⊢
  have hA : ∀ q : Nat, s.heap.size ≤ q → A q := fun q h => by rw [← hAe]; exact Or.inr h
  have hS : va_S A s.heap s.heap [] := va_S.rf
  have hP : va_P (dC, dI) vwCl [(h, .inr (1, [.ref (cond fb pf po), .ref (cond fb po pf), .ref tt, .int (nI (nn))])), (pf, .inr (0, [.ref f0, .ref f1, .ref f2, .ref f3])), (f0, .inl (cD, 35, .inr (.inr (.inr (.inl (NF)))))), (f1, .inl (cZ, 35, .inl (GF))), (f2, .inl (cI, 30, .inl (TF))), (f3, .inl (cI, 6, .inl (OF))), (po, .inr (0, [.ref o0, .ref o1, .ref o2, .ref o3])), (o0, .inl (cD, 35, .inr (.inr (.inr (.inl (NO)))))), (o1, .inl (cZ, 35, .inl (GO))), (o2, .inl (cI, 30, .inl (TO))), (o3, .inl (cI, 6, .inl (OO))), (tt, .inr (3, [.ref t0])), (t0, .inl (cL, 42, .inr (.inl (DG)))), (ox, .inl (cL, 1, .inr (.inl (F))))] s.heap := hP
  have hD : va_D A [(h, .inr (1, [.ref (cond fb pf po), .ref (cond fb po pf), .ref tt, .int (nI (nn))])), (pf, .inr (0, [.ref f0, .ref f1, .ref f2, .ref f3])), (f0, .inl (cD, 35, .inr (.inr (.inr (.inl (NF)))))), (f1, .inl (cZ, 35, .inl (GF))), (f2, .inl (cI, 30, .inl (TF))), (f3, .inl (cI, 6, .inl (OF))), (po, .inr (0, [.ref o0, .ref o1, .ref o2, .ref o3])), (o0, .inl (cD, 35, .inr (.inr (.inr (.inl (NO)))))), (o1, .inl (cZ, 35, .inl (GO))), (o2, .inl (cI, 30, .inl (TO))), (o3, .inl (cI, 6, .inl (OO))), (tt, .inr (3, [.ref t0])), (t0, .inl (cL, 42, .inr (.inl (DG)))), (ox, .inl (cL, 1, .inr (.inl (F))))] := hD
  have hl := lv_entry ([.ref h, .int (nI (Bool.toNat (fb))), .int (-1), .int (nI (bn)), .ref ox]) (n := 6) (Nat.le_of_ble_eq_true rfl)
  rw [lg_entry_eq]
  generalize (lg_sl ([.ref h, .int (nI (Bool.toNat (fb))), .int (-1), .int (nI (bn)), .ref ox]) ++ List.replicate (6 - (lg_sl ([.ref h, .int (nI (Bool.toNat (fb))), .int (-1), .int (nI (bn)), .ref ox])).length) Slot.unset).toArray = ls at hl ⊢
  have hl : lv_has ls 6 [(0, .ref h), (1, .int (nI (Bool.toNat (fb)))), (2, .int (-1)), (3, .int (nI (bn))), (4, .ref ox)] := hl
  refine lv_aload hx hb dL_told_0 (lv_at hl 4 rfl) ?_
  refine lv_iconst (v := nI 0) hx hb dL_told_2 (by decide) ?_
  refine lv_aload_n hx hb dL_told_3 rfl (lv_at hl 0 rfl) ?_
  refine lv_iload_n hx hb dL_told_4 rfl (lv_at hl 1 rfl) ?_
  refine lv_iload_n hx hb dL_told_5 rfl (lv_at hl 2 rfl) ?_
  refine lv_iload_n hx hb dL_told_6 rfl (lv_at hl 3 rfl) ?_
  refine vx_calll (vx_runV (As := [.int (nI (Bool.toNat (fb))), .int (-1), .int (nI (bn))]) (rest := [.int (nI (0)), .ref ox]) ⟨hx, hb, hml, hown, hts⟩ (t_X1_told_teN l dC dI cD cZ cI cL h pf f0 f1 f2 f3 po o0 o1 o2 o3 tt t0 NF GF TF OF NO GO TO OO DG nn fb hst bn hbn hG hth) (cwV 3 hts gL_told_X1_told rfl rfl rfl (by decide +kernel) ⟨Nat.le_of_ble_eq_true rfl, Nat.le_of_ble_eq_true rfl⟩) (okJX_pre ⟨hP.sub (ws' := [(h, .inr (1, [.ref (cond fb pf po), .ref (cond fb po pf), .ref tt, .int (nI (nn))])), (pf, .inr (0, [.ref f0, .ref f1, .ref f2, .ref f3])), (f0, .inl (cD, 35, .inr (.inr (.inr (.inl (NF)))))), (f1, .inl (cZ, 35, .inl (GF))), (f2, .inl (cI, 30, .inl (TF))), (f3, .inl (cI, 6, .inl (OF))), (po, .inr (0, [.ref o0, .ref o1, .ref o2, .ref o3])), (o0, .inl (cD, 35, .inr (.inr (.inr (.inl (NO)))))), (o1, .inl (cZ, 35, .inl (GO))), (o2, .inl (cI, 30, .inl (TO))), (o3, .inl (cI, 6, .inl (OO))), (tt, .inr (3, [.ref t0])), (t0, .inl (cL, 42, .inr (.inl (DG))))]) [0, 1, 2, 3, 4, 5, 6, 7, 8, 9, 10, 11, 12] rfl, hK, hE⟩ hZ) rfl rfl hl.1 rfl (lv_room (Nat.le_of_ble_eq_true rfl)) dL_told_7 ⟨Nat.le_of_ble_eq_true rfl, Nat.le_of_ble_eq_true rfl⟩) hS (fun q _ h => h.elim) (fun q h => h.elim) (fun q _ h => h.elim) (fun E ce q9 u t H1 locs ht hvm hw hB hz1 hk1 hS hce hcv hcl => ?_) (fun r u t H1 locs1 ht hvm hw hB hz1 hk1 hS1 => hw.elim)
  have hB9 : E = isX := hB
  subst hB9
  have hP := hP.kept (fun k q hk => hk1 q.1 ((hP k q hk).lt) (fun z => z))
  generalize H1 = H at hP hS hce ⊢
  refine vx_catch (name := isX) hown [⟨0, 11, 14, 19⟩] ⟨0, 11, 18, 13⟩ [] htb (fun z hz => by rw [List.mem_singleton.mp hz]; exact Or.inr ⟨by decide, nsX, hts (.classLink RL 19 nsX) (by decide +kernel), hE.nS⟩) (by decide) (by decide) (hts (.classLink RL 13 isX) (by decide +kernel)) hE.cS hce hcv hcl ?_
  refine W.widen (k := 1) (n := 6) (by omega) (by omega) ?_
  have hP : va_P (dC, dI) vwCl [(h, .inr (1, [.ref (cond fb pf po), .ref (cond fb po pf), .ref tt, .int (nI (nn))])), (pf, .inr (0, [.ref f0, .ref f1, .ref f2, .ref f3])), (f0, .inl (cD, 35, .inr (.inr (.inr (.inl (NF)))))), (f1, .inl (cZ, 35, .inl (GF))), (f2, .inl (cI, 30, .inl (TF))), (f3, .inl (cI, 6, .inl (OF))), (po, .inr (0, [.ref o0, .ref o1, .ref o2, .ref o3])), (o0, .inl (cD, 35, .inr (.inr (.inr (.inl (NO)))))), (o1, .inl (cZ, 35, .inl (GO))), (o2, .inl (cI, 30, .inl (TO))), (o3, .inl (cI, 6, .inl (OO))), (tt, .inr (3, [.ref t0])), (t0, .inl (cL, 42, .inr (.inl (DG)))), (ox, .inl (cL, 1, .inr (.inl (F))))] H := hP
  refine lv_astore (lv' := [(5, .ref q9), (0, .ref h), (1, .int (nI (Bool.toNat (fb)))), (2, .int (-1)), (3, .int (nI (bn))), (4, .ref ox)]) hx hb dL_told_18 hl (by decide) rfl (fun ls hl => ?_)
  refine lv_iconst (v := nI 2) hx hb dL_told_20 (by decide) ?_
  exact W.iret (v := nI 2) hx hb hr (fun t ht hW => ⟨⟨_, (), rfl, rfl, by rw [ht]; exact hP, va_K.moved hW.alike hK, hD⟩, hS.F ht⟩) hS.2.2 dL_told_21
set_option maxHeartbeats 4000000 in
set_option maxRecDepth 100000 in
theorem c_L_holds_t1 (l : Launch) (dC : Nat → ClassId) (dI : Nat → Nat → Nat) (cD cZ cI cL : ClassId) (h pf f0 f1 f2 f3 po o0 o1 o2 o3 tt t0 : Nat) (NF : Nat → UInt64) (GF TF OF : Nat → Int32) (NO : Nat → UInt64) (GO TO OO : Nat → Int32) (DG : Nat → Int64) (nn : Nat) (fb : Bool) (ox : Nat) (F : Nat → Int64) (sz : Nat) (hst : l.stackTraces = false) (ev bv kv : Int32) (hbad : vB ev nn = false) : Met l yL_holds wsL_holds ({ frames := 8, cells := 1, slots := 6, locals := 127 }) (va_Pc [.ref h, .int (nI (Bool.toNat (fb))), .int (ev), .int (bv), .int (kv), .ref ox] (fun U => U.heap.size = sz ∧ okLX dC dI cD cZ cI cL (wL cD cZ cI cL h pf f0 f1 f2 f3 po o0 o1 o2 o3 tt t0 NF GF TF OF NO GO TO OO DG nn fb ox F) U U.heap ∧ va_D (fun _ => True) (wL cD cZ cI cL h pf f0 f1 f2 f3 po o0 o1 o2 o3 tt t0 NF GF TF OF NO GO TO OO DG nn fb ox F))) (va_Qi (fun (r : Int32) (_ : Unit) => r = nI 1) (fun _ t => atL dC dI cD cZ cI cL (va_A (wL cD cZ cI cL h pf f0 f1 f2 f3 po o0 o1 o2 o3 tt t0 NF GF TF OF NO GO TO OO DG nn fb ox F) sz) (wL cD cZ cI cL h pf f0 f1 f2 f3 po o0 o1 o2 o3 tt t0 NF GF TF OF NO GO TO OO DG nn fb ox F) t) (va_A (wL cD cZ cI cL h pf f0 f1 f2 f3 po o0 o1 o2 o3 tt t0 NF GF TF OF NO GO TO OO DG nn fb ox F) sz)) 1 6 (va_A (wL cD cZ cI cL h pf f0 f1 f2 f3 po o0 o1 o2 o3 tt t0 NF GF TF OF NO GO TO OO DG nn fb ox F) sz) := by
  refine va_MetW (cc := cL_holds) (maxL := 7) (ret := (some .int)) (hh := [(0, 21, 24, 19), (0, 21, 28, 41)]) (by decide) rfl ?_
  intro p e s m args below meth c s₁ B hml hv
  obtain ⟨rfl, hsz, hO, hD0⟩ := hv
  obtain ⟨hP, hK, hE, hZ⟩ := id hO
  have hx := B.exec
  have hb := B.bytes
  have hr := B.returns
  have hts := atoms_spec (ws := wsL_holds) B.pre
  have hown : s.vm.findClass RL = some m.cls := findClass_of_methodNamed B.named
  have hlocks := B.notSynchronized
  have htb := vx_table (x := yL_holds) B (hts _ List.mem_cons_self)
  subst hsz
  have hD := hD0.self (sz := s.heap.size)
  generalize hAe : va_A (wL cD cZ cI cL h pf f0 f1 f2 f3 po o0 o1 o2 o3 tt t0 NF GF TF OF NO GO TO OO DG nn fb ox F) s.heap.size = A at hD ⊢
  have hA : ∀ q : Nat, s.heap.size ≤ q → A q := fun q h => by rw [← hAe]; exact Or.inr h
  have hS : va_S A s.heap s.heap [] := va_S.rf
  have hP : va_P (dC, dI) vwCl [(h, .inr (1, [.ref (cond fb pf po), .ref (cond fb po pf), .ref tt, .int (nI (nn))])), (pf, .inr (0, [.ref f0, .ref f1, .ref f2, .ref f3])), (f0, .inl (cD, 35, .inr (.inr (.inr (.inl (NF)))))), (f1, .inl (cZ, 35, .inl (GF))), (f2, .inl (cI, 30, .inl (TF))), (f3, .inl (cI, 6, .inl (OF))), (po, .inr (0, [.ref o0, .ref o1, .ref o2, .ref o3])), (o0, .inl (cD, 35, .inr (.inr (.inr (.inl (NO)))))), (o1, .inl (cZ, 35, .inl (GO))), (o2, .inl (cI, 30, .inl (TO))), (o3, .inl (cI, 6, .inl (OO))), (tt, .inr (3, [.ref t0])), (t0, .inl (cL, 42, .inr (.inl (DG)))), (ox, .inl (cL, 1, .inr (.inl (F))))] s.heap := hP
  have hD : va_D A [(h, .inr (1, [.ref (cond fb pf po), .ref (cond fb po pf), .ref tt, .int (nI (nn))])), (pf, .inr (0, [.ref f0, .ref f1, .ref f2, .ref f3])), (f0, .inl (cD, 35, .inr (.inr (.inr (.inl (NF)))))), (f1, .inl (cZ, 35, .inl (GF))), (f2, .inl (cI, 30, .inl (TF))), (f3, .inl (cI, 6, .inl (OF))), (po, .inr (0, [.ref o0, .ref o1, .ref o2, .ref o3])), (o0, .inl (cD, 35, .inr (.inr (.inr (.inl (NO)))))), (o1, .inl (cZ, 35, .inl (GO))), (o2, .inl (cI, 30, .inl (TO))), (o3, .inl (cI, 6, .inl (OO))), (tt, .inr (3, [.ref t0])), (t0, .inl (cL, 42, .inr (.inl (DG)))), (ox, .inl (cL, 1, .inr (.inl (F))))] := hD
  have hl := lv_entry ([.ref h, .int (nI (Bool.toNat (fb))), .int (ev), .int (bv), .int (kv), .ref ox]) (n := 7) (Nat.le_of_ble_eq_true rfl)
  rw [lg_entry_eq]
  generalize (lg_sl ([.ref h, .int (nI (Bool.toNat (fb))), .int (ev), .int (bv), .int (kv), .ref ox]) ++ List.replicate (7 - (lg_sl ([.ref h, .int (nI (Bool.toNat (fb))), .int (ev), .int (bv), .int (kv), .ref ox])).length) Slot.unset).toArray = ls at hl ⊢
  have hl : lv_has ls 7 [(0, .ref h), (1, .int (nI (Bool.toNat (fb)))), (2, .int (ev)), (3, .int (bv)), (4, .int (kv)), (5, .ref ox)] := hl
  refine lv_aload hx hb dL_holds_0 (lv_at hl 5 rfl) ?_
  refine lv_iconst (v := nI 0) hx hb dL_holds_2 (by decide) ?_
  refine lv_aload_n hx hb dL_holds_3 rfl (lv_at hl 0 rfl) ?_
  refine lv_iload_n hx hb dL_holds_4 rfl (lv_at hl 1 rfl) ?_
  refine lv_iload_n hx hb dL_holds_5 rfl (lv_at hl 2 rfl) ?_
  refine lv_iload_n hx hb dL_holds_6 rfl (lv_at hl 3 rfl) ?_
  refine lv_iload hx hb dL_holds_7 (lv_at hl 4 rfl) ?_
  refine vx_calli (vx_runV (As := [.int (nI (Bool.toNat (fb))), .int (ev), .int (bv), .int (kv)]) (rest := [.int (nI (0)), .ref ox]) ⟨hx, hb, hml, hown, hts⟩ (t_X1_holds_t1 l dC dI cD cZ cI cL h pf f0 f1 f2 f3 po o0 o1 o2 o3 tt t0 NF GF TF OF NO GO TO OO DG nn fb hst ev bv kv hbad) (cwV 4 hts gL_holds_X1_holds rfl rfl rfl (by decide +kernel) ⟨Nat.le_of_ble_eq_true rfl, Nat.le_of_ble_eq_true rfl⟩) (okJX_pre ⟨hP.sub (ws' := [(h, .inr (1, [.ref (cond fb pf po), .ref (cond fb po pf), .ref tt, .int (nI (nn))])), (pf, .inr (0, [.ref f0, .ref f1, .ref f2, .ref f3])), (f0, .inl (cD, 35, .inr (.inr (.inr (.inl (NF)))))), (f1, .inl (cZ, 35, .inl (GF))), (f2, .inl (cI, 30, .inl (TF))), (f3, .inl (cI, 6, .inl (OF))), (po, .inr (0, [.ref o0, .ref o1, .ref o2, .ref o3])), (o0, .inl (cD, 35, .inr (.inr (.inr (.inl (NO)))))), (o1, .inl (cZ, 35, .inl (GO))), (o2, .inl (cI, 30, .inl (TO))), (o3, .inl (cI, 6, .inl (OO))), (tt, .inr (3, [.ref t0])), (t0, .inl (cL, 42, .inr (.inl (DG))))]) [0, 1, 2, 3, 4, 5, 6, 7, 8, 9, 10, 11, 12] rfl, hK, hE⟩ hZ) rfl rfl hl.1 rfl (lv_room (Nat.le_of_ble_eq_true rfl)) dL_holds_9 ⟨Nat.le_of_ble_eq_true rfl, Nat.le_of_ble_eq_true rfl⟩) hS (fun q _ h => h.elim) (fun q h => h.elim) (fun q _ h => h.elim) (fun E ce q9 u t H1 locs ht hvm hw hB hz1 hk1 hS hce hcv hcl => ?_) (fun r u t H1 locs1 ht hvm hw hB hz1 hk1 hS1 => hw.elim)
  have hB9 : E = nsX := hB
  subst hB9
  have hP := hP.kept (fun k q hk => hk1 q.1 ((hP k q hk).lt) (fun z => z))
  generalize H1 = H at hP hS hce ⊢
  refine vx_catch (name := nsX) hown [] ⟨0, 21, 24, 19⟩ [⟨0, 21, 28, 41⟩] htb (fun z hz => absurd hz List.not_mem_nil) (by decide) (by decide) (hts (.classLink RL 19 nsX) (by decide +kernel)) hE.cN hce hcv hcl ?_
  refine W.widen (k := 1) (n := 6) (by omega) (by omega) ?_
  have hP : va_P (dC, dI) vwCl [(h, .inr (1, [.ref (cond fb pf po), .ref (cond fb po pf), .ref tt, .int (nI (nn))])), (pf, .inr (0, [.ref f0, .ref f1, .ref f2, .ref f3])), (f0, .inl (cD, 35, .inr (.inr (.inr (.inl (NF)))))), (f1, .inl (cZ, 35, .inl (GF))), (f2, .inl (cI, 30, .inl (TF))), (f3, .inl (cI, 6, .inl (OF))), (po, .inr (0, [.ref o0, .ref o1, .ref o2, .ref o3])), (o0, .inl (cD, 35, .inr (.inr (.inr (.inl (NO)))))), (o1, .inl (cZ, 35, .inl (GO))), (o2, .inl (cI, 30, .inl (TO))), (o3, .inl (cI, 6, .inl (OO))), (tt, .inr (3, [.ref t0])), (t0, .inl (cL, 42, .inr (.inl (DG)))), (ox, .inl (cL, 1, .inr (.inl (F))))] H := hP
  refine lv_astore (lv' := [(6, .ref q9), (0, .ref h), (1, .int (nI (Bool.toNat (fb)))), (2, .int (ev)), (3, .int (bv)), (4, .int (kv)), (5, .ref ox)]) hx hb dL_holds_24 hl (by decide) rfl (fun ls hl => ?_)
  refine lv_iconst (v := nI 1) hx hb dL_holds_26 (by decide) ?_
  exact W.iret (v := nI 1) hx hb hr (fun t ht hW => ⟨⟨_, (), rfl, rfl, by rw [ht]; exact hP, va_K.moved hW.alike hK, hD⟩, hS.F ht⟩) hS.2.2 dL_holds_27
set_option maxHeartbeats 4000000 in
set_option maxRecDepth 100000 in
theorem c_L_holds_t2 (l : Launch) (dC : Nat → ClassId) (dI : Nat → Nat → Nat) (cD cZ cI cL : ClassId) (h pf f0 f1 f2 f3 po o0 o1 o2 o3 tt t0 : Nat) (NF : Nat → UInt64) (GF TF OF : Nat → Int32) (NO : Nat → UInt64) (GO TO OO : Nat → Int32) (DG : Nat → Int64) (nn : Nat) (fb : Bool) (ox : Nat) (F : Nat → Int64) (sz : Nat) (hst : l.stackTraces = false) (hnn : nn ≤ 6) (en : Nat) (bv kv : Int32) (hen : en < nn) (hbad : vB bv 5 = false) : Met l yL_holds wsL_holds ({ frames := 8, cells := 1, slots := 6, locals := 126 }) (va_Pc [.ref h, .int (nI (Bool.toNat (fb))), .int (nI (en)), .int (bv), .int (kv), .ref ox] (fun U => U.heap.size = sz ∧ okLX dC dI cD cZ cI cL (wL cD cZ cI cL h pf f0 f1 f2 f3 po o0 o1 o2 o3 tt t0 NF GF TF OF NO GO TO OO DG nn fb ox F) U U.heap ∧ va_D (fun _ => True) (wL cD cZ cI cL h pf f0 f1 f2 f3 po o0 o1 o2 o3 tt t0 NF GF TF OF NO GO TO OO DG nn fb ox F))) (va_Qi (fun (r : Int32) (_ : Unit) => r = nI 1) (fun _ t => atL dC dI cD cZ cI cL (va_A (wL cD cZ cI cL h pf f0 f1 f2 f3 po o0 o1 o2 o3 tt t0 NF GF TF OF NO GO TO OO DG nn fb ox F) sz) (wL cD cZ cI cL h pf f0 f1 f2 f3 po o0 o1 o2 o3 tt t0 NF GF TF OF NO GO TO OO DG nn fb ox F) t) (va_A (wL cD cZ cI cL h pf f0 f1 f2 f3 po o0 o1 o2 o3 tt t0 NF GF TF OF NO GO TO OO DG nn fb ox F) sz)) 1 6 (va_A (wL cD cZ cI cL h pf f0 f1 f2 f3 po o0 o1 o2 o3 tt t0 NF GF TF OF NO GO TO OO DG nn fb ox F) sz) := by
  refine va_MetW (cc := cL_holds) (maxL := 7) (ret := (some .int)) (hh := [(0, 21, 24, 19), (0, 21, 28, 41)]) (by decide) rfl ?_
  intro p e s m args below meth c s₁ B hml hv
  obtain ⟨rfl, hsz, hO, hD0⟩ := hv
  obtain ⟨hP, hK, hE, hZ⟩ := id hO
  have hx := B.exec
  have hb := B.bytes
  have hr := B.returns
  have hts := atoms_spec (ws := wsL_holds) B.pre
  have hown : s.vm.findClass RL = some m.cls := findClass_of_methodNamed B.named
  have hlocks := B.notSynchronized
  have htb := vx_table (x := yL_holds) B (hts _ List.mem_cons_self)
  subst hsz
  have hD := hD0.self (sz := s.heap.size)
  generalize hAe : va_A (wL cD cZ cI cL h pf f0 f1 f2 f3 po o0 o1 o2 o3 tt t0 NF GF TF OF NO GO TO OO DG nn fb ox F) s.heap.size = A at hD ⊢
  have hA : ∀ q : Nat, s.heap.size ≤ q → A q := fun q h => by rw [← hAe]; exact Or.inr h
  have hS : va_S A s.heap s.heap [] := va_S.rf
  have hP : va_P (dC, dI) vwCl [(h, .inr (1, [.ref (cond fb pf po), .ref (cond fb po pf), .ref tt, .int (nI (nn))])), (pf, .inr (0, [.ref f0, .ref f1, .ref f2, .ref f3])), (f0, .inl (cD, 35, .inr (.inr (.inr (.inl (NF)))))), (f1, .inl (cZ, 35, .inl (GF))), (f2, .inl (cI, 30, .inl (TF))), (f3, .inl (cI, 6, .inl (OF))), (po, .inr (0, [.ref o0, .ref o1, .ref o2, .ref o3])), (o0, .inl (cD, 35, .inr (.inr (.inr (.inl (NO)))))), (o1, .inl (cZ, 35, .inl (GO))), (o2, .inl (cI, 30, .inl (TO))), (o3, .inl (cI, 6, .inl (OO))), (tt, .inr (3, [.ref t0])), (t0, .inl (cL, 42, .inr (.inl (DG)))), (ox, .inl (cL, 1, .inr (.inl (F))))] s.heap := hP
  have hD : va_D A [(h, .inr (1, [.ref (cond fb pf po), .ref (cond fb po pf), .ref tt, .int (nI (nn))])), (pf, .inr (0, [.ref f0, .ref f1, .ref f2, .ref f3])), (f0, .inl (cD, 35, .inr (.inr (.inr (.inl (NF)))))), (f1, .inl (cZ, 35, .inl (GF))), (f2, .inl (cI, 30, .inl (TF))), (f3, .inl (cI, 6, .inl (OF))), (po, .inr (0, [.ref o0, .ref o1, .ref o2, .ref o3])), (o0, .inl (cD, 35, .inr (.inr (.inr (.inl (NO)))))), (o1, .inl (cZ, 35, .inl (GO))), (o2, .inl (cI, 30, .inl (TO))), (o3, .inl (cI, 6, .inl (OO))), (tt, .inr (3, [.ref t0])), (t0, .inl (cL, 42, .inr (.inl (DG)))), (ox, .inl (cL, 1, .inr (.inl (F))))] := hD
  have hl := lv_entry ([.ref h, .int (nI (Bool.toNat (fb))), .int (nI (en)), .int (bv), .int (kv), .ref ox]) (n := 7) (Nat.le_of_ble_eq_true rfl)
  rw [lg_entry_eq]
  generalize (lg_sl ([.ref h, .int (nI (Bool.toNat (fb))), .int (nI (en)), .int (bv), .int (kv), .ref ox]) ++ List.replicate (7 - (lg_sl ([.ref h, .int (nI (Bool.toNat (fb))), .int (nI (en)), .int (bv), .int (kv), .ref ox])).length) Slot.unset).toArray = ls at hl ⊢
  have hl : lv_has ls 7 [(0, .ref h), (1, .int (nI (Bool.toNat (fb)))), (2, .int (nI (en))), (3, .int (bv)), (4, .int (kv)), (5, .ref ox)] := hl
  refine lv_aload hx hb dL_holds_0 (lv_at hl 5 rfl) ?_
  refine lv_iconst (v := nI 0) hx hb dL_holds_2 (by decide) ?_
  refine lv_aload_n hx hb dL_holds_3 rfl (lv_at hl 0 rfl) ?_
  refine lv_iload_n hx hb dL_holds_4 rfl (lv_at hl 1 rfl) ?_
  refine lv_iload_n hx hb dL_holds_5 rfl (lv_at hl 2 rfl) ?_
  refine lv_iload_n hx hb dL_holds_6 rfl (lv_at hl 3 rfl) ?_
  refine lv_iload hx hb dL_holds_7 (lv_at hl 4 rfl) ?_
  refine vx_calli (vx_runV (As := [.int (nI (Bool.toNat (fb))), .int (nI (en)), .int (bv), .int (kv)]) (rest := [.int (nI (0)), .ref ox]) ⟨hx, hb, hml, hown, hts⟩ (t_X1_holds_t2 l dC dI cD cZ cI cL h pf f0 f1 f2 f3 po o0 o1 o2 o3 tt t0 NF GF TF OF NO GO TO OO DG nn fb hst hnn en bv kv hen hbad) (cwV 4 hts gL_holds_X1_holds rfl rfl rfl (by decide +kernel) ⟨Nat.le_of_ble_eq_true rfl, Nat.le_of_ble_eq_true rfl⟩) (okJX_pre ⟨hP.sub (ws' := [(h, .inr (1, [.ref (cond fb pf po), .ref (cond fb po pf), .ref tt, .int (nI (nn))])), (pf, .inr (0, [.ref f0, .ref f1, .ref f2, .ref f3])), (f0, .inl (cD, 35, .inr (.inr (.inr (.inl (NF)))))), (f1, .inl (cZ, 35, .inl (GF))), (f2, .inl (cI, 30, .inl (TF))), (f3, .inl (cI, 6, .inl (OF))), (po, .inr (0, [.ref o0, .ref o1, .ref o2, .ref o3])), (o0, .inl (cD, 35, .inr (.inr (.inr (.inl (NO)))))), (o1, .inl (cZ, 35, .inl (GO))), (o2, .inl (cI, 30, .inl (TO))), (o3, .inl (cI, 6, .inl (OO))), (tt, .inr (3, [.ref t0])), (t0, .inl (cL, 42, .inr (.inl (DG))))]) [0, 1, 2, 3, 4, 5, 6, 7, 8, 9, 10, 11, 12] rfl, hK, hE⟩ hZ) rfl rfl hl.1 rfl (lv_room (Nat.le_of_ble_eq_true rfl)) dL_holds_9 ⟨Nat.le_of_ble_eq_true rfl, Nat.le_of_ble_eq_true rfl⟩) hS (fun q _ h => h.elim) (fun q h => h.elim) (fun q _ h => h.elim) (fun E ce q9 u t H1 locs ht hvm hw hB hz1 hk1 hS hce hcv hcl => ?_) (fun r u t H1 locs1 ht hvm hw hB hz1 hk1 hS1 => hw.elim)
  have hB9 : E = nsX := hB
  subst hB9
  have hP := hP.kept (fun k q hk => hk1 q.1 ((hP k q hk).lt) (fun z => z))
  generalize H1 = H at hP hS hce ⊢
  refine vx_catch (name := nsX) hown [] ⟨0, 21, 24, 19⟩ [⟨0, 21, 28, 41⟩] htb (fun z hz => absurd hz List.not_mem_nil) (by decide) (by decide) (hts (.classLink RL 19 nsX) (by decide +kernel)) hE.cN hce hcv hcl ?_
  refine W.widen (k := 1) (n := 6) (by omega) (by omega) ?_
  have hP : va_P (dC, dI) vwCl [(h, .inr (1, [.ref (cond fb pf po), .ref (cond fb po pf), .ref tt, .int (nI (nn))])), (pf, .inr (0, [.ref f0, .ref f1, .ref f2, .ref f3])), (f0, .inl (cD, 35, .inr (.inr (.inr (.inl (NF)))))), (f1, .inl (cZ, 35, .inl (GF))), (f2, .inl (cI, 30, .inl (TF))), (f3, .inl (cI, 6, .inl (OF))), (po, .inr (0, [.ref o0, .ref o1, .ref o2, .ref o3])), (o0, .inl (cD, 35, .inr (.inr (.inr (.inl (NO)))))), (o1, .inl (cZ, 35, .inl (GO))), (o2, .inl (cI, 30, .inl (TO))), (o3, .inl (cI, 6, .inl (OO))), (tt, .inr (3, [.ref t0])), (t0, .inl (cL, 42, .inr (.inl (DG)))), (ox, .inl (cL, 1, .inr (.inl (F))))] H := hP
  refine lv_astore (lv' := [(6, .ref q9), (0, .ref h), (1, .int (nI (Bool.toNat (fb)))), (2, .int (nI (en))), (3, .int (bv)), (4, .int (kv)), (5, .ref ox)]) hx hb dL_holds_24 hl (by decide) rfl (fun ls hl => ?_)
  refine lv_iconst (v := nI 1) hx hb dL_holds_26 (by decide) ?_
  exact W.iret (v := nI 1) hx hb hr (fun t ht hW => ⟨⟨_, (), rfl, rfl, by rw [ht]; exact hP, va_K.moved hW.alike hK, hD⟩, hS.F ht⟩) hS.2.2 dL_holds_27
set_option maxHeartbeats 4000000 in
set_option maxRecDepth 100000 in
theorem c_L_holds_t3 (l : Launch) (dC : Nat → ClassId) (dI : Nat → Nat → Nat) (cD cZ cI cL : ClassId) (h pf f0 f1 f2 f3 po o0 o1 o2 o3 tt t0 : Nat) (NF : Nat → UInt64) (GF TF OF : Nat → Int32) (NO : Nat → UInt64) (GO TO OO : Nat → Int32) (DG : Nat → Int64) (nn : Nat) (fb : Bool) (ox : Nat) (F : Nat → Int64) (sz : Nat) (hst : l.stackTraces = false) (hnn : nn ≤ 6) (en bn : Nat) (kv : Int32) (hen : en < nn) (hbn : bn < 5) (hbad : vB kv 24 = false) : Met l yL_holds wsL_holds ({ frames := 8, cells := 1, slots := 6, locals := 127 }) (va_Pc [.ref h, .int (nI (Bool.toNat (fb))), .int (nI (en)), .int (nI (bn)), .int (kv), .ref ox] (fun U => U.heap.size = sz ∧ okLX dC dI cD cZ cI cL (wL cD cZ cI cL h pf f0 f1 f2 f3 po o0 o1 o2 o3 tt t0 NF GF TF OF NO GO TO OO DG nn fb ox F) U U.heap ∧ va_D (fun _ => True) (wL cD cZ cI cL h pf f0 f1 f2 f3 po o0 o1 o2 o3 tt t0 NF GF TF OF NO GO TO OO DG nn fb ox F))) (va_Qi (fun (r : Int32) (_ : Unit) => r = nI 2) (fun _ t => atL dC dI cD cZ cI cL (va_A (wL cD cZ cI cL h pf f0 f1 f2 f3 po o0 o1 o2 o3 tt t0 NF GF TF OF NO GO TO OO DG nn fb ox F) sz) (wL cD cZ cI cL h pf f0 f1 f2 f3 po o0 o1 o2 o3 tt t0 NF GF TF OF NO GO TO OO DG nn fb ox F) t) (va_A (wL cD cZ cI cL h pf f0 f1 f2 f3 po o0 o1 o2 o3 tt t0 NF GF TF OF NO GO TO OO DG nn fb ox F) sz)) 1 6 (va_A (wL cD cZ cI cL h pf f0 f1 f2 f3 po o0 o1 o2 o3 tt t0 NF GF TF OF NO GO TO OO DG nn fb ox F) sz) := by
  refine va_MetW (cc := cL_holds) (maxL := 7) (ret := (some .int)) (hh := [(0, 21, 24, 19), (0, 21, 28, 41)]) (by decide) rfl ?_
  intro p e s m args below meth c s₁ B hml hv
  obtain ⟨rfl, hsz, hO, hD0⟩ := hv
  obtain ⟨hP, hK, hE, hZ⟩ := id hO
  have hx := B.exec
  have hb := B.bytes
  have hr := B.returns
  have hts := atoms_spec (ws := wsL_holds) B.pre
  have hown : s.vm.findClass RL = some m.cls := findClass_of_methodNamed B.named
  have hlocks := B.notSynchronized
  have htb := vx_table (x := yL_holds) B (hts _ List.mem_cons_self)
  subst hsz
  have hD := hD0.self (sz := s.heap.size)
  generalize hAe : va_A (wL cD cZ cI cL h pf f0 f1 f2 f3 po o0 o1 o2 o3 tt t0 NF GF TF OF NO GO TO OO DG nn fb ox F) s.heap.size = A at hD ⊢
  have hA : ∀ q : Nat, s.heap.size ≤ q → A q := fun q h => by rw [← hAe]; exact Or.inr h
  have hS : va_S A s.heap s.heap [] := va_S.rf
  have hP : va_P (dC, dI) vwCl [(h, .inr (1, [.ref (cond fb pf po), .ref (cond fb po pf), .ref tt, .int (nI (nn))])), (pf, .inr (0, [.ref f0, .ref f1, .ref f2, .ref f3])), (f0, .inl (cD, 35, .inr (.inr (.inr (.inl (NF)))))), (f1, .inl (cZ, 35, .inl (GF))), (f2, .inl (cI, 30, .inl (TF))), (f3, .inl (cI, 6, .inl (OF))), (po, .inr (0, [.ref o0, .ref o1, .ref o2, .ref o3])), (o0, .inl (cD, 35, .inr (.inr (.inr (.inl (NO)))))), (o1, .inl (cZ, 35, .inl (GO))), (o2, .inl (cI, 30, .inl (TO))), (o3, .inl (cI, 6, .inl (OO))), (tt, .inr (3, [.ref t0])), (t0, .inl (cL, 42, .inr (.inl (DG)))), (ox, .inl (cL, 1, .inr (.inl (F))))] s.heap := hP
  have hD : va_D A [(h, .inr (1, [.ref (cond fb pf po), .ref (cond fb po pf), .ref tt, .int (nI (nn))])), (pf, .inr (0, [.ref f0, .ref f1, .ref f2, .ref f3])), (f0, .inl (cD, 35, .inr (.inr (.inr (.inl (NF)))))), (f1, .inl (cZ, 35, .inl (GF))), (f2, .inl (cI, 30, .inl (TF))), (f3, .inl (cI, 6, .inl (OF))), (po, .inr (0, [.ref o0, .ref o1, .ref o2, .ref o3])), (o0, .inl (cD, 35, .inr (.inr (.inr (.inl (NO)))))), (o1, .inl (cZ, 35, .inl (GO))), (o2, .inl (cI, 30, .inl (TO))), (o3, .inl (cI, 6, .inl (OO))), (tt, .inr (3, [.ref t0])), (t0, .inl (cL, 42, .inr (.inl (DG)))), (ox, .inl (cL, 1, .inr (.inl (F))))] := hD
  have hl := lv_entry ([.ref h, .int (nI (Bool.toNat (fb))), .int (nI (en)), .int (nI (bn)), .int (kv), .ref ox]) (n := 7) (Nat.le_of_ble_eq_true rfl)
  rw [lg_entry_eq]
  generalize (lg_sl ([.ref h, .int (nI (Bool.toNat (fb))), .int (nI (en)), .int (nI (bn)), .int (kv), .ref ox]) ++ List.replicate (7 - (lg_sl ([.ref h, .int (nI (Bool.toNat (fb))), .int (nI (en)), .int (nI (bn)), .int (kv), .ref ox])).length) Slot.unset).toArray = ls at hl ⊢
  have hl : lv_has ls 7 [(0, .ref h), (1, .int (nI (Bool.toNat (fb)))), (2, .int (nI (en))), (3, .int (nI (bn))), (4, .int (kv)), (5, .ref ox)] := hl
  refine lv_aload hx hb dL_holds_0 (lv_at hl 5 rfl) ?_
  refine lv_iconst (v := nI 0) hx hb dL_holds_2 (by decide) ?_
  refine lv_aload_n hx hb dL_holds_3 rfl (lv_at hl 0 rfl) ?_
  refine lv_iload_n hx hb dL_holds_4 rfl (lv_at hl 1 rfl) ?_
  refine lv_iload_n hx hb dL_holds_5 rfl (lv_at hl 2 rfl) ?_
  refine lv_iload_n hx hb dL_holds_6 rfl (lv_at hl 3 rfl) ?_
  refine lv_iload hx hb dL_holds_7 (lv_at hl 4 rfl) ?_
  refine vx_calli (vx_runV (As := [.int (nI (Bool.toNat (fb))), .int (nI (en)), .int (nI (bn)), .int (kv)]) (rest := [.int (nI (0)), .ref ox]) ⟨hx, hb, hml, hown, hts⟩ (t_X1_holds_t3 l dC dI cD cZ cI cL h pf f0 f1 f2 f3 po o0 o1 o2 o3 tt t0 NF GF TF OF NO GO TO OO DG nn fb hst hnn en bn kv hen hbn hbad) (cwV 4 hts gL_holds_X1_holds rfl rfl rfl (by decide +kernel) ⟨Nat.le_of_ble_eq_true rfl, Nat.le_of_ble_eq_true rfl⟩) (okJX_pre ⟨hP.sub (ws' := [(h, .inr (1, [.ref (cond fb pf po), .ref (cond fb po pf), .ref tt, .int (nI (nn))])), (pf, .inr (0, [.ref f0, .ref f1, .ref f2, .ref f3])), (f0, .inl (cD, 35, .inr (.inr (.inr (.inl (NF)))))), (f1, .inl (cZ, 35, .inl (GF))), (f2, .inl (cI, 30, .inl (TF))), (f3, .inl (cI, 6, .inl (OF))), (po, .inr (0, [.ref o0, .ref o1, .ref o2, .ref o3])), (o0, .inl (cD, 35, .inr (.inr (.inr (.inl (NO)))))), (o1, .inl (cZ, 35, .inl (GO))), (o2, .inl (cI, 30, .inl (TO))), (o3, .inl (cI, 6, .inl (OO))), (tt, .inr (3, [.ref t0])), (t0, .inl (cL, 42, .inr (.inl (DG))))]) [0, 1, 2, 3, 4, 5, 6, 7, 8, 9, 10, 11, 12] rfl, hK, hE⟩ hZ) rfl rfl hl.1 rfl (lv_room (Nat.le_of_ble_eq_true rfl)) dL_holds_9 ⟨Nat.le_of_ble_eq_true rfl, Nat.le_of_ble_eq_true rfl⟩) hS (fun q _ h => h.elim) (fun q h => h.elim) (fun q _ h => h.elim) (fun E ce q9 u t H1 locs ht hvm hw hB hz1 hk1 hS hce hcv hcl => ?_) (fun r u t H1 locs1 ht hvm hw hB hz1 hk1 hS1 => hw.elim)
  have hB9 : E = iaX := hB
  subst hB9
  have hP := hP.kept (fun k q hk => hk1 q.1 ((hP k q hk).lt) (fun z => z))
  generalize H1 = H at hP hS hce ⊢
  refine vx_catch (name := iaX) hown [⟨0, 21, 24, 19⟩] ⟨0, 21, 28, 41⟩ [] htb (fun z hz => by rw [List.mem_singleton.mp hz]; exact Or.inr ⟨by decide, nsX, hts (.classLink RL 19 nsX) (by decide +kernel), hE.nA⟩) (by decide) (by decide) (hts (.classLink RL 41 iaX) (by decide +kernel)) hE.cA hce hcv hcl ?_
  refine W.widen (k := 1) (n := 6) (by omega) (by omega) ?_
  have hP : va_P (dC, dI) vwCl [(h, .inr (1, [.ref (cond fb pf po), .ref (cond fb po pf), .ref tt, .int (nI (nn))])), (pf, .inr (0, [.ref f0, .ref f1, .ref f2, .ref f3])), (f0, .inl (cD, 35, .inr (.inr (.inr (.inl (NF)))))), (f1, .inl (cZ, 35, .inl (GF))), (f2, .inl (cI, 30, .inl (TF))), (f3, .inl (cI, 6, .inl (OF))), (po, .inr (0, [.ref o0, .ref o1, .ref o2, .ref o3])), (o0, .inl (cD, 35, .inr (.inr (.inr (.inl (NO)))))), (o1, .inl (cZ, 35, .inl (GO))), (o2, .inl (cI, 30, .inl (TO))), (o3, .inl (cI, 6, .inl (OO))), (tt, .inr (3, [.ref t0])), (t0, .inl (cL, 42, .inr (.inl (DG)))), (ox, .inl (cL, 1, .inr (.inl (F))))] H := hP
  refine lv_astore (lv' := [(6, .ref q9), (0, .ref h), (1, .int (nI (Bool.toNat (fb)))), (2, .int (nI (en))), (3, .int (nI (bn))), (4, .int (kv)), (5, .ref ox)]) hx hb dL_holds_28 hl (by decide) rfl (fun ls hl => ?_)
  refine lv_iconst (v := nI 2) hx hb dL_holds_30 (by decide) ?_
  exact W.iret (v := nI 2) hx hb hr (fun t ht hW => ⟨⟨_, (), rfl, rfl, by rw [ht]; exact hP, va_K.moved hW.alike hK, hD⟩, hS.F ht⟩) hS.2.2 dL_holds_31
set_option maxHeartbeats 4000000 in
set_option maxRecDepth 100000 in
theorem c_L_keep_t1 (l : Launch) (dC : Nat → ClassId) (dI : Nat → Nat → Nat) (cD cZ cI cL : ClassId) (h pf f0 f1 f2 f3 po o0 o1 o2 o3 tt t0 : Nat) (NF : Nat → UInt64) (GF TF OF : Nat → Int32) (NO : Nat → UInt64) (GO TO OO : Nat → Int32) (DG : Nat → Int64) (nn : Nat) (fb : Bool) (ox : Nat) (F : Nat → Int64) (sz : Nat) (hst : l.stackTraces = false) (ev bv kv : Int32) (hbad : vB ev nn = false) : Met l yL_keep wsL_keep ({ frames := 8, cells := 1, slots := 6, locals := 127 }) (va_Pc [.ref h, .int (nI (Bool.toNat (fb))), .int (ev), .int (bv), .int (kv), .ref ox] (fun U => U.heap.size = sz ∧ okLX dC dI cD cZ cI cL (wL cD cZ cI cL h pf f0 f1 f2 f3 po o0 o1 o2 o3 tt t0 NF GF TF OF NO GO TO OO DG nn fb ox F) U U.heap ∧ va_D (fun _ => True) (wL cD cZ cI cL h pf f0 f1 f2 f3 po o0 o1 o2 o3 tt t0 NF GF TF OF NO GO TO OO DG nn fb ox F))) (va_Qi (fun (r : Int32) (_ : Unit) => r = nI 1) (fun _ t => atL dC dI cD cZ cI cL (va_A (wL cD cZ cI cL h pf f0 f1 f2 f3 po o0 o1 o2 o3 tt t0 NF GF TF OF NO GO TO OO DG nn fb ox F) sz) (wL cD cZ cI cL h pf f0 f1 f2 f3 po o0 o1 o2 o3 tt t0 NF GF TF OF NO GO TO OO DG nn fb ox F) t) (va_A (wL cD cZ cI cL h pf f0 f1 f2 f3 po o0 o1 o2 o3 tt t0 NF GF TF OF NO GO TO OO DG nn fb ox F) sz)) 1 6 (va_A (wL cD cZ cI cL h pf f0 f1 f2 f3 po o0 o1 o2 o3 tt t0 NF GF TF OF NO GO TO OO DG nn fb ox F) sz) := by
  refine va_MetW (cc := cL_keep) (maxL := 7) (ret := (some .int)) (hh := [(0, 21, 24, 19), (0, 21, 28, 41)]) (by decide) rfl ?_
  intro p e s m args below meth c s₁ B hml hv
  obtain ⟨rfl, hsz, hO, hD0⟩ := hv
  obtain ⟨hP, hK, hE, hZ⟩ := id hO
  have hx := B.exec
  have hb := B.bytes
  have hr := B.returns
  have hts := atoms_spec (ws := wsL_keep) B.pre
  have hown : s.vm.findClass RL = some m.cls := findClass_of_methodNamed B.named
  have hlocks := B.notSynchronized
  have htb := vx_table (x := yL_keep) B (hts _ List.mem_cons_self)
  subst hsz
  have hD := hD0.self (sz := s.heap.size)
  generalize hAe : va_A (wL cD cZ cI cL h pf f0 f1 f2 f3 po o0 o1 o2 o3 tt t0 NF GF TF OF NO GO TO OO DG nn fb ox F) s.heap.size = A at hD ⊢
  have hA : ∀ q : Nat, s.heap.size ≤ q → A q := fun q h => by rw [← hAe]; exact Or.inr h
  have hS : va_S A s.heap s.heap [] := va_S.rf
  have hP : va_P (dC, dI) vwCl [(h, .inr (1, [.ref (cond fb pf po), .ref (cond fb po pf), .ref tt, .int (nI (nn))])), (pf, .inr (0, [.ref f0, .ref f1, .ref f2, .ref f3])), (f0, .inl (cD, 35, .inr (.inr (.inr (.inl (NF)))))), (f1, .inl (cZ, 35, .inl (GF))), (f2, .inl (cI, 30, .inl (TF))), (f3, .inl (cI, 6, .inl (OF))), (po, .inr (0, [.ref o0, .ref o1, .ref o2, .ref o3])), (o0, .inl (cD, 35, .inr (.inr (.inr (.inl (NO)))))), (o1, .inl (cZ, 35, .inl (GO))), (o2, .inl (cI, 30, .inl (TO))), (o3, .inl (cI, 6, .inl (OO))), (tt, .inr (3, [.ref t0])), (t0, .inl (cL, 42, .inr (.inl (DG)))), (ox, .inl (cL, 1, .inr (.inl (F))))] s.heap := hP
  have hD : va_D A [(h, .inr (1, [.ref (cond fb pf po), .ref (cond fb po pf), .ref tt, .int (nI (nn))])), (pf, .inr (0, [.ref f0, .ref f1, .ref f2, .ref f3])), (f0, .inl (cD, 35, .inr (.inr (.inr (.inl (NF)))))), (f1, .inl (cZ, 35, .inl (GF))), (f2, .inl (cI, 30, .inl (TF))), (f3, .inl (cI, 6, .inl (OF))), (po, .inr (0, [.ref o0, .ref o1, .ref o2, .ref o3])), (o0, .inl (cD, 35, .inr (.inr (.inr (.inl (NO)))))), (o1, .inl (cZ, 35, .inl (GO))), (o2, .inl (cI, 30, .inl (TO))), (o3, .inl (cI, 6, .inl (OO))), (tt, .inr (3, [.ref t0])), (t0, .inl (cL, 42, .inr (.inl (DG)))), (ox, .inl (cL, 1, .inr (.inl (F))))] := hD
  have hl := lv_entry ([.ref h, .int (nI (Bool.toNat (fb))), .int (ev), .int (bv), .int (kv), .ref ox]) (n := 7) (Nat.le_of_ble_eq_true rfl)
  rw [lg_entry_eq]
  generalize (lg_sl ([.ref h, .int (nI (Bool.toNat (fb))), .int (ev), .int (bv), .int (kv), .ref ox]) ++ List.replicate (7 - (lg_sl ([.ref h, .int (nI (Bool.toNat (fb))), .int (ev), .int (bv), .int (kv), .ref ox])).length) Slot.unset).toArray = ls at hl ⊢
  have hl : lv_has ls 7 [(0, .ref h), (1, .int (nI (Bool.toNat (fb)))), (2, .int (ev)), (3, .int (bv)), (4, .int (kv)), (5, .ref ox)] := hl
  refine lv_aload hx hb dL_keep_0 (lv_at hl 5 rfl) ?_
  refine lv_iconst (v := nI 0) hx hb dL_keep_2 (by decide) ?_
  refine lv_aload_n hx hb dL_keep_3 rfl (lv_at hl 0 rfl) ?_
  refine lv_iload_n hx hb dL_keep_4 rfl (lv_at hl 1 rfl) ?_
  refine lv_iload_n hx hb dL_keep_5 rfl (lv_at hl 2 rfl) ?_
  refine lv_iload_n hx hb dL_keep_6 rfl (lv_at hl 3 rfl) ?_
  refine lv_iload hx hb dL_keep_7 (lv_at hl 4 rfl) ?_
  refine vx_calli (vx_runV (As := [.int (nI (Bool.toNat (fb))), .int (ev), .int (bv), .int (kv)]) (rest := [.int (nI (0)), .ref ox]) ⟨hx, hb, hml, hown, hts⟩ (t_X1_keep_t1 l dC dI cD cZ cI cL h pf f0 f1 f2 f3 po o0 o1 o2 o3 tt t0 NF GF TF OF NO GO TO OO DG nn fb hst ev bv kv hbad) (cwV 4 hts gL_keep_X1_keep rfl rfl rfl (by decide +kernel) ⟨Nat.le_of_ble_eq_true rfl, Nat.le_of_ble_eq_true rfl⟩) (okJX_pre ⟨hP.sub (ws' := [(h, .inr (1, [.ref (cond fb pf po), .ref (cond fb po pf), .ref tt, .int (nI (nn))])), (pf, .inr (0, [.ref f0, .ref f1, .ref f2, .ref f3])), (f0, .inl (cD, 35, .inr (.inr (.inr (.inl (NF)))))), (f1, .inl (cZ, 35, .inl (GF))), (f2, .inl (cI, 30, .inl (TF))), (f3, .inl (cI, 6, .inl (OF))), (po, .inr (0, [.ref o0, .ref o1, .ref o2, .ref o3])), (o0, .inl (cD, 35, .inr (.inr (.inr (.inl (NO)))))), (o1, .inl (cZ, 35, .inl (GO))), (o2, .inl (cI, 30, .inl (TO))), (o3, .inl (cI, 6, .inl (OO))), (tt, .inr (3, [.ref t0])), (t0, .inl (cL, 42, .inr (.inl (DG))))]) [0, 1, 2, 3, 4, 5, 6, 7, 8, 9, 10, 11, 12] rfl, hK, hE⟩ hZ) rfl rfl hl.1 rfl (lv_room (Nat.le_of_ble_eq_true rfl)) dL_keep_9 ⟨Nat.le_of_ble_eq_true rfl, Nat.le_of_ble_eq_true rfl⟩) hS (fun q _ h => h.elim) (fun q h => h.elim) (fun q _ h => h.elim) (fun E ce q9 u t H1 locs ht hvm hw hB hz1 hk1 hS hce hcv hcl => ?_) (fun r u t H1 locs1 ht hvm hw hB hz1 hk1 hS1 => hw.elim)
  have hB9 : E = nsX := hB
  subst hB9
  have hP := hP.kept (fun k q hk => hk1 q.1 ((hP k q hk).lt) (fun z => z))
  generalize H1 = H at hP hS hce ⊢
  refine vx_catch (name := nsX) hown [] ⟨0, 21, 24, 19⟩ [⟨0, 21, 28, 41⟩] htb (fun z hz => absurd hz List.not_mem_nil) (by decide) (by decide) (hts (.classLink RL 19 nsX) (by decide +kernel)) hE.cN hce hcv hcl ?_
  refine W.widen (k := 1) (n := 6) (by omega) (by omega) ?_
  have hP : va_P (dC, dI) vwCl [(h, .inr (1, [.ref (cond fb pf po), .ref (cond fb po pf), .ref tt, .int (nI (nn))])), (pf, .inr (0, [.ref f0, .ref f1, .ref f2, .ref f3])), (f0, .inl (cD, 35, .inr (.inr (.inr (.inl (NF)))))), (f1, .inl (cZ, 35, .inl (GF))), (f2, .inl (cI, 30, .inl (TF))), (f3, .inl (cI, 6, .inl (OF))), (po, .inr (0, [.ref o0, .ref o1, .ref o2, .ref o3])), (o0, .inl (cD, 35, .inr (.inr (.inr (.inl (NO)))))), (o1, .inl (cZ, 35, .inl (GO))), (o2, .inl (cI, 30, .inl (TO))), (o3, .inl (cI, 6, .inl (OO))), (tt, .inr (3, [.ref t0])), (t0, .inl (cL, 42, .inr (.inl (DG)))), (ox, .inl (cL, 1, .inr (.inl (F))))] H := hP
  refine lv_astore (lv' := [(6, .ref q9), (0, .ref h), (1, .int (nI (Bool.toNat (fb)))), (2, .int (ev)), (3, .int (bv)), (4, .int (kv)), (5, .ref ox)]) hx hb dL_keep_24 hl (by decide) rfl (fun ls hl => ?_)
  refine lv_iconst (v := nI 1) hx hb dL_keep_26 (by decide) ?_
  exact W.iret (v := nI 1) hx hb hr (fun t ht hW => ⟨⟨_, (), rfl, rfl, by rw [ht]; exact hP, va_K.moved hW.alike hK, hD⟩, hS.F ht⟩) hS.2.2 dL_keep_27
set_option maxHeartbeats 4000000 in
set_option maxRecDepth 100000 in
theorem c_L_keep_t2 (l : Launch) (dC : Nat → ClassId) (dI : Nat → Nat → Nat) (cD cZ cI cL : ClassId) (h pf f0 f1 f2 f3 po o0 o1 o2 o3 tt t0 : Nat) (NF : Nat → UInt64) (GF TF OF : Nat → Int32) (NO : Nat → UInt64) (GO TO OO : Nat → Int32) (DG : Nat → Int64) (nn : Nat) (fb : Bool) (ox : Nat) (F : Nat → Int64) (sz : Nat) (hst : l.stackTraces = false) (hnn : nn ≤ 6) (en : Nat) (bv kv : Int32) (hen : en < nn) (hbad : vB bv 5 = false) : Met l yL_keep wsL_keep ({ frames := 8, cells := 1, slots := 6, locals := 126 }) (va_Pc [.ref h, .int (nI (Bool.toNat (fb))), .int (nI (en)), .int (bv), .int (kv), .ref ox] (fun U => U.heap.size = sz ∧ okLX dC dI cD cZ cI cL (wL cD cZ cI cL h pf f0 f1 f2 f3 po o0 o1 o2 o3 tt t0 NF GF TF OF NO GO TO OO DG nn fb ox F) U U.heap ∧ va_D (fun _ => True) (wL cD cZ cI cL h pf f0 f1 f2 f3 po o0 o1 o2 o3 tt t0 NF GF TF OF NO GO TO OO DG nn fb ox F))) (va_Qi (fun (r : Int32) (_ : Unit) => r = nI 1) (fun _ t => atL dC dI cD cZ cI cL (va_A (wL cD cZ cI cL h pf f0 f1 f2 f3 po o0 o1 o2 o3 tt t0 NF GF TF OF NO GO TO OO DG nn fb ox F) sz) (wL cD cZ cI cL h pf f0 f1 f2 f3 po o0 o1 o2 o3 tt t0 NF GF TF OF NO GO TO OO DG nn fb ox F) t) (va_A (wL cD cZ cI cL h pf f0 f1 f2 f3 po o0 o1 o2 o3 tt t0 NF GF TF OF NO GO TO OO DG nn fb ox F) sz)) 1 6 (va_A (wL cD cZ cI cL h pf f0 f1 f2 f3 po o0 o1 o2 o3 tt t0 NF GF TF OF NO GO TO OO DG nn fb ox F) sz) := by
  refine va_MetW (cc := cL_keep) (maxL := 7) (ret := (some .int)) (hh := [(0, 21, 24, 19), (0, 21, 28, 41)]) (by decide) rfl ?_
  intro p e s m args below meth c s₁ B hml hv
  obtain ⟨rfl, hsz, hO, hD0⟩ := hv
  obtain ⟨hP, hK, hE, hZ⟩ := id hO
  have hx := B.exec
  have hb := B.bytes
  have hr := B.returns
  have hts := atoms_spec (ws := wsL_keep) B.pre
  have hown : s.vm.findClass RL = some m.cls := findClass_of_methodNamed B.named
  have hlocks := B.notSynchronized
  have htb := vx_table (x := yL_keep) B (hts _ List.mem_cons_self)
  subst hsz
  have hD := hD0.self (sz := s.heap.size)
  generalize hAe : va_A (wL cD cZ cI cL h pf f0 f1 f2 f3 po o0 o1 o2 o3 tt t0 NF GF TF OF NO GO TO OO DG nn fb ox F) s.heap.size = A at hD ⊢
  have hA : ∀ q : Nat, s.heap.size ≤ q → A q := fun q h => by rw [← hAe]; exact Or.inr h
  have hS : va_S A s.heap s.heap [] := va_S.rf
  have hP : va_P (dC, dI) vwCl [(h, .inr (1, [.ref (cond fb pf po), .ref (cond fb po pf), .ref tt, .int (nI (nn))])), (pf, .inr (0, [.ref f0, .ref f1, .ref f2, .ref f3])), (f0, .inl (cD, 35, .inr (.inr (.inr (.inl (NF)))))), (f1, .inl (cZ, 35, .inl (GF))), (f2, .inl (cI, 30, .inl (TF))), (f3, .inl (cI, 6, .inl (OF))), (po, .inr (0, [.ref o0, .ref o1, .ref o2, .ref o3])), (o0, .inl (cD, 35, .inr (.inr (.inr (.inl (NO)))))), (o1, .inl (cZ, 35, .inl (GO))), (o2, .inl (cI, 30, .inl (TO))), (o3, .inl (cI, 6, .inl (OO))), (tt, .inr (3, [.ref t0])), (t0, .inl (cL, 42, .inr (.inl (DG)))), (ox, .inl (cL, 1, .inr (.inl (F))))] s.heap := hP
  have hD : va_D A [(h, .inr (1, [.ref (cond fb pf po), .ref (cond fb po pf), .ref tt, .int (nI (nn))])), (pf, .inr (0, [.ref f0, .ref f1, .ref f2, .ref f3])), (f0, .inl (cD, 35, .inr (.inr (.inr (.inl (NF)))))), (f1, .inl (cZ, 35, .inl (GF))), (f2, .inl (cI, 30, .inl (TF))), (f3, .inl (cI, 6, .inl (OF))), (po, .inr (0, [.ref o0, .ref o1, .ref o2, .ref o3])), (o0, .inl (cD, 35, .inr (.inr (.inr (.inl (NO)))))), (o1, .inl (cZ, 35, .inl (GO))), (o2, .inl (cI, 30, .inl (TO))), (o3, .inl (cI, 6, .inl (OO))), (tt, .inr (3, [.ref t0])), (t0, .inl (cL, 42, .inr (.inl (DG)))), (ox, .inl (cL, 1, .inr (.inl (F))))] := hD
  have hl := lv_entry ([.ref h, .int (nI (Bool.toNat (fb))), .int (nI (en)), .int (bv), .int (kv), .ref ox]) (n := 7) (Nat.le_of_ble_eq_true rfl)
  rw [lg_entry_eq]
  generalize (lg_sl ([.ref h, .int (nI (Bool.toNat (fb))), .int (nI (en)), .int (bv), .int (kv), .ref ox]) ++ List.replicate (7 - (lg_sl ([.ref h, .int (nI (Bool.toNat (fb))), .int (nI (en)), .int (bv), .int (kv), .ref ox])).length) Slot.unset).toArray = ls at hl ⊢
  have hl : lv_has ls 7 [(0, .ref h), (1, .int (nI (Bool.toNat (fb)))), (2, .int (nI (en))), (3, .int (bv)), (4, .int (kv)), (5, .ref ox)] := hl
  refine lv_aload hx hb dL_keep_0 (lv_at hl 5 rfl) ?_
  refine lv_iconst (v := nI 0) hx hb dL_keep_2 (by decide) ?_
  refine lv_aload_n hx hb dL_keep_3 rfl (lv_at hl 0 rfl) ?_
  refine lv_iload_n hx hb dL_keep_4 rfl (lv_at hl 1 rfl) ?_
  refine lv_iload_n hx hb dL_keep_5 rfl (lv_at hl 2 rfl) ?_
  refine lv_iload_n hx hb dL_keep_6 rfl (lv_at hl 3 rfl) ?_
  refine lv_iload hx hb dL_keep_7 (lv_at hl 4 rfl) ?_
  refine vx_calli (vx_runV (As := [.int (nI (Bool.toNat (fb))), .int (nI (en)), .int (bv), .int (kv)]) (rest := [.int (nI (0)), .ref ox]) ⟨hx, hb, hml, hown, hts⟩ (t_X1_keep_t2 l dC dI cD cZ cI cL h pf f0 f1 f2 f3 po o0 o1 o2 o3 tt t0 NF GF TF OF NO GO TO OO DG nn fb hst hnn en bv kv hen hbad) (cwV 4 hts gL_keep_X1_keep rfl rfl rfl (by decide +kernel) ⟨Nat.le_of_ble_eq_true rfl, Nat.le_of_ble_eq_true rfl⟩) (okJX_pre ⟨hP.sub (ws' := [(h, .inr (1, [.ref (cond fb pf po), .ref (cond fb po pf), .ref tt, .int (nI (nn))])), (pf, .inr (0, [.ref f0, .ref f1, .ref f2, .ref f3])), (f0, .inl (cD, 35, .inr (.inr (.inr (.inl (NF)))))), (f1, .inl (cZ, 35, .inl (GF))), (f2, .inl (cI, 30, .inl (TF))), (f3, .inl (cI, 6, .inl (OF))), (po, .inr (0, [.ref o0, .ref o1, .ref o2, .ref o3])), (o0, .inl (cD, 35, .inr (.inr (.inr (.inl (NO)))))), (o1, .inl (cZ, 35, .inl (GO))), (o2, .inl (cI, 30, .inl (TO))), (o3, .inl (cI, 6, .inl (OO))), (tt, .inr (3, [.ref t0])), (t0, .inl (cL, 42, .inr (.inl (DG))))]) [0, 1, 2, 3, 4, 5, 6, 7, 8, 9, 10, 11, 12] rfl, hK, hE⟩ hZ) rfl rfl hl.1 rfl (lv_room (Nat.le_of_ble_eq_true rfl)) dL_keep_9 ⟨Nat.le_of_ble_eq_true rfl, Nat.le_of_ble_eq_true rfl⟩) hS (fun q _ h => h.elim) (fun q h => h.elim) (fun q _ h => h.elim) (fun E ce q9 u t H1 locs ht hvm hw hB hz1 hk1 hS hce hcv hcl => ?_) (fun r u t H1 locs1 ht hvm hw hB hz1 hk1 hS1 => hw.elim)
  have hB9 : E = nsX := hB
  subst hB9
  have hP := hP.kept (fun k q hk => hk1 q.1 ((hP k q hk).lt) (fun z => z))
  generalize H1 = H at hP hS hce ⊢
  refine vx_catch (name := nsX) hown [] ⟨0, 21, 24, 19⟩ [⟨0, 21, 28, 41⟩] htb (fun z hz => absurd hz List.not_mem_nil) (by decide) (by decide) (hts (.classLink RL 19 nsX) (by decide +kernel)) hE.cN hce hcv hcl ?_
  refine W.widen (k := 1) (n := 6) (by omega) (by omega) ?_
  have hP : va_P (dC, dI) vwCl [(h, .inr (1, [.ref (cond fb pf po), .ref (cond fb po pf), .ref tt, .int (nI (nn))])), (pf, .inr (0, [.ref f0, .ref f1, .ref f2, .ref f3])), (f0, .inl (cD, 35, .inr (.inr (.inr (.inl (NF)))))), (f1, .inl (cZ, 35, .inl (GF))), (f2, .inl (cI, 30, .inl (TF))), (f3, .inl (cI, 6, .inl (OF))), (po, .inr (0, [.ref o0, .ref o1, .ref o2, .ref o3])), (o0, .inl (cD, 35, .inr (.inr (.inr (.inl (NO)))))), (o1, .inl (cZ, 35, .inl (GO))), (o2, .inl (cI, 30, .inl (TO))), (o3, .inl (cI, 6, .inl (OO))), (tt, .inr (3, [.ref t0])), (t0, .inl (cL, 42, .inr (.inl (DG)))), (ox, .inl (cL, 1, .inr (.inl (F))))] H := hP
  refine lv_astore (lv' := [(6, .ref q9), (0, .ref h), (1, .int (nI (Bool.toNat (fb)))), (2, .int (nI (en))), (3, .int (bv)), (4, .int (kv)), (5, .ref ox)]) hx hb dL_keep_24 hl (by decide) rfl (fun ls hl => ?_)
  refine lv_iconst (v := nI 1) hx hb dL_keep_26 (by decide) ?_
  exact W.iret (v := nI 1) hx hb hr (fun t ht hW => ⟨⟨_, (), rfl, rfl, by rw [ht]; exact hP, va_K.moved hW.alike hK, hD⟩, hS.F ht⟩) hS.2.2 dL_keep_27
set_option maxHeartbeats 4000000 in
set_option maxRecDepth 100000 in
theorem c_L_keep_t3 (l : Launch) (dC : Nat → ClassId) (dI : Nat → Nat → Nat) (cD cZ cI cL : ClassId) (h pf f0 f1 f2 f3 po o0 o1 o2 o3 tt t0 : Nat) (NF : Nat → UInt64) (GF TF OF : Nat → Int32) (NO : Nat → UInt64) (GO TO OO : Nat → Int32) (DG : Nat → Int64) (nn : Nat) (fb : Bool) (ox : Nat) (F : Nat → Int64) (sz : Nat) (hst : l.stackTraces = false) (hnn : nn ≤ 6) (en bn : Nat) (kv : Int32) (hen : en < nn) (hbn : bn < 5) (hbad : vB kv 24 = false) : Met l yL_keep wsL_keep ({ frames := 8, cells := 1, slots := 6, locals := 127 }) (va_Pc [.ref h, .int (nI (Bool.toNat (fb))), .int (nI (en)), .int (nI (bn)), .int (kv), .ref ox] (fun U => U.heap.size = sz ∧ okLX dC dI cD cZ cI cL (wL cD cZ cI cL h pf f0 f1 f2 f3 po o0 o1 o2 o3 tt t0 NF GF TF OF NO GO TO OO DG nn fb ox F) U U.heap ∧ va_D (fun _ => True) (wL cD cZ cI cL h pf f0 f1 f2 f3 po o0 o1 o2 o3 tt t0 NF GF TF OF NO GO TO OO DG nn fb ox F))) (va_Qi (fun (r : Int32) (_ : Unit) => r = nI 2) (fun _ t => atL dC dI cD cZ cI cL (va_A (wL cD cZ cI cL h pf f0 f1 f2 f3 po o0 o1 o2 o3 tt t0 NF GF TF OF NO GO TO OO DG nn fb ox F) sz) (wL cD cZ cI cL h pf f0 f1 f2 f3 po o0 o1 o2 o3 tt t0 NF GF TF OF NO GO TO OO DG nn fb ox F) t) (va_A (wL cD cZ cI cL h pf f0 f1 f2 f3 po o0 o1 o2 o3 tt t0 NF GF TF OF NO GO TO OO DG nn fb ox F) sz)) 1 6 (va_A (wL cD cZ cI cL h pf f0 f1 f2 f3 po o0 o1 o2 o3 tt t0 NF GF TF OF NO GO TO OO DG nn fb ox F) sz) := by
  refine va_MetW (cc := cL_keep) (maxL := 7) (ret := (some .int)) (hh := [(0, 21, 24, 19), (0, 21, 28, 41)]) (by decide) rfl ?_
  intro p e s m args below meth c s₁ B hml hv
  obtain ⟨rfl, hsz, hO, hD0⟩ := hv
  obtain ⟨hP, hK, hE, hZ⟩ := id hO
  have hx := B.exec
  have hb := B.bytes
  have hr := B.returns
  have hts := atoms_spec (ws := wsL_keep) B.pre
  have hown : s.vm.findClass RL = some m.cls := findClass_of_methodNamed B.named
  have hlocks := B.notSynchronized
  have htb := vx_table (x := yL_keep) B (hts _ List.mem_cons_self)
  subst hsz
  have hD := hD0.self (sz := s.heap.size)
  generalize hAe : va_A (wL cD cZ cI cL h pf f0 f1 f2 f3 po o0 o1 o2 o3 tt t0 NF GF TF OF NO GO TO OO DG nn fb ox F) s.heap.size = A at hD ⊢
  have hA : ∀ q : Nat, s.heap.size ≤ q → A q := fun q h => by rw [← hAe]; exact Or.inr h
  have hS : va_S A s.heap s.heap [] := va_S.rf
  have hP : va_P (dC, dI) vwCl [(h, .inr (1, [.ref (cond fb pf po), .ref (cond fb po pf), .ref tt, .int (nI (nn))])), (pf, .inr (0, [.ref f0, .ref f1, .ref f2, .ref f3])), (f0, .inl (cD, 35, .inr (.inr (.inr (.inl (NF)))))), (f1, .inl (cZ, 35, .inl (GF))), (f2, .inl (cI, 30, .inl (TF))), (f3, .inl (cI, 6, .inl (OF))), (po, .inr (0, [.ref o0, .ref o1, .ref o2, .ref o3])), (o0, .inl (cD, 35, .inr (.inr (.inr (.inl (NO)))))), (o1, .inl (cZ, 35, .inl (GO))), (o2, .inl (cI, 30, .inl (TO))), (o3, .inl (cI, 6, .inl (OO))), (tt, .inr (3, [.ref t0])), (t0, .inl (cL, 42, .inr (.inl (DG)))), (ox, .inl (cL, 1, .inr (.inl (F))))] s.heap := hP
  have hD : va_D A [(h, .inr (1, [.ref (cond fb pf po), .ref (cond fb po pf), .ref tt, .int (nI (nn))])), (pf, .inr (0, [.ref f0, .ref f1, .ref f2, .ref f3])), (f0, .inl (cD, 35, .inr (.inr (.inr (.inl (NF)))))), (f1, .inl (cZ, 35, .inl (GF))), (f2, .inl (cI, 30, .inl (TF))), (f3, .inl (cI, 6, .inl (OF))), (po, .inr (0, [.ref o0, .ref o1, .ref o2, .ref o3])), (o0, .inl (cD, 35, .inr (.inr (.inr (.inl (NO)))))), (o1, .inl (cZ, 35, .inl (GO))), (o2, .inl (cI, 30, .inl (TO))), (o3, .inl (cI, 6, .inl (OO))), (tt, .inr (3, [.ref t0])), (t0, .inl (cL, 42, .inr (.inl (DG)))), (ox, .inl (cL, 1, .inr (.inl (F))))] := hD
  have hl := lv_entry ([.ref h, .int (nI (Bool.toNat (fb))), .int (nI (en)), .int (nI (bn)), .int (kv), .ref ox]) (n := 7) (Nat.le_of_ble_eq_true rfl)
  rw [lg_entry_eq]
  generalize (lg_sl ([.ref h, .int (nI (Bool.toNat (fb))), .int (nI (en)), .int (nI (bn)), .int (kv), .ref ox]) ++ List.replicate (7 - (lg_sl ([.ref h, .int (nI (Bool.toNat (fb))), .int (nI (en)), .int (nI (bn)), .int (kv), .ref ox])).length) Slot.unset).toArray = ls at hl ⊢
  have hl : lv_has ls 7 [(0, .ref h), (1, .int (nI (Bool.toNat (fb)))), (2, .int (nI (en))), (3, .int (nI (bn))), (4, .int (kv)), (5, .ref ox)] := hl
  refine lv_aload hx hb dL_keep_0 (lv_at hl 5 rfl) ?_
  refine lv_iconst (v := nI 0) hx hb dL_keep_2 (by decide) ?_
  refine lv_aload_n hx hb dL_keep_3 rfl (lv_at hl 0 rfl) ?_
  refine lv_iload_n hx hb dL_keep_4 rfl (lv_at hl 1 rfl) ?_
  refine lv_iload_n hx hb dL_keep_5 rfl (lv_at hl 2 rfl) ?_
  refine lv_iload_n hx hb dL_keep_6 rfl (lv_at hl 3 rfl) ?_
  refine lv_iload hx hb dL_keep_7 (lv_at hl 4 rfl) ?_
  refine vx_calli (vx_runV (As := [.int (nI (Bool.toNat (fb))), .int (nI (en)), .int (nI (bn)), .int (kv)]) (rest := [.int (nI (0)), .ref ox]) ⟨hx, hb, hml, hown, hts⟩ (t_X1_keep_t3 l dC dI cD cZ cI cL h pf f0 f1 f2 f3 po o0 o1 o2 o3 tt t0 NF GF TF OF NO GO TO OO DG nn fb hst hnn en bn kv hen hbn hbad) (cwV 4 hts gL_keep_X1_keep rfl rfl rfl (by decide +kernel) ⟨Nat.le_of_ble_eq_true rfl, Nat.le_of_ble_eq_true rfl⟩) (okJX_pre ⟨hP.sub (ws' := [(h, .inr (1, [.ref (cond fb pf po), .ref (cond fb po pf), .ref tt, .int (nI (nn))])), (pf, .inr (0, [.ref f0, .ref f1, .ref f2, .ref f3])), (f0, .inl (cD, 35, .inr (.inr (.inr (.inl (NF)))))), (f1, .inl (cZ, 35, .inl (GF))), (f2, .inl (cI, 30, .inl (TF))), (f3, .inl (cI, 6, .inl (OF))), (po, .inr (0, [.ref o0, .ref o1, .ref o2, .ref o3])), (o0, .inl (cD, 35, .inr (.inr (.inr (.inl (NO)))))), (o1, .inl (cZ, 35, .inl (GO))), (o2, .inl (cI, 30, .inl (TO))), (o3, .inl (cI, 6, .inl (OO))), (tt, .inr (3, [.ref t0])), (t0, .inl (cL, 42, .inr (.inl (DG))))]) [0, 1, 2, 3, 4, 5, 6, 7, 8, 9, 10, 11, 12] rfl, hK, hE⟩ hZ) rfl rfl hl.1 rfl (lv_room (Nat.le_of_ble_eq_true rfl)) dL_keep_9 ⟨Nat.le_of_ble_eq_true rfl, Nat.le_of_ble_eq_true rfl⟩) hS (fun q _ h => h.elim) (fun q h => h.elim) (fun q _ h => h.elim) (fun E ce q9 u t H1 locs ht hvm hw hB hz1 hk1 hS hce hcv hcl => ?_) (fun r u t H1 locs1 ht hvm hw hB hz1 hk1 hS1 => hw.elim)
  have hB9 : E = iaX := hB
  subst hB9
  have hP := hP.kept (fun k q hk => hk1 q.1 ((hP k q hk).lt) (fun z => z))
  generalize H1 = H at hP hS hce ⊢
  refine vx_catch (name := iaX) hown [⟨0, 21, 24, 19⟩] ⟨0, 21, 28, 41⟩ [] htb (fun z hz => by rw [List.mem_singleton.mp hz]; exact Or.inr ⟨by decide, nsX, hts (.classLink RL 19 nsX) (by decide +kernel), hE.nA⟩) (by decide) (by decide) (hts (.classLink RL 41 iaX) (by decide +kernel)) hE.cA hce hcv hcl ?_
  refine W.widen (k := 1) (n := 6) (by omega) (by omega) ?_
  have hP : va_P (dC, dI) vwCl [(h, .inr (1, [.ref (cond fb pf po), .ref (cond fb po pf), .ref tt, .int (nI (nn))])), (pf, .inr (0, [.ref f0, .ref f1, .ref f2, .ref f3])), (f0, .inl (cD, 35, .inr (.inr (.inr (.inl (NF)))))), (f1, .inl (cZ, 35, .inl (GF))), (f2, .inl (cI, 30, .inl (TF))), (f3, .inl (cI, 6, .inl (OF))), (po, .inr (0, [.ref o0, .ref o1, .ref o2, .ref o3])), (o0, .inl (cD, 35, .inr (.inr (.inr (.inl (NO)))))), (o1, .inl (cZ, 35, .inl (GO))), (o2, .inl (cI, 30, .inl (TO))), (o3, .inl (cI, 6, .inl (OO))), (tt, .inr (3, [.ref t0])), (t0, .inl (cL, 42, .inr (.inl (DG)))), (ox, .inl (cL, 1, .inr (.inl (F))))] H := hP
  refine lv_astore (lv' := [(6, .ref q9), (0, .ref h), (1, .int (nI (Bool.toNat (fb)))), (2, .int (nI (en))), (3, .int (nI (bn))), (4, .int (kv)), (5, .ref ox)]) hx hb dL_keep_28 hl (by decide) rfl (fun ls hl => ?_)
  refine lv_iconst (v := nI 2) hx hb dL_keep_30 (by decide) ?_
  exact W.iret (v := nI 2) hx hb hr (fun t ht hW => ⟨⟨_, (), rfl, rfl, by rw [ht]; exact hP, va_K.moved hW.alike hK, hD⟩, hS.F ht⟩) hS.2.2 dL_keep_31
set_option maxHeartbeats 4000000 in
set_option maxRecDepth 100000 in
theorem c_L_tally_t1 (l : Launch) (dC : Nat → ClassId) (dI : Nat → Nat → Nat) (cD cZ cI cL : ClassId) (h pf f0 f1 f2 f3 po o0 o1 o2 o3 tt t0 : Nat) (NF : Nat → UInt64) (GF TF OF : Nat → Int32) (NO : Nat → UInt64) (GO TO OO : Nat → Int32) (DG : Nat → Int64) (nn : Nat) (fb : Bool) (ox : Nat) (F : Nat → Int64) (sz : Nat) (hst : l.stackTraces = false) (ev kv : Int32) (hbad : vB ev nn = false) : Met l yL_tally wsL_tally ({ frames := 8, cells := 1, slots := 6, locals := 126 }) (va_Pc [.ref h, .int (nI (Bool.toNat (fb))), .int (ev), .int (kv), .ref ox] (fun U => U.heap.size = sz ∧ okLX dC dI cD cZ cI cL (wL cD cZ cI cL h pf f0 f1 f2 f3 po o0 o1 o2 o3 tt t0 NF GF TF OF NO GO TO OO DG nn fb ox F) U U.heap ∧ va_D (fun _ => True) (wL cD cZ cI cL h pf f0 f1 f2 f3 po o0 o1 o2 o3 tt t0 NF GF TF OF NO GO TO OO DG nn fb ox F))) (va_Qi (fun (r : Int32) (_ : Unit) => r = nI 1) (fun _ t => atL dC dI cD cZ cI cL (va_A (wL cD cZ cI cL h pf f0 f1 f2 f3 po o0 o1 o2 o3 tt t0 NF GF TF OF NO GO TO OO DG nn fb ox F) sz) (wL cD cZ cI cL h pf f0 f1 f2 f3 po o0 o1 o2 o3 tt t0 NF GF TF OF NO GO TO OO DG nn fb ox F) t) (va_A (wL cD cZ cI cL h pf f0 f1 f2 f3 po o0 o1 o2 o3 tt t0 NF GF TF OF NO GO TO OO DG nn fb ox F) sz)) 1 6 (va_A (wL cD cZ cI cL h pf f0 f1 f2 f3 po o0 o1 o2 o3 tt t0 NF GF TF OF NO GO TO OO DG nn fb ox F) sz) := by
  refine va_MetW (cc := cL_tally) (maxL := 6) (ret := (some .int)) (hh := [(0, 12, 15, 19), (0, 12, 19, 41)]) (by decide) rfl ?_
  intro p e s m args below meth c s₁ B hml hv
  obtain ⟨rfl, hsz, hO, hD0⟩ := hv
  obtain ⟨hP, hK, hE, hZ⟩ := id hO
  have hx := B.exec
  have hb := B.bytes
  have hr := B.returns
  have hts := atoms_spec (ws := wsL_tally) B.pre
  have hown : s.vm.findClass RL = some m.cls := findClass_of_methodNamed B.named
  have hlocks := B.notSynchronized
  have htb := vx_table (x := yL_tally) B (hts _ List.mem_cons_self)
  subst hsz
  have hD := hD0.self (sz := s.heap.size)
  generalize hAe : va_A (wL cD cZ cI cL h pf f0 f1 f2 f3 po o0 o1 o2 o3 tt t0 NF GF TF OF NO GO TO OO DG nn fb ox F) s.heap.size = A at hD ⊢
  have hA : ∀ q : Nat, s.heap.size ≤ q → A q := fun q h => by rw [← hAe]; exact Or.inr h
  have hS : va_S A s.heap s.heap [] := va_S.rf
  have hP : va_P (dC, dI) vwCl [(h, .inr (1, [.ref (cond fb pf po), .ref (cond fb po pf), .ref tt, .int (nI (nn))])), (pf, .inr (0, [.ref f0, .ref f1, .ref f2, .ref f3])), (f0, .inl (cD, 35, .inr (.inr (.inr (.inl (NF)))))), (f1, .inl (cZ, 35, .inl (GF))), (f2, .inl (cI, 30, .inl (TF))), (f3, .inl (cI, 6, .inl (OF))), (po, .inr (0, [.ref o0, .ref o1, .ref o2, .ref o3])), (o0, .inl (cD, 35, .inr (.inr (.inr (.inl (NO)))))), (o1, .inl (cZ, 35, .inl (GO))), (o2, .inl (cI, 30, .inl (TO))), (o3, .inl (cI, 6, .inl (OO))), (tt, .inr (3, [.ref t0])), (t0, .inl (cL, 42, .inr (.inl (DG)))), (ox, .inl (cL, 1, .inr (.inl (F))))] s.heap := hP
  have hD : va_D A [(h, .inr (1, [.ref (cond fb pf po), .ref (cond fb po pf), .ref tt, .int (nI (nn))])), (pf, .inr (0, [.ref f0, .ref f1, .ref f2, .ref f3])), (f0, .inl (cD, 35, .inr (.inr (.inr (.inl (NF)))))), (f1, .inl (cZ, 35, .inl (GF))), (f2, .inl (cI, 30, .inl (TF))), (f3, .inl (cI, 6, .inl (OF))), (po, .inr (0, [.ref o0, .ref o1, .ref o2, .ref o3])), (o0, .inl (cD, 35, .inr (.inr (.inr (.inl (NO)))))), (o1, .inl (cZ, 35, .inl (GO))), (o2, .inl (cI, 30, .inl (TO))), (o3, .inl (cI, 6, .inl (OO))), (tt, .inr (3, [.ref t0])), (t0, .inl (cL, 42, .inr (.inl (DG)))), (ox, .inl (cL, 1, .inr (.inl (F))))] := hD
  have hl := lv_entry ([.ref h, .int (nI (Bool.toNat (fb))), .int (ev), .int (kv), .ref ox]) (n := 6) (Nat.le_of_ble_eq_true rfl)
  rw [lg_entry_eq]
  generalize (lg_sl ([.ref h, .int (nI (Bool.toNat (fb))), .int (ev), .int (kv), .ref ox]) ++ List.replicate (6 - (lg_sl ([.ref h, .int (nI (Bool.toNat (fb))), .int (ev), .int (kv), .ref ox])).length) Slot.unset).toArray = ls at hl ⊢
  have hl : lv_has ls 6 [(0, .ref h), (1, .int (nI (Bool.toNat (fb)))), (2, .int (ev)), (3, .int (kv)), (4, .ref ox)] := hl
  refine lv_aload hx hb dL_tally_0 (lv_at hl 4 rfl) ?_
  refine lv_iconst (v := nI 0) hx hb dL_tally_2 (by decide) ?_
  refine lv_aload_n hx hb dL_tally_3 rfl (lv_at hl 0 rfl) ?_
  refine lv_iload_n hx hb dL_tally_4 rfl (lv_at hl 1 rfl) ?_
  refine lv_iload_n hx hb dL_tally_5 rfl (lv_at hl 2 rfl) ?_
  refine lv_iload_n hx hb dL_tally_6 rfl (lv_at hl 3 rfl) ?_
  refine vx_calli (vx_runV (As := [.int (nI (Bool.toNat (fb))), .int (ev), .int (kv)]) (rest := [.int (nI (0)), .ref ox]) ⟨hx, hb, hml, hown, hts⟩ (t_X1_tally_t1 l dC dI cD cZ cI cL h pf f0 f1 f2 f3 po o0 o1 o2 o3 tt t0 NF GF TF OF NO GO TO OO DG nn fb hst ev kv hbad) (cwV 3 hts gL_tally_X1_tally rfl rfl rfl (by decide +kernel) ⟨Nat.le_of_ble_eq_true rfl, Nat.le_of_ble_eq_true rfl⟩) (okJX_pre ⟨hP.sub (ws' := [(h, .inr (1, [.ref (cond fb pf po), .ref (cond fb po pf), .ref tt, .int (nI (nn))])), (pf, .inr (0, [.ref f0, .ref f1, .ref f2, .ref f3])), (f0, .inl (cD, 35, .inr (.inr (.inr (.inl (NF)))))), (f1, .inl (cZ, 35, .inl (GF))), (f2, .inl (cI, 30, .inl (TF))), (f3, .inl (cI, 6, .inl (OF))), (po, .inr (0, [.ref o0, .ref o1, .ref o2, .ref o3])), (o0, .inl (cD, 35, .inr (.inr (.inr (.inl (NO)))))), (o1, .inl (cZ, 35, .inl (GO))), (o2, .inl (cI, 30, .inl (TO))), (o3, .inl (cI, 6, .inl (OO))), (tt, .inr (3, [.ref t0])), (t0, .inl (cL, 42, .inr (.inl (DG))))]) [0, 1, 2, 3, 4, 5, 6, 7, 8, 9, 10, 11, 12] rfl, hK, hE⟩ hZ) rfl rfl hl.1 rfl (lv_room (Nat.le_of_ble_eq_true rfl)) dL_tally_7 ⟨Nat.le_of_ble_eq_true rfl, Nat.le_of_ble_eq_true rfl⟩) hS (fun q _ h => h.elim) (fun q h => h.elim) (fun q _ h => h.elim) (fun E ce q9 u t H1 locs ht hvm hw hB hz1 hk1 hS hce hcv hcl => ?_) (fun r u t H1 locs1 ht hvm hw hB hz1 hk1 hS1 => hw.elim)
  have hB9 : E = nsX := hB
  subst hB9
  have hP := hP.kept (fun k q hk => hk1 q.1 ((hP k q hk).lt) (fun z => z))
  generalize H1 = H at hP hS hce ⊢
  refine vx_catch (name := nsX) hown [] ⟨0, 12, 15, 19⟩ [⟨0, 12, 19, 41⟩] htb (fun z hz => absurd hz List.not_mem_nil) (by decide) (by decide) (hts (.classLink RL 19 nsX) (by decide +kernel)) hE.cN hce hcv hcl ?_
  refine W.widen (k := 1) (n := 6) (by omega) (by omega) ?_
  have hP : va_P (dC, dI) vwCl [(h, .inr (1, [.ref (cond fb pf po), .ref (cond fb po pf), .ref tt, .int (nI (nn))])), (pf, .inr (0, [.ref f0, .ref f1, .ref f2, .ref f3])), (f0, .inl (cD, 35, .inr (.inr (.inr (.inl (NF)))))), (f1, .inl (cZ, 35, .inl (GF))), (f2, .inl (cI, 30, .inl (TF))), (f3, .inl (cI, 6, .inl (OF))), (po, .inr (0, [.ref o0, .ref o1, .ref o2, .ref o3])), (o0, .inl (cD, 35, .inr (.inr (.inr (.inl (NO)))))), (o1, .inl (cZ, 35, .inl (GO))), (o2, .inl (cI, 30, .inl (TO))), (o3, .inl (cI, 6, .inl (OO))), (tt, .inr (3, [.ref t0])), (t0, .inl (cL, 42, .inr (.inl (DG)))), (ox, .inl (cL, 1, .inr (.inl (F))))] H := hP
  refine lv_astore (lv' := [(5, .ref q9), (0, .ref h), (1, .int (nI (Bool.toNat (fb)))), (2, .int (ev)), (3, .int (kv)), (4, .ref ox)]) hx hb dL_tally_15 hl (by decide) rfl (fun ls hl => ?_)
  refine lv_iconst (v := nI 1) hx hb dL_tally_17 (by decide) ?_
  exact W.iret (v := nI 1) hx hb hr (fun t ht hW => ⟨⟨_, (), rfl, rfl, by rw [ht]; exact hP, va_K.moved hW.alike hK, hD⟩, hS.F ht⟩) hS.2.2 dL_tally_18
set_option maxHeartbeats 4000000 in
set_option maxRecDepth 100000 in
theorem c_L_tally_t3 (l : Launch) (dC : Nat → ClassId) (dI : Nat → Nat → Nat) (cD cZ cI cL : ClassId) (h pf f0 f1 f2 f3 po o0 o1 o2 o3 tt t0 : Nat) (NF : Nat → UInt64) (GF TF OF : Nat → Int32) (NO : Nat → UInt64) (GO TO OO : Nat → Int32) (DG : Nat → Int64) (nn : Nat) (fb : Bool) (ox : Nat) (F : Nat → Int64) (sz : Nat) (hst : l.stackTraces = false) (hnn : nn ≤ 6) (en : Nat) (kv : Int32) (hen : en < nn) (hbad : vB kv 24 = false) : Met l yL_tally wsL_tally ({ frames := 8, cells := 1, slots := 6, locals := 126 }) (va_Pc [.ref h, .int (nI (Bool.toNat (fb))), .int (nI (en)), .int (kv), .ref ox] (fun U => U.heap.size = sz ∧ okLX dC dI cD cZ cI cL (wL cD cZ cI cL h pf f0 f1 f2 f3 po o0 o1 o2 o3 tt t0 NF GF TF OF NO GO TO OO DG nn fb ox F) U U.heap ∧ va_D (fun _ => True) (wL cD cZ cI cL h pf f0 f1 f2 f3 po o0 o1 o2 o3 tt t0 NF GF TF OF NO GO TO OO DG nn fb ox F))) (va_Qi (fun (r : Int32) (_ : Unit) => r = nI 2) (fun _ t => atL dC dI cD cZ cI cL (va_A (wL cD cZ cI cL h pf f0 f1 f2 f3 po o0 o1 o2 o3 tt t0 NF GF TF OF NO GO TO OO DG nn fb ox F) sz) (wL cD cZ cI cL h pf f0 f1 f2 f3 po o0 o1 o2 o3 tt t0 NF GF TF OF NO GO TO OO DG nn fb ox F) t) (va_A (wL cD cZ cI cL h pf f0 f1 f2 f3 po o0 o1 o2 o3 tt t0 NF GF TF OF NO GO TO OO DG nn fb ox F) sz)) 1 6 (va_A (wL cD cZ cI cL h pf f0 f1 f2 f3 po o0 o1 o2 o3 tt t0 NF GF TF OF NO GO TO OO DG nn fb ox F) sz) := by
  refine va_MetW (cc := cL_tally) (maxL := 6) (ret := (some .int)) (hh := [(0, 12, 15, 19), (0, 12, 19, 41)]) (by decide) rfl ?_
  intro p e s m args below meth c s₁ B hml hv
  obtain ⟨rfl, hsz, hO, hD0⟩ := hv
  obtain ⟨hP, hK, hE, hZ⟩ := id hO
  have hx := B.exec
  have hb := B.bytes
  have hr := B.returns
  have hts := atoms_spec (ws := wsL_tally) B.pre
  have hown : s.vm.findClass RL = some m.cls := findClass_of_methodNamed B.named
  have hlocks := B.notSynchronized
  have htb := vx_table (x := yL_tally) B (hts _ List.mem_cons_self)
  subst hsz
  have hD := hD0.self (sz := s.heap.size)
  generalize hAe : va_A (wL cD cZ cI cL h pf f0 f1 f2 f3 po o0 o1 o2 o3 tt t0 NF GF TF OF NO GO TO OO DG nn fb ox F) s.heap.size = A at hD ⊢
  have hA : ∀ q : Nat, s.heap.size ≤ q → A q := fun q h => by rw [← hAe]; exact Or.inr h
  have hS : va_S A s.heap s.heap [] := va_S.rf
  have hP : va_P (dC, dI) vwCl [(h, .inr (1, [.ref (cond fb pf po), .ref (cond fb po pf), .ref tt, .int (nI (nn))])), (pf, .inr (0, [.ref f0, .ref f1, .ref f2, .ref f3])), (f0, .inl (cD, 35, .inr (.inr (.inr (.inl (NF)))))), (f1, .inl (cZ, 35, .inl (GF))), (f2, .inl (cI, 30, .inl (TF))), (f3, .inl (cI, 6, .inl (OF))), (po, .inr (0, [.ref o0, .ref o1, .ref o2, .ref o3])), (o0, .inl (cD, 35, .inr (.inr (.inr (.inl (NO)))))), (o1, .inl (cZ, 35, .inl (GO))), (o2, .inl (cI, 30, .inl (TO))), (o3, .inl (cI, 6, .inl (OO))), (tt, .inr (3, [.ref t0])), (t0, .inl (cL, 42, .inr (.inl (DG)))), (ox, .inl (cL, 1, .inr (.inl (F))))] s.heap := hP
  have hD : va_D A [(h, .inr (1, [.ref (cond fb pf po), .ref (cond fb po pf), .ref tt, .int (nI (nn))])), (pf, .inr (0, [.ref f0, .ref f1, .ref f2, .ref f3])), (f0, .inl (cD, 35, .inr (.inr (.inr (.inl (NF)))))), (f1, .inl (cZ, 35, .inl (GF))), (f2, .inl (cI, 30, .inl (TF))), (f3, .inl (cI, 6, .inl (OF))), (po, .inr (0, [.ref o0, .ref o1, .ref o2, .ref o3])), (o0, .inl (cD, 35, .inr (.inr (.inr (.inl (NO)))))), (o1, .inl (cZ, 35, .inl (GO))), (o2, .inl (cI, 30, .inl (TO))), (o3, .inl (cI, 6, .inl (OO))), (tt, .inr (3, [.ref t0])), (t0, .inl (cL, 42, .inr (.inl (DG)))), (ox, .inl (cL, 1, .inr (.inl (F))))] := hD
  have hl := lv_entry ([.ref h, .int (nI (Bool.toNat (fb))), .int (nI (en)), .int (kv), .ref ox]) (n := 6) (Nat.le_of_ble_eq_true rfl)
  rw [lg_entry_eq]
  generalize (lg_sl ([.ref h, .int (nI (Bool.toNat (fb))), .int (nI (en)), .int (kv), .ref ox]) ++ List.replicate (6 - (lg_sl ([.ref h, .int (nI (Bool.toNat (fb))), .int (nI (en)), .int (kv), .ref ox])).length) Slot.unset).toArray = ls at hl ⊢
  have hl : lv_has ls 6 [(0, .ref h), (1, .int (nI (Bool.toNat (fb)))), (2, .int (nI (en))), (3, .int (kv)), (4, .ref ox)] := hl
  refine lv_aload hx hb dL_tally_0 (lv_at hl 4 rfl) ?_
  refine lv_iconst (v := nI 0) hx hb dL_tally_2 (by decide) ?_
  refine lv_aload_n hx hb dL_tally_3 rfl (lv_at hl 0 rfl) ?_
  refine lv_iload_n hx hb dL_tally_4 rfl (lv_at hl 1 rfl) ?_
  refine lv_iload_n hx hb dL_tally_5 rfl (lv_at hl 2 rfl) ?_
  refine lv_iload_n hx hb dL_tally_6 rfl (lv_at hl 3 rfl) ?_
  refine vx_calli (vx_runV (As := [.int (nI (Bool.toNat (fb))), .int (nI (en)), .int (kv)]) (rest := [.int (nI (0)), .ref ox]) ⟨hx, hb, hml, hown, hts⟩ (t_X1_tally_t3 l dC dI cD cZ cI cL h pf f0 f1 f2 f3 po o0 o1 o2 o3 tt t0 NF GF TF OF NO GO TO OO DG nn fb hst hnn en kv hen hbad) (cwV 3 hts gL_tally_X1_tally rfl rfl rfl (by decide +kernel) ⟨Nat.le_of_ble_eq_true rfl, Nat.le_of_ble_eq_true rfl⟩) (okJX_pre ⟨hP.sub (ws' := [(h, .inr (1, [.ref (cond fb pf po), .ref (cond fb po pf), .ref tt, .int (nI (nn))])), (pf, .inr (0, [.ref f0, .ref f1, .ref f2, .ref f3])), (f0, .inl (cD, 35, .inr (.inr (.inr (.inl (NF)))))), (f1, .inl (cZ, 35, .inl (GF))), (f2, .inl (cI, 30, .inl (TF))), (f3, .inl (cI, 6, .inl (OF))), (po, .inr (0, [.ref o0, .ref o1, .ref o2, .ref o3])), (o0, .inl (cD, 35, .inr (.inr (.inr (.inl (NO)))))), (o1, .inl (cZ, 35, .inl (GO))), (o2, .inl (cI, 30, .inl (TO))), (o3, .inl (cI, 6, .inl (OO))), (tt, .inr (3, [.ref t0])), (t0, .inl (cL, 42, .inr (.inl (DG))))]) [0, 1, 2, 3, 4, 5, 6, 7, 8, 9, 10, 11, 12] rfl, hK, hE⟩ hZ) rfl rfl hl.1 rfl (lv_room (Nat.le_of_ble_eq_true rfl)) dL_tally_7 ⟨Nat.le_of_ble_eq_true rfl, Nat.le_of_ble_eq_true rfl⟩) hS (fun q _ h => h.elim) (fun q h => h.elim) (fun q _ h => h.elim) (fun E ce q9 u t H1 locs ht hvm hw hB hz1 hk1 hS hce hcv hcl => ?_) (fun r u t H1 locs1 ht hvm hw hB hz1 hk1 hS1 => hw.elim)
  have hB9 : E = iaX := hB
  subst hB9
  have hP := hP.kept (fun k q hk => hk1 q.1 ((hP k q hk).lt) (fun z => z))
  generalize H1 = H at hP hS hce ⊢
  refine vx_catch (name := iaX) hown [⟨0, 12, 15, 19⟩] ⟨0, 12, 19, 41⟩ [] htb (fun z hz => by rw [List.mem_singleton.mp hz]; exact Or.inr ⟨by decide, nsX, hts (.classLink RL 19 nsX) (by decide +kernel), hE.nA⟩) (by decide) (by decide) (hts (.classLink RL 41 iaX) (by decide +kernel)) hE.cA hce hcv hcl ?_
  refine W.widen (k := 1) (n := 6) (by omega) (by omega) ?_
  have hP : va_P (dC, dI) vwCl [(h, .inr (1, [.ref (cond fb pf po), .ref (cond fb po pf), .ref tt, .int (nI (nn))])), (pf, .inr (0, [.ref f0, .ref f1, .ref f2, .ref f3])), (f0, .inl (cD, 35, .inr (.inr (.inr (.inl (NF)))))), (f1, .inl (cZ, 35, .inl (GF))), (f2, .inl (cI, 30, .inl (TF))), (f3, .inl (cI, 6, .inl (OF))), (po, .inr (0, [.ref o0, .ref o1, .ref o2, .ref o3])), (o0, .inl (cD, 35, .inr (.inr (.inr (.inl (NO)))))), (o1, .inl (cZ, 35, .inl (GO))), (o2, .inl (cI, 30, .inl (TO))), (o3, .inl (cI, 6, .inl (OO))), (tt, .inr (3, [.ref t0])), (t0, .inl (cL, 42, .inr (.inl (DG)))), (ox, .inl (cL, 1, .inr (.inl (F))))] H := hP
  refine lv_astore (lv' := [(5, .ref q9), (0, .ref h), (1, .int (nI (Bool.toNat (fb)))), (2, .int (nI (en))), (3, .int (kv)), (4, .ref ox)]) hx hb dL_tally_19 hl (by decide) rfl (fun ls hl => ?_)
  refine lv_iconst (v := nI 2) hx hb dL_tally_21 (by decide) ?_
  exact W.iret (v := nI 2) hx hb hr (fun t ht hW => ⟨⟨_, (), rfl, rfl, by rw [ht]; exact hP, va_K.moved hW.alike hK, hD⟩, hS.F ht⟩) hS.2.2 dL_tally_22
set_option maxHeartbeats 4000000 in
set_option maxRecDepth 100000 in
theorem c_L_run_t1 (l : Launch) (dC : Nat → ClassId) (dI : Nat → Nat → Nat) (cD cZ cI cL : ClassId) (h pf f0 f1 f2 f3 po o0 o1 o2 o3 tt t0 : Nat) (NF : Nat → UInt64) (GF TF OF : Nat → Int32) (NO : Nat → UInt64) (GO TO OO : Nat → Int32) (DG : Nat → Int64) (nn : Nat) (fb : Bool) (ox : Nat) (F : Nat → Int64) (sz : Nat) (hst : l.stackTraces = false) (ev bv kv : Int32) (hbad : vB ev nn = false) : Met l yL_run wsL_run ({ frames := 8, cells := 1, slots := 6, locals := 127 }) (va_Pc [.ref h, .int (nI (Bool.toNat (fb))), .int (ev), .int (bv), .int (kv), .ref ox] (fun U => U.heap.size = sz ∧ okLX dC dI cD cZ cI cL (wL cD cZ cI cL h pf f0 f1 f2 f3 po o0 o1 o2 o3 tt t0 NF GF TF OF NO GO TO OO DG nn fb ox F) U U.heap ∧ va_D (fun _ => True) (wL cD cZ cI cL h pf f0 f1 f2 f3 po o0 o1 o2 o3 tt t0 NF GF TF OF NO GO TO OO DG nn fb ox F))) (va_Qi (fun (r : Int32) (_ : Unit) => r = nI 1) (fun _ t => atL dC dI cD cZ cI cL (va_A (wL cD cZ cI cL h pf f0 f1 f2 f3 po o0 o1 o2 o3 tt t0 NF GF TF OF NO GO TO OO DG nn fb ox F) sz) (wL cD cZ cI cL h pf f0 f1 f2 f3 po o0 o1 o2 o3 tt t0 NF GF TF OF NO GO TO OO DG nn fb ox F) t) (va_A (wL cD cZ cI cL h pf f0 f1 f2 f3 po o0 o1 o2 o3 tt t0 NF GF TF OF NO GO TO OO DG nn fb ox F) sz)) 1 6 (va_A (wL cD cZ cI cL h pf f0 f1 f2 f3 po o0 o1 o2 o3 tt t0 NF GF TF OF NO GO TO OO DG nn fb ox F) sz) := by
  refine va_MetW (cc := cL_run) (maxL := 7) (ret := (some .int)) (hh := [(0, 14, 17, 19), (0, 14, 21, 41)]) (by decide) rfl ?_
  intro p e s m args below meth c s₁ B hml hv
  obtain ⟨rfl, hsz, hO, hD0⟩ := hv
  obtain ⟨hP, hK, hE, hZ⟩ := id hO
  have hx := B.exec
  have hb := B.bytes
  have hr := B.returns
  have hts := atoms_spec (ws := wsL_run) B.pre
  have hown : s.vm.findClass RL = some m.cls := findClass_of_methodNamed B.named
  have hlocks := B.notSynchronized
  have htb := vx_table (x := yL_run) B (hts _ List.mem_cons_self)
  subst hsz
  have hD := hD0.self (sz := s.heap.size)
  generalize hAe : va_A (wL cD cZ cI cL h pf f0 f1 f2 f3 po o0 o1 o2 o3 tt t0 NF GF TF OF NO GO TO OO DG nn fb ox F) s.heap.size = A at hD ⊢
  have hA : ∀ q : Nat, s.heap.size ≤ q → A q := fun q h => by rw [← hAe]; exact Or.inr h
  have hS : va_S A s.heap s.heap [] := va_S.rf
  have hP : va_P (dC, dI) vwCl [(h, .inr (1, [.ref (cond fb pf po), .ref (cond fb po pf), .ref tt, .int (nI (nn))])), (pf, .inr (0, [.ref f0, .ref f1, .ref f2, .ref f3])), (f0, .inl (cD, 35, .inr (.inr (.inr (.inl (NF)))))), (f1, .inl (cZ, 35, .inl (GF))), (f2, .inl (cI, 30, .inl (TF))), (f3, .inl (cI, 6, .inl (OF))), (po, .inr (0, [.ref o0, .ref o1, .ref o2, .ref o3])), (o0, .inl (cD, 35, .inr (.inr (.inr (.inl (NO)))))), (o1, .inl (cZ, 35, .inl (GO))), (o2, .inl (cI, 30, .inl (TO))), (o3, .inl (cI, 6, .inl (OO))), (tt, .inr (3, [.ref t0])), (t0, .inl (cL, 42, .inr (.inl (DG)))), (ox, .inl (cL, 1, .inr (.inl (F))))] s.heap := hP
  have hD : va_D A [(h, .inr (1, [.ref (cond fb pf po), .ref (cond fb po pf), .ref tt, .int (nI (nn))])), (pf, .inr (0, [.ref f0, .ref f1, .ref f2, .ref f3])), (f0, .inl (cD, 35, .inr (.inr (.inr (.inl (NF)))))), (f1, .inl (cZ, 35, .inl (GF))), (f2, .inl (cI, 30, .inl (TF))), (f3, .inl (cI, 6, .inl (OF))), (po, .inr (0, [.ref o0, .ref o1, .ref o2, .ref o3])), (o0, .inl (cD, 35, .inr (.inr (.inr (.inl (NO)))))), (o1, .inl (cZ, 35, .inl (GO))), (o2, .inl (cI, 30, .inl (TO))), (o3, .inl (cI, 6, .inl (OO))), (tt, .inr (3, [.ref t0])), (t0, .inl (cL, 42, .inr (.inl (DG)))), (ox, .inl (cL, 1, .inr (.inl (F))))] := hD
  have hl := lv_entry ([.ref h, .int (nI (Bool.toNat (fb))), .int (ev), .int (bv), .int (kv), .ref ox]) (n := 7) (Nat.le_of_ble_eq_true rfl)
  rw [lg_entry_eq]
  generalize (lg_sl ([.ref h, .int (nI (Bool.toNat (fb))), .int (ev), .int (bv), .int (kv), .ref ox]) ++ List.replicate (7 - (lg_sl ([.ref h, .int (nI (Bool.toNat (fb))), .int (ev), .int (bv), .int (kv), .ref ox])).length) Slot.unset).toArray = ls at hl ⊢
  have hl : lv_has ls 7 [(0, .ref h), (1, .int (nI (Bool.toNat (fb)))), (2, .int (ev)), (3, .int (bv)), (4, .int (kv)), (5, .ref ox)] := hl
  refine lv_aload hx hb dL_run_0 (lv_at hl 5 rfl) ?_
  refine lv_iconst (v := nI 0) hx hb dL_run_2 (by decide) ?_
  refine lv_aload_n hx hb dL_run_3 rfl (lv_at hl 0 rfl) ?_
  refine lv_iload_n hx hb dL_run_4 rfl (lv_at hl 1 rfl) ?_
  refine lv_iload_n hx hb dL_run_5 rfl (lv_at hl 2 rfl) ?_
  refine lv_iload_n hx hb dL_run_6 rfl (lv_at hl 3 rfl) ?_
  refine lv_iload hx hb dL_run_7 (lv_at hl 4 rfl) ?_
  refine vx_calli (vx_runV (As := [.int (nI (Bool.toNat (fb))), .int (ev), .int (bv), .int (kv)]) (rest := [.int (nI (0)), .ref ox]) ⟨hx, hb, hml, hown, hts⟩ (t_X1_run_t1 l dC dI cD cZ cI cL h pf f0 f1 f2 f3 po o0 o1 o2 o3 tt t0 NF GF TF OF NO GO TO OO DG nn fb hst ev bv kv hbad) (cwV 4 hts gL_run_X1_run rfl rfl rfl (by decide +kernel) ⟨Nat.le_of_ble_eq_true rfl, Nat.le_of_ble_eq_true rfl⟩) (okJX_pre ⟨hP.sub (ws' := [(h, .inr (1, [.ref (cond fb pf po), .ref (cond fb po pf), .ref tt, .int (nI (nn))])), (pf, .inr (0, [.ref f0, .ref f1, .ref f2, .ref f3])), (f0, .inl (cD, 35, .inr (.inr (.inr (.inl (NF)))))), (f1, .inl (cZ, 35, .inl (GF))), (f2, .inl (cI, 30, .inl (TF))), (f3, .inl (cI, 6, .inl (OF))), (po, .inr (0, [.ref o0, .ref o1, .ref o2, .ref o3])), (o0, .inl (cD, 35, .inr (.inr (.inr (.inl (NO)))))), (o1, .inl (cZ, 35, .inl (GO))), (o2, .inl (cI, 30, .inl (TO))), (o3, .inl (cI, 6, .inl (OO))), (tt, .inr (3, [.ref t0])), (t0, .inl (cL, 42, .inr (.inl (DG))))]) [0, 1, 2, 3, 4, 5, 6, 7, 8, 9, 10, 11, 12] rfl, hK, hE⟩ hZ) rfl rfl hl.1 rfl (lv_room (Nat.le_of_ble_eq_true rfl)) dL_run_9 ⟨Nat.le_of_ble_eq_true rfl, Nat.le_of_ble_eq_true rfl⟩) hS (fun q _ h => h.elim) (fun q h => h.elim) (fun q _ h => h.elim) (fun E ce q9 u t H1 locs ht hvm hw hB hz1 hk1 hS hce hcv hcl => ?_) (fun r u t H1 locs1 ht hvm hw hB hz1 hk1 hS1 => hw.elim)
  have hB9 : E = nsX := hB
  subst hB9
  have hP := hP.kept (fun k q hk => hk1 q.1 ((hP k q hk).lt) (fun z => z))
  generalize H1 = H at hP hS hce ⊢
  refine vx_catch (name := nsX) hown [] ⟨0, 14, 17, 19⟩ [⟨0, 14, 21, 41⟩] htb (fun z hz => absurd hz List.not_mem_nil) (by decide) (by decide) (hts (.classLink RL 19 nsX) (by decide +kernel)) hE.cN hce hcv hcl ?_
  refine W.widen (k := 1) (n := 6) (by omega) (by omega) ?_
  have hP : va_P (dC, dI) vwCl [(h, .inr (1, [.ref (cond fb pf po), .ref (cond fb po pf), .ref tt, .int (nI (nn))])), (pf, .inr (0, [.ref f0, .ref f1, .ref f2, .ref f3])), (f0, .inl (cD, 35, .inr (.inr (.inr (.inl (NF)))))), (f1, .inl (cZ, 35, .inl (GF))), (f2, .inl (cI, 30, .inl (TF))), (f3, .inl (cI, 6, .inl (OF))), (po, .inr (0, [.ref o0, .ref o1, .ref o2, .ref o3])), (o0, .inl (cD, 35, .inr (.inr (.inr (.inl (NO)))))), (o1, .inl (cZ, 35, .inl (GO))), (o2, .inl (cI, 30, .inl (TO))), (o3, .inl (cI, 6, .inl (OO))), (tt, .inr (3, [.ref t0])), (t0, .inl (cL, 42, .inr (.inl (DG)))), (ox, .inl (cL, 1, .inr (.inl (F))))] H := hP
  refine lv_astore (lv' := [(6, .ref q9), (0, .ref h), (1, .int (nI (Bool.toNat (fb)))), (2, .int (ev)), (3, .int (bv)), (4, .int (kv)), (5, .ref ox)]) hx hb dL_run_17 hl (by decide) rfl (fun ls hl => ?_)
  refine lv_iconst (v := nI 1) hx hb dL_run_19 (by decide) ?_
  exact W.iret (v := nI 1) hx hb hr (fun t ht hW => ⟨⟨_, (), rfl, rfl, by rw [ht]; exact hP, va_K.moved hW.alike hK, hD⟩, hS.F ht⟩) hS.2.2 dL_run_20
set_option maxHeartbeats 4000000 in
set_option maxRecDepth 100000 in
theorem c_L_run_t2 (l : Launch) (dC : Nat → ClassId) (dI : Nat → Nat → Nat) (cD cZ cI cL : ClassId) (h pf f0 f1 f2 f3 po o0 o1 o2 o3 tt t0 : Nat) (NF : Nat → UInt64) (GF TF OF : Nat → Int32) (NO : Nat → UInt64) (GO TO OO : Nat → Int32) (DG : Nat → Int64) (nn : Nat) (fb : Bool) (ox : Nat) (F : Nat → Int64) (sz : Nat) (hst : l.stackTraces = false) (hnn : nn ≤ 6) (en : Nat) (bv kv : Int32) (hen : en < nn) (hbad : vB bv 5 = false) (hn5 : ¬ bv = nI 5) : Met l yL_run wsL_run ({ frames := 8, cells := 1, slots := 6, locals := 126 }) (va_Pc [.ref h, .int (nI (Bool.toNat (fb))), .int (nI (en)), .int (bv), .int (kv), .ref ox] (fun U => U.heap.size = sz ∧ okLX dC dI cD cZ cI cL (wL cD cZ cI cL h pf f0 f1 f2 f3 po o0 o1 o2 o3 tt t0 NF GF TF OF NO GO TO OO DG nn fb ox F) U U.heap ∧ va_D (fun _ => True) (wL cD cZ cI cL h pf f0 f1 f2 f3 po o0 o1 o2 o3 tt t0 NF GF TF OF NO GO TO OO DG nn fb ox F))) (va_Qi (fun (r : Int32) (_ : Unit) => r = nI 1) (fun _ t => atL dC dI cD cZ cI cL (va_A (wL cD cZ cI cL h pf f0 f1 f2 f3 po o0 o1 o2 o3 tt t0 NF GF TF OF NO GO TO OO DG nn fb ox F) sz) (wL cD cZ cI cL h pf f0 f1 f2 f3 po o0 o1 o2 o3 tt t0 NF GF TF OF NO GO TO OO DG nn fb ox F) t) (va_A (wL cD cZ cI cL h pf f0 f1 f2 f3 po o0 o1 o2 o3 tt t0 NF GF TF OF NO GO TO OO DG nn fb ox F) sz)) 1 6 (va_A (wL cD cZ cI cL h pf f0 f1 f2 f3 po o0 o1 o2 o3 tt t0 NF GF TF OF NO GO TO OO DG nn fb ox F) sz) := by
  refine va_MetW (cc := cL_run) (maxL := 7) (ret := (some .int)) (hh := [(0, 14, 17, 19), (0, 14, 21, 41)]) (by decide) rfl ?_
  intro p e s m args below meth c s₁ B hml hv
  obtain ⟨rfl, hsz, hO, hD0⟩ := hv
  obtain ⟨hP, hK, hE, hZ⟩ := id hO
  have hx := B.exec
  have hb := B.bytes
  have hr := B.returns
  have hts := atoms_spec (ws := wsL_run) B.pre
  have hown : s.vm.findClass RL = some m.cls := findClass_of_methodNamed B.named
  have hlocks := B.notSynchronized
  have htb := vx_table (x := yL_run) B (hts _ List.mem_cons_self)
  subst hsz
  have hD := hD0.self (sz := s.heap.size)
  generalize hAe : va_A (wL cD cZ cI cL h pf f0 f1 f2 f3 po o0 o1 o2 o3 tt t0 NF GF TF OF NO GO TO OO DG nn fb ox F) s.heap.size = A at hD ⊢
  have hA : ∀ q : Nat, s.heap.size ≤ q → A q := fun q h => by rw [← hAe]; exact Or.inr h
  have hS : va_S A s.heap s.heap [] := va_S.rf
  have hP : va_P (dC, dI) vwCl [(h, .inr (1, [.ref (cond fb pf po), .ref (cond fb po pf), .ref tt, .int (nI (nn))])), (pf, .inr (0, [.ref f0, .ref f1, .ref f2, .ref f3])), (f0, .inl (cD, 35, .inr (.inr (.inr (.inl (NF)))))), (f1, .inl (cZ, 35, .inl (GF))), (f2, .inl (cI, 30, .inl (TF))), (f3, .inl (cI, 6, .inl (OF))), (po, .inr (0, [.ref o0, .ref o1, .ref o2, .ref o3])), (o0, .inl (cD, 35, .inr (.inr (.inr (.inl (NO)))))), (o1, .inl (cZ, 35, .inl (GO))), (o2, .inl (cI, 30, .inl (TO))), (o3, .inl (cI, 6, .inl (OO))), (tt, .inr (3, [.ref t0])), (t0, .inl (cL, 42, .inr (.inl (DG)))), (ox, .inl (cL, 1, .inr (.inl (F))))] s.heap := hP
  have hD : va_D A [(h, .inr (1, [.ref (cond fb pf po), .ref (cond fb po pf), .ref tt, .int (nI (nn))])), (pf, .inr (0, [.ref f0, .ref f1, .ref f2, .ref f3])), (f0, .inl (cD, 35, .inr (.inr (.inr (.inl (NF)))))), (f1, .inl (cZ, 35, .inl (GF))), (f2, .inl (cI, 30, .inl (TF))), (f3, .inl (cI, 6, .inl (OF))), (po, .inr (0, [.ref o0, .ref o1, .ref o2, .ref o3])), (o0, .inl (cD, 35, .inr (.inr (.inr (.inl (NO)))))), (o1, .inl (cZ, 35, .inl (GO))), (o2, .inl (cI, 30, .inl (TO))), (o3, .inl (cI, 6, .inl (OO))), (tt, .inr (3, [.ref t0])), (t0, .inl (cL, 42, .inr (.inl (DG)))), (ox, .inl (cL, 1, .inr (.inl (F))))] := hD
  have hl := lv_entry ([.ref h, .int (nI (Bool.toNat (fb))), .int (nI (en)), .int (bv), .int (kv), .ref ox]) (n := 7) (Nat.le_of_ble_eq_true rfl)
  rw [lg_entry_eq]
  generalize (lg_sl ([.ref h, .int (nI (Bool.toNat (fb))), .int (nI (en)), .int (bv), .int (kv), .ref ox]) ++ List.replicate (7 - (lg_sl ([.ref h, .int (nI (Bool.toNat (fb))), .int (nI (en)), .int (bv), .int (kv), .ref ox])).length) Slot.unset).toArray = ls at hl ⊢
  have hl : lv_has ls 7 [(0, .ref h), (1, .int (nI (Bool.toNat (fb)))), (2, .int (nI (en))), (3, .int (bv)), (4, .int (kv)), (5, .ref ox)] := hl
  refine lv_aload hx hb dL_run_0 (lv_at hl 5 rfl) ?_
  refine lv_iconst (v := nI 0) hx hb dL_run_2 (by decide) ?_
  refine lv_aload_n hx hb dL_run_3 rfl (lv_at hl 0 rfl) ?_
  refine lv_iload_n hx hb dL_run_4 rfl (lv_at hl 1 rfl) ?_
  refine lv_iload_n hx hb dL_run_5 rfl (lv_at hl 2 rfl) ?_
  refine lv_iload_n hx hb dL_run_6 rfl (lv_at hl 3 rfl) ?_
  refine lv_iload hx hb dL_run_7 (lv_at hl 4 rfl) ?_
  refine vx_calli (vx_runV (As := [.int (nI (Bool.toNat (fb))), .int (nI (en)), .int (bv), .int (kv)]) (rest := [.int (nI (0)), .ref ox]) ⟨hx, hb, hml, hown, hts⟩ (t_X1_run_t2 l dC dI cD cZ cI cL h pf f0 f1 f2 f3 po o0 o1 o2 o3 tt t0 NF GF TF OF NO GO TO OO DG nn fb hst hnn en bv kv hen hbad hn5) (cwV 4 hts gL_run_X1_run rfl rfl rfl (by decide +kernel) ⟨Nat.le_of_ble_eq_true rfl, Nat.le_of_ble_eq_true rfl⟩) (okJX_pre ⟨hP.sub (ws' := [(h, .inr (1, [.ref (cond fb pf po), .ref (cond fb po pf), .ref tt, .int (nI (nn))])), (pf, .inr (0, [.ref f0, .ref f1, .ref f2, .ref f3])), (f0, .inl (cD, 35, .inr (.inr (.inr (.inl (NF)))))), (f1, .inl (cZ, 35, .inl (GF))), (f2, .inl (cI, 30, .inl (TF))), (f3, .inl (cI, 6, .inl (OF))), (po, .inr (0, [.ref o0, .ref o1, .ref o2, .ref o3])), (o0, .inl (cD, 35, .inr (.inr (.inr (.inl (NO)))))), (o1, .inl (cZ, 35, .inl (GO))), (o2, .inl (cI, 30, .inl (TO))), (o3, .inl (cI, 6, .inl (OO))), (tt, .inr (3, [.ref t0])), (t0, .inl (cL, 42, .inr (.inl (DG))))]) [0, 1, 2, 3, 4, 5, 6, 7, 8, 9, 10, 11, 12] rfl, hK, hE⟩ hZ) rfl rfl hl.1 rfl (lv_room (Nat.le_of_ble_eq_true rfl)) dL_run_9 ⟨Nat.le_of_ble_eq_true rfl, Nat.le_of_ble_eq_true rfl⟩) hS (fun q _ h => h.elim) (fun q h => h.elim) (fun q _ h => h.elim) (fun E ce q9 u t H1 locs ht hvm hw hB hz1 hk1 hS hce hcv hcl => ?_) (fun r u t H1 locs1 ht hvm hw hB hz1 hk1 hS1 => hw.elim)
  have hB9 : E = nsX := hB
  subst hB9
  have hP := hP.kept (fun k q hk => hk1 q.1 ((hP k q hk).lt) (fun z => z))
  generalize H1 = H at hP hS hce ⊢
  refine vx_catch (name := nsX) hown [] ⟨0, 14, 17, 19⟩ [⟨0, 14, 21, 41⟩] htb (fun z hz => absurd hz List.not_mem_nil) (by decide) (by decide) (hts (.classLink RL 19 nsX) (by decide +kernel)) hE.cN hce hcv hcl ?_
  refine W.widen (k := 1) (n := 6) (by omega) (by omega) ?_
  have hP : va_P (dC, dI) vwCl [(h, .inr (1, [.ref (cond fb pf po), .ref (cond fb po pf), .ref tt, .int (nI (nn))])), (pf, .inr (0, [.ref f0, .ref f1, .ref f2, .ref f3])), (f0, .inl (cD, 35, .inr (.inr (.inr (.inl (NF)))))), (f1, .inl (cZ, 35, .inl (GF))), (f2, .inl (cI, 30, .inl (TF))), (f3, .inl (cI, 6, .inl (OF))), (po, .inr (0, [.ref o0, .ref o1, .ref o2, .ref o3])), (o0, .inl (cD, 35, .inr (.inr (.inr (.inl (NO)))))), (o1, .inl (cZ, 35, .inl (GO))), (o2, .inl (cI, 30, .inl (TO))), (o3, .inl (cI, 6, .inl (OO))), (tt, .inr (3, [.ref t0])), (t0, .inl (cL, 42, .inr (.inl (DG)))), (ox, .inl (cL, 1, .inr (.inl (F))))] H := hP
  refine lv_astore (lv' := [(6, .ref q9), (0, .ref h), (1, .int (nI (Bool.toNat (fb)))), (2, .int (nI (en))), (3, .int (bv)), (4, .int (kv)), (5, .ref ox)]) hx hb dL_run_17 hl (by decide) rfl (fun ls hl => ?_)
  refine lv_iconst (v := nI 1) hx hb dL_run_19 (by decide) ?_
  exact W.iret (v := nI 1) hx hb hr (fun t ht hW => ⟨⟨_, (), rfl, rfl, by rw [ht]; exact hP, va_K.moved hW.alike hK, hD⟩, hS.F ht⟩) hS.2.2 dL_run_20
set_option maxHeartbeats 4000000 in
set_option maxRecDepth 100000 in
theorem c_L_run_t3 (l : Launch) (dC : Nat → ClassId) (dI : Nat → Nat → Nat) (cD cZ cI cL : ClassId) (h pf f0 f1 f2 f3 po o0 o1 o2 o3 tt t0 : Nat) (NF : Nat → UInt64) (GF TF OF : Nat → Int32) (NO : Nat → UInt64) (GO TO OO : Nat → Int32) (DG : Nat → Int64) (nn : Nat) (fb : Bool) (ox : Nat) (F : Nat → Int64) (sz : Nat) (hst : l.stackTraces = false) (hnn : nn ≤ 6) (en fr : Nat) (kv : Int32) (hen : en < nn) (hfr : fr < 6) (hbad : vB kv 24 = false) : Met l yL_run wsL_run ({ frames := 8, cells := 1, slots := 6, locals := 127 }) (va_Pc [.ref h, .int (nI (Bool.toNat (fb))), .int (nI (en)), .int (nI (fr)), .int (kv), .ref ox] (fun U => U.heap.size = sz ∧ okLX dC dI cD cZ cI cL (wL cD cZ cI cL h pf f0 f1 f2 f3 po o0 o1 o2 o3 tt t0 NF GF TF OF NO GO TO OO DG nn fb ox F) U U.heap ∧ va_D (fun _ => True) (wL cD cZ cI cL h pf f0 f1 f2 f3 po o0 o1 o2 o3 tt t0 NF GF TF OF NO GO TO OO DG nn fb ox F))) (va_Qi (fun (r : Int32) (_ : Unit) => r = nI 2) (fun _ t => atL dC dI cD cZ cI cL (va_A (wL cD cZ cI cL h pf f0 f1 f2 f3 po o0 o1 o2 o3 tt t0 NF GF TF OF NO GO TO OO DG nn fb ox F) sz) (wL cD cZ cI cL h pf f0 f1 f2 f3 po o0 o1 o2 o3 tt t0 NF GF TF OF NO GO TO OO DG nn fb ox F) t) (va_A (wL cD cZ cI cL h pf f0 f1 f2 f3 po o0 o1 o2 o3 tt t0 NF GF TF OF NO GO TO OO DG nn fb ox F) sz)) 1 6 (va_A (wL cD cZ cI cL h pf f0 f1 f2 f3 po o0 o1 o2 o3 tt t0 NF GF TF OF NO GO TO OO DG nn fb ox F) sz) := by
  refine va_MetW (cc := cL_run) (maxL := 7) (ret := (some .int)) (hh := [(0, 14, 17, 19), (0, 14, 21, 41)]) (by decide) rfl ?_
  intro p e s m args below meth c s₁ B hml hv
  obtain ⟨rfl, hsz, hO, hD0⟩ := hv
  obtain ⟨hP, hK, hE, hZ⟩ := id hO
  have hx := B.exec
  have hb := B.bytes
  have hr := B.returns
  have hts := atoms_spec (ws := wsL_run) B.pre
  have hown : s.vm.findClass RL = some m.cls := findClass_of_methodNamed B.named
  have hlocks := B.notSynchronized
  have htb := vx_table (x := yL_run) B (hts _ List.mem_cons_self)
  subst hsz
  have hD := hD0.self (sz := s.heap.size)
  generalize hAe : va_A (wL cD cZ cI cL h pf f0 f1 f2 f3 po o0 o1 o2 o3 tt t0 NF GF TF OF NO GO TO OO DG nn fb ox F) s.heap.size = A at hD ⊢
  have hA : ∀ q : Nat, s.heap.size ≤ q → A q := fun q h => by rw [← hAe]; exact Or.inr h
  have hS : va_S A s.heap s.heap [] := va_S.rf
  have hP : va_P (dC, dI) vwCl [(h, .inr (1, [.ref (cond fb pf po), .ref (cond fb po pf), .ref tt, .int (nI (nn))])), (pf, .inr (0, [.ref f0, .ref f1, .ref f2, .ref f3])), (f0, .inl (cD, 35, .inr (.inr (.inr (.inl (NF)))))), (f1, .inl (cZ, 35, .inl (GF))), (f2, .inl (cI, 30, .inl (TF))), (f3, .inl (cI, 6, .inl (OF))), (po, .inr (0, [.ref o0, .ref o1, .ref o2, .ref o3])), (o0, .inl (cD, 35, .inr (.inr (.inr (.inl (NO)))))), (o1, .inl (cZ, 35, .inl (GO))), (o2, .inl (cI, 30, .inl (TO))), (o3, .inl (cI, 6, .inl (OO))), (tt, .inr (3, [.ref t0])), (t0, .inl (cL, 42, .inr (.inl (DG)))), (ox, .inl (cL, 1, .inr (.inl (F))))] s.heap := hP
  have hD : va_D A [(h, .inr (1, [.ref (cond fb pf po), .ref (cond fb po pf), .ref tt, .int (nI (nn))])), (pf, .inr (0, [.ref f0, .ref f1, .ref f2, .ref f3])), (f0, .inl (cD, 35, .inr (.inr (.inr (.inl (NF)))))), (f1, .inl (cZ, 35, .inl (GF))), (f2, .inl (cI, 30, .inl (TF))), (f3, .inl (cI, 6, .inl (OF))), (po, .inr (0, [.ref o0, .ref o1, .ref o2, .ref o3])), (o0, .inl (cD, 35, .inr (.inr (.inr (.inl (NO)))))), (o1, .inl (cZ, 35, .inl (GO))), (o2, .inl (cI, 30, .inl (TO))), (o3, .inl (cI, 6, .inl (OO))), (tt, .inr (3, [.ref t0])), (t0, .inl (cL, 42, .inr (.inl (DG)))), (ox, .inl (cL, 1, .inr (.inl (F))))] := hD
  have hl := lv_entry ([.ref h, .int (nI (Bool.toNat (fb))), .int (nI (en)), .int (nI (fr)), .int (kv), .ref ox]) (n := 7) (Nat.le_of_ble_eq_true rfl)
  rw [lg_entry_eq]
  generalize (lg_sl ([.ref h, .int (nI (Bool.toNat (fb))), .int (nI (en)), .int (nI (fr)), .int (kv), .ref ox]) ++ List.replicate (7 - (lg_sl ([.ref h, .int (nI (Bool.toNat (fb))), .int (nI (en)), .int (nI (fr)), .int (kv), .ref ox])).length) Slot.unset).toArray = ls at hl ⊢
  have hl : lv_has ls 7 [(0, .ref h), (1, .int (nI (Bool.toNat (fb)))), (2, .int (nI (en))), (3, .int (nI (fr))), (4, .int (kv)), (5, .ref ox)] := hl
  refine lv_aload hx hb dL_run_0 (lv_at hl 5 rfl) ?_
  refine lv_iconst (v := nI 0) hx hb dL_run_2 (by decide) ?_
  refine lv_aload_n hx hb dL_run_3 rfl (lv_at hl 0 rfl) ?_
  refine lv_iload_n hx hb dL_run_4 rfl (lv_at hl 1 rfl) ?_
  refine lv_iload_n hx hb dL_run_5 rfl (lv_at hl 2 rfl) ?_
  refine lv_iload_n hx hb dL_run_6 rfl (lv_at hl 3 rfl) ?_
  refine lv_iload hx hb dL_run_7 (lv_at hl 4 rfl) ?_
  refine vx_calli (vx_runV (As := [.int (nI (Bool.toNat (fb))), .int (nI (en)), .int (nI (fr)), .int (kv)]) (rest := [.int (nI (0)), .ref ox]) ⟨hx, hb, hml, hown, hts⟩ (t_X1_run_t3 l dC dI cD cZ cI cL h pf f0 f1 f2 f3 po o0 o1 o2 o3 tt t0 NF GF TF OF NO GO TO OO DG nn fb hst hnn en fr kv hen hfr hbad) (cwV 4 hts gL_run_X1_run rfl rfl rfl (by decide +kernel) ⟨Nat.le_of_ble_eq_true rfl, Nat.le_of_ble_eq_true rfl⟩) (okJX_pre ⟨hP.sub (ws' := [(h, .inr (1, [.ref (cond fb pf po), .ref (cond fb po pf), .ref tt, .int (nI (nn))])), (pf, .inr (0, [.ref f0, .ref f1, .ref f2, .ref f3])), (f0, .inl (cD, 35, .inr (.inr (.inr (.inl (NF)))))), (f1, .inl (cZ, 35, .inl (GF))), (f2, .inl (cI, 30, .inl (TF))), (f3, .inl (cI, 6, .inl (OF))), (po, .inr (0, [.ref o0, .ref o1, .ref o2, .ref o3])), (o0, .inl (cD, 35, .inr (.inr (.inr (.inl (NO)))))), (o1, .inl (cZ, 35, .inl (GO))), (o2, .inl (cI, 30, .inl (TO))), (o3, .inl (cI, 6, .inl (OO))), (tt, .inr (3, [.ref t0])), (t0, .inl (cL, 42, .inr (.inl (DG))))]) [0, 1, 2, 3, 4, 5, 6, 7, 8, 9, 10, 11, 12] rfl, hK, hE⟩ hZ) rfl rfl hl.1 rfl (lv_room (Nat.le_of_ble_eq_true rfl)) dL_run_9 ⟨Nat.le_of_ble_eq_true rfl, Nat.le_of_ble_eq_true rfl⟩) hS (fun q _ h => h.elim) (fun q h => h.elim) (fun q _ h => h.elim) (fun E ce q9 u t H1 locs ht hvm hw hB hz1 hk1 hS hce hcv hcl => ?_) (fun r u t H1 locs1 ht hvm hw hB hz1 hk1 hS1 => hw.elim)
  have hB9 : E = iaX := hB
  subst hB9
  have hP := hP.kept (fun k q hk => hk1 q.1 ((hP k q hk).lt) (fun z => z))
  generalize H1 = H at hP hS hce ⊢
  refine vx_catch (name := iaX) hown [⟨0, 14, 17, 19⟩] ⟨0, 14, 21, 41⟩ [] htb (fun z hz => by rw [List.mem_singleton.mp hz]; exact Or.inr ⟨by decide, nsX, hts (.classLink RL 19 nsX) (by decide +kernel), hE.nA⟩) (by decide) (by decide) (hts (.classLink RL 41 iaX) (by decide +kernel)) hE.cA hce hcv hcl ?_
  refine W.widen (k := 1) (n := 6) (by omega) (by omega) ?_
  have hP : va_P (dC, dI) vwCl [(h, .inr (1, [.ref (cond fb pf po), .ref (cond fb po pf), .ref tt, .int (nI (nn))])), (pf, .inr (0, [.ref f0, .ref f1, .ref f2, .ref f3])), (f0, .inl (cD, 35, .inr (.inr (.inr (.inl (NF)))))), (f1, .inl (cZ, 35, .inl (GF))), (f2, .inl (cI, 30, .inl (TF))), (f3, .inl (cI, 6, .inl (OF))), (po, .inr (0, [.ref o0, .ref o1, .ref o2, .ref o3])), (o0, .inl (cD, 35, .inr (.inr (.inr (.inl (NO)))))), (o1, .inl (cZ, 35, .inl (GO))), (o2, .inl (cI, 30, .inl (TO))), (o3, .inl (cI, 6, .inl (OO))), (tt, .inr (3, [.ref t0])), (t0, .inl (cL, 42, .inr (.inl (DG)))), (ox, .inl (cL, 1, .inr (.inl (F))))] H := hP
  refine lv_astore (lv' := [(6, .ref q9), (0, .ref h), (1, .int (nI (Bool.toNat (fb)))), (2, .int (nI (en))), (3, .int (nI (fr))), (4, .int (kv)), (5, .ref ox)]) hx hb dL_run_21 hl (by decide) rfl (fun ls hl => ?_)
  refine lv_iconst (v := nI 2) hx hb dL_run_23 (by decide) ?_
  exact W.iret (v := nI 2) hx hb hr (fun t ht hW => ⟨⟨_, (), rfl, rfl, by rw [ht]; exact hP, va_K.moved hW.alike hK, hD⟩, hS.F ht⟩) hS.2.2 dL_run_24
set_option maxHeartbeats 4000000 in
set_option maxRecDepth 100000 in
theorem c_L_kept_t1 (l : Launch) (dC : Nat → ClassId) (dI : Nat → Nat → Nat) (cD cZ cI cL : ClassId) (h pf f0 f1 f2 f3 po o0 o1 o2 o3 tt t0 : Nat) (NF : Nat → UInt64) (GF TF OF : Nat → Int32) (NO : Nat → UInt64) (GO TO OO : Nat → Int32) (DG : Nat → Int64) (nn : Nat) (fb : Bool) (ox : Nat) (F : Nat → Int64) (sz : Nat) (hst : l.stackTraces = false) (ev bv : Int32) (hbad : vB ev nn = false) : Met l yL_kept wsL_kept ({ frames := 8, cells := 1, slots := 6, locals := 126 }) (va_Pc [.ref h, .int (nI (Bool.toNat (fb))), .int (ev), .int (bv), .ref ox] (fun U => U.heap.size = sz ∧ okLX dC dI cD cZ cI cL (wL cD cZ cI cL h pf f0 f1 f2 f3 po o0 o1 o2 o3 tt t0 NF GF TF OF NO GO TO OO DG nn fb ox F) U U.heap ∧ va_D (fun _ => True) (wL cD cZ cI cL h pf f0 f1 f2 f3 po o0 o1 o2 o3 tt t0 NF GF TF OF NO GO TO OO DG nn fb ox F))) (va_Qi (fun (r : Int32) (_ : Unit) => r = nI 1) (fun _ t => atL dC dI cD cZ cI cL (va_A (wL cD cZ cI cL h pf f0 f1 f2 f3 po o0 o1 o2 o3 tt t0 NF GF TF OF NO GO TO OO DG nn fb ox F) sz) (wL cD cZ cI cL h pf f0 f1 f2 f3 po o0 o1 o2 o3 tt t0 NF GF TF OF NO GO TO OO DG nn fb ox F) t) (va_A (wL cD cZ cI cL h pf f0 f1 f2 f3 po o0 o1 o2 o3 tt t0 NF GF TF OF NO GO TO OO DG nn fb ox F) sz)) 1 6 (va_A (wL cD cZ cI cL h pf f0 f1 f2 f3 po o0 o1 o2 o3 tt t0 NF GF TF OF NO GO TO OO DG nn fb ox F) sz) := by
  refine va_MetW (cc := cL_kept) (maxL := 6) (ret := (some .int)) (hh := [(0, 12, 15, 19)]) (by decide) rfl ?_
  intro p e s m args below meth c s₁ B hml hv
  obtain ⟨rfl, hsz, hO, hD0⟩ := hv
  obtain ⟨hP, hK, hE, hZ⟩ := id hO
  have hx := B.exec
  have hb := B.bytes
  have hr := B.returns
  have hts := atoms_spec (ws := wsL_kept) B.pre
  have hown : s.vm.findClass RL = some m.cls := findClass_of_methodNamed B.named
  have hlocks := B.notSynchronized
  have htb := vx_table (x := yL_kept) B (hts _ List.mem_cons_self)
  subst hsz
  have hD := hD0.self (sz := s.heap.size)
  generalize hAe : va_A (wL cD cZ cI cL h pf f0 f1 f2 f3 po o0 o1 o2 o3 tt t0 NF GF TF OF NO GO TO OO DG nn fb ox F) s.heap.size = A at hD ⊢
  have hA : ∀ q : Nat, s.heap.size ≤ q → A q := fun q h => by rw [← hAe]; exact Or.inr h
  have hS : va_S A s.heap s.heap [] := va_S.rf
  have hP : va_P (dC, dI) vwCl [(h, .inr (1, [.ref (cond fb pf po), .ref (cond fb po pf), .ref tt, .int (nI (nn))])), (pf, .inr (0, [.ref f0, .ref f1, .ref f2, .ref f3])), (f0, .inl (cD, 35, .inr (.inr (.inr (.inl (NF)))))), (f1, .inl (cZ, 35, .inl (GF))), (f2, .inl (cI, 30, .inl (TF))), (f3, .inl (cI, 6, .inl (OF))), (po, .inr (0, [.ref o0, .ref o1, .ref o2, .ref o3])), (o0, .inl (cD, 35, .inr (.inr (.inr (.inl (NO)))))), (o1, .inl (cZ, 35, .inl (GO))), (o2, .inl (cI, 30, .inl (TO))), (o3, .inl (cI, 6, .inl (OO))), (tt, .inr (3, [.ref t0])), (t0, .inl (cL, 42, .inr (.inl (DG)))), (ox, .inl (cL, 1, .inr (.inl (F))))] s.heap := hP
  have hD : va_D A [(h, .inr (1, [.ref (cond fb pf po), .ref (cond fb po pf), .ref tt, .int (nI (nn))])), (pf, .inr (0, [.ref f0, .ref f1, .ref f2, .ref f3])), (f0, .inl (cD, 35, .inr (.inr (.inr (.inl (NF)))))), (f1, .inl (cZ, 35, .inl (GF))), (f2, .inl (cI, 30, .inl (TF))), (f3, .inl (cI, 6, .inl (OF))), (po, .inr (0, [.ref o0, .ref o1, .ref o2, .ref o3])), (o0, .inl (cD, 35, .inr (.inr (.inr (.inl (NO)))))), (o1, .inl (cZ, 35, .inl (GO))), (o2, .inl (cI, 30, .inl (TO))), (o3, .inl (cI, 6, .inl (OO))), (tt, .inr (3, [.ref t0])), (t0, .inl (cL, 42, .inr (.inl (DG)))), (ox, .inl (cL, 1, .inr (.inl (F))))] := hD
  have hl := lv_entry ([.ref h, .int (nI (Bool.toNat (fb))), .int (ev), .int (bv), .ref ox]) (n := 6) (Nat.le_of_ble_eq_true rfl)
  rw [lg_entry_eq]
  generalize (lg_sl ([.ref h, .int (nI (Bool.toNat (fb))), .int (ev), .int (bv), .ref ox]) ++ List.replicate (6 - (lg_sl ([.ref h, .int (nI (Bool.toNat (fb))), .int (ev), .int (bv), .ref ox])).length) Slot.unset).toArray = ls at hl ⊢
  have hl : lv_has ls 6 [(0, .ref h), (1, .int (nI (Bool.toNat (fb)))), (2, .int (ev)), (3, .int (bv)), (4, .ref ox)] := hl
  refine lv_aload hx hb dL_kept_0 (lv_at hl 4 rfl) ?_
  refine lv_iconst (v := nI 0) hx hb dL_kept_2 (by decide) ?_
  refine lv_aload_n hx hb dL_kept_3 rfl (lv_at hl 0 rfl) ?_
  refine lv_iload_n hx hb dL_kept_4 rfl (lv_at hl 1 rfl) ?_
  refine lv_iload_n hx hb dL_kept_5 rfl (lv_at hl 2 rfl) ?_
  refine lv_iload_n hx hb dL_kept_6 rfl (lv_at hl 3 rfl) ?_
  refine vx_calli (vx_runV (As := [.int (nI (Bool.toNat (fb))), .int (ev), .int (bv)]) (rest := [.int (nI (0)), .ref ox]) ⟨hx, hb, hml, hown, hts⟩ (t_X1_kept_t1 l dC dI cD cZ cI cL h pf f0 f1 f2 f3 po o0 o1 o2 o3 tt t0 NF GF TF OF NO GO TO OO DG nn fb hst ev bv hbad) (cwV 3 hts gL_kept_X1_kept rfl rfl rfl (by decide +kernel) ⟨Nat.le_of_ble_eq_true rfl, Nat.le_of_ble_eq_true rfl⟩) (okJX_pre ⟨hP.sub (ws' := [(h, .inr (1, [.ref (cond fb pf po), .ref (cond fb po pf), .ref tt, .int (nI (nn))])), (pf, .inr (0, [.ref f0, .ref f1, .ref f2, .ref f3])), (f0, .inl (cD, 35, .inr (.inr (.inr (.inl (NF)))))), (f1, .inl (cZ, 35, .inl (GF))), (f2, .inl (cI, 30, .inl (TF))), (f3, .inl (cI, 6, .inl (OF))), (po, .inr (0, [.ref o0, .ref o1, .ref o2, .ref o3])), (o0, .inl (cD, 35, .inr (.inr (.inr (.inl (NO)))))), (o1, .inl (cZ, 35, .inl (GO))), (o2, .inl (cI, 30, .inl (TO))), (o3, .inl (cI, 6, .inl (OO))), (tt, .inr (3, [.ref t0])), (t0, .inl (cL, 42, .inr (.inl (DG))))]) [0, 1, 2, 3, 4, 5, 6, 7, 8, 9, 10, 11, 12] rfl, hK, hE⟩ hZ) rfl rfl hl.1 rfl (lv_room (Nat.le_of_ble_eq_true rfl)) dL_kept_7 ⟨Nat.le_of_ble_eq_true rfl, Nat.le_of_ble_eq_true rfl⟩) hS (fun q _ h => h.elim) (fun q h => h.elim) (fun q _ h => h.elim) (fun E ce q9 u t H1 locs ht hvm hw hB hz1 hk1 hS hce hcv hcl => ?_) (fun r u t H1 locs1 ht hvm hw hB hz1 hk1 hS1 => hw.elim)
  have hB9 : E = nsX := hB
  subst hB9
  have hP := hP.kept (fun k q hk => hk1 q.1 ((hP k q hk).lt) (fun z => z))
  generalize H1 = H at hP hS hce ⊢
  refine vx_catch (name := nsX) hown [] ⟨0, 12, 15, 19⟩ [] htb (fun z hz => absurd hz List.not_mem_nil) (by decide) (by decide) (hts (.classLink RL 19 nsX) (by decide +kernel)) hE.cN hce hcv hcl ?_
  refine W.widen (k := 1) (n := 6) (by omega) (by omega) ?_
  have hP : va_P (dC, dI) vwCl [(h, .inr (1, [.ref (cond fb pf po), .ref (cond fb po pf), .ref tt, .int (nI (nn))])), (pf, .inr (0, [.ref f0, .ref f1, .ref f2, .ref f3])), (f0, .inl (cD, 35, .inr (.inr (.inr (.inl (NF)))))), (f1, .inl (cZ, 35, .inl (GF))), (f2, .inl (cI, 30, .inl (TF))), (f3, .inl (cI, 6, .inl (OF))), (po, .inr (0, [.ref o0, .ref o1, .ref o2, .ref o3])), (o0, .inl (cD, 35, .inr (.inr (.inr (.inl (NO)))))), (o1, .inl (cZ, 35, .inl (GO))), (o2, .inl (cI, 30, .inl (TO))), (o3, .inl (cI, 6, .inl (OO))), (tt, .inr (3, [.ref t0])), (t0, .inl (cL, 42, .inr (.inl (DG)))), (ox, .inl (cL, 1, .inr (.inl (F))))] H := hP
  refine lv_astore (lv' := [(5, .ref q9), (0, .ref h), (1, .int (nI (Bool.toNat (fb)))), (2, .int (ev)), (3, .int (bv)), (4, .ref ox)]) hx hb dL_kept_15 hl (by decide) rfl (fun ls hl => ?_)
  refine lv_iconst (v := nI 1) hx hb dL_kept_17 (by decide) ?_
  exact W.iret (v := nI 1) hx hb hr (fun t ht hW => ⟨⟨_, (), rfl, rfl, by rw [ht]; exact hP, va_K.moved hW.alike hK, hD⟩, hS.F ht⟩) hS.2.2 dL_kept_18
set_option maxHeartbeats 4000000 in
set_option maxRecDepth 100000 in
theorem c_L_kept_t2 (l : Launch) (dC : Nat → ClassId) (dI : Nat → Nat → Nat) (cD cZ cI cL : ClassId) (h pf f0 f1 f2 f3 po o0 o1 o2 o3 tt t0 : Nat) (NF : Nat → UInt64) (GF TF OF : Nat → Int32) (NO : Nat → UInt64) (GO TO OO : Nat → Int32) (DG : Nat → Int64) (nn : Nat) (fb : Bool) (ox : Nat) (F : Nat → Int64) (sz : Nat) (hst : l.stackTraces = false) (hnn : nn ≤ 6) (en : Nat) (bv : Int32) (hen : en < nn) (hbad : vB bv 5 = false) : Met l yL_kept wsL_kept ({ frames := 8, cells := 1, slots := 6, locals := 125 }) (va_Pc [.ref h, .int (nI (Bool.toNat (fb))), .int (nI (en)), .int (bv), .ref ox] (fun U => U.heap.size = sz ∧ okLX dC dI cD cZ cI cL (wL cD cZ cI cL h pf f0 f1 f2 f3 po o0 o1 o2 o3 tt t0 NF GF TF OF NO GO TO OO DG nn fb ox F) U U.heap ∧ va_D (fun _ => True) (wL cD cZ cI cL h pf f0 f1 f2 f3 po o0 o1 o2 o3 tt t0 NF GF TF OF NO GO TO OO DG nn fb ox F))) (va_Qi (fun (r : Int32) (_ : Unit) => r = nI 1) (fun _ t => atL dC dI cD cZ cI cL (va_A (wL cD cZ cI cL h pf f0 f1 f2 f3 po o0 o1 o2 o3 tt t0 NF GF TF OF NO GO TO OO DG nn fb ox F) sz) (wL cD cZ cI cL h pf f0 f1 f2 f3 po o0 o1 o2 o3 tt t0 NF GF TF OF NO GO TO OO DG nn fb ox F) t) (va_A (wL cD cZ cI cL h pf f0 f1 f2 f3 po o0 o1 o2 o3 tt t0 NF GF TF OF NO GO TO OO DG nn fb ox F) sz)) 1 6 (va_A (wL cD cZ cI cL h pf f0 f1 f2 f3 po o0 o1 o2 o3 tt t0 NF GF TF OF NO GO TO OO DG nn fb ox F) sz) := by
  refine va_MetW (cc := cL_kept) (maxL := 6) (ret := (some .int)) (hh := [(0, 12, 15, 19)]) (by decide) rfl ?_
  intro p e s m args below meth c s₁ B hml hv
  obtain ⟨rfl, hsz, hO, hD0⟩ := hv
  obtain ⟨hP, hK, hE, hZ⟩ := id hO
  have hx := B.exec
  have hb := B.bytes
  have hr := B.returns
  have hts := atoms_spec (ws := wsL_kept) B.pre
  have hown : s.vm.findClass RL = some m.cls := findClass_of_methodNamed B.named
  have hlocks := B.notSynchronized
  have htb := vx_table (x := yL_kept) B (hts _ List.mem_cons_self)
  subst hsz
  have hD := hD0.self (sz := s.heap.size)
  generalize hAe : va_A (wL cD cZ cI cL h pf f0 f1 f2 f3 po o0 o1 o2 o3 tt t0 NF GF TF OF NO GO TO OO DG nn fb ox F) s.heap.size = A at hD ⊢
  have hA : ∀ q : Nat, s.heap.size ≤ q → A q := fun q h => by rw [← hAe]; exact Or.inr h
  have hS : va_S A s.heap s.heap [] := va_S.rf
  have hP : va_P (dC, dI) vwCl [(h, .inr (1, [.ref (cond fb pf po), .ref (cond fb po pf), .ref tt, .int (nI (nn))])), (pf, .inr (0, [.ref f0, .ref f1, .ref f2, .ref f3])), (f0, .inl (cD, 35, .inr (.inr (.inr (.inl (NF)))))), (f1, .inl (cZ, 35, .inl (GF))), (f2, .inl (cI, 30, .inl (TF))), (f3, .inl (cI, 6, .inl (OF))), (po, .inr (0, [.ref o0, .ref o1, .ref o2, .ref o3])), (o0, .inl (cD, 35, .inr (.inr (.inr (.inl (NO)))))), (o1, .inl (cZ, 35, .inl (GO))), (o2, .inl (cI, 30, .inl (TO))), (o3, .inl (cI, 6, .inl (OO))), (tt, .inr (3, [.ref t0])), (t0, .inl (cL, 42, .inr (.inl (DG)))), (ox, .inl (cL, 1, .inr (.inl (F))))] s.heap := hP
  have hD : va_D A [(h, .inr (1, [.ref (cond fb pf po), .ref (cond fb po pf), .ref tt, .int (nI (nn))])), (pf, .inr (0, [.ref f0, .ref f1, .ref f2, .ref f3])), (f0, .inl (cD, 35, .inr (.inr (.inr (.inl (NF)))))), (f1, .inl (cZ, 35, .inl (GF))), (f2, .inl (cI, 30, .inl (TF))), (f3, .inl (cI, 6, .inl (OF))), (po, .inr (0, [.ref o0, .ref o1, .ref o2, .ref o3])), (o0, .inl (cD, 35, .inr (.inr (.inr (.inl (NO)))))), (o1, .inl (cZ, 35, .inl (GO))), (o2, .inl (cI, 30, .inl (TO))), (o3, .inl (cI, 6, .inl (OO))), (tt, .inr (3, [.ref t0])), (t0, .inl (cL, 42, .inr (.inl (DG)))), (ox, .inl (cL, 1, .inr (.inl (F))))] := hD
  have hl := lv_entry ([.ref h, .int (nI (Bool.toNat (fb))), .int (nI (en)), .int (bv), .ref ox]) (n := 6) (Nat.le_of_ble_eq_true rfl)
  rw [lg_entry_eq]
  generalize (lg_sl ([.ref h, .int (nI (Bool.toNat (fb))), .int (nI (en)), .int (bv), .ref ox]) ++ List.replicate (6 - (lg_sl ([.ref h, .int (nI (Bool.toNat (fb))), .int (nI (en)), .int (bv), .ref ox])).length) Slot.unset).toArray = ls at hl ⊢
  have hl : lv_has ls 6 [(0, .ref h), (1, .int (nI (Bool.toNat (fb)))), (2, .int (nI (en))), (3, .int (bv)), (4, .ref ox)] := hl
  refine lv_aload hx hb dL_kept_0 (lv_at hl 4 rfl) ?_
  refine lv_iconst (v := nI 0) hx hb dL_kept_2 (by decide) ?_
  refine lv_aload_n hx hb dL_kept_3 rfl (lv_at hl 0 rfl) ?_
  refine lv_iload_n hx hb dL_kept_4 rfl (lv_at hl 1 rfl) ?_
  refine lv_iload_n hx hb dL_kept_5 rfl (lv_at hl 2 rfl) ?_
  refine lv_iload_n hx hb dL_kept_6 rfl (lv_at hl 3 rfl) ?_
  refine vx_calli (vx_runV (As := [.int (nI (Bool.toNat (fb))), .int (nI (en)), .int (bv)]) (rest := [.int (nI (0)), .ref ox]) ⟨hx, hb, hml, hown, hts⟩ (t_X1_kept_t2 l dC dI cD cZ cI cL h pf f0 f1 f2 f3 po o0 o1 o2 o3 tt t0 NF GF TF OF NO GO TO OO DG nn fb hst hnn en bv hen hbad) (cwV 3 hts gL_kept_X1_kept rfl rfl rfl (by decide +kernel) ⟨Nat.le_of_ble_eq_true rfl, Nat.le_of_ble_eq_true rfl⟩) (okJX_pre ⟨hP.sub (ws' := [(h, .inr (1, [.ref (cond fb pf po), .ref (cond fb po pf), .ref tt, .int (nI (nn))])), (pf, .inr (0, [.ref f0, .ref f1, .ref f2, .ref f3])), (f0, .inl (cD, 35, .inr (.inr (.inr (.inl (NF)))))), (f1, .inl (cZ, 35, .inl (GF))), (f2, .inl (cI, 30, .inl (TF))), (f3, .inl (cI, 6, .inl (OF))), (po, .inr (0, [.ref o0, .ref o1, .ref o2, .ref o3])), (o0, .inl (cD, 35, .inr (.inr (.inr (.inl (NO)))))), (o1, .inl (cZ, 35, .inl (GO))), (o2, .inl (cI, 30, .inl (TO))), (o3, .inl (cI, 6, .inl (OO))), (tt, .inr (3, [.ref t0])), (t0, .inl (cL, 42, .inr (.inl (DG))))]) [0, 1, 2, 3, 4, 5, 6, 7, 8, 9, 10, 11, 12] rfl, hK, hE⟩ hZ) rfl rfl hl.1 rfl (lv_room (Nat.le_of_ble_eq_true rfl)) dL_kept_7 ⟨Nat.le_of_ble_eq_true rfl, Nat.le_of_ble_eq_true rfl⟩) hS (fun q _ h => h.elim) (fun q h => h.elim) (fun q _ h => h.elim) (fun E ce q9 u t H1 locs ht hvm hw hB hz1 hk1 hS hce hcv hcl => ?_) (fun r u t H1 locs1 ht hvm hw hB hz1 hk1 hS1 => hw.elim)
  have hB9 : E = nsX := hB
  subst hB9
  have hP := hP.kept (fun k q hk => hk1 q.1 ((hP k q hk).lt) (fun z => z))
  generalize H1 = H at hP hS hce ⊢
  refine vx_catch (name := nsX) hown [] ⟨0, 12, 15, 19⟩ [] htb (fun z hz => absurd hz List.not_mem_nil) (by decide) (by decide) (hts (.classLink RL 19 nsX) (by decide +kernel)) hE.cN hce hcv hcl ?_
  refine W.widen (k := 1) (n := 6) (by omega) (by omega) ?_
  have hP : va_P (dC, dI) vwCl [(h, .inr (1, [.ref (cond fb pf po), .ref (cond fb po pf), .ref tt, .int (nI (nn))])), (pf, .inr (0, [.ref f0, .ref f1, .ref f2, .ref f3])), (f0, .inl (cD, 35, .inr (.inr (.inr (.inl (NF)))))), (f1, .inl (cZ, 35, .inl (GF))), (f2, .inl (cI, 30, .inl (TF))), (f3, .inl (cI, 6, .inl (OF))), (po, .inr (0, [.ref o0, .ref o1, .ref o2, .ref o3])), (o0, .inl (cD, 35, .inr (.inr (.inr (.inl (NO)))))), (o1, .inl (cZ, 35, .inl (GO))), (o2, .inl (cI, 30, .inl (TO))), (o3, .inl (cI, 6, .inl (OO))), (tt, .inr (3, [.ref t0])), (t0, .inl (cL, 42, .inr (.inl (DG)))), (ox, .inl (cL, 1, .inr (.inl (F))))] H := hP
  refine lv_astore (lv' := [(5, .ref q9), (0, .ref h), (1, .int (nI (Bool.toNat (fb)))), (2, .int (nI (en))), (3, .int (bv)), (4, .ref ox)]) hx hb dL_kept_15 hl (by decide) rfl (fun ls hl => ?_)
  refine lv_iconst (v := nI 1) hx hb dL_kept_17 (by decide) ?_
  exact W.iret (v := nI 1) hx hb hr (fun t ht hW => ⟨⟨_, (), rfl, rfl, by rw [ht]; exact hP, va_K.moved hW.alike hK, hD⟩, hS.F ht⟩) hS.2.2 dL_kept_18
set_option maxHeartbeats 4000000 in
set_option maxRecDepth 100000 in
theorem c_L_place_t1 (l : Launch) (dC : Nat → ClassId) (dI : Nat → Nat → Nat) (cD cZ cI cL : ClassId) (h pf f0 f1 f2 f3 po o0 o1 o2 o3 tt t0 : Nat) (NF : Nat → UInt64) (GF TF OF : Nat → Int32) (NO : Nat → UInt64) (GO TO OO : Nat → Int32) (DG : Nat → Int64) (nn : Nat) (fb : Bool) (ox : Nat) (F : Nat → Int64) (sz : Nat) (hst : l.stackTraces = false) (ev bv : Int32) (sb : Bool) (hbad : vB ev nn = false) : Met l yL_place wsL_place ({ frames := 8, cells := 1, slots := 6, locals := 127 }) (va_Pc [.ref h, .int (nI (Bool.toNat (fb))), .int (ev), .int (bv), .int (nI (Bool.toNat (sb))), .ref ox] (fun U => U.heap.size = sz ∧ okLX dC dI cD cZ cI cL (wL cD cZ cI cL h pf f0 f1 f2 f3 po o0 o1 o2 o3 tt t0 NF GF TF OF NO GO TO OO DG nn fb ox F) U U.heap ∧ va_D (fun _ => True) (wL cD cZ cI cL h pf f0 f1 f2 f3 po o0 o1 o2 o3 tt t0 NF GF TF OF NO GO TO OO DG nn fb ox F))) (va_Qi (fun (r : Int32) (_ : Unit) => r = nI 1) (fun _ t => atL dC dI cD cZ cI cL (va_A (wL cD cZ cI cL h pf f0 f1 f2 f3 po o0 o1 o2 o3 tt t0 NF GF TF OF NO GO TO OO DG nn fb ox F) sz) (wL cD cZ cI cL h pf f0 f1 f2 f3 po o0 o1 o2 o3 tt t0 NF GF TF OF NO GO TO OO DG nn fb ox F) t) (va_A (wL cD cZ cI cL h pf f0 f1 f2 f3 po o0 o1 o2 o3 tt t0 NF GF TF OF NO GO TO OO DG nn fb ox F) sz)) 1 6 (va_A (wL cD cZ cI cL h pf f0 f1 f2 f3 po o0 o1 o2 o3 tt t0 NF GF TF OF NO GO TO OO DG nn fb ox F) sz) := by
  refine va_MetW (cc := cL_place) (maxL := 7) (ret := (some .int)) (hh := [(0, 14, 17, 19)]) (by decide) rfl ?_
  intro p e s m args below meth c s₁ B hml hv
  obtain ⟨rfl, hsz, hO, hD0⟩ := hv
  obtain ⟨hP, hK, hE, hZ⟩ := id hO
  have hx := B.exec
  have hb := B.bytes
  have hr := B.returns
  have hts := atoms_spec (ws := wsL_place) B.pre
  have hown : s.vm.findClass RL = some m.cls := findClass_of_methodNamed B.named
  have hlocks := B.notSynchronized
  have htb := vx_table (x := yL_place) B (hts _ List.mem_cons_self)
  subst hsz
  have hD := hD0.self (sz := s.heap.size)
  generalize hAe : va_A (wL cD cZ cI cL h pf f0 f1 f2 f3 po o0 o1 o2 o3 tt t0 NF GF TF OF NO GO TO OO DG nn fb ox F) s.heap.size = A at hD ⊢
  have hA : ∀ q : Nat, s.heap.size ≤ q → A q := fun q h => by rw [← hAe]; exact Or.inr h
  have hS : va_S A s.heap s.heap [] := va_S.rf
  have hP : va_P (dC, dI) vwCl [(h, .inr (1, [.ref (cond fb pf po), .ref (cond fb po pf), .ref tt, .int (nI (nn))])), (pf, .inr (0, [.ref f0, .ref f1, .ref f2, .ref f3])), (f0, .inl (cD, 35, .inr (.inr (.inr (.inl (NF)))))), (f1, .inl (cZ, 35, .inl (GF))), (f2, .inl (cI, 30, .inl (TF))), (f3, .inl (cI, 6, .inl (OF))), (po, .inr (0, [.ref o0, .ref o1, .ref o2, .ref o3])), (o0, .inl (cD, 35, .inr (.inr (.inr (.inl (NO)))))), (o1, .inl (cZ, 35, .inl (GO))), (o2, .inl (cI, 30, .inl (TO))), (o3, .inl (cI, 6, .inl (OO))), (tt, .inr (3, [.ref t0])), (t0, .inl (cL, 42, .inr (.inl (DG)))), (ox, .inl (cL, 1, .inr (.inl (F))))] s.heap := hP
  have hD : va_D A [(h, .inr (1, [.ref (cond fb pf po), .ref (cond fb po pf), .ref tt, .int (nI (nn))])), (pf, .inr (0, [.ref f0, .ref f1, .ref f2, .ref f3])), (f0, .inl (cD, 35, .inr (.inr (.inr (.inl (NF)))))), (f1, .inl (cZ, 35, .inl (GF))), (f2, .inl (cI, 30, .inl (TF))), (f3, .inl (cI, 6, .inl (OF))), (po, .inr (0, [.ref o0, .ref o1, .ref o2, .ref o3])), (o0, .inl (cD, 35, .inr (.inr (.inr (.inl (NO)))))), (o1, .inl (cZ, 35, .inl (GO))), (o2, .inl (cI, 30, .inl (TO))), (o3, .inl (cI, 6, .inl (OO))), (tt, .inr (3, [.ref t0])), (t0, .inl (cL, 42, .inr (.inl (DG)))), (ox, .inl (cL, 1, .inr (.inl (F))))] := hD
  have hl := lv_entry ([.ref h, .int (nI (Bool.toNat (fb))), .int (ev), .int (bv), .int (nI (Bool.toNat (sb))), .ref ox]) (n := 7) (Nat.le_of_ble_eq_true rfl)
  rw [lg_entry_eq]
  generalize (lg_sl ([.ref h, .int (nI (Bool.toNat (fb))), .int (ev), .int (bv), .int (nI (Bool.toNat (sb))), .ref ox]) ++ List.replicate (7 - (lg_sl ([.ref h, .int (nI (Bool.toNat (fb))), .int (ev), .int (bv), .int (nI (Bool.toNat (sb))), .ref ox])).length) Slot.unset).toArray = ls at hl ⊢
  have hl : lv_has ls 7 [(0, .ref h), (1, .int (nI (Bool.toNat (fb)))), (2, .int (ev)), (3, .int (bv)), (4, .int (nI (Bool.toNat (sb)))), (5, .ref ox)] := hl
  refine lv_aload hx hb dL_place_0 (lv_at hl 5 rfl) ?_
  refine lv_iconst (v := nI 0) hx hb dL_place_2 (by decide) ?_
  refine lv_aload_n hx hb dL_place_3 rfl (lv_at hl 0 rfl) ?_
  refine lv_iload_n hx hb dL_place_4 rfl (lv_at hl 1 rfl) ?_
  refine lv_iload_n hx hb dL_place_5 rfl (lv_at hl 2 rfl) ?_
  refine lv_iload_n hx hb dL_place_6 rfl (lv_at hl 3 rfl) ?_
  refine lv_iload hx hb dL_place_7 (lv_at hl 4 rfl) ?_
  refine vx_calli (vx_runV (As := [.int (nI (Bool.toNat (fb))), .int (ev), .int (bv), .int (nI (Bool.toNat (sb)))]) (rest := [.int (nI (0)), .ref ox]) ⟨hx, hb, hml, hown, hts⟩ (t_X1_place_t1 l dC dI cD cZ cI cL h pf f0 f1 f2 f3 po o0 o1 o2 o3 tt t0 NF GF TF OF NO GO TO OO DG nn fb hst ev bv sb hbad) (cwV 4 hts gL_place_X1_place rfl rfl rfl (by decide +kernel) ⟨Nat.le_of_ble_eq_true rfl, Nat.le_of_ble_eq_true rfl⟩) (okJX_pre ⟨hP.sub (ws' := [(h, .inr (1, [.ref (cond fb pf po), .ref (cond fb po pf), .ref tt, .int (nI (nn))])), (pf, .inr (0, [.ref f0, .ref f1, .ref f2, .ref f3])), (f0, .inl (cD, 35, .inr (.inr (.inr (.inl (NF)))))), (f1, .inl (cZ, 35, .inl (GF))), (f2, .inl (cI, 30, .inl (TF))), (f3, .inl (cI, 6, .inl (OF))), (po, .inr (0, [.ref o0, .ref o1, .ref o2, .ref o3])), (o0, .inl (cD, 35, .inr (.inr (.inr (.inl (NO)))))), (o1, .inl (cZ, 35, .inl (GO))), (o2, .inl (cI, 30, .inl (TO))), (o3, .inl (cI, 6, .inl (OO))), (tt, .inr (3, [.ref t0])), (t0, .inl (cL, 42, .inr (.inl (DG))))]) [0, 1, 2, 3, 4, 5, 6, 7, 8, 9, 10, 11, 12] rfl, hK, hE⟩ hZ) rfl rfl hl.1 rfl (lv_room (Nat.le_of_ble_eq_true rfl)) dL_place_9 ⟨Nat.le_of_ble_eq_true rfl, Nat.le_of_ble_eq_true rfl⟩) hS (fun q _ h => h.elim) (fun q h => h.elim) (fun q _ h => h.elim) (fun E ce q9 u t H1 locs ht hvm hw hB hz1 hk1 hS hce hcv hcl => ?_) (fun r u t H1 locs1 ht hvm hw hB hz1 hk1 hS1 => hw.elim)
  have hB9 : E = nsX := hB
  subst hB9
  have hP := hP.kept (fun k q hk => hk1 q.1 ((hP k q hk).lt) (fun z => z))
  generalize H1 = H at hP hS hce ⊢
  refine vx_catch (name := nsX) hown [] ⟨0, 14, 17, 19⟩ [] htb (fun z hz => absurd hz List.not_mem_nil) (by decide) (by decide) (hts (.classLink RL 19 nsX) (by decide +kernel)) hE.cN hce hcv hcl ?_
  refine W.widen (k := 1) (n := 6) (by omega) (by omega) ?_
  have hP : va_P (dC, dI) vwCl [(h, .inr (1, [.ref (cond fb pf po), .ref (cond fb po pf), .ref tt, .int (nI (nn))])), (pf, .inr (0, [.ref f0, .ref f1, .ref f2, .ref f3])), (f0, .inl (cD, 35, .inr (.inr (.inr (.inl (NF)))))), (f1, .inl (cZ, 35, .inl (GF))), (f2, .inl (cI, 30, .inl (TF))), (f3, .inl (cI, 6, .inl (OF))), (po, .inr (0, [.ref o0, .ref o1, .ref o2, .ref o3])), (o0, .inl (cD, 35, .inr (.inr (.inr (.inl (NO)))))), (o1, .inl (cZ, 35, .inl (GO))), (o2, .inl (cI, 30, .inl (TO))), (o3, .inl (cI, 6, .inl (OO))), (tt, .inr (3, [.ref t0])), (t0, .inl (cL, 42, .inr (.inl (DG)))), (ox, .inl (cL, 1, .inr (.inl (F))))] H := hP
  refine lv_astore (lv' := [(6, .ref q9), (0, .ref h), (1, .int (nI (Bool.toNat (fb)))), (2, .int (ev)), (3, .int (bv)), (4, .int (nI (Bool.toNat (sb)))), (5, .ref ox)]) hx hb dL_place_17 hl (by decide) rfl (fun ls hl => ?_)
  refine lv_iconst (v := nI 1) hx hb dL_place_19 (by decide) ?_
  exact W.iret (v := nI 1) hx hb hr (fun t ht hW => ⟨⟨_, (), rfl, rfl, by rw [ht]; exact hP, va_K.moved hW.alike hK, hD⟩, hS.F ht⟩) hS.2.2 dL_place_20
set_option maxHeartbeats 4000000 in
set_option maxRecDepth 100000 in
theorem c_L_place_t2 (l : Launch) (dC : Nat → ClassId) (dI : Nat → Nat → Nat) (cD cZ cI cL : ClassId) (h pf f0 f1 f2 f3 po o0 o1 o2 o3 tt t0 : Nat) (NF : Nat → UInt64) (GF TF OF : Nat → Int32) (NO : Nat → UInt64) (GO TO OO : Nat → Int32) (DG : Nat → Int64) (nn : Nat) (fb : Bool) (ox : Nat) (F : Nat → Int64) (sz : Nat) (hst : l.stackTraces = false) (hnn : nn ≤ 6) (en : Nat) (bv : Int32) (sb : Bool) (hen : en < nn) (hbad : vB bv 5 = false) : Met l yL_place wsL_place ({ frames := 8, cells := 1, slots := 6, locals := 126 }) (va_Pc [.ref h, .int (nI (Bool.toNat (fb))), .int (nI (en)), .int (bv), .int (nI (Bool.toNat (sb))), .ref ox] (fun U => U.heap.size = sz ∧ okLX dC dI cD cZ cI cL (wL cD cZ cI cL h pf f0 f1 f2 f3 po o0 o1 o2 o3 tt t0 NF GF TF OF NO GO TO OO DG nn fb ox F) U U.heap ∧ va_D (fun _ => True) (wL cD cZ cI cL h pf f0 f1 f2 f3 po o0 o1 o2 o3 tt t0 NF GF TF OF NO GO TO OO DG nn fb ox F))) (va_Qi (fun (r : Int32) (_ : Unit) => r = nI 1) (fun _ t => atL dC dI cD cZ cI cL (va_A (wL cD cZ cI cL h pf f0 f1 f2 f3 po o0 o1 o2 o3 tt t0 NF GF TF OF NO GO TO OO DG nn fb ox F) sz) (wL cD cZ cI cL h pf f0 f1 f2 f3 po o0 o1 o2 o3 tt t0 NF GF TF OF NO GO TO OO DG nn fb ox F) t) (va_A (wL cD cZ cI cL h pf f0 f1 f2 f3 po o0 o1 o2 o3 tt t0 NF GF TF OF NO GO TO OO DG nn fb ox F) sz)) 1 6 (va_A (wL cD cZ cI cL h pf f0 f1 f2 f3 po o0 o1 o2 o3 tt t0 NF GF TF OF NO GO TO OO DG nn fb ox F) sz) := by
  refine va_MetW (cc := cL_place) (maxL := 7) (ret := (some .int)) (hh := [(0, 14, 17, 19)]) (by decide) rfl ?_
  intro p e s m args below meth c s₁ B hml hv
  obtain ⟨rfl, hsz, hO, hD0⟩ := hv
  obtain ⟨hP, hK, hE, hZ⟩ := id hO
  have hx := B.exec
  have hb := B.bytes
  have hr := B.returns
  have hts := atoms_spec (ws := wsL_place) B.pre
  have hown : s.vm.findClass RL = some m.cls := findClass_of_methodNamed B.named
  have hlocks := B.notSynchronized
  have htb := vx_table (x := yL_place) B (hts _ List.mem_cons_self)
  subst hsz
  have hD := hD0.self (sz := s.heap.size)
  generalize hAe : va_A (wL cD cZ cI cL h pf f0 f1 f2 f3 po o0 o1 o2 o3 tt t0 NF GF TF OF NO GO TO OO DG nn fb ox F) s.heap.size = A at hD ⊢
  have hA : ∀ q : Nat, s.heap.size ≤ q → A q := fun q h => by rw [← hAe]; exact Or.inr h
  have hS : va_S A s.heap s.heap [] := va_S.rf
  have hP : va_P (dC, dI) vwCl [(h, .inr (1, [.ref (cond fb pf po), .ref (cond fb po pf), .ref tt, .int (nI (nn))])), (pf, .inr (0, [.ref f0, .ref f1, .ref f2, .ref f3])), (f0, .inl (cD, 35, .inr (.inr (.inr (.inl (NF)))))), (f1, .inl (cZ, 35, .inl (GF))), (f2, .inl (cI, 30, .inl (TF))), (f3, .inl (cI, 6, .inl (OF))), (po, .inr (0, [.ref o0, .ref o1, .ref o2, .ref o3])), (o0, .inl (cD, 35, .inr (.inr (.inr (.inl (NO)))))), (o1, .inl (cZ, 35, .inl (GO))), (o2, .inl (cI, 30, .inl (TO))), (o3, .inl (cI, 6, .inl (OO))), (tt, .inr (3, [.ref t0])), (t0, .inl (cL, 42, .inr (.inl (DG)))), (ox, .inl (cL, 1, .inr (.inl (F))))] s.heap := hP
  have hD : va_D A [(h, .inr (1, [.ref (cond fb pf po), .ref (cond fb po pf), .ref tt, .int (nI (nn))])), (pf, .inr (0, [.ref f0, .ref f1, .ref f2, .ref f3])), (f0, .inl (cD, 35, .inr (.inr (.inr (.inl (NF)))))), (f1, .inl (cZ, 35, .inl (GF))), (f2, .inl (cI, 30, .inl (TF))), (f3, .inl (cI, 6, .inl (OF))), (po, .inr (0, [.ref o0, .ref o1, .ref o2, .ref o3])), (o0, .inl (cD, 35, .inr (.inr (.inr (.inl (NO)))))), (o1, .inl (cZ, 35, .inl (GO))), (o2, .inl (cI, 30, .inl (TO))), (o3, .inl (cI, 6, .inl (OO))), (tt, .inr (3, [.ref t0])), (t0, .inl (cL, 42, .inr (.inl (DG)))), (ox, .inl (cL, 1, .inr (.inl (F))))] := hD
  have hl := lv_entry ([.ref h, .int (nI (Bool.toNat (fb))), .int (nI (en)), .int (bv), .int (nI (Bool.toNat (sb))), .ref ox]) (n := 7) (Nat.le_of_ble_eq_true rfl)
  rw [lg_entry_eq]
  generalize (lg_sl ([.ref h, .int (nI (Bool.toNat (fb))), .int (nI (en)), .int (bv), .int (nI (Bool.toNat (sb))), .ref ox]) ++ List.replicate (7 - (lg_sl ([.ref h, .int (nI (Bool.toNat (fb))), .int (nI (en)), .int (bv), .int (nI (Bool.toNat (sb))), .ref ox])).length) Slot.unset).toArray = ls at hl ⊢
  have hl : lv_has ls 7 [(0, .ref h), (1, .int (nI (Bool.toNat (fb)))), (2, .int (nI (en))), (3, .int (bv)), (4, .int (nI (Bool.toNat (sb)))), (5, .ref ox)] := hl
  refine lv_aload hx hb dL_place_0 (lv_at hl 5 rfl) ?_
  refine lv_iconst (v := nI 0) hx hb dL_place_2 (by decide) ?_
  refine lv_aload_n hx hb dL_place_3 rfl (lv_at hl 0 rfl) ?_
  refine lv_iload_n hx hb dL_place_4 rfl (lv_at hl 1 rfl) ?_
  refine lv_iload_n hx hb dL_place_5 rfl (lv_at hl 2 rfl) ?_
  refine lv_iload_n hx hb dL_place_6 rfl (lv_at hl 3 rfl) ?_
  refine lv_iload hx hb dL_place_7 (lv_at hl 4 rfl) ?_
  refine vx_calli (vx_runV (As := [.int (nI (Bool.toNat (fb))), .int (nI (en)), .int (bv), .int (nI (Bool.toNat (sb)))]) (rest := [.int (nI (0)), .ref ox]) ⟨hx, hb, hml, hown, hts⟩ (t_X1_place_t2 l dC dI cD cZ cI cL h pf f0 f1 f2 f3 po o0 o1 o2 o3 tt t0 NF GF TF OF NO GO TO OO DG nn fb hst hnn en bv sb hen hbad) (cwV 4 hts gL_place_X1_place rfl rfl rfl (by decide +kernel) ⟨Nat.le_of_ble_eq_true rfl, Nat.le_of_ble_eq_true rfl⟩) (okJX_pre ⟨hP.sub (ws' := [(h, .inr (1, [.ref (cond fb pf po), .ref (cond fb po pf), .ref tt, .int (nI (nn))])), (pf, .inr (0, [.ref f0, .ref f1, .ref f2, .ref f3])), (f0, .inl (cD, 35, .inr (.inr (.inr (.inl (NF)))))), (f1, .inl (cZ, 35, .inl (GF))), (f2, .inl (cI, 30, .inl (TF))), (f3, .inl (cI, 6, .inl (OF))), (po, .inr (0, [.ref o0, .ref o1, .ref o2, .ref o3])), (o0, .inl (cD, 35, .inr (.inr (.inr (.inl (NO)))))), (o1, .inl (cZ, 35, .inl (GO))), (o2, .inl (cI, 30, .inl (TO))), (o3, .inl (cI, 6, .inl (OO))), (tt, .inr (3, [.ref t0])), (t0, .inl (cL, 42, .inr (.inl (DG))))]) [0, 1, 2, 3, 4, 5, 6, 7, 8, 9, 10, 11, 12] rfl, hK, hE⟩ hZ) rfl rfl hl.1 rfl (lv_room (Nat.le_of_ble_eq_true rfl)) dL_place_9 ⟨Nat.le_of_ble_eq_true rfl, Nat.le_of_ble_eq_true rfl⟩) hS (fun q _ h => h.elim) (fun q h => h.elim) (fun q _ h => h.elim) (fun E ce q9 u t H1 locs ht hvm hw hB hz1 hk1 hS hce hcv hcl => ?_) (fun r u t H1 locs1 ht hvm hw hB hz1 hk1 hS1 => hw.elim)
  have hB9 : E = nsX := hB
  subst hB9
  have hP := hP.kept (fun k q hk => hk1 q.1 ((hP k q hk).lt) (fun z => z))
  generalize H1 = H at hP hS hce ⊢
  refine vx_catch (name := nsX) hown [] ⟨0, 14, 17, 19⟩ [] htb (fun z hz => absurd hz List.not_mem_nil) (by decide) (by decide) (hts (.classLink RL 19 nsX) (by decide +kernel)) hE.cN hce hcv hcl ?_
  refine W.widen (k := 1) (n := 6) (by omega) (by omega) ?_
  have hP : va_P (dC, dI) vwCl [(h, .inr (1, [.ref (cond fb pf po), .ref (cond fb po pf), .ref tt, .int (nI (nn))])), (pf, .inr (0, [.ref f0, .ref f1, .ref f2, .ref f3])), (f0, .inl (cD, 35, .inr (.inr (.inr (.inl (NF)))))), (f1, .inl (cZ, 35, .inl (GF))), (f2, .inl (cI, 30, .inl (TF))), (f3, .inl (cI, 6, .inl (OF))), (po, .inr (0, [.ref o0, .ref o1, .ref o2, .ref o3])), (o0, .inl (cD, 35, .inr (.inr (.inr (.inl (NO)))))), (o1, .inl (cZ, 35, .inl (GO))), (o2, .inl (cI, 30, .inl (TO))), (o3, .inl (cI, 6, .inl (OO))), (tt, .inr (3, [.ref t0])), (t0, .inl (cL, 42, .inr (.inl (DG)))), (ox, .inl (cL, 1, .inr (.inl (F))))] H := hP
  refine lv_astore (lv' := [(6, .ref q9), (0, .ref h), (1, .int (nI (Bool.toNat (fb)))), (2, .int (nI (en))), (3, .int (bv)), (4, .int (nI (Bool.toNat (sb)))), (5, .ref ox)]) hx hb dL_place_17 hl (by decide) rfl (fun ls hl => ?_)
  refine lv_iconst (v := nI 1) hx hb dL_place_19 (by decide) ?_
  exact W.iret (v := nI 1) hx hb hr (fun t ht hW => ⟨⟨_, (), rfl, rfl, by rw [ht]; exact hP, va_K.moved hW.alike hK, hD⟩, hS.F ht⟩) hS.2.2 dL_place_20
set_option maxHeartbeats 4000000 in
set_option maxRecDepth 100000 in
theorem c_L_best_t1 (l : Launch) (dC : Nat → ClassId) (dI : Nat → Nat → Nat) (cD cZ cI cL : ClassId) (h pf f0 f1 f2 f3 po o0 o1 o2 o3 tt t0 : Nat) (NF : Nat → UInt64) (GF TF OF : Nat → Int32) (NO : Nat → UInt64) (GO TO OO : Nat → Int32) (DG : Nat → Int64) (nn : Nat) (fb : Bool) (ox : Nat) (F : Nat → Int64) (sz : Nat) (hst : l.stackTraces = false) (bv hv : Int32) (hbad : vB bv 5 = false) : Met l yL_best wsL_best ({ frames := 8, cells := 1, slots := 6, locals := 125 }) (va_Pc [.ref h, .int (nI (Bool.toNat (fb))), .int (bv), .int (hv), .ref ox] (fun U => U.heap.size = sz ∧ okLX dC dI cD cZ cI cL (wL cD cZ cI cL h pf f0 f1 f2 f3 po o0 o1 o2 o3 tt t0 NF GF TF OF NO GO TO OO DG nn fb ox F) U U.heap ∧ va_D (fun _ => True) (wL cD cZ cI cL h pf f0 f1 f2 f3 po o0 o1 o2 o3 tt t0 NF GF TF OF NO GO TO OO DG nn fb ox F))) (va_Qi (fun (r : Int32) (_ : Unit) => r = nI 1) (fun _ t => atL dC dI cD cZ cI cL (va_A (wL cD cZ cI cL h pf f0 f1 f2 f3 po o0 o1 o2 o3 tt t0 NF GF TF OF NO GO TO OO DG nn fb ox F) sz) (wL cD cZ cI cL h pf f0 f1 f2 f3 po o0 o1 o2 o3 tt t0 NF GF TF OF NO GO TO OO DG nn fb ox F) t) (va_A (wL cD cZ cI cL h pf f0 f1 f2 f3 po o0 o1 o2 o3 tt t0 NF GF TF OF NO GO TO OO DG nn fb ox F) sz)) 1 6 (va_A (wL cD cZ cI cL h pf f0 f1 f2 f3 po o0 o1 o2 o3 tt t0 NF GF TF OF NO GO TO OO DG nn fb ox F) sz) := by
  refine va_MetW (cc := cL_best) (maxL := 6) (ret := (some .int)) (hh := [(0, 12, 15, 19), (0, 12, 19, 41)]) (by decide) rfl ?_
  intro p e s m args below meth c s₁ B hml hv
  obtain ⟨rfl, hsz, hO, hD0⟩ := hv
  obtain ⟨hP, hK, hE, hZ⟩ := id hO
  have hx := B.exec
  have hb := B.bytes
  have hr := B.returns
  have hts := atoms_spec (ws := wsL_best) B.pre
  have hown : s.vm.findClass RL = some m.cls := findClass_of_methodNamed B.named
  have hlocks := B.notSynchronized
  have htb := vx_table (x := yL_best) B (hts _ List.mem_cons_self)
  subst hsz
  have hD := hD0.self (sz := s.heap.size)
  generalize hAe : va_A (wL cD cZ cI cL h pf f0 f1 f2 f3 po o0 o1 o2 o3 tt t0 NF GF TF OF NO GO TO OO DG nn fb ox F) s.heap.size = A at hD ⊢
  have hA : ∀ q : Nat, s.heap.size ≤ q → A q := fun q h => by rw [← hAe]; exact Or.inr h
  have hS : va_S A s.heap s.heap [] := va_S.rf
  have hP : va_P (dC, dI) vwCl [(h, .inr (1, [.ref (cond fb pf po), .ref (cond fb po pf), .ref tt, .int (nI (nn))])), (pf, .inr (0, [.ref f0, .ref f1, .ref f2, .ref f3])), (f0, .inl (cD, 35, .inr (.inr (.inr (.inl (NF)))))), (f1, .inl (cZ, 35, .inl (GF))), (f2, .inl (cI, 30, .inl (TF))), (f3, .inl (cI, 6, .inl (OF))), (po, .inr (0, [.ref o0, .ref o1, .ref o2, .ref o3])), (o0, .inl (cD, 35, .inr (.inr (.inr (.inl (NO)))))), (o1, .inl (cZ, 35, .inl (GO))), (o2, .inl (cI, 30, .inl (TO))), (o3, .inl (cI, 6, .inl (OO))), (tt, .inr (3, [.ref t0])), (t0, .inl (cL, 42, .inr (.inl (DG)))), (ox, .inl (cL, 1, .inr (.inl (F))))] s.heap := hP
  have hD : va_D A [(h, .inr (1, [.ref (cond fb pf po), .ref (cond fb po pf), .ref tt, .int (nI (nn))])), (pf, .inr (0, [.ref f0, .ref f1, .ref f2, .ref f3])), (f0, .inl (cD, 35, .inr (.inr (.inr (.inl (NF)))))), (f1, .inl (cZ, 35, .inl (GF))), (f2, .inl (cI, 30, .inl (TF))), (f3, .inl (cI, 6, .inl (OF))), (po, .inr (0, [.ref o0, .ref o1, .ref o2, .ref o3])), (o0, .inl (cD, 35, .inr (.inr (.inr (.inl (NO)))))), (o1, .inl (cZ, 35, .inl (GO))), (o2, .inl (cI, 30, .inl (TO))), (o3, .inl (cI, 6, .inl (OO))), (tt, .inr (3, [.ref t0])), (t0, .inl (cL, 42, .inr (.inl (DG)))), (ox, .inl (cL, 1, .inr (.inl (F))))] := hD
  have hl := lv_entry ([.ref h, .int (nI (Bool.toNat (fb))), .int (bv), .int (hv), .ref ox]) (n := 6) (Nat.le_of_ble_eq_true rfl)
  rw [lg_entry_eq]
  generalize (lg_sl ([.ref h, .int (nI (Bool.toNat (fb))), .int (bv), .int (hv), .ref ox]) ++ List.replicate (6 - (lg_sl ([.ref h, .int (nI (Bool.toNat (fb))), .int (bv), .int (hv), .ref ox])).length) Slot.unset).toArray = ls at hl ⊢
  have hl : lv_has ls 6 [(0, .ref h), (1, .int (nI (Bool.toNat (fb)))), (2, .int (bv)), (3, .int (hv)), (4, .ref ox)] := hl
  refine lv_aload hx hb dL_best_0 (lv_at hl 4 rfl) ?_
  refine lv_iconst (v := nI 0) hx hb dL_best_2 (by decide) ?_
  refine lv_aload_n hx hb dL_best_3 rfl (lv_at hl 0 rfl) ?_
  refine lv_iload_n hx hb dL_best_4 rfl (lv_at hl 1 rfl) ?_
  refine lv_iload_n hx hb dL_best_5 rfl (lv_at hl 2 rfl) ?_
  refine lv_iload_n hx hb dL_best_6 rfl (lv_at hl 3 rfl) ?_
  refine vx_calli (vx_runV (As := [.int (nI (Bool.toNat (fb))), .int (bv), .int (hv)]) (rest := [.int (nI (0)), .ref ox]) ⟨hx, hb, hml, hown, hts⟩ (t_X1_best_t1 l dC dI cD cZ cI cL h pf f0 f1 f2 f3 po o0 o1 o2 o3 tt t0 NF GF TF OF NO GO TO OO DG nn fb hst bv hv hbad) (cwV 3 hts gL_best_X1_best rfl rfl rfl (by decide +kernel) ⟨Nat.le_of_ble_eq_true rfl, Nat.le_of_ble_eq_true rfl⟩) (okJX_pre ⟨hP.sub (ws' := [(h, .inr (1, [.ref (cond fb pf po), .ref (cond fb po pf), .ref tt, .int (nI (nn))])), (pf, .inr (0, [.ref f0, .ref f1, .ref f2, .ref f3])), (f0, .inl (cD, 35, .inr (.inr (.inr (.inl (NF)))))), (f1, .inl (cZ, 35, .inl (GF))), (f2, .inl (cI, 30, .inl (TF))), (f3, .inl (cI, 6, .inl (OF))), (po, .inr (0, [.ref o0, .ref o1, .ref o2, .ref o3])), (o0, .inl (cD, 35, .inr (.inr (.inr (.inl (NO)))))), (o1, .inl (cZ, 35, .inl (GO))), (o2, .inl (cI, 30, .inl (TO))), (o3, .inl (cI, 6, .inl (OO))), (tt, .inr (3, [.ref t0])), (t0, .inl (cL, 42, .inr (.inl (DG))))]) [0, 1, 2, 3, 4, 5, 6, 7, 8, 9, 10, 11, 12] rfl, hK, hE⟩ hZ) rfl rfl hl.1 rfl (lv_room (Nat.le_of_ble_eq_true rfl)) dL_best_7 ⟨Nat.le_of_ble_eq_true rfl, Nat.le_of_ble_eq_true rfl⟩) hS (fun q _ h => h.elim) (fun q h => h.elim) (fun q _ h => h.elim) (fun E ce q9 u t H1 locs ht hvm hw hB hz1 hk1 hS hce hcv hcl => ?_) (fun r u t H1 locs1 ht hvm hw hB hz1 hk1 hS1 => hw.elim)
  have hB9 : E = nsX := hB
  subst hB9
  have hP := hP.kept (fun k q hk => hk1 q.1 ((hP k q hk).lt) (fun z => z))
  generalize H1 = H at hP hS hce ⊢
  refine vx_catch (name := nsX) hown [] ⟨0, 12, 15, 19⟩ [⟨0, 12, 19, 41⟩] htb (fun z hz => absurd hz List.not_mem_nil) (by decide) (by decide) (hts (.classLink RL 19 nsX) (by decide +kernel)) hE.cN hce hcv hcl ?_
  refine W.widen (k := 1) (n := 6) (by omega) (by omega) ?_
  have hP : va_P (dC, dI) vwCl [(h, .inr (1, [.ref (cond fb pf po), .ref (cond fb po pf), .ref tt, .int (nI (nn))])), (pf, .inr (0, [.ref f0, .ref f1, .ref f2, .ref f3])), (f0, .inl (cD, 35, .inr (.inr (.inr (.inl (NF)))))), (f1, .inl (cZ, 35, .inl (GF))), (f2, .inl (cI, 30, .inl (TF))), (f3, .inl (cI, 6, .inl (OF))), (po, .inr (0, [.ref o0, .ref o1, .ref o2, .ref o3])), (o0, .inl (cD, 35, .inr (.inr (.inr (.inl (NO)))))), (o1, .inl (cZ, 35, .inl (GO))), (o2, .inl (cI, 30, .inl (TO))), (o3, .inl (cI, 6, .inl (OO))), (tt, .inr (3, [.ref t0])), (t0, .inl (cL, 42, .inr (.inl (DG)))), (ox, .inl (cL, 1, .inr (.inl (F))))] H := hP
  refine lv_astore (lv' := [(5, .ref q9), (0, .ref h), (1, .int (nI (Bool.toNat (fb)))), (2, .int (bv)), (3, .int (hv)), (4, .ref ox)]) hx hb dL_best_15 hl (by decide) rfl (fun ls hl => ?_)
  refine lv_iconst (v := nI 1) hx hb dL_best_17 (by decide) ?_
  exact W.iret (v := nI 1) hx hb hr (fun t ht hW => ⟨⟨_, (), rfl, rfl, by rw [ht]; exact hP, va_K.moved hW.alike hK, hD⟩, hS.F ht⟩) hS.2.2 dL_best_18
set_option maxHeartbeats 4000000 in
set_option maxRecDepth 100000 in
theorem c_L_best_t2 (l : Launch) (dC : Nat → ClassId) (dI : Nat → Nat → Nat) (cD cZ cI cL : ClassId) (h pf f0 f1 f2 f3 po o0 o1 o2 o3 tt t0 : Nat) (NF : Nat → UInt64) (GF TF OF : Nat → Int32) (NO : Nat → UInt64) (GO TO OO : Nat → Int32) (DG : Nat → Int64) (nn : Nat) (fb : Bool) (ox : Nat) (F : Nat → Int64) (sz : Nat) (hst : l.stackTraces = false) (bn : Nat) (hv : Int32) (hbn : bn < 5) (hbad : vB hv 4 = false) : Met l yL_best wsL_best ({ frames := 8, cells := 1, slots := 6, locals := 126 }) (va_Pc [.ref h, .int (nI (Bool.toNat (fb))), .int (nI (bn)), .int (hv), .ref ox] (fun U => U.heap.size = sz ∧ okLX dC dI cD cZ cI cL (wL cD cZ cI cL h pf f0 f1 f2 f3 po o0 o1 o2 o3 tt t0 NF GF TF OF NO GO TO OO DG nn fb ox F) U U.heap ∧ va_D (fun _ => True) (wL cD cZ cI cL h pf f0 f1 f2 f3 po o0 o1 o2 o3 tt t0 NF GF TF OF NO GO TO OO DG nn fb ox F))) (va_Qi (fun (r : Int32) (_ : Unit) => r = nI 2) (fun _ t => atL dC dI cD cZ cI cL (va_A (wL cD cZ cI cL h pf f0 f1 f2 f3 po o0 o1 o2 o3 tt t0 NF GF TF OF NO GO TO OO DG nn fb ox F) sz) (wL cD cZ cI cL h pf f0 f1 f2 f3 po o0 o1 o2 o3 tt t0 NF GF TF OF NO GO TO OO DG nn fb ox F) t) (va_A (wL cD cZ cI cL h pf f0 f1 f2 f3 po o0 o1 o2 o3 tt t0 NF GF TF OF NO GO TO OO DG nn fb ox F) sz)) 1 6 (va_A (wL cD cZ cI cL h pf f0 f1 f2 f3 po o0 o1 o2 o3 tt t0 NF GF TF OF NO GO TO OO DG nn fb ox F) sz) := by
  refine va_MetW (cc := cL_best) (maxL := 6) (ret := (some .int)) (hh := [(0, 12, 15, 19), (0, 12, 19, 41)]) (by decide) rfl ?_
  intro p e s m args below meth c s₁ B hml hv
  obtain ⟨rfl, hsz, hO, hD0⟩ := hv
  obtain ⟨hP, hK, hE, hZ⟩ := id hO
  have hx := B.exec
  have hb := B.bytes
  have hr := B.returns
  have hts := atoms_spec (ws := wsL_best) B.pre
  have hown : s.vm.findClass RL = some m.cls := findClass_of_methodNamed B.named
  have hlocks := B.notSynchronized
  have htb := vx_table (x := yL_best) B (hts _ List.mem_cons_self)
  subst hsz
  have hD := hD0.self (sz := s.heap.size)
  generalize hAe : va_A (wL cD cZ cI cL h pf f0 f1 f2 f3 po o0 o1 o2 o3 tt t0 NF GF TF OF NO GO TO OO DG nn fb ox F) s.heap.size = A at hD ⊢
  have hA : ∀ q : Nat, s.heap.size ≤ q → A q := fun q h => by rw [← hAe]; exact Or.inr h
  have hS : va_S A s.heap s.heap [] := va_S.rf
  have hP : va_P (dC, dI) vwCl [(h, .inr (1, [.ref (cond fb pf po), .ref (cond fb po pf), .ref tt, .int (nI (nn))])), (pf, .inr (0, [.ref f0, .ref f1, .ref f2, .ref f3])), (f0, .inl (cD, 35, .inr (.inr (.inr (.inl (NF)))))), (f1, .inl (cZ, 35, .inl (GF))), (f2, .inl (cI, 30, .inl (TF))), (f3, .inl (cI, 6, .inl (OF))), (po, .inr (0, [.ref o0, .ref o1, .ref o2, .ref o3])), (o0, .inl (cD, 35, .inr (.inr (.inr (.inl (NO)))))), (o1, .inl (cZ, 35, .inl (GO))), (o2, .inl (cI, 30, .inl (TO))), (o3, .inl (cI, 6, .inl (OO))), (tt, .inr (3, [.ref t0])), (t0, .inl (cL, 42, .inr (.inl (DG)))), (ox, .inl (cL, 1, .inr (.inl (F))))] s.heap := hP
  have hD : va_D A [(h, .inr (1, [.ref (cond fb pf po), .ref (cond fb po pf), .ref tt, .int (nI (nn))])), (pf, .inr (0, [.ref f0, .ref f1, .ref f2, .ref f3])), (f0, .inl (cD, 35, .inr (.inr (.inr (.inl (NF)))))), (f1, .inl (cZ, 35, .inl (GF))), (f2, .inl (cI, 30, .inl (TF))), (f3, .inl (cI, 6, .inl (OF))), (po, .inr (0, [.ref o0, .ref o1, .ref o2, .ref o3])), (o0, .inl (cD, 35, .inr (.inr (.inr (.inl (NO)))))), (o1, .inl (cZ, 35, .inl (GO))), (o2, .inl (cI, 30, .inl (TO))), (o3, .inl (cI, 6, .inl (OO))), (tt, .inr (3, [.ref t0])), (t0, .inl (cL, 42, .inr (.inl (DG)))), (ox, .inl (cL, 1, .inr (.inl (F))))] := hD
  have hl := lv_entry ([.ref h, .int (nI (Bool.toNat (fb))), .int (nI (bn)), .int (hv), .ref ox]) (n := 6) (Nat.le_of_ble_eq_true rfl)
  rw [lg_entry_eq]
  generalize (lg_sl ([.ref h, .int (nI (Bool.toNat (fb))), .int (nI (bn)), .int (hv), .ref ox]) ++ List.replicate (6 - (lg_sl ([.ref h, .int (nI (Bool.toNat (fb))), .int (nI (bn)), .int (hv), .ref ox])).length) Slot.unset).toArray = ls at hl ⊢
  have hl : lv_has ls 6 [(0, .ref h), (1, .int (nI (Bool.toNat (fb)))), (2, .int (nI (bn))), (3, .int (hv)), (4, .ref ox)] := hl
  refine lv_aload hx hb dL_best_0 (lv_at hl 4 rfl) ?_
  refine lv_iconst (v := nI 0) hx hb dL_best_2 (by decide) ?_
  refine lv_aload_n hx hb dL_best_3 rfl (lv_at hl 0 rfl) ?_
  refine lv_iload_n hx hb dL_best_4 rfl (lv_at hl 1 rfl) ?_
  refine lv_iload_n hx hb dL_best_5 rfl (lv_at hl 2 rfl) ?_
  refine lv_iload_n hx hb dL_best_6 rfl (lv_at hl 3 rfl) ?_
  refine vx_calli (vx_runV (As := [.int (nI (Bool.toNat (fb))), .int (nI (bn)), .int (hv)]) (rest := [.int (nI (0)), .ref ox]) ⟨hx, hb, hml, hown, hts⟩ (t_X1_best_t2 l dC dI cD cZ cI cL h pf f0 f1 f2 f3 po o0 o1 o2 o3 tt t0 NF GF TF OF NO GO TO OO DG nn fb hst bn hv hbn hbad) (cwV 3 hts gL_best_X1_best rfl rfl rfl (by decide +kernel) ⟨Nat.le_of_ble_eq_true rfl, Nat.le_of_ble_eq_true rfl⟩) (okJX_pre ⟨hP.sub (ws' := [(h, .inr (1, [.ref (cond fb pf po), .ref (cond fb po pf), .ref tt, .int (nI (nn))])), (pf, .inr (0, [.ref f0, .ref f1, .ref f2, .ref f3])), (f0, .inl (cD, 35, .inr (.inr (.inr (.inl (NF)))))), (f1, .inl (cZ, 35, .inl (GF))), (f2, .inl (cI, 30, .inl (TF))), (f3, .inl (cI, 6, .inl (OF))), (po, .inr (0, [.ref o0, .ref o1, .ref o2, .ref o3])), (o0, .inl (cD, 35, .inr (.inr (.inr (.inl (NO)))))), (o1, .inl (cZ, 35, .inl (GO))), (o2, .inl (cI, 30, .inl (TO))), (o3, .inl (cI, 6, .inl (OO))), (tt, .inr (3, [.ref t0])), (t0, .inl (cL, 42, .inr (.inl (DG))))]) [0, 1, 2, 3, 4, 5, 6, 7, 8, 9, 10, 11, 12] rfl, hK, hE⟩ hZ) rfl rfl hl.1 rfl (lv_room (Nat.le_of_ble_eq_true rfl)) dL_best_7 ⟨Nat.le_of_ble_eq_true rfl, Nat.le_of_ble_eq_true rfl⟩) hS (fun q _ h => h.elim) (fun q h => h.elim) (fun q _ h => h.elim) (fun E ce q9 u t H1 locs ht hvm hw hB hz1 hk1 hS hce hcv hcl => ?_) (fun r u t H1 locs1 ht hvm hw hB hz1 hk1 hS1 => hw.elim)
  have hB9 : E = iaX := hB
  subst hB9
  have hP := hP.kept (fun k q hk => hk1 q.1 ((hP k q hk).lt) (fun z => z))
  generalize H1 = H at hP hS hce ⊢
  refine vx_catch (name := iaX) hown [⟨0, 12, 15, 19⟩] ⟨0, 12, 19, 41⟩ [] htb (fun z hz => by rw [List.mem_singleton.mp hz]; exact Or.inr ⟨by decide, nsX, hts (.classLink RL 19 nsX) (by decide +kernel), hE.nA⟩) (by decide) (by decide) (hts (.classLink RL 41 iaX) (by decide +kernel)) hE.cA hce hcv hcl ?_
  refine W.widen (k := 1) (n := 6) (by omega) (by omega) ?_
  have hP : va_P (dC, dI) vwCl [(h, .inr (1, [.ref (cond fb pf po), .ref (cond fb po pf), .ref tt, .int (nI (nn))])), (pf, .inr (0, [.ref f0, .ref f1, .ref f2, .ref f3])), (f0, .inl (cD, 35, .inr (.inr (.inr (.inl (NF)))))), (f1, .inl (cZ, 35, .inl (GF))), (f2, .inl (cI, 30, .inl (TF))), (f3, .inl (cI, 6, .inl (OF))), (po, .inr (0, [.ref o0, .ref o1, .ref o2, .ref o3])), (o0, .inl (cD, 35, .inr (.inr (.inr (.inl (NO)))))), (o1, .inl (cZ, 35, .inl (GO))), (o2, .inl (cI, 30, .inl (TO))), (o3, .inl (cI, 6, .inl (OO))), (tt, .inr (3, [.ref t0])), (t0, .inl (cL, 42, .inr (.inl (DG)))), (ox, .inl (cL, 1, .inr (.inl (F))))] H := hP
  refine lv_astore (lv' := [(5, .ref q9), (0, .ref h), (1, .int (nI (Bool.toNat (fb)))), (2, .int (nI (bn))), (3, .int (hv)), (4, .ref ox)]) hx hb dL_best_19 hl (by decide) rfl (fun ls hl => ?_)
  refine lv_iconst (v := nI 2) hx hb dL_best_21 (by decide) ?_
  exact W.iret (v := nI 2) hx hb hr (fun t ht hW => ⟨⟨_, (), rfl, rfl, by rw [ht]; exact hP, va_K.moved hW.alike hK, hD⟩, hS.F ht⟩) hS.2.2 dL_best_22
set_option maxHeartbeats 4000000 in
set_option maxRecDepth 100000 in
theorem c_L_against_t1 (l : Launch) (dC : Nat → ClassId) (dI : Nat → Nat → Nat) (cD cZ cI cL : ClassId) (h pf f0 f1 f2 f3 po o0 o1 o2 o3 tt t0 : Nat) (NF : Nat → UInt64) (GF TF OF : Nat → Int32) (NO : Nat → UInt64) (GO TO OO : Nat → Int32) (DG : Nat → Int64) (nn : Nat) (fb : Bool) (ox : Nat) (F : Nat → Int64) (sz : Nat) (hst : l.stackTraces = false) (ev bv kv : Int32) (hbad : vB ev nn = false) : Met l yL_against wsL_against ({ frames := 8, cells := 1, slots := 6, locals := 127 }) (va_Pc [.ref h, .int (nI (Bool.toNat (fb))), .int (ev), .int (bv), .int (kv), .ref ox] (fun U => U.heap.size = sz ∧ okLX dC dI cD cZ cI cL (wL cD cZ cI cL h pf f0 f1 f2 f3 po o0 o1 o2 o3 tt t0 NF GF TF OF NO GO TO OO DG nn fb ox F) U U.heap ∧ va_D (fun _ => True) (wL cD cZ cI cL h pf f0 f1 f2 f3 po o0 o1 o2 o3 tt t0 NF GF TF OF NO GO TO OO DG nn fb ox F))) (va_Qi (fun (r : Int32) (_ : Unit) => r = nI 1) (fun _ t => atL dC dI cD cZ cI cL (va_A (wL cD cZ cI cL h pf f0 f1 f2 f3 po o0 o1 o2 o3 tt t0 NF GF TF OF NO GO TO OO DG nn fb ox F) sz) (wL cD cZ cI cL h pf f0 f1 f2 f3 po o0 o1 o2 o3 tt t0 NF GF TF OF NO GO TO OO DG nn fb ox F) t) (va_A (wL cD cZ cI cL h pf f0 f1 f2 f3 po o0 o1 o2 o3 tt t0 NF GF TF OF NO GO TO OO DG nn fb ox F) sz)) 1 6 (va_A (wL cD cZ cI cL h pf f0 f1 f2 f3 po o0 o1 o2 o3 tt t0 NF GF TF OF NO GO TO OO DG nn fb ox F) sz) := by
  refine va_MetW (cc := cL_against) (maxL := 7) (ret := (some .int)) (hh := [(0, 14, 17, 19), (0, 14, 21, 41)]) (by decide) rfl ?_
  intro p e s m args below meth c s₁ B hml hv
  obtain ⟨rfl, hsz, hO, hD0⟩ := hv
  obtain ⟨hP, hK, hE, hZ⟩ := id hO
  have hx := B.exec
  have hb := B.bytes
  have hr := B.returns
  have hts := atoms_spec (ws := wsL_against) B.pre
  have hown : s.vm.findClass RL = some m.cls := findClass_of_methodNamed B.named
  have hlocks := B.notSynchronized
  have htb := vx_table (x := yL_against) B (hts _ List.mem_cons_self)
  subst hsz
  have hD := hD0.self (sz := s.heap.size)
  generalize hAe : va_A (wL cD cZ cI cL h pf f0 f1 f2 f3 po o0 o1 o2 o3 tt t0 NF GF TF OF NO GO TO OO DG nn fb ox F) s.heap.size = A at hD ⊢
  have hA : ∀ q : Nat, s.heap.size ≤ q → A q := fun q h => by rw [← hAe]; exact Or.inr h
  have hS : va_S A s.heap s.heap [] := va_S.rf
  have hP : va_P (dC, dI) vwCl [(h, .inr (1, [.ref (cond fb pf po), .ref (cond fb po pf), .ref tt, .int (nI (nn))])), (pf, .inr (0, [.ref f0, .ref f1, .ref f2, .ref f3])), (f0, .inl (cD, 35, .inr (.inr (.inr (.inl (NF)))))), (f1, .inl (cZ, 35, .inl (GF))), (f2, .inl (cI, 30, .inl (TF))), (f3, .inl (cI, 6, .inl (OF))), (po, .inr (0, [.ref o0, .ref o1, .ref o2, .ref o3])), (o0, .inl (cD, 35, .inr (.inr (.inr (.inl (NO)))))), (o1, .inl (cZ, 35, .inl (GO))), (o2, .inl (cI, 30, .inl (TO))), (o3, .inl (cI, 6, .inl (OO))), (tt, .inr (3, [.ref t0])), (t0, .inl (cL, 42, .inr (.inl (DG)))), (ox, .inl (cL, 1, .inr (.inl (F))))] s.heap := hP
  have hD : va_D A [(h, .inr (1, [.ref (cond fb pf po), .ref (cond fb po pf), .ref tt, .int (nI (nn))])), (pf, .inr (0, [.ref f0, .ref f1, .ref f2, .ref f3])), (f0, .inl (cD, 35, .inr (.inr (.inr (.inl (NF)))))), (f1, .inl (cZ, 35, .inl (GF))), (f2, .inl (cI, 30, .inl (TF))), (f3, .inl (cI, 6, .inl (OF))), (po, .inr (0, [.ref o0, .ref o1, .ref o2, .ref o3])), (o0, .inl (cD, 35, .inr (.inr (.inr (.inl (NO)))))), (o1, .inl (cZ, 35, .inl (GO))), (o2, .inl (cI, 30, .inl (TO))), (o3, .inl (cI, 6, .inl (OO))), (tt, .inr (3, [.ref t0])), (t0, .inl (cL, 42, .inr (.inl (DG)))), (ox, .inl (cL, 1, .inr (.inl (F))))] := hD
  have hl := lv_entry ([.ref h, .int (nI (Bool.toNat (fb))), .int (ev), .int (bv), .int (kv), .ref ox]) (n := 7) (Nat.le_of_ble_eq_true rfl)
  rw [lg_entry_eq]
  generalize (lg_sl ([.ref h, .int (nI (Bool.toNat (fb))), .int (ev), .int (bv), .int (kv), .ref ox]) ++ List.replicate (7 - (lg_sl ([.ref h, .int (nI (Bool.toNat (fb))), .int (ev), .int (bv), .int (kv), .ref ox])).length) Slot.unset).toArray = ls at hl ⊢
  have hl : lv_has ls 7 [(0, .ref h), (1, .int (nI (Bool.toNat (fb)))), (2, .int (ev)), (3, .int (bv)), (4, .int (kv)), (5, .ref ox)] := hl
  refine lv_aload hx hb dL_against_0 (lv_at hl 5 rfl) ?_
  refine lv_iconst (v := nI 0) hx hb dL_against_2 (by decide) ?_
  refine lv_aload_n hx hb dL_against_3 rfl (lv_at hl 0 rfl) ?_
  refine lv_iload_n hx hb dL_against_4 rfl (lv_at hl 1 rfl) ?_
  refine lv_iload_n hx hb dL_against_5 rfl (lv_at hl 2 rfl) ?_
  refine lv_iload_n hx hb dL_against_6 rfl (lv_at hl 3 rfl) ?_
  refine lv_iload hx hb dL_against_7 (lv_at hl 4 rfl) ?_
  refine vx_calli (vx_runV (As := [.int (nI (Bool.toNat (fb))), .int (ev), .int (bv), .int (kv)]) (rest := [.int (nI (0)), .ref ox]) ⟨hx, hb, hml, hown, hts⟩ (t_X1_against_t1 l dC dI cD cZ cI cL h pf f0 f1 f2 f3 po o0 o1 o2 o3 tt t0 NF GF TF OF NO GO TO OO DG nn fb hst ev bv kv hbad) (cwV 4 hts gL_against_X1_against rfl rfl rfl (by decide +kernel) ⟨Nat.le_of_ble_eq_true rfl, Nat.le_of_ble_eq_true rfl⟩) (okJX_pre ⟨hP.sub (ws' := [(h, .inr (1, [.ref (cond fb pf po), .ref (cond fb po pf), .ref tt, .int (nI (nn))])), (pf, .inr (0, [.ref f0, .ref f1, .ref f2, .ref f3])), (f0, .inl (cD, 35, .inr (.inr (.inr (.inl (NF)))))), (f1, .inl (cZ, 35, .inl (GF))), (f2, .inl (cI, 30, .inl (TF))), (f3, .inl (cI, 6, .inl (OF))), (po, .inr (0, [.ref o0, .ref o1, .ref o2, .ref o3])), (o0, .inl (cD, 35, .inr (.inr (.inr (.inl (NO)))))), (o1, .inl (cZ, 35, .inl (GO))), (o2, .inl (cI, 30, .inl (TO))), (o3, .inl (cI, 6, .inl (OO))), (tt, .inr (3, [.ref t0])), (t0, .inl (cL, 42, .inr (.inl (DG))))]) [0, 1, 2, 3, 4, 5, 6, 7, 8, 9, 10, 11, 12] rfl, hK, hE⟩ hZ) rfl rfl hl.1 rfl (lv_room (Nat.le_of_ble_eq_true rfl)) dL_against_9 ⟨Nat.le_of_ble_eq_true rfl, Nat.le_of_ble_eq_true rfl⟩) hS (fun q _ h => h.elim) (fun q h => h.elim) (fun q _ h => h.elim) (fun E ce q9 u t H1 locs ht hvm hw hB hz1 hk1 hS hce hcv hcl => ?_) (fun r u t H1 locs1 ht hvm hw hB hz1 hk1 hS1 => hw.elim)
  have hB9 : E = nsX := hB
  subst hB9
  have hP := hP.kept (fun k q hk => hk1 q.1 ((hP k q hk).lt) (fun z => z))
  generalize H1 = H at hP hS hce ⊢
  refine vx_catch (name := nsX) hown [] ⟨0, 14, 17, 19⟩ [⟨0, 14, 21, 41⟩] htb (fun z hz => absurd hz List.not_mem_nil) (by decide) (by decide) (hts (.classLink RL 19 nsX) (by decide +kernel)) hE.cN hce hcv hcl ?_
  refine W.widen (k := 1) (n := 6) (by omega) (by omega) ?_
  have hP : va_P (dC, dI) vwCl [(h, .inr (1, [.ref (cond fb pf po), .ref (cond fb po pf), .ref tt, .int (nI (nn))])), (pf, .inr (0, [.ref f0, .ref f1, .ref f2, .ref f3])), (f0, .inl (cD, 35, .inr (.inr (.inr (.inl (NF)))))), (f1, .inl (cZ, 35, .inl (GF))), (f2, .inl (cI, 30, .inl (TF))), (f3, .inl (cI, 6, .inl (OF))), (po, .inr (0, [.ref o0, .ref o1, .ref o2, .ref o3])), (o0, .inl (cD, 35, .inr (.inr (.inr (.inl (NO)))))), (o1, .inl (cZ, 35, .inl (GO))), (o2, .inl (cI, 30, .inl (TO))), (o3, .inl (cI, 6, .inl (OO))), (tt, .inr (3, [.ref t0])), (t0, .inl (cL, 42, .inr (.inl (DG)))), (ox, .inl (cL, 1, .inr (.inl (F))))] H := hP
  refine lv_astore (lv' := [(6, .ref q9), (0, .ref h), (1, .int (nI (Bool.toNat (fb)))), (2, .int (ev)), (3, .int (bv)), (4, .int (kv)), (5, .ref ox)]) hx hb dL_against_17 hl (by decide) rfl (fun ls hl => ?_)
  refine lv_iconst (v := nI 1) hx hb dL_against_19 (by decide) ?_
  exact W.iret (v := nI 1) hx hb hr (fun t ht hW => ⟨⟨_, (), rfl, rfl, by rw [ht]; exact hP, va_K.moved hW.alike hK, hD⟩, hS.F ht⟩) hS.2.2 dL_against_20
set_option maxHeartbeats 4000000 in
set_option maxRecDepth 100000 in
theorem c_L_against_t2 (l : Launch) (dC : Nat → ClassId) (dI : Nat → Nat → Nat) (cD cZ cI cL : ClassId) (h pf f0 f1 f2 f3 po o0 o1 o2 o3 tt t0 : Nat) (NF : Nat → UInt64) (GF TF OF : Nat → Int32) (NO : Nat → UInt64) (GO TO OO : Nat → Int32) (DG : Nat → Int64) (nn : Nat) (fb : Bool) (ox : Nat) (F : Nat → Int64) (sz : Nat) (hst : l.stackTraces = false) (hnn : nn ≤ 6) (ea : Nat) (bv kv : Int32) (hea : ea < nn) (hbad : vB bv nn = false) : Met l yL_against wsL_against ({ frames := 8, cells := 1, slots := 6, locals := 127 }) (va_Pc [.ref h, .int (nI (Bool.toNat (fb))), .int (nI (ea)), .int (bv), .int (kv), .ref ox] (fun U => U.heap.size = sz ∧ okLX dC dI cD cZ cI cL (wL cD cZ cI cL h pf f0 f1 f2 f3 po o0 o1 o2 o3 tt t0 NF GF TF OF NO GO TO OO DG nn fb ox F) U U.heap ∧ va_D (fun _ => True) (wL cD cZ cI cL h pf f0 f1 f2 f3 po o0 o1 o2 o3 tt t0 NF GF TF OF NO GO TO OO DG nn fb ox F))) (va_Qi (fun (r : Int32) (_ : Unit) => r = nI 1) (fun _ t => atL dC dI cD cZ cI cL (va_A (wL cD cZ cI cL h pf f0 f1 f2 f3 po o0 o1 o2 o3 tt t0 NF GF TF OF NO GO TO OO DG nn fb ox F) sz) (wL cD cZ cI cL h pf f0 f1 f2 f3 po o0 o1 o2 o3 tt t0 NF GF TF OF NO GO TO OO DG nn fb ox F) t) (va_A (wL cD cZ cI cL h pf f0 f1 f2 f3 po o0 o1 o2 o3 tt t0 NF GF TF OF NO GO TO OO DG nn fb ox F) sz)) 1 6 (va_A (wL cD cZ cI cL h pf f0 f1 f2 f3 po o0 o1 o2 o3 tt t0 NF GF TF OF NO GO TO OO DG nn fb ox F) sz) := by
  refine va_MetW (cc := cL_against) (maxL := 7) (ret := (some .int)) (hh := [(0, 14, 17, 19), (0, 14, 21, 41)]) (by decide) rfl ?_
  intro p e s m args below meth c s₁ B hml hv
  obtain ⟨rfl, hsz, hO, hD0⟩ := hv
  obtain ⟨hP, hK, hE, hZ⟩ := id hO
  have hx := B.exec
  have hb := B.bytes
  have hr := B.returns
  have hts := atoms_spec (ws := wsL_against) B.pre
  have hown : s.vm.findClass RL = some m.cls := findClass_of_methodNamed B.named
  have hlocks := B.notSynchronized
  have htb := vx_table (x := yL_against) B (hts _ List.mem_cons_self)
  subst hsz
  have hD := hD0.self (sz := s.heap.size)
  generalize hAe : va_A (wL cD cZ cI cL h pf f0 f1 f2 f3 po o0 o1 o2 o3 tt t0 NF GF TF OF NO GO TO OO DG nn fb ox F) s.heap.size = A at hD ⊢
  have hA : ∀ q : Nat, s.heap.size ≤ q → A q := fun q h => by rw [← hAe]; exact Or.inr h
  have hS : va_S A s.heap s.heap [] := va_S.rf
  have hP : va_P (dC, dI) vwCl [(h, .inr (1, [.ref (cond fb pf po), .ref (cond fb po pf), .ref tt, .int (nI (nn))])), (pf, .inr (0, [.ref f0, .ref f1, .ref f2, .ref f3])), (f0, .inl (cD, 35, .inr (.inr (.inr (.inl (NF)))))), (f1, .inl (cZ, 35, .inl (GF))), (f2, .inl (cI, 30, .inl (TF))), (f3, .inl (cI, 6, .inl (OF))), (po, .inr (0, [.ref o0, .ref o1, .ref o2, .ref o3])), (o0, .inl (cD, 35, .inr (.inr (.inr (.inl (NO)))))), (o1, .inl (cZ, 35, .inl (GO))), (o2, .inl (cI, 30, .inl (TO))), (o3, .inl (cI, 6, .inl (OO))), (tt, .inr (3, [.ref t0])), (t0, .inl (cL, 42, .inr (.inl (DG)))), (ox, .inl (cL, 1, .inr (.inl (F))))] s.heap := hP
  have hD : va_D A [(h, .inr (1, [.ref (cond fb pf po), .ref (cond fb po pf), .ref tt, .int (nI (nn))])), (pf, .inr (0, [.ref f0, .ref f1, .ref f2, .ref f3])), (f0, .inl (cD, 35, .inr (.inr (.inr (.inl (NF)))))), (f1, .inl (cZ, 35, .inl (GF))), (f2, .inl (cI, 30, .inl (TF))), (f3, .inl (cI, 6, .inl (OF))), (po, .inr (0, [.ref o0, .ref o1, .ref o2, .ref o3])), (o0, .inl (cD, 35, .inr (.inr (.inr (.inl (NO)))))), (o1, .inl (cZ, 35, .inl (GO))), (o2, .inl (cI, 30, .inl (TO))), (o3, .inl (cI, 6, .inl (OO))), (tt, .inr (3, [.ref t0])), (t0, .inl (cL, 42, .inr (.inl (DG)))), (ox, .inl (cL, 1, .inr (.inl (F))))] := hD
  have hl := lv_entry ([.ref h, .int (nI (Bool.toNat (fb))), .int (nI (ea)), .int (bv), .int (kv), .ref ox]) (n := 7) (Nat.le_of_ble_eq_true rfl)
  rw [lg_entry_eq]
  generalize (lg_sl ([.ref h, .int (nI (Bool.toNat (fb))), .int (nI (ea)), .int (bv), .int (kv), .ref ox]) ++ List.replicate (7 - (lg_sl ([.ref h, .int (nI (Bool.toNat (fb))), .int (nI (ea)), .int (bv), .int (kv), .ref ox])).length) Slot.unset).toArray = ls at hl ⊢
  have hl : lv_has ls 7 [(0, .ref h), (1, .int (nI (Bool.toNat (fb)))), (2, .int (nI (ea))), (3, .int (bv)), (4, .int (kv)), (5, .ref ox)] := hl
  refine lv_aload hx hb dL_against_0 (lv_at hl 5 rfl) ?_
  refine lv_iconst (v := nI 0) hx hb dL_against_2 (by decide) ?_
  refine lv_aload_n hx hb dL_against_3 rfl (lv_at hl 0 rfl) ?_
  refine lv_iload_n hx hb dL_against_4 rfl (lv_at hl 1 rfl) ?_
  refine lv_iload_n hx hb dL_against_5 rfl (lv_at hl 2 rfl) ?_
  refine lv_iload_n hx hb dL_against_6 rfl (lv_at hl 3 rfl) ?_
  refine lv_iload hx hb dL_against_7 (lv_at hl 4 rfl) ?_
  refine vx_calli (vx_runV (As := [.int (nI (Bool.toNat (fb))), .int (nI (ea)), .int (bv), .int (kv)]) (rest := [.int (nI (0)), .ref ox]) ⟨hx, hb, hml, hown, hts⟩ (t_X1_against_t2 l dC dI cD cZ cI cL h pf f0 f1 f2 f3 po o0 o1 o2 o3 tt t0 NF GF TF OF NO GO TO OO DG nn fb hst hnn ea bv kv hea hbad) (cwV 4 hts gL_against_X1_against rfl rfl rfl (by decide +kernel) ⟨Nat.le_of_ble_eq_true rfl, Nat.le_of_ble_eq_true rfl⟩) (okJX_pre ⟨hP.sub (ws' := [(h, .inr (1, [.ref (cond fb pf po), .ref (cond fb po pf), .ref tt, .int (nI (nn))])), (pf, .inr (0, [.ref f0, .ref f1, .ref f2, .ref f3])), (f0, .inl (cD, 35, .inr (.inr (.inr (.inl (NF)))))), (f1, .inl (cZ, 35, .inl (GF))), (f2, .inl (cI, 30, .inl (TF))), (f3, .inl (cI, 6, .inl (OF))), (po, .inr (0, [.ref o0, .ref o1, .ref o2, .ref o3])), (o0, .inl (cD, 35, .inr (.inr (.inr (.inl (NO)))))), (o1, .inl (cZ, 35, .inl (GO))), (o2, .inl (cI, 30, .inl (TO))), (o3, .inl (cI, 6, .inl (OO))), (tt, .inr (3, [.ref t0])), (t0, .inl (cL, 42, .inr (.inl (DG))))]) [0, 1, 2, 3, 4, 5, 6, 7, 8, 9, 10, 11, 12] rfl, hK, hE⟩ hZ) rfl rfl hl.1 rfl (lv_room (Nat.le_of_ble_eq_true rfl)) dL_against_9 ⟨Nat.le_of_ble_eq_true rfl, Nat.le_of_ble_eq_true rfl⟩) hS (fun q _ h => h.elim) (fun q h => h.elim) (fun q _ h => h.elim) (fun E ce q9 u t H1 locs ht hvm hw hB hz1 hk1 hS hce hcv hcl => ?_) (fun r u t H1 locs1 ht hvm hw hB hz1 hk1 hS1 => hw.elim)
  have hB9 : E = nsX := hB
  subst hB9
  have hP := hP.kept (fun k q hk => hk1 q.1 ((hP k q hk).lt) (fun z => z))
  generalize H1 = H at hP hS hce ⊢
  refine vx_catch (name := nsX) hown [] ⟨0, 14, 17, 19⟩ [⟨0, 14, 21, 41⟩] htb (fun z hz => absurd hz List.not_mem_nil) (by decide) (by decide) (hts (.classLink RL 19 nsX) (by decide +kernel)) hE.cN hce hcv hcl ?_
  refine W.widen (k := 1) (n := 6) (by omega) (by omega) ?_
  have hP : va_P (dC, dI) vwCl [(h, .inr (1, [.ref (cond fb pf po), .ref (cond fb po pf), .ref tt, .int (nI (nn))])), (pf, .inr (0, [.ref f0, .ref f1, .ref f2, .ref f3])), (f0, .inl (cD, 35, .inr (.inr (.inr (.inl (NF)))))), (f1, .inl (cZ, 35, .inl (GF))), (f2, .inl (cI, 30, .inl (TF))), (f3, .inl (cI, 6, .inl (OF))), (po, .inr (0, [.ref o0, .ref o1, .ref o2, .ref o3])), (o0, .inl (cD, 35, .inr (.inr (.inr (.inl (NO)))))), (o1, .inl (cZ, 35, .inl (GO))), (o2, .inl (cI, 30, .inl (TO))), (o3, .inl (cI, 6, .inl (OO))), (tt, .inr (3, [.ref t0])), (t0, .inl (cL, 42, .inr (.inl (DG)))), (ox, .inl (cL, 1, .inr (.inl (F))))] H := hP
  refine lv_astore (lv' := [(6, .ref q9), (0, .ref h), (1, .int (nI (Bool.toNat (fb)))), (2, .int (nI (ea))), (3, .int (bv)), (4, .int (kv)), (5, .ref ox)]) hx hb dL_against_17 hl (by decide) rfl (fun ls hl => ?_)
  refine lv_iconst (v := nI 1) hx hb dL_against_19 (by decide) ?_
  exact W.iret (v := nI 1) hx hb hr (fun t ht hW => ⟨⟨_, (), rfl, rfl, by rw [ht]; exact hP, va_K.moved hW.alike hK, hD⟩, hS.F ht⟩) hS.2.2 dL_against_20
set_option maxHeartbeats 4000000 in
set_option maxRecDepth 100000 in
theorem c_L_against_t3 (l : Launch) (dC : Nat → ClassId) (dI : Nat → Nat → Nat) (cD cZ cI cL : ClassId) (h pf f0 f1 f2 f3 po o0 o1 o2 o3 tt t0 : Nat) (NF : Nat → UInt64) (GF TF OF : Nat → Int32) (NO : Nat → UInt64) (GO TO OO : Nat → Int32) (DG : Nat → Int64) (nn : Nat) (fb : Bool) (ox : Nat) (F : Nat → Int64) (sz : Nat) (hst : l.stackTraces = false) (hnn : nn ≤ 6) (ea eb : Nat) (kv : Int32) (hea : ea < nn) (heb : eb < nn) (hbad : vB kv 5 = false) : Met l yL_against wsL_against ({ frames := 8, cells := 1, slots := 6, locals := 127 }) (va_Pc [.ref h, .int (nI (Bool.toNat (fb))), .int (nI (ea)), .int (nI (eb)), .int (kv), .ref ox] (fun U => U.heap.size = sz ∧ okLX dC dI cD cZ cI cL (wL cD cZ cI cL h pf f0 f1 f2 f3 po o0 o1 o2 o3 tt t0 NF GF TF OF NO GO TO OO DG nn fb ox F) U U.heap ∧ va_D (fun _ => True) (wL cD cZ cI cL h pf f0 f1 f2 f3 po o0 o1 o2 o3 tt t0 NF GF TF OF NO GO TO OO DG nn fb ox F))) (va_Qi (fun (r : Int32) (_ : Unit) => r = nI 2) (fun _ t => atL dC dI cD cZ cI cL (va_A (wL cD cZ cI cL h pf f0 f1 f2 f3 po o0 o1 o2 o3 tt t0 NF GF TF OF NO GO TO OO DG nn fb ox F) sz) (wL cD cZ cI cL h pf f0 f1 f2 f3 po o0 o1 o2 o3 tt t0 NF GF TF OF NO GO TO OO DG nn fb ox F) t) (va_A (wL cD cZ cI cL h pf f0 f1 f2 f3 po o0 o1 o2 o3 tt t0 NF GF TF OF NO GO TO OO DG nn fb ox F) sz)) 1 6 (va_A (wL cD cZ cI cL h pf f0 f1 f2 f3 po o0 o1 o2 o3 tt t0 NF GF TF OF NO GO TO OO DG nn fb ox F) sz) := by
  refine va_MetW (cc := cL_against) (maxL := 7) (ret := (some .int)) (hh := [(0, 14, 17, 19), (0, 14, 21, 41)]) (by decide) rfl ?_
  intro p e s m args below meth c s₁ B hml hv
  obtain ⟨rfl, hsz, hO, hD0⟩ := hv
  obtain ⟨hP, hK, hE, hZ⟩ := id hO
  have hx := B.exec
  have hb := B.bytes
  have hr := B.returns
  have hts := atoms_spec (ws := wsL_against) B.pre
  have hown : s.vm.findClass RL = some m.cls := findClass_of_methodNamed B.named
  have hlocks := B.notSynchronized
  have htb := vx_table (x := yL_against) B (hts _ List.mem_cons_self)
  subst hsz
  have hD := hD0.self (sz := s.heap.size)
  generalize hAe : va_A (wL cD cZ cI cL h pf f0 f1 f2 f3 po o0 o1 o2 o3 tt t0 NF GF TF OF NO GO TO OO DG nn fb ox F) s.heap.size = A at hD ⊢
  have hA : ∀ q : Nat, s.heap.size ≤ q → A q := fun q h => by rw [← hAe]; exact Or.inr h
  have hS : va_S A s.heap s.heap [] := va_S.rf
  have hP : va_P (dC, dI) vwCl [(h, .inr (1, [.ref (cond fb pf po), .ref (cond fb po pf), .ref tt, .int (nI (nn))])), (pf, .inr (0, [.ref f0, .ref f1, .ref f2, .ref f3])), (f0, .inl (cD, 35, .inr (.inr (.inr (.inl (NF)))))), (f1, .inl (cZ, 35, .inl (GF))), (f2, .inl (cI, 30, .inl (TF))), (f3, .inl (cI, 6, .inl (OF))), (po, .inr (0, [.ref o0, .ref o1, .ref o2, .ref o3])), (o0, .inl (cD, 35, .inr (.inr (.inr (.inl (NO)))))), (o1, .inl (cZ, 35, .inl (GO))), (o2, .inl (cI, 30, .inl (TO))), (o3, .inl (cI, 6, .inl (OO))), (tt, .inr (3, [.ref t0])), (t0, .inl (cL, 42, .inr (.inl (DG)))), (ox, .inl (cL, 1, .inr (.inl (F))))] s.heap := hP
  have hD : va_D A [(h, .inr (1, [.ref (cond fb pf po), .ref (cond fb po pf), .ref tt, .int (nI (nn))])), (pf, .inr (0, [.ref f0, .ref f1, .ref f2, .ref f3])), (f0, .inl (cD, 35, .inr (.inr (.inr (.inl (NF)))))), (f1, .inl (cZ, 35, .inl (GF))), (f2, .inl (cI, 30, .inl (TF))), (f3, .inl (cI, 6, .inl (OF))), (po, .inr (0, [.ref o0, .ref o1, .ref o2, .ref o3])), (o0, .inl (cD, 35, .inr (.inr (.inr (.inl (NO)))))), (o1, .inl (cZ, 35, .inl (GO))), (o2, .inl (cI, 30, .inl (TO))), (o3, .inl (cI, 6, .inl (OO))), (tt, .inr (3, [.ref t0])), (t0, .inl (cL, 42, .inr (.inl (DG)))), (ox, .inl (cL, 1, .inr (.inl (F))))] := hD
  have hl := lv_entry ([.ref h, .int (nI (Bool.toNat (fb))), .int (nI (ea)), .int (nI (eb)), .int (kv), .ref ox]) (n := 7) (Nat.le_of_ble_eq_true rfl)
  rw [lg_entry_eq]
  generalize (lg_sl ([.ref h, .int (nI (Bool.toNat (fb))), .int (nI (ea)), .int (nI (eb)), .int (kv), .ref ox]) ++ List.replicate (7 - (lg_sl ([.ref h, .int (nI (Bool.toNat (fb))), .int (nI (ea)), .int (nI (eb)), .int (kv), .ref ox])).length) Slot.unset).toArray = ls at hl ⊢
  have hl : lv_has ls 7 [(0, .ref h), (1, .int (nI (Bool.toNat (fb)))), (2, .int (nI (ea))), (3, .int (nI (eb))), (4, .int (kv)), (5, .ref ox)] := hl
  refine lv_aload hx hb dL_against_0 (lv_at hl 5 rfl) ?_
  refine lv_iconst (v := nI 0) hx hb dL_against_2 (by decide) ?_
  refine lv_aload_n hx hb dL_against_3 rfl (lv_at hl 0 rfl) ?_
  refine lv_iload_n hx hb dL_against_4 rfl (lv_at hl 1 rfl) ?_
  refine lv_iload_n hx hb dL_against_5 rfl (lv_at hl 2 rfl) ?_
  refine lv_iload_n hx hb dL_against_6 rfl (lv_at hl 3 rfl) ?_
  refine lv_iload hx hb dL_against_7 (lv_at hl 4 rfl) ?_
  refine vx_calli (vx_runV (As := [.int (nI (Bool.toNat (fb))), .int (nI (ea)), .int (nI (eb)), .int (kv)]) (rest := [.int (nI (0)), .ref ox]) ⟨hx, hb, hml, hown, hts⟩ (t_X1_against_t3 l dC dI cD cZ cI cL h pf f0 f1 f2 f3 po o0 o1 o2 o3 tt t0 NF GF TF OF NO GO TO OO DG nn fb hst hnn ea eb kv hea heb hbad) (cwV 4 hts gL_against_X1_against rfl rfl rfl (by decide +kernel) ⟨Nat.le_of_ble_eq_true rfl, Nat.le_of_ble_eq_true rfl⟩) (okJX_pre ⟨hP.sub (ws' := [(h, .inr (1, [.ref (cond fb pf po), .ref (cond fb po pf), .ref tt, .int (nI (nn))])), (pf, .inr (0, [.ref f0, .ref f1, .ref f2, .ref f3])), (f0, .inl (cD, 35, .inr (.inr (.inr (.inl (NF)))))), (f1, .inl (cZ, 35, .inl (GF))), (f2, .inl (cI, 30, .inl (TF))), (f3, .inl (cI, 6, .inl (OF))), (po, .inr (0, [.ref o0, .ref o1, .ref o2, .ref o3])), (o0, .inl (cD, 35, .inr (.inr (.inr (.inl (NO)))))), (o1, .inl (cZ, 35, .inl (GO))), (o2, .inl (cI, 30, .inl (TO))), (o3, .inl (cI, 6, .inl (OO))), (tt, .inr (3, [.ref t0])), (t0, .inl (cL, 42, .inr (.inl (DG))))]) [0, 1, 2, 3, 4, 5, 6, 7, 8, 9, 10, 11, 12] rfl, hK, hE⟩ hZ) rfl rfl hl.1 rfl (lv_room (Nat.le_of_ble_eq_true rfl)) dL_against_9 ⟨Nat.le_of_ble_eq_true rfl, Nat.le_of_ble_eq_true rfl⟩) hS (fun q _ h => h.elim) (fun q h => h.elim) (fun q _ h => h.elim) (fun E ce q9 u t H1 locs ht hvm hw hB hz1 hk1 hS hce hcv hcl => ?_) (fun r u t H1 locs1 ht hvm hw hB hz1 hk1 hS1 => hw.elim)
  have hB9 : E = iaX := hB
  subst hB9
  have hP := hP.kept (fun k q hk => hk1 q.1 ((hP k q hk).lt) (fun z => z))
  generalize H1 = H at hP hS hce ⊢
  refine vx_catch (name := iaX) hown [⟨0, 14, 17, 19⟩] ⟨0, 14, 21, 41⟩ [] htb (fun z hz => by rw [List.mem_singleton.mp hz]; exact Or.inr ⟨by decide, nsX, hts (.classLink RL 19 nsX) (by decide +kernel), hE.nA⟩) (by decide) (by decide) (hts (.classLink RL 41 iaX) (by decide +kernel)) hE.cA hce hcv hcl ?_
  refine W.widen (k := 1) (n := 6) (by omega) (by omega) ?_
  have hP : va_P (dC, dI) vwCl [(h, .inr (1, [.ref (cond fb pf po), .ref (cond fb po pf), .ref tt, .int (nI (nn))])), (pf, .inr (0, [.ref f0, .ref f1, .ref f2, .ref f3])), (f0, .inl (cD, 35, .inr (.inr (.inr (.inl (NF)))))), (f1, .inl (cZ, 35, .inl (GF))), (f2, .inl (cI, 30, .inl (TF))), (f3, .inl (cI, 6, .inl (OF))), (po, .inr (0, [.ref o0, .ref o1, .ref o2, .ref o3])), (o0, .inl (cD, 35, .inr (.inr (.inr (.inl (NO)))))), (o1, .inl (cZ, 35, .inl (GO))), (o2, .inl (cI, 30, .inl (TO))), (o3, .inl (cI, 6, .inl (OO))), (tt, .inr (3, [.ref t0])), (t0, .inl (cL, 42, .inr (.inl (DG)))), (ox, .inl (cL, 1, .inr (.inl (F))))] H := hP
  refine lv_astore (lv' := [(6, .ref q9), (0, .ref h), (1, .int (nI (Bool.toNat (fb)))), (2, .int (nI (ea))), (3, .int (nI (eb))), (4, .int (kv)), (5, .ref ox)]) hx hb dL_against_21 hl (by decide) rfl (fun ls hl => ?_)
  refine lv_iconst (v := nI 2) hx hb dL_against_23 (by decide) ?_
  exact W.iret (v := nI 2) hx hb hr (fun t ht hW => ⟨⟨_, (), rfl, rfl, by rw [ht]; exact hP, va_K.moved hW.alike hK, hD⟩, hS.F ht⟩) hS.2.2 dL_against_24
set_option maxHeartbeats 4000000 in
set_option maxRecDepth 100000 in
theorem c_L_sum_t1 (l : Launch) (dC : Nat → ClassId) (dI : Nat → Nat → Nat) (cD cZ cI cL : ClassId) (h pf f0 f1 f2 f3 po o0 o1 o2 o3 tt t0 : Nat) (NF : Nat → UInt64) (GF TF OF : Nat → Int32) (NO : Nat → UInt64) (GO TO OO : Nat → Int32) (DG : Nat → Int64) (nn : Nat) (fb : Bool) (ox : Nat) (F : Nat → Int64) (sz : Nat) (hst : l.stackTraces = false) (ev : Int32) (hbad : vB ev nn = false) : Met l yL_sum wsL_sum ({ frames := 8, cells := 1, slots := 6, locals := 125 }) (va_Pc [.ref h, .int (nI (Bool.toNat (fb))), .int (ev), .ref ox] (fun U => U.heap.size = sz ∧ okLX dC dI cD cZ cI cL (wL cD cZ cI cL h pf f0 f1 f2 f3 po o0 o1 o2 o3 tt t0 NF GF TF OF NO GO TO OO DG nn fb ox F) U U.heap ∧ va_D (fun _ => True) (wL cD cZ cI cL h pf f0 f1 f2 f3 po o0 o1 o2 o3 tt t0 NF GF TF OF NO GO TO OO DG nn fb ox F))) (va_Qi (fun (r : Int32) (_ : Unit) => r = nI 1) (fun _ t => atL dC dI cD cZ cI cL (va_A (wL cD cZ cI cL h pf f0 f1 f2 f3 po o0 o1 o2 o3 tt t0 NF GF TF OF NO GO TO OO DG nn fb ox F) sz) (wL cD cZ cI cL h pf f0 f1 f2 f3 po o0 o1 o2 o3 tt t0 NF GF TF OF NO GO TO OO DG nn fb ox F) t) (va_A (wL cD cZ cI cL h pf f0 f1 f2 f3 po o0 o1 o2 o3 tt t0 NF GF TF OF NO GO TO OO DG nn fb ox F) sz)) 1 6 (va_A (wL cD cZ cI cL h pf f0 f1 f2 f3 po o0 o1 o2 o3 tt t0 NF GF TF OF NO GO TO OO DG nn fb ox F) sz) := by
  refine va_MetW (cc := cL_sum) (maxL := 5) (ret := (some .int)) (hh := [(0, 9, 12, 19)]) (by decide) rfl ?_
  intro p e s m args below meth c s₁ B hml hv
  obtain ⟨rfl, hsz, hO, hD0⟩ := hv
  obtain ⟨hP, hK, hE, hZ⟩ := id hO
  have hx := B.exec
  have hb := B.bytes
  have hr := B.returns
  have hts := atoms_spec (ws := wsL_sum) B.pre
  have hown : s.vm.findClass RL = some m.cls := findClass_of_methodNamed B.named
  have hlocks := B.notSynchronized
  have htb := vx_table (x := yL_sum) B (hts _ List.mem_cons_self)
  subst hsz
  have hD := hD0.self (sz := s.heap.size)
  generalize hAe : va_A (wL cD cZ cI cL h pf f0 f1 f2 f3 po o0 o1 o2 o3 tt t0 NF GF TF OF NO GO TO OO DG nn fb ox F) s.heap.size = A at hD ⊢
  have hA : ∀ q : Nat, s.heap.size ≤ q → A q := fun q h => by rw [← hAe]; exact Or.inr h
  have hS : va_S A s.heap s.heap [] := va_S.rf
  have hP : va_P (dC, dI) vwCl [(h, .inr (1, [.ref (cond fb pf po), .ref (cond fb po pf), .ref tt, .int (nI (nn))])), (pf, .inr (0, [.ref f0, .ref f1, .ref f2, .ref f3])), (f0, .inl (cD, 35, .inr (.inr (.inr (.inl (NF)))))), (f1, .inl (cZ, 35, .inl (GF))), (f2, .inl (cI, 30, .inl (TF))), (f3, .inl (cI, 6, .inl (OF))), (po, .inr (0, [.ref o0, .ref o1, .ref o2, .ref o3])), (o0, .inl (cD, 35, .inr (.inr (.inr (.inl (NO)))))), (o1, .inl (cZ, 35, .inl (GO))), (o2, .inl (cI, 30, .inl (TO))), (o3, .inl (cI, 6, .inl (OO))), (tt, .inr (3, [.ref t0])), (t0, .inl (cL, 42, .inr (.inl (DG)))), (ox, .inl (cL, 1, .inr (.inl (F))))] s.heap := hP
  have hD : va_D A [(h, .inr (1, [.ref (cond fb pf po), .ref (cond fb po pf), .ref tt, .int (nI (nn))])), (pf, .inr (0, [.ref f0, .ref f1, .ref f2, .ref f3])), (f0, .inl (cD, 35, .inr (.inr (.inr (.inl (NF)))))), (f1, .inl (cZ, 35, .inl (GF))), (f2, .inl (cI, 30, .inl (TF))), (f3, .inl (cI, 6, .inl (OF))), (po, .inr (0, [.ref o0, .ref o1, .ref o2, .ref o3])), (o0, .inl (cD, 35, .inr (.inr (.inr (.inl (NO)))))), (o1, .inl (cZ, 35, .inl (GO))), (o2, .inl (cI, 30, .inl (TO))), (o3, .inl (cI, 6, .inl (OO))), (tt, .inr (3, [.ref t0])), (t0, .inl (cL, 42, .inr (.inl (DG)))), (ox, .inl (cL, 1, .inr (.inl (F))))] := hD
  have hl := lv_entry ([.ref h, .int (nI (Bool.toNat (fb))), .int (ev), .ref ox]) (n := 5) (Nat.le_of_ble_eq_true rfl)
  rw [lg_entry_eq]
  generalize (lg_sl ([.ref h, .int (nI (Bool.toNat (fb))), .int (ev), .ref ox]) ++ List.replicate (5 - (lg_sl ([.ref h, .int (nI (Bool.toNat (fb))), .int (ev), .ref ox])).length) Slot.unset).toArray = ls at hl ⊢
  have hl : lv_has ls 5 [(0, .ref h), (1, .int (nI (Bool.toNat (fb)))), (2, .int (ev)), (3, .ref ox)] := hl
  refine lv_aload_n hx hb dL_sum_0 rfl (lv_at hl 3 rfl) ?_
  refine lv_iconst (v := nI 0) hx hb dL_sum_1 (by decide) ?_
  refine lv_aload_n hx hb dL_sum_2 rfl (lv_at hl 0 rfl) ?_
  refine lv_iload_n hx hb dL_sum_3 rfl (lv_at hl 1 rfl) ?_
  refine lv_iload_n hx hb dL_sum_4 rfl (lv_at hl 2 rfl) ?_
  refine vx_calll (vx_runV (As := [.int (nI (Bool.toNat (fb))), .int (ev)]) (rest := [.int (nI (0)), .ref ox]) ⟨hx, hb, hml, hown, hts⟩ (t_X1_sum_t1 l dC dI cD cZ cI cL h pf f0 f1 f2 f3 po o0 o1 o2 o3 tt t0 NF GF TF OF NO GO TO OO DG nn fb hst ev hbad) (cwV 2 hts gL_sum_X1_sum rfl rfl rfl (by decide +kernel) ⟨Nat.le_of_ble_eq_true rfl, Nat.le_of_ble_eq_true rfl⟩) (okJX_pre ⟨hP.sub (ws' := [(h, .inr (1, [.ref (cond fb pf po), .ref (cond fb po pf), .ref tt, .int (nI (nn))])), (pf, .inr (0, [.ref f0, .ref f1, .ref f2, .ref f3])), (f0, .inl (cD, 35, .inr (.inr (.inr (.inl (NF)))))), (f1, .inl (cZ, 35, .inl (GF))), (f2, .inl (cI, 30, .inl (TF))), (f3, .inl (cI, 6, .inl (OF))), (po, .inr (0, [.ref o0, .ref o1, .ref o2, .ref o3])), (o0, .inl (cD, 35, .inr (.inr (.inr (.inl (NO)))))), (o1, .inl (cZ, 35, .inl (GO))), (o2, .inl (cI, 30, .inl (TO))), (o3, .inl (cI, 6, .inl (OO))), (tt, .inr (3, [.ref t0])), (t0, .inl (cL, 42, .inr (.inl (DG))))]) [0, 1, 2, 3, 4, 5, 6, 7, 8, 9, 10, 11, 12] rfl, hK, hE⟩ hZ) rfl rfl hl.1 rfl (lv_room (Nat.le_of_ble_eq_true rfl)) dL_sum_5 ⟨Nat.le_of_ble_eq_true rfl, Nat.le_of_ble_eq_true rfl⟩) hS (fun q _ h => h.elim) (fun q h => h.elim) (fun q _ h => h.elim) (fun E ce q9 u t H1 locs ht hvm hw hB hz1 hk1 hS hce hcv hcl => ?_) (fun r u t H1 locs1 ht hvm hw hB hz1 hk1 hS1 => hw.elim)
  have hB9 : E = nsX := hB
  subst hB9
  have hP := hP.kept (fun k q hk => hk1 q.1 ((hP k q hk).lt) (fun z => z))
  generalize H1 = H at hP hS hce ⊢
  refine vx_catch (name := nsX) hown [] ⟨0, 9, 12, 19⟩ [] htb (fun z hz => absurd hz List.not_mem_nil) (by decide) (by decide) (hts (.classLink RL 19 nsX) (by decide +kernel)) hE.cN hce hcv hcl ?_
  refine W.widen (k := 1) (n := 6) (by omega) (by omega) ?_
  have hP : va_P (dC, dI) vwCl [(h, .inr (1, [.ref (cond fb pf po), .ref (cond fb po pf), .ref tt, .int (nI (nn))])), (pf, .inr (0, [.ref f0, .ref f1, .ref f2, .ref f3])), (f0, .inl (cD, 35, .inr (.inr (.inr (.inl (NF)))))), (f1, .inl (cZ, 35, .inl (GF))), (f2, .inl (cI, 30, .inl (TF))), (f3, .inl (cI, 6, .inl (OF))), (po, .inr (0, [.ref o0, .ref o1, .ref o2, .ref o3])), (o0, .inl (cD, 35, .inr (.inr (.inr (.inl (NO)))))), (o1, .inl (cZ, 35, .inl (GO))), (o2, .inl (cI, 30, .inl (TO))), (o3, .inl (cI, 6, .inl (OO))), (tt, .inr (3, [.ref t0])), (t0, .inl (cL, 42, .inr (.inl (DG)))), (ox, .inl (cL, 1, .inr (.inl (F))))] H := hP
  refine lv_astore (lv' := [(4, .ref q9), (0, .ref h), (1, .int (nI (Bool.toNat (fb)))), (2, .int (ev)), (3, .ref ox)]) hx hb dL_sum_12 hl (by decide) rfl (fun ls hl => ?_)
  refine lv_iconst (v := nI 1) hx hb dL_sum_14 (by decide) ?_
  exact W.iret (v := nI 1) hx hb hr (fun t ht hW => ⟨⟨_, (), rfl, rfl, by rw [ht]; exact hP, va_K.moved hW.alike hK, hD⟩, hS.F ht⟩) hS.2.2 dL_sum_15
set_option maxHeartbeats 4000000 in
set_option maxRecDepth 100000 in
theorem c_L_count_t1 (l : Launch) (dC : Nat → ClassId) (dI : Nat → Nat → Nat) (cD cZ cI cL : ClassId) (h pf f0 f1 f2 f3 po o0 o1 o2 o3 tt t0 : Nat) (NF : Nat → UInt64) (GF TF OF : Nat → Int32) (NO : Nat → UInt64) (GO TO OO : Nat → Int32) (DG : Nat → Int64) (nn : Nat) (ox : Nat) (F : Nat → Int64) (sz : Nat) (hst : l.stackTraces = false) (wv : Int32) (hbad : vB wv 9 = false) : Met l yL_count wsL_count ({ frames := 8, cells := 1, slots := 6, locals := 124 }) (va_Pc [.ref h, .int (wv), .ref ox] (fun U => U.heap.size = sz ∧ okLX dC dI cD cZ cI cL (wL cD cZ cI cL h pf f0 f1 f2 f3 po o0 o1 o2 o3 tt t0 NF GF TF OF NO GO TO OO DG nn true ox F) U U.heap ∧ va_D (fun _ => True) (wL cD cZ cI cL h pf f0 f1 f2 f3 po o0 o1 o2 o3 tt t0 NF GF TF OF NO GO TO OO DG nn true ox F))) (va_Qi (fun (r : Int32) (_ : Unit) => r = nI 1) (fun _ t => atL dC dI cD cZ cI cL (va_A (wL cD cZ cI cL h pf f0 f1 f2 f3 po o0 o1 o2 o3 tt t0 NF GF TF OF NO GO TO OO DG nn true ox F) sz) (wL cD cZ cI cL h pf f0 f1 f2 f3 po o0 o1 o2 o3 tt t0 NF GF TF OF NO GO TO OO DG nn true ox F) t) (va_A (wL cD cZ cI cL h pf f0 f1 f2 f3 po o0 o1 o2 o3 tt t0 NF GF TF OF NO GO TO OO DG nn true ox F) sz)) 1 6 (va_A (wL cD cZ cI cL h pf f0 f1 f2 f3 po o0 o1 o2 o3 tt t0 NF GF TF OF NO GO TO OO DG nn true ox F) sz) := by
  refine va_MetW (cc := cL_count) (maxL := 4) (ret := (some .int)) (hh := [(0, 9, 12, 41)]) (by decide) rfl ?_
  intro p e s m args below meth c s₁ B hml hv
  obtain ⟨rfl, hsz, hO, hD0⟩ := hv
  obtain ⟨hP, hK, hE, hZ⟩ := id hO
  have hx := B.exec
  have hb := B.bytes
  have hr := B.returns
  have hts := atoms_spec (ws := wsL_count) B.pre
  have hown : s.vm.findClass RL = some m.cls := findClass_of_methodNamed B.named
  have hlocks := B.notSynchronized
  have htb := vx_table (x := yL_count) B (hts _ List.mem_cons_self)
  subst hsz
  have hD := hD0.self (sz := s.heap.size)
  generalize hAe : va_A (wL cD cZ cI cL h pf f0 f1 f2 f3 po o0 o1 o2 o3 tt t0 NF GF TF OF NO GO TO OO DG nn true ox F) s.heap.size = A at hD ⊢
  have hA : ∀ q : Nat, s.heap.size ≤ q → A q := fun q h => by rw [← hAe]; exact Or.inr h
  have hS : va_S A s.heap s.heap [] := va_S.rf
  have hP : va_P (dC, dI) vwCl [(h, .inr (1, [.ref pf, .ref po, .ref tt, .int (nI (nn))])), (pf, .inr (0, [.ref f0, .ref f1, .ref f2, .ref f3])), (f0, .inl (cD, 35, .inr (.inr (.inr (.inl (NF)))))), (f1, .inl (cZ, 35, .inl (GF))), (f2, .inl (cI, 30, .inl (TF))), (f3, .inl (cI, 6, .inl (OF))), (po, .inr (0, [.ref o0, .ref o1, .ref o2, .ref o3])), (o0, .inl (cD, 35, .inr (.inr (.inr (.inl (NO)))))), (o1, .inl (cZ, 35, .inl (GO))), (o2, .inl (cI, 30, .inl (TO))), (o3, .inl (cI, 6, .inl (OO))), (tt, .inr (3, [.ref t0])), (t0, .inl (cL, 42, .inr (.inl (DG)))), (ox, .inl (cL, 1, .inr (.inl (F))))] s.heap := hP
  have hD : va_D A [(h, .inr (1, [.ref pf, .ref po, .ref tt, .int (nI (nn))])), (pf, .inr (0, [.ref f0, .ref f1, .ref f2, .ref f3])), (f0, .inl (cD, 35, .inr (.inr (.inr (.inl (NF)))))), (f1, .inl (cZ, 35, .inl (GF))), (f2, .inl (cI, 30, .inl (TF))), (f3, .inl (cI, 6, .inl (OF))), (po, .inr (0, [.ref o0, .ref o1, .ref o2, .ref o3])), (o0, .inl (cD, 35, .inr (.inr (.inr (.inl (NO)))))), (o1, .inl (cZ, 35, .inl (GO))), (o2, .inl (cI, 30, .inl (TO))), (o3, .inl (cI, 6, .inl (OO))), (tt, .inr (3, [.ref t0])), (t0, .inl (cL, 42, .inr (.inl (DG)))), (ox, .inl (cL, 1, .inr (.inl (F))))] := hD
  have hl := lv_entry ([.ref h, .int (wv), .ref ox]) (n := 4) (Nat.le_of_ble_eq_true rfl)
  rw [lg_entry_eq]
  generalize (lg_sl ([.ref h, .int (wv), .ref ox]) ++ List.replicate (4 - (lg_sl ([.ref h, .int (wv), .ref ox])).length) Slot.unset).toArray = ls at hl ⊢
  have hl : lv_has ls 4 [(0, .ref h), (1, .int (wv)), (2, .ref ox)] := hl
  refine lv_aload_n hx hb dL_count_0 rfl (lv_at hl 2 rfl) ?_
  refine lv_iconst (v := nI 0) hx hb dL_count_1 (by decide) ?_
  refine lv_aload_n hx hb dL_count_2 rfl (lv_at hl 0 rfl) ?_
  refine lv_iload_n hx hb dL_count_3 rfl (lv_at hl 1 rfl) ?_
  refine vx_calli (vx_runV (As := [.int (wv)]) (rest := [.int (nI (0)), .ref ox]) ⟨hx, hb, hml, hown, hts⟩ (t_X1_count_t1 l dC dI cD cZ cI cL h pf f0 f1 f2 f3 po o0 o1 o2 o3 tt t0 NF GF TF OF NO GO TO OO DG nn hst wv hbad) (cwV 1 hts gL_count_X1_count rfl rfl rfl (by decide +kernel) ⟨Nat.le_of_ble_eq_true rfl, Nat.le_of_ble_eq_true rfl⟩) (okJX_pre ⟨hP.sub (ws' := [(h, .inr (1, [.ref pf, .ref po, .ref tt, .int (nI (nn))])), (pf, .inr (0, [.ref f0, .ref f1, .ref f2, .ref f3])), (f0, .inl (cD, 35, .inr (.inr (.inr (.inl (NF)))))), (f1, .inl (cZ, 35, .inl (GF))), (f2, .inl (cI, 30, .inl (TF))), (f3, .inl (cI, 6, .inl (OF))), (po, .inr (0, [.ref o0, .ref o1, .ref o2, .ref o3])), (o0, .inl (cD, 35, .inr (.inr (.inr (.inl (NO)))))), (o1, .inl (cZ, 35, .inl (GO))), (o2, .inl (cI, 30, .inl (TO))), (o3, .inl (cI, 6, .inl (OO))), (tt, .inr (3, [.ref t0])), (t0, .inl (cL, 42, .inr (.inl (DG))))]) [0, 1, 2, 3, 4, 5, 6, 7, 8, 9, 10, 11, 12] rfl, hK, hE⟩ hZ) rfl rfl hl.1 rfl (lv_room (Nat.le_of_ble_eq_true rfl)) dL_count_4 ⟨Nat.le_of_ble_eq_true rfl, Nat.le_of_ble_eq_true rfl⟩) hS (fun q _ h => h.elim) (fun q h => h.elim) (fun q _ h => h.elim) (fun E ce q9 u t H1 locs ht hvm hw hB hz1 hk1 hS hce hcv hcl => ?_) (fun r u t H1 locs1 ht hvm hw hB hz1 hk1 hS1 => hw.elim)
  have hB9 : E = iaX := hB
  subst hB9
  have hP := hP.kept (fun k q hk => hk1 q.1 ((hP k q hk).lt) (fun z => z))
  generalize H1 = H at hP hS hce ⊢
  refine vx_catch (name := iaX) hown [] ⟨0, 9, 12, 41⟩ [] htb (fun z hz => absurd hz List.not_mem_nil) (by decide) (by decide) (hts (.classLink RL 41 iaX) (by decide +kernel)) hE.cA hce hcv hcl ?_
  refine W.widen (k := 1) (n := 6) (by omega) (by omega) ?_
  have hP : va_P (dC, dI) vwCl [(h, .inr (1, [.ref pf, .ref po, .ref tt, .int (nI (nn))])), (pf, .inr (0, [.ref f0, .ref f1, .ref f2, .ref f3])), (f0, .inl (cD, 35, .inr (.inr (.inr (.inl (NF)))))), (f1, .inl (cZ, 35, .inl (GF))), (f2, .inl (cI, 30, .inl (TF))), (f3, .inl (cI, 6, .inl (OF))), (po, .inr (0, [.ref o0, .ref o1, .ref o2, .ref o3])), (o0, .inl (cD, 35, .inr (.inr (.inr (.inl (NO)))))), (o1, .inl (cZ, 35, .inl (GO))), (o2, .inl (cI, 30, .inl (TO))), (o3, .inl (cI, 6, .inl (OO))), (tt, .inr (3, [.ref t0])), (t0, .inl (cL, 42, .inr (.inl (DG)))), (ox, .inl (cL, 1, .inr (.inl (F))))] H := hP
  refine lv_astore_n (lv' := [(3, .ref q9), (0, .ref h), (1, .int (wv)), (2, .ref ox)]) hx hb dL_count_12 rfl hl (by decide) rfl (fun ls hl => ?_)
  refine lv_iconst (v := nI 1) hx hb dL_count_13 (by decide) ?_
  exact W.iret (v := nI 1) hx hb hr (fun t ht hW => ⟨⟨_, (), rfl, rfl, by rw [ht]; exact hP, va_K.moved hW.alike hK, hD⟩, hS.F ht⟩) hS.2.2 dL_count_14
