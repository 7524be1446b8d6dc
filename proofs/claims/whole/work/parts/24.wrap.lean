set_option maxHeartbeats 4000000 in
set_option maxRecDepth 100000 in
theorem c_L_entry_ok (l : Launch) (dC : Nat → ClassId) (dI : Nat → Nat → Nat) (cD cZ cI cL : ClassId) (h pf f0 f1 f2 f3 po o0 o1 o2 o3 : Nat) (NF : Nat → UInt64) (GF TF OF : Nat → Int32) (NO : Nat → UInt64) (GO TO OO : Nat → Int32) (nn : Nat) (ox : Nat) (F : Nat → Int64) (sz : Nat) (hn6 : nn < 6) : Met l yL_entry wsL_entry ({ frames := 1, cells := 0, slots := 0, locals := 21 }) (va_Pc [.ref h, .ref ox] (fun U => U.heap.size = sz ∧ okL dC dI cD cZ cI cL (wL cD cZ cI cL h pf f0 f1 f2 f3 po o0 o1 o2 o3 NF GF TF OF NO GO TO OO nn true ox F) U U.heap ∧ va_D (fun _ => True) (wL cD cZ cI cL h pf f0 f1 f2 f3 po o0 o1 o2 o3 NF GF TF OF NO GO TO OO nn true ox F))) (va_Qi (fun (r : Int32) (u : (Nat → Int64)) => r = nI 0 ∧ u 0 = (nI nn).toInt64) (fun u t => atL dC dI cD cZ cI cL (va_A (wL cD cZ cI cL h pf f0 f1 f2 f3 po o0 o1 o2 o3 NF GF TF OF NO GO TO OO nn true ox F) sz) (wL cD cZ cI cL h pf f0 f1 f2 f3 po o0 o1 o2 o3 NF GF TF OF NO GO TO OO (nn + 1) true ox u) t) (va_A (wL cD cZ cI cL h pf f0 f1 f2 f3 po o0 o1 o2 o3 NF GF TF OF NO GO TO OO nn true ox F) sz)) 0 0 (va_A (wL cD cZ cI cL h pf f0 f1 f2 f3 po o0 o1 o2 o3 NF GF TF OF NO GO TO OO nn true ox F) sz) := by
  refine va_MetW (cc := cL_entry) (maxL := 3) (ret := (some .int)) (hh := [(0, 8, 11, 13)]) (by decide) rfl ?_
  intro p e s m args below meth c s₁ B hml hv
  obtain ⟨rfl, hsz, hO, hD0⟩ := hv
  obtain ⟨hP, hK, hE⟩ := id hO
  have hx := B.exec
  have hb := B.bytes
  have hr := B.returns
  have hts := atoms_spec (ws := wsL_entry) B.pre
  have hown : s.vm.findClass RL = some m.cls := findClass_of_methodNamed B.named
  have hlocks := B.notSynchronized
  subst hsz
  have hD := hD0.self (sz := s.heap.size)
  generalize hAe : va_A (wL cD cZ cI cL h pf f0 f1 f2 f3 po o0 o1 o2 o3 NF GF TF OF NO GO TO OO nn true ox F) s.heap.size = A at hD ⊢
  have hA : ∀ q : Nat, s.heap.size ≤ q → A q := fun q h => by rw [← hAe]; exact Or.inr h
  have hS : va_S A s.heap s.heap [] := va_S.rf
  have hP : va_P (dC, dI) vwCl [(h, .inr (1, [.ref pf, .ref po, .int (nI (nn))])), (pf, .inr (0, [.ref f0, .ref f1, .ref f2, .ref f3])), (f0, .inl (cD, 35, .inr (.inr (.inr (.inl (NF)))))), (f1, .inl (cZ, 35, .inl (GF))), (f2, .inl (cI, 30, .inl (TF))), (f3, .inl (cI, 6, .inl (OF))), (po, .inr (0, [.ref o0, .ref o1, .ref o2, .ref o3])), (o0, .inl (cD, 35, .inr (.inr (.inr (.inl (NO)))))), (o1, .inl (cZ, 35, .inl (GO))), (o2, .inl (cI, 30, .inl (TO))), (o3, .inl (cI, 6, .inl (OO))), (ox, .inl (cL, 1, .inr (.inl (F))))] s.heap := hP
  have hD : va_D A [(h, .inr (1, [.ref pf, .ref po, .int (nI (nn))])), (pf, .inr (0, [.ref f0, .ref f1, .ref f2, .ref f3])), (f0, .inl (cD, 35, .inr (.inr (.inr (.inl (NF)))))), (f1, .inl (cZ, 35, .inl (GF))), (f2, .inl (cI, 30, .inl (TF))), (f3, .inl (cI, 6, .inl (OF))), (po, .inr (0, [.ref o0, .ref o1, .ref o2, .ref o3])), (o0, .inl (cD, 35, .inr (.inr (.inr (.inl (NO)))))), (o1, .inl (cZ, 35, .inl (GO))), (o2, .inl (cI, 30, .inl (TO))), (o3, .inl (cI, 6, .inl (OO))), (ox, .inl (cL, 1, .inr (.inl (F))))] := hD
  have hl := lv_entry ([.ref h, .ref ox]) (n := 3) (Nat.le_of_ble_eq_true rfl)
  rw [lg_entry_eq]
  generalize (lg_sl ([.ref h, .ref ox]) ++ List.replicate (3 - (lg_sl ([.ref h, .ref ox])).length) Slot.unset).toArray = ls at hl ⊢
  have hl : lv_has ls 3 [(0, .ref h), (1, .ref ox)] := hl
  refine lv_aload_n hx hb dL_entry_0 rfl (lv_at hl 1 rfl) ?_
  refine lv_iconst (v := nI 0) hx hb dL_entry_1 (by decide) ?_
  refine lv_aload_n hx hb dL_entry_2 rfl (lv_at hl 0 rfl) ?_
  have hPc := hP.sub (ws' := [(h, .inr (1, [.ref pf, .ref po, .int (nI (nn))])), (pf, .inr (0, [.ref f0, .ref f1, .ref f2, .ref f3])), (f0, .inl (cD, 35, .inr (.inr (.inr (.inl (NF)))))), (f1, .inl (cZ, 35, .inl (GF))), (f2, .inl (cI, 30, .inl (TF))), (f3, .inl (cI, 6, .inl (OF))), (po, .inr (0, [.ref o0, .ref o1, .ref o2, .ref o3])), (o0, .inl (cD, 35, .inr (.inr (.inr (.inl (NO)))))), (o1, .inl (cZ, 35, .inl (GO))), (o2, .inl (cI, 30, .inl (TO))), (o3, .inl (cI, 6, .inl (OO)))]) [0, 1, 2, 3, 4, 5, 6, 7, 8, 9, 10] rfl
  have hDc := hD.sub (ws' := [(h, .inr (1, [.ref pf, .ref po, .int (nI (nn))])), (pf, .inr (0, [.ref f0, .ref f1, .ref f2, .ref f3])), (f0, .inl (cD, 35, .inr (.inr (.inr (.inl (NF)))))), (f1, .inl (cZ, 35, .inl (GF))), (f2, .inl (cI, 30, .inl (TF))), (f3, .inl (cI, 6, .inl (OF))), (po, .inr (0, [.ref o0, .ref o1, .ref o2, .ref o3])), (o0, .inl (cD, 35, .inr (.inr (.inr (.inl (NO)))))), (o1, .inl (cZ, 35, .inl (GO))), (o2, .inl (cI, 30, .inl (TO))), (o3, .inl (cI, 6, .inl (OO)))]) [0, 1, 2, 3, 4, 5, 6, 7, 8, 9, 10] (by decide) rfl
  have hFc := va_free (wc := [(h, .inr (1, [.ref pf, .ref po, .int (nI (nn))])), (pf, .inr (0, [.ref f0, .ref f1, .ref f2, .ref f3])), (f0, .inl (cD, 35, .inr (.inr (.inr (.inl (NF)))))), (f1, .inl (cZ, 35, .inl (GF))), (f2, .inl (cI, 30, .inl (TF))), (f3, .inl (cI, 6, .inl (OF))), (po, .inr (0, [.ref o0, .ref o1, .ref o2, .ref o3])), (o0, .inl (cD, 35, .inr (.inr (.inr (.inl (NO)))))), (o1, .inl (cZ, 35, .inl (GO))), (o2, .inl (cI, 30, .inl (TO))), (o3, .inl (cI, 6, .inl (OO)))]) hD hS hA [0, 1, 2, 3, 4, 5, 6, 7, 8, 9, 10] rfl
  refine va_calli (va_runV (As := []) (rest := [.int (nI (0)), .ref ox]) ⟨hx, hb, hml, hown, hts⟩ (c_X1_entry_ok l dC dI cD cZ cI h pf f0 f1 f2 f3 po o0 o1 o2 o3 NF GF TF OF NO GO TO OO nn s.heap.size hn6) (cwV 0 hts gL_entry_X1_entry rfl rfl rfl (by decide +kernel) ⟨Nat.le_of_ble_eq_true rfl, Nat.le_of_ble_eq_true rfl⟩) (okJW_pre ⟨hPc, hK.sub [0, 1, 2] rfl, hE⟩ hDc) rfl rfl hl.1 rfl (lv_room (Nat.le_of_ble_eq_true rfl)) dL_entry_3 ⟨Nat.zero_le _, Nat.zero_le _⟩) hS (fun q _ h => hFc q h) hFc (fun r1 u1 t H1 locs ht hvm hw hB hz1 hk1 hS => ?_)
  obtain ⟨hP1, hK1, hD1⟩ := hB
  rw [ht] at hP1
  obtain ⟨hP, hD⟩ := va_join (wr := [(ox, .inl (cL, 1, .inr (.inl (F))))]) (w1 := [(h, .inr (1, [.ref pf, .ref po, .int (nI (nn + 1))])), (pf, .inr (0, [.ref f0, .ref f1, .ref f2, .ref f3])), (f0, .inl (cD, 35, .inr (.inr (.inr (.inl (NF)))))), (f1, .inl (cZ, 35, .inl (GF))), (f2, .inl (cI, 30, .inl (TF))), (f3, .inl (cI, 6, .inl (OF))), (po, .inr (0, [.ref o0, .ref o1, .ref o2, .ref o3])), (o0, .inl (cD, 35, .inr (.inr (.inr (.inl (NO)))))), (o1, .inl (cZ, 35, .inl (GO))), (o2, .inl (cI, 30, .inl (TO))), (o3, .inl (cI, 6, .inl (OO)))]) hP hD [0, 1, 2, 3, 4, 5, 6, 7, 8, 9, 10] [11] rfl rfl (by decide) (by decide) hk1 hFc hP1 hD1
  have hP := hP.sub (ws' := [(h, .inr (1, [.ref pf, .ref po, .int (nI (nn + 1))])), (pf, .inr (0, [.ref f0, .ref f1, .ref f2, .ref f3])), (f0, .inl (cD, 35, .inr (.inr (.inr (.inl (NF)))))), (f1, .inl (cZ, 35, .inl (GF))), (f2, .inl (cI, 30, .inl (TF))), (f3, .inl (cI, 6, .inl (OF))), (po, .inr (0, [.ref o0, .ref o1, .ref o2, .ref o3])), (o0, .inl (cD, 35, .inr (.inr (.inr (.inl (NO)))))), (o1, .inl (cZ, 35, .inl (GO))), (o2, .inl (cI, 30, .inl (TO))), (o3, .inl (cI, 6, .inl (OO))), (ox, .inl (cL, 1, .inr (.inl (F))))]) [1, 2, 3, 4, 5, 6, 7, 8, 9, 10, 11, 0] rfl
  have hD := hD.sub (ws' := [(h, .inr (1, [.ref pf, .ref po, .int (nI (nn + 1))])), (pf, .inr (0, [.ref f0, .ref f1, .ref f2, .ref f3])), (f0, .inl (cD, 35, .inr (.inr (.inr (.inl (NF)))))), (f1, .inl (cZ, 35, .inl (GF))), (f2, .inl (cI, 30, .inl (TF))), (f3, .inl (cI, 6, .inl (OF))), (po, .inr (0, [.ref o0, .ref o1, .ref o2, .ref o3])), (o0, .inl (cD, 35, .inr (.inr (.inr (.inl (NO)))))), (o1, .inl (cZ, 35, .inl (GO))), (o2, .inl (cI, 30, .inl (TO))), (o3, .inl (cI, 6, .inl (OO))), (ox, .inl (cL, 1, .inr (.inl (F))))]) [1, 2, 3, 4, 5, 6, 7, 8, 9, 10, 11, 0] (by decide) rfl
  generalize H1 = H at hP hS ⊢
  have hP : va_P (dC, dI) vwCl [(h, .inr (1, [.ref pf, .ref po, .int (nI (nn + 1))])), (pf, .inr (0, [.ref f0, .ref f1, .ref f2, .ref f3])), (f0, .inl (cD, 35, .inr (.inr (.inr (.inl (NF)))))), (f1, .inl (cZ, 35, .inl (GF))), (f2, .inl (cI, 30, .inl (TF))), (f3, .inl (cI, 6, .inl (OF))), (po, .inr (0, [.ref o0, .ref o1, .ref o2, .ref o3])), (o0, .inl (cD, 35, .inr (.inr (.inr (.inl (NO)))))), (o1, .inl (cZ, 35, .inl (GO))), (o2, .inl (cI, 30, .inl (TO))), (o3, .inl (cI, 6, .inl (OO))), (ox, .inl (cL, 1, .inr (.inl (F))))] H := hP
  have hD : va_D A [(h, .inr (1, [.ref pf, .ref po, .int (nI (nn + 1))])), (pf, .inr (0, [.ref f0, .ref f1, .ref f2, .ref f3])), (f0, .inl (cD, 35, .inr (.inr (.inr (.inl (NF)))))), (f1, .inl (cZ, 35, .inl (GF))), (f2, .inl (cI, 30, .inl (TF))), (f3, .inl (cI, 6, .inl (OF))), (po, .inr (0, [.ref o0, .ref o1, .ref o2, .ref o3])), (o0, .inl (cD, 35, .inr (.inr (.inr (.inl (NO)))))), (o1, .inl (cZ, 35, .inl (GO))), (o2, .inl (cI, 30, .inl (TO))), (o3, .inl (cI, 6, .inl (OO))), (ox, .inl (cL, 1, .inr (.inl (F))))] := hD
  subst hw
  refine lv_i2l (v := (nI nn).toInt64) hx hb dL_entry_6 rfl ?_
  refine xn_last hx hb hK hP hD hS 11 3 rfl rfl (n := 1) (j := 0) (by decide) (by decide) dL_entry_7 (fun H locs hP hD hS => ?_)
  have hP : va_P (dC, dI) vwCl [(h, .inr (1, [.ref pf, .ref po, .int (nI (nn + 1))])), (pf, .inr (0, [.ref f0, .ref f1, .ref f2, .ref f3])), (f0, .inl (cD, 35, .inr (.inr (.inr (.inl (NF)))))), (f1, .inl (cZ, 35, .inl (GF))), (f2, .inl (cI, 30, .inl (TF))), (f3, .inl (cI, 6, .inl (OF))), (po, .inr (0, [.ref o0, .ref o1, .ref o2, .ref o3])), (o0, .inl (cD, 35, .inr (.inr (.inr (.inl (NO)))))), (o1, .inl (cZ, 35, .inl (GO))), (o2, .inl (cI, 30, .inl (TO))), (o3, .inl (cI, 6, .inl (OO))), (ox, .inl (cL, 1, .inr (.inl (vp_updL F 0 ((nI nn).toInt64)))))] H := hP
  have hD : va_D A [(h, .inr (1, [.ref pf, .ref po, .int (nI (nn + 1))])), (pf, .inr (0, [.ref f0, .ref f1, .ref f2, .ref f3])), (f0, .inl (cD, 35, .inr (.inr (.inr (.inl (NF)))))), (f1, .inl (cZ, 35, .inl (GF))), (f2, .inl (cI, 30, .inl (TF))), (f3, .inl (cI, 6, .inl (OF))), (po, .inr (0, [.ref o0, .ref o1, .ref o2, .ref o3])), (o0, .inl (cD, 35, .inr (.inr (.inr (.inl (NO)))))), (o1, .inl (cZ, 35, .inl (GO))), (o2, .inl (cI, 30, .inl (TO))), (o3, .inl (cI, 6, .inl (OO))), (ox, .inl (cL, 1, .inr (.inl (vp_updL F 0 ((nI nn).toInt64)))))] := hD
  refine lv_goto (tgt := 14) hx hb dL_entry_8 (by decide) ?_
  refine lv_iconst (v := nI 0) hx hb dL_entry_14 (by decide) ?_
  exact W.iret (v := nI 0) hx hb hr (fun t ht hW => ⟨⟨_, vp_updL F 0 ((nI nn).toInt64), rfl, ⟨rfl, (show vp_updL F 0 _ 0 = _ from pk_uLs)⟩, by rw [ht]; exact hP, va_K.moved hW.alike hK, hD⟩, hS.F ht⟩) hS.2.2 dL_entry_15
set_option maxHeartbeats 4000000 in
set_option maxRecDepth 100000 in
theorem c_L_mark_ok (l : Launch) (dC : Nat → ClassId) (dI : Nat → Nat → Nat) (cD cZ cI cL : ClassId) (h pf f0 f1 f2 f3 po o0 o1 o2 o3 : Nat) (NF : Nat → UInt64) (GF TF OF : Nat → Int32) (NO : Nat → UInt64) (GO TO OO : Nat → Int32) (nn : Nat) (ox : Nat) (F : Nat → Int64) (sz : Nat) (hnn : nn ≤ 6) (en bn : Nat) (hen : en < nn) (hbn : bn < 5) (v : UInt64) (hvd : FP.dcmp v v = some .eq) : Met l yL_mark wsL_mark ({ frames := 2, cells := 0, slots := 0, locals := 47 }) (va_Pc [.ref h, .int (nI (en)), .int (nI (bn)), .double (v)] (fun U => U.heap.size = sz ∧ okL dC dI cD cZ cI cL (wL cD cZ cI cL h pf f0 f1 f2 f3 po o0 o1 o2 o3 NF GF TF OF NO GO TO OO nn true ox F) U U.heap ∧ va_D (fun _ => True) (wL cD cZ cI cL h pf f0 f1 f2 f3 po o0 o1 o2 o3 NF GF TF OF NO GO TO OO nn true ox F))) (va_Qi (fun (r : Int32) (_ : Unit) => r = nI 0) (fun _ t => atL dC dI cD cZ cI cL (va_A (wL cD cZ cI cL h pf f0 f1 f2 f3 po o0 o1 o2 o3 NF GF TF OF NO GO TO OO nn true ox F) sz) (wL cD cZ cI cL h pf f0 f1 f2 f3 po o0 o1 o2 o3 (vf_upd NF (en * 5 + bn) v) (upd GF (en * 5 + bn) (nI (Bool.toNat true))) TF OF NO GO TO OO nn true ox F) t) (va_A (wL cD cZ cI cL h pf f0 f1 f2 f3 po o0 o1 o2 o3 NF GF TF OF NO GO TO OO nn true ox F) sz)) 0 0 (va_A (wL cD cZ cI cL h pf f0 f1 f2 f3 po o0 o1 o2 o3 NF GF TF OF NO GO TO OO nn true ox F) sz) := by
  refine va_MetW (cc := cL_mark) (maxL := 6) (ret := (some .int)) (hh := [(0, 7, 10, 19)]) (by decide) rfl ?_
  intro p e s m args below meth c s₁ B hml hv
  obtain ⟨rfl, hsz, hO, hD0⟩ := hv
  obtain ⟨hP, hK, hE⟩ := id hO
  have hx := B.exec
  have hb := B.bytes
  have hr := B.returns
  have hts := atoms_spec (ws := wsL_mark) B.pre
  have hown : s.vm.findClass RL = some m.cls := findClass_of_methodNamed B.named
  have hlocks := B.notSynchronized
  subst hsz
  have hD := hD0.self (sz := s.heap.size)
  generalize hAe : va_A (wL cD cZ cI cL h pf f0 f1 f2 f3 po o0 o1 o2 o3 NF GF TF OF NO GO TO OO nn true ox F) s.heap.size = A at hD ⊢
  have hA : ∀ q : Nat, s.heap.size ≤ q → A q := fun q h => by rw [← hAe]; exact Or.inr h
  have hS : va_S A s.heap s.heap [] := va_S.rf
  have hP : va_P (dC, dI) vwCl [(h, .inr (1, [.ref pf, .ref po, .int (nI (nn))])), (pf, .inr (0, [.ref f0, .ref f1, .ref f2, .ref f3])), (f0, .inl (cD, 35, .inr (.inr (.inr (.inl (NF)))))), (f1, .inl (cZ, 35, .inl (GF))), (f2, .inl (cI, 30, .inl (TF))), (f3, .inl (cI, 6, .inl (OF))), (po, .inr (0, [.ref o0, .ref o1, .ref o2, .ref o3])), (o0, .inl (cD, 35, .inr (.inr (.inr (.inl (NO)))))), (o1, .inl (cZ, 35, .inl (GO))), (o2, .inl (cI, 30, .inl (TO))), (o3, .inl (cI, 6, .inl (OO))), (ox, .inl (cL, 1, .inr (.inl (F))))] s.heap := hP
  have hD : va_D A [(h, .inr (1, [.ref pf, .ref po, .int (nI (nn))])), (pf, .inr (0, [.ref f0, .ref f1, .ref f2, .ref f3])), (f0, .inl (cD, 35, .inr (.inr (.inr (.inl (NF)))))), (f1, .inl (cZ, 35, .inl (GF))), (f2, .inl (cI, 30, .inl (TF))), (f3, .inl (cI, 6, .inl (OF))), (po, .inr (0, [.ref o0, .ref o1, .ref o2, .ref o3])), (o0, .inl (cD, 35, .inr (.inr (.inr (.inl (NO)))))), (o1, .inl (cZ, 35, .inl (GO))), (o2, .inl (cI, 30, .inl (TO))), (o3, .inl (cI, 6, .inl (OO))), (ox, .inl (cL, 1, .inr (.inl (F))))] := hD
  have hl := lv_entry ([.ref h, .int (nI (en)), .int (nI (bn)), .double (v)]) (n := 6) (Nat.le_of_ble_eq_true rfl)
  rw [lg_entry_eq]
  generalize (lg_sl ([.ref h, .int (nI (en)), .int (nI (bn)), .double (v)]) ++ List.replicate (6 - (lg_sl ([.ref h, .int (nI (en)), .int (nI (bn)), .double (v)])).length) Slot.unset).toArray = ls at hl ⊢
  have hl : lv_has ls 6 [(0, .ref h), (1, .int (nI (en))), (2, .int (nI (bn))), (3, .double (v))] := hl
  refine lv_aload_n hx hb dL_mark_0 rfl (lv_at hl 0 rfl) ?_
  refine lv_iload_n hx hb dL_mark_1 rfl (lv_at hl 1 rfl) ?_
  refine lv_iload_n hx hb dL_mark_2 rfl (lv_at hl 2 rfl) ?_
  refine lv_dload_n hx hb dL_mark_3 rfl (lv_at hl 3 rfl) ?_
  have hPc := hP.sub (ws' := [(h, .inr (1, [.ref pf, .ref po, .int (nI (nn))])), (pf, .inr (0, [.ref f0, .ref f1, .ref f2, .ref f3])), (f0, .inl (cD, 35, .inr (.inr (.inr (.inl (NF)))))), (f1, .inl (cZ, 35, .inl (GF))), (f2, .inl (cI, 30, .inl (TF))), (f3, .inl (cI, 6, .inl (OF))), (po, .inr (0, [.ref o0, .ref o1, .ref o2, .ref o3])), (o0, .inl (cD, 35, .inr (.inr (.inr (.inl (NO)))))), (o1, .inl (cZ, 35, .inl (GO))), (o2, .inl (cI, 30, .inl (TO))), (o3, .inl (cI, 6, .inl (OO)))]) [0, 1, 2, 3, 4, 5, 6, 7, 8, 9, 10] rfl
  have hDc := hD.sub (ws' := [(h, .inr (1, [.ref pf, .ref po, .int (nI (nn))])), (pf, .inr (0, [.ref f0, .ref f1, .ref f2, .ref f3])), (f0, .inl (cD, 35, .inr (.inr (.inr (.inl (NF)))))), (f1, .inl (cZ, 35, .inl (GF))), (f2, .inl (cI, 30, .inl (TF))), (f3, .inl (cI, 6, .inl (OF))), (po, .inr (0, [.ref o0, .ref o1, .ref o2, .ref o3])), (o0, .inl (cD, 35, .inr (.inr (.inr (.inl (NO)))))), (o1, .inl (cZ, 35, .inl (GO))), (o2, .inl (cI, 30, .inl (TO))), (o3, .inl (cI, 6, .inl (OO)))]) [0, 1, 2, 3, 4, 5, 6, 7, 8, 9, 10] (by decide) rfl
  have hFc := va_free (wc := [(h, .inr (1, [.ref pf, .ref po, .int (nI (nn))])), (pf, .inr (0, [.ref f0, .ref f1, .ref f2, .ref f3])), (f0, .inl (cD, 35, .inr (.inr (.inr (.inl (NF)))))), (f1, .inl (cZ, 35, .inl (GF))), (f2, .inl (cI, 30, .inl (TF))), (f3, .inl (cI, 6, .inl (OF))), (po, .inr (0, [.ref o0, .ref o1, .ref o2, .ref o3])), (o0, .inl (cD, 35, .inr (.inr (.inr (.inl (NO)))))), (o1, .inl (cZ, 35, .inl (GO))), (o2, .inl (cI, 30, .inl (TO))), (o3, .inl (cI, 6, .inl (OO)))]) hD hS hA [0, 1, 2, 3, 4, 5, 6, 7, 8, 9, 10] rfl
  refine va_callv (va_runV (As := [.int (nI (en)), .int (nI (bn)), .double (v)]) (rest := []) ⟨hx, hb, hml, hown, hts⟩ (c_X1_mark_ok l dC dI cD cZ cI h pf f0 f1 f2 f3 po o0 o1 o2 o3 NF GF TF OF NO GO TO OO nn s.heap.size hnn en bn hen hbn v hvd) (cwV 3 hts gL_mark_X1_mark rfl rfl rfl (by decide +kernel) ⟨Nat.le_of_ble_eq_true rfl, Nat.le_of_ble_eq_true rfl⟩) (okJW_pre ⟨hPc, hK.sub [0, 1, 2] rfl, hE⟩ hDc) rfl rfl hl.1 rfl (lv_room (Nat.le_of_ble_eq_true rfl)) dL_mark_4 ⟨Nat.zero_le _, Nat.zero_le _⟩) hS (fun q _ h => hFc q h) hFc (fun u1 t H1 locs ht hvm hw hB hz1 hk1 hS => ?_)
  obtain ⟨hP1, hK1, hD1⟩ := hB
  rw [ht] at hP1
  obtain ⟨hP, hD⟩ := va_join (wr := [(ox, .inl (cL, 1, .inr (.inl (F))))]) (w1 := [(h, .inr (1, [.ref pf, .ref po, .int (nI (nn))])), (pf, .inr (0, [.ref f0, .ref f1, .ref f2, .ref f3])), (f0, .inl (cD, 35, .inr (.inr (.inr (.inl (vf_upd NF (en * 5 + bn) v)))))), (f1, .inl (cZ, 35, .inl (upd GF (en * 5 + bn) (nI (Bool.toNat true))))), (f2, .inl (cI, 30, .inl (TF))), (f3, .inl (cI, 6, .inl (OF))), (po, .inr (0, [.ref o0, .ref o1, .ref o2, .ref o3])), (o0, .inl (cD, 35, .inr (.inr (.inr (.inl (NO)))))), (o1, .inl (cZ, 35, .inl (GO))), (o2, .inl (cI, 30, .inl (TO))), (o3, .inl (cI, 6, .inl (OO)))]) hP hD [0, 1, 2, 3, 4, 5, 6, 7, 8, 9, 10] [11] rfl rfl (by decide) (by decide) hk1 hFc hP1 hD1
  have hP := hP.sub (ws' := [(h, .inr (1, [.ref pf, .ref po, .int (nI (nn))])), (pf, .inr (0, [.ref f0, .ref f1, .ref f2, .ref f3])), (f0, .inl (cD, 35, .inr (.inr (.inr (.inl (vf_upd NF (en * 5 + bn) v)))))), (f1, .inl (cZ, 35, .inl (upd GF (en * 5 + bn) (nI (Bool.toNat true))))), (f2, .inl (cI, 30, .inl (TF))), (f3, .inl (cI, 6, .inl (OF))), (po, .inr (0, [.ref o0, .ref o1, .ref o2, .ref o3])), (o0, .inl (cD, 35, .inr (.inr (.inr (.inl (NO)))))), (o1, .inl (cZ, 35, .inl (GO))), (o2, .inl (cI, 30, .inl (TO))), (o3, .inl (cI, 6, .inl (OO))), (ox, .inl (cL, 1, .inr (.inl (F))))]) [1, 2, 3, 4, 5, 6, 7, 8, 9, 10, 11, 0] rfl
  have hD := hD.sub (ws' := [(h, .inr (1, [.ref pf, .ref po, .int (nI (nn))])), (pf, .inr (0, [.ref f0, .ref f1, .ref f2, .ref f3])), (f0, .inl (cD, 35, .inr (.inr (.inr (.inl (vf_upd NF (en * 5 + bn) v)))))), (f1, .inl (cZ, 35, .inl (upd GF (en * 5 + bn) (nI (Bool.toNat true))))), (f2, .inl (cI, 30, .inl (TF))), (f3, .inl (cI, 6, .inl (OF))), (po, .inr (0, [.ref o0, .ref o1, .ref o2, .ref o3])), (o0, .inl (cD, 35, .inr (.inr (.inr (.inl (NO)))))), (o1, .inl (cZ, 35, .inl (GO))), (o2, .inl (cI, 30, .inl (TO))), (o3, .inl (cI, 6, .inl (OO))), (ox, .inl (cL, 1, .inr (.inl (F))))]) [1, 2, 3, 4, 5, 6, 7, 8, 9, 10, 11, 0] (by decide) rfl
  generalize H1 = H at hP hS ⊢
  have hP : va_P (dC, dI) vwCl [(h, .inr (1, [.ref pf, .ref po, .int (nI (nn))])), (pf, .inr (0, [.ref f0, .ref f1, .ref f2, .ref f3])), (f0, .inl (cD, 35, .inr (.inr (.inr (.inl (vf_upd NF (en * 5 + bn) v)))))), (f1, .inl (cZ, 35, .inl (upd GF (en * 5 + bn) (nI (Bool.toNat true))))), (f2, .inl (cI, 30, .inl (TF))), (f3, .inl (cI, 6, .inl (OF))), (po, .inr (0, [.ref o0, .ref o1, .ref o2, .ref o3])), (o0, .inl (cD, 35, .inr (.inr (.inr (.inl (NO)))))), (o1, .inl (cZ, 35, .inl (GO))), (o2, .inl (cI, 30, .inl (TO))), (o3, .inl (cI, 6, .inl (OO))), (ox, .inl (cL, 1, .inr (.inl (F))))] H := hP
  have hD : va_D A [(h, .inr (1, [.ref pf, .ref po, .int (nI (nn))])), (pf, .inr (0, [.ref f0, .ref f1, .ref f2, .ref f3])), (f0, .inl (cD, 35, .inr (.inr (.inr (.inl (vf_upd NF (en * 5 + bn) v)))))), (f1, .inl (cZ, 35, .inl (upd GF (en * 5 + bn) (nI (Bool.toNat true))))), (f2, .inl (cI, 30, .inl (TF))), (f3, .inl (cI, 6, .inl (OF))), (po, .inr (0, [.ref o0, .ref o1, .ref o2, .ref o3])), (o0, .inl (cD, 35, .inr (.inr (.inr (.inl (NO)))))), (o1, .inl (cZ, 35, .inl (GO))), (o2, .inl (cI, 30, .inl (TO))), (o3, .inl (cI, 6, .inl (OO))), (ox, .inl (cL, 1, .inr (.inl (F))))] := hD
  refine lv_goto (tgt := 14) hx hb dL_mark_7 (by decide) ?_
  refine lv_iconst (v := nI 0) hx hb dL_mark_14 (by decide) ?_
  exact W.iret (v := nI 0) hx hb hr (fun t ht hW => ⟨⟨_, (), rfl, rfl, by rw [ht]; exact hP, va_K.moved hW.alike hK, hD⟩, hS.F ht⟩) hS.2.2 dL_mark_15
set_option maxHeartbeats 4000000 in
set_option maxRecDepth 100000 in
theorem c_L_points_ok (l : Launch) (dC : Nat → ClassId) (dI : Nat → Nat → Nat) (cD cZ cI cL : ClassId) (h pf f0 f1 f2 f3 po o0 o1 o2 o3 : Nat) (NF : Nat → UInt64) (GF TF OF : Nat → Int32) (NO : Nat → UInt64) (GO TO OO : Nat → Int32) (nn : Nat) (ox : Nat) (F : Nat → Int64) (sz : Nat) (hnn : nn ≤ 6) (en bn : Nat) (hen : en < nn) (hbn : bn < 5) (fv : UInt32) (hvf : FP.fcmp fv fv = some .eq) (hnf : vf_n64 (FP.f2d fv)) (hvd : FP.dcmp (FP.f2d fv) (FP.f2d fv) = some .eq) : Met l yL_points wsL_points ({ frames := 3, cells := 0, slots := 0, locals := 68 }) (va_Pc [.ref h, .int (nI (en)), .int (nI (bn)), .float (fv)] (fun U => U.heap.size = sz ∧ okL dC dI cD cZ cI cL (wL cD cZ cI cL h pf f0 f1 f2 f3 po o0 o1 o2 o3 NF GF TF OF NO GO TO OO nn false ox F) U U.heap ∧ va_D (fun _ => True) (wL cD cZ cI cL h pf f0 f1 f2 f3 po o0 o1 o2 o3 NF GF TF OF NO GO TO OO nn false ox F))) (va_Qi (fun (r : Int32) (_ : Unit) => r = nI 0) (fun _ t => atL dC dI cD cZ cI cL (va_A (wL cD cZ cI cL h pf f0 f1 f2 f3 po o0 o1 o2 o3 NF GF TF OF NO GO TO OO nn false ox F) sz) (wL cD cZ cI cL h pf f0 f1 f2 f3 po o0 o1 o2 o3 (vf_upd NF (en * 5 + bn) (FP.f2d fv)) (upd GF (en * 5 + bn) (nI (Bool.toNat true))) TF OF NO GO TO OO nn false ox F) t) (va_A (wL cD cZ cI cL h pf f0 f1 f2 f3 po o0 o1 o2 o3 NF GF TF OF NO GO TO OO nn false ox F) sz)) 0 0 (va_A (wL cD cZ cI cL h pf f0 f1 f2 f3 po o0 o1 o2 o3 NF GF TF OF NO GO TO OO nn false ox F) sz) := by
  refine va_MetW (cc := cL_points) (maxL := 5) (ret := (some .int)) (hh := [(0, 7, 10, 19)]) (by decide) rfl ?_
  intro p e s m args below meth c s₁ B hml hv
  obtain ⟨rfl, hsz, hO, hD0⟩ := hv
  obtain ⟨hP, hK, hE⟩ := id hO
  have hx := B.exec
  have hb := B.bytes
  have hr := B.returns
  have hts := atoms_spec (ws := wsL_points) B.pre
  have hown : s.vm.findClass RL = some m.cls := findClass_of_methodNamed B.named
  have hlocks := B.notSynchronized
  subst hsz
  have hD := hD0.self (sz := s.heap.size)
  generalize hAe : va_A (wL cD cZ cI cL h pf f0 f1 f2 f3 po o0 o1 o2 o3 NF GF TF OF NO GO TO OO nn false ox F) s.heap.size = A at hD ⊢
  have hA : ∀ q : Nat, s.heap.size ≤ q → A q := fun q h => by rw [← hAe]; exact Or.inr h
  have hS : va_S A s.heap s.heap [] := va_S.rf
  have hP : va_P (dC, dI) vwCl [(h, .inr (1, [.ref po, .ref pf, .int (nI (nn))])), (pf, .inr (0, [.ref f0, .ref f1, .ref f2, .ref f3])), (f0, .inl (cD, 35, .inr (.inr (.inr (.inl (NF)))))), (f1, .inl (cZ, 35, .inl (GF))), (f2, .inl (cI, 30, .inl (TF))), (f3, .inl (cI, 6, .inl (OF))), (po, .inr (0, [.ref o0, .ref o1, .ref o2, .ref o3])), (o0, .inl (cD, 35, .inr (.inr (.inr (.inl (NO)))))), (o1, .inl (cZ, 35, .inl (GO))), (o2, .inl (cI, 30, .inl (TO))), (o3, .inl (cI, 6, .inl (OO))), (ox, .inl (cL, 1, .inr (.inl (F))))] s.heap := hP
  have hD : va_D A [(h, .inr (1, [.ref po, .ref pf, .int (nI (nn))])), (pf, .inr (0, [.ref f0, .ref f1, .ref f2, .ref f3])), (f0, .inl (cD, 35, .inr (.inr (.inr (.inl (NF)))))), (f1, .inl (cZ, 35, .inl (GF))), (f2, .inl (cI, 30, .inl (TF))), (f3, .inl (cI, 6, .inl (OF))), (po, .inr (0, [.ref o0, .ref o1, .ref o2, .ref o3])), (o0, .inl (cD, 35, .inr (.inr (.inr (.inl (NO)))))), (o1, .inl (cZ, 35, .inl (GO))), (o2, .inl (cI, 30, .inl (TO))), (o3, .inl (cI, 6, .inl (OO))), (ox, .inl (cL, 1, .inr (.inl (F))))] := hD
  have hl := lv_entry ([.ref h, .int (nI (en)), .int (nI (bn)), .float (fv)]) (n := 5) (Nat.le_of_ble_eq_true rfl)
  rw [lg_entry_eq]
  generalize (lg_sl ([.ref h, .int (nI (en)), .int (nI (bn)), .float (fv)]) ++ List.replicate (5 - (lg_sl ([.ref h, .int (nI (en)), .int (nI (bn)), .float (fv)])).length) Slot.unset).toArray = ls at hl ⊢
  have hl : lv_has ls 5 [(0, .ref h), (1, .int (nI (en))), (2, .int (nI (bn))), (3, .float (fv))] := hl
  refine lv_aload_n hx hb dL_points_0 rfl (lv_at hl 0 rfl) ?_
  refine lv_iload_n hx hb dL_points_1 rfl (lv_at hl 1 rfl) ?_
  refine lv_iload_n hx hb dL_points_2 rfl (lv_at hl 2 rfl) ?_
  refine lv_fload_n hx hb dL_points_3 rfl (lv_at hl 3 rfl) ?_
  have hPc := hP.sub (ws' := [(h, .inr (1, [.ref po, .ref pf, .int (nI (nn))])), (pf, .inr (0, [.ref f0, .ref f1, .ref f2, .ref f3])), (f0, .inl (cD, 35, .inr (.inr (.inr (.inl (NF)))))), (f1, .inl (cZ, 35, .inl (GF))), (f2, .inl (cI, 30, .inl (TF))), (f3, .inl (cI, 6, .inl (OF))), (po, .inr (0, [.ref o0, .ref o1, .ref o2, .ref o3])), (o0, .inl (cD, 35, .inr (.inr (.inr (.inl (NO)))))), (o1, .inl (cZ, 35, .inl (GO))), (o2, .inl (cI, 30, .inl (TO))), (o3, .inl (cI, 6, .inl (OO)))]) [0, 1, 2, 3, 4, 5, 6, 7, 8, 9, 10] rfl
  have hDc := hD.sub (ws' := [(h, .inr (1, [.ref po, .ref pf, .int (nI (nn))])), (pf, .inr (0, [.ref f0, .ref f1, .ref f2, .ref f3])), (f0, .inl (cD, 35, .inr (.inr (.inr (.inl (NF)))))), (f1, .inl (cZ, 35, .inl (GF))), (f2, .inl (cI, 30, .inl (TF))), (f3, .inl (cI, 6, .inl (OF))), (po, .inr (0, [.ref o0, .ref o1, .ref o2, .ref o3])), (o0, .inl (cD, 35, .inr (.inr (.inr (.inl (NO)))))), (o1, .inl (cZ, 35, .inl (GO))), (o2, .inl (cI, 30, .inl (TO))), (o3, .inl (cI, 6, .inl (OO)))]) [0, 1, 2, 3, 4, 5, 6, 7, 8, 9, 10] (by decide) rfl
  have hFc := va_free (wc := [(h, .inr (1, [.ref po, .ref pf, .int (nI (nn))])), (pf, .inr (0, [.ref f0, .ref f1, .ref f2, .ref f3])), (f0, .inl (cD, 35, .inr (.inr (.inr (.inl (NF)))))), (f1, .inl (cZ, 35, .inl (GF))), (f2, .inl (cI, 30, .inl (TF))), (f3, .inl (cI, 6, .inl (OF))), (po, .inr (0, [.ref o0, .ref o1, .ref o2, .ref o3])), (o0, .inl (cD, 35, .inr (.inr (.inr (.inl (NO)))))), (o1, .inl (cZ, 35, .inl (GO))), (o2, .inl (cI, 30, .inl (TO))), (o3, .inl (cI, 6, .inl (OO)))]) hD hS hA [0, 1, 2, 3, 4, 5, 6, 7, 8, 9, 10] rfl
  refine va_callv (va_runV (As := [.int (nI (en)), .int (nI (bn)), .float (fv)]) (rest := []) ⟨hx, hb, hml, hown, hts⟩ (c_X1_points_ok l dC dI cD cZ cI h pf f0 f1 f2 f3 po o0 o1 o2 o3 NF GF TF OF NO GO TO OO nn s.heap.size hnn en bn hen hbn fv hvf hnf hvd) (cwV 3 hts gL_points_X1_points rfl rfl rfl (by decide +kernel) ⟨Nat.le_of_ble_eq_true rfl, Nat.le_of_ble_eq_true rfl⟩) (okJW_pre ⟨hPc, hK.sub [0, 1, 2] rfl, hE⟩ hDc) rfl rfl hl.1 rfl (lv_room (Nat.le_of_ble_eq_true rfl)) dL_points_4 ⟨Nat.zero_le _, Nat.zero_le _⟩) hS (fun q _ h => hFc q h) hFc (fun u1 t H1 locs ht hvm hw hB hz1 hk1 hS => ?_)
  obtain ⟨hP1, hK1, hD1⟩ := hB
  rw [ht] at hP1
  obtain ⟨hP, hD⟩ := va_join (wr := [(ox, .inl (cL, 1, .inr (.inl (F))))]) (w1 := [(h, .inr (1, [.ref po, .ref pf, .int (nI (nn))])), (pf, .inr (0, [.ref f0, .ref f1, .ref f2, .ref f3])), (f0, .inl (cD, 35, .inr (.inr (.inr (.inl (vf_upd NF (en * 5 + bn) (FP.f2d fv))))))), (f1, .inl (cZ, 35, .inl (upd GF (en * 5 + bn) (nI (Bool.toNat true))))), (f2, .inl (cI, 30, .inl (TF))), (f3, .inl (cI, 6, .inl (OF))), (po, .inr (0, [.ref o0, .ref o1, .ref o2, .ref o3])), (o0, .inl (cD, 35, .inr (.inr (.inr (.inl (NO)))))), (o1, .inl (cZ, 35, .inl (GO))), (o2, .inl (cI, 30, .inl (TO))), (o3, .inl (cI, 6, .inl (OO)))]) hP hD [0, 1, 2, 3, 4, 5, 6, 7, 8, 9, 10] [11] rfl rfl (by decide) (by decide) hk1 hFc hP1 hD1
  have hP := hP.sub (ws' := [(h, .inr (1, [.ref po, .ref pf, .int (nI (nn))])), (pf, .inr (0, [.ref f0, .ref f1, .ref f2, .ref f3])), (f0, .inl (cD, 35, .inr (.inr (.inr (.inl (vf_upd NF (en * 5 + bn) (FP.f2d fv))))))), (f1, .inl (cZ, 35, .inl (upd GF (en * 5 + bn) (nI (Bool.toNat true))))), (f2, .inl (cI, 30, .inl (TF))), (f3, .inl (cI, 6, .inl (OF))), (po, .inr (0, [.ref o0, .ref o1, .ref o2, .ref o3])), (o0, .inl (cD, 35, .inr (.inr (.inr (.inl (NO)))))), (o1, .inl (cZ, 35, .inl (GO))), (o2, .inl (cI, 30, .inl (TO))), (o3, .inl (cI, 6, .inl (OO))), (ox, .inl (cL, 1, .inr (.inl (F))))]) [1, 2, 3, 4, 5, 6, 7, 8, 9, 10, 11, 0] rfl
  have hD := hD.sub (ws' := [(h, .inr (1, [.ref po, .ref pf, .int (nI (nn))])), (pf, .inr (0, [.ref f0, .ref f1, .ref f2, .ref f3])), (f0, .inl (cD, 35, .inr (.inr (.inr (.inl (vf_upd NF (en * 5 + bn) (FP.f2d fv))))))), (f1, .inl (cZ, 35, .inl (upd GF (en * 5 + bn) (nI (Bool.toNat true))))), (f2, .inl (cI, 30, .inl (TF))), (f3, .inl (cI, 6, .inl (OF))), (po, .inr (0, [.ref o0, .ref o1, .ref o2, .ref o3])), (o0, .inl (cD, 35, .inr (.inr (.inr (.inl (NO)))))), (o1, .inl (cZ, 35, .inl (GO))), (o2, .inl (cI, 30, .inl (TO))), (o3, .inl (cI, 6, .inl (OO))), (ox, .inl (cL, 1, .inr (.inl (F))))]) [1, 2, 3, 4, 5, 6, 7, 8, 9, 10, 11, 0] (by decide) rfl
  generalize H1 = H at hP hS ⊢
  have hP : va_P (dC, dI) vwCl [(h, .inr (1, [.ref po, .ref pf, .int (nI (nn))])), (pf, .inr (0, [.ref f0, .ref f1, .ref f2, .ref f3])), (f0, .inl (cD, 35, .inr (.inr (.inr (.inl (vf_upd NF (en * 5 + bn) (FP.f2d fv))))))), (f1, .inl (cZ, 35, .inl (upd GF (en * 5 + bn) (nI (Bool.toNat true))))), (f2, .inl (cI, 30, .inl (TF))), (f3, .inl (cI, 6, .inl (OF))), (po, .inr (0, [.ref o0, .ref o1, .ref o2, .ref o3])), (o0, .inl (cD, 35, .inr (.inr (.inr (.inl (NO)))))), (o1, .inl (cZ, 35, .inl (GO))), (o2, .inl (cI, 30, .inl (TO))), (o3, .inl (cI, 6, .inl (OO))), (ox, .inl (cL, 1, .inr (.inl (F))))] H := hP
  have hD : va_D A [(h, .inr (1, [.ref po, .ref pf, .int (nI (nn))])), (pf, .inr (0, [.ref f0, .ref f1, .ref f2, .ref f3])), (f0, .inl (cD, 35, .inr (.inr (.inr (.inl (vf_upd NF (en * 5 + bn) (FP.f2d fv))))))), (f1, .inl (cZ, 35, .inl (upd GF (en * 5 + bn) (nI (Bool.toNat true))))), (f2, .inl (cI, 30, .inl (TF))), (f3, .inl (cI, 6, .inl (OF))), (po, .inr (0, [.ref o0, .ref o1, .ref o2, .ref o3])), (o0, .inl (cD, 35, .inr (.inr (.inr (.inl (NO)))))), (o1, .inl (cZ, 35, .inl (GO))), (o2, .inl (cI, 30, .inl (TO))), (o3, .inl (cI, 6, .inl (OO))), (ox, .inl (cL, 1, .inr (.inl (F))))] := hD
  refine lv_goto (tgt := 14) hx hb dL_points_7 (by decide) ?_
  refine lv_iconst (v := nI 0) hx hb dL_points_14 (by decide) ?_
  exact W.iret (v := nI 0) hx hb hr (fun t ht hW => ⟨⟨_, (), rfl, rfl, by rw [ht]; exact hP, va_K.moved hW.alike hK, hD⟩, hS.F ht⟩) hS.2.2 dL_points_15
set_option maxHeartbeats 4000000 in
set_option maxRecDepth 100000 in
theorem c_L_bar_ok (l : Launch) (dC : Nat → ClassId) (dI : Nat → Nat → Nat) (cD cZ cI cL : ClassId) (h pf f0 f1 f2 f3 po o0 o1 o2 o3 : Nat) (NF : Nat → UInt64) (GF TF OF : Nat → Int32) (NO : Nat → UInt64) (GO TO OO : Nat → Int32) (nn : Nat) (ox : Nat) (F : Nat → Int64) (sz : Nat) (bn : Nat) (hbn : bn < 5) (v : UInt64) (hvd : FP.dcmp v v = some .eq) : Met l yL_bar wsL_bar ({ frames := 2, cells := 0, slots := 0, locals := 46 }) (va_Pc [.ref h, .int (nI (bn)), .double (v)] (fun U => U.heap.size = sz ∧ okL dC dI cD cZ cI cL (wL cD cZ cI cL h pf f0 f1 f2 f3 po o0 o1 o2 o3 NF GF TF OF NO GO TO OO nn true ox F) U U.heap ∧ va_D (fun _ => True) (wL cD cZ cI cL h pf f0 f1 f2 f3 po o0 o1 o2 o3 NF GF TF OF NO GO TO OO nn true ox F))) (va_Qi (fun (r : Int32) (_ : Unit) => r = nI 0) (fun _ t => atL dC dI cD cZ cI cL (va_A (wL cD cZ cI cL h pf f0 f1 f2 f3 po o0 o1 o2 o3 NF GF TF OF NO GO TO OO nn true ox F) sz) (wL cD cZ cI cL h pf f0 f1 f2 f3 po o0 o1 o2 o3 (vf_upd NF (6 * 5 + bn) v) (upd GF (6 * 5 + bn) (nI (Bool.toNat true))) TF OF NO GO TO OO nn true ox F) t) (va_A (wL cD cZ cI cL h pf f0 f1 f2 f3 po o0 o1 o2 o3 NF GF TF OF NO GO TO OO nn true ox F) sz)) 0 0 (va_A (wL cD cZ cI cL h pf f0 f1 f2 f3 po o0 o1 o2 o3 NF GF TF OF NO GO TO OO nn true ox F) sz) := by
  refine va_MetW (cc := cL_bar) (maxL := 5) (ret := (some .int)) (hh := [(0, 6, 9, 19)]) (by decide) rfl ?_
  intro p e s m args below meth c s₁ B hml hv
  obtain ⟨rfl, hsz, hO, hD0⟩ := hv
  obtain ⟨hP, hK, hE⟩ := id hO
  have hx := B.exec
  have hb := B.bytes
  have hr := B.returns
  have hts := atoms_spec (ws := wsL_bar) B.pre
  have hown : s.vm.findClass RL = some m.cls := findClass_of_methodNamed B.named
  have hlocks := B.notSynchronized
  subst hsz
  have hD := hD0.self (sz := s.heap.size)
  generalize hAe : va_A (wL cD cZ cI cL h pf f0 f1 f2 f3 po o0 o1 o2 o3 NF GF TF OF NO GO TO OO nn true ox F) s.heap.size = A at hD ⊢
  have hA : ∀ q : Nat, s.heap.size ≤ q → A q := fun q h => by rw [← hAe]; exact Or.inr h
  have hS : va_S A s.heap s.heap [] := va_S.rf
  have hP : va_P (dC, dI) vwCl [(h, .inr (1, [.ref pf, .ref po, .int (nI (nn))])), (pf, .inr (0, [.ref f0, .ref f1, .ref f2, .ref f3])), (f0, .inl (cD, 35, .inr (.inr (.inr (.inl (NF)))))), (f1, .inl (cZ, 35, .inl (GF))), (f2, .inl (cI, 30, .inl (TF))), (f3, .inl (cI, 6, .inl (OF))), (po, .inr (0, [.ref o0, .ref o1, .ref o2, .ref o3])), (o0, .inl (cD, 35, .inr (.inr (.inr (.inl (NO)))))), (o1, .inl (cZ, 35, .inl (GO))), (o2, .inl (cI, 30, .inl (TO))), (o3, .inl (cI, 6, .inl (OO))), (ox, .inl (cL, 1, .inr (.inl (F))))] s.heap := hP
  have hD : va_D A [(h, .inr (1, [.ref pf, .ref po, .int (nI (nn))])), (pf, .inr (0, [.ref f0, .ref f1, .ref f2, .ref f3])), (f0, .inl (cD, 35, .inr (.inr (.inr (.inl (NF)))))), (f1, .inl (cZ, 35, .inl (GF))), (f2, .inl (cI, 30, .inl (TF))), (f3, .inl (cI, 6, .inl (OF))), (po, .inr (0, [.ref o0, .ref o1, .ref o2, .ref o3])), (o0, .inl (cD, 35, .inr (.inr (.inr (.inl (NO)))))), (o1, .inl (cZ, 35, .inl (GO))), (o2, .inl (cI, 30, .inl (TO))), (o3, .inl (cI, 6, .inl (OO))), (ox, .inl (cL, 1, .inr (.inl (F))))] := hD
  have hl := lv_entry ([.ref h, .int (nI (bn)), .double (v)]) (n := 5) (Nat.le_of_ble_eq_true rfl)
  rw [lg_entry_eq]
  generalize (lg_sl ([.ref h, .int (nI (bn)), .double (v)]) ++ List.replicate (5 - (lg_sl ([.ref h, .int (nI (bn)), .double (v)])).length) Slot.unset).toArray = ls at hl ⊢
  have hl : lv_has ls 5 [(0, .ref h), (1, .int (nI (bn))), (2, .double (v))] := hl
  refine lv_aload_n hx hb dL_bar_0 rfl (lv_at hl 0 rfl) ?_
  refine lv_iload_n hx hb dL_bar_1 rfl (lv_at hl 1 rfl) ?_
  refine lv_dload_n hx hb dL_bar_2 rfl (lv_at hl 2 rfl) ?_
  have hPc := hP.sub (ws' := [(h, .inr (1, [.ref pf, .ref po, .int (nI (nn))])), (pf, .inr (0, [.ref f0, .ref f1, .ref f2, .ref f3])), (f0, .inl (cD, 35, .inr (.inr (.inr (.inl (NF)))))), (f1, .inl (cZ, 35, .inl (GF))), (f2, .inl (cI, 30, .inl (TF))), (f3, .inl (cI, 6, .inl (OF))), (po, .inr (0, [.ref o0, .ref o1, .ref o2, .ref o3])), (o0, .inl (cD, 35, .inr (.inr (.inr (.inl (NO)))))), (o1, .inl (cZ, 35, .inl (GO))), (o2, .inl (cI, 30, .inl (TO))), (o3, .inl (cI, 6, .inl (OO)))]) [0, 1, 2, 3, 4, 5, 6, 7, 8, 9, 10] rfl
  have hDc := hD.sub (ws' := [(h, .inr (1, [.ref pf, .ref po, .int (nI (nn))])), (pf, .inr (0, [.ref f0, .ref f1, .ref f2, .ref f3])), (f0, .inl (cD, 35, .inr (.inr (.inr (.inl (NF)))))), (f1, .inl (cZ, 35, .inl (GF))), (f2, .inl (cI, 30, .inl (TF))), (f3, .inl (cI, 6, .inl (OF))), (po, .inr (0, [.ref o0, .ref o1, .ref o2, .ref o3])), (o0, .inl (cD, 35, .inr (.inr (.inr (.inl (NO)))))), (o1, .inl (cZ, 35, .inl (GO))), (o2, .inl (cI, 30, .inl (TO))), (o3, .inl (cI, 6, .inl (OO)))]) [0, 1, 2, 3, 4, 5, 6, 7, 8, 9, 10] (by decide) rfl
  have hFc := va_free (wc := [(h, .inr (1, [.ref pf, .ref po, .int (nI (nn))])), (pf, .inr (0, [.ref f0, .ref f1, .ref f2, .ref f3])), (f0, .inl (cD, 35, .inr (.inr (.inr (.inl (NF)))))), (f1, .inl (cZ, 35, .inl (GF))), (f2, .inl (cI, 30, .inl (TF))), (f3, .inl (cI, 6, .inl (OF))), (po, .inr (0, [.ref o0, .ref o1, .ref o2, .ref o3])), (o0, .inl (cD, 35, .inr (.inr (.inr (.inl (NO)))))), (o1, .inl (cZ, 35, .inl (GO))), (o2, .inl (cI, 30, .inl (TO))), (o3, .inl (cI, 6, .inl (OO)))]) hD hS hA [0, 1, 2, 3, 4, 5, 6, 7, 8, 9, 10] rfl
  refine va_callv (va_runV (As := [.int (nI (bn)), .double (v)]) (rest := []) ⟨hx, hb, hml, hown, hts⟩ (c_X1_bar_ok l dC dI cD cZ cI h pf f0 f1 f2 f3 po o0 o1 o2 o3 NF GF TF OF NO GO TO OO nn s.heap.size bn hbn v hvd) (cwV 2 hts gL_bar_X1_bar rfl rfl rfl (by decide +kernel) ⟨Nat.le_of_ble_eq_true rfl, Nat.le_of_ble_eq_true rfl⟩) (okJW_pre ⟨hPc, hK.sub [0, 1, 2] rfl, hE⟩ hDc) rfl rfl hl.1 rfl (lv_room (Nat.le_of_ble_eq_true rfl)) dL_bar_3 ⟨Nat.zero_le _, Nat.zero_le _⟩) hS (fun q _ h => hFc q h) hFc (fun u1 t H1 locs ht hvm hw hB hz1 hk1 hS => ?_)
  obtain ⟨hP1, hK1, hD1⟩ := hB
  rw [ht] at hP1
  obtain ⟨hP, hD⟩ := va_join (wr := [(ox, .inl (cL, 1, .inr (.inl (F))))]) (w1 := [(h, .inr (1, [.ref pf, .ref po, .int (nI (nn))])), (pf, .inr (0, [.ref f0, .ref f1, .ref f2, .ref f3])), (f0, .inl (cD, 35, .inr (.inr (.inr (.inl (vf_upd NF (6 * 5 + bn) v)))))), (f1, .inl (cZ, 35, .inl (upd GF (6 * 5 + bn) (nI (Bool.toNat true))))), (f2, .inl (cI, 30, .inl (TF))), (f3, .inl (cI, 6, .inl (OF))), (po, .inr (0, [.ref o0, .ref o1, .ref o2, .ref o3])), (o0, .inl (cD, 35, .inr (.inr (.inr (.inl (NO)))))), (o1, .inl (cZ, 35, .inl (GO))), (o2, .inl (cI, 30, .inl (TO))), (o3, .inl (cI, 6, .inl (OO)))]) hP hD [0, 1, 2, 3, 4, 5, 6, 7, 8, 9, 10] [11] rfl rfl (by decide) (by decide) hk1 hFc hP1 hD1
  have hP := hP.sub (ws' := [(h, .inr (1, [.ref pf, .ref po, .int (nI (nn))])), (pf, .inr (0, [.ref f0, .ref f1, .ref f2, .ref f3])), (f0, .inl (cD, 35, .inr (.inr (.inr (.inl (vf_upd NF (6 * 5 + bn) v)))))), (f1, .inl (cZ, 35, .inl (upd GF (6 * 5 + bn) (nI (Bool.toNat true))))), (f2, .inl (cI, 30, .inl (TF))), (f3, .inl (cI, 6, .inl (OF))), (po, .inr (0, [.ref o0, .ref o1, .ref o2, .ref o3])), (o0, .inl (cD, 35, .inr (.inr (.inr (.inl (NO)))))), (o1, .inl (cZ, 35, .inl (GO))), (o2, .inl (cI, 30, .inl (TO))), (o3, .inl (cI, 6, .inl (OO))), (ox, .inl (cL, 1, .inr (.inl (F))))]) [1, 2, 3, 4, 5, 6, 7, 8, 9, 10, 11, 0] rfl
  have hD := hD.sub (ws' := [(h, .inr (1, [.ref pf, .ref po, .int (nI (nn))])), (pf, .inr (0, [.ref f0, .ref f1, .ref f2, .ref f3])), (f0, .inl (cD, 35, .inr (.inr (.inr (.inl (vf_upd NF (6 * 5 + bn) v)))))), (f1, .inl (cZ, 35, .inl (upd GF (6 * 5 + bn) (nI (Bool.toNat true))))), (f2, .inl (cI, 30, .inl (TF))), (f3, .inl (cI, 6, .inl (OF))), (po, .inr (0, [.ref o0, .ref o1, .ref o2, .ref o3])), (o0, .inl (cD, 35, .inr (.inr (.inr (.inl (NO)))))), (o1, .inl (cZ, 35, .inl (GO))), (o2, .inl (cI, 30, .inl (TO))), (o3, .inl (cI, 6, .inl (OO))), (ox, .inl (cL, 1, .inr (.inl (F))))]) [1, 2, 3, 4, 5, 6, 7, 8, 9, 10, 11, 0] (by decide) rfl
  generalize H1 = H at hP hS ⊢
  have hP : va_P (dC, dI) vwCl [(h, .inr (1, [.ref pf, .ref po, .int (nI (nn))])), (pf, .inr (0, [.ref f0, .ref f1, .ref f2, .ref f3])), (f0, .inl (cD, 35, .inr (.inr (.inr (.inl (vf_upd NF (6 * 5 + bn) v)))))), (f1, .inl (cZ, 35, .inl (upd GF (6 * 5 + bn) (nI (Bool.toNat true))))), (f2, .inl (cI, 30, .inl (TF))), (f3, .inl (cI, 6, .inl (OF))), (po, .inr (0, [.ref o0, .ref o1, .ref o2, .ref o3])), (o0, .inl (cD, 35, .inr (.inr (.inr (.inl (NO)))))), (o1, .inl (cZ, 35, .inl (GO))), (o2, .inl (cI, 30, .inl (TO))), (o3, .inl (cI, 6, .inl (OO))), (ox, .inl (cL, 1, .inr (.inl (F))))] H := hP
  have hD : va_D A [(h, .inr (1, [.ref pf, .ref po, .int (nI (nn))])), (pf, .inr (0, [.ref f0, .ref f1, .ref f2, .ref f3])), (f0, .inl (cD, 35, .inr (.inr (.inr (.inl (vf_upd NF (6 * 5 + bn) v)))))), (f1, .inl (cZ, 35, .inl (upd GF (6 * 5 + bn) (nI (Bool.toNat true))))), (f2, .inl (cI, 30, .inl (TF))), (f3, .inl (cI, 6, .inl (OF))), (po, .inr (0, [.ref o0, .ref o1, .ref o2, .ref o3])), (o0, .inl (cD, 35, .inr (.inr (.inr (.inl (NO)))))), (o1, .inl (cZ, 35, .inl (GO))), (o2, .inl (cI, 30, .inl (TO))), (o3, .inl (cI, 6, .inl (OO))), (ox, .inl (cL, 1, .inr (.inl (F))))] := hD
  refine lv_goto (tgt := 13) hx hb dL_bar_6 (by decide) ?_
  refine lv_iconst (v := nI 0) hx hb dL_bar_13 (by decide) ?_
  exact W.iret (v := nI 0) hx hb hr (fun t ht hW => ⟨⟨_, (), rfl, rfl, by rw [ht]; exact hP, va_K.moved hW.alike hK, hD⟩, hS.F ht⟩) hS.2.2 dL_bar_14
set_option maxHeartbeats 4000000 in
set_option maxRecDepth 100000 in
theorem c_L_line_ok (l : Launch) (dC : Nat → ClassId) (dI : Nat → Nat → Nat) (cD cZ cI cL : ClassId) (h pf f0 f1 f2 f3 po o0 o1 o2 o3 : Nat) (NF : Nat → UInt64) (GF TF OF : Nat → Int32) (NO : Nat → UInt64) (GO TO OO : Nat → Int32) (nn : Nat) (ox : Nat) (F : Nat → Int64) (sz : Nat) (bn : Nat) (hbn : bn < 5) (fv : UInt32) (hvf : FP.fcmp fv fv = some .eq) (hnf : vf_n64 (FP.f2d fv)) (hvd : FP.dcmp (FP.f2d fv) (FP.f2d fv) = some .eq) : Met l yL_line wsL_line ({ frames := 3, cells := 0, slots := 0, locals := 67 }) (va_Pc [.ref h, .int (nI (bn)), .float (fv)] (fun U => U.heap.size = sz ∧ okL dC dI cD cZ cI cL (wL cD cZ cI cL h pf f0 f1 f2 f3 po o0 o1 o2 o3 NF GF TF OF NO GO TO OO nn false ox F) U U.heap ∧ va_D (fun _ => True) (wL cD cZ cI cL h pf f0 f1 f2 f3 po o0 o1 o2 o3 NF GF TF OF NO GO TO OO nn false ox F))) (va_Qi (fun (r : Int32) (_ : Unit) => r = nI 0) (fun _ t => atL dC dI cD cZ cI cL (va_A (wL cD cZ cI cL h pf f0 f1 f2 f3 po o0 o1 o2 o3 NF GF TF OF NO GO TO OO nn false ox F) sz) (wL cD cZ cI cL h pf f0 f1 f2 f3 po o0 o1 o2 o3 (vf_upd NF (6 * 5 + bn) (FP.f2d fv)) (upd GF (6 * 5 + bn) (nI (Bool.toNat true))) TF OF NO GO TO OO nn false ox F) t) (va_A (wL cD cZ cI cL h pf f0 f1 f2 f3 po o0 o1 o2 o3 NF GF TF OF NO GO TO OO nn false ox F) sz)) 0 0 (va_A (wL cD cZ cI cL h pf f0 f1 f2 f3 po o0 o1 o2 o3 NF GF TF OF NO GO TO OO nn false ox F) sz) := by
  refine va_MetW (cc := cL_line) (maxL := 4) (ret := (some .int)) (hh := [(0, 6, 9, 19)]) (by decide) rfl ?_
  intro p e s m args below meth c s₁ B hml hv
  obtain ⟨rfl, hsz, hO, hD0⟩ := hv
  obtain ⟨hP, hK, hE⟩ := id hO
  have hx := B.exec
  have hb := B.bytes
  have hr := B.returns
  have hts := atoms_spec (ws := wsL_line) B.pre
  have hown : s.vm.findClass RL = some m.cls := findClass_of_methodNamed B.named
  have hlocks := B.notSynchronized
  subst hsz
  have hD := hD0.self (sz := s.heap.size)
  generalize hAe : va_A (wL cD cZ cI cL h pf f0 f1 f2 f3 po o0 o1 o2 o3 NF GF TF OF NO GO TO OO nn false ox F) s.heap.size = A at hD ⊢
  have hA : ∀ q : Nat, s.heap.size ≤ q → A q := fun q h => by rw [← hAe]; exact Or.inr h
  have hS : va_S A s.heap s.heap [] := va_S.rf
  have hP : va_P (dC, dI) vwCl [(h, .inr (1, [.ref po, .ref pf, .int (nI (nn))])), (pf, .inr (0, [.ref f0, .ref f1, .ref f2, .ref f3])), (f0, .inl (cD, 35, .inr (.inr (.inr (.inl (NF)))))), (f1, .inl (cZ, 35, .inl (GF))), (f2, .inl (cI, 30, .inl (TF))), (f3, .inl (cI, 6, .inl (OF))), (po, .inr (0, [.ref o0, .ref o1, .ref o2, .ref o3])), (o0, .inl (cD, 35, .inr (.inr (.inr (.inl (NO)))))), (o1, .inl (cZ, 35, .inl (GO))), (o2, .inl (cI, 30, .inl (TO))), (o3, .inl (cI, 6, .inl (OO))), (ox, .inl (cL, 1, .inr (.inl (F))))] s.heap := hP
  have hD : va_D A [(h, .inr (1, [.ref po, .ref pf, .int (nI (nn))])), (pf, .inr (0, [.ref f0, .ref f1, .ref f2, .ref f3])), (f0, .inl (cD, 35, .inr (.inr (.inr (.inl (NF)))))), (f1, .inl (cZ, 35, .inl (GF))), (f2, .inl (cI, 30, .inl (TF))), (f3, .inl (cI, 6, .inl (OF))), (po, .inr (0, [.ref o0, .ref o1, .ref o2, .ref o3])), (o0, .inl (cD, 35, .inr (.inr (.inr (.inl (NO)))))), (o1, .inl (cZ, 35, .inl (GO))), (o2, .inl (cI, 30, .inl (TO))), (o3, .inl (cI, 6, .inl (OO))), (ox, .inl (cL, 1, .inr (.inl (F))))] := hD
  have hl := lv_entry ([.ref h, .int (nI (bn)), .float (fv)]) (n := 4) (Nat.le_of_ble_eq_true rfl)
  rw [lg_entry_eq]
  generalize (lg_sl ([.ref h, .int (nI (bn)), .float (fv)]) ++ List.replicate (4 - (lg_sl ([.ref h, .int (nI (bn)), .float (fv)])).length) Slot.unset).toArray = ls at hl ⊢
  have hl : lv_has ls 4 [(0, .ref h), (1, .int (nI (bn))), (2, .float (fv))] := hl
  refine lv_aload_n hx hb dL_line_0 rfl (lv_at hl 0 rfl) ?_
  refine lv_iload_n hx hb dL_line_1 rfl (lv_at hl 1 rfl) ?_
  refine lv_fload_n hx hb dL_line_2 rfl (lv_at hl 2 rfl) ?_
  have hPc := hP.sub (ws' := [(h, .inr (1, [.ref po, .ref pf, .int (nI (nn))])), (pf, .inr (0, [.ref f0, .ref f1, .ref f2, .ref f3])), (f0, .inl (cD, 35, .inr (.inr (.inr (.inl (NF)))))), (f1, .inl (cZ, 35, .inl (GF))), (f2, .inl (cI, 30, .inl (TF))), (f3, .inl (cI, 6, .inl (OF))), (po, .inr (0, [.ref o0, .ref o1, .ref o2, .ref o3])), (o0, .inl (cD, 35, .inr (.inr (.inr (.inl (NO)))))), (o1, .inl (cZ, 35, .inl (GO))), (o2, .inl (cI, 30, .inl (TO))), (o3, .inl (cI, 6, .inl (OO)))]) [0, 1, 2, 3, 4, 5, 6, 7, 8, 9, 10] rfl
  have hDc := hD.sub (ws' := [(h, .inr (1, [.ref po, .ref pf, .int (nI (nn))])), (pf, .inr (0, [.ref f0, .ref f1, .ref f2, .ref f3])), (f0, .inl (cD, 35, .inr (.inr (.inr (.inl (NF)))))), (f1, .inl (cZ, 35, .inl (GF))), (f2, .inl (cI, 30, .inl (TF))), (f3, .inl (cI, 6, .inl (OF))), (po, .inr (0, [.ref o0, .ref o1, .ref o2, .ref o3])), (o0, .inl (cD, 35, .inr (.inr (.inr (.inl (NO)))))), (o1, .inl (cZ, 35, .inl (GO))), (o2, .inl (cI, 30, .inl (TO))), (o3, .inl (cI, 6, .inl (OO)))]) [0, 1, 2, 3, 4, 5, 6, 7, 8, 9, 10] (by decide) rfl
  have hFc := va_free (wc := [(h, .inr (1, [.ref po, .ref pf, .int (nI (nn))])), (pf, .inr (0, [.ref f0, .ref f1, .ref f2, .ref f3])), (f0, .inl (cD, 35, .inr (.inr (.inr (.inl (NF)))))), (f1, .inl (cZ, 35, .inl (GF))), (f2, .inl (cI, 30, .inl (TF))), (f3, .inl (cI, 6, .inl (OF))), (po, .inr (0, [.ref o0, .ref o1, .ref o2, .ref o3])), (o0, .inl (cD, 35, .inr (.inr (.inr (.inl (NO)))))), (o1, .inl (cZ, 35, .inl (GO))), (o2, .inl (cI, 30, .inl (TO))), (o3, .inl (cI, 6, .inl (OO)))]) hD hS hA [0, 1, 2, 3, 4, 5, 6, 7, 8, 9, 10] rfl
  refine va_callv (va_runV (As := [.int (nI (bn)), .float (fv)]) (rest := []) ⟨hx, hb, hml, hown, hts⟩ (c_X1_line_ok l dC dI cD cZ cI h pf f0 f1 f2 f3 po o0 o1 o2 o3 NF GF TF OF NO GO TO OO nn s.heap.size bn hbn fv hvf hnf hvd) (cwV 2 hts gL_line_X1_line rfl rfl rfl (by decide +kernel) ⟨Nat.le_of_ble_eq_true rfl, Nat.le_of_ble_eq_true rfl⟩) (okJW_pre ⟨hPc, hK.sub [0, 1, 2] rfl, hE⟩ hDc) rfl rfl hl.1 rfl (lv_room (Nat.le_of_ble_eq_true rfl)) dL_line_3 ⟨Nat.zero_le _, Nat.zero_le _⟩) hS (fun q _ h => hFc q h) hFc (fun u1 t H1 locs ht hvm hw hB hz1 hk1 hS => ?_)
  obtain ⟨hP1, hK1, hD1⟩ := hB
  rw [ht] at hP1
  obtain ⟨hP, hD⟩ := va_join (wr := [(ox, .inl (cL, 1, .inr (.inl (F))))]) (w1 := [(h, .inr (1, [.ref po, .ref pf, .int (nI (nn))])), (pf, .inr (0, [.ref f0, .ref f1, .ref f2, .ref f3])), (f0, .inl (cD, 35, .inr (.inr (.inr (.inl (vf_upd NF (6 * 5 + bn) (FP.f2d fv))))))), (f1, .inl (cZ, 35, .inl (upd GF (6 * 5 + bn) (nI (Bool.toNat true))))), (f2, .inl (cI, 30, .inl (TF))), (f3, .inl (cI, 6, .inl (OF))), (po, .inr (0, [.ref o0, .ref o1, .ref o2, .ref o3])), (o0, .inl (cD, 35, .inr (.inr (.inr (.inl (NO)))))), (o1, .inl (cZ, 35, .inl (GO))), (o2, .inl (cI, 30, .inl (TO))), (o3, .inl (cI, 6, .inl (OO)))]) hP hD [0, 1, 2, 3, 4, 5, 6, 7, 8, 9, 10] [11] rfl rfl (by decide) (by decide) hk1 hFc hP1 hD1
  have hP := hP.sub (ws' := [(h, .inr (1, [.ref po, .ref pf, .int (nI (nn))])), (pf, .inr (0, [.ref f0, .ref f1, .ref f2, .ref f3])), (f0, .inl (cD, 35, .inr (.inr (.inr (.inl (vf_upd NF (6 * 5 + bn) (FP.f2d fv))))))), (f1, .inl (cZ, 35, .inl (upd GF (6 * 5 + bn) (nI (Bool.toNat true))))), (f2, .inl (cI, 30, .inl (TF))), (f3, .inl (cI, 6, .inl (OF))), (po, .inr (0, [.ref o0, .ref o1, .ref o2, .ref o3])), (o0, .inl (cD, 35, .inr (.inr (.inr (.inl (NO)))))), (o1, .inl (cZ, 35, .inl (GO))), (o2, .inl (cI, 30, .inl (TO))), (o3, .inl (cI, 6, .inl (OO))), (ox, .inl (cL, 1, .inr (.inl (F))))]) [1, 2, 3, 4, 5, 6, 7, 8, 9, 10, 11, 0] rfl
  have hD := hD.sub (ws' := [(h, .inr (1, [.ref po, .ref pf, .int (nI (nn))])), (pf, .inr (0, [.ref f0, .ref f1, .ref f2, .ref f3])), (f0, .inl (cD, 35, .inr (.inr (.inr (.inl (vf_upd NF (6 * 5 + bn) (FP.f2d fv))))))), (f1, .inl (cZ, 35, .inl (upd GF (6 * 5 + bn) (nI (Bool.toNat true))))), (f2, .inl (cI, 30, .inl (TF))), (f3, .inl (cI, 6, .inl (OF))), (po, .inr (0, [.ref o0, .ref o1, .ref o2, .ref o3])), (o0, .inl (cD, 35, .inr (.inr (.inr (.inl (NO)))))), (o1, .inl (cZ, 35, .inl (GO))), (o2, .inl (cI, 30, .inl (TO))), (o3, .inl (cI, 6, .inl (OO))), (ox, .inl (cL, 1, .inr (.inl (F))))]) [1, 2, 3, 4, 5, 6, 7, 8, 9, 10, 11, 0] (by decide) rfl
  generalize H1 = H at hP hS ⊢
  have hP : va_P (dC, dI) vwCl [(h, .inr (1, [.ref po, .ref pf, .int (nI (nn))])), (pf, .inr (0, [.ref f0, .ref f1, .ref f2, .ref f3])), (f0, .inl (cD, 35, .inr (.inr (.inr (.inl (vf_upd NF (6 * 5 + bn) (FP.f2d fv))))))), (f1, .inl (cZ, 35, .inl (upd GF (6 * 5 + bn) (nI (Bool.toNat true))))), (f2, .inl (cI, 30, .inl (TF))), (f3, .inl (cI, 6, .inl (OF))), (po, .inr (0, [.ref o0, .ref o1, .ref o2, .ref o3])), (o0, .inl (cD, 35, .inr (.inr (.inr (.inl (NO)))))), (o1, .inl (cZ, 35, .inl (GO))), (o2, .inl (cI, 30, .inl (TO))), (o3, .inl (cI, 6, .inl (OO))), (ox, .inl (cL, 1, .inr (.inl (F))))] H := hP
  have hD : va_D A [(h, .inr (1, [.ref po, .ref pf, .int (nI (nn))])), (pf, .inr (0, [.ref f0, .ref f1, .ref f2, .ref f3])), (f0, .inl (cD, 35, .inr (.inr (.inr (.inl (vf_upd NF (6 * 5 + bn) (FP.f2d fv))))))), (f1, .inl (cZ, 35, .inl (upd GF (6 * 5 + bn) (nI (Bool.toNat true))))), (f2, .inl (cI, 30, .inl (TF))), (f3, .inl (cI, 6, .inl (OF))), (po, .inr (0, [.ref o0, .ref o1, .ref o2, .ref o3])), (o0, .inl (cD, 35, .inr (.inr (.inr (.inl (NO)))))), (o1, .inl (cZ, 35, .inl (GO))), (o2, .inl (cI, 30, .inl (TO))), (o3, .inl (cI, 6, .inl (OO))), (ox, .inl (cL, 1, .inr (.inl (F))))] := hD
  refine lv_goto (tgt := 12) hx hb dL_line_6 (by decide) ?_
  refine lv_iconst (v := nI 0) hx hb dL_line_12 (by decide) ?_
  exact W.iret (v := nI 0) hx hb hr (fun t ht hW => ⟨⟨_, (), rfl, rfl, by rw [ht]; exact hP, va_K.moved hW.alike hK, hD⟩, hS.F ht⟩) hS.2.2 dL_line_13
set_option maxHeartbeats 4000000 in
set_option maxRecDepth 100000 in
theorem c_L_clear_ok (l : Launch) (dC : Nat → ClassId) (dI : Nat → Nat → Nat) (cD cZ cI cL : ClassId) (h pf f0 f1 f2 f3 po o0 o1 o2 o3 : Nat) (NF : Nat → UInt64) (GF TF OF : Nat → Int32) (NO : Nat → UInt64) (GO TO OO : Nat → Int32) (nn : Nat) (fb : Bool) (ox : Nat) (F : Nat → Int64) (sz : Nat) (hnn : nn ≤ 6) (en bn : Nat) (hen : en < nn) (hbn : bn < 5) (hG : ∀ j, GF j = 0 ∨ GF j = 1) : Met l yL_clear wsL_clear ({ frames := 3, cells := 0, slots := 0, locals := 65 }) (va_Pc [.ref h, .int (nI (Bool.toNat (fb))), .int (nI (en)), .int (nI (bn)), .ref ox] (fun U => U.heap.size = sz ∧ okL dC dI cD cZ cI cL (wL cD cZ cI cL h pf f0 f1 f2 f3 po o0 o1 o2 o3 NF GF TF OF NO GO TO OO nn fb ox F) U U.heap ∧ va_D (fun _ => True) (wL cD cZ cI cL h pf f0 f1 f2 f3 po o0 o1 o2 o3 NF GF TF OF NO GO TO OO nn fb ox F))) (va_Qi (fun (r : Int32) (u : (Nat → Int64)) => r = nI 0 ∧ u 0 = bz (GF (en * 5 + bn))) (fun u t => atL dC dI cD cZ cI cL (va_A (wL cD cZ cI cL h pf f0 f1 f2 f3 po o0 o1 o2 o3 NF GF TF OF NO GO TO OO nn fb ox F) sz) (wL cD cZ cI cL h pf f0 f1 f2 f3 po o0 o1 o2 o3 NF (upd GF (en * 5 + bn) (nI (Bool.toNat false))) TF OF NO GO TO OO nn fb ox u) t) (va_A (wL cD cZ cI cL h pf f0 f1 f2 f3 po o0 o1 o2 o3 NF GF TF OF NO GO TO OO nn fb ox F) sz)) 0 0 (va_A (wL cD cZ cI cL h pf f0 f1 f2 f3 po o0 o1 o2 o3 NF GF TF OF NO GO TO OO nn fb ox F) sz) := by
  refine va_MetW (cc := cL_clear) (maxL := 6) (ret := (some .int)) (hh := [(0, 19, 22, 19)]) (by decide) rfl ?_
  intro p e s m args below meth c s₁ B hml hv
  obtain ⟨rfl, hsz, hO, hD0⟩ := hv
  obtain ⟨hP, hK, hE⟩ := id hO
  have hx := B.exec
  have hb := B.bytes
  have hr := B.returns
  have hts := atoms_spec (ws := wsL_clear) B.pre
  have hown : s.vm.findClass RL = some m.cls := findClass_of_methodNamed B.named
  have hlocks := B.notSynchronized
  subst hsz
  have hD := hD0.self (sz := s.heap.size)
  generalize hAe : va_A (wL cD cZ cI cL h pf f0 f1 f2 f3 po o0 o1 o2 o3 NF GF TF OF NO GO TO OO nn fb ox F) s.heap.size = A at hD ⊢
  have hA : ∀ q : Nat, s.heap.size ≤ q → A q := fun q h => by rw [← hAe]; exact Or.inr h
  have hS : va_S A s.heap s.heap [] := va_S.rf
  have hP : va_P (dC, dI) vwCl [(h, .inr (1, [.ref (cond fb pf po), .ref (cond fb po pf), .int (nI (nn))])), (pf, .inr (0, [.ref f0, .ref f1, .ref f2, .ref f3])), (f0, .inl (cD, 35, .inr (.inr (.inr (.inl (NF)))))), (f1, .inl (cZ, 35, .inl (GF))), (f2, .inl (cI, 30, .inl (TF))), (f3, .inl (cI, 6, .inl (OF))), (po, .inr (0, [.ref o0, .ref o1, .ref o2, .ref o3])), (o0, .inl (cD, 35, .inr (.inr (.inr (.inl (NO)))))), (o1, .inl (cZ, 35, .inl (GO))), (o2, .inl (cI, 30, .inl (TO))), (o3, .inl (cI, 6, .inl (OO))), (ox, .inl (cL, 1, .inr (.inl (F))))] s.heap := hP
  have hD : va_D A [(h, .inr (1, [.ref (cond fb pf po), .ref (cond fb po pf), .int (nI (nn))])), (pf, .inr (0, [.ref f0, .ref f1, .ref f2, .ref f3])), (f0, .inl (cD, 35, .inr (.inr (.inr (.inl (NF)))))), (f1, .inl (cZ, 35, .inl (GF))), (f2, .inl (cI, 30, .inl (TF))), (f3, .inl (cI, 6, .inl (OF))), (po, .inr (0, [.ref o0, .ref o1, .ref o2, .ref o3])), (o0, .inl (cD, 35, .inr (.inr (.inr (.inl (NO)))))), (o1, .inl (cZ, 35, .inl (GO))), (o2, .inl (cI, 30, .inl (TO))), (o3, .inl (cI, 6, .inl (OO))), (ox, .inl (cL, 1, .inr (.inl (F))))] := hD
  have hl := lv_entry ([.ref h, .int (nI (Bool.toNat (fb))), .int (nI (en)), .int (nI (bn)), .ref ox]) (n := 6) (Nat.le_of_ble_eq_true rfl)
  rw [lg_entry_eq]
  generalize (lg_sl ([.ref h, .int (nI (Bool.toNat (fb))), .int (nI (en)), .int (nI (bn)), .ref ox]) ++ List.replicate (6 - (lg_sl ([.ref h, .int (nI (Bool.toNat (fb))), .int (nI (en)), .int (nI (bn)), .ref ox])).length) Slot.unset).toArray = ls at hl ⊢
  have hl : lv_has ls 6 [(0, .ref h), (1, .int (nI (Bool.toNat (fb)))), (2, .int (nI (en))), (3, .int (nI (bn))), (4, .ref ox)] := hl
  refine lv_aload hx hb dL_clear_0 (lv_at hl 4 rfl) ?_
  refine lv_iconst (v := nI 0) hx hb dL_clear_2 (by decide) ?_
  refine lv_aload_n hx hb dL_clear_3 rfl (lv_at hl 0 rfl) ?_
  refine lv_iload_n hx hb dL_clear_4 rfl (lv_at hl 1 rfl) ?_
  refine lv_iload_n hx hb dL_clear_5 rfl (lv_at hl 2 rfl) ?_
  refine lv_iload_n hx hb dL_clear_6 rfl (lv_at hl 3 rfl) ?_
  have hPc := hP.sub (ws' := [(h, .inr (1, [.ref (cond fb pf po), .ref (cond fb po pf), .int (nI (nn))])), (pf, .inr (0, [.ref f0, .ref f1, .ref f2, .ref f3])), (f0, .inl (cD, 35, .inr (.inr (.inr (.inl (NF)))))), (f1, .inl (cZ, 35, .inl (GF))), (f2, .inl (cI, 30, .inl (TF))), (f3, .inl (cI, 6, .inl (OF))), (po, .inr (0, [.ref o0, .ref o1, .ref o2, .ref o3])), (o0, .inl (cD, 35, .inr (.inr (.inr (.inl (NO)))))), (o1, .inl (cZ, 35, .inl (GO))), (o2, .inl (cI, 30, .inl (TO))), (o3, .inl (cI, 6, .inl (OO)))]) [0, 1, 2, 3, 4, 5, 6, 7, 8, 9, 10] rfl
  have hDc := hD.sub (ws' := [(h, .inr (1, [.ref (cond fb pf po), .ref (cond fb po pf), .int (nI (nn))])), (pf, .inr (0, [.ref f0, .ref f1, .ref f2, .ref f3])), (f0, .inl (cD, 35, .inr (.inr (.inr (.inl (NF)))))), (f1, .inl (cZ, 35, .inl (GF))), (f2, .inl (cI, 30, .inl (TF))), (f3, .inl (cI, 6, .inl (OF))), (po, .inr (0, [.ref o0, .ref o1, .ref o2, .ref o3])), (o0, .inl (cD, 35, .inr (.inr (.inr (.inl (NO)))))), (o1, .inl (cZ, 35, .inl (GO))), (o2, .inl (cI, 30, .inl (TO))), (o3, .inl (cI, 6, .inl (OO)))]) [0, 1, 2, 3, 4, 5, 6, 7, 8, 9, 10] (by decide) rfl
  have hFc := va_free (wc := [(h, .inr (1, [.ref (cond fb pf po), .ref (cond fb po pf), .int (nI (nn))])), (pf, .inr (0, [.ref f0, .ref f1, .ref f2, .ref f3])), (f0, .inl (cD, 35, .inr (.inr (.inr (.inl (NF)))))), (f1, .inl (cZ, 35, .inl (GF))), (f2, .inl (cI, 30, .inl (TF))), (f3, .inl (cI, 6, .inl (OF))), (po, .inr (0, [.ref o0, .ref o1, .ref o2, .ref o3])), (o0, .inl (cD, 35, .inr (.inr (.inr (.inl (NO)))))), (o1, .inl (cZ, 35, .inl (GO))), (o2, .inl (cI, 30, .inl (TO))), (o3, .inl (cI, 6, .inl (OO)))]) hD hS hA [0, 1, 2, 3, 4, 5, 6, 7, 8, 9, 10] rfl
  refine va_calli (va_runV (As := [.int (nI (Bool.toNat (fb))), .int (nI (en)), .int (nI (bn))]) (rest := [.int (nI (0)), .ref ox]) ⟨hx, hb, hml, hown, hts⟩ (c_X1_clear_ok l dC dI cD cZ cI h pf f0 f1 f2 f3 po o0 o1 o2 o3 NF GF TF OF NO GO TO OO nn fb s.heap.size hnn en bn hen hbn hG) (cwV 3 hts gL_clear_X1_clear rfl rfl rfl (by decide +kernel) ⟨Nat.le_of_ble_eq_true rfl, Nat.le_of_ble_eq_true rfl⟩) (okJW_pre ⟨hPc, hK.sub [0, 1, 2] rfl, hE⟩ hDc) rfl rfl hl.1 rfl (lv_room (Nat.le_of_ble_eq_true rfl)) dL_clear_7 ⟨Nat.zero_le _, Nat.zero_le _⟩) hS (fun q _ h => hFc q h) hFc (fun r1 u1 t H1 locs ht hvm hw hB hz1 hk1 hS => ?_)
  obtain ⟨hP1, hK1, hD1⟩ := hB
  rw [ht] at hP1
  obtain ⟨hP, hD⟩ := va_join (wr := [(ox, .inl (cL, 1, .inr (.inl (F))))]) (w1 := [(h, .inr (1, [.ref (cond fb pf po), .ref (cond fb po pf), .int (nI (nn))])), (pf, .inr (0, [.ref f0, .ref f1, .ref f2, .ref f3])), (f0, .inl (cD, 35, .inr (.inr (.inr (.inl (NF)))))), (f1, .inl (cZ, 35, .inl (upd GF (en * 5 + bn) (nI (Bool.toNat false))))), (f2, .inl (cI, 30, .inl (TF))), (f3, .inl (cI, 6, .inl (OF))), (po, .inr (0, [.ref o0, .ref o1, .ref o2, .ref o3])), (o0, .inl (cD, 35, .inr (.inr (.inr (.inl (NO)))))), (o1, .inl (cZ, 35, .inl (GO))), (o2, .inl (cI, 30, .inl (TO))), (o3, .inl (cI, 6, .inl (OO)))]) hP hD [0, 1, 2, 3, 4, 5, 6, 7, 8, 9, 10] [11] rfl rfl (by decide) (by decide) hk1 hFc hP1 hD1
  have hP := hP.sub (ws' := [(h, .inr (1, [.ref (cond fb pf po), .ref (cond fb po pf), .int (nI (nn))])), (pf, .inr (0, [.ref f0, .ref f1, .ref f2, .ref f3])), (f0, .inl (cD, 35, .inr (.inr (.inr (.inl (NF)))))), (f1, .inl (cZ, 35, .inl (upd GF (en * 5 + bn) (nI (Bool.toNat false))))), (f2, .inl (cI, 30, .inl (TF))), (f3, .inl (cI, 6, .inl (OF))), (po, .inr (0, [.ref o0, .ref o1, .ref o2, .ref o3])), (o0, .inl (cD, 35, .inr (.inr (.inr (.inl (NO)))))), (o1, .inl (cZ, 35, .inl (GO))), (o2, .inl (cI, 30, .inl (TO))), (o3, .inl (cI, 6, .inl (OO))), (ox, .inl (cL, 1, .inr (.inl (F))))]) [1, 2, 3, 4, 5, 6, 7, 8, 9, 10, 11, 0] rfl
  have hD := hD.sub (ws' := [(h, .inr (1, [.ref (cond fb pf po), .ref (cond fb po pf), .int (nI (nn))])), (pf, .inr (0, [.ref f0, .ref f1, .ref f2, .ref f3])), (f0, .inl (cD, 35, .inr (.inr (.inr (.inl (NF)))))), (f1, .inl (cZ, 35, .inl (upd GF (en * 5 + bn) (nI (Bool.toNat false))))), (f2, .inl (cI, 30, .inl (TF))), (f3, .inl (cI, 6, .inl (OF))), (po, .inr (0, [.ref o0, .ref o1, .ref o2, .ref o3])), (o0, .inl (cD, 35, .inr (.inr (.inr (.inl (NO)))))), (o1, .inl (cZ, 35, .inl (GO))), (o2, .inl (cI, 30, .inl (TO))), (o3, .inl (cI, 6, .inl (OO))), (ox, .inl (cL, 1, .inr (.inl (F))))]) [1, 2, 3, 4, 5, 6, 7, 8, 9, 10, 11, 0] (by decide) rfl
  generalize H1 = H at hP hS ⊢
  have hP : va_P (dC, dI) vwCl [(h, .inr (1, [.ref (cond fb pf po), .ref (cond fb po pf), .int (nI (nn))])), (pf, .inr (0, [.ref f0, .ref f1, .ref f2, .ref f3])), (f0, .inl (cD, 35, .inr (.inr (.inr (.inl (NF)))))), (f1, .inl (cZ, 35, .inl (upd GF (en * 5 + bn) (nI (Bool.toNat false))))), (f2, .inl (cI, 30, .inl (TF))), (f3, .inl (cI, 6, .inl (OF))), (po, .inr (0, [.ref o0, .ref o1, .ref o2, .ref o3])), (o0, .inl (cD, 35, .inr (.inr (.inr (.inl (NO)))))), (o1, .inl (cZ, 35, .inl (GO))), (o2, .inl (cI, 30, .inl (TO))), (o3, .inl (cI, 6, .inl (OO))), (ox, .inl (cL, 1, .inr (.inl (F))))] H := hP
  have hD : va_D A [(h, .inr (1, [.ref (cond fb pf po), .ref (cond fb po pf), .int (nI (nn))])), (pf, .inr (0, [.ref f0, .ref f1, .ref f2, .ref f3])), (f0, .inl (cD, 35, .inr (.inr (.inr (.inl (NF)))))), (f1, .inl (cZ, 35, .inl (upd GF (en * 5 + bn) (nI (Bool.toNat false))))), (f2, .inl (cI, 30, .inl (TF))), (f3, .inl (cI, 6, .inl (OF))), (po, .inr (0, [.ref o0, .ref o1, .ref o2, .ref o3])), (o0, .inl (cD, 35, .inr (.inr (.inr (.inl (NO)))))), (o1, .inl (cZ, 35, .inl (GO))), (o2, .inl (cI, 30, .inl (TO))), (o3, .inl (cI, 6, .inl (OO))), (ox, .inl (cL, 1, .inr (.inl (F))))] := hD
  subst hw
  refine lv_if_eq (tgt := 17) hx hb dL_clear_10 (by decide) (fun c10 => ?_) (fun c10 => ?_)
  · refine lv_lconst (v := 0) hx hb dL_clear_17 (by decide) ?_
    refine xn_last hx hb hK hP hD hS 11 3 rfl rfl (n := 1) (j := 0) (by decide) (by decide) dL_clear_18 (fun H locs hP hD hS => ?_)
    have hP : va_P (dC, dI) vwCl [(h, .inr (1, [.ref (cond fb pf po), .ref (cond fb po pf), .int (nI (nn))])), (pf, .inr (0, [.ref f0, .ref f1, .ref f2, .ref f3])), (f0, .inl (cD, 35, .inr (.inr (.inr (.inl (NF)))))), (f1, .inl (cZ, 35, .inl (upd GF (en * 5 + bn) (nI (Bool.toNat false))))), (f2, .inl (cI, 30, .inl (TF))), (f3, .inl (cI, 6, .inl (OF))), (po, .inr (0, [.ref o0, .ref o1, .ref o2, .ref o3])), (o0, .inl (cD, 35, .inr (.inr (.inr (.inl (NO)))))), (o1, .inl (cZ, 35, .inl (GO))), (o2, .inl (cI, 30, .inl (TO))), (o3, .inl (cI, 6, .inl (OO))), (ox, .inl (cL, 1, .inr (.inl (vp_updL F 0 0))))] H := hP
    have hD : va_D A [(h, .inr (1, [.ref (cond fb pf po), .ref (cond fb po pf), .int (nI (nn))])), (pf, .inr (0, [.ref f0, .ref f1, .ref f2, .ref f3])), (f0, .inl (cD, 35, .inr (.inr (.inr (.inl (NF)))))), (f1, .inl (cZ, 35, .inl (upd GF (en * 5 + bn) (nI (Bool.toNat false))))), (f2, .inl (cI, 30, .inl (TF))), (f3, .inl (cI, 6, .inl (OF))), (po, .inr (0, [.ref o0, .ref o1, .ref o2, .ref o3])), (o0, .inl (cD, 35, .inr (.inr (.inr (.inl (NO)))))), (o1, .inl (cZ, 35, .inl (GO))), (o2, .inl (cI, 30, .inl (TO))), (o3, .inl (cI, 6, .inl (OO))), (ox, .inl (cL, 1, .inr (.inl (vp_updL F 0 0))))] := hD
    refine lv_goto (tgt := 26) hx hb dL_clear_19 (by decide) ?_
    refine lv_iconst (v := nI 0) hx hb dL_clear_26 (by decide) ?_
    exact W.iret (v := nI 0) hx hb hr (fun t ht hW => ⟨⟨_, vp_updL F 0 0, rfl, ⟨rfl, pk_uLs.trans (by rw [bz, if_pos c10])⟩, by rw [ht]; exact hP, va_K.moved hW.alike hK, hD⟩, hS.F ht⟩) hS.2.2 dL_clear_27
  · refine lv_lconst (v := 1) hx hb dL_clear_13 (by decide) ?_
    refine lv_goto (tgt := 18) hx hb dL_clear_14 (by decide) ?_
    refine xn_last hx hb hK hP hD hS 11 3 rfl rfl (n := 1) (j := 0) (by decide) (by decide) dL_clear_18 (fun H locs hP hD hS => ?_)
    have hP : va_P (dC, dI) vwCl [(h, .inr (1, [.ref (cond fb pf po), .ref (cond fb po pf), .int (nI (nn))])), (pf, .inr (0, [.ref f0, .ref f1, .ref f2, .ref f3])), (f0, .inl (cD, 35, .inr (.inr (.inr (.inl (NF)))))), (f1, .inl (cZ, 35, .inl (upd GF (en * 5 + bn) (nI (Bool.toNat false))))), (f2, .inl (cI, 30, .inl (TF))), (f3, .inl (cI, 6, .inl (OF))), (po, .inr (0, [.ref o0, .ref o1, .ref o2, .ref o3])), (o0, .inl (cD, 35, .inr (.inr (.inr (.inl (NO)))))), (o1, .inl (cZ, 35, .inl (GO))), (o2, .inl (cI, 30, .inl (TO))), (o3, .inl (cI, 6, .inl (OO))), (ox, .inl (cL, 1, .inr (.inl (vp_updL F 0 1))))] H := hP
    have hD : va_D A [(h, .inr (1, [.ref (cond fb pf po), .ref (cond fb po pf), .int (nI (nn))])), (pf, .inr (0, [.ref f0, .ref f1, .ref f2, .ref f3])), (f0, .inl (cD, 35, .inr (.inr (.inr (.inl (NF)))))), (f1, .inl (cZ, 35, .inl (upd GF (en * 5 + bn) (nI (Bool.toNat false))))), (f2, .inl (cI, 30, .inl (TF))), (f3, .inl (cI, 6, .inl (OF))), (po, .inr (0, [.ref o0, .ref o1, .ref o2, .ref o3])), (o0, .inl (cD, 35, .inr (.inr (.inr (.inl (NO)))))), (o1, .inl (cZ, 35, .inl (GO))), (o2, .inl (cI, 30, .inl (TO))), (o3, .inl (cI, 6, .inl (OO))), (ox, .inl (cL, 1, .inr (.inl (vp_updL F 0 1))))] := hD
    refine lv_goto (tgt := 26) hx hb dL_clear_19 (by decide) ?_
    refine lv_iconst (v := nI 0) hx hb dL_clear_26 (by decide) ?_
    exact W.iret (v := nI 0) hx hb hr (fun t ht hW => ⟨⟨_, vp_updL F 0 1, rfl, ⟨rfl, pk_uLs.trans (by rw [bz, if_neg c10])⟩, by rw [ht]; exact hP, va_K.moved hW.alike hK, hD⟩, hS.F ht⟩) hS.2.2 dL_clear_27
set_option maxHeartbeats 4000000 in
set_option maxRecDepth 100000 in
theorem c_L_told_ok (l : Launch) (dC : Nat → ClassId) (dI : Nat → Nat → Nat) (cD cZ cI cL : ClassId) (h pf f0 f1 f2 f3 po o0 o1 o2 o3 : Nat) (NF : Nat → UInt64) (GF TF OF : Nat → Int32) (NO : Nat → UInt64) (GO TO OO : Nat → Int32) (nn : Nat) (fb : Bool) (ox : Nat) (F : Nat → Int64) (sz : Nat) (hnn : nn ≤ 6) (en bn : Nat) (hen : en < nn) (hbn : bn < 5) (hG : ∀ j, GF j = 0 ∨ GF j = 1) (hg : ∀ j, gd (NF j)) (hth : ¬ GF (en * 5 + bn) = 0) : Met l yL_told wsL_told ({ frames := 3, cells := 0, slots := 0, locals := 67 }) (va_Pc [.ref h, .int (nI (Bool.toNat (fb))), .int (nI (en)), .int (nI (bn)), .ref ox] (fun U => U.heap.size = sz ∧ okL dC dI cD cZ cI cL (wL cD cZ cI cL h pf f0 f1 f2 f3 po o0 o1 o2 o3 NF GF TF OF NO GO TO OO nn fb ox F) U U.heap ∧ va_D (fun _ => True) (wL cD cZ cI cL h pf f0 f1 f2 f3 po o0 o1 o2 o3 NF GF TF OF NO GO TO OO nn fb ox F))) (va_Qi (fun (r : Int32) (u : (Nat → Int64)) => r = nI 0 ∧ u 0 = e8 (NF (en * 5 + bn))) (fun u t => atL dC dI cD cZ cI cL (va_A (wL cD cZ cI cL h pf f0 f1 f2 f3 po o0 o1 o2 o3 NF GF TF OF NO GO TO OO nn fb ox F) sz) (wL cD cZ cI cL h pf f0 f1 f2 f3 po o0 o1 o2 o3 NF GF TF OF NO GO TO OO nn fb ox u) t) (va_A (wL cD cZ cI cL h pf f0 f1 f2 f3 po o0 o1 o2 o3 NF GF TF OF NO GO TO OO nn fb ox F) sz)) 0 0 (va_A (wL cD cZ cI cL h pf f0 f1 f2 f3 po o0 o1 o2 o3 NF GF TF OF NO GO TO OO nn fb ox F) sz) := by
  refine va_MetW (cc := cL_told) (maxL := 6) (ret := (some .int)) (hh := [(0, 11, 14, 19), (0, 11, 18, 13)]) (by decide) rfl ?_
  intro p e s m args below meth c s₁ B hml hv
  obtain ⟨rfl, hsz, hO, hD0⟩ := hv
  obtain ⟨hP, hK, hE⟩ := id hO
  have hx := B.exec
  have hb := B.bytes
  have hr := B.returns
  have hts := atoms_spec (ws := wsL_told) B.pre
  have hown : s.vm.findClass RL = some m.cls := findClass_of_methodNamed B.named
  have hlocks := B.notSynchronized
  subst hsz
  have hD := hD0.self (sz := s.heap.size)
  generalize hAe : va_A (wL cD cZ cI cL h pf f0 f1 f2 f3 po o0 o1 o2 o3 NF GF TF OF NO GO TO OO nn fb ox F) s.heap.size = A at hD ⊢
  have hA : ∀ q : Nat, s.heap.size ≤ q → A q := fun q h => by rw [← hAe]; exact Or.inr h
  have hS : va_S A s.heap s.heap [] := va_S.rf
  have hP : va_P (dC, dI) vwCl [(h, .inr (1, [.ref (cond fb pf po), .ref (cond fb po pf), .int (nI (nn))])), (pf, .inr (0, [.ref f0, .ref f1, .ref f2, .ref f3])), (f0, .inl (cD, 35, .inr (.inr (.inr (.inl (NF)))))), (f1, .inl (cZ, 35, .inl (GF))), (f2, .inl (cI, 30, .inl (TF))), (f3, .inl (cI, 6, .inl (OF))), (po, .inr (0, [.ref o0, .ref o1, .ref o2, .ref o3])), (o0, .inl (cD, 35, .inr (.inr (.inr (.inl (NO)))))), (o1, .inl (cZ, 35, .inl (GO))), (o2, .inl (cI, 30, .inl (TO))), (o3, .inl (cI, 6, .inl (OO))), (ox, .inl (cL, 1, .inr (.inl (F))))] s.heap := hP
  have hD : va_D A [(h, .inr (1, [.ref (cond fb pf po), .ref (cond fb po pf), .int (nI (nn))])), (pf, .inr (0, [.ref f0, .ref f1, .ref f2, .ref f3])), (f0, .inl (cD, 35, .inr (.inr (.inr (.inl (NF)))))), (f1, .inl (cZ, 35, .inl (GF))), (f2, .inl (cI, 30, .inl (TF))), (f3, .inl (cI, 6, .inl (OF))), (po, .inr (0, [.ref o0, .ref o1, .ref o2, .ref o3])), (o0, .inl (cD, 35, .inr (.inr (.inr (.inl (NO)))))), (o1, .inl (cZ, 35, .inl (GO))), (o2, .inl (cI, 30, .inl (TO))), (o3, .inl (cI, 6, .inl (OO))), (ox, .inl (cL, 1, .inr (.inl (F))))] := hD
  have hl := lv_entry ([.ref h, .int (nI (Bool.toNat (fb))), .int (nI (en)), .int (nI (bn)), .ref ox]) (n := 6) (Nat.le_of_ble_eq_true rfl)
  rw [lg_entry_eq]
  generalize (lg_sl ([.ref h, .int (nI (Bool.toNat (fb))), .int (nI (en)), .int (nI (bn)), .ref ox]) ++ List.replicate (6 - (lg_sl ([.ref h, .int (nI (Bool.toNat (fb))), .int (nI (en)), .int (nI (bn)), .ref ox])).length) Slot.unset).toArray = ls at hl ⊢
  have hl : lv_has ls 6 [(0, .ref h), (1, .int (nI (Bool.toNat (fb)))), (2, .int (nI (en))), (3, .int (nI (bn))), (4, .ref ox)] := hl
  refine lv_aload hx hb dL_told_0 (lv_at hl 4 rfl) ?_
  refine lv_iconst (v := nI 0) hx hb dL_told_2 (by decide) ?_
  refine lv_aload_n hx hb dL_told_3 rfl (lv_at hl 0 rfl) ?_
  refine lv_iload_n hx hb dL_told_4 rfl (lv_at hl 1 rfl) ?_
  refine lv_iload_n hx hb dL_told_5 rfl (lv_at hl 2 rfl) ?_
  refine lv_iload_n hx hb dL_told_6 rfl (lv_at hl 3 rfl) ?_
  refine vp_callSl (va_Run.run (va_runV (As := [.int (nI (Bool.toNat (fb))), .int (nI (en)), .int (nI (bn))]) (rest := [.int (nI (0)), .ref ox]) ⟨hx, hb, hml, hown, hts⟩ (c_X1_told_ok l dC dI cD cZ cI h pf f0 f1 f2 f3 po o0 o1 o2 o3 NF GF TF OF NO GO TO OO nn fb hnn en bn hen hbn hG hg hth) (cwV 3 hts gL_told_X1_told rfl rfl rfl (by decide +kernel) ⟨Nat.le_of_ble_eq_true rfl, Nat.le_of_ble_eq_true rfl⟩) (okJ_pre ⟨hP.sub (ws' := [(h, .inr (1, [.ref (cond fb pf po), .ref (cond fb po pf), .int (nI (nn))])), (pf, .inr (0, [.ref f0, .ref f1, .ref f2, .ref f3])), (f0, .inl (cD, 35, .inr (.inr (.inr (.inl (NF)))))), (f1, .inl (cZ, 35, .inl (GF))), (f2, .inl (cI, 30, .inl (TF))), (f3, .inl (cI, 6, .inl (OF))), (po, .inr (0, [.ref o0, .ref o1, .ref o2, .ref o3])), (o0, .inl (cD, 35, .inr (.inr (.inr (.inl (NO)))))), (o1, .inl (cZ, 35, .inl (GO))), (o2, .inl (cI, 30, .inl (TO))), (o3, .inl (cI, 6, .inl (OO)))]) [0, 1, 2, 3, 4, 5, 6, 7, 8, 9, 10] rfl, hK.sub [0, 1, 2] rfl, hE⟩) rfl rfl hl.1 rfl (lv_room (Nat.le_of_ble_eq_true rfl)) dL_told_7 ⟨Nat.zero_le _, Nat.zero_le _⟩)) (fun r1 er1 => ?_)
  subst er1
  refine xn_last hx hb hK hP hD hS 11 3 rfl rfl (n := 1) (j := 0) (by decide) (by decide) dL_told_10 (fun H locs hP hD hS => ?_)
  have hP : va_P (dC, dI) vwCl [(h, .inr (1, [.ref (cond fb pf po), .ref (cond fb po pf), .int (nI (nn))])), (pf, .inr (0, [.ref f0, .ref f1, .ref f2, .ref f3])), (f0, .inl (cD, 35, .inr (.inr (.inr (.inl (NF)))))), (f1, .inl (cZ, 35, .inl (GF))), (f2, .inl (cI, 30, .inl (TF))), (f3, .inl (cI, 6, .inl (OF))), (po, .inr (0, [.ref o0, .ref o1, .ref o2, .ref o3])), (o0, .inl (cD, 35, .inr (.inr (.inr (.inl (NO)))))), (o1, .inl (cZ, 35, .inl (GO))), (o2, .inl (cI, 30, .inl (TO))), (o3, .inl (cI, 6, .inl (OO))), (ox, .inl (cL, 1, .inr (.inl (vp_updL F 0 (e8 (NF (en * 5 + bn)))))))] H := hP
  have hD : va_D A [(h, .inr (1, [.ref (cond fb pf po), .ref (cond fb po pf), .int (nI (nn))])), (pf, .inr (0, [.ref f0, .ref f1, .ref f2, .ref f3])), (f0, .inl (cD, 35, .inr (.inr (.inr (.inl (NF)))))), (f1, .inl (cZ, 35, .inl (GF))), (f2, .inl (cI, 30, .inl (TF))), (f3, .inl (cI, 6, .inl (OF))), (po, .inr (0, [.ref o0, .ref o1, .ref o2, .ref o3])), (o0, .inl (cD, 35, .inr (.inr (.inr (.inl (NO)))))), (o1, .inl (cZ, 35, .inl (GO))), (o2, .inl (cI, 30, .inl (TO))), (o3, .inl (cI, 6, .inl (OO))), (ox, .inl (cL, 1, .inr (.inl (vp_updL F 0 (e8 (NF (en * 5 + bn)))))))] := hD
  refine lv_goto (tgt := 22) hx hb dL_told_11 (by decide) ?_
  refine lv_iconst (v := nI 0) hx hb dL_told_22 (by decide) ?_
  exact W.iret (v := nI 0) hx hb hr (fun t ht hW => ⟨⟨_, vp_updL F 0 (e8 (NF (en * 5 + bn))), rfl, ⟨rfl, (show vp_updL F 0 _ 0 = _ from pk_uLs)⟩, by rw [ht]; exact hP, va_K.moved hW.alike hK, hD⟩, hS.F ht⟩) hS.2.2 dL_told_23
set_option maxHeartbeats 4000000 in
set_option maxRecDepth 100000 in
theorem c_L_clear_okN (l : Launch) (dC : Nat → ClassId) (dI : Nat → Nat → Nat) (cD cZ cI cL : ClassId) (h pf f0 f1 f2 f3 po o0 o1 o2 o3 : Nat) (NF : Nat → UInt64) (GF TF OF : Nat → Int32) (NO : Nat → UInt64) (GO TO OO : Nat → Int32) (nn : Nat) (fb : Bool) (ox : Nat) (F : Nat → Int64) (sz : Nat) (bn : Nat) (hbn : bn < 5) (hG : ∀ j, GF j = 0 ∨ GF j = 1) : Met l yL_clear wsL_clear ({ frames := 3, cells := 0, slots := 0, locals := 65 }) (va_Pc [.ref h, .int (nI (Bool.toNat (fb))), .int (-1), .int (nI (bn)), .ref ox] (fun U => U.heap.size = sz ∧ okL dC dI cD cZ cI cL (wL cD cZ cI cL h pf f0 f1 f2 f3 po o0 o1 o2 o3 NF GF TF OF NO GO TO OO nn fb ox F) U U.heap ∧ va_D (fun _ => True) (wL cD cZ cI cL h pf f0 f1 f2 f3 po o0 o1 o2 o3 NF GF TF OF NO GO TO OO nn fb ox F))) (va_Qi (fun (r : Int32) (u : (Nat → Int64)) => r = nI 0 ∧ u 0 = bz (GF (6 * 5 + bn))) (fun u t => atL dC dI cD cZ cI cL (va_A (wL cD cZ cI cL h pf f0 f1 f2 f3 po o0 o1 o2 o3 NF GF TF OF NO GO TO OO nn fb ox F) sz) (wL cD cZ cI cL h pf f0 f1 f2 f3 po o0 o1 o2 o3 NF (upd GF (6 * 5 + bn) (nI (Bool.toNat false))) TF OF NO GO TO OO nn fb ox u) t) (va_A (wL cD cZ cI cL h pf f0 f1 f2 f3 po o0 o1 o2 o3 NF GF TF OF NO GO TO OO nn fb ox F) sz)) 0 0 (va_A (wL cD cZ cI cL h pf f0 f1 f2 f3 po o0 o1 o2 o3 NF GF TF OF NO GO TO OO nn fb ox F) sz) := by
  refine va_MetW (cc := cL_clear) (maxL := 6) (ret := (some .int)) (hh := [(0, 19, 22, 19)]) (by decide) rfl ?_
  intro p e s m args below meth c s₁ B hml hv
  obtain ⟨rfl, hsz, hO, hD0⟩ := hv
  obtain ⟨hP, hK, hE⟩ := id hO
  have hx := B.exec
  have hb := B.bytes
  have hr := B.returns
  have hts := atoms_spec (ws := wsL_clear) B.pre
  have hown : s.vm.findClass RL = some m.cls := findClass_of_methodNamed B.named
  have hlocks := B.notSynchronized
  subst hsz
  have hD := hD0.self (sz := s.heap.size)
  generalize hAe : va_A (wL cD cZ cI cL h pf f0 f1 f2 f3 po o0 o1 o2 o3 NF GF TF OF NO GO TO OO nn fb ox F) s.heap.size = A at hD ⊢
  have hA : ∀ q : Nat, s.heap.size ≤ q → A q := fun q h => by rw [← hAe]; exact Or.inr h
  have hS : va_S A s.heap s.heap [] := va_S.rf
  have hP : va_P (dC, dI) vwCl [(h, .inr (1, [.ref (cond fb pf po), .ref (cond fb po pf), .int (nI (nn))])), (pf, .inr (0, [.ref f0, .ref f1, .ref f2, .ref f3])), (f0, .inl (cD, 35, .inr (.inr (.inr (.inl (NF)))))), (f1, .inl (cZ, 35, .inl (GF))), (f2, .inl (cI, 30, .inl (TF))), (f3, .inl (cI, 6, .inl (OF))), (po, .inr (0, [.ref o0, .ref o1, .ref o2, .ref o3])), (o0, .inl (cD, 35, .inr (.inr (.inr (.inl (NO)))))), (o1, .inl (cZ, 35, .inl (GO))), (o2, .inl (cI, 30, .inl (TO))), (o3, .inl (cI, 6, .inl (OO))), (ox, .inl (cL, 1, .inr (.inl (F))))] s.heap := hP
  have hD : va_D A [(h, .inr (1, [.ref (cond fb pf po), .ref (cond fb po pf), .int (nI (nn))])), (pf, .inr (0, [.ref f0, .ref f1, .ref f2, .ref f3])), (f0, .inl (cD, 35, .inr (.inr (.inr (.inl (NF)))))), (f1, .inl (cZ, 35, .inl (GF))), (f2, .inl (cI, 30, .inl (TF))), (f3, .inl (cI, 6, .inl (OF))), (po, .inr (0, [.ref o0, .ref o1, .ref o2, .ref o3])), (o0, .inl (cD, 35, .inr (.inr (.inr (.inl (NO)))))), (o1, .inl (cZ, 35, .inl (GO))), (o2, .inl (cI, 30, .inl (TO))), (o3, .inl (cI, 6, .inl (OO))), (ox, .inl (cL, 1, .inr (.inl (F))))] := hD
  have hl := lv_entry ([.ref h, .int (nI (Bool.toNat (fb))), .int (-1), .int (nI (bn)), .ref ox]) (n := 6) (Nat.le_of_ble_eq_true rfl)
  rw [lg_entry_eq]
  generalize (lg_sl ([.ref h, .int (nI (Bool.toNat (fb))), .int (-1), .int (nI (bn)), .ref ox]) ++ List.replicate (6 - (lg_sl ([.ref h, .int (nI (Bool.toNat (fb))), .int (-1), .int (nI (bn)), .ref ox])).length) Slot.unset).toArray = ls at hl ⊢
  have hl : lv_has ls 6 [(0, .ref h), (1, .int (nI (Bool.toNat (fb)))), (2, .int (-1)), (3, .int (nI (bn))), (4, .ref ox)] := hl
  refine lv_aload hx hb dL_clear_0 (lv_at hl 4 rfl) ?_
  refine lv_iconst (v := nI 0) hx hb dL_clear_2 (by decide) ?_
  refine lv_aload_n hx hb dL_clear_3 rfl (lv_at hl 0 rfl) ?_
  refine lv_iload_n hx hb dL_clear_4 rfl (lv_at hl 1 rfl) ?_
  refine lv_iload_n hx hb dL_clear_5 rfl (lv_at hl 2 rfl) ?_
  refine lv_iload_n hx hb dL_clear_6 rfl (lv_at hl 3 rfl) ?_
  have hPc := hP.sub (ws' := [(h, .inr (1, [.ref (cond fb pf po), .ref (cond fb po pf), .int (nI (nn))])), (pf, .inr (0, [.ref f0, .ref f1, .ref f2, .ref f3])), (f0, .inl (cD, 35, .inr (.inr (.inr (.inl (NF)))))), (f1, .inl (cZ, 35, .inl (GF))), (f2, .inl (cI, 30, .inl (TF))), (f3, .inl (cI, 6, .inl (OF))), (po, .inr (0, [.ref o0, .ref o1, .ref o2, .ref o3])), (o0, .inl (cD, 35, .inr (.inr (.inr (.inl (NO)))))), (o1, .inl (cZ, 35, .inl (GO))), (o2, .inl (cI, 30, .inl (TO))), (o3, .inl (cI, 6, .inl (OO)))]) [0, 1, 2, 3, 4, 5, 6, 7, 8, 9, 10] rfl
  have hDc := hD.sub (ws' := [(h, .inr (1, [.ref (cond fb pf po), .ref (cond fb po pf), .int (nI (nn))])), (pf, .inr (0, [.ref f0, .ref f1, .ref f2, .ref f3])), (f0, .inl (cD, 35, .inr (.inr (.inr (.inl (NF)))))), (f1, .inl (cZ, 35, .inl (GF))), (f2, .inl (cI, 30, .inl (TF))), (f3, .inl (cI, 6, .inl (OF))), (po, .inr (0, [.ref o0, .ref o1, .ref o2, .ref o3])), (o0, .inl (cD, 35, .inr (.inr (.inr (.inl (NO)))))), (o1, .inl (cZ, 35, .inl (GO))), (o2, .inl (cI, 30, .inl (TO))), (o3, .inl (cI, 6, .inl (OO)))]) [0, 1, 2, 3, 4, 5, 6, 7, 8, 9, 10] (by decide) rfl
  have hFc := va_free (wc := [(h, .inr (1, [.ref (cond fb pf po), .ref (cond fb po pf), .int (nI (nn))])), (pf, .inr (0, [.ref f0, .ref f1, .ref f2, .ref f3])), (f0, .inl (cD, 35, .inr (.inr (.inr (.inl (NF)))))), (f1, .inl (cZ, 35, .inl (GF))), (f2, .inl (cI, 30, .inl (TF))), (f3, .inl (cI, 6, .inl (OF))), (po, .inr (0, [.ref o0, .ref o1, .ref o2, .ref o3])), (o0, .inl (cD, 35, .inr (.inr (.inr (.inl (NO)))))), (o1, .inl (cZ, 35, .inl (GO))), (o2, .inl (cI, 30, .inl (TO))), (o3, .inl (cI, 6, .inl (OO)))]) hD hS hA [0, 1, 2, 3, 4, 5, 6, 7, 8, 9, 10] rfl
  refine va_calli (va_runV (As := [.int (nI (Bool.toNat (fb))), .int (-1), .int (nI (bn))]) (rest := [.int (nI (0)), .ref ox]) ⟨hx, hb, hml, hown, hts⟩ (c_X1_clear_okN l dC dI cD cZ cI h pf f0 f1 f2 f3 po o0 o1 o2 o3 NF GF TF OF NO GO TO OO nn fb s.heap.size bn hbn hG) (cwV 3 hts gL_clear_X1_clear rfl rfl rfl (by decide +kernel) ⟨Nat.le_of_ble_eq_true rfl, Nat.le_of_ble_eq_true rfl⟩) (okJW_pre ⟨hPc, hK.sub [0, 1, 2] rfl, hE⟩ hDc) rfl rfl hl.1 rfl (lv_room (Nat.le_of_ble_eq_true rfl)) dL_clear_7 ⟨Nat.zero_le _, Nat.zero_le _⟩) hS (fun q _ h => hFc q h) hFc (fun r1 u1 t H1 locs ht hvm hw hB hz1 hk1 hS => ?_)
  obtain ⟨hP1, hK1, hD1⟩ := hB
  rw [ht] at hP1
  obtain ⟨hP, hD⟩ := va_join (wr := [(ox, .inl (cL, 1, .inr (.inl (F))))]) (w1 := [(h, .inr (1, [.ref (cond fb pf po), .ref (cond fb po pf), .int (nI (nn))])), (pf, .inr (0, [.ref f0, .ref f1, .ref f2, .ref f3])), (f0, .inl (cD, 35, .inr (.inr (.inr (.inl (NF)))))), (f1, .inl (cZ, 35, .inl (upd GF (6 * 5 + bn) (nI (Bool.toNat false))))), (f2, .inl (cI, 30, .inl (TF))), (f3, .inl (cI, 6, .inl (OF))), (po, .inr (0, [.ref o0, .ref o1, .ref o2, .ref o3])), (o0, .inl (cD, 35, .inr (.inr (.inr (.inl (NO)))))), (o1, .inl (cZ, 35, .inl (GO))), (o2, .inl (cI, 30, .inl (TO))), (o3, .inl (cI, 6, .inl (OO)))]) hP hD [0, 1, 2, 3, 4, 5, 6, 7, 8, 9, 10] [11] rfl rfl (by decide) (by decide) hk1 hFc hP1 hD1
  have hP := hP.sub (ws' := [(h, .inr (1, [.ref (cond fb pf po), .ref (cond fb po pf), .int (nI (nn))])), (pf, .inr (0, [.ref f0, .ref f1, .ref f2, .ref f3])), (f0, .inl (cD, 35, .inr (.inr (.inr (.inl (NF)))))), (f1, .inl (cZ, 35, .inl (upd GF (6 * 5 + bn) (nI (Bool.toNat false))))), (f2, .inl (cI, 30, .inl (TF))), (f3, .inl (cI, 6, .inl (OF))), (po, .inr (0, [.ref o0, .ref o1, .ref o2, .ref o3])), (o0, .inl (cD, 35, .inr (.inr (.inr (.inl (NO)))))), (o1, .inl (cZ, 35, .inl (GO))), (o2, .inl (cI, 30, .inl (TO))), (o3, .inl (cI, 6, .inl (OO))), (ox, .inl (cL, 1, .inr (.inl (F))))]) [1, 2, 3, 4, 5, 6, 7, 8, 9, 10, 11, 0] rfl
  have hD := hD.sub (ws' := [(h, .inr (1, [.ref (cond fb pf po), .ref (cond fb po pf), .int (nI (nn))])), (pf, .inr (0, [.ref f0, .ref f1, .ref f2, .ref f3])), (f0, .inl (cD, 35, .inr (.inr (.inr (.inl (NF)))))), (f1, .inl (cZ, 35, .inl (upd GF (6 * 5 + bn) (nI (Bool.toNat false))))), (f2, .inl (cI, 30, .inl (TF))), (f3, .inl (cI, 6, .inl (OF))), (po, .inr (0, [.ref o0, .ref o1, .ref o2, .ref o3])), (o0, .inl (cD, 35, .inr (.inr (.inr (.inl (NO)))))), (o1, .inl (cZ, 35, .inl (GO))), (o2, .inl (cI, 30, .inl (TO))), (o3, .inl (cI, 6, .inl (OO))), (ox, .inl (cL, 1, .inr (.inl (F))))]) [1, 2, 3, 4, 5, 6, 7, 8, 9, 10, 11, 0] (by decide) rfl
  generalize H1 = H at hP hS ⊢
  have hP : va_P (dC, dI) vwCl [(h, .inr (1, [.ref (cond fb pf po), .ref (cond fb po pf), .int (nI (nn))])), (pf, .inr (0, [.ref f0, .ref f1, .ref f2, .ref f3])), (f0, .inl (cD, 35, .inr (.inr (.inr (.inl (NF)))))), (f1, .inl (cZ, 35, .inl (upd GF (6 * 5 + bn) (nI (Bool.toNat false))))), (f2, .inl (cI, 30, .inl (TF))), (f3, .inl (cI, 6, .inl (OF))), (po, .inr (0, [.ref o0, .ref o1, .ref o2, .ref o3])), (o0, .inl (cD, 35, .inr (.inr (.inr (.inl (NO)))))), (o1, .inl (cZ, 35, .inl (GO))), (o2, .inl (cI, 30, .inl (TO))), (o3, .inl (cI, 6, .inl (OO))), (ox, .inl (cL, 1, .inr (.inl (F))))] H := hP
  have hD : va_D A [(h, .inr (1, [.ref (cond fb pf po), .ref (cond fb po pf), .int (nI (nn))])), (pf, .inr (0, [.ref f0, .ref f1, .ref f2, .ref f3])), (f0, .inl (cD, 35, .inr (.inr (.inr (.inl (NF)))))), (f1, .inl (cZ, 35, .inl (upd GF (6 * 5 + bn) (nI (Bool.toNat false))))), (f2, .inl (cI, 30, .inl (TF))), (f3, .inl (cI, 6, .inl (OF))), (po, .inr (0, [.ref o0, .ref o1, .ref o2, .ref o3])), (o0, .inl (cD, 35, .inr (.inr (.inr (.inl (NO)))))), (o1, .inl (cZ, 35, .inl (GO))), (o2, .inl (cI, 30, .inl (TO))), (o3, .inl (cI, 6, .inl (OO))), (ox, .inl (cL, 1, .inr (.inl (F))))] := hD
  subst hw
  refine lv_if_eq (tgt := 17) hx hb dL_clear_10 (by decide) (fun c10 => ?_) (fun c10 => ?_)
  · refine lv_lconst (v := 0) hx hb dL_clear_17 (by decide) ?_
    refine xn_last hx hb hK hP hD hS 11 3 rfl rfl (n := 1) (j := 0) (by decide) (by decide) dL_clear_18 (fun H locs hP hD hS => ?_)
    have hP : va_P (dC, dI) vwCl [(h, .inr (1, [.ref (cond fb pf po), .ref (cond fb po pf), .int (nI (nn))])), (pf, .inr (0, [.ref f0, .ref f1, .ref f2, .ref f3])), (f0, .inl (cD, 35, .inr (.inr (.inr (.inl (NF)))))), (f1, .inl (cZ, 35, .inl (upd GF (6 * 5 + bn) (nI (Bool.toNat false))))), (f2, .inl (cI, 30, .inl (TF))), (f3, .inl (cI, 6, .inl (OF))), (po, .inr (0, [.ref o0, .ref o1, .ref o2, .ref o3])), (o0, .inl (cD, 35, .inr (.inr (.inr (.inl (NO)))))), (o1, .inl (cZ, 35, .inl (GO))), (o2, .inl (cI, 30, .inl (TO))), (o3, .inl (cI, 6, .inl (OO))), (ox, .inl (cL, 1, .inr (.inl (vp_updL F 0 0))))] H := hP
    have hD : va_D A [(h, .inr (1, [.ref (cond fb pf po), .ref (cond fb po pf), .int (nI (nn))])), (pf, .inr (0, [.ref f0, .ref f1, .ref f2, .ref f3])), (f0, .inl (cD, 35, .inr (.inr (.inr (.inl (NF)))))), (f1, .inl (cZ, 35, .inl (upd GF (6 * 5 + bn) (nI (Bool.toNat false))))), (f2, .inl (cI, 30, .inl (TF))), (f3, .inl (cI, 6, .inl (OF))), (po, .inr (0, [.ref o0, .ref o1, .ref o2, .ref o3])), (o0, .inl (cD, 35, .inr (.inr (.inr (.inl (NO)))))), (o1, .inl (cZ, 35, .inl (GO))), (o2, .inl (cI, 30, .inl (TO))), (o3, .inl (cI, 6, .inl (OO))), (ox, .inl (cL, 1, .inr (.inl (vp_updL F 0 0))))] := hD
    refine lv_goto (tgt := 26) hx hb dL_clear_19 (by decide) ?_
    refine lv_iconst (v := nI 0) hx hb dL_clear_26 (by decide) ?_
    exact W.iret (v := nI 0) hx hb hr (fun t ht hW => ⟨⟨_, vp_updL F 0 0, rfl, ⟨rfl, pk_uLs.trans (by rw [bz, if_pos c10])⟩, by rw [ht]; exact hP, va_K.moved hW.alike hK, hD⟩, hS.F ht⟩) hS.2.2 dL_clear_27
  · refine lv_lconst (v := 1) hx hb dL_clear_13 (by decide) ?_
    refine lv_goto (tgt := 18) hx hb dL_clear_14 (by decide) ?_
    refine xn_last hx hb hK hP hD hS 11 3 rfl rfl (n := 1) (j := 0) (by decide) (by decide) dL_clear_18 (fun H locs hP hD hS => ?_)
    have hP : va_P (dC, dI) vwCl [(h, .inr (1, [.ref (cond fb pf po), .ref (cond fb po pf), .int (nI (nn))])), (pf, .inr (0, [.ref f0, .ref f1, .ref f2, .ref f3])), (f0, .inl (cD, 35, .inr (.inr (.inr (.inl (NF)))))), (f1, .inl (cZ, 35, .inl (upd GF (6 * 5 + bn) (nI (Bool.toNat false))))), (f2, .inl (cI, 30, .inl (TF))), (f3, .inl (cI, 6, .inl (OF))), (po, .inr (0, [.ref o0, .ref o1, .ref o2, .ref o3])), (o0, .inl (cD, 35, .inr (.inr (.inr (.inl (NO)))))), (o1, .inl (cZ, 35, .inl (GO))), (o2, .inl (cI, 30, .inl (TO))), (o3, .inl (cI, 6, .inl (OO))), (ox, .inl (cL, 1, .inr (.inl (vp_updL F 0 1))))] H := hP
    have hD : va_D A [(h, .inr (1, [.ref (cond fb pf po), .ref (cond fb po pf), .int (nI (nn))])), (pf, .inr (0, [.ref f0, .ref f1, .ref f2, .ref f3])), (f0, .inl (cD, 35, .inr (.inr (.inr (.inl (NF)))))), (f1, .inl (cZ, 35, .inl (upd GF (6 * 5 + bn) (nI (Bool.toNat false))))), (f2, .inl (cI, 30, .inl (TF))), (f3, .inl (cI, 6, .inl (OF))), (po, .inr (0, [.ref o0, .ref o1, .ref o2, .ref o3])), (o0, .inl (cD, 35, .inr (.inr (.inr (.inl (NO)))))), (o1, .inl (cZ, 35, .inl (GO))), (o2, .inl (cI, 30, .inl (TO))), (o3, .inl (cI, 6, .inl (OO))), (ox, .inl (cL, 1, .inr (.inl (vp_updL F 0 1))))] := hD
    refine lv_goto (tgt := 26) hx hb dL_clear_19 (by decide) ?_
    refine lv_iconst (v := nI 0) hx hb dL_clear_26 (by decide) ?_
    exact W.iret (v := nI 0) hx hb hr (fun t ht hW => ⟨⟨_, vp_updL F 0 1, rfl, ⟨rfl, pk_uLs.trans (by rw [bz, if_neg c10])⟩, by rw [ht]; exact hP, va_K.moved hW.alike hK, hD⟩, hS.F ht⟩) hS.2.2 dL_clear_27
set_option maxHeartbeats 4000000 in
set_option maxRecDepth 100000 in
theorem c_L_told_okN (l : Launch) (dC : Nat → ClassId) (dI : Nat → Nat → Nat) (cD cZ cI cL : ClassId) (h pf f0 f1 f2 f3 po o0 o1 o2 o3 : Nat) (NF : Nat → UInt64) (GF TF OF : Nat → Int32) (NO : Nat → UInt64) (GO TO OO : Nat → Int32) (nn : Nat) (fb : Bool) (ox : Nat) (F : Nat → Int64) (sz : Nat) (bn : Nat) (hbn : bn < 5) (hG : ∀ j, GF j = 0 ∨ GF j = 1) (hg : ∀ j, gd (NF j)) (hth : ¬ GF (6 * 5 + bn) = 0) : Met l yL_told wsL_told ({ frames := 3, cells := 0, slots := 0, locals := 67 }) (va_Pc [.ref h, .int (nI (Bool.toNat (fb))), .int (-1), .int (nI (bn)), .ref ox] (fun U => U.heap.size = sz ∧ okL dC dI cD cZ cI cL (wL cD cZ cI cL h pf f0 f1 f2 f3 po o0 o1 o2 o3 NF GF TF OF NO GO TO OO nn fb ox F) U U.heap ∧ va_D (fun _ => True) (wL cD cZ cI cL h pf f0 f1 f2 f3 po o0 o1 o2 o3 NF GF TF OF NO GO TO OO nn fb ox F))) (va_Qi (fun (r : Int32) (u : (Nat → Int64)) => r = nI 0 ∧ u 0 = e8 (NF (6 * 5 + bn))) (fun u t => atL dC dI cD cZ cI cL (va_A (wL cD cZ cI cL h pf f0 f1 f2 f3 po o0 o1 o2 o3 NF GF TF OF NO GO TO OO nn fb ox F) sz) (wL cD cZ cI cL h pf f0 f1 f2 f3 po o0 o1 o2 o3 NF GF TF OF NO GO TO OO nn fb ox u) t) (va_A (wL cD cZ cI cL h pf f0 f1 f2 f3 po o0 o1 o2 o3 NF GF TF OF NO GO TO OO nn fb ox F) sz)) 0 0 (va_A (wL cD cZ cI cL h pf f0 f1 f2 f3 po o0 o1 o2 o3 NF GF TF OF NO GO TO OO nn fb ox F) sz) := by
  refine va_MetW (cc := cL_told) (maxL := 6) (ret := (some .int)) (hh := [(0, 11, 14, 19), (0, 11, 18, 13)]) (by decide) rfl ?_
  intro p e s m args below meth c s₁ B hml hv
  obtain ⟨rfl, hsz, hO, hD0⟩ := hv
  obtain ⟨hP, hK, hE⟩ := id hO
  have hx := B.exec
  have hb := B.bytes
  have hr := B.returns
  have hts := atoms_spec (ws := wsL_told) B.pre
  have hown : s.vm.findClass RL = some m.cls := findClass_of_methodNamed B.named
  have hlocks := B.notSynchronized
  subst hsz
  have hD := hD0.self (sz := s.heap.size)
  generalize hAe : va_A (wL cD cZ cI cL h pf f0 f1 f2 f3 po o0 o1 o2 o3 NF GF TF OF NO GO TO OO nn fb ox F) s.heap.size = A at hD ⊢
  have hA : ∀ q : Nat, s.heap.size ≤ q → A q := fun q h => by rw [← hAe]; exact Or.inr h
  have hS : va_S A s.heap s.heap [] := va_S.rf
  have hP : va_P (dC, dI) vwCl [(h, .inr (1, [.ref (cond fb pf po), .ref (cond fb po pf), .int (nI (nn))])), (pf, .inr (0, [.ref f0, .ref f1, .ref f2, .ref f3])), (f0, .inl (cD, 35, .inr (.inr (.inr (.inl (NF)))))), (f1, .inl (cZ, 35, .inl (GF))), (f2, .inl (cI, 30, .inl (TF))), (f3, .inl (cI, 6, .inl (OF))), (po, .inr (0, [.ref o0, .ref o1, .ref o2, .ref o3])), (o0, .inl (cD, 35, .inr (.inr (.inr (.inl (NO)))))), (o1, .inl (cZ, 35, .inl (GO))), (o2, .inl (cI, 30, .inl (TO))), (o3, .inl (cI, 6, .inl (OO))), (ox, .inl (cL, 1, .inr (.inl (F))))] s.heap := hP
  have hD : va_D A [(h, .inr (1, [.ref (cond fb pf po), .ref (cond fb po pf), .int (nI (nn))])), (pf, .inr (0, [.ref f0, .ref f1, .ref f2, .ref f3])), (f0, .inl (cD, 35, .inr (.inr (.inr (.inl (NF)))))), (f1, .inl (cZ, 35, .inl (GF))), (f2, .inl (cI, 30, .inl (TF))), (f3, .inl (cI, 6, .inl (OF))), (po, .inr (0, [.ref o0, .ref o1, .ref o2, .ref o3])), (o0, .inl (cD, 35, .inr (.inr (.inr (.inl (NO)))))), (o1, .inl (cZ, 35, .inl (GO))), (o2, .inl (cI, 30, .inl (TO))), (o3, .inl (cI, 6, .inl (OO))), (ox, .inl (cL, 1, .inr (.inl (F))))] := hD
  have hl := lv_entry ([.ref h, .int (nI (Bool.toNat (fb))), .int (-1), .int (nI (bn)), .ref ox]) (n := 6) (Nat.le_of_ble_eq_true rfl)
  rw [lg_entry_eq]
  generalize (lg_sl ([.ref h, .int (nI (Bool.toNat (fb))), .int (-1), .int (nI (bn)), .ref ox]) ++ List.replicate (6 - (lg_sl ([.ref h, .int (nI (Bool.toNat (fb))), .int (-1), .int (nI (bn)), .ref ox])).length) Slot.unset).toArray = ls at hl ⊢
  have hl : lv_has ls 6 [(0, .ref h), (1, .int (nI (Bool.toNat (fb)))), (2, .int (-1)), (3, .int (nI (bn))), (4, .ref ox)] := hl
  refine lv_aload hx hb dL_told_0 (lv_at hl 4 rfl) ?_
  refine lv_iconst (v := nI 0) hx hb dL_told_2 (by decide) ?_
  refine lv_aload_n hx hb dL_told_3 rfl (lv_at hl 0 rfl) ?_
  refine lv_iload_n hx hb dL_told_4 rfl (lv_at hl 1 rfl) ?_
  refine lv_iload_n hx hb dL_told_5 rfl (lv_at hl 2 rfl) ?_
  refine lv_iload_n hx hb dL_told_6 rfl (lv_at hl 3 rfl) ?_
  refine vp_callSl (va_Run.run (va_runV (As := [.int (nI (Bool.toNat (fb))), .int (-1), .int (nI (bn))]) (rest := [.int (nI (0)), .ref ox]) ⟨hx, hb, hml, hown, hts⟩ (c_X1_told_okN l dC dI cD cZ cI h pf f0 f1 f2 f3 po o0 o1 o2 o3 NF GF TF OF NO GO TO OO nn fb bn hbn hG hg hth) (cwV 3 hts gL_told_X1_told rfl rfl rfl (by decide +kernel) ⟨Nat.le_of_ble_eq_true rfl, Nat.le_of_ble_eq_true rfl⟩) (okJ_pre ⟨hP.sub (ws' := [(h, .inr (1, [.ref (cond fb pf po), .ref (cond fb po pf), .int (nI (nn))])), (pf, .inr (0, [.ref f0, .ref f1, .ref f2, .ref f3])), (f0, .inl (cD, 35, .inr (.inr (.inr (.inl (NF)))))), (f1, .inl (cZ, 35, .inl (GF))), (f2, .inl (cI, 30, .inl (TF))), (f3, .inl (cI, 6, .inl (OF))), (po, .inr (0, [.ref o0, .ref o1, .ref o2, .ref o3])), (o0, .inl (cD, 35, .inr (.inr (.inr (.inl (NO)))))), (o1, .inl (cZ, 35, .inl (GO))), (o2, .inl (cI, 30, .inl (TO))), (o3, .inl (cI, 6, .inl (OO)))]) [0, 1, 2, 3, 4, 5, 6, 7, 8, 9, 10] rfl, hK.sub [0, 1, 2] rfl, hE⟩) rfl rfl hl.1 rfl (lv_room (Nat.le_of_ble_eq_true rfl)) dL_told_7 ⟨Nat.zero_le _, Nat.zero_le _⟩)) (fun r1 er1 => ?_)
  subst er1
  refine xn_last hx hb hK hP hD hS 11 3 rfl rfl (n := 1) (j := 0) (by decide) (by decide) dL_told_10 (fun H locs hP hD hS => ?_)
  have hP : va_P (dC, dI) vwCl [(h, .inr (1, [.ref (cond fb pf po), .ref (cond fb po pf), .int (nI (nn))])), (pf, .inr (0, [.ref f0, .ref f1, .ref f2, .ref f3])), (f0, .inl (cD, 35, .inr (.inr (.inr (.inl (NF)))))), (f1, .inl (cZ, 35, .inl (GF))), (f2, .inl (cI, 30, .inl (TF))), (f3, .inl (cI, 6, .inl (OF))), (po, .inr (0, [.ref o0, .ref o1, .ref o2, .ref o3])), (o0, .inl (cD, 35, .inr (.inr (.inr (.inl (NO)))))), (o1, .inl (cZ, 35, .inl (GO))), (o2, .inl (cI, 30, .inl (TO))), (o3, .inl (cI, 6, .inl (OO))), (ox, .inl (cL, 1, .inr (.inl (vp_updL F 0 (e8 (NF (6 * 5 + bn)))))))] H := hP
  have hD : va_D A [(h, .inr (1, [.ref (cond fb pf po), .ref (cond fb po pf), .int (nI (nn))])), (pf, .inr (0, [.ref f0, .ref f1, .ref f2, .ref f3])), (f0, .inl (cD, 35, .inr (.inr (.inr (.inl (NF)))))), (f1, .inl (cZ, 35, .inl (GF))), (f2, .inl (cI, 30, .inl (TF))), (f3, .inl (cI, 6, .inl (OF))), (po, .inr (0, [.ref o0, .ref o1, .ref o2, .ref o3])), (o0, .inl (cD, 35, .inr (.inr (.inr (.inl (NO)))))), (o1, .inl (cZ, 35, .inl (GO))), (o2, .inl (cI, 30, .inl (TO))), (o3, .inl (cI, 6, .inl (OO))), (ox, .inl (cL, 1, .inr (.inl (vp_updL F 0 (e8 (NF (6 * 5 + bn)))))))] := hD
  refine lv_goto (tgt := 22) hx hb dL_told_11 (by decide) ?_
  refine lv_iconst (v := nI 0) hx hb dL_told_22 (by decide) ?_
  exact W.iret (v := nI 0) hx hb hr (fun t ht hW => ⟨⟨_, vp_updL F 0 (e8 (NF (6 * 5 + bn))), rfl, ⟨rfl, (show vp_updL F 0 _ 0 = _ from pk_uLs)⟩, by rw [ht]; exact hP, va_K.moved hW.alike hK, hD⟩, hS.F ht⟩) hS.2.2 dL_told_23
set_option maxHeartbeats 4000000 in
set_option maxRecDepth 100000 in
theorem c_L_holds_ok (l : Launch) (dC : Nat → ClassId) (dI : Nat → Nat → Nat) (cD cZ cI cL : ClassId) (h pf f0 f1 f2 f3 po o0 o1 o2 o3 : Nat) (NF : Nat → UInt64) (GF TF OF : Nat → Int32) (NO : Nat → UInt64) (GO TO OO : Nat → Int32) (nn : Nat) (fb : Bool) (ox : Nat) (F : Nat → Int64) (sz : Nat) (hnn : nn ≤ 6) (en bn : Nat) (hen : en < nn) (hbn : bn < 5) (kn : Nat) (hkn : kn < 24) : Met l yL_holds wsL_holds ({ frames := 3, cells := 0, slots := 0, locals := 75 }) (va_Pc [.ref h, .int (nI (Bool.toNat (fb))), .int (nI (en)), .int (nI (bn)), .int (nI (kn)), .ref ox] (fun U => U.heap.size = sz ∧ okL dC dI cD cZ cI cL (wL cD cZ cI cL h pf f0 f1 f2 f3 po o0 o1 o2 o3 NF GF TF OF NO GO TO OO nn fb ox F) U U.heap ∧ va_D (fun _ => True) (wL cD cZ cI cL h pf f0 f1 f2 f3 po o0 o1 o2 o3 NF GF TF OF NO GO TO OO nn fb ox F))) (va_Qi (fun (r : Int32) (u : (Nat → Int64)) => r = nI 0 ∧ u 0 = bl (so GF NF (en * 5 + bn) (6 * 5 + bn) kn)) (fun u t => atL dC dI cD cZ cI cL (va_A (wL cD cZ cI cL h pf f0 f1 f2 f3 po o0 o1 o2 o3 NF GF TF OF NO GO TO OO nn fb ox F) sz) (wL cD cZ cI cL h pf f0 f1 f2 f3 po o0 o1 o2 o3 NF GF TF OF NO GO TO OO nn fb ox u) t) (va_A (wL cD cZ cI cL h pf f0 f1 f2 f3 po o0 o1 o2 o3 NF GF TF OF NO GO TO OO nn fb ox F) sz)) 0 0 (va_A (wL cD cZ cI cL h pf f0 f1 f2 f3 po o0 o1 o2 o3 NF GF TF OF NO GO TO OO nn fb ox F) sz) := by
  refine va_MetW (cc := cL_holds) (maxL := 7) (ret := (some .int)) (hh := [(0, 21, 24, 19), (0, 21, 28, 41)]) (by decide) rfl ?_
  intro p e s m args below meth c s₁ B hml hv
  obtain ⟨rfl, hsz, hO, hD0⟩ := hv
  obtain ⟨hP, hK, hE⟩ := id hO
  have hx := B.exec
  have hb := B.bytes
  have hr := B.returns
  have hts := atoms_spec (ws := wsL_holds) B.pre
  have hown : s.vm.findClass RL = some m.cls := findClass_of_methodNamed B.named
  have hlocks := B.notSynchronized
  subst hsz
  have hD := hD0.self (sz := s.heap.size)
  generalize hAe : va_A (wL cD cZ cI cL h pf f0 f1 f2 f3 po o0 o1 o2 o3 NF GF TF OF NO GO TO OO nn fb ox F) s.heap.size = A at hD ⊢
  have hA : ∀ q : Nat, s.heap.size ≤ q → A q := fun q h => by rw [← hAe]; exact Or.inr h
  have hS : va_S A s.heap s.heap [] := va_S.rf
  have hP : va_P (dC, dI) vwCl [(h, .inr (1, [.ref (cond fb pf po), .ref (cond fb po pf), .int (nI (nn))])), (pf, .inr (0, [.ref f0, .ref f1, .ref f2, .ref f3])), (f0, .inl (cD, 35, .inr (.inr (.inr (.inl (NF)))))), (f1, .inl (cZ, 35, .inl (GF))), (f2, .inl (cI, 30, .inl (TF))), (f3, .inl (cI, 6, .inl (OF))), (po, .inr (0, [.ref o0, .ref o1, .ref o2, .ref o3])), (o0, .inl (cD, 35, .inr (.inr (.inr (.inl (NO)))))), (o1, .inl (cZ, 35, .inl (GO))), (o2, .inl (cI, 30, .inl (TO))), (o3, .inl (cI, 6, .inl (OO))), (ox, .inl (cL, 1, .inr (.inl (F))))] s.heap := hP
  have hD : va_D A [(h, .inr (1, [.ref (cond fb pf po), .ref (cond fb po pf), .int (nI (nn))])), (pf, .inr (0, [.ref f0, .ref f1, .ref f2, .ref f3])), (f0, .inl (cD, 35, .inr (.inr (.inr (.inl (NF)))))), (f1, .inl (cZ, 35, .inl (GF))), (f2, .inl (cI, 30, .inl (TF))), (f3, .inl (cI, 6, .inl (OF))), (po, .inr (0, [.ref o0, .ref o1, .ref o2, .ref o3])), (o0, .inl (cD, 35, .inr (.inr (.inr (.inl (NO)))))), (o1, .inl (cZ, 35, .inl (GO))), (o2, .inl (cI, 30, .inl (TO))), (o3, .inl (cI, 6, .inl (OO))), (ox, .inl (cL, 1, .inr (.inl (F))))] := hD
  have hl := lv_entry ([.ref h, .int (nI (Bool.toNat (fb))), .int (nI (en)), .int (nI (bn)), .int (nI (kn)), .ref ox]) (n := 7) (Nat.le_of_ble_eq_true rfl)
  rw [lg_entry_eq]
  generalize (lg_sl ([.ref h, .int (nI (Bool.toNat (fb))), .int (nI (en)), .int (nI (bn)), .int (nI (kn)), .ref ox]) ++ List.replicate (7 - (lg_sl ([.ref h, .int (nI (Bool.toNat (fb))), .int (nI (en)), .int (nI (bn)), .int (nI (kn)), .ref ox])).length) Slot.unset).toArray = ls at hl ⊢
  have hl : lv_has ls 7 [(0, .ref h), (1, .int (nI (Bool.toNat (fb)))), (2, .int (nI (en))), (3, .int (nI (bn))), (4, .int (nI (kn))), (5, .ref ox)] := hl
  refine lv_aload hx hb dL_holds_0 (lv_at hl 5 rfl) ?_
  refine lv_iconst (v := nI 0) hx hb dL_holds_2 (by decide) ?_
  refine lv_aload_n hx hb dL_holds_3 rfl (lv_at hl 0 rfl) ?_
  refine lv_iload_n hx hb dL_holds_4 rfl (lv_at hl 1 rfl) ?_
  refine lv_iload_n hx hb dL_holds_5 rfl (lv_at hl 2 rfl) ?_
  refine lv_iload_n hx hb dL_holds_6 rfl (lv_at hl 3 rfl) ?_
  refine lv_iload hx hb dL_holds_7 (lv_at hl 4 rfl) ?_
  refine vp_callSi (va_Run.run (va_runV (As := [.int (nI (Bool.toNat (fb))), .int (nI (en)), .int (nI (bn)), .int (nI (kn))]) (rest := [.int (nI (0)), .ref ox]) ⟨hx, hb, hml, hown, hts⟩ (c_X1_holds_ok l dC dI cD cZ cI h pf f0 f1 f2 f3 po o0 o1 o2 o3 NF GF TF OF NO GO TO OO nn fb hnn en bn hen hbn kn hkn) (cwV 4 hts gL_holds_X1_holds rfl rfl rfl (by decide +kernel) ⟨Nat.le_of_ble_eq_true rfl, Nat.le_of_ble_eq_true rfl⟩) (okJ_pre ⟨hP.sub (ws' := [(h, .inr (1, [.ref (cond fb pf po), .ref (cond fb po pf), .int (nI (nn))])), (pf, .inr (0, [.ref f0, .ref f1, .ref f2, .ref f3])), (f0, .inl (cD, 35, .inr (.inr (.inr (.inl (NF)))))), (f1, .inl (cZ, 35, .inl (GF))), (f2, .inl (cI, 30, .inl (TF))), (f3, .inl (cI, 6, .inl (OF))), (po, .inr (0, [.ref o0, .ref o1, .ref o2, .ref o3])), (o0, .inl (cD, 35, .inr (.inr (.inr (.inl (NO)))))), (o1, .inl (cZ, 35, .inl (GO))), (o2, .inl (cI, 30, .inl (TO))), (o3, .inl (cI, 6, .inl (OO)))]) [0, 1, 2, 3, 4, 5, 6, 7, 8, 9, 10] rfl, hK.sub [0, 1, 2] rfl, hE⟩) rfl rfl hl.1 rfl (lv_room (Nat.le_of_ble_eq_true rfl)) dL_holds_9 ⟨Nat.zero_le _, Nat.zero_le _⟩)) (fun r1 er1 => ?_)
  subst er1
  refine xb_if_eq (tgt := 19) hx hb dL_holds_12 (by decide) (fun c12 => ?_) (fun c12 => ?_)
  · refine lv_lconst (v := 0) hx hb dL_holds_19 (by decide) ?_
    refine xn_last hx hb hK hP hD hS 11 3 rfl rfl (n := 1) (j := 0) (by decide) (by decide) dL_holds_20 (fun H locs hP hD hS => ?_)
    have hP : va_P (dC, dI) vwCl [(h, .inr (1, [.ref (cond fb pf po), .ref (cond fb po pf), .int (nI (nn))])), (pf, .inr (0, [.ref f0, .ref f1, .ref f2, .ref f3])), (f0, .inl (cD, 35, .inr (.inr (.inr (.inl (NF)))))), (f1, .inl (cZ, 35, .inl (GF))), (f2, .inl (cI, 30, .inl (TF))), (f3, .inl (cI, 6, .inl (OF))), (po, .inr (0, [.ref o0, .ref o1, .ref o2, .ref o3])), (o0, .inl (cD, 35, .inr (.inr (.inr (.inl (NO)))))), (o1, .inl (cZ, 35, .inl (GO))), (o2, .inl (cI, 30, .inl (TO))), (o3, .inl (cI, 6, .inl (OO))), (ox, .inl (cL, 1, .inr (.inl (vp_updL F 0 0))))] H := hP
    have hD : va_D A [(h, .inr (1, [.ref (cond fb pf po), .ref (cond fb po pf), .int (nI (nn))])), (pf, .inr (0, [.ref f0, .ref f1, .ref f2, .ref f3])), (f0, .inl (cD, 35, .inr (.inr (.inr (.inl (NF)))))), (f1, .inl (cZ, 35, .inl (GF))), (f2, .inl (cI, 30, .inl (TF))), (f3, .inl (cI, 6, .inl (OF))), (po, .inr (0, [.ref o0, .ref o1, .ref o2, .ref o3])), (o0, .inl (cD, 35, .inr (.inr (.inr (.inl (NO)))))), (o1, .inl (cZ, 35, .inl (GO))), (o2, .inl (cI, 30, .inl (TO))), (o3, .inl (cI, 6, .inl (OO))), (ox, .inl (cL, 1, .inr (.inl (vp_updL F 0 0))))] := hD
    refine lv_goto (tgt := 32) hx hb dL_holds_21 (by decide) ?_
    refine lv_iconst (v := nI 0) hx hb dL_holds_32 (by decide) ?_
    exact W.iret (v := nI 0) hx hb hr (fun t ht hW => ⟨⟨_, vp_updL F 0 0, rfl, ⟨rfl, pk_uLs.trans (by rw [bl, c12]; rfl)⟩, by rw [ht]; exact hP, va_K.moved hW.alike hK, hD⟩, hS.F ht⟩) hS.2.2 dL_holds_33
  · refine lv_lconst (v := 1) hx hb dL_holds_15 (by decide) ?_
    refine lv_goto (tgt := 20) hx hb dL_holds_16 (by decide) ?_
    refine xn_last hx hb hK hP hD hS 11 3 rfl rfl (n := 1) (j := 0) (by decide) (by decide) dL_holds_20 (fun H locs hP hD hS => ?_)
    have hP : va_P (dC, dI) vwCl [(h, .inr (1, [.ref (cond fb pf po), .ref (cond fb po pf), .int (nI (nn))])), (pf, .inr (0, [.ref f0, .ref f1, .ref f2, .ref f3])), (f0, .inl (cD, 35, .inr (.inr (.inr (.inl (NF)))))), (f1, .inl (cZ, 35, .inl (GF))), (f2, .inl (cI, 30, .inl (TF))), (f3, .inl (cI, 6, .inl (OF))), (po, .inr (0, [.ref o0, .ref o1, .ref o2, .ref o3])), (o0, .inl (cD, 35, .inr (.inr (.inr (.inl (NO)))))), (o1, .inl (cZ, 35, .inl (GO))), (o2, .inl (cI, 30, .inl (TO))), (o3, .inl (cI, 6, .inl (OO))), (ox, .inl (cL, 1, .inr (.inl (vp_updL F 0 1))))] H := hP
    have hD : va_D A [(h, .inr (1, [.ref (cond fb pf po), .ref (cond fb po pf), .int (nI (nn))])), (pf, .inr (0, [.ref f0, .ref f1, .ref f2, .ref f3])), (f0, .inl (cD, 35, .inr (.inr (.inr (.inl (NF)))))), (f1, .inl (cZ, 35, .inl (GF))), (f2, .inl (cI, 30, .inl (TF))), (f3, .inl (cI, 6, .inl (OF))), (po, .inr (0, [.ref o0, .ref o1, .ref o2, .ref o3])), (o0, .inl (cD, 35, .inr (.inr (.inr (.inl (NO)))))), (o1, .inl (cZ, 35, .inl (GO))), (o2, .inl (cI, 30, .inl (TO))), (o3, .inl (cI, 6, .inl (OO))), (ox, .inl (cL, 1, .inr (.inl (vp_updL F 0 1))))] := hD
    refine lv_goto (tgt := 32) hx hb dL_holds_21 (by decide) ?_
    refine lv_iconst (v := nI 0) hx hb dL_holds_32 (by decide) ?_
    exact W.iret (v := nI 0) hx hb hr (fun t ht hW => ⟨⟨_, vp_updL F 0 1, rfl, ⟨rfl, pk_uLs.trans (by rw [bl, c12]; rfl)⟩, by rw [ht]; exact hP, va_K.moved hW.alike hK, hD⟩, hS.F ht⟩) hS.2.2 dL_holds_33
set_option maxHeartbeats 4000000 in
set_option maxRecDepth 100000 in
theorem c_L_tally_ok (l : Launch) (dC : Nat → ClassId) (dI : Nat → Nat → Nat) (cD cZ cI cL : ClassId) (h pf f0 f1 f2 f3 po o0 o1 o2 o3 : Nat) (NF : Nat → UInt64) (GF TF OF : Nat → Int32) (NO : Nat → UInt64) (GO TO OO : Nat → Int32) (nn : Nat) (fb : Bool) (ox : Nat) (F : Nat → Int64) (sz : Nat) (hnn : nn ≤ 6) (en : Nat) (hen : en < nn) (kn : Nat) (hkn : kn < 24) : Met l yL_tally wsL_tally ({ frames := 4, cells := 0, slots := 0, locals := 98 }) (va_Pc [.ref h, .int (nI (Bool.toNat (fb))), .int (nI (en)), .int (nI (kn)), .ref ox] (fun U => U.heap.size = sz ∧ okL dC dI cD cZ cI cL (wL cD cZ cI cL h pf f0 f1 f2 f3 po o0 o1 o2 o3 NF GF TF OF NO GO TO OO nn fb ox F) U U.heap ∧ va_D (fun _ => True) (wL cD cZ cI cL h pf f0 f1 f2 f3 po o0 o1 o2 o3 NF GF TF OF NO GO TO OO nn fb ox F))) (va_Qi (fun (r : Int32) (u : (Nat → Int64)) => r = nI 0 ∧ u 0 = (nI (cnt (fun b => so GF NF (en * 5 + b) (6 * 5 + b) kn) 5)).toInt64) (fun u t => atL dC dI cD cZ cI cL (va_A (wL cD cZ cI cL h pf f0 f1 f2 f3 po o0 o1 o2 o3 NF GF TF OF NO GO TO OO nn fb ox F) sz) (wL cD cZ cI cL h pf f0 f1 f2 f3 po o0 o1 o2 o3 NF GF TF OF NO GO TO OO nn fb ox u) t) (va_A (wL cD cZ cI cL h pf f0 f1 f2 f3 po o0 o1 o2 o3 NF GF TF OF NO GO TO OO nn fb ox F) sz)) 0 0 (va_A (wL cD cZ cI cL h pf f0 f1 f2 f3 po o0 o1 o2 o3 NF GF TF OF NO GO TO OO nn fb ox F) sz) := by
  refine va_MetW (cc := cL_tally) (maxL := 6) (ret := (some .int)) (hh := [(0, 12, 15, 19), (0, 12, 19, 41)]) (by decide) rfl ?_
  intro p e s m args below meth c s₁ B hml hv
  obtain ⟨rfl, hsz, hO, hD0⟩ := hv
  obtain ⟨hP, hK, hE⟩ := id hO
  have hx := B.exec
  have hb := B.bytes
  have hr := B.returns
  have hts := atoms_spec (ws := wsL_tally) B.pre
  have hown : s.vm.findClass RL = some m.cls := findClass_of_methodNamed B.named
  have hlocks := B.notSynchronized
  subst hsz
  have hD := hD0.self (sz := s.heap.size)
  generalize hAe : va_A (wL cD cZ cI cL h pf f0 f1 f2 f3 po o0 o1 o2 o3 NF GF TF OF NO GO TO OO nn fb ox F) s.heap.size = A at hD ⊢
  have hA : ∀ q : Nat, s.heap.size ≤ q → A q := fun q h => by rw [← hAe]; exact Or.inr h
  have hS : va_S A s.heap s.heap [] := va_S.rf
  have hP : va_P (dC, dI) vwCl [(h, .inr (1, [.ref (cond fb pf po), .ref (cond fb po pf), .int (nI (nn))])), (pf, .inr (0, [.ref f0, .ref f1, .ref f2, .ref f3])), (f0, .inl (cD, 35, .inr (.inr (.inr (.inl (NF)))))), (f1, .inl (cZ, 35, .inl (GF))), (f2, .inl (cI, 30, .inl (TF))), (f3, .inl (cI, 6, .inl (OF))), (po, .inr (0, [.ref o0, .ref o1, .ref o2, .ref o3])), (o0, .inl (cD, 35, .inr (.inr (.inr (.inl (NO)))))), (o1, .inl (cZ, 35, .inl (GO))), (o2, .inl (cI, 30, .inl (TO))), (o3, .inl (cI, 6, .inl (OO))), (ox, .inl (cL, 1, .inr (.inl (F))))] s.heap := hP
  have hD : va_D A [(h, .inr (1, [.ref (cond fb pf po), .ref (cond fb po pf), .int (nI (nn))])), (pf, .inr (0, [.ref f0, .ref f1, .ref f2, .ref f3])), (f0, .inl (cD, 35, .inr (.inr (.inr (.inl (NF)))))), (f1, .inl (cZ, 35, .inl (GF))), (f2, .inl (cI, 30, .inl (TF))), (f3, .inl (cI, 6, .inl (OF))), (po, .inr (0, [.ref o0, .ref o1, .ref o2, .ref o3])), (o0, .inl (cD, 35, .inr (.inr (.inr (.inl (NO)))))), (o1, .inl (cZ, 35, .inl (GO))), (o2, .inl (cI, 30, .inl (TO))), (o3, .inl (cI, 6, .inl (OO))), (ox, .inl (cL, 1, .inr (.inl (F))))] := hD
  have hl := lv_entry ([.ref h, .int (nI (Bool.toNat (fb))), .int (nI (en)), .int (nI (kn)), .ref ox]) (n := 6) (Nat.le_of_ble_eq_true rfl)
  rw [lg_entry_eq]
  generalize (lg_sl ([.ref h, .int (nI (Bool.toNat (fb))), .int (nI (en)), .int (nI (kn)), .ref ox]) ++ List.replicate (6 - (lg_sl ([.ref h, .int (nI (Bool.toNat (fb))), .int (nI (en)), .int (nI (kn)), .ref ox])).length) Slot.unset).toArray = ls at hl ⊢
  have hl : lv_has ls 6 [(0, .ref h), (1, .int (nI (Bool.toNat (fb)))), (2, .int (nI (en))), (3, .int (nI (kn))), (4, .ref ox)] := hl
  refine lv_aload hx hb dL_tally_0 (lv_at hl 4 rfl) ?_
  refine lv_iconst (v := nI 0) hx hb dL_tally_2 (by decide) ?_
  refine lv_aload_n hx hb dL_tally_3 rfl (lv_at hl 0 rfl) ?_
  refine lv_iload_n hx hb dL_tally_4 rfl (lv_at hl 1 rfl) ?_
  refine lv_iload_n hx hb dL_tally_5 rfl (lv_at hl 2 rfl) ?_
  refine lv_iload_n hx hb dL_tally_6 rfl (lv_at hl 3 rfl) ?_
  refine vp_callSi (va_Run.run (va_runV (As := [.int (nI (Bool.toNat (fb))), .int (nI (en)), .int (nI (kn))]) (rest := [.int (nI (0)), .ref ox]) ⟨hx, hb, hml, hown, hts⟩ (c_X1_tally_ok l dC dI cD cZ cI h pf f0 f1 f2 f3 po o0 o1 o2 o3 NF GF TF OF NO GO TO OO nn fb hnn en hen kn hkn) (cwV 3 hts gL_tally_X1_tally rfl rfl rfl (by decide +kernel) ⟨Nat.le_of_ble_eq_true rfl, Nat.le_of_ble_eq_true rfl⟩) (okJ_pre ⟨hP.sub (ws' := [(h, .inr (1, [.ref (cond fb pf po), .ref (cond fb po pf), .int (nI (nn))])), (pf, .inr (0, [.ref f0, .ref f1, .ref f2, .ref f3])), (f0, .inl (cD, 35, .inr (.inr (.inr (.inl (NF)))))), (f1, .inl (cZ, 35, .inl (GF))), (f2, .inl (cI, 30, .inl (TF))), (f3, .inl (cI, 6, .inl (OF))), (po, .inr (0, [.ref o0, .ref o1, .ref o2, .ref o3])), (o0, .inl (cD, 35, .inr (.inr (.inr (.inl (NO)))))), (o1, .inl (cZ, 35, .inl (GO))), (o2, .inl (cI, 30, .inl (TO))), (o3, .inl (cI, 6, .inl (OO)))]) [0, 1, 2, 3, 4, 5, 6, 7, 8, 9, 10] rfl, hK.sub [0, 1, 2] rfl, hE⟩) rfl rfl hl.1 rfl (lv_room (Nat.le_of_ble_eq_true rfl)) dL_tally_7 ⟨Nat.zero_le _, Nat.zero_le _⟩)) (fun r1 er1 => ?_)
  subst er1
  refine lv_i2l (v := (nI (cnt (fun b => so GF NF (en * 5 + b) (6 * 5 + b) kn) 5)).toInt64) hx hb dL_tally_10 rfl ?_
  refine xn_last hx hb hK hP hD hS 11 3 rfl rfl (n := 1) (j := 0) (by decide) (by decide) dL_tally_11 (fun H locs hP hD hS => ?_)
  have hP : va_P (dC, dI) vwCl [(h, .inr (1, [.ref (cond fb pf po), .ref (cond fb po pf), .int (nI (nn))])), (pf, .inr (0, [.ref f0, .ref f1, .ref f2, .ref f3])), (f0, .inl (cD, 35, .inr (.inr (.inr (.inl (NF)))))), (f1, .inl (cZ, 35, .inl (GF))), (f2, .inl (cI, 30, .inl (TF))), (f3, .inl (cI, 6, .inl (OF))), (po, .inr (0, [.ref o0, .ref o1, .ref o2, .ref o3])), (o0, .inl (cD, 35, .inr (.inr (.inr (.inl (NO)))))), (o1, .inl (cZ, 35, .inl (GO))), (o2, .inl (cI, 30, .inl (TO))), (o3, .inl (cI, 6, .inl (OO))), (ox, .inl (cL, 1, .inr (.inl (vp_updL F 0 ((nI (cnt (fun b => so GF NF (en * 5 + b) (6 * 5 + b) kn) 5)).toInt64)))))] H := hP
  have hD : va_D A [(h, .inr (1, [.ref (cond fb pf po), .ref (cond fb po pf), .int (nI (nn))])), (pf, .inr (0, [.ref f0, .ref f1, .ref f2, .ref f3])), (f0, .inl (cD, 35, .inr (.inr (.inr (.inl (NF)))))), (f1, .inl (cZ, 35, .inl (GF))), (f2, .inl (cI, 30, .inl (TF))), (f3, .inl (cI, 6, .inl (OF))), (po, .inr (0, [.ref o0, .ref o1, .ref o2, .ref o3])), (o0, .inl (cD, 35, .inr (.inr (.inr (.inl (NO)))))), (o1, .inl (cZ, 35, .inl (GO))), (o2, .inl (cI, 30, .inl (TO))), (o3, .inl (cI, 6, .inl (OO))), (ox, .inl (cL, 1, .inr (.inl (vp_updL F 0 ((nI (cnt (fun b => so GF NF (en * 5 + b) (6 * 5 + b) kn) 5)).toInt64)))))] := hD
  refine lv_goto (tgt := 23) hx hb dL_tally_12 (by decide) ?_
  refine lv_iconst (v := nI 0) hx hb dL_tally_23 (by decide) ?_
  exact W.iret (v := nI 0) hx hb hr (fun t ht hW => ⟨⟨_, vp_updL F 0 ((nI (cnt (fun b => so GF NF (en * 5 + b) (6 * 5 + b) kn) 5)).toInt64), rfl, ⟨rfl, (show vp_updL F 0 _ 0 = _ from pk_uLs)⟩, by rw [ht]; exact hP, va_K.moved hW.alike hK, hD⟩, hS.F ht⟩) hS.2.2 dL_tally_24
set_option maxHeartbeats 4000000 in
set_option maxRecDepth 100000 in
theorem c_L_run_ok (l : Launch) (dC : Nat → ClassId) (dI : Nat → Nat → Nat) (cD cZ cI cL : ClassId) (h pf f0 f1 f2 f3 po o0 o1 o2 o3 : Nat) (NF : Nat → UInt64) (GF TF OF : Nat → Int32) (NO : Nat → UInt64) (GO TO OO : Nat → Int32) (nn : Nat) (fb : Bool) (ox : Nat) (F : Nat → Int64) (sz : Nat) (hnn : nn ≤ 6) (en fr : Nat) (hen : en < nn) (hfr : fr < 6) (kn : Nat) (hkn : kn < 24) : Met l yL_run wsL_run ({ frames := 4, cells := 0, slots := 0, locals := 99 }) (va_Pc [.ref h, .int (nI (Bool.toNat (fb))), .int (nI (en)), .int (nI (fr)), .int (nI (kn)), .ref ox] (fun U => U.heap.size = sz ∧ okL dC dI cD cZ cI cL (wL cD cZ cI cL h pf f0 f1 f2 f3 po o0 o1 o2 o3 NF GF TF OF NO GO TO OO nn fb ox F) U U.heap ∧ va_D (fun _ => True) (wL cD cZ cI cL h pf f0 f1 f2 f3 po o0 o1 o2 o3 NF GF TF OF NO GO TO OO nn fb ox F))) (va_Qi (fun (r : Int32) (u : (Nat → Int64)) => r = nI 0 ∧ u 0 = (nI (stp (fun b => so GF NF (en * 5 + b) (6 * 5 + b) kn) (5 - fr) fr)).toInt64) (fun u t => atL dC dI cD cZ cI cL (va_A (wL cD cZ cI cL h pf f0 f1 f2 f3 po o0 o1 o2 o3 NF GF TF OF NO GO TO OO nn fb ox F) sz) (wL cD cZ cI cL h pf f0 f1 f2 f3 po o0 o1 o2 o3 NF GF TF OF NO GO TO OO nn fb ox u) t) (va_A (wL cD cZ cI cL h pf f0 f1 f2 f3 po o0 o1 o2 o3 NF GF TF OF NO GO TO OO nn fb ox F) sz)) 0 0 (va_A (wL cD cZ cI cL h pf f0 f1 f2 f3 po o0 o1 o2 o3 NF GF TF OF NO GO TO OO nn fb ox F) sz) := by
  refine va_MetW (cc := cL_run) (maxL := 7) (ret := (some .int)) (hh := [(0, 14, 17, 19), (0, 14, 21, 41)]) (by decide) rfl ?_
  intro p e s m args below meth c s₁ B hml hv
  obtain ⟨rfl, hsz, hO, hD0⟩ := hv
  obtain ⟨hP, hK, hE⟩ := id hO
  have hx := B.exec
  have hb := B.bytes
  have hr := B.returns
  have hts := atoms_spec (ws := wsL_run) B.pre
  have hown : s.vm.findClass RL = some m.cls := findClass_of_methodNamed B.named
  have hlocks := B.notSynchronized
  subst hsz
  have hD := hD0.self (sz := s.heap.size)
  generalize hAe : va_A (wL cD cZ cI cL h pf f0 f1 f2 f3 po o0 o1 o2 o3 NF GF TF OF NO GO TO OO nn fb ox F) s.heap.size = A at hD ⊢
  have hA : ∀ q : Nat, s.heap.size ≤ q → A q := fun q h => by rw [← hAe]; exact Or.inr h
  have hS : va_S A s.heap s.heap [] := va_S.rf
  have hP : va_P (dC, dI) vwCl [(h, .inr (1, [.ref (cond fb pf po), .ref (cond fb po pf), .int (nI (nn))])), (pf, .inr (0, [.ref f0, .ref f1, .ref f2, .ref f3])), (f0, .inl (cD, 35, .inr (.inr (.inr (.inl (NF)))))), (f1, .inl (cZ, 35, .inl (GF))), (f2, .inl (cI, 30, .inl (TF))), (f3, .inl (cI, 6, .inl (OF))), (po, .inr (0, [.ref o0, .ref o1, .ref o2, .ref o3])), (o0, .inl (cD, 35, .inr (.inr (.inr (.inl (NO)))))), (o1, .inl (cZ, 35, .inl (GO))), (o2, .inl (cI, 30, .inl (TO))), (o3, .inl (cI, 6, .inl (OO))), (ox, .inl (cL, 1, .inr (.inl (F))))] s.heap := hP
  have hD : va_D A [(h, .inr (1, [.ref (cond fb pf po), .ref (cond fb po pf), .int (nI (nn))])), (pf, .inr (0, [.ref f0, .ref f1, .ref f2, .ref f3])), (f0, .inl (cD, 35, .inr (.inr (.inr (.inl (NF)))))), (f1, .inl (cZ, 35, .inl (GF))), (f2, .inl (cI, 30, .inl (TF))), (f3, .inl (cI, 6, .inl (OF))), (po, .inr (0, [.ref o0, .ref o1, .ref o2, .ref o3])), (o0, .inl (cD, 35, .inr (.inr (.inr (.inl (NO)))))), (o1, .inl (cZ, 35, .inl (GO))), (o2, .inl (cI, 30, .inl (TO))), (o3, .inl (cI, 6, .inl (OO))), (ox, .inl (cL, 1, .inr (.inl (F))))] := hD
  have hl := lv_entry ([.ref h, .int (nI (Bool.toNat (fb))), .int (nI (en)), .int (nI (fr)), .int (nI (kn)), .ref ox]) (n := 7) (Nat.le_of_ble_eq_true rfl)
  rw [lg_entry_eq]
  generalize (lg_sl ([.ref h, .int (nI (Bool.toNat (fb))), .int (nI (en)), .int (nI (fr)), .int (nI (kn)), .ref ox]) ++ List.replicate (7 - (lg_sl ([.ref h, .int (nI (Bool.toNat (fb))), .int (nI (en)), .int (nI (fr)), .int (nI (kn)), .ref ox])).length) Slot.unset).toArray = ls at hl ⊢
  have hl : lv_has ls 7 [(0, .ref h), (1, .int (nI (Bool.toNat (fb)))), (2, .int (nI (en))), (3, .int (nI (fr))), (4, .int (nI (kn))), (5, .ref ox)] := hl
  refine lv_aload hx hb dL_run_0 (lv_at hl 5 rfl) ?_
  refine lv_iconst (v := nI 0) hx hb dL_run_2 (by decide) ?_
  refine lv_aload_n hx hb dL_run_3 rfl (lv_at hl 0 rfl) ?_
  refine lv_iload_n hx hb dL_run_4 rfl (lv_at hl 1 rfl) ?_
  refine lv_iload_n hx hb dL_run_5 rfl (lv_at hl 2 rfl) ?_
  refine lv_iload_n hx hb dL_run_6 rfl (lv_at hl 3 rfl) ?_
  refine lv_iload hx hb dL_run_7 (lv_at hl 4 rfl) ?_
  refine vp_callSi (va_Run.run (va_runV (As := [.int (nI (Bool.toNat (fb))), .int (nI (en)), .int (nI (fr)), .int (nI (kn))]) (rest := [.int (nI (0)), .ref ox]) ⟨hx, hb, hml, hown, hts⟩ (c_X1_run_ok l dC dI cD cZ cI h pf f0 f1 f2 f3 po o0 o1 o2 o3 NF GF TF OF NO GO TO OO nn fb hnn en fr hen hfr kn hkn) (cwV 4 hts gL_run_X1_run rfl rfl rfl (by decide +kernel) ⟨Nat.le_of_ble_eq_true rfl, Nat.le_of_ble_eq_true rfl⟩) (okJ_pre ⟨hP.sub (ws' := [(h, .inr (1, [.ref (cond fb pf po), .ref (cond fb po pf), .int (nI (nn))])), (pf, .inr (0, [.ref f0, .ref f1, .ref f2, .ref f3])), (f0, .inl (cD, 35, .inr (.inr (.inr (.inl (NF)))))), (f1, .inl (cZ, 35, .inl (GF))), (f2, .inl (cI, 30, .inl (TF))), (f3, .inl (cI, 6, .inl (OF))), (po, .inr (0, [.ref o0, .ref o1, .ref o2, .ref o3])), (o0, .inl (cD, 35, .inr (.inr (.inr (.inl (NO)))))), (o1, .inl (cZ, 35, .inl (GO))), (o2, .inl (cI, 30, .inl (TO))), (o3, .inl (cI, 6, .inl (OO)))]) [0, 1, 2, 3, 4, 5, 6, 7, 8, 9, 10] rfl, hK.sub [0, 1, 2] rfl, hE⟩) rfl rfl hl.1 rfl (lv_room (Nat.le_of_ble_eq_true rfl)) dL_run_9 ⟨Nat.zero_le _, Nat.zero_le _⟩)) (fun r1 er1 => ?_)
  subst er1
  refine lv_i2l (v := (nI (stp (fun b => so GF NF (en * 5 + b) (6 * 5 + b) kn) (5 - fr) fr)).toInt64) hx hb dL_run_12 rfl ?_
  refine xn_last hx hb hK hP hD hS 11 3 rfl rfl (n := 1) (j := 0) (by decide) (by decide) dL_run_13 (fun H locs hP hD hS => ?_)
  have hP : va_P (dC, dI) vwCl [(h, .inr (1, [.ref (cond fb pf po), .ref (cond fb po pf), .int (nI (nn))])), (pf, .inr (0, [.ref f0, .ref f1, .ref f2, .ref f3])), (f0, .inl (cD, 35, .inr (.inr (.inr (.inl (NF)))))), (f1, .inl (cZ, 35, .inl (GF))), (f2, .inl (cI, 30, .inl (TF))), (f3, .inl (cI, 6, .inl (OF))), (po, .inr (0, [.ref o0, .ref o1, .ref o2, .ref o3])), (o0, .inl (cD, 35, .inr (.inr (.inr (.inl (NO)))))), (o1, .inl (cZ, 35, .inl (GO))), (o2, .inl (cI, 30, .inl (TO))), (o3, .inl (cI, 6, .inl (OO))), (ox, .inl (cL, 1, .inr (.inl (vp_updL F 0 ((nI (stp (fun b => so GF NF (en * 5 + b) (6 * 5 + b) kn) (5 - fr) fr)).toInt64)))))] H := hP
  have hD : va_D A [(h, .inr (1, [.ref (cond fb pf po), .ref (cond fb po pf), .int (nI (nn))])), (pf, .inr (0, [.ref f0, .ref f1, .ref f2, .ref f3])), (f0, .inl (cD, 35, .inr (.inr (.inr (.inl (NF)))))), (f1, .inl (cZ, 35, .inl (GF))), (f2, .inl (cI, 30, .inl (TF))), (f3, .inl (cI, 6, .inl (OF))), (po, .inr (0, [.ref o0, .ref o1, .ref o2, .ref o3])), (o0, .inl (cD, 35, .inr (.inr (.inr (.inl (NO)))))), (o1, .inl (cZ, 35, .inl (GO))), (o2, .inl (cI, 30, .inl (TO))), (o3, .inl (cI, 6, .inl (OO))), (ox, .inl (cL, 1, .inr (.inl (vp_updL F 0 ((nI (stp (fun b => so GF NF (en * 5 + b) (6 * 5 + b) kn) (5 - fr) fr)).toInt64)))))] := hD
  refine lv_goto (tgt := 25) hx hb dL_run_14 (by decide) ?_
  refine lv_iconst (v := nI 0) hx hb dL_run_25 (by decide) ?_
  exact W.iret (v := nI 0) hx hb hr (fun t ht hW => ⟨⟨_, vp_updL F 0 ((nI (stp (fun b => so GF NF (en * 5 + b) (6 * 5 + b) kn) (5 - fr) fr)).toInt64), rfl, ⟨rfl, (show vp_updL F 0 _ 0 = _ from pk_uLs)⟩, by rw [ht]; exact hP, va_K.moved hW.alike hK, hD⟩, hS.F ht⟩) hS.2.2 dL_run_26
set_option maxHeartbeats 4000000 in
set_option maxRecDepth 100000 in
theorem c_L_keep_ok (l : Launch) (dC : Nat → ClassId) (dI : Nat → Nat → Nat) (cD cZ cI cL : ClassId) (h pf f0 f1 f2 f3 po o0 o1 o2 o3 : Nat) (NF : Nat → UInt64) (GF TF OF : Nat → Int32) (NO : Nat → UInt64) (GO TO OO : Nat → Int32) (nn : Nat) (fb : Bool) (ox : Nat) (F : Nat → Int64) (sz : Nat) (hnn : nn ≤ 6) (en bn : Nat) (hen : en < nn) (hbn : bn < 5) (kn : Nat) (hkn : kn < 24) : Met l yL_keep wsL_keep ({ frames := 4, cells := 0, slots := 0, locals := 99 }) (va_Pc [.ref h, .int (nI (Bool.toNat (fb))), .int (nI (en)), .int (nI (bn)), .int (nI (kn)), .ref ox] (fun U => U.heap.size = sz ∧ okL dC dI cD cZ cI cL (wL cD cZ cI cL h pf f0 f1 f2 f3 po o0 o1 o2 o3 NF GF TF OF NO GO TO OO nn fb ox F) U U.heap ∧ va_D (fun _ => True) (wL cD cZ cI cL h pf f0 f1 f2 f3 po o0 o1 o2 o3 NF GF TF OF NO GO TO OO nn fb ox F))) (va_Qi (fun (r : Int32) (u : (Nat → Int64)) => r = nI 0 ∧ u 0 = bl (so GF NF (en * 5 + bn) (6 * 5 + bn) kn)) (fun u t => atL dC dI cD cZ cI cL (va_A (wL cD cZ cI cL h pf f0 f1 f2 f3 po o0 o1 o2 o3 NF GF TF OF NO GO TO OO nn fb ox F) sz) (wL cD cZ cI cL h pf f0 f1 f2 f3 po o0 o1 o2 o3 NF GF (upd TF (en * 5 + bn) (nI (Bool.toNat (so GF NF (en * 5 + bn) (6 * 5 + bn) kn)))) OF NO GO TO OO nn fb ox u) t) (va_A (wL cD cZ cI cL h pf f0 f1 f2 f3 po o0 o1 o2 o3 NF GF TF OF NO GO TO OO nn fb ox F) sz)) 0 0 (va_A (wL cD cZ cI cL h pf f0 f1 f2 f3 po o0 o1 o2 o3 NF GF TF OF NO GO TO OO nn fb ox F) sz) := by
  refine va_MetW (cc := cL_keep) (maxL := 7) (ret := (some .int)) (hh := [(0, 21, 24, 19), (0, 21, 28, 41)]) (by decide) rfl ?_
  intro p e s m args below meth c s₁ B hml hv
  obtain ⟨rfl, hsz, hO, hD0⟩ := hv
  obtain ⟨hP, hK, hE⟩ := id hO
  have hx := B.exec
  have hb := B.bytes
  have hr := B.returns
  have hts := atoms_spec (ws := wsL_keep) B.pre
  have hown : s.vm.findClass RL = some m.cls := findClass_of_methodNamed B.named
  have hlocks := B.notSynchronized
  subst hsz
  have hD := hD0.self (sz := s.heap.size)
  generalize hAe : va_A (wL cD cZ cI cL h pf f0 f1 f2 f3 po o0 o1 o2 o3 NF GF TF OF NO GO TO OO nn fb ox F) s.heap.size = A at hD ⊢
  have hA : ∀ q : Nat, s.heap.size ≤ q → A q := fun q h => by rw [← hAe]; exact Or.inr h
  have hS : va_S A s.heap s.heap [] := va_S.rf
  have hP : va_P (dC, dI) vwCl [(h, .inr (1, [.ref (cond fb pf po), .ref (cond fb po pf), .int (nI (nn))])), (pf, .inr (0, [.ref f0, .ref f1, .ref f2, .ref f3])), (f0, .inl (cD, 35, .inr (.inr (.inr (.inl (NF)))))), (f1, .inl (cZ, 35, .inl (GF))), (f2, .inl (cI, 30, .inl (TF))), (f3, .inl (cI, 6, .inl (OF))), (po, .inr (0, [.ref o0, .ref o1, .ref o2, .ref o3])), (o0, .inl (cD, 35, .inr (.inr (.inr (.inl (NO)))))), (o1, .inl (cZ, 35, .inl (GO))), (o2, .inl (cI, 30, .inl (TO))), (o3, .inl (cI, 6, .inl (OO))), (ox, .inl (cL, 1, .inr (.inl (F))))] s.heap := hP
  have hD : va_D A [(h, .inr (1, [.ref (cond fb pf po), .ref (cond fb po pf), .int (nI (nn))])), (pf, .inr (0, [.ref f0, .ref f1, .ref f2, .ref f3])), (f0, .inl (cD, 35, .inr (.inr (.inr (.inl (NF)))))), (f1, .inl (cZ, 35, .inl (GF))), (f2, .inl (cI, 30, .inl (TF))), (f3, .inl (cI, 6, .inl (OF))), (po, .inr (0, [.ref o0, .ref o1, .ref o2, .ref o3])), (o0, .inl (cD, 35, .inr (.inr (.inr (.inl (NO)))))), (o1, .inl (cZ, 35, .inl (GO))), (o2, .inl (cI, 30, .inl (TO))), (o3, .inl (cI, 6, .inl (OO))), (ox, .inl (cL, 1, .inr (.inl (F))))] := hD
  have hl := lv_entry ([.ref h, .int (nI (Bool.toNat (fb))), .int (nI (en)), .int (nI (bn)), .int (nI (kn)), .ref ox]) (n := 7) (Nat.le_of_ble_eq_true rfl)
  rw [lg_entry_eq]
  generalize (lg_sl ([.ref h, .int (nI (Bool.toNat (fb))), .int (nI (en)), .int (nI (bn)), .int (nI (kn)), .ref ox]) ++ List.replicate (7 - (lg_sl ([.ref h, .int (nI (Bool.toNat (fb))), .int (nI (en)), .int (nI (bn)), .int (nI (kn)), .ref ox])).length) Slot.unset).toArray = ls at hl ⊢
  have hl : lv_has ls 7 [(0, .ref h), (1, .int (nI (Bool.toNat (fb)))), (2, .int (nI (en))), (3, .int (nI (bn))), (4, .int (nI (kn))), (5, .ref ox)] := hl
  refine lv_aload hx hb dL_keep_0 (lv_at hl 5 rfl) ?_
  refine lv_iconst (v := nI 0) hx hb dL_keep_2 (by decide) ?_
  refine lv_aload_n hx hb dL_keep_3 rfl (lv_at hl 0 rfl) ?_
  refine lv_iload_n hx hb dL_keep_4 rfl (lv_at hl 1 rfl) ?_
  refine lv_iload_n hx hb dL_keep_5 rfl (lv_at hl 2 rfl) ?_
  refine lv_iload_n hx hb dL_keep_6 rfl (lv_at hl 3 rfl) ?_
  refine lv_iload hx hb dL_keep_7 (lv_at hl 4 rfl) ?_
  have hPc := hP.sub (ws' := [(h, .inr (1, [.ref (cond fb pf po), .ref (cond fb po pf), .int (nI (nn))])), (pf, .inr (0, [.ref f0, .ref f1, .ref f2, .ref f3])), (f0, .inl (cD, 35, .inr (.inr (.inr (.inl (NF)))))), (f1, .inl (cZ, 35, .inl (GF))), (f2, .inl (cI, 30, .inl (TF))), (f3, .inl (cI, 6, .inl (OF))), (po, .inr (0, [.ref o0, .ref o1, .ref o2, .ref o3])), (o0, .inl (cD, 35, .inr (.inr (.inr (.inl (NO)))))), (o1, .inl (cZ, 35, .inl (GO))), (o2, .inl (cI, 30, .inl (TO))), (o3, .inl (cI, 6, .inl (OO)))]) [0, 1, 2, 3, 4, 5, 6, 7, 8, 9, 10] rfl
  have hDc := hD.sub (ws' := [(h, .inr (1, [.ref (cond fb pf po), .ref (cond fb po pf), .int (nI (nn))])), (pf, .inr (0, [.ref f0, .ref f1, .ref f2, .ref f3])), (f0, .inl (cD, 35, .inr (.inr (.inr (.inl (NF)))))), (f1, .inl (cZ, 35, .inl (GF))), (f2, .inl (cI, 30, .inl (TF))), (f3, .inl (cI, 6, .inl (OF))), (po, .inr (0, [.ref o0, .ref o1, .ref o2, .ref o3])), (o0, .inl (cD, 35, .inr (.inr (.inr (.inl (NO)))))), (o1, .inl (cZ, 35, .inl (GO))), (o2, .inl (cI, 30, .inl (TO))), (o3, .inl (cI, 6, .inl (OO)))]) [0, 1, 2, 3, 4, 5, 6, 7, 8, 9, 10] (by decide) rfl
  have hFc := va_free (wc := [(h, .inr (1, [.ref (cond fb pf po), .ref (cond fb po pf), .int (nI (nn))])), (pf, .inr (0, [.ref f0, .ref f1, .ref f2, .ref f3])), (f0, .inl (cD, 35, .inr (.inr (.inr (.inl (NF)))))), (f1, .inl (cZ, 35, .inl (GF))), (f2, .inl (cI, 30, .inl (TF))), (f3, .inl (cI, 6, .inl (OF))), (po, .inr (0, [.ref o0, .ref o1, .ref o2, .ref o3])), (o0, .inl (cD, 35, .inr (.inr (.inr (.inl (NO)))))), (o1, .inl (cZ, 35, .inl (GO))), (o2, .inl (cI, 30, .inl (TO))), (o3, .inl (cI, 6, .inl (OO)))]) hD hS hA [0, 1, 2, 3, 4, 5, 6, 7, 8, 9, 10] rfl
  refine va_calli (va_runV (As := [.int (nI (Bool.toNat (fb))), .int (nI (en)), .int (nI (bn)), .int (nI (kn))]) (rest := [.int (nI (0)), .ref ox]) ⟨hx, hb, hml, hown, hts⟩ (c_X1_keep_ok l dC dI cD cZ cI h pf f0 f1 f2 f3 po o0 o1 o2 o3 NF GF TF OF NO GO TO OO nn fb s.heap.size hnn en bn hen hbn kn hkn) (cwV 4 hts gL_keep_X1_keep rfl rfl rfl (by decide +kernel) ⟨Nat.le_of_ble_eq_true rfl, Nat.le_of_ble_eq_true rfl⟩) (okJW_pre ⟨hPc, hK.sub [0, 1, 2] rfl, hE⟩ hDc) rfl rfl hl.1 rfl (lv_room (Nat.le_of_ble_eq_true rfl)) dL_keep_9 ⟨Nat.zero_le _, Nat.zero_le _⟩) hS (fun q _ h => hFc q h) hFc (fun r1 u1 t H1 locs ht hvm hw hB hz1 hk1 hS => ?_)
  obtain ⟨hP1, hK1, hD1⟩ := hB
  rw [ht] at hP1
  obtain ⟨hP, hD⟩ := va_join (wr := [(ox, .inl (cL, 1, .inr (.inl (F))))]) (w1 := [(h, .inr (1, [.ref (cond fb pf po), .ref (cond fb po pf), .int (nI (nn))])), (pf, .inr (0, [.ref f0, .ref f1, .ref f2, .ref f3])), (f0, .inl (cD, 35, .inr (.inr (.inr (.inl (NF)))))), (f1, .inl (cZ, 35, .inl (GF))), (f2, .inl (cI, 30, .inl (upd TF (en * 5 + bn) (nI (Bool.toNat (so GF NF (en * 5 + bn) (6 * 5 + bn) kn)))))), (f3, .inl (cI, 6, .inl (OF))), (po, .inr (0, [.ref o0, .ref o1, .ref o2, .ref o3])), (o0, .inl (cD, 35, .inr (.inr (.inr (.inl (NO)))))), (o1, .inl (cZ, 35, .inl (GO))), (o2, .inl (cI, 30, .inl (TO))), (o3, .inl (cI, 6, .inl (OO)))]) hP hD [0, 1, 2, 3, 4, 5, 6, 7, 8, 9, 10] [11] rfl rfl (by decide) (by decide) hk1 hFc hP1 hD1
  have hP := hP.sub (ws' := [(h, .inr (1, [.ref (cond fb pf po), .ref (cond fb po pf), .int (nI (nn))])), (pf, .inr (0, [.ref f0, .ref f1, .ref f2, .ref f3])), (f0, .inl (cD, 35, .inr (.inr (.inr (.inl (NF)))))), (f1, .inl (cZ, 35, .inl (GF))), (f2, .inl (cI, 30, .inl (upd TF (en * 5 + bn) (nI (Bool.toNat (so GF NF (en * 5 + bn) (6 * 5 + bn) kn)))))), (f3, .inl (cI, 6, .inl (OF))), (po, .inr (0, [.ref o0, .ref o1, .ref o2, .ref o3])), (o0, .inl (cD, 35, .inr (.inr (.inr (.inl (NO)))))), (o1, .inl (cZ, 35, .inl (GO))), (o2, .inl (cI, 30, .inl (TO))), (o3, .inl (cI, 6, .inl (OO))), (ox, .inl (cL, 1, .inr (.inl (F))))]) [1, 2, 3, 4, 5, 6, 7, 8, 9, 10, 11, 0] rfl
  have hD := hD.sub (ws' := [(h, .inr (1, [.ref (cond fb pf po), .ref (cond fb po pf), .int (nI (nn))])), (pf, .inr (0, [.ref f0, .ref f1, .ref f2, .ref f3])), (f0, .inl (cD, 35, .inr (.inr (.inr (.inl (NF)))))), (f1, .inl (cZ, 35, .inl (GF))), (f2, .inl (cI, 30, .inl (upd TF (en * 5 + bn) (nI (Bool.toNat (so GF NF (en * 5 + bn) (6 * 5 + bn) kn)))))), (f3, .inl (cI, 6, .inl (OF))), (po, .inr (0, [.ref o0, .ref o1, .ref o2, .ref o3])), (o0, .inl (cD, 35, .inr (.inr (.inr (.inl (NO)))))), (o1, .inl (cZ, 35, .inl (GO))), (o2, .inl (cI, 30, .inl (TO))), (o3, .inl (cI, 6, .inl (OO))), (ox, .inl (cL, 1, .inr (.inl (F))))]) [1, 2, 3, 4, 5, 6, 7, 8, 9, 10, 11, 0] (by decide) rfl
  generalize H1 = H at hP hS ⊢
  have hP : va_P (dC, dI) vwCl [(h, .inr (1, [.ref (cond fb pf po), .ref (cond fb po pf), .int (nI (nn))])), (pf, .inr (0, [.ref f0, .ref f1, .ref f2, .ref f3])), (f0, .inl (cD, 35, .inr (.inr (.inr (.inl (NF)))))), (f1, .inl (cZ, 35, .inl (GF))), (f2, .inl (cI, 30, .inl (upd TF (en * 5 + bn) (nI (Bool.toNat (so GF NF (en * 5 + bn) (6 * 5 + bn) kn)))))), (f3, .inl (cI, 6, .inl (OF))), (po, .inr (0, [.ref o0, .ref o1, .ref o2, .ref o3])), (o0, .inl (cD, 35, .inr (.inr (.inr (.inl (NO)))))), (o1, .inl (cZ, 35, .inl (GO))), (o2, .inl (cI, 30, .inl (TO))), (o3, .inl (cI, 6, .inl (OO))), (ox, .inl (cL, 1, .inr (.inl (F))))] H := hP
  have hD : va_D A [(h, .inr (1, [.ref (cond fb pf po), .ref (cond fb po pf), .int (nI (nn))])), (pf, .inr (0, [.ref f0, .ref f1, .ref f2, .ref f3])), (f0, .inl (cD, 35, .inr (.inr (.inr (.inl (NF)))))), (f1, .inl (cZ, 35, .inl (GF))), (f2, .inl (cI, 30, .inl (upd TF (en * 5 + bn) (nI (Bool.toNat (so GF NF (en * 5 + bn) (6 * 5 + bn) kn)))))), (f3, .inl (cI, 6, .inl (OF))), (po, .inr (0, [.ref o0, .ref o1, .ref o2, .ref o3])), (o0, .inl (cD, 35, .inr (.inr (.inr (.inl (NO)))))), (o1, .inl (cZ, 35, .inl (GO))), (o2, .inl (cI, 30, .inl (TO))), (o3, .inl (cI, 6, .inl (OO))), (ox, .inl (cL, 1, .inr (.inl (F))))] := hD
  subst hw
  refine xb_if_eq (tgt := 19) hx hb dL_keep_12 (by decide) (fun c12 => ?_) (fun c12 => ?_)
  · refine lv_lconst (v := 0) hx hb dL_keep_19 (by decide) ?_
    refine xn_last hx hb hK hP hD hS 11 3 rfl rfl (n := 1) (j := 0) (by decide) (by decide) dL_keep_20 (fun H locs hP hD hS => ?_)
    have hP : va_P (dC, dI) vwCl [(h, .inr (1, [.ref (cond fb pf po), .ref (cond fb po pf), .int (nI (nn))])), (pf, .inr (0, [.ref f0, .ref f1, .ref f2, .ref f3])), (f0, .inl (cD, 35, .inr (.inr (.inr (.inl (NF)))))), (f1, .inl (cZ, 35, .inl (GF))), (f2, .inl (cI, 30, .inl (upd TF (en * 5 + bn) (nI (Bool.toNat (so GF NF (en * 5 + bn) (6 * 5 + bn) kn)))))), (f3, .inl (cI, 6, .inl (OF))), (po, .inr (0, [.ref o0, .ref o1, .ref o2, .ref o3])), (o0, .inl (cD, 35, .inr (.inr (.inr (.inl (NO)))))), (o1, .inl (cZ, 35, .inl (GO))), (o2, .inl (cI, 30, .inl (TO))), (o3, .inl (cI, 6, .inl (OO))), (ox, .inl (cL, 1, .inr (.inl (vp_updL F 0 0))))] H := hP
    have hD : va_D A [(h, .inr (1, [.ref (cond fb pf po), .ref (cond fb po pf), .int (nI (nn))])), (pf, .inr (0, [.ref f0, .ref f1, .ref f2, .ref f3])), (f0, .inl (cD, 35, .inr (.inr (.inr (.inl (NF)))))), (f1, .inl (cZ, 35, .inl (GF))), (f2, .inl (cI, 30, .inl (upd TF (en * 5 + bn) (nI (Bool.toNat (so GF NF (en * 5 + bn) (6 * 5 + bn) kn)))))), (f3, .inl (cI, 6, .inl (OF))), (po, .inr (0, [.ref o0, .ref o1, .ref o2, .ref o3])), (o0, .inl (cD, 35, .inr (.inr (.inr (.inl (NO)))))), (o1, .inl (cZ, 35, .inl (GO))), (o2, .inl (cI, 30, .inl (TO))), (o3, .inl (cI, 6, .inl (OO))), (ox, .inl (cL, 1, .inr (.inl (vp_updL F 0 0))))] := hD
    refine lv_goto (tgt := 32) hx hb dL_keep_21 (by decide) ?_
    refine lv_iconst (v := nI 0) hx hb dL_keep_32 (by decide) ?_
    exact W.iret (v := nI 0) hx hb hr (fun t ht hW => ⟨⟨_, vp_updL F 0 0, rfl, ⟨rfl, pk_uLs.trans (by rw [bl, c12]; rfl)⟩, by rw [ht]; exact hP, va_K.moved hW.alike hK, hD⟩, hS.F ht⟩) hS.2.2 dL_keep_33
  · refine lv_lconst (v := 1) hx hb dL_keep_15 (by decide) ?_
    refine lv_goto (tgt := 20) hx hb dL_keep_16 (by decide) ?_
    refine xn_last hx hb hK hP hD hS 11 3 rfl rfl (n := 1) (j := 0) (by decide) (by decide) dL_keep_20 (fun H locs hP hD hS => ?_)
    have hP : va_P (dC, dI) vwCl [(h, .inr (1, [.ref (cond fb pf po), .ref (cond fb po pf), .int (nI (nn))])), (pf, .inr (0, [.ref f0, .ref f1, .ref f2, .ref f3])), (f0, .inl (cD, 35, .inr (.inr (.inr (.inl (NF)))))), (f1, .inl (cZ, 35, .inl (GF))), (f2, .inl (cI, 30, .inl (upd TF (en * 5 + bn) (nI (Bool.toNat (so GF NF (en * 5 + bn) (6 * 5 + bn) kn)))))), (f3, .inl (cI, 6, .inl (OF))), (po, .inr (0, [.ref o0, .ref o1, .ref o2, .ref o3])), (o0, .inl (cD, 35, .inr (.inr (.inr (.inl (NO)))))), (o1, .inl (cZ, 35, .inl (GO))), (o2, .inl (cI, 30, .inl (TO))), (o3, .inl (cI, 6, .inl (OO))), (ox, .inl (cL, 1, .inr (.inl (vp_updL F 0 1))))] H := hP
    have hD : va_D A [(h, .inr (1, [.ref (cond fb pf po), .ref (cond fb po pf), .int (nI (nn))])), (pf, .inr (0, [.ref f0, .ref f1, .ref f2, .ref f3])), (f0, .inl (cD, 35, .inr (.inr (.inr (.inl (NF)))))), (f1, .inl (cZ, 35, .inl (GF))), (f2, .inl (cI, 30, .inl (upd TF (en * 5 + bn) (nI (Bool.toNat (so GF NF (en * 5 + bn) (6 * 5 + bn) kn)))))), (f3, .inl (cI, 6, .inl (OF))), (po, .inr (0, [.ref o0, .ref o1, .ref o2, .ref o3])), (o0, .inl (cD, 35, .inr (.inr (.inr (.inl (NO)))))), (o1, .inl (cZ, 35, .inl (GO))), (o2, .inl (cI, 30, .inl (TO))), (o3, .inl (cI, 6, .inl (OO))), (ox, .inl (cL, 1, .inr (.inl (vp_updL F 0 1))))] := hD
    refine lv_goto (tgt := 32) hx hb dL_keep_21 (by decide) ?_
    refine lv_iconst (v := nI 0) hx hb dL_keep_32 (by decide) ?_
    exact W.iret (v := nI 0) hx hb hr (fun t ht hW => ⟨⟨_, vp_updL F 0 1, rfl, ⟨rfl, pk_uLs.trans (by rw [bl, c12]; rfl)⟩, by rw [ht]; exact hP, va_K.moved hW.alike hK, hD⟩, hS.F ht⟩) hS.2.2 dL_keep_33
set_option maxHeartbeats 4000000 in
set_option maxRecDepth 100000 in
theorem c_L_kept_ok (l : Launch) (dC : Nat → ClassId) (dI : Nat → Nat → Nat) (cD cZ cI cL : ClassId) (h pf f0 f1 f2 f3 po o0 o1 o2 o3 : Nat) (NF : Nat → UInt64) (GF TF OF : Nat → Int32) (NO : Nat → UInt64) (GO TO OO : Nat → Int32) (nn : Nat) (fb : Bool) (ox : Nat) (F : Nat → Int64) (sz : Nat) (hnn : nn ≤ 6) (en bn : Nat) (hen : en < nn) (hbn : bn < 5) : Met l yL_kept wsL_kept ({ frames := 2, cells := 0, slots := 0, locals := 44 }) (va_Pc [.ref h, .int (nI (Bool.toNat (fb))), .int (nI (en)), .int (nI (bn)), .ref ox] (fun U => U.heap.size = sz ∧ okL dC dI cD cZ cI cL (wL cD cZ cI cL h pf f0 f1 f2 f3 po o0 o1 o2 o3 NF GF TF OF NO GO TO OO nn fb ox F) U U.heap ∧ va_D (fun _ => True) (wL cD cZ cI cL h pf f0 f1 f2 f3 po o0 o1 o2 o3 NF GF TF OF NO GO TO OO nn fb ox F))) (va_Qi (fun (r : Int32) (u : (Nat → Int64)) => r = nI 0 ∧ u 0 = (TF (en * 5 + bn)).toInt64) (fun u t => atL dC dI cD cZ cI cL (va_A (wL cD cZ cI cL h pf f0 f1 f2 f3 po o0 o1 o2 o3 NF GF TF OF NO GO TO OO nn fb ox F) sz) (wL cD cZ cI cL h pf f0 f1 f2 f3 po o0 o1 o2 o3 NF GF TF OF NO GO TO OO nn fb ox u) t) (va_A (wL cD cZ cI cL h pf f0 f1 f2 f3 po o0 o1 o2 o3 NF GF TF OF NO GO TO OO nn fb ox F) sz)) 0 0 (va_A (wL cD cZ cI cL h pf f0 f1 f2 f3 po o0 o1 o2 o3 NF GF TF OF NO GO TO OO nn fb ox F) sz) := by
  refine va_MetW (cc := cL_kept) (maxL := 6) (ret := (some .int)) (hh := [(0, 12, 15, 19)]) (by decide) rfl ?_
  intro p e s m args below meth c s₁ B hml hv
  obtain ⟨rfl, hsz, hO, hD0⟩ := hv
  obtain ⟨hP, hK, hE⟩ := id hO
  have hx := B.exec
  have hb := B.bytes
  have hr := B.returns
  have hts := atoms_spec (ws := wsL_kept) B.pre
  have hown : s.vm.findClass RL = some m.cls := findClass_of_methodNamed B.named
  have hlocks := B.notSynchronized
  subst hsz
  have hD := hD0.self (sz := s.heap.size)
  generalize hAe : va_A (wL cD cZ cI cL h pf f0 f1 f2 f3 po o0 o1 o2 o3 NF GF TF OF NO GO TO OO nn fb ox F) s.heap.size = A at hD ⊢
  have hA : ∀ q : Nat, s.heap.size ≤ q → A q := fun q h => by rw [← hAe]; exact Or.inr h
  have hS : va_S A s.heap s.heap [] := va_S.rf
  have hP : va_P (dC, dI) vwCl [(h, .inr (1, [.ref (cond fb pf po), .ref (cond fb po pf), .int (nI (nn))])), (pf, .inr (0, [.ref f0, .ref f1, .ref f2, .ref f3])), (f0, .inl (cD, 35, .inr (.inr (.inr (.inl (NF)))))), (f1, .inl (cZ, 35, .inl (GF))), (f2, .inl (cI, 30, .inl (TF))), (f3, .inl (cI, 6, .inl (OF))), (po, .inr (0, [.ref o0, .ref o1, .ref o2, .ref o3])), (o0, .inl (cD, 35, .inr (.inr (.inr (.inl (NO)))))), (o1, .inl (cZ, 35, .inl (GO))), (o2, .inl (cI, 30, .inl (TO))), (o3, .inl (cI, 6, .inl (OO))), (ox, .inl (cL, 1, .inr (.inl (F))))] s.heap := hP
  have hD : va_D A [(h, .inr (1, [.ref (cond fb pf po), .ref (cond fb po pf), .int (nI (nn))])), (pf, .inr (0, [.ref f0, .ref f1, .ref f2, .ref f3])), (f0, .inl (cD, 35, .inr (.inr (.inr (.inl (NF)))))), (f1, .inl (cZ, 35, .inl (GF))), (f2, .inl (cI, 30, .inl (TF))), (f3, .inl (cI, 6, .inl (OF))), (po, .inr (0, [.ref o0, .ref o1, .ref o2, .ref o3])), (o0, .inl (cD, 35, .inr (.inr (.inr (.inl (NO)))))), (o1, .inl (cZ, 35, .inl (GO))), (o2, .inl (cI, 30, .inl (TO))), (o3, .inl (cI, 6, .inl (OO))), (ox, .inl (cL, 1, .inr (.inl (F))))] := hD
  have hl := lv_entry ([.ref h, .int (nI (Bool.toNat (fb))), .int (nI (en)), .int (nI (bn)), .ref ox]) (n := 6) (Nat.le_of_ble_eq_true rfl)
  rw [lg_entry_eq]
  generalize (lg_sl ([.ref h, .int (nI (Bool.toNat (fb))), .int (nI (en)), .int (nI (bn)), .ref ox]) ++ List.replicate (6 - (lg_sl ([.ref h, .int (nI (Bool.toNat (fb))), .int (nI (en)), .int (nI (bn)), .ref ox])).length) Slot.unset).toArray = ls at hl ⊢
  have hl : lv_has ls 6 [(0, .ref h), (1, .int (nI (Bool.toNat (fb)))), (2, .int (nI (en))), (3, .int (nI (bn))), (4, .ref ox)] := hl
  refine lv_aload hx hb dL_kept_0 (lv_at hl 4 rfl) ?_
  refine lv_iconst (v := nI 0) hx hb dL_kept_2 (by decide) ?_
  refine lv_aload_n hx hb dL_kept_3 rfl (lv_at hl 0 rfl) ?_
  refine lv_iload_n hx hb dL_kept_4 rfl (lv_at hl 1 rfl) ?_
  refine lv_iload_n hx hb dL_kept_5 rfl (lv_at hl 2 rfl) ?_
  refine lv_iload_n hx hb dL_kept_6 rfl (lv_at hl 3 rfl) ?_
  refine vp_callSi (va_Run.run (va_runV (As := [.int (nI (Bool.toNat (fb))), .int (nI (en)), .int (nI (bn))]) (rest := [.int (nI (0)), .ref ox]) ⟨hx, hb, hml, hown, hts⟩ (c_X1_kept_ok l dC dI cD cZ cI h pf f0 f1 f2 f3 po o0 o1 o2 o3 NF GF TF OF NO GO TO OO nn fb hnn en bn hen hbn) (cwV 3 hts gL_kept_X1_kept rfl rfl rfl (by decide +kernel) ⟨Nat.le_of_ble_eq_true rfl, Nat.le_of_ble_eq_true rfl⟩) (okJ_pre ⟨hP.sub (ws' := [(h, .inr (1, [.ref (cond fb pf po), .ref (cond fb po pf), .int (nI (nn))])), (pf, .inr (0, [.ref f0, .ref f1, .ref f2, .ref f3])), (f0, .inl (cD, 35, .inr (.inr (.inr (.inl (NF)))))), (f1, .inl (cZ, 35, .inl (GF))), (f2, .inl (cI, 30, .inl (TF))), (f3, .inl (cI, 6, .inl (OF))), (po, .inr (0, [.ref o0, .ref o1, .ref o2, .ref o3])), (o0, .inl (cD, 35, .inr (.inr (.inr (.inl (NO)))))), (o1, .inl (cZ, 35, .inl (GO))), (o2, .inl (cI, 30, .inl (TO))), (o3, .inl (cI, 6, .inl (OO)))]) [0, 1, 2, 3, 4, 5, 6, 7, 8, 9, 10] rfl, hK.sub [0, 1, 2] rfl, hE⟩) rfl rfl hl.1 rfl (lv_room (Nat.le_of_ble_eq_true rfl)) dL_kept_7 ⟨Nat.zero_le _, Nat.zero_le _⟩)) (fun r1 er1 => ?_)
  subst er1
  refine lv_i2l (v := (TF (en * 5 + bn)).toInt64) hx hb dL_kept_10 rfl ?_
  refine xn_last hx hb hK hP hD hS 11 3 rfl rfl (n := 1) (j := 0) (by decide) (by decide) dL_kept_11 (fun H locs hP hD hS => ?_)
  have hP : va_P (dC, dI) vwCl [(h, .inr (1, [.ref (cond fb pf po), .ref (cond fb po pf), .int (nI (nn))])), (pf, .inr (0, [.ref f0, .ref f1, .ref f2, .ref f3])), (f0, .inl (cD, 35, .inr (.inr (.inr (.inl (NF)))))), (f1, .inl (cZ, 35, .inl (GF))), (f2, .inl (cI, 30, .inl (TF))), (f3, .inl (cI, 6, .inl (OF))), (po, .inr (0, [.ref o0, .ref o1, .ref o2, .ref o3])), (o0, .inl (cD, 35, .inr (.inr (.inr (.inl (NO)))))), (o1, .inl (cZ, 35, .inl (GO))), (o2, .inl (cI, 30, .inl (TO))), (o3, .inl (cI, 6, .inl (OO))), (ox, .inl (cL, 1, .inr (.inl (vp_updL F 0 ((TF (en * 5 + bn)).toInt64)))))] H := hP
  have hD : va_D A [(h, .inr (1, [.ref (cond fb pf po), .ref (cond fb po pf), .int (nI (nn))])), (pf, .inr (0, [.ref f0, .ref f1, .ref f2, .ref f3])), (f0, .inl (cD, 35, .inr (.inr (.inr (.inl (NF)))))), (f1, .inl (cZ, 35, .inl (GF))), (f2, .inl (cI, 30, .inl (TF))), (f3, .inl (cI, 6, .inl (OF))), (po, .inr (0, [.ref o0, .ref o1, .ref o2, .ref o3])), (o0, .inl (cD, 35, .inr (.inr (.inr (.inl (NO)))))), (o1, .inl (cZ, 35, .inl (GO))), (o2, .inl (cI, 30, .inl (TO))), (o3, .inl (cI, 6, .inl (OO))), (ox, .inl (cL, 1, .inr (.inl (vp_updL F 0 ((TF (en * 5 + bn)).toInt64)))))] := hD
  refine lv_goto (tgt := 19) hx hb dL_kept_12 (by decide) ?_
  refine lv_iconst (v := nI 0) hx hb dL_kept_19 (by decide) ?_
  exact W.iret (v := nI 0) hx hb hr (fun t ht hW => ⟨⟨_, vp_updL F 0 ((TF (en * 5 + bn)).toInt64), rfl, ⟨rfl, (show vp_updL F 0 _ 0 = _ from pk_uLs)⟩, by rw [ht]; exact hP, va_K.moved hW.alike hK, hD⟩, hS.F ht⟩) hS.2.2 dL_kept_20
set_option maxHeartbeats 4000000 in
set_option maxRecDepth 100000 in
theorem c_L_place_ok (l : Launch) (dC : Nat → ClassId) (dI : Nat → Nat → Nat) (cD cZ cI cL : ClassId) (h pf f0 f1 f2 f3 po o0 o1 o2 o3 : Nat) (NF : Nat → UInt64) (GF TF OF : Nat → Int32) (NO : Nat → UInt64) (GO TO OO : Nat → Int32) (nn : Nat) (fb : Bool) (ox : Nat) (F : Nat → Int64) (sz : Nat) (hnn : nn ≤ 6) (en bn : Nat) (hen : en < nn) (hbn : bn < 5) (sb : Bool) : Met l yL_place wsL_place ({ frames := 5, cells := 0, slots := 0, locals := 120 }) (va_Pc [.ref h, .int (nI (Bool.toNat (fb))), .int (nI (en)), .int (nI (bn)), .int (nI (Bool.toNat (sb))), .ref ox] (fun U => U.heap.size = sz ∧ okL dC dI cD cZ cI cL (wL cD cZ cI cL h pf f0 f1 f2 f3 po o0 o1 o2 o3 NF GF TF OF NO GO TO OO nn fb ox F) U U.heap ∧ va_D (fun _ => True) (wL cD cZ cI cL h pf f0 f1 f2 f3 po o0 o1 o2 o3 NF GF TF OF NO GO TO OO nn fb ox F))) (va_Qi (fun (r : Int32) (u : ((Nat → Int32) × (Nat → Int64))) => r = nI 0 ∧ u.2 0 = (nI (stp (fun j => decide (lin (fun a b => gh (rl GF NF (a * 5 + bn) (b * 5 + bn)) sb) nn j ≠ en)) nn 0)).toInt64) (fun u t => atL dC dI cD cZ cI cL (va_A (wL cD cZ cI cL h pf f0 f1 f2 f3 po o0 o1 o2 o3 NF GF TF OF NO GO TO OO nn fb ox F) sz) (wL cD cZ cI cL h pf f0 f1 f2 f3 po o0 o1 o2 o3 NF GF TF u.1 NO GO TO OO nn fb ox u.2) t) (va_A (wL cD cZ cI cL h pf f0 f1 f2 f3 po o0 o1 o2 o3 NF GF TF OF NO GO TO OO nn fb ox F) sz)) 0 0 (va_A (wL cD cZ cI cL h pf f0 f1 f2 f3 po o0 o1 o2 o3 NF GF TF OF NO GO TO OO nn fb ox F) sz) := by
  refine va_MetW (cc := cL_place) (maxL := 7) (ret := (some .int)) (hh := [(0, 14, 17, 19)]) (by decide) rfl ?_
  intro p e s m args below meth c s₁ B hml hv
  obtain ⟨rfl, hsz, hO, hD0⟩ := hv
  obtain ⟨hP, hK, hE⟩ := id hO
  have hx := B.exec
  have hb := B.bytes
  have hr := B.returns
  have hts := atoms_spec (ws := wsL_place) B.pre
  have hown : s.vm.findClass RL = some m.cls := findClass_of_methodNamed B.named
  have hlocks := B.notSynchronized
  subst hsz
  have hD := hD0.self (sz := s.heap.size)
  generalize hAe : va_A (wL cD cZ cI cL h pf f0 f1 f2 f3 po o0 o1 o2 o3 NF GF TF OF NO GO TO OO nn fb ox F) s.heap.size = A at hD ⊢
  have hA : ∀ q : Nat, s.heap.size ≤ q → A q := fun q h => by rw [← hAe]; exact Or.inr h
  have hS : va_S A s.heap s.heap [] := va_S.rf
  have hP : va_P (dC, dI) vwCl [(h, .inr (1, [.ref (cond fb pf po), .ref (cond fb po pf), .int (nI (nn))])), (pf, .inr (0, [.ref f0, .ref f1, .ref f2, .ref f3])), (f0, .inl (cD, 35, .inr (.inr (.inr (.inl (NF)))))), (f1, .inl (cZ, 35, .inl (GF))), (f2, .inl (cI, 30, .inl (TF))), (f3, .inl (cI, 6, .inl (OF))), (po, .inr (0, [.ref o0, .ref o1, .ref o2, .ref o3])), (o0, .inl (cD, 35, .inr (.inr (.inr (.inl (NO)))))), (o1, .inl (cZ, 35, .inl (GO))), (o2, .inl (cI, 30, .inl (TO))), (o3, .inl (cI, 6, .inl (OO))), (ox, .inl (cL, 1, .inr (.inl (F))))] s.heap := hP
  have hD : va_D A [(h, .inr (1, [.ref (cond fb pf po), .ref (cond fb po pf), .int (nI (nn))])), (pf, .inr (0, [.ref f0, .ref f1, .ref f2, .ref f3])), (f0, .inl (cD, 35, .inr (.inr (.inr (.inl (NF)))))), (f1, .inl (cZ, 35, .inl (GF))), (f2, .inl (cI, 30, .inl (TF))), (f3, .inl (cI, 6, .inl (OF))), (po, .inr (0, [.ref o0, .ref o1, .ref o2, .ref o3])), (o0, .inl (cD, 35, .inr (.inr (.inr (.inl (NO)))))), (o1, .inl (cZ, 35, .inl (GO))), (o2, .inl (cI, 30, .inl (TO))), (o3, .inl (cI, 6, .inl (OO))), (ox, .inl (cL, 1, .inr (.inl (F))))] := hD
  have hl := lv_entry ([.ref h, .int (nI (Bool.toNat (fb))), .int (nI (en)), .int (nI (bn)), .int (nI (Bool.toNat (sb))), .ref ox]) (n := 7) (Nat.le_of_ble_eq_true rfl)
  rw [lg_entry_eq]
  generalize (lg_sl ([.ref h, .int (nI (Bool.toNat (fb))), .int (nI (en)), .int (nI (bn)), .int (nI (Bool.toNat (sb))), .ref ox]) ++ List.replicate (7 - (lg_sl ([.ref h, .int (nI (Bool.toNat (fb))), .int (nI (en)), .int (nI (bn)), .int (nI (Bool.toNat (sb))), .ref ox])).length) Slot.unset).toArray = ls at hl ⊢
  have hl : lv_has ls 7 [(0, .ref h), (1, .int (nI (Bool.toNat (fb)))), (2, .int (nI (en))), (3, .int (nI (bn))), (4, .int (nI (Bool.toNat (sb)))), (5, .ref ox)] := hl
  refine lv_aload hx hb dL_place_0 (lv_at hl 5 rfl) ?_
  refine lv_iconst (v := nI 0) hx hb dL_place_2 (by decide) ?_
  refine lv_aload_n hx hb dL_place_3 rfl (lv_at hl 0 rfl) ?_
  refine lv_iload_n hx hb dL_place_4 rfl (lv_at hl 1 rfl) ?_
  refine lv_iload_n hx hb dL_place_5 rfl (lv_at hl 2 rfl) ?_
  refine lv_iload_n hx hb dL_place_6 rfl (lv_at hl 3 rfl) ?_
  refine lv_iload hx hb dL_place_7 (lv_at hl 4 rfl) ?_
  have hPc := hP.sub (ws' := [(h, .inr (1, [.ref (cond fb pf po), .ref (cond fb po pf), .int (nI (nn))])), (pf, .inr (0, [.ref f0, .ref f1, .ref f2, .ref f3])), (f0, .inl (cD, 35, .inr (.inr (.inr (.inl (NF)))))), (f1, .inl (cZ, 35, .inl (GF))), (f2, .inl (cI, 30, .inl (TF))), (f3, .inl (cI, 6, .inl (OF))), (po, .inr (0, [.ref o0, .ref o1, .ref o2, .ref o3])), (o0, .inl (cD, 35, .inr (.inr (.inr (.inl (NO)))))), (o1, .inl (cZ, 35, .inl (GO))), (o2, .inl (cI, 30, .inl (TO))), (o3, .inl (cI, 6, .inl (OO)))]) [0, 1, 2, 3, 4, 5, 6, 7, 8, 9, 10] rfl
  have hDc := hD.sub (ws' := [(h, .inr (1, [.ref (cond fb pf po), .ref (cond fb po pf), .int (nI (nn))])), (pf, .inr (0, [.ref f0, .ref f1, .ref f2, .ref f3])), (f0, .inl (cD, 35, .inr (.inr (.inr (.inl (NF)))))), (f1, .inl (cZ, 35, .inl (GF))), (f2, .inl (cI, 30, .inl (TF))), (f3, .inl (cI, 6, .inl (OF))), (po, .inr (0, [.ref o0, .ref o1, .ref o2, .ref o3])), (o0, .inl (cD, 35, .inr (.inr (.inr (.inl (NO)))))), (o1, .inl (cZ, 35, .inl (GO))), (o2, .inl (cI, 30, .inl (TO))), (o3, .inl (cI, 6, .inl (OO)))]) [0, 1, 2, 3, 4, 5, 6, 7, 8, 9, 10] (by decide) rfl
  have hFc := va_free (wc := [(h, .inr (1, [.ref (cond fb pf po), .ref (cond fb po pf), .int (nI (nn))])), (pf, .inr (0, [.ref f0, .ref f1, .ref f2, .ref f3])), (f0, .inl (cD, 35, .inr (.inr (.inr (.inl (NF)))))), (f1, .inl (cZ, 35, .inl (GF))), (f2, .inl (cI, 30, .inl (TF))), (f3, .inl (cI, 6, .inl (OF))), (po, .inr (0, [.ref o0, .ref o1, .ref o2, .ref o3])), (o0, .inl (cD, 35, .inr (.inr (.inr (.inl (NO)))))), (o1, .inl (cZ, 35, .inl (GO))), (o2, .inl (cI, 30, .inl (TO))), (o3, .inl (cI, 6, .inl (OO)))]) hD hS hA [0, 1, 2, 3, 4, 5, 6, 7, 8, 9, 10] rfl
  refine va_calli (va_runV (As := [.int (nI (Bool.toNat (fb))), .int (nI (en)), .int (nI (bn)), .int (nI (Bool.toNat (sb)))]) (rest := [.int (nI (0)), .ref ox]) ⟨hx, hb, hml, hown, hts⟩ (c_X1_place_ok l dC dI cD cZ cI h pf f0 f1 f2 f3 po o0 o1 o2 o3 NF GF TF OF NO GO TO OO nn fb s.heap.size hnn en bn hen hbn sb) (cwV 4 hts gL_place_X1_place rfl rfl rfl (by decide +kernel) ⟨Nat.le_of_ble_eq_true rfl, Nat.le_of_ble_eq_true rfl⟩) (okJW_pre ⟨hPc, hK.sub [0, 1, 2] rfl, hE⟩ hDc) rfl rfl hl.1 rfl (lv_room (Nat.le_of_ble_eq_true rfl)) dL_place_9 ⟨Nat.zero_le _, Nat.zero_le _⟩) hS (fun q _ h => hFc q h) hFc (fun r1 u1 t H1 locs ht hvm hw hB hz1 hk1 hS => ?_)
  obtain ⟨hP1, hK1, hD1⟩ := hB
  rw [ht] at hP1
  obtain ⟨hP, hD⟩ := va_join (wr := [(ox, .inl (cL, 1, .inr (.inl (F))))]) (w1 := [(h, .inr (1, [.ref (cond fb pf po), .ref (cond fb po pf), .int (nI (nn))])), (pf, .inr (0, [.ref f0, .ref f1, .ref f2, .ref f3])), (f0, .inl (cD, 35, .inr (.inr (.inr (.inl (NF)))))), (f1, .inl (cZ, 35, .inl (GF))), (f2, .inl (cI, 30, .inl (TF))), (f3, .inl (cI, 6, .inl (u1))), (po, .inr (0, [.ref o0, .ref o1, .ref o2, .ref o3])), (o0, .inl (cD, 35, .inr (.inr (.inr (.inl (NO)))))), (o1, .inl (cZ, 35, .inl (GO))), (o2, .inl (cI, 30, .inl (TO))), (o3, .inl (cI, 6, .inl (OO)))]) hP hD [0, 1, 2, 3, 4, 5, 6, 7, 8, 9, 10] [11] rfl rfl (by decide) (by decide) hk1 hFc hP1 hD1
  have hP := hP.sub (ws' := [(h, .inr (1, [.ref (cond fb pf po), .ref (cond fb po pf), .int (nI (nn))])), (pf, .inr (0, [.ref f0, .ref f1, .ref f2, .ref f3])), (f0, .inl (cD, 35, .inr (.inr (.inr (.inl (NF)))))), (f1, .inl (cZ, 35, .inl (GF))), (f2, .inl (cI, 30, .inl (TF))), (f3, .inl (cI, 6, .inl (u1))), (po, .inr (0, [.ref o0, .ref o1, .ref o2, .ref o3])), (o0, .inl (cD, 35, .inr (.inr (.inr (.inl (NO)))))), (o1, .inl (cZ, 35, .inl (GO))), (o2, .inl (cI, 30, .inl (TO))), (o3, .inl (cI, 6, .inl (OO))), (ox, .inl (cL, 1, .inr (.inl (F))))]) [1, 2, 3, 4, 5, 6, 7, 8, 9, 10, 11, 0] rfl
  have hD := hD.sub (ws' := [(h, .inr (1, [.ref (cond fb pf po), .ref (cond fb po pf), .int (nI (nn))])), (pf, .inr (0, [.ref f0, .ref f1, .ref f2, .ref f3])), (f0, .inl (cD, 35, .inr (.inr (.inr (.inl (NF)))))), (f1, .inl (cZ, 35, .inl (GF))), (f2, .inl (cI, 30, .inl (TF))), (f3, .inl (cI, 6, .inl (u1))), (po, .inr (0, [.ref o0, .ref o1, .ref o2, .ref o3])), (o0, .inl (cD, 35, .inr (.inr (.inr (.inl (NO)))))), (o1, .inl (cZ, 35, .inl (GO))), (o2, .inl (cI, 30, .inl (TO))), (o3, .inl (cI, 6, .inl (OO))), (ox, .inl (cL, 1, .inr (.inl (F))))]) [1, 2, 3, 4, 5, 6, 7, 8, 9, 10, 11, 0] (by decide) rfl
  generalize H1 = H at hP hS ⊢
  have hP : va_P (dC, dI) vwCl [(h, .inr (1, [.ref (cond fb pf po), .ref (cond fb po pf), .int (nI (nn))])), (pf, .inr (0, [.ref f0, .ref f1, .ref f2, .ref f3])), (f0, .inl (cD, 35, .inr (.inr (.inr (.inl (NF)))))), (f1, .inl (cZ, 35, .inl (GF))), (f2, .inl (cI, 30, .inl (TF))), (f3, .inl (cI, 6, .inl (u1))), (po, .inr (0, [.ref o0, .ref o1, .ref o2, .ref o3])), (o0, .inl (cD, 35, .inr (.inr (.inr (.inl (NO)))))), (o1, .inl (cZ, 35, .inl (GO))), (o2, .inl (cI, 30, .inl (TO))), (o3, .inl (cI, 6, .inl (OO))), (ox, .inl (cL, 1, .inr (.inl (F))))] H := hP
  have hD : va_D A [(h, .inr (1, [.ref (cond fb pf po), .ref (cond fb po pf), .int (nI (nn))])), (pf, .inr (0, [.ref f0, .ref f1, .ref f2, .ref f3])), (f0, .inl (cD, 35, .inr (.inr (.inr (.inl (NF)))))), (f1, .inl (cZ, 35, .inl (GF))), (f2, .inl (cI, 30, .inl (TF))), (f3, .inl (cI, 6, .inl (u1))), (po, .inr (0, [.ref o0, .ref o1, .ref o2, .ref o3])), (o0, .inl (cD, 35, .inr (.inr (.inr (.inl (NO)))))), (o1, .inl (cZ, 35, .inl (GO))), (o2, .inl (cI, 30, .inl (TO))), (o3, .inl (cI, 6, .inl (OO))), (ox, .inl (cL, 1, .inr (.inl (F))))] := hD
  subst hw
  refine lv_i2l (v := (nI (stp (fun j => decide (lin (fun a b => gh (rl GF NF (a * 5 + bn) (b * 5 + bn)) sb) nn j ≠ en)) nn 0)).toInt64) hx hb dL_place_12 rfl ?_
  refine xn_last hx hb hK hP hD hS 11 3 rfl rfl (n := 1) (j := 0) (by decide) (by decide) dL_place_13 (fun H locs hP hD hS => ?_)
  have hP : va_P (dC, dI) vwCl [(h, .inr (1, [.ref (cond fb pf po), .ref (cond fb po pf), .int (nI (nn))])), (pf, .inr (0, [.ref f0, .ref f1, .ref f2, .ref f3])), (f0, .inl (cD, 35, .inr (.inr (.inr (.inl (NF)))))), (f1, .inl (cZ, 35, .inl (GF))), (f2, .inl (cI, 30, .inl (TF))), (f3, .inl (cI, 6, .inl (u1))), (po, .inr (0, [.ref o0, .ref o1, .ref o2, .ref o3])), (o0, .inl (cD, 35, .inr (.inr (.inr (.inl (NO)))))), (o1, .inl (cZ, 35, .inl (GO))), (o2, .inl (cI, 30, .inl (TO))), (o3, .inl (cI, 6, .inl (OO))), (ox, .inl (cL, 1, .inr (.inl (vp_updL F 0 ((nI (stp (fun j => decide (lin (fun a b => gh (rl GF NF (a * 5 + bn) (b * 5 + bn)) sb) nn j ≠ en)) nn 0)).toInt64)))))] H := hP
  have hD : va_D A [(h, .inr (1, [.ref (cond fb pf po), .ref (cond fb po pf), .int (nI (nn))])), (pf, .inr (0, [.ref f0, .ref f1, .ref f2, .ref f3])), (f0, .inl (cD, 35, .inr (.inr (.inr (.inl (NF)))))), (f1, .inl (cZ, 35, .inl (GF))), (f2, .inl (cI, 30, .inl (TF))), (f3, .inl (cI, 6, .inl (u1))), (po, .inr (0, [.ref o0, .ref o1, .ref o2, .ref o3])), (o0, .inl (cD, 35, .inr (.inr (.inr (.inl (NO)))))), (o1, .inl (cZ, 35, .inl (GO))), (o2, .inl (cI, 30, .inl (TO))), (o3, .inl (cI, 6, .inl (OO))), (ox, .inl (cL, 1, .inr (.inl (vp_updL F 0 ((nI (stp (fun j => decide (lin (fun a b => gh (rl GF NF (a * 5 + bn) (b * 5 + bn)) sb) nn j ≠ en)) nn 0)).toInt64)))))] := hD
  refine lv_goto (tgt := 21) hx hb dL_place_14 (by decide) ?_
  refine lv_iconst (v := nI 0) hx hb dL_place_21 (by decide) ?_
  exact W.iret (v := nI 0) hx hb hr (fun t ht hW => ⟨⟨_, (u1, vp_updL F 0 ((nI (stp (fun j => decide (lin (fun a b => gh (rl GF NF (a * 5 + bn) (b * 5 + bn)) sb) nn j ≠ en)) nn 0)).toInt64)), rfl, ⟨rfl, (show vp_updL F 0 _ 0 = _ from pk_uLs)⟩, by rw [ht]; exact hP, va_K.moved hW.alike hK, hD⟩, hS.F ht⟩) hS.2.2 dL_place_22
set_option maxHeartbeats 4000000 in
set_option maxRecDepth 100000 in
theorem c_L_best_ok (l : Launch) (dC : Nat → ClassId) (dI : Nat → Nat → Nat) (cD cZ cI cL : ClassId) (h pf f0 f1 f2 f3 po o0 o1 o2 o3 : Nat) (NF : Nat → UInt64) (GF TF OF : Nat → Int32) (NO : Nat → UInt64) (GO TO OO : Nat → Int32) (nn : Nat) (fb : Bool) (ox : Nat) (F : Nat → Int64) (sz : Nat) (hnn : nn ≤ 6) (bn how : Nat) (hbn : bn < 5) (hhow : how < 4) : Met l yL_best wsL_best ({ frames := 3, cells := 0, slots := 0, locals := 70 }) (va_Pc [.ref h, .int (nI (Bool.toNat (fb))), .int (nI (bn)), .int (nI (how)), .ref ox] (fun U => U.heap.size = sz ∧ okL dC dI cD cZ cI cL (wL cD cZ cI cL h pf f0 f1 f2 f3 po o0 o1 o2 o3 NF GF TF OF NO GO TO OO nn fb ox F) U U.heap ∧ va_D (fun _ => True) (wL cD cZ cI cL h pf f0 f1 f2 f3 po o0 o1 o2 o3 NF GF TF OF NO GO TO OO nn fb ox F))) (va_Qi (fun (r : Int32) (u : (Nat → Int64)) => r = nI 0 ∧ u 0 = (if nn = 0 then (-1) else nI (bst (fun i j => bet (rl GF NF (i * 5 + bn) (j * 5 + bn)) how) (nn - 1))).toInt64) (fun u t => atL dC dI cD cZ cI cL (va_A (wL cD cZ cI cL h pf f0 f1 f2 f3 po o0 o1 o2 o3 NF GF TF OF NO GO TO OO nn fb ox F) sz) (wL cD cZ cI cL h pf f0 f1 f2 f3 po o0 o1 o2 o3 NF GF TF OF NO GO TO OO nn fb ox u) t) (va_A (wL cD cZ cI cL h pf f0 f1 f2 f3 po o0 o1 o2 o3 NF GF TF OF NO GO TO OO nn fb ox F) sz)) 0 0 (va_A (wL cD cZ cI cL h pf f0 f1 f2 f3 po o0 o1 o2 o3 NF GF TF OF NO GO TO OO nn fb ox F) sz) := by
  refine va_MetW (cc := cL_best) (maxL := 6) (ret := (some .int)) (hh := [(0, 12, 15, 19), (0, 12, 19, 41)]) (by decide) rfl ?_
  intro p e s m args below meth c s₁ B hml hv
  obtain ⟨rfl, hsz, hO, hD0⟩ := hv
  obtain ⟨hP, hK, hE⟩ := id hO
  have hx := B.exec
  have hb := B.bytes
  have hr := B.returns
  have hts := atoms_spec (ws := wsL_best) B.pre
  have hown : s.vm.findClass RL = some m.cls := findClass_of_methodNamed B.named
  have hlocks := B.notSynchronized
  subst hsz
  have hD := hD0.self (sz := s.heap.size)
  generalize hAe : va_A (wL cD cZ cI cL h pf f0 f1 f2 f3 po o0 o1 o2 o3 NF GF TF OF NO GO TO OO nn fb ox F) s.heap.size = A at hD ⊢
  have hA : ∀ q : Nat, s.heap.size ≤ q → A q := fun q h => by rw [← hAe]; exact Or.inr h
  have hS : va_S A s.heap s.heap [] := va_S.rf
  have hP : va_P (dC, dI) vwCl [(h, .inr (1, [.ref (cond fb pf po), .ref (cond fb po pf), .int (nI (nn))])), (pf, .inr (0, [.ref f0, .ref f1, .ref f2, .ref f3])), (f0, .inl (cD, 35, .inr (.inr (.inr (.inl (NF)))))), (f1, .inl (cZ, 35, .inl (GF))), (f2, .inl (cI, 30, .inl (TF))), (f3, .inl (cI, 6, .inl (OF))), (po, .inr (0, [.ref o0, .ref o1, .ref o2, .ref o3])), (o0, .inl (cD, 35, .inr (.inr (.inr (.inl (NO)))))), (o1, .inl (cZ, 35, .inl (GO))), (o2, .inl (cI, 30, .inl (TO))), (o3, .inl (cI, 6, .inl (OO))), (ox, .inl (cL, 1, .inr (.inl (F))))] s.heap := hP
  have hD : va_D A [(h, .inr (1, [.ref (cond fb pf po), .ref (cond fb po pf), .int (nI (nn))])), (pf, .inr (0, [.ref f0, .ref f1, .ref f2, .ref f3])), (f0, .inl (cD, 35, .inr (.inr (.inr (.inl (NF)))))), (f1, .inl (cZ, 35, .inl (GF))), (f2, .inl (cI, 30, .inl (TF))), (f3, .inl (cI, 6, .inl (OF))), (po, .inr (0, [.ref o0, .ref o1, .ref o2, .ref o3])), (o0, .inl (cD, 35, .inr (.inr (.inr (.inl (NO)))))), (o1, .inl (cZ, 35, .inl (GO))), (o2, .inl (cI, 30, .inl (TO))), (o3, .inl (cI, 6, .inl (OO))), (ox, .inl (cL, 1, .inr (.inl (F))))] := hD
  have hl := lv_entry ([.ref h, .int (nI (Bool.toNat (fb))), .int (nI (bn)), .int (nI (how)), .ref ox]) (n := 6) (Nat.le_of_ble_eq_true rfl)
  rw [lg_entry_eq]
  generalize (lg_sl ([.ref h, .int (nI (Bool.toNat (fb))), .int (nI (bn)), .int (nI (how)), .ref ox]) ++ List.replicate (6 - (lg_sl ([.ref h, .int (nI (Bool.toNat (fb))), .int (nI (bn)), .int (nI (how)), .ref ox])).length) Slot.unset).toArray = ls at hl ⊢
  have hl : lv_has ls 6 [(0, .ref h), (1, .int (nI (Bool.toNat (fb)))), (2, .int (nI (bn))), (3, .int (nI (how))), (4, .ref ox)] := hl
  refine lv_aload hx hb dL_best_0 (lv_at hl 4 rfl) ?_
  refine lv_iconst (v := nI 0) hx hb dL_best_2 (by decide) ?_
  refine lv_aload_n hx hb dL_best_3 rfl (lv_at hl 0 rfl) ?_
  refine lv_iload_n hx hb dL_best_4 rfl (lv_at hl 1 rfl) ?_
  refine lv_iload_n hx hb dL_best_5 rfl (lv_at hl 2 rfl) ?_
  refine lv_iload_n hx hb dL_best_6 rfl (lv_at hl 3 rfl) ?_
  refine vp_callSi (va_Run.run (va_runV (As := [.int (nI (Bool.toNat (fb))), .int (nI (bn)), .int (nI (how))]) (rest := [.int (nI (0)), .ref ox]) ⟨hx, hb, hml, hown, hts⟩ (c_X1_best_ok l dC dI cD cZ cI h pf f0 f1 f2 f3 po o0 o1 o2 o3 NF GF TF OF NO GO TO OO nn fb hnn bn how hbn hhow) (cwV 3 hts gL_best_X1_best rfl rfl rfl (by decide +kernel) ⟨Nat.le_of_ble_eq_true rfl, Nat.le_of_ble_eq_true rfl⟩) (okJ_pre ⟨hP.sub (ws' := [(h, .inr (1, [.ref (cond fb pf po), .ref (cond fb po pf), .int (nI (nn))])), (pf, .inr (0, [.ref f0, .ref f1, .ref f2, .ref f3])), (f0, .inl (cD, 35, .inr (.inr (.inr (.inl (NF)))))), (f1, .inl (cZ, 35, .inl (GF))), (f2, .inl (cI, 30, .inl (TF))), (f3, .inl (cI, 6, .inl (OF))), (po, .inr (0, [.ref o0, .ref o1, .ref o2, .ref o3])), (o0, .inl (cD, 35, .inr (.inr (.inr (.inl (NO)))))), (o1, .inl (cZ, 35, .inl (GO))), (o2, .inl (cI, 30, .inl (TO))), (o3, .inl (cI, 6, .inl (OO)))]) [0, 1, 2, 3, 4, 5, 6, 7, 8, 9, 10] rfl, hK.sub [0, 1, 2] rfl, hE⟩) rfl rfl hl.1 rfl (lv_room (Nat.le_of_ble_eq_true rfl)) dL_best_7 ⟨Nat.zero_le _, Nat.zero_le _⟩)) (fun r1 er1 => ?_)
  subst er1
  refine lv_i2l (v := (if nn = 0 then (-1) else nI (bst (fun i j => bet (rl GF NF (i * 5 + bn) (j * 5 + bn)) how) (nn - 1))).toInt64) hx hb dL_best_10 rfl ?_
  refine xn_last hx hb hK hP hD hS 11 3 rfl rfl (n := 1) (j := 0) (by decide) (by decide) dL_best_11 (fun H locs hP hD hS => ?_)
  have hP : va_P (dC, dI) vwCl [(h, .inr (1, [.ref (cond fb pf po), .ref (cond fb po pf), .int (nI (nn))])), (pf, .inr (0, [.ref f0, .ref f1, .ref f2, .ref f3])), (f0, .inl (cD, 35, .inr (.inr (.inr (.inl (NF)))))), (f1, .inl (cZ, 35, .inl (GF))), (f2, .inl (cI, 30, .inl (TF))), (f3, .inl (cI, 6, .inl (OF))), (po, .inr (0, [.ref o0, .ref o1, .ref o2, .ref o3])), (o0, .inl (cD, 35, .inr (.inr (.inr (.inl (NO)))))), (o1, .inl (cZ, 35, .inl (GO))), (o2, .inl (cI, 30, .inl (TO))), (o3, .inl (cI, 6, .inl (OO))), (ox, .inl (cL, 1, .inr (.inl (vp_updL F 0 ((if nn = 0 then (-1) else nI (bst (fun i j => bet (rl GF NF (i * 5 + bn) (j * 5 + bn)) how) (nn - 1))).toInt64)))))] H := hP
  have hD : va_D A [(h, .inr (1, [.ref (cond fb pf po), .ref (cond fb po pf), .int (nI (nn))])), (pf, .inr (0, [.ref f0, .ref f1, .ref f2, .ref f3])), (f0, .inl (cD, 35, .inr (.inr (.inr (.inl (NF)))))), (f1, .inl (cZ, 35, .inl (GF))), (f2, .inl (cI, 30, .inl (TF))), (f3, .inl (cI, 6, .inl (OF))), (po, .inr (0, [.ref o0, .ref o1, .ref o2, .ref o3])), (o0, .inl (cD, 35, .inr (.inr (.inr (.inl (NO)))))), (o1, .inl (cZ, 35, .inl (GO))), (o2, .inl (cI, 30, .inl (TO))), (o3, .inl (cI, 6, .inl (OO))), (ox, .inl (cL, 1, .inr (.inl (vp_updL F 0 ((if nn = 0 then (-1) else nI (bst (fun i j => bet (rl GF NF (i * 5 + bn) (j * 5 + bn)) how) (nn - 1))).toInt64)))))] := hD
  refine lv_goto (tgt := 23) hx hb dL_best_12 (by decide) ?_
  refine lv_iconst (v := nI 0) hx hb dL_best_23 (by decide) ?_
  exact W.iret (v := nI 0) hx hb hr (fun t ht hW => ⟨⟨_, vp_updL F 0 ((if nn = 0 then (-1) else nI (bst (fun i j => bet (rl GF NF (i * 5 + bn) (j * 5 + bn)) how) (nn - 1))).toInt64), rfl, ⟨rfl, (show vp_updL F 0 _ 0 = _ from pk_uLs)⟩, by rw [ht]; exact hP, va_K.moved hW.alike hK, hD⟩, hS.F ht⟩) hS.2.2 dL_best_24
set_option maxHeartbeats 4000000 in
set_option maxRecDepth 100000 in
theorem c_L_against_ok (l : Launch) (dC : Nat → ClassId) (dI : Nat → Nat → Nat) (cD cZ cI cL : ClassId) (h pf f0 f1 f2 f3 po o0 o1 o2 o3 : Nat) (NF : Nat → UInt64) (GF TF OF : Nat → Int32) (NO : Nat → UInt64) (GO TO OO : Nat → Int32) (nn : Nat) (fb : Bool) (ox : Nat) (F : Nat → Int64) (sz : Nat) (hnn : nn ≤ 6) (ea eb wh : Nat) (hea : ea < nn) (heb : eb < nn) (hwh : wh < 5) : Met l yL_against wsL_against ({ frames := 3, cells := 0, slots := 0, locals := 71 }) (va_Pc [.ref h, .int (nI (Bool.toNat (fb))), .int (nI (ea)), .int (nI (eb)), .int (nI (wh)), .ref ox] (fun U => U.heap.size = sz ∧ okL dC dI cD cZ cI cL (wL cD cZ cI cL h pf f0 f1 f2 f3 po o0 o1 o2 o3 NF GF TF OF NO GO TO OO nn fb ox F) U U.heap ∧ va_D (fun _ => True) (wL cD cZ cI cL h pf f0 f1 f2 f3 po o0 o1 o2 o3 NF GF TF OF NO GO TO OO nn fb ox F))) (va_Qi (fun (r : Int32) (u : (Nat → Int64)) => r = nI 0 ∧ u 0 = (nI (cnt (fun i => ag (rl GF NF (ea * 5 + i) (eb * 5 + i)) wh) 5)).toInt64) (fun u t => atL dC dI cD cZ cI cL (va_A (wL cD cZ cI cL h pf f0 f1 f2 f3 po o0 o1 o2 o3 NF GF TF OF NO GO TO OO nn fb ox F) sz) (wL cD cZ cI cL h pf f0 f1 f2 f3 po o0 o1 o2 o3 NF GF TF OF NO GO TO OO nn fb ox u) t) (va_A (wL cD cZ cI cL h pf f0 f1 f2 f3 po o0 o1 o2 o3 NF GF TF OF NO GO TO OO nn fb ox F) sz)) 0 0 (va_A (wL cD cZ cI cL h pf f0 f1 f2 f3 po o0 o1 o2 o3 NF GF TF OF NO GO TO OO nn fb ox F) sz) := by
  refine va_MetW (cc := cL_against) (maxL := 7) (ret := (some .int)) (hh := [(0, 14, 17, 19), (0, 14, 21, 41)]) (by decide) rfl ?_
  intro p e s m args below meth c s₁ B hml hv
  obtain ⟨rfl, hsz, hO, hD0⟩ := hv
  obtain ⟨hP, hK, hE⟩ := id hO
  have hx := B.exec
  have hb := B.bytes
  have hr := B.returns
  have hts := atoms_spec (ws := wsL_against) B.pre
  have hown : s.vm.findClass RL = some m.cls := findClass_of_methodNamed B.named
  have hlocks := B.notSynchronized
  subst hsz
  have hD := hD0.self (sz := s.heap.size)
  generalize hAe : va_A (wL cD cZ cI cL h pf f0 f1 f2 f3 po o0 o1 o2 o3 NF GF TF OF NO GO TO OO nn fb ox F) s.heap.size = A at hD ⊢
  have hA : ∀ q : Nat, s.heap.size ≤ q → A q := fun q h => by rw [← hAe]; exact Or.inr h
  have hS : va_S A s.heap s.heap [] := va_S.rf
  have hP : va_P (dC, dI) vwCl [(h, .inr (1, [.ref (cond fb pf po), .ref (cond fb po pf), .int (nI (nn))])), (pf, .inr (0, [.ref f0, .ref f1, .ref f2, .ref f3])), (f0, .inl (cD, 35, .inr (.inr (.inr (.inl (NF)))))), (f1, .inl (cZ, 35, .inl (GF))), (f2, .inl (cI, 30, .inl (TF))), (f3, .inl (cI, 6, .inl (OF))), (po, .inr (0, [.ref o0, .ref o1, .ref o2, .ref o3])), (o0, .inl (cD, 35, .inr (.inr (.inr (.inl (NO)))))), (o1, .inl (cZ, 35, .inl (GO))), (o2, .inl (cI, 30, .inl (TO))), (o3, .inl (cI, 6, .inl (OO))), (ox, .inl (cL, 1, .inr (.inl (F))))] s.heap := hP
  have hD : va_D A [(h, .inr (1, [.ref (cond fb pf po), .ref (cond fb po pf), .int (nI (nn))])), (pf, .inr (0, [.ref f0, .ref f1, .ref f2, .ref f3])), (f0, .inl (cD, 35, .inr (.inr (.inr (.inl (NF)))))), (f1, .inl (cZ, 35, .inl (GF))), (f2, .inl (cI, 30, .inl (TF))), (f3, .inl (cI, 6, .inl (OF))), (po, .inr (0, [.ref o0, .ref o1, .ref o2, .ref o3])), (o0, .inl (cD, 35, .inr (.inr (.inr (.inl (NO)))))), (o1, .inl (cZ, 35, .inl (GO))), (o2, .inl (cI, 30, .inl (TO))), (o3, .inl (cI, 6, .inl (OO))), (ox, .inl (cL, 1, .inr (.inl (F))))] := hD
  have hl := lv_entry ([.ref h, .int (nI (Bool.toNat (fb))), .int (nI (ea)), .int (nI (eb)), .int (nI (wh)), .ref ox]) (n := 7) (Nat.le_of_ble_eq_true rfl)
  rw [lg_entry_eq]
  generalize (lg_sl ([.ref h, .int (nI (Bool.toNat (fb))), .int (nI (ea)), .int (nI (eb)), .int (nI (wh)), .ref ox]) ++ List.replicate (7 - (lg_sl ([.ref h, .int (nI (Bool.toNat (fb))), .int (nI (ea)), .int (nI (eb)), .int (nI (wh)), .ref ox])).length) Slot.unset).toArray = ls at hl ⊢
  have hl : lv_has ls 7 [(0, .ref h), (1, .int (nI (Bool.toNat (fb)))), (2, .int (nI (ea))), (3, .int (nI (eb))), (4, .int (nI (wh))), (5, .ref ox)] := hl
  refine lv_aload hx hb dL_against_0 (lv_at hl 5 rfl) ?_
  refine lv_iconst (v := nI 0) hx hb dL_against_2 (by decide) ?_
  refine lv_aload_n hx hb dL_against_3 rfl (lv_at hl 0 rfl) ?_
  refine lv_iload_n hx hb dL_against_4 rfl (lv_at hl 1 rfl) ?_
  refine lv_iload_n hx hb dL_against_5 rfl (lv_at hl 2 rfl) ?_
  refine lv_iload_n hx hb dL_against_6 rfl (lv_at hl 3 rfl) ?_
  refine lv_iload hx hb dL_against_7 (lv_at hl 4 rfl) ?_
  refine vp_callSi (va_Run.run (va_runV (As := [.int (nI (Bool.toNat (fb))), .int (nI (ea)), .int (nI (eb)), .int (nI (wh))]) (rest := [.int (nI (0)), .ref ox]) ⟨hx, hb, hml, hown, hts⟩ (c_X1_against_ok l dC dI cD cZ cI h pf f0 f1 f2 f3 po o0 o1 o2 o3 NF GF TF OF NO GO TO OO nn fb hnn ea eb wh hea heb hwh) (cwV 4 hts gL_against_X1_against rfl rfl rfl (by decide +kernel) ⟨Nat.le_of_ble_eq_true rfl, Nat.le_of_ble_eq_true rfl⟩) (okJ_pre ⟨hP.sub (ws' := [(h, .inr (1, [.ref (cond fb pf po), .ref (cond fb po pf), .int (nI (nn))])), (pf, .inr (0, [.ref f0, .ref f1, .ref f2, .ref f3])), (f0, .inl (cD, 35, .inr (.inr (.inr (.inl (NF)))))), (f1, .inl (cZ, 35, .inl (GF))), (f2, .inl (cI, 30, .inl (TF))), (f3, .inl (cI, 6, .inl (OF))), (po, .inr (0, [.ref o0, .ref o1, .ref o2, .ref o3])), (o0, .inl (cD, 35, .inr (.inr (.inr (.inl (NO)))))), (o1, .inl (cZ, 35, .inl (GO))), (o2, .inl (cI, 30, .inl (TO))), (o3, .inl (cI, 6, .inl (OO)))]) [0, 1, 2, 3, 4, 5, 6, 7, 8, 9, 10] rfl, hK.sub [0, 1, 2] rfl, hE⟩) rfl rfl hl.1 rfl (lv_room (Nat.le_of_ble_eq_true rfl)) dL_against_9 ⟨Nat.zero_le _, Nat.zero_le _⟩)) (fun r1 er1 => ?_)
  subst er1
  refine lv_i2l (v := (nI (cnt (fun i => ag (rl GF NF (ea * 5 + i) (eb * 5 + i)) wh) 5)).toInt64) hx hb dL_against_12 rfl ?_
  refine xn_last hx hb hK hP hD hS 11 3 rfl rfl (n := 1) (j := 0) (by decide) (by decide) dL_against_13 (fun H locs hP hD hS => ?_)
  have hP : va_P (dC, dI) vwCl [(h, .inr (1, [.ref (cond fb pf po), .ref (cond fb po pf), .int (nI (nn))])), (pf, .inr (0, [.ref f0, .ref f1, .ref f2, .ref f3])), (f0, .inl (cD, 35, .inr (.inr (.inr (.inl (NF)))))), (f1, .inl (cZ, 35, .inl (GF))), (f2, .inl (cI, 30, .inl (TF))), (f3, .inl (cI, 6, .inl (OF))), (po, .inr (0, [.ref o0, .ref o1, .ref o2, .ref o3])), (o0, .inl (cD, 35, .inr (.inr (.inr (.inl (NO)))))), (o1, .inl (cZ, 35, .inl (GO))), (o2, .inl (cI, 30, .inl (TO))), (o3, .inl (cI, 6, .inl (OO))), (ox, .inl (cL, 1, .inr (.inl (vp_updL F 0 ((nI (cnt (fun i => ag (rl GF NF (ea * 5 + i) (eb * 5 + i)) wh) 5)).toInt64)))))] H := hP
  have hD : va_D A [(h, .inr (1, [.ref (cond fb pf po), .ref (cond fb po pf), .int (nI (nn))])), (pf, .inr (0, [.ref f0, .ref f1, .ref f2, .ref f3])), (f0, .inl (cD, 35, .inr (.inr (.inr (.inl (NF)))))), (f1, .inl (cZ, 35, .inl (GF))), (f2, .inl (cI, 30, .inl (TF))), (f3, .inl (cI, 6, .inl (OF))), (po, .inr (0, [.ref o0, .ref o1, .ref o2, .ref o3])), (o0, .inl (cD, 35, .inr (.inr (.inr (.inl (NO)))))), (o1, .inl (cZ, 35, .inl (GO))), (o2, .inl (cI, 30, .inl (TO))), (o3, .inl (cI, 6, .inl (OO))), (ox, .inl (cL, 1, .inr (.inl (vp_updL F 0 ((nI (cnt (fun i => ag (rl GF NF (ea * 5 + i) (eb * 5 + i)) wh) 5)).toInt64)))))] := hD
  refine lv_goto (tgt := 25) hx hb dL_against_14 (by decide) ?_
  refine lv_iconst (v := nI 0) hx hb dL_against_25 (by decide) ?_
  exact W.iret (v := nI 0) hx hb hr (fun t ht hW => ⟨⟨_, vp_updL F 0 ((nI (cnt (fun i => ag (rl GF NF (ea * 5 + i) (eb * 5 + i)) wh) 5)).toInt64), rfl, ⟨rfl, (show vp_updL F 0 _ 0 = _ from pk_uLs)⟩, by rw [ht]; exact hP, va_K.moved hW.alike hK, hD⟩, hS.F ht⟩) hS.2.2 dL_against_26
set_option maxHeartbeats 4000000 in
set_option maxRecDepth 100000 in
theorem c_L_sum_ok (l : Launch) (dC : Nat → ClassId) (dI : Nat → Nat → Nat) (cD cZ cI cL : ClassId) (h pf f0 f1 f2 f3 po o0 o1 o2 o3 : Nat) (NF : Nat → UInt64) (GF TF OF : Nat → Int32) (NO : Nat → UInt64) (GO TO OO : Nat → Int32) (nn : Nat) (fb : Bool) (ox : Nat) (F : Nat → Int64) (sz : Nat) (hnn : nn ≤ 6) (en : Nat) (hen : en < nn) (hg : ∀ j, gd (NF j)) : Met l yL_sum wsL_sum ({ frames := 4, cells := 0, slots := 0, locals := 94 }) (va_Pc [.ref h, .int (nI (Bool.toNat (fb))), .int (nI (en)), .ref ox] (fun U => U.heap.size = sz ∧ okL dC dI cD cZ cI cL (wL cD cZ cI cL h pf f0 f1 f2 f3 po o0 o1 o2 o3 NF GF TF OF NO GO TO OO nn fb ox F) U U.heap ∧ va_D (fun _ => True) (wL cD cZ cI cL h pf f0 f1 f2 f3 po o0 o1 o2 o3 NF GF TF OF NO GO TO OO nn fb ox F))) (va_Qi (fun (r : Int32) (u : (Nat → Int64)) => r = nI 0 ∧ u 0 = sm (fun b => if GF (en * 5 + b) = 0 then 0 else e8 (NF (en * 5 + b))) 5) (fun u t => atL dC dI cD cZ cI cL (va_A (wL cD cZ cI cL h pf f0 f1 f2 f3 po o0 o1 o2 o3 NF GF TF OF NO GO TO OO nn fb ox F) sz) (wL cD cZ cI cL h pf f0 f1 f2 f3 po o0 o1 o2 o3 NF GF TF OF NO GO TO OO nn fb ox u) t) (va_A (wL cD cZ cI cL h pf f0 f1 f2 f3 po o0 o1 o2 o3 NF GF TF OF NO GO TO OO nn fb ox F) sz)) 0 0 (va_A (wL cD cZ cI cL h pf f0 f1 f2 f3 po o0 o1 o2 o3 NF GF TF OF NO GO TO OO nn fb ox F) sz) := by
  refine va_MetW (cc := cL_sum) (maxL := 5) (ret := (some .int)) (hh := [(0, 9, 12, 19)]) (by decide) rfl ?_
  intro p e s m args below meth c s₁ B hml hv
  obtain ⟨rfl, hsz, hO, hD0⟩ := hv
  obtain ⟨hP, hK, hE⟩ := id hO
  have hx := B.exec
  have hb := B.bytes
  have hr := B.returns
  have hts := atoms_spec (ws := wsL_sum) B.pre
  have hown : s.vm.findClass RL = some m.cls := findClass_of_methodNamed B.named
  have hlocks := B.notSynchronized
  subst hsz
  have hD := hD0.self (sz := s.heap.size)
  generalize hAe : va_A (wL cD cZ cI cL h pf f0 f1 f2 f3 po o0 o1 o2 o3 NF GF TF OF NO GO TO OO nn fb ox F) s.heap.size = A at hD ⊢
  have hA : ∀ q : Nat, s.heap.size ≤ q → A q := fun q h => by rw [← hAe]; exact Or.inr h
  have hS : va_S A s.heap s.heap [] := va_S.rf
  have hP : va_P (dC, dI) vwCl [(h, .inr (1, [.ref (cond fb pf po), .ref (cond fb po pf), .int (nI (nn))])), (pf, .inr (0, [.ref f0, .ref f1, .ref f2, .ref f3])), (f0, .inl (cD, 35, .inr (.inr (.inr (.inl (NF)))))), (f1, .inl (cZ, 35, .inl (GF))), (f2, .inl (cI, 30, .inl (TF))), (f3, .inl (cI, 6, .inl (OF))), (po, .inr (0, [.ref o0, .ref o1, .ref o2, .ref o3])), (o0, .inl (cD, 35, .inr (.inr (.inr (.inl (NO)))))), (o1, .inl (cZ, 35, .inl (GO))), (o2, .inl (cI, 30, .inl (TO))), (o3, .inl (cI, 6, .inl (OO))), (ox, .inl (cL, 1, .inr (.inl (F))))] s.heap := hP
  have hD : va_D A [(h, .inr (1, [.ref (cond fb pf po), .ref (cond fb po pf), .int (nI (nn))])), (pf, .inr (0, [.ref f0, .ref f1, .ref f2, .ref f3])), (f0, .inl (cD, 35, .inr (.inr (.inr (.inl (NF)))))), (f1, .inl (cZ, 35, .inl (GF))), (f2, .inl (cI, 30, .inl (TF))), (f3, .inl (cI, 6, .inl (OF))), (po, .inr (0, [.ref o0, .ref o1, .ref o2, .ref o3])), (o0, .inl (cD, 35, .inr (.inr (.inr (.inl (NO)))))), (o1, .inl (cZ, 35, .inl (GO))), (o2, .inl (cI, 30, .inl (TO))), (o3, .inl (cI, 6, .inl (OO))), (ox, .inl (cL, 1, .inr (.inl (F))))] := hD
  have hl := lv_entry ([.ref h, .int (nI (Bool.toNat (fb))), .int (nI (en)), .ref ox]) (n := 5) (Nat.le_of_ble_eq_true rfl)
  rw [lg_entry_eq]
  generalize (lg_sl ([.ref h, .int (nI (Bool.toNat (fb))), .int (nI (en)), .ref ox]) ++ List.replicate (5 - (lg_sl ([.ref h, .int (nI (Bool.toNat (fb))), .int (nI (en)), .ref ox])).length) Slot.unset).toArray = ls at hl ⊢
  have hl : lv_has ls 5 [(0, .ref h), (1, .int (nI (Bool.toNat (fb)))), (2, .int (nI (en))), (3, .ref ox)] := hl
  refine lv_aload_n hx hb dL_sum_0 rfl (lv_at hl 3 rfl) ?_
  refine lv_iconst (v := nI 0) hx hb dL_sum_1 (by decide) ?_
  refine lv_aload_n hx hb dL_sum_2 rfl (lv_at hl 0 rfl) ?_
  refine lv_iload_n hx hb dL_sum_3 rfl (lv_at hl 1 rfl) ?_
  refine lv_iload_n hx hb dL_sum_4 rfl (lv_at hl 2 rfl) ?_
  refine vp_callSl (va_Run.run (va_runV (As := [.int (nI (Bool.toNat (fb))), .int (nI (en))]) (rest := [.int (nI (0)), .ref ox]) ⟨hx, hb, hml, hown, hts⟩ (c_X1_sum_ok l dC dI cD cZ cI h pf f0 f1 f2 f3 po o0 o1 o2 o3 NF GF TF OF NO GO TO OO nn fb hnn en hen hg) (cwV 2 hts gL_sum_X1_sum rfl rfl rfl (by decide +kernel) ⟨Nat.le_of_ble_eq_true rfl, Nat.le_of_ble_eq_true rfl⟩) (okJ_pre ⟨hP.sub (ws' := [(h, .inr (1, [.ref (cond fb pf po), .ref (cond fb po pf), .int (nI (nn))])), (pf, .inr (0, [.ref f0, .ref f1, .ref f2, .ref f3])), (f0, .inl (cD, 35, .inr (.inr (.inr (.inl (NF)))))), (f1, .inl (cZ, 35, .inl (GF))), (f2, .inl (cI, 30, .inl (TF))), (f3, .inl (cI, 6, .inl (OF))), (po, .inr (0, [.ref o0, .ref o1, .ref o2, .ref o3])), (o0, .inl (cD, 35, .inr (.inr (.inr (.inl (NO)))))), (o1, .inl (cZ, 35, .inl (GO))), (o2, .inl (cI, 30, .inl (TO))), (o3, .inl (cI, 6, .inl (OO)))]) [0, 1, 2, 3, 4, 5, 6, 7, 8, 9, 10] rfl, hK.sub [0, 1, 2] rfl, hE⟩) rfl rfl hl.1 rfl (lv_room (Nat.le_of_ble_eq_true rfl)) dL_sum_5 ⟨Nat.zero_le _, Nat.zero_le _⟩)) (fun r1 er1 => ?_)
  subst er1
  refine xn_last hx hb hK hP hD hS 11 3 rfl rfl (n := 1) (j := 0) (by decide) (by decide) dL_sum_8 (fun H locs hP hD hS => ?_)
  have hP : va_P (dC, dI) vwCl [(h, .inr (1, [.ref (cond fb pf po), .ref (cond fb po pf), .int (nI (nn))])), (pf, .inr (0, [.ref f0, .ref f1, .ref f2, .ref f3])), (f0, .inl (cD, 35, .inr (.inr (.inr (.inl (NF)))))), (f1, .inl (cZ, 35, .inl (GF))), (f2, .inl (cI, 30, .inl (TF))), (f3, .inl (cI, 6, .inl (OF))), (po, .inr (0, [.ref o0, .ref o1, .ref o2, .ref o3])), (o0, .inl (cD, 35, .inr (.inr (.inr (.inl (NO)))))), (o1, .inl (cZ, 35, .inl (GO))), (o2, .inl (cI, 30, .inl (TO))), (o3, .inl (cI, 6, .inl (OO))), (ox, .inl (cL, 1, .inr (.inl (vp_updL F 0 (sm (fun b => if GF (en * 5 + b) = 0 then 0 else e8 (NF (en * 5 + b))) 5)))))] H := hP
  have hD : va_D A [(h, .inr (1, [.ref (cond fb pf po), .ref (cond fb po pf), .int (nI (nn))])), (pf, .inr (0, [.ref f0, .ref f1, .ref f2, .ref f3])), (f0, .inl (cD, 35, .inr (.inr (.inr (.inl (NF)))))), (f1, .inl (cZ, 35, .inl (GF))), (f2, .inl (cI, 30, .inl (TF))), (f3, .inl (cI, 6, .inl (OF))), (po, .inr (0, [.ref o0, .ref o1, .ref o2, .ref o3])), (o0, .inl (cD, 35, .inr (.inr (.inr (.inl (NO)))))), (o1, .inl (cZ, 35, .inl (GO))), (o2, .inl (cI, 30, .inl (TO))), (o3, .inl (cI, 6, .inl (OO))), (ox, .inl (cL, 1, .inr (.inl (vp_updL F 0 (sm (fun b => if GF (en * 5 + b) = 0 then 0 else e8 (NF (en * 5 + b))) 5)))))] := hD
  refine lv_goto (tgt := 16) hx hb dL_sum_9 (by decide) ?_
  refine lv_iconst (v := nI 0) hx hb dL_sum_16 (by decide) ?_
  exact W.iret (v := nI 0) hx hb hr (fun t ht hW => ⟨⟨_, vp_updL F 0 (sm (fun b => if GF (en * 5 + b) = 0 then 0 else e8 (NF (en * 5 + b))) 5), rfl, ⟨rfl, (show vp_updL F 0 _ 0 = _ from pk_uLs)⟩, by rw [ht]; exact hP, va_K.moved hW.alike hK, hD⟩, hS.F ht⟩) hS.2.2 dL_sum_17
set_option maxHeartbeats 4000000 in
set_option maxRecDepth 100000 in
theorem c_L_count_ok (l : Launch) (dC : Nat → ClassId) (dI : Nat → Nat → Nat) (cD cZ cI cL : ClassId) (h pf f0 f1 f2 f3 po o0 o1 o2 o3 : Nat) (NF : Nat → UInt64) (GF TF OF : Nat → Int32) (NO : Nat → UInt64) (GO TO OO : Nat → Int32) (nn : Nat) (ox : Nat) (F : Nat → Int64) (sz : Nat) (hnn : nn ≤ 6) (wn : Nat) (hwn : wn < 9) (hcF : cnt (fun i => decide (GF (0 + i) ≠ 0)) 30 ≤ nn * 5) (hcO : cnt (fun i => decide (GO (0 + i) ≠ 0)) 30 ≤ nn * 5) : Met l yL_count wsL_count ({ frames := 3, cells := 0, slots := 0, locals := 65 }) (va_Pc [.ref h, .int (nI (wn)), .ref ox] (fun U => U.heap.size = sz ∧ okL dC dI cD cZ cI cL (wL cD cZ cI cL h pf f0 f1 f2 f3 po o0 o1 o2 o3 NF GF TF OF NO GO TO OO nn true ox F) U U.heap ∧ va_D (fun _ => True) (wL cD cZ cI cL h pf f0 f1 f2 f3 po o0 o1 o2 o3 NF GF TF OF NO GO TO OO nn true ox F))) (va_Qi (fun (r : Int32) (u : (Nat → Int64)) => r = nI 0 ∧ u 0 = (cR wn (nI nn) (nI (cnt (fun i => decide (GF (0 + i) ≠ 0)) 30)) (nI (cnt (fun i => decide (GO (0 + i) ≠ 0)) 30)) (nI (nn * 5 - cnt (fun i => decide (GF (0 + i) ≠ 0)) 30)) (nI (nn * 5 - cnt (fun i => decide (GO (0 + i) ≠ 0)) 30)) (nI (cnt (fun i => decide (GF (30 + i) ≠ 0)) 5)) (nI (cnt (fun i => decide (GO (30 + i) ≠ 0)) 5)) (nI (cnt (fun j => decide (TF j = nI 1)) 30 + cnt (fun j => decide (TO j = nI 1)) 30)) (nI (cnt (fun j => decide (TF j = nI 0)) 30 + cnt (fun j => decide (TO j = nI 0)) 30))).toInt64) (fun u t => atL dC dI cD cZ cI cL (va_A (wL cD cZ cI cL h pf f0 f1 f2 f3 po o0 o1 o2 o3 NF GF TF OF NO GO TO OO nn true ox F) sz) (wL cD cZ cI cL h pf f0 f1 f2 f3 po o0 o1 o2 o3 NF GF TF OF NO GO TO OO nn true ox u) t) (va_A (wL cD cZ cI cL h pf f0 f1 f2 f3 po o0 o1 o2 o3 NF GF TF OF NO GO TO OO nn true ox F) sz)) 0 0 (va_A (wL cD cZ cI cL h pf f0 f1 f2 f3 po o0 o1 o2 o3 NF GF TF OF NO GO TO OO nn true ox F) sz) := by
  refine va_MetW (cc := cL_count) (maxL := 4) (ret := (some .int)) (hh := [(0, 9, 12, 41)]) (by decide) rfl ?_
  intro p e s m args below meth c s₁ B hml hv
  obtain ⟨rfl, hsz, hO, hD0⟩ := hv
  obtain ⟨hP, hK, hE⟩ := id hO
  have hx := B.exec
  have hb := B.bytes
  have hr := B.returns
  have hts := atoms_spec (ws := wsL_count) B.pre
  have hown : s.vm.findClass RL = some m.cls := findClass_of_methodNamed B.named
  have hlocks := B.notSynchronized
  subst hsz
  have hD := hD0.self (sz := s.heap.size)
  generalize hAe : va_A (wL cD cZ cI cL h pf f0 f1 f2 f3 po o0 o1 o2 o3 NF GF TF OF NO GO TO OO nn true ox F) s.heap.size = A at hD ⊢
  have hA : ∀ q : Nat, s.heap.size ≤ q → A q := fun q h => by rw [← hAe]; exact Or.inr h
  have hS : va_S A s.heap s.heap [] := va_S.rf
  have hP : va_P (dC, dI) vwCl [(h, .inr (1, [.ref pf, .ref po, .int (nI (nn))])), (pf, .inr (0, [.ref f0, .ref f1, .ref f2, .ref f3])), (f0, .inl (cD, 35, .inr (.inr (.inr (.inl (NF)))))), (f1, .inl (cZ, 35, .inl (GF))), (f2, .inl (cI, 30, .inl (TF))), (f3, .inl (cI, 6, .inl (OF))), (po, .inr (0, [.ref o0, .ref o1, .ref o2, .ref o3])), (o0, .inl (cD, 35, .inr (.inr (.inr (.inl (NO)))))), (o1, .inl (cZ, 35, .inl (GO))), (o2, .inl (cI, 30, .inl (TO))), (o3, .inl (cI, 6, .inl (OO))), (ox, .inl (cL, 1, .inr (.inl (F))))] s.heap := hP
  have hD : va_D A [(h, .inr (1, [.ref pf, .ref po, .int (nI (nn))])), (pf, .inr (0, [.ref f0, .ref f1, .ref f2, .ref f3])), (f0, .inl (cD, 35, .inr (.inr (.inr (.inl (NF)))))), (f1, .inl (cZ, 35, .inl (GF))), (f2, .inl (cI, 30, .inl (TF))), (f3, .inl (cI, 6, .inl (OF))), (po, .inr (0, [.ref o0, .ref o1, .ref o2, .ref o3])), (o0, .inl (cD, 35, .inr (.inr (.inr (.inl (NO)))))), (o1, .inl (cZ, 35, .inl (GO))), (o2, .inl (cI, 30, .inl (TO))), (o3, .inl (cI, 6, .inl (OO))), (ox, .inl (cL, 1, .inr (.inl (F))))] := hD
  have hl := lv_entry ([.ref h, .int (nI (wn)), .ref ox]) (n := 4) (Nat.le_of_ble_eq_true rfl)
  rw [lg_entry_eq]
  generalize (lg_sl ([.ref h, .int (nI (wn)), .ref ox]) ++ List.replicate (4 - (lg_sl ([.ref h, .int (nI (wn)), .ref ox])).length) Slot.unset).toArray = ls at hl ⊢
  have hl : lv_has ls 4 [(0, .ref h), (1, .int (nI (wn))), (2, .ref ox)] := hl
  refine lv_aload_n hx hb dL_count_0 rfl (lv_at hl 2 rfl) ?_
  refine lv_iconst (v := nI 0) hx hb dL_count_1 (by decide) ?_
  refine lv_aload_n hx hb dL_count_2 rfl (lv_at hl 0 rfl) ?_
  refine lv_iload_n hx hb dL_count_3 rfl (lv_at hl 1 rfl) ?_
  refine vp_callSi (va_Run.run (va_runV (As := [.int (nI (wn))]) (rest := [.int (nI (0)), .ref ox]) ⟨hx, hb, hml, hown, hts⟩ (c_X1_count_ok l dC dI cD cZ cI h pf f0 f1 f2 f3 po o0 o1 o2 o3 NF GF TF OF NO GO TO OO nn hnn wn hwn hcF hcO) (cwV 1 hts gL_count_X1_count rfl rfl rfl (by decide +kernel) ⟨Nat.le_of_ble_eq_true rfl, Nat.le_of_ble_eq_true rfl⟩) (okJ_pre ⟨hP.sub (ws' := [(h, .inr (1, [.ref pf, .ref po, .int (nI (nn))])), (pf, .inr (0, [.ref f0, .ref f1, .ref f2, .ref f3])), (f0, .inl (cD, 35, .inr (.inr (.inr (.inl (NF)))))), (f1, .inl (cZ, 35, .inl (GF))), (f2, .inl (cI, 30, .inl (TF))), (f3, .inl (cI, 6, .inl (OF))), (po, .inr (0, [.ref o0, .ref o1, .ref o2, .ref o3])), (o0, .inl (cD, 35, .inr (.inr (.inr (.inl (NO)))))), (o1, .inl (cZ, 35, .inl (GO))), (o2, .inl (cI, 30, .inl (TO))), (o3, .inl (cI, 6, .inl (OO)))]) [0, 1, 2, 3, 4, 5, 6, 7, 8, 9, 10] rfl, hK.sub [0, 1, 2] rfl, hE⟩) rfl rfl hl.1 rfl (lv_room (Nat.le_of_ble_eq_true rfl)) dL_count_4 ⟨Nat.zero_le _, Nat.zero_le _⟩)) (fun r1 er1 => ?_)
  subst er1
  refine lv_i2l (v := (cR wn (nI nn) (nI (cnt (fun i => decide (GF (0 + i) ≠ 0)) 30)) (nI (cnt (fun i => decide (GO (0 + i) ≠ 0)) 30)) (nI (nn * 5 - cnt (fun i => decide (GF (0 + i) ≠ 0)) 30)) (nI (nn * 5 - cnt (fun i => decide (GO (0 + i) ≠ 0)) 30)) (nI (cnt (fun i => decide (GF (30 + i) ≠ 0)) 5)) (nI (cnt (fun i => decide (GO (30 + i) ≠ 0)) 5)) (nI (cnt (fun j => decide (TF j = nI 1)) 30 + cnt (fun j => decide (TO j = nI 1)) 30)) (nI (cnt (fun j => decide (TF j = nI 0)) 30 + cnt (fun j => decide (TO j = nI 0)) 30))).toInt64) hx hb dL_count_7 rfl ?_
  refine xn_last hx hb hK hP hD hS 11 3 rfl rfl (n := 1) (j := 0) (by decide) (by decide) dL_count_8 (fun H locs hP hD hS => ?_)
  have hP : va_P (dC, dI) vwCl [(h, .inr (1, [.ref pf, .ref po, .int (nI (nn))])), (pf, .inr (0, [.ref f0, .ref f1, .ref f2, .ref f3])), (f0, .inl (cD, 35, .inr (.inr (.inr (.inl (NF)))))), (f1, .inl (cZ, 35, .inl (GF))), (f2, .inl (cI, 30, .inl (TF))), (f3, .inl (cI, 6, .inl (OF))), (po, .inr (0, [.ref o0, .ref o1, .ref o2, .ref o3])), (o0, .inl (cD, 35, .inr (.inr (.inr (.inl (NO)))))), (o1, .inl (cZ, 35, .inl (GO))), (o2, .inl (cI, 30, .inl (TO))), (o3, .inl (cI, 6, .inl (OO))), (ox, .inl (cL, 1, .inr (.inl (vp_updL F 0 ((cR wn (nI nn) (nI (cnt (fun i => decide (GF (0 + i) ≠ 0)) 30)) (nI (cnt (fun i => decide (GO (0 + i) ≠ 0)) 30)) (nI (nn * 5 - cnt (fun i => decide (GF (0 + i) ≠ 0)) 30)) (nI (nn * 5 - cnt (fun i => decide (GO (0 + i) ≠ 0)) 30)) (nI (cnt (fun i => decide (GF (30 + i) ≠ 0)) 5)) (nI (cnt (fun i => decide (GO (30 + i) ≠ 0)) 5)) (nI (cnt (fun j => decide (TF j = nI 1)) 30 + cnt (fun j => decide (TO j = nI 1)) 30)) (nI (cnt (fun j => decide (TF j = nI 0)) 30 + cnt (fun j => decide (TO j = nI 0)) 30))).toInt64)))))] H := hP
  have hD : va_D A [(h, .inr (1, [.ref pf, .ref po, .int (nI (nn))])), (pf, .inr (0, [.ref f0, .ref f1, .ref f2, .ref f3])), (f0, .inl (cD, 35, .inr (.inr (.inr (.inl (NF)))))), (f1, .inl (cZ, 35, .inl (GF))), (f2, .inl (cI, 30, .inl (TF))), (f3, .inl (cI, 6, .inl (OF))), (po, .inr (0, [.ref o0, .ref o1, .ref o2, .ref o3])), (o0, .inl (cD, 35, .inr (.inr (.inr (.inl (NO)))))), (o1, .inl (cZ, 35, .inl (GO))), (o2, .inl (cI, 30, .inl (TO))), (o3, .inl (cI, 6, .inl (OO))), (ox, .inl (cL, 1, .inr (.inl (vp_updL F 0 ((cR wn (nI nn) (nI (cnt (fun i => decide (GF (0 + i) ≠ 0)) 30)) (nI (cnt (fun i => decide (GO (0 + i) ≠ 0)) 30)) (nI (nn * 5 - cnt (fun i => decide (GF (0 + i) ≠ 0)) 30)) (nI (nn * 5 - cnt (fun i => decide (GO (0 + i) ≠ 0)) 30)) (nI (cnt (fun i => decide (GF (30 + i) ≠ 0)) 5)) (nI (cnt (fun i => decide (GO (30 + i) ≠ 0)) 5)) (nI (cnt (fun j => decide (TF j = nI 1)) 30 + cnt (fun j => decide (TO j = nI 1)) 30)) (nI (cnt (fun j => decide (TF j = nI 0)) 30 + cnt (fun j => decide (TO j = nI 0)) 30))).toInt64)))))] := hD
  refine lv_goto (tgt := 15) hx hb dL_count_9 (by decide) ?_
  refine lv_iconst (v := nI 0) hx hb dL_count_15 (by decide) ?_
  exact W.iret (v := nI 0) hx hb hr (fun t ht hW => ⟨⟨_, vp_updL F 0 ((cR wn (nI nn) (nI (cnt (fun i => decide (GF (0 + i) ≠ 0)) 30)) (nI (cnt (fun i => decide (GO (0 + i) ≠ 0)) 30)) (nI (nn * 5 - cnt (fun i => decide (GF (0 + i) ≠ 0)) 30)) (nI (nn * 5 - cnt (fun i => decide (GO (0 + i) ≠ 0)) 30)) (nI (cnt (fun i => decide (GF (30 + i) ≠ 0)) 5)) (nI (cnt (fun i => decide (GO (30 + i) ≠ 0)) 5)) (nI (cnt (fun j => decide (TF j = nI 1)) 30 + cnt (fun j => decide (TO j = nI 1)) 30)) (nI (cnt (fun j => decide (TF j = nI 0)) 30 + cnt (fun j => decide (TO j = nI 0)) 30))).toInt64), rfl, ⟨rfl, (show vp_updL F 0 _ 0 = _ from pk_uLs)⟩, by rw [ht]; exact hP, va_K.moved hW.alike hK, hD⟩, hS.F ht⟩) hS.2.2 dL_count_16
set_option maxHeartbeats 4000000 in
set_option maxRecDepth 100000 in
theorem c_L_entry_t1 (l : Launch) (dC : Nat → ClassId) (dI : Nat → Nat → Nat) (cD cZ cI cL : ClassId) (h pf f0 f1 f2 f3 po o0 o1 o2 o3 : Nat) (NF : Nat → UInt64) (GF TF OF : Nat → Int32) (NO : Nat → UInt64) (GO TO OO : Nat → Int32) (nn : Nat) (ox : Nat) (F : Nat → Int64) (sz : Nat) (hst : l.stackTraces = false) (hn6 : nn = 6) : Met l yL_entry wsL_entry ({ frames := 7, cells := 1, slots := 6, locals := 103 }) (va_Pc [.ref h, .ref ox] (fun U => U.heap.size = sz ∧ okLX dC dI cD cZ cI cL (wL cD cZ cI cL h pf f0 f1 f2 f3 po o0 o1 o2 o3 NF GF TF OF NO GO TO OO nn true ox F) U U.heap ∧ va_D (fun _ => True) (wL cD cZ cI cL h pf f0 f1 f2 f3 po o0 o1 o2 o3 NF GF TF OF NO GO TO OO nn true ox F))) (va_Qi (fun (r : Int32) (_ : Unit) => r = nI 1) (fun _ t => atL dC dI cD cZ cI cL (va_A (wL cD cZ cI cL h pf f0 f1 f2 f3 po o0 o1 o2 o3 NF GF TF OF NO GO TO OO nn true ox F) sz) (wL cD cZ cI cL h pf f0 f1 f2 f3 po o0 o1 o2 o3 NF GF TF OF NO GO TO OO nn true ox F) t) (va_A (wL cD cZ cI cL h pf f0 f1 f2 f3 po o0 o1 o2 o3 NF GF TF OF NO GO TO OO nn true ox F) sz)) 1 6 (va_A (wL cD cZ cI cL h pf f0 f1 f2 f3 po o0 o1 o2 o3 NF GF TF OF NO GO TO OO nn true ox F) sz) := by
  refine va_MetW (cc := cL_entry) (maxL := 3) (ret := (some .int)) (hh := [(0, 8, 11, 13)]) (by decide) rfl ?_
  intro p e s m args below meth c s₁ B hml hv
  obtain ⟨rfl, hsz, hO, hD0⟩ := hv
  obtain ⟨hP, hK, hE, hZ⟩ := id hO
  have hx := B.exec
  have hb := B.bytes
  have hr := B.returns
  have hts := atoms_spec (ws := wsL_entry) B.pre
  have hown : s.vm.findClass RL = some m.cls := findClass_of_methodNamed B.named
  have hlocks := B.notSynchronized
  have htb := vx_table (x := yL_entry) B (hts _ List.mem_cons_self)
  subst hsz
  have hD := hD0.self (sz := s.heap.size)
  generalize hAe : va_A (wL cD cZ cI cL h pf f0 f1 f2 f3 po o0 o1 o2 o3 NF GF TF OF NO GO TO OO nn true ox F) s.heap.size = A at hD ⊢
  have hA : ∀ q : Nat, s.heap.size ≤ q → A q := fun q h => by rw [← hAe]; exact Or.inr h
  have hS : va_S A s.heap s.heap [] := va_S.rf
  have hP : va_P (dC, dI) vwCl [(h, .inr (1, [.ref pf, .ref po, .int (nI (nn))])), (pf, .inr (0, [.ref f0, .ref f1, .ref f2, .ref f3])), (f0, .inl (cD, 35, .inr (.inr (.inr (.inl (NF)))))), (f1, .inl (cZ, 35, .inl (GF))), (f2, .inl (cI, 30, .inl (TF))), (f3, .inl (cI, 6, .inl (OF))), (po, .inr (0, [.ref o0, .ref o1, .ref o2, .ref o3])), (o0, .inl (cD, 35, .inr (.inr (.inr (.inl (NO)))))), (o1, .inl (cZ, 35, .inl (GO))), (o2, .inl (cI, 30, .inl (TO))), (o3, .inl (cI, 6, .inl (OO))), (ox, .inl (cL, 1, .inr (.inl (F))))] s.heap := hP
  have hD : va_D A [(h, .inr (1, [.ref pf, .ref po, .int (nI (nn))])), (pf, .inr (0, [.ref f0, .ref f1, .ref f2, .ref f3])), (f0, .inl (cD, 35, .inr (.inr (.inr (.inl (NF)))))), (f1, .inl (cZ, 35, .inl (GF))), (f2, .inl (cI, 30, .inl (TF))), (f3, .inl (cI, 6, .inl (OF))), (po, .inr (0, [.ref o0, .ref o1, .ref o2, .ref o3])), (o0, .inl (cD, 35, .inr (.inr (.inr (.inl (NO)))))), (o1, .inl (cZ, 35, .inl (GO))), (o2, .inl (cI, 30, .inl (TO))), (o3, .inl (cI, 6, .inl (OO))), (ox, .inl (cL, 1, .inr (.inl (F))))] := hD
  have hl := lv_entry ([.ref h, .ref ox]) (n := 3) (Nat.le_of_ble_eq_true rfl)
  rw [lg_entry_eq]
  generalize (lg_sl ([.ref h, .ref ox]) ++ List.replicate (3 - (lg_sl ([.ref h, .ref ox])).length) Slot.unset).toArray = ls at hl ⊢
  have hl : lv_has ls 3 [(0, .ref h), (1, .ref ox)] := hl
  refine lv_aload_n hx hb dL_entry_0 rfl (lv_at hl 1 rfl) ?_
  refine lv_iconst (v := nI 0) hx hb dL_entry_1 (by decide) ?_
  refine lv_aload_n hx hb dL_entry_2 rfl (lv_at hl 0 rfl) ?_
  refine vx_calli (vx_runV (As := []) (rest := [.int (nI (0)), .ref ox]) ⟨hx, hb, hml, hown, hts⟩ (t_X1_entry_t1 l dC dI cD cZ cI h pf f0 f1 f2 f3 po o0 o1 o2 o3 NF GF TF OF NO GO TO OO nn hst hn6) (cwV 0 hts gL_entry_X1_entry rfl rfl rfl (by decide +kernel) ⟨Nat.le_of_ble_eq_true rfl, Nat.le_of_ble_eq_true rfl⟩) (okJX_pre ⟨hP.sub (ws' := [(h, .inr (1, [.ref pf, .ref po, .int (nI (nn))])), (pf, .inr (0, [.ref f0, .ref f1, .ref f2, .ref f3])), (f0, .inl (cD, 35, .inr (.inr (.inr (.inl (NF)))))), (f1, .inl (cZ, 35, .inl (GF))), (f2, .inl (cI, 30, .inl (TF))), (f3, .inl (cI, 6, .inl (OF))), (po, .inr (0, [.ref o0, .ref o1, .ref o2, .ref o3])), (o0, .inl (cD, 35, .inr (.inr (.inr (.inl (NO)))))), (o1, .inl (cZ, 35, .inl (GO))), (o2, .inl (cI, 30, .inl (TO))), (o3, .inl (cI, 6, .inl (OO)))]) [0, 1, 2, 3, 4, 5, 6, 7, 8, 9, 10] rfl, hK.sub [0, 1, 2] rfl, hE⟩ hZ) rfl rfl hl.1 rfl (lv_room (Nat.le_of_ble_eq_true rfl)) dL_entry_3 ⟨Nat.le_of_ble_eq_true rfl, Nat.le_of_ble_eq_true rfl⟩) hS (fun q _ h => h.elim) (fun q h => h.elim) (fun q _ h => h.elim) (fun E ce q9 u t H1 locs ht hvm hw hB hz1 hk1 hS hce hcv hcl => ?_) (fun r u t H1 locs1 ht hvm hw hB hz1 hk1 hS1 => hw.elim)
  have hB9 : E = isX := hB
  subst hB9
  have hP := hP.kept (fun k q hk => hk1 q.1 ((hP k q hk).lt) (fun z => z))
  generalize H1 = H at hP hS hce ⊢
  refine vx_catch (name := isX) hown [] ⟨0, 8, 11, 13⟩ [] htb (fun z hz => absurd hz List.not_mem_nil) (by decide) (by decide) (hts (.classLink RL 13 isX) (by decide +kernel)) hE.cS hce hcv hcl ?_
  refine W.widen (k := 1) (n := 6) (by omega) (by omega) ?_
  have hP : va_P (dC, dI) vwCl [(h, .inr (1, [.ref pf, .ref po, .int (nI (nn))])), (pf, .inr (0, [.ref f0, .ref f1, .ref f2, .ref f3])), (f0, .inl (cD, 35, .inr (.inr (.inr (.inl (NF)))))), (f1, .inl (cZ, 35, .inl (GF))), (f2, .inl (cI, 30, .inl (TF))), (f3, .inl (cI, 6, .inl (OF))), (po, .inr (0, [.ref o0, .ref o1, .ref o2, .ref o3])), (o0, .inl (cD, 35, .inr (.inr (.inr (.inl (NO)))))), (o1, .inl (cZ, 35, .inl (GO))), (o2, .inl (cI, 30, .inl (TO))), (o3, .inl (cI, 6, .inl (OO))), (ox, .inl (cL, 1, .inr (.inl (F))))] H := hP
  refine lv_astore_n (lv' := [(2, .ref q9), (0, .ref h), (1, .ref ox)]) hx hb dL_entry_11 rfl hl (by decide) rfl (fun ls hl => ?_)
  refine lv_iconst (v := nI 1) hx hb dL_entry_12 (by decide) ?_
  exact W.iret (v := nI 1) hx hb hr (fun t ht hW => ⟨⟨_, (), rfl, rfl, by rw [ht]; exact hP, va_K.moved hW.alike hK, hD⟩, hS.F ht⟩) hS.2.2 dL_entry_13
set_option maxHeartbeats 4000000 in
set_option maxRecDepth 100000 in
theorem c_L_mark_t1 (l : Launch) (dC : Nat → ClassId) (dI : Nat → Nat → Nat) (cD cZ cI cL : ClassId) (h pf f0 f1 f2 f3 po o0 o1 o2 o3 : Nat) (NF : Nat → UInt64) (GF TF OF : Nat → Int32) (NO : Nat → UInt64) (GO TO OO : Nat → Int32) (nn : Nat) (ox : Nat) (F : Nat → Int64) (sz : Nat) (hst : l.stackTraces = false) (ev bv : Int32) (v : UInt64) (hbad : vB ev nn = false) : Met l yL_mark wsL_mark ({ frames := 8, cells := 1, slots := 6, locals := 127 }) (va_Pc [.ref h, .int (ev), .int (bv), .double (v)] (fun U => U.heap.size = sz ∧ okLX dC dI cD cZ cI cL (wL cD cZ cI cL h pf f0 f1 f2 f3 po o0 o1 o2 o3 NF GF TF OF NO GO TO OO nn true ox F) U U.heap ∧ va_D (fun _ => True) (wL cD cZ cI cL h pf f0 f1 f2 f3 po o0 o1 o2 o3 NF GF TF OF NO GO TO OO nn true ox F))) (va_Qi (fun (r : Int32) (_ : Unit) => r = nI 1) (fun _ t => atL dC dI cD cZ cI cL (va_A (wL cD cZ cI cL h pf f0 f1 f2 f3 po o0 o1 o2 o3 NF GF TF OF NO GO TO OO nn true ox F) sz) (wL cD cZ cI cL h pf f0 f1 f2 f3 po o0 o1 o2 o3 NF GF TF OF NO GO TO OO nn true ox F) t) (va_A (wL cD cZ cI cL h pf f0 f1 f2 f3 po o0 o1 o2 o3 NF GF TF OF NO GO TO OO nn true ox F) sz)) 1 6 (va_A (wL cD cZ cI cL h pf f0 f1 f2 f3 po o0 o1 o2 o3 NF GF TF OF NO GO TO OO nn true ox F) sz) := by
  refine va_MetW (cc := cL_mark) (maxL := 6) (ret := (some .int)) (hh := [(0, 7, 10, 19)]) (by decide) rfl ?_
  intro p e s m args below meth c s₁ B hml hv
  obtain ⟨rfl, hsz, hO, hD0⟩ := hv
  obtain ⟨hP, hK, hE, hZ⟩ := id hO
  have hx := B.exec
  have hb := B.bytes
  have hr := B.returns
  have hts := atoms_spec (ws := wsL_mark) B.pre
  have hown : s.vm.findClass RL = some m.cls := findClass_of_methodNamed B.named
  have hlocks := B.notSynchronized
  have htb := vx_table (x := yL_mark) B (hts _ List.mem_cons_self)
  subst hsz
  have hD := hD0.self (sz := s.heap.size)
  generalize hAe : va_A (wL cD cZ cI cL h pf f0 f1 f2 f3 po o0 o1 o2 o3 NF GF TF OF NO GO TO OO nn true ox F) s.heap.size = A at hD ⊢
  have hA : ∀ q : Nat, s.heap.size ≤ q → A q := fun q h => by rw [← hAe]; exact Or.inr h
  have hS : va_S A s.heap s.heap [] := va_S.rf
  have hP : va_P (dC, dI) vwCl [(h, .inr (1, [.ref pf, .ref po, .int (nI (nn))])), (pf, .inr (0, [.ref f0, .ref f1, .ref f2, .ref f3])), (f0, .inl (cD, 35, .inr (.inr (.inr (.inl (NF)))))), (f1, .inl (cZ, 35, .inl (GF))), (f2, .inl (cI, 30, .inl (TF))), (f3, .inl (cI, 6, .inl (OF))), (po, .inr (0, [.ref o0, .ref o1, .ref o2, .ref o3])), (o0, .inl (cD, 35, .inr (.inr (.inr (.inl (NO)))))), (o1, .inl (cZ, 35, .inl (GO))), (o2, .inl (cI, 30, .inl (TO))), (o3, .inl (cI, 6, .inl (OO))), (ox, .inl (cL, 1, .inr (.inl (F))))] s.heap := hP
  have hD : va_D A [(h, .inr (1, [.ref pf, .ref po, .int (nI (nn))])), (pf, .inr (0, [.ref f0, .ref f1, .ref f2, .ref f3])), (f0, .inl (cD, 35, .inr (.inr (.inr (.inl (NF)))))), (f1, .inl (cZ, 35, .inl (GF))), (f2, .inl (cI, 30, .inl (TF))), (f3, .inl (cI, 6, .inl (OF))), (po, .inr (0, [.ref o0, .ref o1, .ref o2, .ref o3])), (o0, .inl (cD, 35, .inr (.inr (.inr (.inl (NO)))))), (o1, .inl (cZ, 35, .inl (GO))), (o2, .inl (cI, 30, .inl (TO))), (o3, .inl (cI, 6, .inl (OO))), (ox, .inl (cL, 1, .inr (.inl (F))))] := hD
  have hl := lv_entry ([.ref h, .int (ev), .int (bv), .double (v)]) (n := 6) (Nat.le_of_ble_eq_true rfl)
  rw [lg_entry_eq]
  generalize (lg_sl ([.ref h, .int (ev), .int (bv), .double (v)]) ++ List.replicate (6 - (lg_sl ([.ref h, .int (ev), .int (bv), .double (v)])).length) Slot.unset).toArray = ls at hl ⊢
  have hl : lv_has ls 6 [(0, .ref h), (1, .int (ev)), (2, .int (bv)), (3, .double (v))] := hl
  refine lv_aload_n hx hb dL_mark_0 rfl (lv_at hl 0 rfl) ?_
  refine lv_iload_n hx hb dL_mark_1 rfl (lv_at hl 1 rfl) ?_
  refine lv_iload_n hx hb dL_mark_2 rfl (lv_at hl 2 rfl) ?_
  refine lv_dload_n hx hb dL_mark_3 rfl (lv_at hl 3 rfl) ?_
  refine vx_callv (vx_runV (As := [.int (ev), .int (bv), .double (v)]) (rest := []) ⟨hx, hb, hml, hown, hts⟩ (t_X1_mark_t1 l dC dI cD cZ cI h pf f0 f1 f2 f3 po o0 o1 o2 o3 NF GF TF OF NO GO TO OO nn hst ev bv v hbad) (cwV 3 hts gL_mark_X1_mark rfl rfl rfl (by decide +kernel) ⟨Nat.le_of_ble_eq_true rfl, Nat.le_of_ble_eq_true rfl⟩) (okJX_pre ⟨hP.sub (ws' := [(h, .inr (1, [.ref pf, .ref po, .int (nI (nn))])), (pf, .inr (0, [.ref f0, .ref f1, .ref f2, .ref f3])), (f0, .inl (cD, 35, .inr (.inr (.inr (.inl (NF)))))), (f1, .inl (cZ, 35, .inl (GF))), (f2, .inl (cI, 30, .inl (TF))), (f3, .inl (cI, 6, .inl (OF))), (po, .inr (0, [.ref o0, .ref o1, .ref o2, .ref o3])), (o0, .inl (cD, 35, .inr (.inr (.inr (.inl (NO)))))), (o1, .inl (cZ, 35, .inl (GO))), (o2, .inl (cI, 30, .inl (TO))), (o3, .inl (cI, 6, .inl (OO)))]) [0, 1, 2, 3, 4, 5, 6, 7, 8, 9, 10] rfl, hK.sub [0, 1, 2] rfl, hE⟩ hZ) rfl rfl hl.1 rfl (lv_room (Nat.le_of_ble_eq_true rfl)) dL_mark_4 ⟨Nat.le_of_ble_eq_true rfl, Nat.le_of_ble_eq_true rfl⟩) hS (fun q _ h => h.elim) (fun q h => h.elim) (fun q _ h => h.elim) (fun E ce q9 u t H1 locs ht hvm hw hB hz1 hk1 hS hce hcv hcl => ?_) (fun u t H1 locs1 ht hvm hw hB hz1 hk1 hS1 => hw.elim)
  have hB9 : E = nsX := hB
  subst hB9
  have hP := hP.kept (fun k q hk => hk1 q.1 ((hP k q hk).lt) (fun z => z))
  generalize H1 = H at hP hS hce ⊢
  refine vx_catch (name := nsX) hown [] ⟨0, 7, 10, 19⟩ [] htb (fun z hz => absurd hz List.not_mem_nil) (by decide) (by decide) (hts (.classLink RL 19 nsX) (by decide +kernel)) hE.cN hce hcv hcl ?_
  refine W.widen (k := 1) (n := 6) (by omega) (by omega) ?_
  have hP : va_P (dC, dI) vwCl [(h, .inr (1, [.ref pf, .ref po, .int (nI (nn))])), (pf, .inr (0, [.ref f0, .ref f1, .ref f2, .ref f3])), (f0, .inl (cD, 35, .inr (.inr (.inr (.inl (NF)))))), (f1, .inl (cZ, 35, .inl (GF))), (f2, .inl (cI, 30, .inl (TF))), (f3, .inl (cI, 6, .inl (OF))), (po, .inr (0, [.ref o0, .ref o1, .ref o2, .ref o3])), (o0, .inl (cD, 35, .inr (.inr (.inr (.inl (NO)))))), (o1, .inl (cZ, 35, .inl (GO))), (o2, .inl (cI, 30, .inl (TO))), (o3, .inl (cI, 6, .inl (OO))), (ox, .inl (cL, 1, .inr (.inl (F))))] H := hP
  refine lv_astore (lv' := [(5, .ref q9), (0, .ref h), (1, .int (ev)), (2, .int (bv)), (3, .double (v))]) hx hb dL_mark_10 hl (by decide) rfl (fun ls hl => ?_)
  refine lv_iconst (v := nI 1) hx hb dL_mark_12 (by decide) ?_
  exact W.iret (v := nI 1) hx hb hr (fun t ht hW => ⟨⟨_, (), rfl, rfl, by rw [ht]; exact hP, va_K.moved hW.alike hK, hD⟩, hS.F ht⟩) hS.2.2 dL_mark_13
set_option maxHeartbeats 4000000 in
set_option maxRecDepth 100000 in
theorem c_L_mark_t2 (l : Launch) (dC : Nat → ClassId) (dI : Nat → Nat → Nat) (cD cZ cI cL : ClassId) (h pf f0 f1 f2 f3 po o0 o1 o2 o3 : Nat) (NF : Nat → UInt64) (GF TF OF : Nat → Int32) (NO : Nat → UInt64) (GO TO OO : Nat → Int32) (nn : Nat) (ox : Nat) (F : Nat → Int64) (sz : Nat) (hst : l.stackTraces = false) (hnn : nn ≤ 6) (en : Nat) (bv : Int32) (v : UInt64) (hen : en < nn) (hbad : vB bv 5 = false) : Met l yL_mark wsL_mark ({ frames := 8, cells := 1, slots := 6, locals := 126 }) (va_Pc [.ref h, .int (nI (en)), .int (bv), .double (v)] (fun U => U.heap.size = sz ∧ okLX dC dI cD cZ cI cL (wL cD cZ cI cL h pf f0 f1 f2 f3 po o0 o1 o2 o3 NF GF TF OF NO GO TO OO nn true ox F) U U.heap ∧ va_D (fun _ => True) (wL cD cZ cI cL h pf f0 f1 f2 f3 po o0 o1 o2 o3 NF GF TF OF NO GO TO OO nn true ox F))) (va_Qi (fun (r : Int32) (_ : Unit) => r = nI 1) (fun _ t => atL dC dI cD cZ cI cL (va_A (wL cD cZ cI cL h pf f0 f1 f2 f3 po o0 o1 o2 o3 NF GF TF OF NO GO TO OO nn true ox F) sz) (wL cD cZ cI cL h pf f0 f1 f2 f3 po o0 o1 o2 o3 NF GF TF OF NO GO TO OO nn true ox F) t) (va_A (wL cD cZ cI cL h pf f0 f1 f2 f3 po o0 o1 o2 o3 NF GF TF OF NO GO TO OO nn true ox F) sz)) 1 6 (va_A (wL cD cZ cI cL h pf f0 f1 f2 f3 po o0 o1 o2 o3 NF GF TF OF NO GO TO OO nn true ox F) sz) := by
  refine va_MetW (cc := cL_mark) (maxL := 6) (ret := (some .int)) (hh := [(0, 7, 10, 19)]) (by decide) rfl ?_
  intro p e s m args below meth c s₁ B hml hv
  obtain ⟨rfl, hsz, hO, hD0⟩ := hv
  obtain ⟨hP, hK, hE, hZ⟩ := id hO
  have hx := B.exec
  have hb := B.bytes
  have hr := B.returns
  have hts := atoms_spec (ws := wsL_mark) B.pre
  have hown : s.vm.findClass RL = some m.cls := findClass_of_methodNamed B.named
  have hlocks := B.notSynchronized
  have htb := vx_table (x := yL_mark) B (hts _ List.mem_cons_self)
  subst hsz
  have hD := hD0.self (sz := s.heap.size)
  generalize hAe : va_A (wL cD cZ cI cL h pf f0 f1 f2 f3 po o0 o1 o2 o3 NF GF TF OF NO GO TO OO nn true ox F) s.heap.size = A at hD ⊢
  have hA : ∀ q : Nat, s.heap.size ≤ q → A q := fun q h => by rw [← hAe]; exact Or.inr h
  have hS : va_S A s.heap s.heap [] := va_S.rf
  have hP : va_P (dC, dI) vwCl [(h, .inr (1, [.ref pf, .ref po, .int (nI (nn))])), (pf, .inr (0, [.ref f0, .ref f1, .ref f2, .ref f3])), (f0, .inl (cD, 35, .inr (.inr (.inr (.inl (NF)))))), (f1, .inl (cZ, 35, .inl (GF))), (f2, .inl (cI, 30, .inl (TF))), (f3, .inl (cI, 6, .inl (OF))), (po, .inr (0, [.ref o0, .ref o1, .ref o2, .ref o3])), (o0, .inl (cD, 35, .inr (.inr (.inr (.inl (NO)))))), (o1, .inl (cZ, 35, .inl (GO))), (o2, .inl (cI, 30, .inl (TO))), (o3, .inl (cI, 6, .inl (OO))), (ox, .inl (cL, 1, .inr (.inl (F))))] s.heap := hP
  have hD : va_D A [(h, .inr (1, [.ref pf, .ref po, .int (nI (nn))])), (pf, .inr (0, [.ref f0, .ref f1, .ref f2, .ref f3])), (f0, .inl (cD, 35, .inr (.inr (.inr (.inl (NF)))))), (f1, .inl (cZ, 35, .inl (GF))), (f2, .inl (cI, 30, .inl (TF))), (f3, .inl (cI, 6, .inl (OF))), (po, .inr (0, [.ref o0, .ref o1, .ref o2, .ref o3])), (o0, .inl (cD, 35, .inr (.inr (.inr (.inl (NO)))))), (o1, .inl (cZ, 35, .inl (GO))), (o2, .inl (cI, 30, .inl (TO))), (o3, .inl (cI, 6, .inl (OO))), (ox, .inl (cL, 1, .inr (.inl (F))))] := hD
  have hl := lv_entry ([.ref h, .int (nI (en)), .int (bv), .double (v)]) (n := 6) (Nat.le_of_ble_eq_true rfl)
  rw [lg_entry_eq]
  generalize (lg_sl ([.ref h, .int (nI (en)), .int (bv), .double (v)]) ++ List.replicate (6 - (lg_sl ([.ref h, .int (nI (en)), .int (bv), .double (v)])).length) Slot.unset).toArray = ls at hl ⊢
  have hl : lv_has ls 6 [(0, .ref h), (1, .int (nI (en))), (2, .int (bv)), (3, .double (v))] := hl
  refine lv_aload_n hx hb dL_mark_0 rfl (lv_at hl 0 rfl) ?_
  refine lv_iload_n hx hb dL_mark_1 rfl (lv_at hl 1 rfl) ?_
  refine lv_iload_n hx hb dL_mark_2 rfl (lv_at hl 2 rfl) ?_
  refine lv_dload_n hx hb dL_mark_3 rfl (lv_at hl 3 rfl) ?_
  refine vx_callv (vx_runV (As := [.int (nI (en)), .int (bv), .double (v)]) (rest := []) ⟨hx, hb, hml, hown, hts⟩ (t_X1_mark_t2 l dC dI cD cZ cI h pf f0 f1 f2 f3 po o0 o1 o2 o3 NF GF TF OF NO GO TO OO nn hst hnn en bv v hen hbad) (cwV 3 hts gL_mark_X1_mark rfl rfl rfl (by decide +kernel) ⟨Nat.le_of_ble_eq_true rfl, Nat.le_of_ble_eq_true rfl⟩) (okJX_pre ⟨hP.sub (ws' := [(h, .inr (1, [.ref pf, .ref po, .int (nI (nn))])), (pf, .inr (0, [.ref f0, .ref f1, .ref f2, .ref f3])), (f0, .inl (cD, 35, .inr (.inr (.inr (.inl (NF)))))), (f1, .inl (cZ, 35, .inl (GF))), (f2, .inl (cI, 30, .inl (TF))), (f3, .inl (cI, 6, .inl (OF))), (po, .inr (0, [.ref o0, .ref o1, .ref o2, .ref o3])), (o0, .inl (cD, 35, .inr (.inr (.inr (.inl (NO)))))), (o1, .inl (cZ, 35, .inl (GO))), (o2, .inl (cI, 30, .inl (TO))), (o3, .inl (cI, 6, .inl (OO)))]) [0, 1, 2, 3, 4, 5, 6, 7, 8, 9, 10] rfl, hK.sub [0, 1, 2] rfl, hE⟩ hZ) rfl rfl hl.1 rfl (lv_room (Nat.le_of_ble_eq_true rfl)) dL_mark_4 ⟨Nat.le_of_ble_eq_true rfl, Nat.le_of_ble_eq_true rfl⟩) hS (fun q _ h => h.elim) (fun q h => h.elim) (fun q _ h => h.elim) (fun E ce q9 u t H1 locs ht hvm hw hB hz1 hk1 hS hce hcv hcl => ?_) (fun u t H1 locs1 ht hvm hw hB hz1 hk1 hS1 => hw.elim)
  have hB9 : E = nsX := hB
  subst hB9
  have hP := hP.kept (fun k q hk => hk1 q.1 ((hP k q hk).lt) (fun z => z))
  generalize H1 = H at hP hS hce ⊢
  refine vx_catch (name := nsX) hown [] ⟨0, 7, 10, 19⟩ [] htb (fun z hz => absurd hz List.not_mem_nil) (by decide) (by decide) (hts (.classLink RL 19 nsX) (by decide +kernel)) hE.cN hce hcv hcl ?_
  refine W.widen (k := 1) (n := 6) (by omega) (by omega) ?_
  have hP : va_P (dC, dI) vwCl [(h, .inr (1, [.ref pf, .ref po, .int (nI (nn))])), (pf, .inr (0, [.ref f0, .ref f1, .ref f2, .ref f3])), (f0, .inl (cD, 35, .inr (.inr (.inr (.inl (NF)))))), (f1, .inl (cZ, 35, .inl (GF))), (f2, .inl (cI, 30, .inl (TF))), (f3, .inl (cI, 6, .inl (OF))), (po, .inr (0, [.ref o0, .ref o1, .ref o2, .ref o3])), (o0, .inl (cD, 35, .inr (.inr (.inr (.inl (NO)))))), (o1, .inl (cZ, 35, .inl (GO))), (o2, .inl (cI, 30, .inl (TO))), (o3, .inl (cI, 6, .inl (OO))), (ox, .inl (cL, 1, .inr (.inl (F))))] H := hP
  refine lv_astore (lv' := [(5, .ref q9), (0, .ref h), (1, .int (nI (en))), (2, .int (bv)), (3, .double (v))]) hx hb dL_mark_10 hl (by decide) rfl (fun ls hl => ?_)
  refine lv_iconst (v := nI 1) hx hb dL_mark_12 (by decide) ?_
  exact W.iret (v := nI 1) hx hb hr (fun t ht hW => ⟨⟨_, (), rfl, rfl, by rw [ht]; exact hP, va_K.moved hW.alike hK, hD⟩, hS.F ht⟩) hS.2.2 dL_mark_13
set_option maxHeartbeats 4000000 in
set_option maxRecDepth 100000 in
theorem c_L_points_t1 (l : Launch) (dC : Nat → ClassId) (dI : Nat → Nat → Nat) (cD cZ cI cL : ClassId) (h pf f0 f1 f2 f3 po o0 o1 o2 o3 : Nat) (NF : Nat → UInt64) (GF TF OF : Nat → Int32) (NO : Nat → UInt64) (GO TO OO : Nat → Int32) (nn : Nat) (ox : Nat) (F : Nat → Int64) (sz : Nat) (hst : l.stackTraces = false) (ev bv : Int32) (fv : UInt32) (hbad : vB ev nn = false) : Met l yL_points wsL_points ({ frames := 8, cells := 1, slots := 6, locals := 126 }) (va_Pc [.ref h, .int (ev), .int (bv), .float (fv)] (fun U => U.heap.size = sz ∧ okLX dC dI cD cZ cI cL (wL cD cZ cI cL h pf f0 f1 f2 f3 po o0 o1 o2 o3 NF GF TF OF NO GO TO OO nn false ox F) U U.heap ∧ va_D (fun _ => True) (wL cD cZ cI cL h pf f0 f1 f2 f3 po o0 o1 o2 o3 NF GF TF OF NO GO TO OO nn false ox F))) (va_Qi (fun (r : Int32) (_ : Unit) => r = nI 1) (fun _ t => atL dC dI cD cZ cI cL (va_A (wL cD cZ cI cL h pf f0 f1 f2 f3 po o0 o1 o2 o3 NF GF TF OF NO GO TO OO nn false ox F) sz) (wL cD cZ cI cL h pf f0 f1 f2 f3 po o0 o1 o2 o3 NF GF TF OF NO GO TO OO nn false ox F) t) (va_A (wL cD cZ cI cL h pf f0 f1 f2 f3 po o0 o1 o2 o3 NF GF TF OF NO GO TO OO nn false ox F) sz)) 1 6 (va_A (wL cD cZ cI cL h pf f0 f1 f2 f3 po o0 o1 o2 o3 NF GF TF OF NO GO TO OO nn false ox F) sz) := by
  refine va_MetW (cc := cL_points) (maxL := 5) (ret := (some .int)) (hh := [(0, 7, 10, 19)]) (by decide) rfl ?_
  intro p e s m args below meth c s₁ B hml hv
  obtain ⟨rfl, hsz, hO, hD0⟩ := hv
  obtain ⟨hP, hK, hE, hZ⟩ := id hO
  have hx := B.exec
  have hb := B.bytes
  have hr := B.returns
  have hts := atoms_spec (ws := wsL_points) B.pre
  have hown : s.vm.findClass RL = some m.cls := findClass_of_methodNamed B.named
  have hlocks := B.notSynchronized
  have htb := vx_table (x := yL_points) B (hts _ List.mem_cons_self)
  subst hsz
  have hD := hD0.self (sz := s.heap.size)
  generalize hAe : va_A (wL cD cZ cI cL h pf f0 f1 f2 f3 po o0 o1 o2 o3 NF GF TF OF NO GO TO OO nn false ox F) s.heap.size = A at hD ⊢
  have hA : ∀ q : Nat, s.heap.size ≤ q → A q := fun q h => by rw [← hAe]; exact Or.inr h
  have hS : va_S A s.heap s.heap [] := va_S.rf
  have hP : va_P (dC, dI) vwCl [(h, .inr (1, [.ref po, .ref pf, .int (nI (nn))])), (pf, .inr (0, [.ref f0, .ref f1, .ref f2, .ref f3])), (f0, .inl (cD, 35, .inr (.inr (.inr (.inl (NF)))))), (f1, .inl (cZ, 35, .inl (GF))), (f2, .inl (cI, 30, .inl (TF))), (f3, .inl (cI, 6, .inl (OF))), (po, .inr (0, [.ref o0, .ref o1, .ref o2, .ref o3])), (o0, .inl (cD, 35, .inr (.inr (.inr (.inl (NO)))))), (o1, .inl (cZ, 35, .inl (GO))), (o2, .inl (cI, 30, .inl (TO))), (o3, .inl (cI, 6, .inl (OO))), (ox, .inl (cL, 1, .inr (.inl (F))))] s.heap := hP
  have hD : va_D A [(h, .inr (1, [.ref po, .ref pf, .int (nI (nn))])), (pf, .inr (0, [.ref f0, .ref f1, .ref f2, .ref f3])), (f0, .inl (cD, 35, .inr (.inr (.inr (.inl (NF)))))), (f1, .inl (cZ, 35, .inl (GF))), (f2, .inl (cI, 30, .inl (TF))), (f3, .inl (cI, 6, .inl (OF))), (po, .inr (0, [.ref o0, .ref o1, .ref o2, .ref o3])), (o0, .inl (cD, 35, .inr (.inr (.inr (.inl (NO)))))), (o1, .inl (cZ, 35, .inl (GO))), (o2, .inl (cI, 30, .inl (TO))), (o3, .inl (cI, 6, .inl (OO))), (ox, .inl (cL, 1, .inr (.inl (F))))] := hD
  have hl := lv_entry ([.ref h, .int (ev), .int (bv), .float (fv)]) (n := 5) (Nat.le_of_ble_eq_true rfl)
  rw [lg_entry_eq]
  generalize (lg_sl ([.ref h, .int (ev), .int (bv), .float (fv)]) ++ List.replicate (5 - (lg_sl ([.ref h, .int (ev), .int (bv), .float (fv)])).length) Slot.unset).toArray = ls at hl ⊢
  have hl : lv_has ls 5 [(0, .ref h), (1, .int (ev)), (2, .int (bv)), (3, .float (fv))] := hl
  refine lv_aload_n hx hb dL_points_0 rfl (lv_at hl 0 rfl) ?_
  refine lv_iload_n hx hb dL_points_1 rfl (lv_at hl 1 rfl) ?_
  refine lv_iload_n hx hb dL_points_2 rfl (lv_at hl 2 rfl) ?_
  refine lv_fload_n hx hb dL_points_3 rfl (lv_at hl 3 rfl) ?_
  refine vx_callv (vx_runV (As := [.int (ev), .int (bv), .float (fv)]) (rest := []) ⟨hx, hb, hml, hown, hts⟩ (t_X1_points_t1 l dC dI cD cZ cI h pf f0 f1 f2 f3 po o0 o1 o2 o3 NF GF TF OF NO GO TO OO nn hst ev bv fv hbad) (cwV 3 hts gL_points_X1_points rfl rfl rfl (by decide +kernel) ⟨Nat.le_of_ble_eq_true rfl, Nat.le_of_ble_eq_true rfl⟩) (okJX_pre ⟨hP.sub (ws' := [(h, .inr (1, [.ref po, .ref pf, .int (nI (nn))])), (pf, .inr (0, [.ref f0, .ref f1, .ref f2, .ref f3])), (f0, .inl (cD, 35, .inr (.inr (.inr (.inl (NF)))))), (f1, .inl (cZ, 35, .inl (GF))), (f2, .inl (cI, 30, .inl (TF))), (f3, .inl (cI, 6, .inl (OF))), (po, .inr (0, [.ref o0, .ref o1, .ref o2, .ref o3])), (o0, .inl (cD, 35, .inr (.inr (.inr (.inl (NO)))))), (o1, .inl (cZ, 35, .inl (GO))), (o2, .inl (cI, 30, .inl (TO))), (o3, .inl (cI, 6, .inl (OO)))]) [0, 1, 2, 3, 4, 5, 6, 7, 8, 9, 10] rfl, hK.sub [0, 1, 2] rfl, hE⟩ hZ) rfl rfl hl.1 rfl (lv_room (Nat.le_of_ble_eq_true rfl)) dL_points_4 ⟨Nat.le_of_ble_eq_true rfl, Nat.le_of_ble_eq_true rfl⟩) hS (fun q _ h => h.elim) (fun q h => h.elim) (fun q _ h => h.elim) (fun E ce q9 u t H1 locs ht hvm hw hB hz1 hk1 hS hce hcv hcl => ?_) (fun u t H1 locs1 ht hvm hw hB hz1 hk1 hS1 => hw.elim)
  have hB9 : E = nsX := hB
  subst hB9
  have hP := hP.kept (fun k q hk => hk1 q.1 ((hP k q hk).lt) (fun z => z))
  generalize H1 = H at hP hS hce ⊢
  refine vx_catch (name := nsX) hown [] ⟨0, 7, 10, 19⟩ [] htb (fun z hz => absurd hz List.not_mem_nil) (by decide) (by decide) (hts (.classLink RL 19 nsX) (by decide +kernel)) hE.cN hce hcv hcl ?_
  refine W.widen (k := 1) (n := 6) (by omega) (by omega) ?_
  have hP : va_P (dC, dI) vwCl [(h, .inr (1, [.ref po, .ref pf, .int (nI (nn))])), (pf, .inr (0, [.ref f0, .ref f1, .ref f2, .ref f3])), (f0, .inl (cD, 35, .inr (.inr (.inr (.inl (NF)))))), (f1, .inl (cZ, 35, .inl (GF))), (f2, .inl (cI, 30, .inl (TF))), (f3, .inl (cI, 6, .inl (OF))), (po, .inr (0, [.ref o0, .ref o1, .ref o2, .ref o3])), (o0, .inl (cD, 35, .inr (.inr (.inr (.inl (NO)))))), (o1, .inl (cZ, 35, .inl (GO))), (o2, .inl (cI, 30, .inl (TO))), (o3, .inl (cI, 6, .inl (OO))), (ox, .inl (cL, 1, .inr (.inl (F))))] H := hP
  refine lv_astore (lv' := [(4, .ref q9), (0, .ref h), (1, .int (ev)), (2, .int (bv)), (3, .float (fv))]) hx hb dL_points_10 hl (by decide) rfl (fun ls hl => ?_)
  refine lv_iconst (v := nI 1) hx hb dL_points_12 (by decide) ?_
  exact W.iret (v := nI 1) hx hb hr (fun t ht hW => ⟨⟨_, (), rfl, rfl, by rw [ht]; exact hP, va_K.moved hW.alike hK, hD⟩, hS.F ht⟩) hS.2.2 dL_points_13
set_option maxHeartbeats 4000000 in
set_option maxRecDepth 100000 in
theorem c_L_points_t2 (l : Launch) (dC : Nat → ClassId) (dI : Nat → Nat → Nat) (cD cZ cI cL : ClassId) (h pf f0 f1 f2 f3 po o0 o1 o2 o3 : Nat) (NF : Nat → UInt64) (GF TF OF : Nat → Int32) (NO : Nat → UInt64) (GO TO OO : Nat → Int32) (nn : Nat) (ox : Nat) (F : Nat → Int64) (sz : Nat) (hst : l.stackTraces = false) (hnn : nn ≤ 6) (en : Nat) (bv : Int32) (fv : UInt32) (hen : en < nn) (hbad : vB bv 5 = false) : Met l yL_points wsL_points ({ frames := 8, cells := 1, slots := 6, locals := 125 }) (va_Pc [.ref h, .int (nI (en)), .int (bv), .float (fv)] (fun U => U.heap.size = sz ∧ okLX dC dI cD cZ cI cL (wL cD cZ cI cL h pf f0 f1 f2 f3 po o0 o1 o2 o3 NF GF TF OF NO GO TO OO nn false ox F) U U.heap ∧ va_D (fun _ => True) (wL cD cZ cI cL h pf f0 f1 f2 f3 po o0 o1 o2 o3 NF GF TF OF NO GO TO OO nn false ox F))) (va_Qi (fun (r : Int32) (_ : Unit) => r = nI 1) (fun _ t => atL dC dI cD cZ cI cL (va_A (wL cD cZ cI cL h pf f0 f1 f2 f3 po o0 o1 o2 o3 NF GF TF OF NO GO TO OO nn false ox F) sz) (wL cD cZ cI cL h pf f0 f1 f2 f3 po o0 o1 o2 o3 NF GF TF OF NO GO TO OO nn false ox F) t) (va_A (wL cD cZ cI cL h pf f0 f1 f2 f3 po o0 o1 o2 o3 NF GF TF OF NO GO TO OO nn false ox F) sz)) 1 6 (va_A (wL cD cZ cI cL h pf f0 f1 f2 f3 po o0 o1 o2 o3 NF GF TF OF NO GO TO OO nn false ox F) sz) := by
  refine va_MetW (cc := cL_points) (maxL := 5) (ret := (some .int)) (hh := [(0, 7, 10, 19)]) (by decide) rfl ?_
  intro p e s m args below meth c s₁ B hml hv
  obtain ⟨rfl, hsz, hO, hD0⟩ := hv
  obtain ⟨hP, hK, hE, hZ⟩ := id hO
  have hx := B.exec
  have hb := B.bytes
  have hr := B.returns
  have hts := atoms_spec (ws := wsL_points) B.pre
  have hown : s.vm.findClass RL = some m.cls := findClass_of_methodNamed B.named
  have hlocks := B.notSynchronized
  have htb := vx_table (x := yL_points) B (hts _ List.mem_cons_self)
  subst hsz
  have hD := hD0.self (sz := s.heap.size)
  generalize hAe : va_A (wL cD cZ cI cL h pf f0 f1 f2 f3 po o0 o1 o2 o3 NF GF TF OF NO GO TO OO nn false ox F) s.heap.size = A at hD ⊢
  have hA : ∀ q : Nat, s.heap.size ≤ q → A q := fun q h => by rw [← hAe]; exact Or.inr h
  have hS : va_S A s.heap s.heap [] := va_S.rf
  have hP : va_P (dC, dI) vwCl [(h, .inr (1, [.ref po, .ref pf, .int (nI (nn))])), (pf, .inr (0, [.ref f0, .ref f1, .ref f2, .ref f3])), (f0, .inl (cD, 35, .inr (.inr (.inr (.inl (NF)))))), (f1, .inl (cZ, 35, .inl (GF))), (f2, .inl (cI, 30, .inl (TF))), (f3, .inl (cI, 6, .inl (OF))), (po, .inr (0, [.ref o0, .ref o1, .ref o2, .ref o3])), (o0, .inl (cD, 35, .inr (.inr (.inr (.inl (NO)))))), (o1, .inl (cZ, 35, .inl (GO))), (o2, .inl (cI, 30, .inl (TO))), (o3, .inl (cI, 6, .inl (OO))), (ox, .inl (cL, 1, .inr (.inl (F))))] s.heap := hP
  have hD : va_D A [(h, .inr (1, [.ref po, .ref pf, .int (nI (nn))])), (pf, .inr (0, [.ref f0, .ref f1, .ref f2, .ref f3])), (f0, .inl (cD, 35, .inr (.inr (.inr (.inl (NF)))))), (f1, .inl (cZ, 35, .inl (GF))), (f2, .inl (cI, 30, .inl (TF))), (f3, .inl (cI, 6, .inl (OF))), (po, .inr (0, [.ref o0, .ref o1, .ref o2, .ref o3])), (o0, .inl (cD, 35, .inr (.inr (.inr (.inl (NO)))))), (o1, .inl (cZ, 35, .inl (GO))), (o2, .inl (cI, 30, .inl (TO))), (o3, .inl (cI, 6, .inl (OO))), (ox, .inl (cL, 1, .inr (.inl (F))))] := hD
  have hl := lv_entry ([.ref h, .int (nI (en)), .int (bv), .float (fv)]) (n := 5) (Nat.le_of_ble_eq_true rfl)
  rw [lg_entry_eq]
  generalize (lg_sl ([.ref h, .int (nI (en)), .int (bv), .float (fv)]) ++ List.replicate (5 - (lg_sl ([.ref h, .int (nI (en)), .int (bv), .float (fv)])).length) Slot.unset).toArray = ls at hl ⊢
  have hl : lv_has ls 5 [(0, .ref h), (1, .int (nI (en))), (2, .int (bv)), (3, .float (fv))] := hl
  refine lv_aload_n hx hb dL_points_0 rfl (lv_at hl 0 rfl) ?_
  refine lv_iload_n hx hb dL_points_1 rfl (lv_at hl 1 rfl) ?_
  refine lv_iload_n hx hb dL_points_2 rfl (lv_at hl 2 rfl) ?_
  refine lv_fload_n hx hb dL_points_3 rfl (lv_at hl 3 rfl) ?_
  refine vx_callv (vx_runV (As := [.int (nI (en)), .int (bv), .float (fv)]) (rest := []) ⟨hx, hb, hml, hown, hts⟩ (t_X1_points_t2 l dC dI cD cZ cI h pf f0 f1 f2 f3 po o0 o1 o2 o3 NF GF TF OF NO GO TO OO nn hst hnn en bv fv hen hbad) (cwV 3 hts gL_points_X1_points rfl rfl rfl (by decide +kernel) ⟨Nat.le_of_ble_eq_true rfl, Nat.le_of_ble_eq_true rfl⟩) (okJX_pre ⟨hP.sub (ws' := [(h, .inr (1, [.ref po, .ref pf, .int (nI (nn))])), (pf, .inr (0, [.ref f0, .ref f1, .ref f2, .ref f3])), (f0, .inl (cD, 35, .inr (.inr (.inr (.inl (NF)))))), (f1, .inl (cZ, 35, .inl (GF))), (f2, .inl (cI, 30, .inl (TF))), (f3, .inl (cI, 6, .inl (OF))), (po, .inr (0, [.ref o0, .ref o1, .ref o2, .ref o3])), (o0, .inl (cD, 35, .inr (.inr (.inr (.inl (NO)))))), (o1, .inl (cZ, 35, .inl (GO))), (o2, .inl (cI, 30, .inl (TO))), (o3, .inl (cI, 6, .inl (OO)))]) [0, 1, 2, 3, 4, 5, 6, 7, 8, 9, 10] rfl, hK.sub [0, 1, 2] rfl, hE⟩ hZ) rfl rfl hl.1 rfl (lv_room (Nat.le_of_ble_eq_true rfl)) dL_points_4 ⟨Nat.le_of_ble_eq_true rfl, Nat.le_of_ble_eq_true rfl⟩) hS (fun q _ h => h.elim) (fun q h => h.elim) (fun q _ h => h.elim) (fun E ce q9 u t H1 locs ht hvm hw hB hz1 hk1 hS hce hcv hcl => ?_) (fun u t H1 locs1 ht hvm hw hB hz1 hk1 hS1 => hw.elim)
  have hB9 : E = nsX := hB
  subst hB9
  have hP := hP.kept (fun k q hk => hk1 q.1 ((hP k q hk).lt) (fun z => z))
  generalize H1 = H at hP hS hce ⊢
  refine vx_catch (name := nsX) hown [] ⟨0, 7, 10, 19⟩ [] htb (fun z hz => absurd hz List.not_mem_nil) (by decide) (by decide) (hts (.classLink RL 19 nsX) (by decide +kernel)) hE.cN hce hcv hcl ?_
  refine W.widen (k := 1) (n := 6) (by omega) (by omega) ?_
  have hP : va_P (dC, dI) vwCl [(h, .inr (1, [.ref po, .ref pf, .int (nI (nn))])), (pf, .inr (0, [.ref f0, .ref f1, .ref f2, .ref f3])), (f0, .inl (cD, 35, .inr (.inr (.inr (.inl (NF)))))), (f1, .inl (cZ, 35, .inl (GF))), (f2, .inl (cI, 30, .inl (TF))), (f3, .inl (cI, 6, .inl (OF))), (po, .inr (0, [.ref o0, .ref o1, .ref o2, .ref o3])), (o0, .inl (cD, 35, .inr (.inr (.inr (.inl (NO)))))), (o1, .inl (cZ, 35, .inl (GO))), (o2, .inl (cI, 30, .inl (TO))), (o3, .inl (cI, 6, .inl (OO))), (ox, .inl (cL, 1, .inr (.inl (F))))] H := hP
  refine lv_astore (lv' := [(4, .ref q9), (0, .ref h), (1, .int (nI (en))), (2, .int (bv)), (3, .float (fv))]) hx hb dL_points_10 hl (by decide) rfl (fun ls hl => ?_)
  refine lv_iconst (v := nI 1) hx hb dL_points_12 (by decide) ?_
  exact W.iret (v := nI 1) hx hb hr (fun t ht hW => ⟨⟨_, (), rfl, rfl, by rw [ht]; exact hP, va_K.moved hW.alike hK, hD⟩, hS.F ht⟩) hS.2.2 dL_points_13
set_option maxHeartbeats 4000000 in
set_option maxRecDepth 100000 in
theorem c_L_bar_t1 (l : Launch) (dC : Nat → ClassId) (dI : Nat → Nat → Nat) (cD cZ cI cL : ClassId) (h pf f0 f1 f2 f3 po o0 o1 o2 o3 : Nat) (NF : Nat → UInt64) (GF TF OF : Nat → Int32) (NO : Nat → UInt64) (GO TO OO : Nat → Int32) (nn : Nat) (ox : Nat) (F : Nat → Int64) (sz : Nat) (hst : l.stackTraces = false) (bv : Int32) (v : UInt64) (hbad : vB bv 5 = false) : Met l yL_bar wsL_bar ({ frames := 8, cells := 1, slots := 6, locals := 125 }) (va_Pc [.ref h, .int (bv), .double (v)] (fun U => U.heap.size = sz ∧ okLX dC dI cD cZ cI cL (wL cD cZ cI cL h pf f0 f1 f2 f3 po o0 o1 o2 o3 NF GF TF OF NO GO TO OO nn true ox F) U U.heap ∧ va_D (fun _ => True) (wL cD cZ cI cL h pf f0 f1 f2 f3 po o0 o1 o2 o3 NF GF TF OF NO GO TO OO nn true ox F))) (va_Qi (fun (r : Int32) (_ : Unit) => r = nI 1) (fun _ t => atL dC dI cD cZ cI cL (va_A (wL cD cZ cI cL h pf f0 f1 f2 f3 po o0 o1 o2 o3 NF GF TF OF NO GO TO OO nn true ox F) sz) (wL cD cZ cI cL h pf f0 f1 f2 f3 po o0 o1 o2 o3 NF GF TF OF NO GO TO OO nn true ox F) t) (va_A (wL cD cZ cI cL h pf f0 f1 f2 f3 po o0 o1 o2 o3 NF GF TF OF NO GO TO OO nn true ox F) sz)) 1 6 (va_A (wL cD cZ cI cL h pf f0 f1 f2 f3 po o0 o1 o2 o3 NF GF TF OF NO GO TO OO nn true ox F) sz) := by
  refine va_MetW (cc := cL_bar) (maxL := 5) (ret := (some .int)) (hh := [(0, 6, 9, 19)]) (by decide) rfl ?_
  intro p e s m args below meth c s₁ B hml hv
  obtain ⟨rfl, hsz, hO, hD0⟩ := hv
  obtain ⟨hP, hK, hE, hZ⟩ := id hO
  have hx := B.exec
  have hb := B.bytes
  have hr := B.returns
  have hts := atoms_spec (ws := wsL_bar) B.pre
  have hown : s.vm.findClass RL = some m.cls := findClass_of_methodNamed B.named
  have hlocks := B.notSynchronized
  have htb := vx_table (x := yL_bar) B (hts _ List.mem_cons_self)
  subst hsz
  have hD := hD0.self (sz := s.heap.size)
  generalize hAe : va_A (wL cD cZ cI cL h pf f0 f1 f2 f3 po o0 o1 o2 o3 NF GF TF OF NO GO TO OO nn true ox F) s.heap.size = A at hD ⊢
  have hA : ∀ q : Nat, s.heap.size ≤ q → A q := fun q h => by rw [← hAe]; exact Or.inr h
  have hS : va_S A s.heap s.heap [] := va_S.rf
  have hP : va_P (dC, dI) vwCl [(h, .inr (1, [.ref pf, .ref po, .int (nI (nn))])), (pf, .inr (0, [.ref f0, .ref f1, .ref f2, .ref f3])), (f0, .inl (cD, 35, .inr (.inr (.inr (.inl (NF)))))), (f1, .inl (cZ, 35, .inl (GF))), (f2, .inl (cI, 30, .inl (TF))), (f3, .inl (cI, 6, .inl (OF))), (po, .inr (0, [.ref o0, .ref o1, .ref o2, .ref o3])), (o0, .inl (cD, 35, .inr (.inr (.inr (.inl (NO)))))), (o1, .inl (cZ, 35, .inl (GO))), (o2, .inl (cI, 30, .inl (TO))), (o3, .inl (cI, 6, .inl (OO))), (ox, .inl (cL, 1, .inr (.inl (F))))] s.heap := hP
  have hD : va_D A [(h, .inr (1, [.ref pf, .ref po, .int (nI (nn))])), (pf, .inr (0, [.ref f0, .ref f1, .ref f2, .ref f3])), (f0, .inl (cD, 35, .inr (.inr (.inr (.inl (NF)))))), (f1, .inl (cZ, 35, .inl (GF))), (f2, .inl (cI, 30, .inl (TF))), (f3, .inl (cI, 6, .inl (OF))), (po, .inr (0, [.ref o0, .ref o1, .ref o2, .ref o3])), (o0, .inl (cD, 35, .inr (.inr (.inr (.inl (NO)))))), (o1, .inl (cZ, 35, .inl (GO))), (o2, .inl (cI, 30, .inl (TO))), (o3, .inl (cI, 6, .inl (OO))), (ox, .inl (cL, 1, .inr (.inl (F))))] := hD
  have hl := lv_entry ([.ref h, .int (bv), .double (v)]) (n := 5) (Nat.le_of_ble_eq_true rfl)
  rw [lg_entry_eq]
  generalize (lg_sl ([.ref h, .int (bv), .double (v)]) ++ List.replicate (5 - (lg_sl ([.ref h, .int (bv), .double (v)])).length) Slot.unset).toArray = ls at hl ⊢
  have hl : lv_has ls 5 [(0, .ref h), (1, .int (bv)), (2, .double (v))] := hl
  refine lv_aload_n hx hb dL_bar_0 rfl (lv_at hl 0 rfl) ?_
  refine lv_iload_n hx hb dL_bar_1 rfl (lv_at hl 1 rfl) ?_
  refine lv_dload_n hx hb dL_bar_2 rfl (lv_at hl 2 rfl) ?_
  refine vx_callv (vx_runV (As := [.int (bv), .double (v)]) (rest := []) ⟨hx, hb, hml, hown, hts⟩ (t_X1_bar_t1 l dC dI cD cZ cI h pf f0 f1 f2 f3 po o0 o1 o2 o3 NF GF TF OF NO GO TO OO nn hst bv v hbad) (cwV 2 hts gL_bar_X1_bar rfl rfl rfl (by decide +kernel) ⟨Nat.le_of_ble_eq_true rfl, Nat.le_of_ble_eq_true rfl⟩) (okJX_pre ⟨hP.sub (ws' := [(h, .inr (1, [.ref pf, .ref po, .int (nI (nn))])), (pf, .inr (0, [.ref f0, .ref f1, .ref f2, .ref f3])), (f0, .inl (cD, 35, .inr (.inr (.inr (.inl (NF)))))), (f1, .inl (cZ, 35, .inl (GF))), (f2, .inl (cI, 30, .inl (TF))), (f3, .inl (cI, 6, .inl (OF))), (po, .inr (0, [.ref o0, .ref o1, .ref o2, .ref o3])), (o0, .inl (cD, 35, .inr (.inr (.inr (.inl (NO)))))), (o1, .inl (cZ, 35, .inl (GO))), (o2, .inl (cI, 30, .inl (TO))), (o3, .inl (cI, 6, .inl (OO)))]) [0, 1, 2, 3, 4, 5, 6, 7, 8, 9, 10] rfl, hK.sub [0, 1, 2] rfl, hE⟩ hZ) rfl rfl hl.1 rfl (lv_room (Nat.le_of_ble_eq_true rfl)) dL_bar_3 ⟨Nat.le_of_ble_eq_true rfl, Nat.le_of_ble_eq_true rfl⟩) hS (fun q _ h => h.elim) (fun q h => h.elim) (fun q _ h => h.elim) (fun E ce q9 u t H1 locs ht hvm hw hB hz1 hk1 hS hce hcv hcl => ?_) (fun u t H1 locs1 ht hvm hw hB hz1 hk1 hS1 => hw.elim)
  have hB9 : E = nsX := hB
  subst hB9
  have hP := hP.kept (fun k q hk => hk1 q.1 ((hP k q hk).lt) (fun z => z))
  generalize H1 = H at hP hS hce ⊢
  refine vx_catch (name := nsX) hown [] ⟨0, 6, 9, 19⟩ [] htb (fun z hz => absurd hz List.not_mem_nil) (by decide) (by decide) (hts (.classLink RL 19 nsX) (by decide +kernel)) hE.cN hce hcv hcl ?_
  refine W.widen (k := 1) (n := 6) (by omega) (by omega) ?_
  have hP : va_P (dC, dI) vwCl [(h, .inr (1, [.ref pf, .ref po, .int (nI (nn))])), (pf, .inr (0, [.ref f0, .ref f1, .ref f2, .ref f3])), (f0, .inl (cD, 35, .inr (.inr (.inr (.inl (NF)))))), (f1, .inl (cZ, 35, .inl (GF))), (f2, .inl (cI, 30, .inl (TF))), (f3, .inl (cI, 6, .inl (OF))), (po, .inr (0, [.ref o0, .ref o1, .ref o2, .ref o3])), (o0, .inl (cD, 35, .inr (.inr (.inr (.inl (NO)))))), (o1, .inl (cZ, 35, .inl (GO))), (o2, .inl (cI, 30, .inl (TO))), (o3, .inl (cI, 6, .inl (OO))), (ox, .inl (cL, 1, .inr (.inl (F))))] H := hP
  refine lv_astore (lv' := [(4, .ref q9), (0, .ref h), (1, .int (bv)), (2, .double (v))]) hx hb dL_bar_9 hl (by decide) rfl (fun ls hl => ?_)
  refine lv_iconst (v := nI 1) hx hb dL_bar_11 (by decide) ?_
  exact W.iret (v := nI 1) hx hb hr (fun t ht hW => ⟨⟨_, (), rfl, rfl, by rw [ht]; exact hP, va_K.moved hW.alike hK, hD⟩, hS.F ht⟩) hS.2.2 dL_bar_12
set_option maxHeartbeats 4000000 in
set_option maxRecDepth 100000 in
theorem c_L_line_t1 (l : Launch) (dC : Nat → ClassId) (dI : Nat → Nat → Nat) (cD cZ cI cL : ClassId) (h pf f0 f1 f2 f3 po o0 o1 o2 o3 : Nat) (NF : Nat → UInt64) (GF TF OF : Nat → Int32) (NO : Nat → UInt64) (GO TO OO : Nat → Int32) (nn : Nat) (ox : Nat) (F : Nat → Int64) (sz : Nat) (hst : l.stackTraces = false) (bv : Int32) (fv : UInt32) (hbad : vB bv 5 = false) : Met l yL_line wsL_line ({ frames := 8, cells := 1, slots := 6, locals := 124 }) (va_Pc [.ref h, .int (bv), .float (fv)] (fun U => U.heap.size = sz ∧ okLX dC dI cD cZ cI cL (wL cD cZ cI cL h pf f0 f1 f2 f3 po o0 o1 o2 o3 NF GF TF OF NO GO TO OO nn false ox F) U U.heap ∧ va_D (fun _ => True) (wL cD cZ cI cL h pf f0 f1 f2 f3 po o0 o1 o2 o3 NF GF TF OF NO GO TO OO nn false ox F))) (va_Qi (fun (r : Int32) (_ : Unit) => r = nI 1) (fun _ t => atL dC dI cD cZ cI cL (va_A (wL cD cZ cI cL h pf f0 f1 f2 f3 po o0 o1 o2 o3 NF GF TF OF NO GO TO OO nn false ox F) sz) (wL cD cZ cI cL h pf f0 f1 f2 f3 po o0 o1 o2 o3 NF GF TF OF NO GO TO OO nn false ox F) t) (va_A (wL cD cZ cI cL h pf f0 f1 f2 f3 po o0 o1 o2 o3 NF GF TF OF NO GO TO OO nn false ox F) sz)) 1 6 (va_A (wL cD cZ cI cL h pf f0 f1 f2 f3 po o0 o1 o2 o3 NF GF TF OF NO GO TO OO nn false ox F) sz) := by
  refine va_MetW (cc := cL_line) (maxL := 4) (ret := (some .int)) (hh := [(0, 6, 9, 19)]) (by decide) rfl ?_
  intro p e s m args below meth c s₁ B hml hv
  obtain ⟨rfl, hsz, hO, hD0⟩ := hv
  obtain ⟨hP, hK, hE, hZ⟩ := id hO
  have hx := B.exec
  have hb := B.bytes
  have hr := B.returns
  have hts := atoms_spec (ws := wsL_line) B.pre
  have hown : s.vm.findClass RL = some m.cls := findClass_of_methodNamed B.named
  have hlocks := B.notSynchronized
  have htb := vx_table (x := yL_line) B (hts _ List.mem_cons_self)
  subst hsz
  have hD := hD0.self (sz := s.heap.size)
  generalize hAe : va_A (wL cD cZ cI cL h pf f0 f1 f2 f3 po o0 o1 o2 o3 NF GF TF OF NO GO TO OO nn false ox F) s.heap.size = A at hD ⊢
  have hA : ∀ q : Nat, s.heap.size ≤ q → A q := fun q h => by rw [← hAe]; exact Or.inr h
  have hS : va_S A s.heap s.heap [] := va_S.rf
  have hP : va_P (dC, dI) vwCl [(h, .inr (1, [.ref po, .ref pf, .int (nI (nn))])), (pf, .inr (0, [.ref f0, .ref f1, .ref f2, .ref f3])), (f0, .inl (cD, 35, .inr (.inr (.inr (.inl (NF)))))), (f1, .inl (cZ, 35, .inl (GF))), (f2, .inl (cI, 30, .inl (TF))), (f3, .inl (cI, 6, .inl (OF))), (po, .inr (0, [.ref o0, .ref o1, .ref o2, .ref o3])), (o0, .inl (cD, 35, .inr (.inr (.inr (.inl (NO)))))), (o1, .inl (cZ, 35, .inl (GO))), (o2, .inl (cI, 30, .inl (TO))), (o3, .inl (cI, 6, .inl (OO))), (ox, .inl (cL, 1, .inr (.inl (F))))] s.heap := hP
  have hD : va_D A [(h, .inr (1, [.ref po, .ref pf, .int (nI (nn))])), (pf, .inr (0, [.ref f0, .ref f1, .ref f2, .ref f3])), (f0, .inl (cD, 35, .inr (.inr (.inr (.inl (NF)))))), (f1, .inl (cZ, 35, .inl (GF))), (f2, .inl (cI, 30, .inl (TF))), (f3, .inl (cI, 6, .inl (OF))), (po, .inr (0, [.ref o0, .ref o1, .ref o2, .ref o3])), (o0, .inl (cD, 35, .inr (.inr (.inr (.inl (NO)))))), (o1, .inl (cZ, 35, .inl (GO))), (o2, .inl (cI, 30, .inl (TO))), (o3, .inl (cI, 6, .inl (OO))), (ox, .inl (cL, 1, .inr (.inl (F))))] := hD
  have hl := lv_entry ([.ref h, .int (bv), .float (fv)]) (n := 4) (Nat.le_of_ble_eq_true rfl)
  rw [lg_entry_eq]
  generalize (lg_sl ([.ref h, .int (bv), .float (fv)]) ++ List.replicate (4 - (lg_sl ([.ref h, .int (bv), .float (fv)])).length) Slot.unset).toArray = ls at hl ⊢
  have hl : lv_has ls 4 [(0, .ref h), (1, .int (bv)), (2, .float (fv))] := hl
  refine lv_aload_n hx hb dL_line_0 rfl (lv_at hl 0 rfl) ?_
  refine lv_iload_n hx hb dL_line_1 rfl (lv_at hl 1 rfl) ?_
  refine lv_fload_n hx hb dL_line_2 rfl (lv_at hl 2 rfl) ?_
  refine vx_callv (vx_runV (As := [.int (bv), .float (fv)]) (rest := []) ⟨hx, hb, hml, hown, hts⟩ (t_X1_line_t1 l dC dI cD cZ cI h pf f0 f1 f2 f3 po o0 o1 o2 o3 NF GF TF OF NO GO TO OO nn hst bv fv hbad) (cwV 2 hts gL_line_X1_line rfl rfl rfl (by decide +kernel) ⟨Nat.le_of_ble_eq_true rfl, Nat.le_of_ble_eq_true rfl⟩) (okJX_pre ⟨hP.sub (ws' := [(h, .inr (1, [.ref po, .ref pf, .int (nI (nn))])), (pf, .inr (0, [.ref f0, .ref f1, .ref f2, .ref f3])), (f0, .inl (cD, 35, .inr (.inr (.inr (.inl (NF)))))), (f1, .inl (cZ, 35, .inl (GF))), (f2, .inl (cI, 30, .inl (TF))), (f3, .inl (cI, 6, .inl (OF))), (po, .inr (0, [.ref o0, .ref o1, .ref o2, .ref o3])), (o0, .inl (cD, 35, .inr (.inr (.inr (.inl (NO)))))), (o1, .inl (cZ, 35, .inl (GO))), (o2, .inl (cI, 30, .inl (TO))), (o3, .inl (cI, 6, .inl (OO)))]) [0, 1, 2, 3, 4, 5, 6, 7, 8, 9, 10] rfl, hK.sub [0, 1, 2] rfl, hE⟩ hZ) rfl rfl hl.1 rfl (lv_room (Nat.le_of_ble_eq_true rfl)) dL_line_3 ⟨Nat.le_of_ble_eq_true rfl, Nat.le_of_ble_eq_true rfl⟩) hS (fun q _ h => h.elim) (fun q h => h.elim) (fun q _ h => h.elim) (fun E ce q9 u t H1 locs ht hvm hw hB hz1 hk1 hS hce hcv hcl => ?_) (fun u t H1 locs1 ht hvm hw hB hz1 hk1 hS1 => hw.elim)
  have hB9 : E = nsX := hB
  subst hB9
  have hP := hP.kept (fun k q hk => hk1 q.1 ((hP k q hk).lt) (fun z => z))
  generalize H1 = H at hP hS hce ⊢
  refine vx_catch (name := nsX) hown [] ⟨0, 6, 9, 19⟩ [] htb (fun z hz => absurd hz List.not_mem_nil) (by decide) (by decide) (hts (.classLink RL 19 nsX) (by decide +kernel)) hE.cN hce hcv hcl ?_
  refine W.widen (k := 1) (n := 6) (by omega) (by omega) ?_
  have hP : va_P (dC, dI) vwCl [(h, .inr (1, [.ref po, .ref pf, .int (nI (nn))])), (pf, .inr (0, [.ref f0, .ref f1, .ref f2, .ref f3])), (f0, .inl (cD, 35, .inr (.inr (.inr (.inl (NF)))))), (f1, .inl (cZ, 35, .inl (GF))), (f2, .inl (cI, 30, .inl (TF))), (f3, .inl (cI, 6, .inl (OF))), (po, .inr (0, [.ref o0, .ref o1, .ref o2, .ref o3])), (o0, .inl (cD, 35, .inr (.inr (.inr (.inl (NO)))))), (o1, .inl (cZ, 35, .inl (GO))), (o2, .inl (cI, 30, .inl (TO))), (o3, .inl (cI, 6, .inl (OO))), (ox, .inl (cL, 1, .inr (.inl (F))))] H := hP
  refine lv_astore_n (lv' := [(3, .ref q9), (0, .ref h), (1, .int (bv)), (2, .float (fv))]) hx hb dL_line_9 rfl hl (by decide) rfl (fun ls hl => ?_)
  refine lv_iconst (v := nI 1) hx hb dL_line_10 (by decide) ?_
  exact W.iret (v := nI 1) hx hb hr (fun t ht hW => ⟨⟨_, (), rfl, rfl, by rw [ht]; exact hP, va_K.moved hW.alike hK, hD⟩, hS.F ht⟩) hS.2.2 dL_line_11
set_option maxHeartbeats 4000000 in
set_option maxRecDepth 100000 in
theorem c_L_clear_t1 (l : Launch) (dC : Nat → ClassId) (dI : Nat → Nat → Nat) (cD cZ cI cL : ClassId) (h pf f0 f1 f2 f3 po o0 o1 o2 o3 : Nat) (NF : Nat → UInt64) (GF TF OF : Nat → Int32) (NO : Nat → UInt64) (GO TO OO : Nat → Int32) (nn : Nat) (fb : Bool) (ox : Nat) (F : Nat → Int64) (sz : Nat) (hst : l.stackTraces = false) (ev bv : Int32) (hbad : vB ev nn = false) (hne : ¬ ev = (-1)) : Met l yL_clear wsL_clear ({ frames := 9, cells := 1, slots := 6, locals := 147 }) (va_Pc [.ref h, .int (nI (Bool.toNat (fb))), .int (ev), .int (bv), .ref ox] (fun U => U.heap.size = sz ∧ okLX dC dI cD cZ cI cL (wL cD cZ cI cL h pf f0 f1 f2 f3 po o0 o1 o2 o3 NF GF TF OF NO GO TO OO nn fb ox F) U U.heap ∧ va_D (fun _ => True) (wL cD cZ cI cL h pf f0 f1 f2 f3 po o0 o1 o2 o3 NF GF TF OF NO GO TO OO nn fb ox F))) (va_Qi (fun (r : Int32) (_ : Unit) => r = nI 1) (fun _ t => atL dC dI cD cZ cI cL (va_A (wL cD cZ cI cL h pf f0 f1 f2 f3 po o0 o1 o2 o3 NF GF TF OF NO GO TO OO nn fb ox F) sz) (wL cD cZ cI cL h pf f0 f1 f2 f3 po o0 o1 o2 o3 NF GF TF OF NO GO TO OO nn fb ox F) t) (va_A (wL cD cZ cI cL h pf f0 f1 f2 f3 po o0 o1 o2 o3 NF GF TF OF NO GO TO OO nn fb ox F) sz)) 1 6 (va_A (wL cD cZ cI cL h pf f0 f1 f2 f3 po o0 o1 o2 o3 NF GF TF OF NO GO TO OO nn fb ox F) sz) := by
  refine va_MetW (cc := cL_clear) (maxL := 6) (ret := (some .int)) (hh := [(0, 19, 22, 19)]) (by decide) rfl ?_
  intro p e s m args below meth c s₁ B hml hv
  obtain ⟨rfl, hsz, hO, hD0⟩ := hv
  obtain ⟨hP, hK, hE, hZ⟩ := id hO
  have hx := B.exec
  have hb := B.bytes
  have hr := B.returns
  have hts := atoms_spec (ws := wsL_clear) B.pre
  have hown : s.vm.findClass RL = some m.cls := findClass_of_methodNamed B.named
  have hlocks := B.notSynchronized
  have htb := vx_table (x := yL_clear) B (hts _ List.mem_cons_self)
  subst hsz
  have hD := hD0.self (sz := s.heap.size)
  generalize hAe : va_A (wL cD cZ cI cL h pf f0 f1 f2 f3 po o0 o1 o2 o3 NF GF TF OF NO GO TO OO nn fb ox F) s.heap.size = A at hD ⊢
  have hA : ∀ q : Nat, s.heap.size ≤ q → A q := fun q h => by rw [← hAe]; exact Or.inr h
  have hS : va_S A s.heap s.heap [] := va_S.rf
  have hP : va_P (dC, dI) vwCl [(h, .inr (1, [.ref (cond fb pf po), .ref (cond fb po pf), .int (nI (nn))])), (pf, .inr (0, [.ref f0, .ref f1, .ref f2, .ref f3])), (f0, .inl (cD, 35, .inr (.inr (.inr (.inl (NF)))))), (f1, .inl (cZ, 35, .inl (GF))), (f2, .inl (cI, 30, .inl (TF))), (f3, .inl (cI, 6, .inl (OF))), (po, .inr (0, [.ref o0, .ref o1, .ref o2, .ref o3])), (o0, .inl (cD, 35, .inr (.inr (.inr (.inl (NO)))))), (o1, .inl (cZ, 35, .inl (GO))), (o2, .inl (cI, 30, .inl (TO))), (o3, .inl (cI, 6, .inl (OO))), (ox, .inl (cL, 1, .inr (.inl (F))))] s.heap := hP
  have hD : va_D A [(h, .inr (1, [.ref (cond fb pf po), .ref (cond fb po pf), .int (nI (nn))])), (pf, .inr (0, [.ref f0, .ref f1, .ref f2, .ref f3])), (f0, .inl (cD, 35, .inr (.inr (.inr (.inl (NF)))))), (f1, .inl (cZ, 35, .inl (GF))), (f2, .inl (cI, 30, .inl (TF))), (f3, .inl (cI, 6, .inl (OF))), (po, .inr (0, [.ref o0, .ref o1, .ref o2, .ref o3])), (o0, .inl (cD, 35, .inr (.inr (.inr (.inl (NO)))))), (o1, .inl (cZ, 35, .inl (GO))), (o2, .inl (cI, 30, .inl (TO))), (o3, .inl (cI, 6, .inl (OO))), (ox, .inl (cL, 1, .inr (.inl (F))))] := hD
  have hl := lv_entry ([.ref h, .int (nI (Bool.toNat (fb))), .int (ev), .int (bv), .ref ox]) (n := 6) (Nat.le_of_ble_eq_true rfl)
  rw [lg_entry_eq]
  generalize (lg_sl ([.ref h, .int (nI (Bool.toNat (fb))), .int (ev), .int (bv), .ref ox]) ++ List.replicate (6 - (lg_sl ([.ref h, .int (nI (Bool.toNat (fb))), .int (ev), .int (bv), .ref ox])).length) Slot.unset).toArray = ls at hl ⊢
  have hl : lv_has ls 6 [(0, .ref h), (1, .int (nI (Bool.toNat (fb)))), (2, .int (ev)), (3, .int (bv)), (4, .ref ox)] := hl
  refine lv_aload hx hb dL_clear_0 (lv_at hl 4 rfl) ?_
  refine lv_iconst (v := nI 0) hx hb dL_clear_2 (by decide) ?_
  refine lv_aload_n hx hb dL_clear_3 rfl (lv_at hl 0 rfl) ?_
  refine lv_iload_n hx hb dL_clear_4 rfl (lv_at hl 1 rfl) ?_
  refine lv_iload_n hx hb dL_clear_5 rfl (lv_at hl 2 rfl) ?_
  refine lv_iload_n hx hb dL_clear_6 rfl (lv_at hl 3 rfl) ?_
  refine vx_calli (vx_runV (As := [.int (nI (Bool.toNat (fb))), .int (ev), .int (bv)]) (rest := [.int (nI (0)), .ref ox]) ⟨hx, hb, hml, hown, hts⟩ (t_X1_clear_t1 l dC dI cD cZ cI h pf f0 f1 f2 f3 po o0 o1 o2 o3 NF GF TF OF NO GO TO OO nn fb hst ev bv hbad hne) (cwV 3 hts gL_clear_X1_clear rfl rfl rfl (by decide +kernel) ⟨Nat.le_of_ble_eq_true rfl, Nat.le_of_ble_eq_true rfl⟩) (okJX_pre ⟨hP.sub (ws' := [(h, .inr (1, [.ref (cond fb pf po), .ref (cond fb po pf), .int (nI (nn))])), (pf, .inr (0, [.ref f0, .ref f1, .ref f2, .ref f3])), (f0, .inl (cD, 35, .inr (.inr (.inr (.inl (NF)))))), (f1, .inl (cZ, 35, .inl (GF))), (f2, .inl (cI, 30, .inl (TF))), (f3, .inl (cI, 6, .inl (OF))), (po, .inr (0, [.ref o0, .ref o1, .ref o2, .ref o3])), (o0, .inl (cD, 35, .inr (.inr (.inr (.inl (NO)))))), (o1, .inl (cZ, 35, .inl (GO))), (o2, .inl (cI, 30, .inl (TO))), (o3, .inl (cI, 6, .inl (OO)))]) [0, 1, 2, 3, 4, 5, 6, 7, 8, 9, 10] rfl, hK.sub [0, 1, 2] rfl, hE⟩ hZ) rfl rfl hl.1 rfl (lv_room (Nat.le_of_ble_eq_true rfl)) dL_clear_7 ⟨Nat.le_of_ble_eq_true rfl, Nat.le_of_ble_eq_true rfl⟩) hS (fun q _ h => h.elim) (fun q h => h.elim) (fun q _ h => h.elim) (fun E ce q9 u t H1 locs ht hvm hw hB hz1 hk1 hS hce hcv hcl => ?_) (fun r u t H1 locs1 ht hvm hw hB hz1 hk1 hS1 => hw.elim)
  have hB9 : E = nsX := hB
  subst hB9
  have hP := hP.kept (fun k q hk => hk1 q.1 ((hP k q hk).lt) (fun z => z))
  generalize H1 = H at hP hS hce ⊢
  refine vx_catch (name := nsX) hown [] ⟨0, 19, 22, 19⟩ [] htb (fun z hz => absurd hz List.not_mem_nil) (by decide) (by decide) (hts (.classLink RL 19 nsX) (by decide +kernel)) hE.cN hce hcv hcl ?_
  refine W.widen (k := 1) (n := 6) (by omega) (by omega) ?_
  have hP : va_P (dC, dI) vwCl [(h, .inr (1, [.ref (cond fb pf po), .ref (cond fb po pf), .int (nI (nn))])), (pf, .inr (0, [.ref f0, .ref f1, .ref f2, .ref f3])), (f0, .inl (cD, 35, .inr (.inr (.inr (.inl (NF)))))), (f1, .inl (cZ, 35, .inl (GF))), (f2, .inl (cI, 30, .inl (TF))), (f3, .inl (cI, 6, .inl (OF))), (po, .inr (0, [.ref o0, .ref o1, .ref o2, .ref o3])), (o0, .inl (cD, 35, .inr (.inr (.inr (.inl (NO)))))), (o1, .inl (cZ, 35, .inl (GO))), (o2, .inl (cI, 30, .inl (TO))), (o3, .inl (cI, 6, .inl (OO))), (ox, .inl (cL, 1, .inr (.inl (F))))] H := hP
  refine lv_astore (lv' := [(5, .ref q9), (0, .ref h), (1, .int (nI (Bool.toNat (fb)))), (2, .int (ev)), (3, .int (bv)), (4, .ref ox)]) hx hb dL_clear_22 hl (by decide) rfl (fun ls hl => ?_)
  refine lv_iconst (v := nI 1) hx hb dL_clear_24 (by decide) ?_
  exact W.iret (v := nI 1) hx hb hr (fun t ht hW => ⟨⟨_, (), rfl, rfl, by rw [ht]; exact hP, va_K.moved hW.alike hK, hD⟩, hS.F ht⟩) hS.2.2 dL_clear_25
set_option maxHeartbeats 4000000 in
set_option maxRecDepth 100000 in
theorem c_L_clear_t2 (l : Launch) (dC : Nat → ClassId) (dI : Nat → Nat → Nat) (cD cZ cI cL : ClassId) (h pf f0 f1 f2 f3 po o0 o1 o2 o3 : Nat) (NF : Nat → UInt64) (GF TF OF : Nat → Int32) (NO : Nat → UInt64) (GO TO OO : Nat → Int32) (nn : Nat) (fb : Bool) (ox : Nat) (F : Nat → Int64) (sz : Nat) (hst : l.stackTraces = false) (hnn : nn ≤ 6) (en : Nat) (bv : Int32) (hen : en < nn) (hbad : vB bv 5 = false) : Met l yL_clear wsL_clear ({ frames := 8, cells := 1, slots := 6, locals := 125 }) (va_Pc [.ref h, .int (nI (Bool.toNat (fb))), .int (nI (en)), .int (bv), .ref ox] (fun U => U.heap.size = sz ∧ okLX dC dI cD cZ cI cL (wL cD cZ cI cL h pf f0 f1 f2 f3 po o0 o1 o2 o3 NF GF TF OF NO GO TO OO nn fb ox F) U U.heap ∧ va_D (fun _ => True) (wL cD cZ cI cL h pf f0 f1 f2 f3 po o0 o1 o2 o3 NF GF TF OF NO GO TO OO nn fb ox F))) (va_Qi (fun (r : Int32) (_ : Unit) => r = nI 1) (fun _ t => atL dC dI cD cZ cI cL (va_A (wL cD cZ cI cL h pf f0 f1 f2 f3 po o0 o1 o2 o3 NF GF TF OF NO GO TO OO nn fb ox F) sz) (wL cD cZ cI cL h pf f0 f1 f2 f3 po o0 o1 o2 o3 NF GF TF OF NO GO TO OO nn fb ox F) t) (va_A (wL cD cZ cI cL h pf f0 f1 f2 f3 po o0 o1 o2 o3 NF GF TF OF NO GO TO OO nn fb ox F) sz)) 1 6 (va_A (wL cD cZ cI cL h pf f0 f1 f2 f3 po o0 o1 o2 o3 NF GF TF OF NO GO TO OO nn fb ox F) sz) := by
  refine va_MetW (cc := cL_clear) (maxL := 6) (ret := (some .int)) (hh := [(0, 19, 22, 19)]) (by decide) rfl ?_
  intro p e s m args below meth c s₁ B hml hv
  obtain ⟨rfl, hsz, hO, hD0⟩ := hv
  obtain ⟨hP, hK, hE, hZ⟩ := id hO
  have hx := B.exec
  have hb := B.bytes
  have hr := B.returns
  have hts := atoms_spec (ws := wsL_clear) B.pre
  have hown : s.vm.findClass RL = some m.cls := findClass_of_methodNamed B.named
  have hlocks := B.notSynchronized
  have htb := vx_table (x := yL_clear) B (hts _ List.mem_cons_self)
  subst hsz
  have hD := hD0.self (sz := s.heap.size)
  generalize hAe : va_A (wL cD cZ cI cL h pf f0 f1 f2 f3 po o0 o1 o2 o3 NF GF TF OF NO GO TO OO nn fb ox F) s.heap.size = A at hD ⊢
  have hA : ∀ q : Nat, s.heap.size ≤ q → A q := fun q h => by rw [← hAe]; exact Or.inr h
  have hS : va_S A s.heap s.heap [] := va_S.rf
  have hP : va_P (dC, dI) vwCl [(h, .inr (1, [.ref (cond fb pf po), .ref (cond fb po pf), .int (nI (nn))])), (pf, .inr (0, [.ref f0, .ref f1, .ref f2, .ref f3])), (f0, .inl (cD, 35, .inr (.inr (.inr (.inl (NF)))))), (f1, .inl (cZ, 35, .inl (GF))), (f2, .inl (cI, 30, .inl (TF))), (f3, .inl (cI, 6, .inl (OF))), (po, .inr (0, [.ref o0, .ref o1, .ref o2, .ref o3])), (o0, .inl (cD, 35, .inr (.inr (.inr (.inl (NO)))))), (o1, .inl (cZ, 35, .inl (GO))), (o2, .inl (cI, 30, .inl (TO))), (o3, .inl (cI, 6, .inl (OO))), (ox, .inl (cL, 1, .inr (.inl (F))))] s.heap := hP
  have hD : va_D A [(h, .inr (1, [.ref (cond fb pf po), .ref (cond fb po pf), .int (nI (nn))])), (pf, .inr (0, [.ref f0, .ref f1, .ref f2, .ref f3])), (f0, .inl (cD, 35, .inr (.inr (.inr (.inl (NF)))))), (f1, .inl (cZ, 35, .inl (GF))), (f2, .inl (cI, 30, .inl (TF))), (f3, .inl (cI, 6, .inl (OF))), (po, .inr (0, [.ref o0, .ref o1, .ref o2, .ref o3])), (o0, .inl (cD, 35, .inr (.inr (.inr (.inl (NO)))))), (o1, .inl (cZ, 35, .inl (GO))), (o2, .inl (cI, 30, .inl (TO))), (o3, .inl (cI, 6, .inl (OO))), (ox, .inl (cL, 1, .inr (.inl (F))))] := hD
  have hl := lv_entry ([.ref h, .int (nI (Bool.toNat (fb))), .int (nI (en)), .int (bv), .ref ox]) (n := 6) (Nat.le_of_ble_eq_true rfl)
  rw [lg_entry_eq]
  generalize (lg_sl ([.ref h, .int (nI (Bool.toNat (fb))), .int (nI (en)), .int (bv), .ref ox]) ++ List.replicate (6 - (lg_sl ([.ref h, .int (nI (Bool.toNat (fb))), .int (nI (en)), .int (bv), .ref ox])).length) Slot.unset).toArray = ls at hl ⊢
  have hl : lv_has ls 6 [(0, .ref h), (1, .int (nI (Bool.toNat (fb)))), (2, .int (nI (en))), (3, .int (bv)), (4, .ref ox)] := hl
  refine lv_aload hx hb dL_clear_0 (lv_at hl 4 rfl) ?_
  refine lv_iconst (v := nI 0) hx hb dL_clear_2 (by decide) ?_
  refine lv_aload_n hx hb dL_clear_3 rfl (lv_at hl 0 rfl) ?_
  refine lv_iload_n hx hb dL_clear_4 rfl (lv_at hl 1 rfl) ?_
  refine lv_iload_n hx hb dL_clear_5 rfl (lv_at hl 2 rfl) ?_
  refine lv_iload_n hx hb dL_clear_6 rfl (lv_at hl 3 rfl) ?_
  refine vx_calli (vx_runV (As := [.int (nI (Bool.toNat (fb))), .int (nI (en)), .int (bv)]) (rest := [.int (nI (0)), .ref ox]) ⟨hx, hb, hml, hown, hts⟩ (t_X1_clear_t2 l dC dI cD cZ cI h pf f0 f1 f2 f3 po o0 o1 o2 o3 NF GF TF OF NO GO TO OO nn fb hst hnn en bv hen hbad) (cwV 3 hts gL_clear_X1_clear rfl rfl rfl (by decide +kernel) ⟨Nat.le_of_ble_eq_true rfl, Nat.le_of_ble_eq_true rfl⟩) (okJX_pre ⟨hP.sub (ws' := [(h, .inr (1, [.ref (cond fb pf po), .ref (cond fb po pf), .int (nI (nn))])), (pf, .inr (0, [.ref f0, .ref f1, .ref f2, .ref f3])), (f0, .inl (cD, 35, .inr (.inr (.inr (.inl (NF)))))), (f1, .inl (cZ, 35, .inl (GF))), (f2, .inl (cI, 30, .inl (TF))), (f3, .inl (cI, 6, .inl (OF))), (po, .inr (0, [.ref o0, .ref o1, .ref o2, .ref o3])), (o0, .inl (cD, 35, .inr (.inr (.inr (.inl (NO)))))), (o1, .inl (cZ, 35, .inl (GO))), (o2, .inl (cI, 30, .inl (TO))), (o3, .inl (cI, 6, .inl (OO)))]) [0, 1, 2, 3, 4, 5, 6, 7, 8, 9, 10] rfl, hK.sub [0, 1, 2] rfl, hE⟩ hZ) rfl rfl hl.1 rfl (lv_room (Nat.le_of_ble_eq_true rfl)) dL_clear_7 ⟨Nat.le_of_ble_eq_true rfl, Nat.le_of_ble_eq_true rfl⟩) hS (fun q _ h => h.elim) (fun q h => h.elim) (fun q _ h => h.elim) (fun E ce q9 u t H1 locs ht hvm hw hB hz1 hk1 hS hce hcv hcl => ?_) (fun r u t H1 locs1 ht hvm hw hB hz1 hk1 hS1 => hw.elim)
  have hB9 : E = nsX := hB
  subst hB9
  have hP := hP.kept (fun k q hk => hk1 q.1 ((hP k q hk).lt) (fun z => z))
  generalize H1 = H at hP hS hce ⊢
  refine vx_catch (name := nsX) hown [] ⟨0, 19, 22, 19⟩ [] htb (fun z hz => absurd hz List.not_mem_nil) (by decide) (by decide) (hts (.classLink RL 19 nsX) (by decide +kernel)) hE.cN hce hcv hcl ?_
  refine W.widen (k := 1) (n := 6) (by omega) (by omega) ?_
  have hP : va_P (dC, dI) vwCl [(h, .inr (1, [.ref (cond fb pf po), .ref (cond fb po pf), .int (nI (nn))])), (pf, .inr (0, [.ref f0, .ref f1, .ref f2, .ref f3])), (f0, .inl (cD, 35, .inr (.inr (.inr (.inl (NF)))))), (f1, .inl (cZ, 35, .inl (GF))), (f2, .inl (cI, 30, .inl (TF))), (f3, .inl (cI, 6, .inl (OF))), (po, .inr (0, [.ref o0, .ref o1, .ref o2, .ref o3])), (o0, .inl (cD, 35, .inr (.inr (.inr (.inl (NO)))))), (o1, .inl (cZ, 35, .inl (GO))), (o2, .inl (cI, 30, .inl (TO))), (o3, .inl (cI, 6, .inl (OO))), (ox, .inl (cL, 1, .inr (.inl (F))))] H := hP
  refine lv_astore (lv' := [(5, .ref q9), (0, .ref h), (1, .int (nI (Bool.toNat (fb)))), (2, .int (nI (en))), (3, .int (bv)), (4, .ref ox)]) hx hb dL_clear_22 hl (by decide) rfl (fun ls hl => ?_)
  refine lv_iconst (v := nI 1) hx hb dL_clear_24 (by decide) ?_
  exact W.iret (v := nI 1) hx hb hr (fun t ht hW => ⟨⟨_, (), rfl, rfl, by rw [ht]; exact hP, va_K.moved hW.alike hK, hD⟩, hS.F ht⟩) hS.2.2 dL_clear_25
