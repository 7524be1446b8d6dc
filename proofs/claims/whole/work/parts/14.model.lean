set_option maxHeartbeats 4000000 in
set_option maxRecDepth 100000 in
theorem c_X2_in (l : Launch) (xv : Int32) (hi : Nat) : Met l yX2_in wsX2_in ({ frames := 0, cells := 0, slots := 0, locals := 0 }) (va_Pc [.int (xv), .int (nI (hi))] (fun _ => True)) (vp_Si (fun r => r = nI (Bool.toNat (vB xv hi)))) 0 0 (fun _ => False) := by
  refine Met.ofW (cc := cX2_in) (maxL := 2) (ret := (some .boolean)) (by decide) rfl ?_
  intro p e s m args below meth c s₁ B hml hv
  obtain ⟨rfl, -⟩ := hv
  have hx := B.exec
  have hb := B.bytes
  have hr := B.returns
  have hts := atoms_spec (ws := wsX2_in) B.pre
  have hown : s.vm.findClass RX2 = some m.cls := findClass_of_methodNamed B.named
  have hlocks := B.notSynchronized
  have hl := lv_entry ([.int (xv), .int (nI (hi))]) (n := 2) (Nat.le_of_ble_eq_true rfl)
  rw [lg_entry_eq]
  generalize (lg_sl ([.int (xv), .int (nI (hi))]) ++ List.replicate (2 - (lg_sl ([.int (xv), .int (nI (hi))])).length) Slot.unset).toArray = ls at hl ⊢
  have hl : lv_has ls 2 [(0, .int (xv)), (1, .int (nI (hi)))] := hl
  refine lv_iload_n hx hb dX2_in_0 rfl (lv_at hl 0 rfl) ?_
  refine lv_if_lt (tgt := 13) hx hb dX2_in_1 (by decide) (fun c1 => ?_) (fun c1 => ?_)
  · refine lv_iconst (v := nI 0) hx hb dX2_in_13 (by decide) ?_
    exact W.zret (v := nI (Bool.toNat false)) (ty := .boolean) hx hb hr (xb_nar false) (fun t ht hW => ⟨_, rfl, by simp [vB, c1], ht⟩) (fun q hq => absurd hq List.not_mem_nil) dX2_in_14
  · refine lv_iload_n hx hb dX2_in_4 rfl (lv_at hl 0 rfl) ?_
    refine lv_iload_n hx hb dX2_in_5 rfl (lv_at hl 1 rfl) ?_
    refine lv_icmp_ge (tgt := 13) hx hb dX2_in_6 (by decide) (fun c6 => ?_) (fun c6 => ?_)
    · refine lv_iconst (v := nI 0) hx hb dX2_in_13 (by decide) ?_
      exact W.zret (v := nI (Bool.toNat false)) (ty := .boolean) hx hb hr (xb_nar false) (fun t ht hW => ⟨_, rfl, by simp [vB, c1, c6], ht⟩) (fun q hq => absurd hq List.not_mem_nil) dX2_in_14
    · refine lv_iconst (v := nI 1) hx hb dX2_in_9 (by decide) ?_
      refine lv_goto (tgt := 14) hx hb dX2_in_10 (by decide) ?_
      exact W.zret (v := nI (Bool.toNat true)) (ty := .boolean) hx hb hr (xb_nar true) (fun t ht hW => ⟨_, rfl, by simp [vB, c1, c6], ht⟩) (fun q hq => absurd hq List.not_mem_nil) dX2_in_14
set_option maxHeartbeats 4000000 in
set_option maxRecDepth 100000 in
theorem c_X2_cell (l : Launch) (fb : Bool) (en bn : Nat) : Met l yX2_cell wsX2_cell ({ frames := 0, cells := 0, slots := 0, locals := 0 }) (va_Pc [.int (nI (Bool.toNat (fb))), .int (nI (en)), .int (nI (bn))] (fun _ => True)) (vp_Si (fun r => r = nI (mc fb en bn))) 0 0 (fun _ => False) := by
  refine Met.ofW (cc := cX2_cell) (maxL := 3) (ret := (some .int)) (by decide) rfl ?_
  intro p e s m args below meth c s₁ B hml hv
  obtain ⟨rfl, -⟩ := hv
  have hx := B.exec
  have hb := B.bytes
  have hr := B.returns
  have hts := atoms_spec (ws := wsX2_cell) B.pre
  have hown : s.vm.findClass RX2 = some m.cls := findClass_of_methodNamed B.named
  have hlocks := B.notSynchronized
  have hl := lv_entry ([.int (nI (Bool.toNat (fb))), .int (nI (en)), .int (nI (bn))]) (n := 3) (Nat.le_of_ble_eq_true rfl)
  rw [lg_entry_eq]
  generalize (lg_sl ([.int (nI (Bool.toNat (fb))), .int (nI (en)), .int (nI (bn))]) ++ List.replicate (3 - (lg_sl ([.int (nI (Bool.toNat (fb))), .int (nI (en)), .int (nI (bn))])).length) Slot.unset).toArray = ls at hl ⊢
  have hl : lv_has ls 3 [(0, .int (nI (Bool.toNat (fb)))), (1, .int (nI (en))), (2, .int (nI (bn)))] := hl
  refine lv_iload_n hx hb dX2_cell_0 rfl (lv_at hl 0 rfl) ?_
  refine xb_if_eq (tgt := 8) hx hb dX2_cell_1 (by decide) (fun c1 => ?_) (fun c1 => ?_)
  · refine lv_bipush (v := nI 30) hx hb dX2_cell_8 (by decide) ?_
    refine lv_iconst (v := nI 5) hx hb dX2_cell_10 (by decide) ?_
    refine lv_iload_n hx hb dX2_cell_11 rfl (lv_at hl 1 rfl) ?_
    refine xn_imul hx hb dX2_cell_12 ?_
    refine xn_iadd hx hb dX2_cell_13 ?_
    refine lv_iload_n hx hb dX2_cell_14 rfl (lv_at hl 2 rfl) ?_
    refine xn_iadd hx hb dX2_cell_15 ?_
    exact W.iret (v := nI ((30 + (5 * en)) + bn)) hx hb hr (fun t ht hW => ⟨_, rfl, by simp [mc, c1], ht⟩) (fun q hq => absurd hq List.not_mem_nil) dX2_cell_16
  · refine lv_iconst (v := nI 0) hx hb dX2_cell_4 (by decide) ?_
    refine lv_goto (tgt := 10) hx hb dX2_cell_5 (by decide) ?_
    refine lv_iconst (v := nI 5) hx hb dX2_cell_10 (by decide) ?_
    refine lv_iload_n hx hb dX2_cell_11 rfl (lv_at hl 1 rfl) ?_
    refine xn_imul hx hb dX2_cell_12 ?_
    refine xn_iadd hx hb dX2_cell_13 ?_
    refine lv_iload_n hx hb dX2_cell_14 rfl (lv_at hl 2 rfl) ?_
    refine xn_iadd hx hb dX2_cell_15 ?_
    exact W.iret (v := nI ((0 + (5 * en)) + bn)) hx hb hr (fun t ht hW => ⟨_, rfl, by simp [mc, c1], ht⟩) (fun q hq => absurd hq List.not_mem_nil) dX2_cell_16
set_option maxHeartbeats 4000000 in
set_option maxRecDepth 100000 in
theorem c_X2_limit (l : Launch) (fb : Bool) (bn : Nat) : Met l yX2_limit wsX2_limit ({ frames := 0, cells := 0, slots := 0, locals := 0 }) (va_Pc [.int (nI (Bool.toNat (fb))), .int (nI (bn))] (fun _ => True)) (vp_Si (fun r => r = nI (ml fb bn))) 0 0 (fun _ => False) := by
  refine Met.ofW (cc := cX2_limit) (maxL := 2) (ret := (some .int)) (by decide) rfl ?_
  intro p e s m args below meth c s₁ B hml hv
  obtain ⟨rfl, -⟩ := hv
  have hx := B.exec
  have hb := B.bytes
  have hr := B.returns
  have hts := atoms_spec (ws := wsX2_limit) B.pre
  have hown : s.vm.findClass RX2 = some m.cls := findClass_of_methodNamed B.named
  have hlocks := B.notSynchronized
  have hl := lv_entry ([.int (nI (Bool.toNat (fb))), .int (nI (bn))]) (n := 2) (Nat.le_of_ble_eq_true rfl)
  rw [lg_entry_eq]
  generalize (lg_sl ([.int (nI (Bool.toNat (fb))), .int (nI (bn))]) ++ List.replicate (2 - (lg_sl ([.int (nI (Bool.toNat (fb))), .int (nI (bn))])).length) Slot.unset).toArray = ls at hl ⊢
  have hl : lv_has ls 2 [(0, .int (nI (Bool.toNat (fb)))), (1, .int (nI (bn)))] := hl
  refine lv_bipush (v := nI 60) hx hb dX2_limit_0 (by decide) ?_
  refine lv_iload_n hx hb dX2_limit_2 rfl (lv_at hl 0 rfl) ?_
  refine xb_if_eq (tgt := 10) hx hb dX2_limit_3 (by decide) (fun c3 => ?_) (fun c3 => ?_)
  · refine lv_iconst (v := nI 5) hx hb dX2_limit_10 (by decide) ?_
    refine xn_iadd hx hb dX2_limit_11 ?_
    refine lv_iload_n hx hb dX2_limit_12 rfl (lv_at hl 1 rfl) ?_
    refine xn_iadd hx hb dX2_limit_13 ?_
    exact W.iret (v := nI ((60 + 5) + bn)) hx hb hr (fun t ht hW => ⟨_, rfl, by simp [ml, c3], ht⟩) (fun q hq => absurd hq List.not_mem_nil) dX2_limit_14
  · refine lv_iconst (v := nI 0) hx hb dX2_limit_6 (by decide) ?_
    refine lv_goto (tgt := 11) hx hb dX2_limit_7 (by decide) ?_
    refine xn_iadd hx hb dX2_limit_11 ?_
    refine lv_iload_n hx hb dX2_limit_12 rfl (lv_at hl 1 rfl) ?_
    refine xn_iadd hx hb dX2_limit_13 ?_
    exact W.iret (v := nI ((60 + 0) + bn)) hx hb hr (fun t ht hW => ⟨_, rfl, by simp [ml, c3], ht⟩) (fun q hq => absurd hq List.not_mem_nil) dX2_limit_14
set_option maxHeartbeats 4000000 in
set_option maxRecDepth 100000 in
theorem c_X2_compare (l : Launch) (dC : Nat → ClassId) (dI : Nat → Nat → Nat) (cD cZ cI cL : ClassId) (h b0 b1 b2 b3 : Nat) (N : Nat → UInt64) (I T R : Nat → Int32) (nn : Nat) (th : Int32) (i j : Nat) (hi : i < 70) (hj : j < 70) (hq : ∀ x y, FP.dcmp (N x) (N y) ≠ none) : Met l yX2_compare wsX2_compare ({ frames := 0, cells := 0, slots := 0, locals := 0 }) (va_Pc [.ref h, .int (nI (i)), .int (nI (j))] (fun U => okM dC dI cD cZ cI cL h b0 b1 b2 b3 N I T R nn th U U.heap)) (vp_Si (fun r => r = nI (rl I N i j))) 0 0 (fun _ => False) := by
  refine Met.ofW (cc := cX2_compare) (maxL := 3) (ret := (some .int)) (by decide) rfl ?_
  intro p e s m args below meth c s₁ B hml hv
  obtain ⟨rfl, hO⟩ := hv
  obtain ⟨hP, hK⟩ := id hO
  have hP : va_P (dC, dI) vwCl [(h, .inr (2, [.ref b0, .ref b1, .ref b2, .ref b3, .int (nI (nn)), .int (th)])), (b0, .inl (cD, 70, .inr (.inr (.inr (.inl (N)))))), (b1, .inl (cZ, 70, .inl (I))), (b2, .inl (cI, 60, .inl (T))), (b3, .inl (cI, 6, .inl (R)))] s.heap := hP
  have hx := B.exec
  have hb := B.bytes
  have hr := B.returns
  have hts := atoms_spec (ws := wsX2_compare) B.pre
  have hown : s.vm.findClass RX2 = some m.cls := findClass_of_methodNamed B.named
  have hlocks := B.notSynchronized
  have hin2 : ∀ w ∈ wsX20, w ∈ wsX2_compare := (fun w h => List.mem_cons_of_mem _ (List.mem_append_right _ h))
  have fl7 := hts (.fieldLink RX2 7 "JuryTableModel" "number" "[D") (by decide +kernel)
  have fl13 := hts (.fieldLink RX2 13 "JuryTableModel" "isThere" "[Z") (by decide +kernel)
  have hl := lv_entry ([.ref h, .int (nI (i)), .int (nI (j))]) (n := 3) (Nat.le_of_ble_eq_true rfl)
  rw [lg_entry_eq]
  generalize (lg_sl ([.ref h, .int (nI (i)), .int (nI (j))]) ++ List.replicate (3 - (lg_sl ([.ref h, .int (nI (i)), .int (nI (j))])).length) Slot.unset).toArray = ls at hl ⊢
  have hl : lv_has ls 3 [(0, .ref h), (1, .int (nI (i))), (2, .int (nI (j)))] := hl
  refine lv_aload_n hx hb dX2_compare_0 rfl (lv_at hl 0 rfl) ?_
  refine va_get (D := (dC, dI)) (ci := 2) (v := .ref b1) (C := RX2) (T := TX2) (N := 6) hx hb hts hin2 hown hK hP 0 rfl rfl 1 (by decide) fl13 (fun _ h9 => h9) rfl dX2_compare_1 ?_
  refine lv_iload_n hx hb dX2_compare_4 rfl (lv_at hl 1 rfl) ?_
  refine xn_zald hx hb hK hP 2 1 rfl rfl (n := 70) (j := i) (by omega) (by decide) dX2_compare_5 ?_
  refine lv_if_eq (tgt := 18) hx hb dX2_compare_6 (by decide) (fun c6 => ?_) (fun c6 => ?_)
  · refine lv_iconst (v := nI 3) hx hb dX2_compare_18 (by decide) ?_
    exact W.iret (v := nI 3) hx hb hr (fun t ht hW => ⟨_, rfl, by simp [rl, c6], ht⟩) (fun q hq => absurd hq List.not_mem_nil) dX2_compare_19
  · refine lv_aload_n hx hb dX2_compare_9 rfl (lv_at hl 0 rfl) ?_
    refine va_get (D := (dC, dI)) (ci := 2) (v := .ref b1) (C := RX2) (T := TX2) (N := 6) hx hb hts hin2 hown hK hP 0 rfl rfl 1 (by decide) fl13 (fun _ h9 => h9) rfl dX2_compare_10 ?_
    refine lv_iload_n hx hb dX2_compare_13 rfl (lv_at hl 2 rfl) ?_
    refine xn_zald hx hb hK hP 2 1 rfl rfl (n := 70) (j := j) (by omega) (by decide) dX2_compare_14 ?_
    refine lv_if_ne (tgt := 20) hx hb dX2_compare_15 (by decide) (fun c15 => ?_) (fun c15 => ?_)
    · refine lv_aload_n hx hb dX2_compare_20 rfl (lv_at hl 0 rfl) ?_
      refine va_get (D := (dC, dI)) (ci := 2) (v := .ref b0) (C := RX2) (T := TX2) (N := 6) hx hb hts hin2 hown hK hP 0 rfl rfl 0 (by decide) fl7 (fun _ h9 => h9) rfl dX2_compare_21 ?_
      refine lv_iload_n hx hb dX2_compare_24 rfl (lv_at hl 1 rfl) ?_
      refine xn_dald hx hb hK hP 1 0 rfl rfl (n := 70) (j := i) (by omega) (by decide) dX2_compare_25 ?_
      refine lv_aload_n hx hb dX2_compare_26 rfl (lv_at hl 0 rfl) ?_
      refine va_get (D := (dC, dI)) (ci := 2) (v := .ref b0) (C := RX2) (T := TX2) (N := 6) hx hb hts hin2 hown hK hP 0 rfl rfl 0 (by decide) fl7 (fun _ h9 => h9) rfl dX2_compare_27 ?_
      refine lv_iload_n hx hb dX2_compare_30 rfl (lv_at hl 2 rfl) ?_
      refine xn_dald hx hb hK hP 1 0 rfl rfl (n := 70) (j := j) (by omega) (by decide) dX2_compare_31 ?_
      refine xd_ge (tgt := 40) hx hb dX2_compare_32 dX2_compare_33 (by decide) (fun c32 => ?_) (fun c32 => ?_)
      · refine lv_aload_n hx hb dX2_compare_40 rfl (lv_at hl 0 rfl) ?_
        refine va_get (D := (dC, dI)) (ci := 2) (v := .ref b0) (C := RX2) (T := TX2) (N := 6) hx hb hts hin2 hown hK hP 0 rfl rfl 0 (by decide) fl7 (fun _ h9 => h9) rfl dX2_compare_41 ?_
        refine lv_iload_n hx hb dX2_compare_44 rfl (lv_at hl 1 rfl) ?_
        refine xn_dald hx hb hK hP 1 0 rfl rfl (n := 70) (j := i) (by omega) (by decide) dX2_compare_45 ?_
        refine lv_aload_n hx hb dX2_compare_46 rfl (lv_at hl 0 rfl) ?_
        refine va_get (D := (dC, dI)) (ci := 2) (v := .ref b0) (C := RX2) (T := TX2) (N := 6) hx hb hts hin2 hown hK hP 0 rfl rfl 0 (by decide) fl7 (fun _ h9 => h9) rfl dX2_compare_47 ?_
        refine lv_iload_n hx hb dX2_compare_50 rfl (lv_at hl 2 rfl) ?_
        refine xn_dald hx hb hK hP 1 0 rfl rfl (n := 70) (j := j) (by omega) (by decide) dX2_compare_51 ?_
        refine xd_ne (tgt := 60) hx hb dX2_compare_52 dX2_compare_53 (by decide) (fun c52 => ?_) (fun c52 => ?_)
        · refine lv_iconst (v := nI 2) hx hb dX2_compare_60 (by decide) ?_
          have cg := dc_gt (hq _ _) c32 c52
          exact W.iret (v := nI 2) hx hb hr (fun t ht hW => ⟨_, rfl, by simp [rl, c6, c15, cg], ht⟩) (fun q hq => absurd hq List.not_mem_nil) dX2_compare_61
        · refine lv_iconst (v := nI 1) hx hb dX2_compare_56 (by decide) ?_
          refine lv_goto (tgt := 61) hx hb dX2_compare_57 (by decide) ?_
          exact W.iret (v := nI 1) hx hb hr (fun t ht hW => ⟨_, rfl, by simp [rl, c6, c15, c32, c52], ht⟩) (fun q hq => absurd hq List.not_mem_nil) dX2_compare_61
      · refine lv_iconst (v := nI 0) hx hb dX2_compare_36 (by decide) ?_
        refine lv_goto (tgt := 61) hx hb dX2_compare_37 (by decide) ?_
        exact W.iret (v := nI 0) hx hb hr (fun t ht hW => ⟨_, rfl, by simp [rl, c6, c15, c32], ht⟩) (fun q hq => absurd hq List.not_mem_nil) dX2_compare_61
    · refine lv_iconst (v := nI 3) hx hb dX2_compare_18 (by decide) ?_
      exact W.iret (v := nI 3) hx hb hr (fun t ht hW => ⟨_, rfl, by simp [rl, c6, c15], ht⟩) (fun q hq => absurd hq List.not_mem_nil) dX2_compare_19
set_option maxHeartbeats 4000000 in
set_option maxRecDepth 100000 in
theorem c_X2_isSo (l : Launch) (dC : Nat → ClassId) (dI : Nat → Nat → Nat) (cD cZ cI cL : ClassId) (h b0 b1 b2 b3 : Nat) (N : Nat → UInt64) (I T R : Nat → Int32) (nn : Nat) (th : Int32) (fb : Bool) (en bn kn : Nat) (hen : en < 6) (hbn : bn < 5) (hkn : kn < 24) (hq : ∀ x y, FP.dcmp (N x) (N y) ≠ none) : Met l yX2_isSo wsX2_isSo ({ frames := 1, cells := 0, slots := 0, locals := 22 }) (va_Pc [.ref h, .int (nI (Bool.toNat (fb))), .int (nI (en)), .int (nI (bn)), .int (nI (kn))] (fun U => okM dC dI cD cZ cI cL h b0 b1 b2 b3 N I T R nn th U U.heap)) (vp_Si (fun r => r = nI (Bool.toNat (so I N (mc fb en bn) (ml fb bn) kn)))) 0 0 (fun _ => False) := by
  refine Met.ofW (cc := cX2_isSo) (maxL := 11) (ret := (some .boolean)) (by decide) rfl ?_
  intro p e s m args below meth c s₁ B hml hv
  obtain ⟨rfl, hO⟩ := hv
  obtain ⟨hP, hK⟩ := id hO
  have hP : va_P (dC, dI) vwCl [(h, .inr (2, [.ref b0, .ref b1, .ref b2, .ref b3, .int (nI (nn)), .int (th)])), (b0, .inl (cD, 70, .inr (.inr (.inr (.inl (N)))))), (b1, .inl (cZ, 70, .inl (I))), (b2, .inl (cI, 60, .inl (T))), (b3, .inl (cI, 6, .inl (R)))] s.heap := hP
  have hx := B.exec
  have hb := B.bytes
  have hr := B.returns
  have hts := atoms_spec (ws := wsX2_isSo) B.pre
  have hown : s.vm.findClass RX2 = some m.cls := findClass_of_methodNamed B.named
  have hlocks := B.notSynchronized
  have hl := lv_entry ([.ref h, .int (nI (Bool.toNat (fb))), .int (nI (en)), .int (nI (bn)), .int (nI (kn))]) (n := 11) (Nat.le_of_ble_eq_true rfl)
  rw [lg_entry_eq]
  generalize (lg_sl ([.ref h, .int (nI (Bool.toNat (fb))), .int (nI (en)), .int (nI (bn)), .int (nI (kn))]) ++ List.replicate (11 - (lg_sl ([.ref h, .int (nI (Bool.toNat (fb))), .int (nI (en)), .int (nI (bn)), .int (nI (kn))])).length) Slot.unset).toArray = ls at hl ⊢
  have hl : lv_has ls 11 [(0, .ref h), (1, .int (nI (Bool.toNat (fb)))), (2, .int (nI (en))), (3, .int (nI (bn))), (4, .int (nI (kn)))] := hl
  refine W_cut (α := Bool) (P := fun sv ls => lv_has ls 11 [(9, .int (nI (Bool.toNat (sv)))), (4, .int (nI (kn)))] ∧ sv = pw (if 2 ≤ kn / 6 then rl I N (ml fb bn) (mc fb en bn) else rl I N (mc fb en bn) (ml fb bn)) (kn % 6)) (st := fun _ => []) 191 (fun sv ls h9 => ?_) (fun tail => ?_)
  · obtain ⟨hl, htl⟩ := h9
    refine lv_iload hx hb dX2_isSo_191 (lv_at hl 1 rfl) ?_
    refine lv_bipush (v := nI 6) hx hb dX2_isSo_193 (by decide) ?_
    refine xn_idiv hx hb (by omega) (by decide) (by decide) dX2_isSo_195 ?_
    refine lv_iconst (v := nI 1) hx hb dX2_isSo_196 (by decide) ?_
    refine xn_icmp_eq (tgt := 209) hx hb (by omega) (by decide) dX2_isSo_197 (by decide) (fun c197 => ?_) (fun c197 => ?_)
    · refine lv_iconst (v := nI 1) hx hb dX2_isSo_209 (by decide) ?_
      refine lv_goto (tgt := 214) hx hb dX2_isSo_210 (by decide) ?_
      refine lv_istore (lv' := [(10, .int (nI (1))), (9, .int (nI (Bool.toNat (sv)))), (4, .int (nI (kn)))]) hx hb dX2_isSo_214 hl (by decide) rfl (fun ls hl => ?_)
      refine lv_iload hx hb dX2_isSo_216 (lv_at hl 1 rfl) ?_
      refine lv_iload hx hb dX2_isSo_218 (lv_at hl 0 rfl) ?_
      refine xn_icmp_eq (tgt := 227) hx hb (xb_lt _) (by decide) dX2_isSo_220 (by decide) (fun c220 => ?_) (fun c220 => ?_)
      · refine lv_iconst (v := nI 0) hx hb dX2_isSo_227 (by decide) ?_
        exact W.zret (v := nI (Bool.toNat false)) (ty := .boolean) hx hb hr (xb_nar false) (fun t ht hW => ⟨_, rfl, by unfold so; rw [← htl, so_den hkn]; simp [c197, c220] <;> (cases sv <;> first | rfl | exact absurd c220 (by decide)), ht⟩) (fun q hq => absurd hq List.not_mem_nil) dX2_isSo_228
      · refine lv_iconst (v := nI 1) hx hb dX2_isSo_223 (by decide) ?_
        refine lv_goto (tgt := 228) hx hb dX2_isSo_224 (by decide) ?_
        exact W.zret (v := nI (Bool.toNat true)) (ty := .boolean) hx hb hr (xb_nar true) (fun t ht hW => ⟨_, rfl, by unfold so; rw [← htl, so_den hkn]; simp [c197, c220] <;> (cases sv <;> first | rfl | exact absurd c220 (by decide)), ht⟩) (fun q hq => absurd hq List.not_mem_nil) dX2_isSo_228
    · refine lv_iload hx hb dX2_isSo_200 (lv_at hl 1 rfl) ?_
      refine lv_bipush (v := nI 6) hx hb dX2_isSo_202 (by decide) ?_
      refine xn_idiv hx hb (by omega) (by decide) (by decide) dX2_isSo_204 ?_
      refine lv_iconst (v := nI 3) hx hb dX2_isSo_205 (by decide) ?_
      refine jn_icmp_ne hx hb (by omega) (by decide) dX2_isSo_206 dX2_isSo_209 dX2_isSo_210 dX2_isSo_213 ?_
      refine lv_istore (lv' := [(10, .int (nI (Bool.toNat (decide ((kn / 6) = 3))))), (9, .int (nI (Bool.toNat (sv)))), (4, .int (nI (kn)))]) hx hb dX2_isSo_214 hl (by decide) rfl (fun ls hl => ?_)
      refine lv_iload hx hb dX2_isSo_216 (lv_at hl 1 rfl) ?_
      refine lv_iload hx hb dX2_isSo_218 (lv_at hl 0 rfl) ?_
      refine jb_icmp_eq hx hb dX2_isSo_220 dX2_isSo_223 dX2_isSo_224 dX2_isSo_227 ?_
      exact W.zret (v := nI (Bool.toNat ((sv) != (decide ((kn / 6) = 3))))) (ty := .boolean) hx hb hr (xb_nar _) (fun t ht hW => ⟨_, rfl, by unfold so; rw [← htl, so_den hkn]; simp [c197] <;> (cases sv <;> first | rfl | exact absurd c220 (by decide)), ht⟩) (fun q hq => absurd hq List.not_mem_nil) dX2_isSo_228
  refine lv_iload_n hx hb dX2_isSo_0 rfl (lv_at hl 1 rfl) ?_
  refine lv_iload_n hx hb dX2_isSo_1 rfl (lv_at hl 2 rfl) ?_
  refine lv_iload_n hx hb dX2_isSo_2 rfl (lv_at hl 3 rfl) ?_
  refine vp_callSi (va_Run.run (va_runS (As := [.int (nI (Bool.toNat (fb))), .int (nI (en)), .int (nI (bn))]) (rest := []) ⟨hx, hb, hml, hown, hts⟩ (c_X2_cell l (fb) (en) (bn)) (va_cwS 3 hts gX2_isSo_X2_cell rfl rfl rfl (by decide +kernel) ⟨Nat.le_of_ble_eq_true rfl, Nat.le_of_ble_eq_true rfl⟩) preT rfl rfl hl.1 rfl (lv_room (Nat.le_of_ble_eq_true rfl)) dX2_isSo_3 ⟨Nat.zero_le _, Nat.zero_le _⟩)) (fun r1 er1 => ?_)
  subst er1
  have := mc_lt (f := fb) (e := en) (b := bn) (by omega) (by omega)
  refine lv_istore (lv' := [(5, .int (nI (mc fb en bn))), (0, .ref h), (1, .int (nI (Bool.toNat (fb)))), (2, .int (nI (en))), (3, .int (nI (bn))), (4, .int (nI (kn)))]) hx hb dX2_isSo_6 hl (by decide) rfl (fun ls hl => ?_)
  refine lv_iload_n hx hb dX2_isSo_8 rfl (lv_at hl 2 rfl) ?_
  refine lv_iload_n hx hb dX2_isSo_9 rfl (lv_at hl 4 rfl) ?_
  refine vp_callSi (va_Run.run (va_runS (As := [.int (nI (Bool.toNat (fb))), .int (nI (bn))]) (rest := []) ⟨hx, hb, hml, hown, hts⟩ (c_X2_limit l (fb) (bn)) (va_cwS 2 hts gX2_isSo_X2_limit rfl rfl rfl (by decide +kernel) ⟨Nat.le_of_ble_eq_true rfl, Nat.le_of_ble_eq_true rfl⟩) preT rfl rfl hl.1 rfl (lv_room (Nat.le_of_ble_eq_true rfl)) dX2_isSo_10 ⟨Nat.zero_le _, Nat.zero_le _⟩)) (fun r2 er2 => ?_)
  subst er2
  have := ml_lt (f := fb) (b := bn) (by omega)
  refine lv_istore (lv' := [(6, .int (nI (ml fb bn))), (5, .int (nI (mc fb en bn))), (0, .ref h), (1, .int (nI (Bool.toNat (fb)))), (2, .int (nI (en))), (3, .int (nI (bn))), (4, .int (nI (kn)))]) hx hb dX2_isSo_13 hl (by decide) rfl (fun ls hl => ?_)
  refine lv_iload hx hb dX2_isSo_15 (lv_at hl 6 rfl) ?_
  refine lv_bipush (v := nI 12) hx hb dX2_isSo_17 (by decide) ?_
  refine xn_icmp_ge (tgt := 33) hx hb (by omega) (by decide) dX2_isSo_19 (by decide) (fun c19 => ?_) (fun c19 => ?_)
  · refine lv_aload_n hx hb dX2_isSo_33 rfl (lv_at hl 2 rfl) ?_
    refine lv_iload hx hb dX2_isSo_34 (lv_at hl 0 rfl) ?_
    refine lv_iload hx hb dX2_isSo_36 (lv_at hl 1 rfl) ?_
    refine vp_callSi (va_Run.run (va_runV (As := [.int (nI (ml fb bn)), .int (nI (mc fb en bn))]) (rest := []) ⟨hx, hb, hml, hown, hts⟩ (c_X2_compare l dC dI cD cZ cI cL h b0 b1 b2 b3 N I T R nn th (ml fb bn) (mc fb en bn) (by omega) (by omega) hq) (cwV 2 hts gX2_isSo_X2_compare rfl rfl rfl (by decide +kernel) ⟨Nat.le_of_ble_eq_true rfl, Nat.le_of_ble_eq_true rfl⟩) (okM_pre ⟨hP, hK⟩) rfl rfl hl.1 rfl (lv_room (Nat.le_of_ble_eq_true rfl)) dX2_isSo_38 ⟨Nat.zero_le _, Nat.zero_le _⟩)) (fun r3 er3 => ?_)
    subst er3
    have := rl_le I N (ml fb bn) (mc fb en bn)
    refine lv_istore (lv' := [(7, .int (nI (rl I N (ml fb bn) (mc fb en bn)))), (6, .int (nI (ml fb bn))), (5, .int (nI (mc fb en bn))), (0, .ref h), (1, .int (nI (Bool.toNat (fb)))), (2, .int (nI (en))), (3, .int (nI (bn))), (4, .int (nI (kn)))]) hx hb dX2_isSo_41 hl (by decide) rfl (fun ls hl => ?_)
    refine lv_iload hx hb dX2_isSo_43 (lv_at hl 7 rfl) ?_
    refine lv_bipush (v := nI 6) hx hb dX2_isSo_45 (by decide) ?_
    refine xn_irem hx hb (by omega) (by decide) (by decide) dX2_isSo_47 ?_
    refine lv_istore (lv' := [(8, .int (nI (kn % 6))), (7, .int (nI (rl I N (ml fb bn) (mc fb en bn)))), (6, .int (nI (ml fb bn))), (5, .int (nI (mc fb en bn))), (0, .ref h), (1, .int (nI (Bool.toNat (fb)))), (2, .int (nI (en))), (3, .int (nI (bn))), (4, .int (nI (kn)))]) hx hb dX2_isSo_48 hl (by decide) rfl (fun ls hl => ?_)
    refine lv_iload hx hb dX2_isSo_50 (lv_at hl 0 rfl) ?_
    rcases (show kn % 6 = 0 ∨ kn % 6 = 1 ∨ kn % 6 = 2 ∨ kn % 6 = 3 ∨ kn % 6 = 4 ∨ 4 < kn % 6 by omega) with hsw | hsw | hsw | hsw | hsw | hgt
    · refine lv_tableIn (off := 36) (tgt := 88) hx hb dX2_isSo_52 (by rw [hsw]; decide) (by rw [hsw]; decide) (by rw [hsw]; decide) (by decide) ?_
      refine lv_iload hx hb dX2_isSo_88 (lv_at hl 1 rfl) ?_
      refine jn_if_ne hx hb (by omega) dX2_isSo_90 dX2_isSo_93 dX2_isSo_94 dX2_isSo_97 ?_
      refine lv_istore (lv' := [(9, .int (nI (Bool.toNat (decide (rl I N (ml fb bn) (mc fb en bn) = 0))))), (8, .int (nI (kn % 6))), (7, .int (nI (rl I N (ml fb bn) (mc fb en bn)))), (6, .int (nI (ml fb bn))), (5, .int (nI (mc fb en bn))), (0, .ref h), (1, .int (nI (Bool.toNat (fb)))), (2, .int (nI (en))), (3, .int (nI (bn))), (4, .int (nI (kn)))]) hx hb dX2_isSo_98 hl (by decide) rfl (fun ls hl => ?_)
      refine lv_goto (tgt := 191) hx hb dX2_isSo_100 (by decide) ?_
      exact tail (decide (rl I N (ml fb bn) (mc fb en bn) = 0)) ls ⟨lv_sub hl [0, 9] rfl, by rw [if_pos (show 2 ≤ kn / 6 by omega)]; simp [pw, hsw]⟩
    · refine lv_tableIn (off := 51) (tgt := 103) hx hb dX2_isSo_52 (by rw [hsw]; decide) (by rw [hsw]; decide) (by rw [hsw]; decide) (by decide) ?_
      refine lv_iload hx hb dX2_isSo_103 (lv_at hl 1 rfl) ?_
      refine xn_if_eq (tgt := 114) hx hb (by omega) dX2_isSo_105 (by decide) (fun c105 => ?_) (fun c105 => ?_)
      · refine lv_iconst (v := nI 1) hx hb dX2_isSo_114 (by decide) ?_
        refine lv_goto (tgt := 119) hx hb dX2_isSo_115 (by decide) ?_
        refine lv_istore (lv' := [(9, .int (nI (1))), (8, .int (nI (kn % 6))), (7, .int (nI (rl I N (ml fb bn) (mc fb en bn)))), (6, .int (nI (ml fb bn))), (5, .int (nI (mc fb en bn))), (0, .ref h), (1, .int (nI (Bool.toNat (fb)))), (2, .int (nI (en))), (3, .int (nI (bn))), (4, .int (nI (kn)))]) hx hb dX2_isSo_119 hl (by decide) rfl (fun ls hl => ?_)
        refine lv_goto (tgt := 191) hx hb dX2_isSo_121 (by decide) ?_
        exact tail (true) ls ⟨lv_sub hl [0, 9] rfl, by rw [if_pos (show 2 ≤ kn / 6 by omega)]; simp [pw, hsw, c105]⟩
      · refine lv_iload hx hb dX2_isSo_108 (lv_at hl 1 rfl) ?_
        refine lv_iconst (v := nI 1) hx hb dX2_isSo_110 (by decide) ?_
        refine jn_icmp_ne hx hb (by omega) (by decide) dX2_isSo_111 dX2_isSo_114 dX2_isSo_115 dX2_isSo_118 ?_
        refine lv_istore (lv' := [(9, .int (nI (Bool.toNat (decide ((rl I N (ml fb bn) (mc fb en bn)) = 1))))), (8, .int (nI (kn % 6))), (7, .int (nI (rl I N (ml fb bn) (mc fb en bn)))), (6, .int (nI (ml fb bn))), (5, .int (nI (mc fb en bn))), (0, .ref h), (1, .int (nI (Bool.toNat (fb)))), (2, .int (nI (en))), (3, .int (nI (bn))), (4, .int (nI (kn)))]) hx hb dX2_isSo_119 hl (by decide) rfl (fun ls hl => ?_)
        refine lv_goto (tgt := 191) hx hb dX2_isSo_121 (by decide) ?_
        exact tail (decide ((rl I N (ml fb bn) (mc fb en bn)) = 1)) ls ⟨lv_sub hl [0, 9] rfl, by rw [if_pos (show 2 ≤ kn / 6 by omega)]; simp [pw, hsw, c105]⟩
    · refine lv_tableIn (off := 72) (tgt := 124) hx hb dX2_isSo_52 (by rw [hsw]; decide) (by rw [hsw]; decide) (by rw [hsw]; decide) (by decide) ?_
      refine lv_iload hx hb dX2_isSo_124 (lv_at hl 1 rfl) ?_
      refine lv_iconst (v := nI 2) hx hb dX2_isSo_126 (by decide) ?_
      refine jn_icmp_ne hx hb (by omega) (by decide) dX2_isSo_127 dX2_isSo_130 dX2_isSo_131 dX2_isSo_134 ?_
      refine lv_istore (lv' := [(9, .int (nI (Bool.toNat (decide ((rl I N (ml fb bn) (mc fb en bn)) = 2))))), (8, .int (nI (kn % 6))), (7, .int (nI (rl I N (ml fb bn) (mc fb en bn)))), (6, .int (nI (ml fb bn))), (5, .int (nI (mc fb en bn))), (0, .ref h), (1, .int (nI (Bool.toNat (fb)))), (2, .int (nI (en))), (3, .int (nI (bn))), (4, .int (nI (kn)))]) hx hb dX2_isSo_135 hl (by decide) rfl (fun ls hl => ?_)
      refine lv_goto (tgt := 191) hx hb dX2_isSo_137 (by decide) ?_
      exact tail (decide ((rl I N (ml fb bn) (mc fb en bn)) = 2)) ls ⟨lv_sub hl [0, 9] rfl, by rw [if_pos (show 2 ≤ kn / 6 by omega)]; simp [pw, hsw]⟩
    · refine lv_tableIn (off := 88) (tgt := 140) hx hb dX2_isSo_52 (by rw [hsw]; decide) (by rw [hsw]; decide) (by rw [hsw]; decide) (by decide) ?_
      refine lv_iload hx hb dX2_isSo_140 (lv_at hl 1 rfl) ?_
      refine lv_iconst (v := nI 2) hx hb dX2_isSo_142 (by decide) ?_
      refine xn_icmp_eq (tgt := 152) hx hb (by omega) (by decide) dX2_isSo_143 (by decide) (fun c143 => ?_) (fun c143 => ?_)
      · refine lv_iconst (v := nI 1) hx hb dX2_isSo_152 (by decide) ?_
        refine lv_goto (tgt := 157) hx hb dX2_isSo_153 (by decide) ?_
        refine lv_istore (lv' := [(9, .int (nI (1))), (8, .int (nI (kn % 6))), (7, .int (nI (rl I N (ml fb bn) (mc fb en bn)))), (6, .int (nI (ml fb bn))), (5, .int (nI (mc fb en bn))), (0, .ref h), (1, .int (nI (Bool.toNat (fb)))), (2, .int (nI (en))), (3, .int (nI (bn))), (4, .int (nI (kn)))]) hx hb dX2_isSo_157 hl (by decide) rfl (fun ls hl => ?_)
        refine lv_goto (tgt := 191) hx hb dX2_isSo_159 (by decide) ?_
        exact tail (true) ls ⟨lv_sub hl [0, 9] rfl, by rw [if_pos (show 2 ≤ kn / 6 by omega)]; simp [pw, hsw, c143]⟩
      · refine lv_iload hx hb dX2_isSo_146 (lv_at hl 1 rfl) ?_
        refine lv_iconst (v := nI 1) hx hb dX2_isSo_148 (by decide) ?_
        refine jn_icmp_ne hx hb (by omega) (by decide) dX2_isSo_149 dX2_isSo_152 dX2_isSo_153 dX2_isSo_156 ?_
        refine lv_istore (lv' := [(9, .int (nI (Bool.toNat (decide ((rl I N (ml fb bn) (mc fb en bn)) = 1))))), (8, .int (nI (kn % 6))), (7, .int (nI (rl I N (ml fb bn) (mc fb en bn)))), (6, .int (nI (ml fb bn))), (5, .int (nI (mc fb en bn))), (0, .ref h), (1, .int (nI (Bool.toNat (fb)))), (2, .int (nI (en))), (3, .int (nI (bn))), (4, .int (nI (kn)))]) hx hb dX2_isSo_157 hl (by decide) rfl (fun ls hl => ?_)
        refine lv_goto (tgt := 191) hx hb dX2_isSo_159 (by decide) ?_
        exact tail (decide ((rl I N (ml fb bn) (mc fb en bn)) = 1)) ls ⟨lv_sub hl [0, 9] rfl, by rw [if_pos (show 2 ≤ kn / 6 by omega)]; simp [pw, hsw, c143]⟩
    · refine lv_tableIn (off := 110) (tgt := 162) hx hb dX2_isSo_52 (by rw [hsw]; decide) (by rw [hsw]; decide) (by rw [hsw]; decide) (by decide) ?_
      refine lv_iload hx hb dX2_isSo_162 (lv_at hl 1 rfl) ?_
      refine lv_iconst (v := nI 1) hx hb dX2_isSo_164 (by decide) ?_
      refine jn_icmp_ne hx hb (by omega) (by decide) dX2_isSo_165 dX2_isSo_168 dX2_isSo_169 dX2_isSo_172 ?_
      refine lv_istore (lv' := [(9, .int (nI (Bool.toNat (decide ((rl I N (ml fb bn) (mc fb en bn)) = 1))))), (8, .int (nI (kn % 6))), (7, .int (nI (rl I N (ml fb bn) (mc fb en bn)))), (6, .int (nI (ml fb bn))), (5, .int (nI (mc fb en bn))), (0, .ref h), (1, .int (nI (Bool.toNat (fb)))), (2, .int (nI (en))), (3, .int (nI (bn))), (4, .int (nI (kn)))]) hx hb dX2_isSo_173 hl (by decide) rfl (fun ls hl => ?_)
      refine lv_goto (tgt := 191) hx hb dX2_isSo_175 (by decide) ?_
      exact tail (decide ((rl I N (ml fb bn) (mc fb en bn)) = 1)) ls ⟨lv_sub hl [0, 9] rfl, by rw [if_pos (show 2 ≤ kn / 6 by omega)]; simp [pw, hsw]⟩
    · refine xn_tableOut (tgt := 178) hx hb (by omega) dX2_isSo_52 (by omega) (by decide) ?_
      have hd0 : (kn % 6) ≠ 0 := by omega
      have hd1 : (kn % 6) ≠ 1 := by omega
      have hd2 : (kn % 6) ≠ 2 := by omega
      have hd3 : (kn % 6) ≠ 3 := by omega
      have hd4 : (kn % 6) ≠ 4 := by omega
      refine lv_iload hx hb dX2_isSo_178 (lv_at hl 1 rfl) ?_
      refine lv_iconst (v := nI 1) hx hb dX2_isSo_180 (by decide) ?_
      refine jn_icmp_eq hx hb (by omega) (by decide) dX2_isSo_181 dX2_isSo_184 dX2_isSo_185 dX2_isSo_188 ?_
      refine lv_istore (lv' := [(9, .int (nI (Bool.toNat (decide ((rl I N (ml fb bn) (mc fb en bn)) ≠ 1))))), (8, .int (nI (kn % 6))), (7, .int (nI (rl I N (ml fb bn) (mc fb en bn)))), (6, .int (nI (ml fb bn))), (5, .int (nI (mc fb en bn))), (0, .ref h), (1, .int (nI (Bool.toNat (fb)))), (2, .int (nI (en))), (3, .int (nI (bn))), (4, .int (nI (kn)))]) hx hb dX2_isSo_189 hl (by decide) rfl (fun ls hl => ?_)
      exact tail (decide ((rl I N (ml fb bn) (mc fb en bn)) ≠ 1)) ls ⟨lv_sub hl [0, 9] rfl, by rw [if_pos (show 2 ≤ kn / 6 by omega)]; simp [pw, hgt, hd0, hd1, hd2, hd3, hd4]⟩
  · refine lv_aload_n hx hb dX2_isSo_22 rfl (lv_at hl 2 rfl) ?_
    refine lv_iload hx hb dX2_isSo_23 (lv_at hl 1 rfl) ?_
    refine lv_iload hx hb dX2_isSo_25 (lv_at hl 0 rfl) ?_
    refine vp_callSi (va_Run.run (va_runV (As := [.int (nI (mc fb en bn)), .int (nI (ml fb bn))]) (rest := []) ⟨hx, hb, hml, hown, hts⟩ (c_X2_compare l dC dI cD cZ cI cL h b0 b1 b2 b3 N I T R nn th (mc fb en bn) (ml fb bn) (by omega) (by omega) hq) (cwV 2 hts gX2_isSo_X2_compare rfl rfl rfl (by decide +kernel) ⟨Nat.le_of_ble_eq_true rfl, Nat.le_of_ble_eq_true rfl⟩) (okM_pre ⟨hP, hK⟩) rfl rfl hl.1 rfl (lv_room (Nat.le_of_ble_eq_true rfl)) dX2_isSo_27 ⟨Nat.zero_le _, Nat.zero_le _⟩)) (fun r4 er4 => ?_)
    subst er4
    have := rl_le I N (mc fb en bn) (ml fb bn)
    refine lv_goto (tgt := 41) hx hb dX2_isSo_30 (by decide) ?_
    refine lv_istore (lv' := [(7, .int (nI (rl I N (mc fb en bn) (ml fb bn)))), (6, .int (nI (ml fb bn))), (5, .int (nI (mc fb en bn))), (0, .ref h), (1, .int (nI (Bool.toNat (fb)))), (2, .int (nI (en))), (3, .int (nI (bn))), (4, .int (nI (kn)))]) hx hb dX2_isSo_41 hl (by decide) rfl (fun ls hl => ?_)
    refine lv_iload hx hb dX2_isSo_43 (lv_at hl 7 rfl) ?_
    refine lv_bipush (v := nI 6) hx hb dX2_isSo_45 (by decide) ?_
    refine xn_irem hx hb (by omega) (by decide) (by decide) dX2_isSo_47 ?_
    refine lv_istore (lv' := [(8, .int (nI (kn % 6))), (7, .int (nI (rl I N (mc fb en bn) (ml fb bn)))), (6, .int (nI (ml fb bn))), (5, .int (nI (mc fb en bn))), (0, .ref h), (1, .int (nI (Bool.toNat (fb)))), (2, .int (nI (en))), (3, .int (nI (bn))), (4, .int (nI (kn)))]) hx hb dX2_isSo_48 hl (by decide) rfl (fun ls hl => ?_)
    refine lv_iload hx hb dX2_isSo_50 (lv_at hl 0 rfl) ?_
    rcases (show kn % 6 = 0 ∨ kn % 6 = 1 ∨ kn % 6 = 2 ∨ kn % 6 = 3 ∨ kn % 6 = 4 ∨ 4 < kn % 6 by omega) with hsw | hsw | hsw | hsw | hsw | hgt
    · refine lv_tableIn (off := 36) (tgt := 88) hx hb dX2_isSo_52 (by rw [hsw]; decide) (by rw [hsw]; decide) (by rw [hsw]; decide) (by decide) ?_
      refine lv_iload hx hb dX2_isSo_88 (lv_at hl 1 rfl) ?_
      refine jn_if_ne hx hb (by omega) dX2_isSo_90 dX2_isSo_93 dX2_isSo_94 dX2_isSo_97 ?_
      refine lv_istore (lv' := [(9, .int (nI (Bool.toNat (decide (rl I N (mc fb en bn) (ml fb bn) = 0))))), (8, .int (nI (kn % 6))), (7, .int (nI (rl I N (mc fb en bn) (ml fb bn)))), (6, .int (nI (ml fb bn))), (5, .int (nI (mc fb en bn))), (0, .ref h), (1, .int (nI (Bool.toNat (fb)))), (2, .int (nI (en))), (3, .int (nI (bn))), (4, .int (nI (kn)))]) hx hb dX2_isSo_98 hl (by decide) rfl (fun ls hl => ?_)
      refine lv_goto (tgt := 191) hx hb dX2_isSo_100 (by decide) ?_
      exact tail (decide (rl I N (mc fb en bn) (ml fb bn) = 0)) ls ⟨lv_sub hl [0, 9] rfl, by rw [if_neg (show ¬ 2 ≤ kn / 6 by omega)]; simp [pw, hsw]⟩
    · refine lv_tableIn (off := 51) (tgt := 103) hx hb dX2_isSo_52 (by rw [hsw]; decide) (by rw [hsw]; decide) (by rw [hsw]; decide) (by decide) ?_
      refine lv_iload hx hb dX2_isSo_103 (lv_at hl 1 rfl) ?_
      refine xn_if_eq (tgt := 114) hx hb (by omega) dX2_isSo_105 (by decide) (fun c105 => ?_) (fun c105 => ?_)
      · refine lv_iconst (v := nI 1) hx hb dX2_isSo_114 (by decide) ?_
        refine lv_goto (tgt := 119) hx hb dX2_isSo_115 (by decide) ?_
        refine lv_istore (lv' := [(9, .int (nI (1))), (8, .int (nI (kn % 6))), (7, .int (nI (rl I N (mc fb en bn) (ml fb bn)))), (6, .int (nI (ml fb bn))), (5, .int (nI (mc fb en bn))), (0, .ref h), (1, .int (nI (Bool.toNat (fb)))), (2, .int (nI (en))), (3, .int (nI (bn))), (4, .int (nI (kn)))]) hx hb dX2_isSo_119 hl (by decide) rfl (fun ls hl => ?_)
        refine lv_goto (tgt := 191) hx hb dX2_isSo_121 (by decide) ?_
        exact tail (true) ls ⟨lv_sub hl [0, 9] rfl, by rw [if_neg (show ¬ 2 ≤ kn / 6 by omega)]; simp [pw, hsw, c105]⟩
      · refine lv_iload hx hb dX2_isSo_108 (lv_at hl 1 rfl) ?_
        refine lv_iconst (v := nI 1) hx hb dX2_isSo_110 (by decide) ?_
        refine jn_icmp_ne hx hb (by omega) (by decide) dX2_isSo_111 dX2_isSo_114 dX2_isSo_115 dX2_isSo_118 ?_
        refine lv_istore (lv' := [(9, .int (nI (Bool.toNat (decide ((rl I N (mc fb en bn) (ml fb bn)) = 1))))), (8, .int (nI (kn % 6))), (7, .int (nI (rl I N (mc fb en bn) (ml fb bn)))), (6, .int (nI (ml fb bn))), (5, .int (nI (mc fb en bn))), (0, .ref h), (1, .int (nI (Bool.toNat (fb)))), (2, .int (nI (en))), (3, .int (nI (bn))), (4, .int (nI (kn)))]) hx hb dX2_isSo_119 hl (by decide) rfl (fun ls hl => ?_)
        refine lv_goto (tgt := 191) hx hb dX2_isSo_121 (by decide) ?_
        exact tail (decide ((rl I N (mc fb en bn) (ml fb bn)) = 1)) ls ⟨lv_sub hl [0, 9] rfl, by rw [if_neg (show ¬ 2 ≤ kn / 6 by omega)]; simp [pw, hsw, c105]⟩
    · refine lv_tableIn (off := 72) (tgt := 124) hx hb dX2_isSo_52 (by rw [hsw]; decide) (by rw [hsw]; decide) (by rw [hsw]; decide) (by decide) ?_
      refine lv_iload hx hb dX2_isSo_124 (lv_at hl 1 rfl) ?_
      refine lv_iconst (v := nI 2) hx hb dX2_isSo_126 (by decide) ?_
      refine jn_icmp_ne hx hb (by omega) (by decide) dX2_isSo_127 dX2_isSo_130 dX2_isSo_131 dX2_isSo_134 ?_
      refine lv_istore (lv' := [(9, .int (nI (Bool.toNat (decide ((rl I N (mc fb en bn) (ml fb bn)) = 2))))), (8, .int (nI (kn % 6))), (7, .int (nI (rl I N (mc fb en bn) (ml fb bn)))), (6, .int (nI (ml fb bn))), (5, .int (nI (mc fb en bn))), (0, .ref h), (1, .int (nI (Bool.toNat (fb)))), (2, .int (nI (en))), (3, .int (nI (bn))), (4, .int (nI (kn)))]) hx hb dX2_isSo_135 hl (by decide) rfl (fun ls hl => ?_)
      refine lv_goto (tgt := 191) hx hb dX2_isSo_137 (by decide) ?_
      exact tail (decide ((rl I N (mc fb en bn) (ml fb bn)) = 2)) ls ⟨lv_sub hl [0, 9] rfl, by rw [if_neg (show ¬ 2 ≤ kn / 6 by omega)]; simp [pw, hsw]⟩
    · refine lv_tableIn (off := 88) (tgt := 140) hx hb dX2_isSo_52 (by rw [hsw]; decide) (by rw [hsw]; decide) (by rw [hsw]; decide) (by decide) ?_
      refine lv_iload hx hb dX2_isSo_140 (lv_at hl 1 rfl) ?_
      refine lv_iconst (v := nI 2) hx hb dX2_isSo_142 (by decide) ?_
      refine xn_icmp_eq (tgt := 152) hx hb (by omega) (by decide) dX2_isSo_143 (by decide) (fun c143 => ?_) (fun c143 => ?_)
      · refine lv_iconst (v := nI 1) hx hb dX2_isSo_152 (by decide) ?_
        refine lv_goto (tgt := 157) hx hb dX2_isSo_153 (by decide) ?_
        refine lv_istore (lv' := [(9, .int (nI (1))), (8, .int (nI (kn % 6))), (7, .int (nI (rl I N (mc fb en bn) (ml fb bn)))), (6, .int (nI (ml fb bn))), (5, .int (nI (mc fb en bn))), (0, .ref h), (1, .int (nI (Bool.toNat (fb)))), (2, .int (nI (en))), (3, .int (nI (bn))), (4, .int (nI (kn)))]) hx hb dX2_isSo_157 hl (by decide) rfl (fun ls hl => ?_)
        refine lv_goto (tgt := 191) hx hb dX2_isSo_159 (by decide) ?_
        exact tail (true) ls ⟨lv_sub hl [0, 9] rfl, by rw [if_neg (show ¬ 2 ≤ kn / 6 by omega)]; simp [pw, hsw, c143]⟩
      · refine lv_iload hx hb dX2_isSo_146 (lv_at hl 1 rfl) ?_
        refine lv_iconst (v := nI 1) hx hb dX2_isSo_148 (by decide) ?_
        refine jn_icmp_ne hx hb (by omega) (by decide) dX2_isSo_149 dX2_isSo_152 dX2_isSo_153 dX2_isSo_156 ?_
        refine lv_istore (lv' := [(9, .int (nI (Bool.toNat (decide ((rl I N (mc fb en bn) (ml fb bn)) = 1))))), (8, .int (nI (kn % 6))), (7, .int (nI (rl I N (mc fb en bn) (ml fb bn)))), (6, .int (nI (ml fb bn))), (5, .int (nI (mc fb en bn))), (0, .ref h), (1, .int (nI (Bool.toNat (fb)))), (2, .int (nI (en))), (3, .int (nI (bn))), (4, .int (nI (kn)))]) hx hb dX2_isSo_157 hl (by decide) rfl (fun ls hl => ?_)
        refine lv_goto (tgt := 191) hx hb dX2_isSo_159 (by decide) ?_
        exact tail (decide ((rl I N (mc fb en bn) (ml fb bn)) = 1)) ls ⟨lv_sub hl [0, 9] rfl, by rw [if_neg (show ¬ 2 ≤ kn / 6 by omega)]; simp [pw, hsw, c143]⟩
    · refine lv_tableIn (off := 110) (tgt := 162) hx hb dX2_isSo_52 (by rw [hsw]; decide) (by rw [hsw]; decide) (by rw [hsw]; decide) (by decide) ?_
      refine lv_iload hx hb dX2_isSo_162 (lv_at hl 1 rfl) ?_
      refine lv_iconst (v := nI 1) hx hb dX2_isSo_164 (by decide) ?_
      refine jn_icmp_ne hx hb (by omega) (by decide) dX2_isSo_165 dX2_isSo_168 dX2_isSo_169 dX2_isSo_172 ?_
      refine lv_istore (lv' := [(9, .int (nI (Bool.toNat (decide ((rl I N (mc fb en bn) (ml fb bn)) = 1))))), (8, .int (nI (kn % 6))), (7, .int (nI (rl I N (mc fb en bn) (ml fb bn)))), (6, .int (nI (ml fb bn))), (5, .int (nI (mc fb en bn))), (0, .ref h), (1, .int (nI (Bool.toNat (fb)))), (2, .int (nI (en))), (3, .int (nI (bn))), (4, .int (nI (kn)))]) hx hb dX2_isSo_173 hl (by decide) rfl (fun ls hl => ?_)
      refine lv_goto (tgt := 191) hx hb dX2_isSo_175 (by decide) ?_
      exact tail (decide ((rl I N (mc fb en bn) (ml fb bn)) = 1)) ls ⟨lv_sub hl [0, 9] rfl, by rw [if_neg (show ¬ 2 ≤ kn / 6 by omega)]; simp [pw, hsw]⟩
    · refine xn_tableOut (tgt := 178) hx hb (by omega) dX2_isSo_52 (by omega) (by decide) ?_
      have hd0 : (kn % 6) ≠ 0 := by omega
      have hd1 : (kn % 6) ≠ 1 := by omega
      have hd2 : (kn % 6) ≠ 2 := by omega
      have hd3 : (kn % 6) ≠ 3 := by omega
      have hd4 : (kn % 6) ≠ 4 := by omega
      refine lv_iload hx hb dX2_isSo_178 (lv_at hl 1 rfl) ?_
      refine lv_iconst (v := nI 1) hx hb dX2_isSo_180 (by decide) ?_
      refine jn_icmp_eq hx hb (by omega) (by decide) dX2_isSo_181 dX2_isSo_184 dX2_isSo_185 dX2_isSo_188 ?_
      refine lv_istore (lv' := [(9, .int (nI (Bool.toNat (decide ((rl I N (mc fb en bn) (ml fb bn)) ≠ 1))))), (8, .int (nI (kn % 6))), (7, .int (nI (rl I N (mc fb en bn) (ml fb bn)))), (6, .int (nI (ml fb bn))), (5, .int (nI (mc fb en bn))), (0, .ref h), (1, .int (nI (Bool.toNat (fb)))), (2, .int (nI (en))), (3, .int (nI (bn))), (4, .int (nI (kn)))]) hx hb dX2_isSo_189 hl (by decide) rfl (fun ls hl => ?_)
      exact tail (decide ((rl I N (mc fb en bn) (ml fb bn)) ≠ 1)) ls ⟨lv_sub hl [0, 9] rfl, by rw [if_neg (show ¬ 2 ≤ kn / 6 by omega)]; simp [pw, hgt, hd0, hd1, hd2, hd3, hd4]⟩
set_option maxHeartbeats 4000000 in
set_option maxRecDepth 100000 in
theorem c_X2_eighths (l : Launch) (dC : Nat → ClassId) (dI : Nat → Nat → Nat) (cD cZ cI cL : ClassId) (h b0 b1 b2 b3 : Nat) (N : Nat → UInt64) (I T R : Nat → Int32) (nn : Nat) (th : Int32) (i : Nat) (hi : i < 70) (hg : gd (N i)) : Met l yX2_eighths wsX2_eighths ({ frames := 0, cells := 0, slots := 0, locals := 0 }) (va_Pc [.ref h, .int (nI (i))] (fun U => okM dC dI cD cZ cI cL h b0 b1 b2 b3 N I T R nn th U U.heap)) (vp_Sl (fun r => r = e8 (N i))) 0 0 (fun _ => False) := by
  refine Met.ofW (cc := cX2_eighths) (maxL := 2) (ret := (some .long)) (by decide) rfl ?_
  intro p e s m args below meth c s₁ B hml hv
  obtain ⟨rfl, hO⟩ := hv
  obtain ⟨hP, hK⟩ := id hO
  have hP : va_P (dC, dI) vwCl [(h, .inr (2, [.ref b0, .ref b1, .ref b2, .ref b3, .int (nI (nn)), .int (th)])), (b0, .inl (cD, 70, .inr (.inr (.inr (.inl (N)))))), (b1, .inl (cZ, 70, .inl (I))), (b2, .inl (cI, 60, .inl (T))), (b3, .inl (cI, 6, .inl (R)))] s.heap := hP
  have hx := B.exec
  have hb := B.bytes
  have hr := B.returns
  have hts := atoms_spec (ws := wsX2_eighths) B.pre
  have hown : s.vm.findClass RX2 = some m.cls := findClass_of_methodNamed B.named
  have hlocks := B.notSynchronized
  have hin2 : ∀ w ∈ wsX20, w ∈ wsX2_eighths := (fun w h => List.mem_cons_of_mem _ (List.mem_append_right _ h))
  have fl7 := hts (.fieldLink RX2 7 "JuryTableModel" "number" "[D") (by decide +kernel)
  have hl := lv_entry ([.ref h, .int (nI (i))]) (n := 2) (Nat.le_of_ble_eq_true rfl)
  rw [lg_entry_eq]
  generalize (lg_sl ([.ref h, .int (nI (i))]) ++ List.replicate (2 - (lg_sl ([.ref h, .int (nI (i))])).length) Slot.unset).toArray = ls at hl ⊢
  have hl : lv_has ls 2 [(0, .ref h), (1, .int (nI (i)))] := hl
  refine lv_aload_n hx hb dX2_eighths_0 rfl (lv_at hl 0 rfl) ?_
  refine va_get (D := (dC, dI)) (ci := 2) (v := .ref b0) (C := RX2) (T := TX2) (N := 6) hx hb hts hin2 hown hK hP 0 rfl rfl 0 (by decide) fl7 (fun _ h9 => h9) rfl dX2_eighths_1 ?_
  refine lv_iload_n hx hb dX2_eighths_4 rfl (lv_at hl 1 rfl) ?_
  refine xn_dald hx hb hK hP 1 0 rfl rfl (n := 70) (j := i) (by omega) (by decide) dX2_eighths_5 ?_
  refine lv_ldc2d hx hb hown (hts (.constantDouble RX2 71 (4620693217682128896)) (by decide +kernel)) dX2_eighths_6 ?_
  refine lv_dmul hx hb dX2_eighths_9 (gd_n8 hg) ?_
  refine lv_d2l hx hb dX2_eighths_10 ?_
  exact W.lret (v := FP.d2l (FP.dmul (N i) 4620693217682128896)) hx hb hr (fun t ht hW => ⟨_, rfl, rfl, ht⟩) (fun q hq => absurd hq List.not_mem_nil) dX2_eighths_11
set_option maxHeartbeats 4000000 in
set_option maxRecDepth 100000 in
theorem c_X2_thrown (l : Launch) (dC : Nat → ClassId) (dI : Nat → Nat → Nat) (cD cZ cI cL : ClassId) (h b0 b1 b2 b3 : Nat) (N : Nat → UInt64) (I T R : Nat → Int32) (nn : Nat) (th : Int32) : Met l yX2_thrown wsX2_thrown ({ frames := 0, cells := 0, slots := 0, locals := 0 }) (va_Pc [.ref h] (fun U => okM dC dI cD cZ cI cL h b0 b1 b2 b3 N I T R nn th U U.heap)) (vp_Si (fun r => r = th)) 0 0 (fun _ => False) := by
  refine Met.ofW (cc := cX2_thrown) (maxL := 1) (ret := (some .int)) (by decide) rfl ?_
  intro p e s m args below meth c s₁ B hml hv
  obtain ⟨rfl, hO⟩ := hv
  obtain ⟨hP, hK⟩ := id hO
  have hP : va_P (dC, dI) vwCl [(h, .inr (2, [.ref b0, .ref b1, .ref b2, .ref b3, .int (nI (nn)), .int (th)])), (b0, .inl (cD, 70, .inr (.inr (.inr (.inl (N)))))), (b1, .inl (cZ, 70, .inl (I))), (b2, .inl (cI, 60, .inl (T))), (b3, .inl (cI, 6, .inl (R)))] s.heap := hP
  have hx := B.exec
  have hb := B.bytes
  have hr := B.returns
  have hts := atoms_spec (ws := wsX2_thrown) B.pre
  have hown : s.vm.findClass RX2 = some m.cls := findClass_of_methodNamed B.named
  have hlocks := B.notSynchronized
  have hin2 : ∀ w ∈ wsX20, w ∈ wsX2_thrown := (fun w h => List.mem_cons_of_mem _ (List.mem_append_right _ h))
  have fl24 := hts (.fieldLink RX2 24 "JuryTableModel" "thrown" "I") (by decide +kernel)
  have hl := lv_entry ([.ref h]) (n := 1) (Nat.le_of_ble_eq_true rfl)
  rw [lg_entry_eq]
  generalize (lg_sl ([.ref h]) ++ List.replicate (1 - (lg_sl ([.ref h])).length) Slot.unset).toArray = ls at hl ⊢
  have hl : lv_has ls 1 [(0, .ref h)] := hl
  refine lv_aload_n hx hb dX2_thrown_0 rfl (lv_at hl 0 rfl) ?_
  refine va_get (D := (dC, dI)) (ci := 2) (v := .int (th)) (C := RX2) (T := TX2) (N := 6) hx hb hts hin2 hown hK hP 0 rfl rfl 5 (by decide) fl24 (fun _ h9 => h9) rfl dX2_thrown_1 ?_
  exact W.iret (v := th) hx hb hr (fun t ht hW => ⟨_, rfl, rfl, ht⟩) (fun q hq => absurd hq List.not_mem_nil) dX2_thrown_4
