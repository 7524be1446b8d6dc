set_option maxHeartbeats 4000000 in
set_option maxRecDepth 100000 in
theorem c_X1_cellOf (l : Launch) (a b : Nat) : Met l yX1_cellOf wsX1_cellOf ({ frames := 0, cells := 0, slots := 0, locals := 0 }) (va_Pc [.int (nI (a)), .int (nI (b))] (fun _ => True)) (vp_Si (fun r => r = nI (a * 5 + b))) 0 0 (fun _ => False) := by
  refine Met.ofW (cc := cX1_cellOf) (maxL := 2) (ret := (some .int)) (by decide) rfl ?_
  intro p e s m args below meth c s₁ B hml hv
  obtain ⟨rfl, -⟩ := hv
  have hx := B.exec
  have hb := B.bytes
  have hr := B.returns
  have hts := atoms_spec (ws := wsX1_cellOf) B.pre
  have hown : s.vm.findClass RX1 = some m.cls := findClass_of_methodNamed B.named
  have hlocks := B.notSynchronized
  have hl := lv_entry ([.int (nI (a)), .int (nI (b))]) (n := 2) (Nat.le_of_ble_eq_true rfl)
  rw [lg_entry_eq]
  generalize (lg_sl ([.int (nI (a)), .int (nI (b))]) ++ List.replicate (2 - (lg_sl ([.int (nI (a)), .int (nI (b))])).length) Slot.unset).toArray = ls at hl ⊢
  have hl : lv_has ls 2 [(0, .int (nI (a))), (1, .int (nI (b)))] := hl
  refine lv_iload_n hx hb dX1_cellOf_0 rfl (lv_at hl 0 rfl) ?_
  refine lv_iconst (v := nI 5) hx hb dX1_cellOf_1 (by decide) ?_
  refine xn_imul hx hb dX1_cellOf_2 ?_
  refine lv_iload_n hx hb dX1_cellOf_3 rfl (lv_at hl 1 rfl) ?_
  refine xn_iadd hx hb dX1_cellOf_4 ?_
  exact W.iret (v := nI ((a * 5) + b)) hx hb hr (fun t ht hW => ⟨_, rfl, rfl, ht⟩) (fun q hq => absurd hq List.not_mem_nil) dX1_cellOf_5
set_option maxHeartbeats 4000000 in
set_option maxRecDepth 100000 in
theorem c_X0_relation (l : Launch) (dC : Nat → ClassId) (dI : Nat → Nat → Nat) (cD cZ cI cL : ClassId) (h a0 a1 a2 a3 : Nat) (N : Nat → UInt64) (G T O : Nat → Int32) (i j : Nat) (hi : i < 35) (hj : j < 35) : Met l yX0_relation wsX0_relation ({ frames := 0, cells := 0, slots := 0, locals := 0 }) (va_Pc [.ref h, .int (nI (i)), .int (nI (j))] (fun U => okP dC dI cD cZ cI cL h a0 a1 a2 a3 N G T O U U.heap)) (vp_Si (fun r => r = nI (rl G N i j))) 0 0 (fun _ => False) := by
  refine Met.ofW (cc := cX0_relation) (maxL := 3) (ret := (some .int)) (by decide) rfl ?_
  intro p e s m args below meth c s₁ B hml hv
  obtain ⟨rfl, hO⟩ := hv
  obtain ⟨hP, hK, hN⟩ := id hO
  have hP : va_P (dC, dI) vwCl [(h, .inr (0, [.ref a0, .ref a1, .ref a2, .ref a3])), (a0, .inl (cD, 35, .inr (.inr (.inr (.inl (N)))))), (a1, .inl (cZ, 35, .inl (G))), (a2, .inl (cI, 30, .inl (T))), (a3, .inl (cI, 6, .inl (O)))] s.heap := hP
  have hx := B.exec
  have hb := B.bytes
  have hr := B.returns
  have hts := atoms_spec (ws := wsX0_relation) B.pre
  have hown : s.vm.findClass RX0 = some m.cls := findClass_of_methodNamed B.named
  have hlocks := B.notSynchronized
  have hin0 : ∀ w ∈ wsX00, w ∈ wsX0_relation := (fun w h => List.mem_cons_of_mem _ (List.mem_append_right _ h))
  have fl9 := hts (.fieldLink RX0 9 "JuryTable$Panel" "numbers" "[D") (by decide +kernel)
  have fl15 := hts (.fieldLink RX0 15 "JuryTable$Panel" "given" "[Z") (by decide +kernel)
  have hl := lv_entry ([.ref h, .int (nI (i)), .int (nI (j))]) (n := 3) (Nat.le_of_ble_eq_true rfl)
  rw [lg_entry_eq]
  generalize (lg_sl ([.ref h, .int (nI (i)), .int (nI (j))]) ++ List.replicate (3 - (lg_sl ([.ref h, .int (nI (i)), .int (nI (j))])).length) Slot.unset).toArray = ls at hl ⊢
  have hl : lv_has ls 3 [(0, .ref h), (1, .int (nI (i))), (2, .int (nI (j)))] := hl
  refine lv_aload_n hx hb dX0_relation_0 rfl (lv_at hl 0 rfl) ?_
  refine va_get (D := (dC, dI)) (ci := 0) (v := .ref a1) (C := RX0) (T := TX0) (N := 4) hx hb hts hin0 hown hK hP 0 rfl rfl 1 (by decide) fl15 (fun _ h9 => h9) rfl dX0_relation_1 ?_
  refine lv_iload_n hx hb dX0_relation_4 rfl (lv_at hl 1 rfl) ?_
  refine xn_zald hx hb hK hP 2 1 rfl rfl (n := 35) (j := i) (by omega) (by decide) dX0_relation_5 ?_
  refine lv_if_eq (tgt := 18) hx hb dX0_relation_6 (by decide) (fun c6 => ?_) (fun c6 => ?_)
  · refine lv_iconst (v := nI 3) hx hb dX0_relation_18 (by decide) ?_
    exact W.iret (v := nI 3) hx hb hr (fun t ht hW => ⟨_, rfl, by simp [rl, c6], ht⟩) (fun q hq => absurd hq List.not_mem_nil) dX0_relation_19
  · refine lv_aload_n hx hb dX0_relation_9 rfl (lv_at hl 0 rfl) ?_
    refine va_get (D := (dC, dI)) (ci := 0) (v := .ref a1) (C := RX0) (T := TX0) (N := 4) hx hb hts hin0 hown hK hP 0 rfl rfl 1 (by decide) fl15 (fun _ h9 => h9) rfl dX0_relation_10 ?_
    refine lv_iload_n hx hb dX0_relation_13 rfl (lv_at hl 2 rfl) ?_
    refine xn_zald hx hb hK hP 2 1 rfl rfl (n := 35) (j := j) (by omega) (by decide) dX0_relation_14 ?_
    refine lv_if_ne (tgt := 20) hx hb dX0_relation_15 (by decide) (fun c15 => ?_) (fun c15 => ?_)
    · refine lv_aload_n hx hb dX0_relation_20 rfl (lv_at hl 0 rfl) ?_
      refine va_get (D := (dC, dI)) (ci := 0) (v := .ref a0) (C := RX0) (T := TX0) (N := 4) hx hb hts hin0 hown hK hP 0 rfl rfl 0 (by decide) fl9 (fun _ h9 => h9) rfl dX0_relation_21 ?_
      refine lv_iload_n hx hb dX0_relation_24 rfl (lv_at hl 1 rfl) ?_
      refine xn_dald hx hb hK hP 1 0 rfl rfl (n := 35) (j := i) (by omega) (by decide) dX0_relation_25 ?_
      refine lv_aload_n hx hb dX0_relation_26 rfl (lv_at hl 0 rfl) ?_
      refine va_get (D := (dC, dI)) (ci := 0) (v := .ref a0) (C := RX0) (T := TX0) (N := 4) hx hb hts hin0 hown hK hP 0 rfl rfl 0 (by decide) fl9 (fun _ h9 => h9) rfl dX0_relation_27 ?_
      refine lv_iload_n hx hb dX0_relation_30 rfl (lv_at hl 2 rfl) ?_
      refine xn_dald hx hb hK hP 1 0 rfl rfl (n := 35) (j := j) (by omega) (by decide) dX0_relation_31 ?_
      refine xd_ge (tgt := 38) hx hb dX0_relation_32 dX0_relation_33 (by decide) (fun c32 => ?_) (fun c32 => ?_)
      · refine lv_aload_n hx hb dX0_relation_38 rfl (lv_at hl 0 rfl) ?_
        refine va_get (D := (dC, dI)) (ci := 0) (v := .ref a0) (C := RX0) (T := TX0) (N := 4) hx hb hts hin0 hown hK hP 0 rfl rfl 0 (by decide) fl9 (fun _ h9 => h9) rfl dX0_relation_39 ?_
        refine lv_iload_n hx hb dX0_relation_42 rfl (lv_at hl 1 rfl) ?_
        refine xn_dald hx hb hK hP 1 0 rfl rfl (n := 35) (j := i) (by omega) (by decide) dX0_relation_43 ?_
        refine lv_aload_n hx hb dX0_relation_44 rfl (lv_at hl 0 rfl) ?_
        refine va_get (D := (dC, dI)) (ci := 0) (v := .ref a0) (C := RX0) (T := TX0) (N := 4) hx hb hts hin0 hown hK hP 0 rfl rfl 0 (by decide) fl9 (fun _ h9 => h9) rfl dX0_relation_45 ?_
        refine lv_iload_n hx hb dX0_relation_48 rfl (lv_at hl 2 rfl) ?_
        refine xn_dald hx hb hK hP 1 0 rfl rfl (n := 35) (j := j) (by omega) (by decide) dX0_relation_49 ?_
        refine xd_le (tgt := 58) hx hb dX0_relation_50 dX0_relation_51 (by decide) (fun c50 => ?_) (fun c50 => ?_)
        · refine lv_iconst (v := nI 1) hx hb dX0_relation_58 (by decide) ?_
          exact W.iret (v := nI 1) hx hb hr (fun t ht hW => ⟨_, rfl, by simp [rl, c6, c15, c32, c50], ht⟩) (fun q hq => absurd hq List.not_mem_nil) dX0_relation_59
        · refine lv_iconst (v := nI 2) hx hb dX0_relation_54 (by decide) ?_
          refine lv_goto (tgt := 59) hx hb dX0_relation_55 (by decide) ?_
          exact W.iret (v := nI 2) hx hb hr (fun t ht hW => ⟨_, rfl, by simp [rl, c6, c15, c32, c50], ht⟩) (fun q hq => absurd hq List.not_mem_nil) dX0_relation_59
      · refine lv_iconst (v := nI 0) hx hb dX0_relation_36 (by decide) ?_
        exact W.iret (v := nI 0) hx hb hr (fun t ht hW => ⟨_, rfl, by simp [rl, c6, c15, c32], ht⟩) (fun q hq => absurd hq List.not_mem_nil) dX0_relation_37
    · refine lv_iconst (v := nI 3) hx hb dX0_relation_18 (by decide) ?_
      exact W.iret (v := nI 3) hx hb hr (fun t ht hW => ⟨_, rfl, by simp [rl, c6, c15], ht⟩) (fun q hq => absurd hq List.not_mem_nil) dX0_relation_19
set_option maxHeartbeats 4000000 in
set_option maxRecDepth 100000 in
theorem c_X0_isPlainWaySo (l : Launch) (cv wv : Nat) (hcv : cv < 4) (hwv : wv < 6) : Met l yX0_isPlainWaySo wsX0_isPlainWaySo ({ frames := 0, cells := 0, slots := 0, locals := 0 }) (va_Pc [.int (nI (cv)), .int (nI (wv))] (fun _ => True)) (vp_Si (fun r => r = nI (Bool.toNat (pw cv wv)))) 0 0 (fun _ => False) := by
  refine Met.ofW (cc := cX0_isPlainWaySo) (maxL := 2) (ret := (some .boolean)) (by decide) rfl ?_
  intro p e s m args below meth c s₁ B hml hv
  obtain ⟨rfl, -⟩ := hv
  have hx := B.exec
  have hb := B.bytes
  have hr := B.returns
  have hts := atoms_spec (ws := wsX0_isPlainWaySo) B.pre
  have hown : s.vm.findClass RX0 = some m.cls := findClass_of_methodNamed B.named
  have hlocks := B.notSynchronized
  have hl := lv_entry ([.int (nI (cv)), .int (nI (wv))]) (n := 2) (Nat.le_of_ble_eq_true rfl)
  rw [lg_entry_eq]
  generalize (lg_sl ([.int (nI (cv)), .int (nI (wv))]) ++ List.replicate (2 - (lg_sl ([.int (nI (cv)), .int (nI (wv))])).length) Slot.unset).toArray = ls at hl ⊢
  have hl : lv_has ls 2 [(0, .int (nI (cv))), (1, .int (nI (wv)))] := hl
  refine lv_iload_n hx hb dX0_isPlainWaySo_0 rfl (lv_at hl 1 rfl) ?_
  rcases (show wv = 0 ∨ wv = 1 ∨ wv = 2 ∨ wv = 3 ∨ wv = 4 ∨ 4 < wv by omega) with hsw | hsw | hsw | hsw | hsw | hgt
  · refine lv_tableIn (off := 35) (tgt := 36) hx hb dX0_isPlainWaySo_1 (by rw [hsw]; decide) (by rw [hsw]; decide) (by rw [hsw]; decide) (by decide) ?_
    refine lv_iload_n hx hb dX0_isPlainWaySo_36 rfl (lv_at hl 0 rfl) ?_
    refine jn_if_ne hx hb (by omega) dX0_isPlainWaySo_37 dX0_isPlainWaySo_40 dX0_isPlainWaySo_41 dX0_isPlainWaySo_44 ?_
    exact W.zret (v := nI (Bool.toNat (decide (cv = 0)))) (ty := .boolean) hx hb hr (xb_nar _) (fun t ht hW => ⟨_, rfl, by simp [pw, hsw], ht⟩) (fun q hq => absurd hq List.not_mem_nil) dX0_isPlainWaySo_45
  · refine lv_tableIn (off := 45) (tgt := 46) hx hb dX0_isPlainWaySo_1 (by rw [hsw]; decide) (by rw [hsw]; decide) (by rw [hsw]; decide) (by decide) ?_
    refine lv_iload_n hx hb dX0_isPlainWaySo_46 rfl (lv_at hl 0 rfl) ?_
    refine xn_if_eq (tgt := 55) hx hb (by omega) dX0_isPlainWaySo_47 (by decide) (fun c47 => ?_) (fun c47 => ?_)
    · refine lv_iconst (v := nI 1) hx hb dX0_isPlainWaySo_55 (by decide) ?_
      refine lv_goto (tgt := 60) hx hb dX0_isPlainWaySo_56 (by decide) ?_
      exact W.zret (v := nI (Bool.toNat true)) (ty := .boolean) hx hb hr (xb_nar true) (fun t ht hW => ⟨_, rfl, by simp [pw, hsw, c47], ht⟩) (fun q hq => absurd hq List.not_mem_nil) dX0_isPlainWaySo_60
    · refine lv_iload_n hx hb dX0_isPlainWaySo_50 rfl (lv_at hl 0 rfl) ?_
      refine lv_iconst (v := nI 1) hx hb dX0_isPlainWaySo_51 (by decide) ?_
      refine jn_icmp_ne hx hb (by omega) (by decide) dX0_isPlainWaySo_52 dX0_isPlainWaySo_55 dX0_isPlainWaySo_56 dX0_isPlainWaySo_59 ?_
      exact W.zret (v := nI (Bool.toNat (decide (cv = 1)))) (ty := .boolean) hx hb hr (xb_nar _) (fun t ht hW => ⟨_, rfl, by simp [pw, hsw, c47], ht⟩) (fun q hq => absurd hq List.not_mem_nil) dX0_isPlainWaySo_60
  · refine lv_tableIn (off := 60) (tgt := 61) hx hb dX0_isPlainWaySo_1 (by rw [hsw]; decide) (by rw [hsw]; decide) (by rw [hsw]; decide) (by decide) ?_
    refine lv_iload_n hx hb dX0_isPlainWaySo_61 rfl (lv_at hl 0 rfl) ?_
    refine lv_iconst (v := nI 2) hx hb dX0_isPlainWaySo_62 (by decide) ?_
    refine jn_icmp_ne hx hb (by omega) (by decide) dX0_isPlainWaySo_63 dX0_isPlainWaySo_66 dX0_isPlainWaySo_67 dX0_isPlainWaySo_70 ?_
    exact W.zret (v := nI (Bool.toNat (decide (cv = 2)))) (ty := .boolean) hx hb hr (xb_nar _) (fun t ht hW => ⟨_, rfl, by simp [pw, hsw], ht⟩) (fun q hq => absurd hq List.not_mem_nil) dX0_isPlainWaySo_71
  · refine lv_tableIn (off := 71) (tgt := 72) hx hb dX0_isPlainWaySo_1 (by rw [hsw]; decide) (by rw [hsw]; decide) (by rw [hsw]; decide) (by decide) ?_
    refine lv_iload_n hx hb dX0_isPlainWaySo_72 rfl (lv_at hl 0 rfl) ?_
    refine lv_iconst (v := nI 2) hx hb dX0_isPlainWaySo_73 (by decide) ?_
    refine xn_icmp_eq (tgt := 82) hx hb (by omega) (by decide) dX0_isPlainWaySo_74 (by decide) (fun c74 => ?_) (fun c74 => ?_)
    · refine lv_iconst (v := nI 1) hx hb dX0_isPlainWaySo_82 (by decide) ?_
      refine lv_goto (tgt := 87) hx hb dX0_isPlainWaySo_83 (by decide) ?_
      exact W.zret (v := nI (Bool.toNat true)) (ty := .boolean) hx hb hr (xb_nar true) (fun t ht hW => ⟨_, rfl, by simp [pw, hsw, c74], ht⟩) (fun q hq => absurd hq List.not_mem_nil) dX0_isPlainWaySo_87
    · refine lv_iload_n hx hb dX0_isPlainWaySo_77 rfl (lv_at hl 0 rfl) ?_
      refine lv_iconst (v := nI 1) hx hb dX0_isPlainWaySo_78 (by decide) ?_
      refine jn_icmp_ne hx hb (by omega) (by decide) dX0_isPlainWaySo_79 dX0_isPlainWaySo_82 dX0_isPlainWaySo_83 dX0_isPlainWaySo_86 ?_
      exact W.zret (v := nI (Bool.toNat (decide (cv = 1)))) (ty := .boolean) hx hb hr (xb_nar _) (fun t ht hW => ⟨_, rfl, by simp [pw, hsw, c74], ht⟩) (fun q hq => absurd hq List.not_mem_nil) dX0_isPlainWaySo_87
  · refine lv_tableIn (off := 87) (tgt := 88) hx hb dX0_isPlainWaySo_1 (by rw [hsw]; decide) (by rw [hsw]; decide) (by rw [hsw]; decide) (by decide) ?_
    refine lv_iload_n hx hb dX0_isPlainWaySo_88 rfl (lv_at hl 0 rfl) ?_
    refine lv_iconst (v := nI 1) hx hb dX0_isPlainWaySo_89 (by decide) ?_
    refine jn_icmp_ne hx hb (by omega) (by decide) dX0_isPlainWaySo_90 dX0_isPlainWaySo_93 dX0_isPlainWaySo_94 dX0_isPlainWaySo_97 ?_
    exact W.zret (v := nI (Bool.toNat (decide (cv = 1)))) (ty := .boolean) hx hb hr (xb_nar _) (fun t ht hW => ⟨_, rfl, by simp [pw, hsw], ht⟩) (fun q hq => absurd hq List.not_mem_nil) dX0_isPlainWaySo_98
  · refine xn_tableOut (tgt := 99) hx hb (by omega) dX0_isPlainWaySo_1 (by omega) (by decide) ?_
    have hd0 : wv ≠ 0 := by omega
    have hd1 : wv ≠ 1 := by omega
    have hd2 : wv ≠ 2 := by omega
    have hd3 : wv ≠ 3 := by omega
    have hd4 : wv ≠ 4 := by omega
    refine lv_iload_n hx hb dX0_isPlainWaySo_99 rfl (lv_at hl 0 rfl) ?_
    refine lv_iconst (v := nI 1) hx hb dX0_isPlainWaySo_100 (by decide) ?_
    refine jn_icmp_eq hx hb (by omega) (by decide) dX0_isPlainWaySo_101 dX0_isPlainWaySo_104 dX0_isPlainWaySo_105 dX0_isPlainWaySo_108 ?_
    exact W.zret (v := nI (Bool.toNat (decide (cv ≠ 1)))) (ty := .boolean) hx hb hr (xb_nar _) (fun t ht hW => ⟨_, rfl, by simp [pw, hgt, hd0, hd1, hd2, hd3, hd4], ht⟩) (fun q hq => absurd hq List.not_mem_nil) dX0_isPlainWaySo_109
set_option maxHeartbeats 4000000 in
set_option maxRecDepth 100000 in
theorem c_X0_isSo (l : Launch) (dC : Nat → ClassId) (dI : Nat → Nat → Nat) (cD cZ cI cL : ClassId) (h a0 a1 a2 a3 : Nat) (N : Nat → UInt64) (G T O : Nat → Int32) (en bn kn : Nat) (hen : en < 6) (hbn : bn < 5) (hkn : kn < 24) : Met l yX0_isSo wsX0_isSo ({ frames := 1, cells := 0, slots := 0, locals := 22 }) (va_Pc [.ref h, .int (nI (en)), .int (nI (bn)), .int (nI (kn))] (fun U => okP dC dI cD cZ cI cL h a0 a1 a2 a3 N G T O U U.heap)) (vp_Si (fun r => r = nI (Bool.toNat (so G N (en * 5 + bn) (6 * 5 + bn) kn)))) 0 0 (fun _ => False) := by
  refine Met.ofW (cc := cX0_isSo) (maxL := 10) (ret := (some .boolean)) (by decide) rfl ?_
  intro p e s m args below meth c s₁ B hml hv
  obtain ⟨rfl, hO⟩ := hv
  obtain ⟨hP, hK, hN⟩ := id hO
  have hP : va_P (dC, dI) vwCl [(h, .inr (0, [.ref a0, .ref a1, .ref a2, .ref a3])), (a0, .inl (cD, 35, .inr (.inr (.inr (.inl (N)))))), (a1, .inl (cZ, 35, .inl (G))), (a2, .inl (cI, 30, .inl (T))), (a3, .inl (cI, 6, .inl (O)))] s.heap := hP
  have hx := B.exec
  have hb := B.bytes
  have hr := B.returns
  have hts := atoms_spec (ws := wsX0_isSo) B.pre
  have hown : s.vm.findClass RX0 = some m.cls := findClass_of_methodNamed B.named
  have hlocks := B.notSynchronized
  have hl := lv_entry ([.ref h, .int (nI (en)), .int (nI (bn)), .int (nI (kn))]) (n := 10) (Nat.le_of_ble_eq_true rfl)
  rw [lg_entry_eq]
  generalize (lg_sl ([.ref h, .int (nI (en)), .int (nI (bn)), .int (nI (kn))]) ++ List.replicate (10 - (lg_sl ([.ref h, .int (nI (en)), .int (nI (bn)), .int (nI (kn))])).length) Slot.unset).toArray = ls at hl ⊢
  have hl : lv_has ls 10 [(0, .ref h), (1, .int (nI (en))), (2, .int (nI (bn))), (3, .int (nI (kn)))] := hl
  refine lv_iload_n hx hb dX0_isSo_0 rfl (lv_at hl 1 rfl) ?_
  refine lv_iload_n hx hb dX0_isSo_1 rfl (lv_at hl 2 rfl) ?_
  refine vp_callSi (va_Run.run (va_runSN (host := RX1) (As := [.int (nI (en)), .int (nI (bn))]) (rest := []) ⟨hx, hb, hml, hown, hts⟩ (c_X1_cellOf l (en) (bn)) ⟨va_cnB 2 hts gX0_isSo_X1_cellOf_n40 rfl rfl rfl hN (hts (.initialized RX1) (by decide +kernel)) (by decide +kernel) ⟨Nat.le_of_ble_eq_true rfl, Nat.le_of_ble_eq_true rfl⟩, hts (.static yX1_cellOf) (by decide +kernel), trivial⟩ preT rfl rfl hl.1 rfl (lv_room (Nat.le_of_ble_eq_true rfl)) dX0_isSo_2 ⟨Nat.zero_le _, Nat.zero_le _⟩)) (fun r1 er1 => ?_)
  subst er1
  refine lv_istore (lv' := [(4, .int (nI (en * 5 + bn))), (0, .ref h), (1, .int (nI (en))), (2, .int (nI (bn))), (3, .int (nI (kn)))]) hx hb dX0_isSo_5 hl (by decide) rfl (fun ls hl => ?_)
  refine lv_bipush (v := nI 6) hx hb dX0_isSo_7 (by decide) ?_
  refine lv_iload_n hx hb dX0_isSo_9 rfl (lv_at hl 3 rfl) ?_
  refine vp_callSi (va_Run.run (va_runSN (host := RX1) (As := [.int (nI (6)), .int (nI (bn))]) (rest := []) ⟨hx, hb, hml, hown, hts⟩ (c_X1_cellOf l (6) (bn)) ⟨va_cnB 2 hts gX0_isSo_X1_cellOf_n40 rfl rfl rfl hN (hts (.initialized RX1) (by decide +kernel)) (by decide +kernel) ⟨Nat.le_of_ble_eq_true rfl, Nat.le_of_ble_eq_true rfl⟩, hts (.static yX1_cellOf) (by decide +kernel), trivial⟩ preT rfl rfl hl.1 rfl (lv_room (Nat.le_of_ble_eq_true rfl)) dX0_isSo_10 ⟨Nat.zero_le _, Nat.zero_le _⟩)) (fun r2 er2 => ?_)
  subst er2
  refine lv_istore (lv' := [(5, .int (nI (6 * 5 + bn))), (4, .int (nI (en * 5 + bn))), (0, .ref h), (1, .int (nI (en))), (2, .int (nI (bn))), (3, .int (nI (kn)))]) hx hb dX0_isSo_13 hl (by decide) rfl (fun ls hl => ?_)
  refine lv_iload_n hx hb dX0_isSo_15 rfl (lv_at hl 5 rfl) ?_
  refine lv_bipush (v := nI 6) hx hb dX0_isSo_16 (by decide) ?_
  refine xn_idiv hx hb (by omega) (by decide) (by decide) dX0_isSo_18 ?_
  refine lv_istore (lv' := [(6, .int (nI (kn / 6))), (5, .int (nI (6 * 5 + bn))), (4, .int (nI (en * 5 + bn))), (0, .ref h), (1, .int (nI (en))), (2, .int (nI (bn))), (3, .int (nI (kn)))]) hx hb dX0_isSo_19 hl (by decide) rfl (fun ls hl => ?_)
  refine lv_iload hx hb dX0_isSo_21 (lv_at hl 0 rfl) ?_
  refine lv_iconst (v := nI 2) hx hb dX0_isSo_23 (by decide) ?_
  refine jn_icmp_lt hx hb (by omega) (by decide) dX0_isSo_24 dX0_isSo_27 dX0_isSo_28 dX0_isSo_31 ?_
  refine lv_istore (lv' := [(7, .int (nI (Bool.toNat (decide (2 ≤ (kn / 6)))))), (6, .int (nI (kn / 6))), (5, .int (nI (6 * 5 + bn))), (4, .int (nI (en * 5 + bn))), (0, .ref h), (1, .int (nI (en))), (2, .int (nI (bn))), (3, .int (nI (kn)))]) hx hb dX0_isSo_32 hl (by decide) rfl (fun ls hl => ?_)
  refine lv_iload hx hb dX0_isSo_34 (lv_at hl 1 rfl) ?_
  refine lv_iconst (v := nI 2) hx hb dX0_isSo_36 (by decide) ?_
  refine xn_irem hx hb (by omega) (by decide) (by decide) dX0_isSo_37 ?_
  refine lv_iconst (v := nI 1) hx hb dX0_isSo_38 (by decide) ?_
  refine jn_icmp_ne hx hb (by omega) (by decide) dX0_isSo_39 dX0_isSo_42 dX0_isSo_43 dX0_isSo_46 ?_
  refine lv_istore (lv' := [(8, .int (nI (Bool.toNat (decide (((kn / 6) % 2) = 1))))), (7, .int (nI (Bool.toNat (decide (2 ≤ (kn / 6)))))), (6, .int (nI (kn / 6))), (5, .int (nI (6 * 5 + bn))), (4, .int (nI (en * 5 + bn))), (0, .ref h), (1, .int (nI (en))), (2, .int (nI (bn))), (3, .int (nI (kn)))]) hx hb dX0_isSo_47 hl (by decide) rfl (fun ls hl => ?_)
  refine lv_iload hx hb dX0_isSo_49 (lv_at hl 1 rfl) ?_
  refine xb_if_eq (tgt := 65) hx hb dX0_isSo_51 (by decide) (fun c51 => ?_) (fun c51 => ?_)
  · refine lv_aload_n hx hb dX0_isSo_65 rfl (lv_at hl 5 rfl) ?_
    refine lv_iload hx hb dX0_isSo_66 (lv_at hl 4 rfl) ?_
    refine lv_iload hx hb dX0_isSo_68 (lv_at hl 3 rfl) ?_
    refine vp_callSi (va_Run.run (va_runV (As := [.int (nI (en * 5 + bn)), .int (nI (6 * 5 + bn))]) (rest := []) ⟨hx, hb, hml, hown, hts⟩ (c_X0_relation l dC dI cD cZ cI cL h a0 a1 a2 a3 N G T O (en * 5 + bn) (6 * 5 + bn) (by omega) (by omega)) (cwV 2 hts gX0_isSo_X0_relation rfl rfl rfl (by decide +kernel) ⟨Nat.le_of_ble_eq_true rfl, Nat.le_of_ble_eq_true rfl⟩) (okP_pre ⟨hP, hK, hN⟩) rfl rfl hl.1 rfl (lv_room (Nat.le_of_ble_eq_true rfl)) dX0_isSo_70 ⟨Nat.zero_le _, Nat.zero_le _⟩)) (fun r3 er3 => ?_)
    subst er3
    have := rl_le G N (en * 5 + bn) (6 * 5 + bn)
    refine lv_istore (lv' := [(9, .int (nI (rl G N (en * 5 + bn) (6 * 5 + bn)))), (8, .int (nI (Bool.toNat (decide (((kn / 6) % 2) = 1))))), (7, .int (nI (Bool.toNat (decide (2 ≤ (kn / 6)))))), (6, .int (nI (kn / 6))), (5, .int (nI (6 * 5 + bn))), (4, .int (nI (en * 5 + bn))), (0, .ref h), (1, .int (nI (en))), (2, .int (nI (bn))), (3, .int (nI (kn)))]) hx hb dX0_isSo_73 hl (by decide) rfl (fun ls hl => ?_)
    refine lv_iload hx hb dX0_isSo_75 (lv_at hl 0 rfl) ?_
    refine lv_iload_n hx hb dX0_isSo_77 rfl (lv_at hl 9 rfl) ?_
    refine lv_bipush (v := nI 6) hx hb dX0_isSo_78 (by decide) ?_
    refine xn_irem hx hb (by omega) (by decide) (by decide) dX0_isSo_80 ?_
    refine vp_callSi (va_Run.run (va_runS (As := [.int (nI (rl G N (en * 5 + bn) (6 * 5 + bn))), .int (nI (kn % 6))]) (rest := []) ⟨hx, hb, hml, hown, hts⟩ (c_X0_isPlainWaySo l (rl G N (en * 5 + bn) (6 * 5 + bn)) (kn % 6) (by omega) (by omega)) (va_cwS 2 hts gX0_isSo_X0_isPlainWaySo rfl rfl rfl (by decide +kernel) ⟨Nat.le_of_ble_eq_true rfl, Nat.le_of_ble_eq_true rfl⟩) preT rfl rfl hl.1 rfl (lv_room (Nat.le_of_ble_eq_true rfl)) dX0_isSo_81 ⟨Nat.zero_le _, Nat.zero_le _⟩)) (fun r4 er4 => ?_)
    subst er4
    refine lv_iload hx hb dX0_isSo_84 (lv_at hl 1 rfl) ?_
    refine jb_icmp_eq hx hb dX0_isSo_86 dX0_isSo_89 dX0_isSo_90 dX0_isSo_93 ?_
    exact W.zret (v := nI (Bool.toNat ((pw (rl G N (en * 5 + bn) (6 * 5 + bn)) (kn % 6)) != (decide (((kn / 6) % 2) = 1))))) (ty := .boolean) hx hb hr (xb_nar _) (fun t ht hW => ⟨_, rfl, by rw [so, if_neg (of_decide_eq_false c51)], ht⟩) (fun q hq => absurd hq List.not_mem_nil) dX0_isSo_94
  · refine lv_aload_n hx hb dX0_isSo_54 rfl (lv_at hl 5 rfl) ?_
    refine lv_iload hx hb dX0_isSo_55 (lv_at hl 3 rfl) ?_
    refine lv_iload hx hb dX0_isSo_57 (lv_at hl 4 rfl) ?_
    refine vp_callSi (va_Run.run (va_runV (As := [.int (nI (6 * 5 + bn)), .int (nI (en * 5 + bn))]) (rest := []) ⟨hx, hb, hml, hown, hts⟩ (c_X0_relation l dC dI cD cZ cI cL h a0 a1 a2 a3 N G T O (6 * 5 + bn) (en * 5 + bn) (by omega) (by omega)) (cwV 2 hts gX0_isSo_X0_relation rfl rfl rfl (by decide +kernel) ⟨Nat.le_of_ble_eq_true rfl, Nat.le_of_ble_eq_true rfl⟩) (okP_pre ⟨hP, hK, hN⟩) rfl rfl hl.1 rfl (lv_room (Nat.le_of_ble_eq_true rfl)) dX0_isSo_59 ⟨Nat.zero_le _, Nat.zero_le _⟩)) (fun r5 er5 => ?_)
    subst er5
    have := rl_le G N (6 * 5 + bn) (en * 5 + bn)
    refine lv_goto (tgt := 73) hx hb dX0_isSo_62 (by decide) ?_
    refine lv_istore (lv' := [(9, .int (nI (rl G N (6 * 5 + bn) (en * 5 + bn)))), (8, .int (nI (Bool.toNat (decide (((kn / 6) % 2) = 1))))), (7, .int (nI (Bool.toNat (decide (2 ≤ (kn / 6)))))), (6, .int (nI (kn / 6))), (5, .int (nI (6 * 5 + bn))), (4, .int (nI (en * 5 + bn))), (0, .ref h), (1, .int (nI (en))), (2, .int (nI (bn))), (3, .int (nI (kn)))]) hx hb dX0_isSo_73 hl (by decide) rfl (fun ls hl => ?_)
    refine lv_iload hx hb dX0_isSo_75 (lv_at hl 0 rfl) ?_
    refine lv_iload_n hx hb dX0_isSo_77 rfl (lv_at hl 9 rfl) ?_
    refine lv_bipush (v := nI 6) hx hb dX0_isSo_78 (by decide) ?_
    refine xn_irem hx hb (by omega) (by decide) (by decide) dX0_isSo_80 ?_
    refine vp_callSi (va_Run.run (va_runS (As := [.int (nI (rl G N (6 * 5 + bn) (en * 5 + bn))), .int (nI (kn % 6))]) (rest := []) ⟨hx, hb, hml, hown, hts⟩ (c_X0_isPlainWaySo l (rl G N (6 * 5 + bn) (en * 5 + bn)) (kn % 6) (by omega) (by omega)) (va_cwS 2 hts gX0_isSo_X0_isPlainWaySo rfl rfl rfl (by decide +kernel) ⟨Nat.le_of_ble_eq_true rfl, Nat.le_of_ble_eq_true rfl⟩) preT rfl rfl hl.1 rfl (lv_room (Nat.le_of_ble_eq_true rfl)) dX0_isSo_81 ⟨Nat.zero_le _, Nat.zero_le _⟩)) (fun r6 er6 => ?_)
    subst er6
    refine lv_iload hx hb dX0_isSo_84 (lv_at hl 1 rfl) ?_
    refine jb_icmp_eq hx hb dX0_isSo_86 dX0_isSo_89 dX0_isSo_90 dX0_isSo_93 ?_
    exact W.zret (v := nI (Bool.toNat ((pw (rl G N (6 * 5 + bn) (en * 5 + bn)) (kn % 6)) != (decide (((kn / 6) % 2) = 1))))) (ty := .boolean) hx hb hr (xb_nar _) (fun t ht hW => ⟨_, rfl, by rw [so, if_pos (of_decide_eq_true c51)], ht⟩) (fun q hq => absurd hq List.not_mem_nil) dX0_isSo_94
set_option maxHeartbeats 4000000 in
set_option maxRecDepth 100000 in
theorem c_X0_seatsWhereSo (l : Launch) (dC : Nat → ClassId) (dI : Nat → Nat → Nat) (cD cZ cI cL : ClassId) (h a0 a1 a2 a3 : Nat) (N : Nat → UInt64) (G T O : Nat → Int32) (en kn : Nat) (hen : en < 6) (hkn : kn < 24) : Met l yX0_seatsWhereSo wsX0_seatsWhereSo ({ frames := 2, cells := 0, slots := 0, locals := 51 }) (va_Pc [.ref h, .int (nI (en)), .int (nI (kn))] (fun U => okP dC dI cD cZ cI cL h a0 a1 a2 a3 N G T O U U.heap)) (vp_Si (fun r => r = nI (cnt (fun b => so G N (en * 5 + b) (6 * 5 + b) kn) 5))) 0 0 (fun _ => False) := by
  refine Met.ofW (cc := cX0_seatsWhereSo) (maxL := 5) (ret := (some .int)) (by decide) rfl ?_
  intro p e s m args below meth c s₁ B hml hv
  obtain ⟨rfl, hO⟩ := hv
  obtain ⟨hP, hK, hN⟩ := id hO
  have hP : va_P (dC, dI) vwCl [(h, .inr (0, [.ref a0, .ref a1, .ref a2, .ref a3])), (a0, .inl (cD, 35, .inr (.inr (.inr (.inl (N)))))), (a1, .inl (cZ, 35, .inl (G))), (a2, .inl (cI, 30, .inl (T))), (a3, .inl (cI, 6, .inl (O)))] s.heap := hP
  have hx := B.exec
  have hb := B.bytes
  have hr := B.returns
  have hts := atoms_spec (ws := wsX0_seatsWhereSo) B.pre
  have hown : s.vm.findClass RX0 = some m.cls := findClass_of_methodNamed B.named
  have hlocks := B.notSynchronized
  have hl := lv_entry ([.ref h, .int (nI (en)), .int (nI (kn))]) (n := 5) (Nat.le_of_ble_eq_true rfl)
  rw [lg_entry_eq]
  generalize (lg_sl ([.ref h, .int (nI (en)), .int (nI (kn))]) ++ List.replicate (5 - (lg_sl ([.ref h, .int (nI (en)), .int (nI (kn))])).length) Slot.unset).toArray = ls at hl ⊢
  have hl : lv_has ls 5 [(0, .ref h), (1, .int (nI (en))), (2, .int (nI (kn)))] := hl
  refine lv_iconst (v := nI 0) hx hb dX0_seatsWhereSo_0 (by decide) ?_
  refine lv_istore_n (lv' := [(3, .int (nI (0))), (0, .ref h), (1, .int (nI (en))), (2, .int (nI (kn)))]) hx hb dX0_seatsWhereSo_1 rfl hl (by decide) rfl (fun ls hl => ?_)
  refine lv_iconst (v := nI 0) hx hb dX0_seatsWhereSo_2 (by decide) ?_
  refine lv_istore (lv' := [(4, .int (nI (0))), (3, .int (nI (0))), (0, .ref h), (1, .int (nI (en))), (2, .int (nI (kn)))]) hx hb dX0_seatsWhereSo_3 hl (by decide) rfl (fun ls hl => ?_)
  refine W_loop (α := Nat) (P := fun n i ls => i + n = 6 ∧ i < 6 ∧ lv_has ls 5 [(3, .int (nI (cnt (fun b => so G N (en * 5 + b) (6 * 5 + b) kn) i))), (4, .int (nI (i))), (0, .ref h), (1, .int (nI (en))), (2, .int (nI (kn)))]) (st := fun _ => []) 5 (fun i ls h => by have := h.1; have := h.2.1; omega) (fun n ih i ls h => ?_) (6) (0) ls ⟨by omega, by omega, lv_sub hl [1, 0, 2, 3, 4] rfl⟩
  obtain ⟨hin, hi6, hl⟩ := h
  have := cnt_le (fun b => so G N (en * 5 + b) (6 * 5 + b) kn) i
  refine lv_iload hx hb dX0_seatsWhereSo_5 (lv_at hl 1 rfl) ?_
  refine lv_iconst (v := nI 5) hx hb dX0_seatsWhereSo_7 (by decide) ?_
  refine xn_icmp_ge (tgt := 31) hx hb (by omega) (by decide) dX0_seatsWhereSo_8 (by decide) (fun c8 => ?_) (fun c8 => ?_)
  · refine lv_iload_n hx hb dX0_seatsWhereSo_31 rfl (lv_at hl 0 rfl) ?_
    exact W.iret (v := nI (cnt (fun b => so G N (en * 5 + b) (6 * 5 + b) kn) i)) hx hb hr (fun t ht hW => ⟨_, rfl, by rw [show i = 5 by omega], ht⟩) (fun q hq => absurd hq List.not_mem_nil) dX0_seatsWhereSo_32
  · refine lv_aload_n hx hb dX0_seatsWhereSo_11 rfl (lv_at hl 2 rfl) ?_
    refine lv_iload_n hx hb dX0_seatsWhereSo_12 rfl (lv_at hl 3 rfl) ?_
    refine lv_iload hx hb dX0_seatsWhereSo_13 (lv_at hl 1 rfl) ?_
    refine lv_iload_n hx hb dX0_seatsWhereSo_15 rfl (lv_at hl 4 rfl) ?_
    refine vp_callSi (va_Run.run (va_runV (As := [.int (nI (en)), .int (nI (i)), .int (nI (kn))]) (rest := []) ⟨hx, hb, hml, hown, hts⟩ (c_X0_isSo l dC dI cD cZ cI cL h a0 a1 a2 a3 N G T O (en) (i) (kn) (by omega) (by omega) (by omega)) (cwV 3 hts gX0_seatsWhereSo_X0_isSo rfl rfl rfl (by decide +kernel) ⟨Nat.le_of_ble_eq_true rfl, Nat.le_of_ble_eq_true rfl⟩) (okP_pre ⟨hP, hK, hN⟩) rfl rfl hl.1 rfl (lv_room (Nat.le_of_ble_eq_true rfl)) dX0_seatsWhereSo_16 ⟨Nat.zero_le _, Nat.zero_le _⟩)) (fun r1 er1 => ?_)
    subst er1
    refine xb_if_eq (tgt := 25) hx hb dX0_seatsWhereSo_19 (by decide) (fun c19 => ?_) (fun c19 => ?_)
    · refine xn_iinc (lv2 := [(4, .int (nI (i + 1))), (3, .int (nI (cnt (fun b => so G N (en * 5 + b) (6 * 5 + b) kn) i))), (0, .ref h), (1, .int (nI (en))), (2, .int (nI (kn)))]) hx hb dX0_seatsWhereSo_25 hl (k0 := 1) rfl (by decide) rfl (fun ls hl => ?_)
      refine lv_goto (tgt := 5) hx hb dX0_seatsWhereSo_28 (by decide) ?_
      exact ih (i + 1) ls ⟨by omega, by omega, by rw [cnt_f (f := (fun b => so G N (en * 5 + b) (6 * 5 + b) kn)) c19]; exact lv_sub hl [1, 0, 2, 3, 4] rfl⟩
    · refine xn_iinc (lv2 := [(3, .int (nI (cnt (fun b => so G N (en * 5 + b) (6 * 5 + b) kn) i + 1))), (4, .int (nI (i))), (0, .ref h), (1, .int (nI (en))), (2, .int (nI (kn)))]) hx hb dX0_seatsWhereSo_22 hl (k0 := 0) rfl (by decide) rfl (fun ls hl => ?_)
      refine xn_iinc (lv2 := [(4, .int (nI (i + 1))), (3, .int (nI (cnt (fun b => so G N (en * 5 + b) (6 * 5 + b) kn) i + 1))), (0, .ref h), (1, .int (nI (en))), (2, .int (nI (kn)))]) hx hb dX0_seatsWhereSo_25 hl (k0 := 1) rfl (by decide) rfl (fun ls hl => ?_)
      refine lv_goto (tgt := 5) hx hb dX0_seatsWhereSo_28 (by decide) ?_
      exact ih (i + 1) ls ⟨by omega, by omega, by rw [cnt_t (f := (fun b => so G N (en * 5 + b) (6 * 5 + b) kn)) c19]; exact lv_sub hl [1, 0, 2, 3, 4] rfl⟩
set_option maxHeartbeats 4000000 in
set_option maxRecDepth 100000 in
theorem c_X0_stopOf (l : Launch) (dC : Nat → ClassId) (dI : Nat → Nat → Nat) (cD cZ cI cL : ClassId) (h a0 a1 a2 a3 : Nat) (N : Nat → UInt64) (G T O : Nat → Int32) (en fr kn : Nat) (hen : en < 6) (hfr : fr < 6) (hkn : kn < 24) : Met l yX0_stopOf wsX0_stopOf ({ frames := 2, cells := 0, slots := 0, locals := 51 }) (va_Pc [.ref h, .int (nI (en)), .int (nI (fr)), .int (nI (kn))] (fun U => okP dC dI cD cZ cI cL h a0 a1 a2 a3 N G T O U U.heap)) (vp_Si (fun r => r = nI (stp (fun b => so G N (en * 5 + b) (6 * 5 + b) kn) (5 - fr) fr))) 0 0 (fun _ => False) := by
  refine Met.ofW (cc := cX0_stopOf) (maxL := 5) (ret := (some .int)) (by decide) rfl ?_
  intro p e s m args below meth c s₁ B hml hv
  obtain ⟨rfl, hO⟩ := hv
  obtain ⟨hP, hK, hN⟩ := id hO
  have hP : va_P (dC, dI) vwCl [(h, .inr (0, [.ref a0, .ref a1, .ref a2, .ref a3])), (a0, .inl (cD, 35, .inr (.inr (.inr (.inl (N)))))), (a1, .inl (cZ, 35, .inl (G))), (a2, .inl (cI, 30, .inl (T))), (a3, .inl (cI, 6, .inl (O)))] s.heap := hP
  have hx := B.exec
  have hb := B.bytes
  have hr := B.returns
  have hts := atoms_spec (ws := wsX0_stopOf) B.pre
  have hown : s.vm.findClass RX0 = some m.cls := findClass_of_methodNamed B.named
  have hlocks := B.notSynchronized
  have hl := lv_entry ([.ref h, .int (nI (en)), .int (nI (fr)), .int (nI (kn))]) (n := 5) (Nat.le_of_ble_eq_true rfl)
  rw [lg_entry_eq]
  generalize (lg_sl ([.ref h, .int (nI (en)), .int (nI (fr)), .int (nI (kn))]) ++ List.replicate (5 - (lg_sl ([.ref h, .int (nI (en)), .int (nI (fr)), .int (nI (kn))])).length) Slot.unset).toArray = ls at hl ⊢
  have hl : lv_has ls 5 [(0, .ref h), (1, .int (nI (en))), (2, .int (nI (fr))), (3, .int (nI (kn)))] := hl
  refine lv_iload_n hx hb dX0_stopOf_0 rfl (lv_at hl 2 rfl) ?_
  refine lv_istore (lv' := [(4, .int (nI (fr))), (0, .ref h), (1, .int (nI (en))), (2, .int (nI (fr))), (3, .int (nI (kn)))]) hx hb dX0_stopOf_1 hl (by decide) rfl (fun ls hl => ?_)
  refine W_loop (α := Nat) (P := fun n i ls => i + n = 6 ∧ i < 6 ∧ stp (fun b => so G N (en * 5 + b) (6 * 5 + b) kn) (5 - i) i = stp (fun b => so G N (en * 5 + b) (6 * 5 + b) kn) (5 - fr) fr ∧ lv_has ls 5 [(4, .int (nI (i))), (0, .ref h), (1, .int (nI (en))), (3, .int (nI (kn)))]) (st := fun _ => []) 3 (fun i ls h => by have := h.1; have := h.2.1; omega) (fun n ih i ls h => ?_) (6 - fr) (fr) ls ⟨by omega, by omega, rfl, lv_sub hl [0, 1, 2, 4] rfl⟩
  obtain ⟨hin, hi6, h2, hl⟩ := h
  refine lv_iload hx hb dX0_stopOf_3 (lv_at hl 0 rfl) ?_
  refine lv_iconst (v := nI 5) hx hb dX0_stopOf_5 (by decide) ?_
  refine xn_icmp_ge (tgt := 26) hx hb (by omega) (by decide) dX0_stopOf_6 (by decide) (fun c6 => ?_) (fun c6 => ?_)
  · refine lv_iload hx hb dX0_stopOf_26 (lv_at hl 0 rfl) ?_
    exact W.iret (v := nI i) hx hb hr (fun t ht hW => ⟨_, rfl, by rw [← h2, show i = 5 by omega]; rfl, ht⟩) (fun q hq => absurd hq List.not_mem_nil) dX0_stopOf_28
  · refine lv_aload_n hx hb dX0_stopOf_9 rfl (lv_at hl 1 rfl) ?_
    refine lv_iload_n hx hb dX0_stopOf_10 rfl (lv_at hl 2 rfl) ?_
    refine lv_iload hx hb dX0_stopOf_11 (lv_at hl 0 rfl) ?_
    refine lv_iload_n hx hb dX0_stopOf_13 rfl (lv_at hl 3 rfl) ?_
    refine vp_callSi (va_Run.run (va_runV (As := [.int (nI (en)), .int (nI (i)), .int (nI (kn))]) (rest := []) ⟨hx, hb, hml, hown, hts⟩ (c_X0_isSo l dC dI cD cZ cI cL h a0 a1 a2 a3 N G T O (en) (i) (kn) (by omega) (by omega) (by omega)) (cwV 3 hts gX0_stopOf_X0_isSo rfl rfl rfl (by decide +kernel) ⟨Nat.le_of_ble_eq_true rfl, Nat.le_of_ble_eq_true rfl⟩) (okP_pre ⟨hP, hK, hN⟩) rfl rfl hl.1 rfl (lv_room (Nat.le_of_ble_eq_true rfl)) dX0_stopOf_14 ⟨Nat.zero_le _, Nat.zero_le _⟩)) (fun r1 er1 => ?_)
    subst er1
    refine xb_if_eq (tgt := 26) hx hb dX0_stopOf_17 (by decide) (fun c17 => ?_) (fun c17 => ?_)
    · refine lv_iload hx hb dX0_stopOf_26 (lv_at hl 0 rfl) ?_
      exact W.iret (v := nI i) hx hb hr (fun t ht hW => ⟨_, rfl, by rw [← h2, show 5 - i = (4 - i) + 1 by omega, stp_stop (f := (fun b => so G N (en * 5 + b) (6 * 5 + b) kn)) c17], ht⟩) (fun q hq => absurd hq List.not_mem_nil) dX0_stopOf_28
    · refine xn_iinc (lv2 := [(4, .int (nI (i + 1))), (0, .ref h), (1, .int (nI (en))), (3, .int (nI (kn)))]) hx hb dX0_stopOf_20 hl (k0 := 0) rfl (by decide) rfl (fun ls hl => ?_)
      refine lv_goto (tgt := 3) hx hb dX0_stopOf_23 (by decide) ?_
      exact ih (i + 1) ls ⟨by omega, by omega, by rw [← h2, show 5 - i = (5 - (i + 1)) + 1 by omega, stp_go (f := (fun b => so G N (en * 5 + b) (6 * 5 + b) kn)) c17], lv_sub hl [0, 1, 2, 3] rfl⟩
set_option maxHeartbeats 4000000 in
set_option maxRecDepth 100000 in
theorem c_X0_truthAt (l : Launch) (dC : Nat → ClassId) (dI : Nat → Nat → Nat) (cD cZ cI cL : ClassId) (h a0 a1 a2 a3 : Nat) (N : Nat → UInt64) (G T O : Nat → Int32) (i : Nat) (hi : i < 30) : Met l yX0_truthAt wsX0_truthAt ({ frames := 0, cells := 0, slots := 0, locals := 0 }) (va_Pc [.ref h, .int (nI (i))] (fun U => okP dC dI cD cZ cI cL h a0 a1 a2 a3 N G T O U U.heap)) (vp_Si (fun r => r = T i)) 0 0 (fun _ => False) := by
  refine Met.ofW (cc := cX0_truthAt) (maxL := 2) (ret := (some .int)) (by decide) rfl ?_
  intro p e s m args below meth c s₁ B hml hv
  obtain ⟨rfl, hO⟩ := hv
  obtain ⟨hP, hK, hN⟩ := id hO
  have hP : va_P (dC, dI) vwCl [(h, .inr (0, [.ref a0, .ref a1, .ref a2, .ref a3])), (a0, .inl (cD, 35, .inr (.inr (.inr (.inl (N)))))), (a1, .inl (cZ, 35, .inl (G))), (a2, .inl (cI, 30, .inl (T))), (a3, .inl (cI, 6, .inl (O)))] s.heap := hP
  have hx := B.exec
  have hb := B.bytes
  have hr := B.returns
  have hts := atoms_spec (ws := wsX0_truthAt) B.pre
  have hown : s.vm.findClass RX0 = some m.cls := findClass_of_methodNamed B.named
  have hlocks := B.notSynchronized
  have hin0 : ∀ w ∈ wsX00, w ∈ wsX0_truthAt := (fun w h => List.mem_cons_of_mem _ (List.mem_append_right _ h))
  have fl19 := hts (.fieldLink RX0 19 "JuryTable$Panel" "truths" "[I") (by decide +kernel)
  have hl := lv_entry ([.ref h, .int (nI (i))]) (n := 2) (Nat.le_of_ble_eq_true rfl)
  rw [lg_entry_eq]
  generalize (lg_sl ([.ref h, .int (nI (i))]) ++ List.replicate (2 - (lg_sl ([.ref h, .int (nI (i))])).length) Slot.unset).toArray = ls at hl ⊢
  have hl : lv_has ls 2 [(0, .ref h), (1, .int (nI (i)))] := hl
  refine lv_aload_n hx hb dX0_truthAt_0 rfl (lv_at hl 0 rfl) ?_
  refine va_get (D := (dC, dI)) (ci := 0) (v := .ref a2) (C := RX0) (T := TX0) (N := 4) hx hb hts hin0 hown hK hP 0 rfl rfl 2 (by decide) fl19 (fun _ h9 => h9) rfl dX0_truthAt_1 ?_
  refine lv_iload_n hx hb dX0_truthAt_4 rfl (lv_at hl 1 rfl) ?_
  refine xn_iald hx hb hK hP 3 2 rfl rfl (n := 30) (j := i) (by omega) (by decide) dX0_truthAt_5 ?_
  exact W.iret (v := T i) hx hb hr (fun t ht hW => ⟨_, rfl, rfl, ht⟩) (fun q hq => absurd hq List.not_mem_nil) dX0_truthAt_6
set_option maxHeartbeats 4000000 in
set_option maxRecDepth 100000 in
theorem c_X0_isNumber (l : Launch) (dC : Nat → ClassId) (dI : Nat → Nat → Nat) (cD cZ cI cL : ClassId) (h a0 a1 a2 a3 : Nat) (N : Nat → UInt64) (G T O : Nat → Int32) (i : Nat) (hi : i < 35) (hG : ∀ j, G j = 0 ∨ G j = 1) : Met l yX0_isNumber wsX0_isNumber ({ frames := 0, cells := 0, slots := 0, locals := 0 }) (va_Pc [.ref h, .int (nI (i))] (fun U => okP dC dI cD cZ cI cL h a0 a1 a2 a3 N G T O U U.heap)) (vp_Si (fun r => r = G i)) 0 0 (fun _ => False) := by
  refine Met.ofW (cc := cX0_isNumber) (maxL := 2) (ret := (some .boolean)) (by decide) rfl ?_
  intro p e s m args below meth c s₁ B hml hv
  obtain ⟨rfl, hO⟩ := hv
  obtain ⟨hP, hK, hN⟩ := id hO
  have hP : va_P (dC, dI) vwCl [(h, .inr (0, [.ref a0, .ref a1, .ref a2, .ref a3])), (a0, .inl (cD, 35, .inr (.inr (.inr (.inl (N)))))), (a1, .inl (cZ, 35, .inl (G))), (a2, .inl (cI, 30, .inl (T))), (a3, .inl (cI, 6, .inl (O)))] s.heap := hP
  have hx := B.exec
  have hb := B.bytes
  have hr := B.returns
  have hts := atoms_spec (ws := wsX0_isNumber) B.pre
  have hown : s.vm.findClass RX0 = some m.cls := findClass_of_methodNamed B.named
  have hlocks := B.notSynchronized
  have hin0 : ∀ w ∈ wsX00, w ∈ wsX0_isNumber := (fun w h => List.mem_cons_of_mem _ (List.mem_append_right _ h))
  have fl15 := hts (.fieldLink RX0 15 "JuryTable$Panel" "given" "[Z") (by decide +kernel)
  have hl := lv_entry ([.ref h, .int (nI (i))]) (n := 2) (Nat.le_of_ble_eq_true rfl)
  rw [lg_entry_eq]
  generalize (lg_sl ([.ref h, .int (nI (i))]) ++ List.replicate (2 - (lg_sl ([.ref h, .int (nI (i))])).length) Slot.unset).toArray = ls at hl ⊢
  have hl : lv_has ls 2 [(0, .ref h), (1, .int (nI (i)))] := hl
  refine lv_aload_n hx hb dX0_isNumber_0 rfl (lv_at hl 0 rfl) ?_
  refine va_get (D := (dC, dI)) (ci := 0) (v := .ref a1) (C := RX0) (T := TX0) (N := 4) hx hb hts hin0 hown hK hP 0 rfl rfl 1 (by decide) fl15 (fun _ h9 => h9) rfl dX0_isNumber_1 ?_
  refine lv_iload_n hx hb dX0_isNumber_4 rfl (lv_at hl 1 rfl) ?_
  refine xn_zald hx hb hK hP 2 1 rfl rfl (n := 35) (j := i) (by omega) (by decide) dX0_isNumber_5 ?_
  exact W.zret (v := G i) (ty := .boolean) hx hb hr (xz_nar (hG i)) (fun t ht hW => ⟨_, rfl, rfl, ht⟩) (fun q hq => absurd hq List.not_mem_nil) dX0_isNumber_6
set_option maxHeartbeats 4000000 in
set_option maxRecDepth 100000 in
theorem c_X0_truthsLike (l : Launch) (dC : Nat → ClassId) (dI : Nat → Nat → Nat) (cD cZ cI cL : ClassId) (h a0 a1 a2 a3 : Nat) (N : Nat → UInt64) (G T O : Nat → Int32) (tv : Int32) : Met l yX0_truthsLike wsX0_truthsLike ({ frames := 0, cells := 0, slots := 0, locals := 0 }) (va_Pc [.ref h, .int (tv)] (fun U => okP dC dI cD cZ cI cL h a0 a1 a2 a3 N G T O U U.heap)) (vp_Si (fun r => r = nI (cnt (fun j => decide (T j = tv)) 30))) 0 0 (fun _ => False) := by
  refine Met.ofW (cc := cX0_truthsLike) (maxL := 7) (ret := (some .int)) (by decide) rfl ?_
  intro p e s m args below meth c s₁ B hml hv
  obtain ⟨rfl, hO⟩ := hv
  obtain ⟨hP, hK, hN⟩ := id hO
  have hP : va_P (dC, dI) vwCl [(h, .inr (0, [.ref a0, .ref a1, .ref a2, .ref a3])), (a0, .inl (cD, 35, .inr (.inr (.inr (.inl (N)))))), (a1, .inl (cZ, 35, .inl (G))), (a2, .inl (cI, 30, .inl (T))), (a3, .inl (cI, 6, .inl (O)))] s.heap := hP
  have hx := B.exec
  have hb := B.bytes
  have hr := B.returns
  have hts := atoms_spec (ws := wsX0_truthsLike) B.pre
  have hown : s.vm.findClass RX0 = some m.cls := findClass_of_methodNamed B.named
  have hlocks := B.notSynchronized
  have hin0 : ∀ w ∈ wsX00, w ∈ wsX0_truthsLike := (fun w h => List.mem_cons_of_mem _ (List.mem_append_right _ h))
  have fl19 := hts (.fieldLink RX0 19 "JuryTable$Panel" "truths" "[I") (by decide +kernel)
  have hl := lv_entry ([.ref h, .int (tv)]) (n := 7) (Nat.le_of_ble_eq_true rfl)
  rw [lg_entry_eq]
  generalize (lg_sl ([.ref h, .int (tv)]) ++ List.replicate (7 - (lg_sl ([.ref h, .int (tv)])).length) Slot.unset).toArray = ls at hl ⊢
  have hl : lv_has ls 7 [(0, .ref h), (1, .int (tv))] := hl
  refine lv_iconst (v := nI 0) hx hb dX0_truthsLike_0 (by decide) ?_
  refine lv_istore_n (lv' := [(2, .int (nI (0))), (0, .ref h), (1, .int (tv))]) hx hb dX0_truthsLike_1 rfl hl (by decide) rfl (fun ls hl => ?_)
  refine lv_aload_n hx hb dX0_truthsLike_2 rfl (lv_at hl 1 rfl) ?_
  refine va_get (D := (dC, dI)) (ci := 0) (v := .ref a2) (C := RX0) (T := TX0) (N := 4) hx hb hts hin0 hown hK hP 0 rfl rfl 2 (by decide) fl19 (fun _ h9 => h9) rfl dX0_truthsLike_3 ?_
  refine lv_astore_n (lv' := [(3, .ref a2), (2, .int (nI (0))), (0, .ref h), (1, .int (tv))]) hx hb dX0_truthsLike_6 rfl hl (by decide) rfl (fun ls hl => ?_)
  refine lv_aload_n hx hb dX0_truthsLike_7 rfl (lv_at hl 0 rfl) ?_
  refine va_alen (v := nI 30) hx hb hK hP 3 2 rfl rfl rfl dX0_truthsLike_8 ?_
  refine lv_istore (lv' := [(4, .int (nI (30))), (3, .ref a2), (2, .int (nI (0))), (0, .ref h), (1, .int (tv))]) hx hb dX0_truthsLike_9 hl (by decide) rfl (fun ls hl => ?_)
  refine lv_iconst (v := nI 0) hx hb dX0_truthsLike_11 (by decide) ?_
  refine lv_istore (lv' := [(5, .int (nI (0))), (4, .int (nI (30))), (3, .ref a2), (2, .int (nI (0))), (0, .ref h), (1, .int (tv))]) hx hb dX0_truthsLike_12 hl (by decide) rfl (fun ls hl => ?_)
  refine W_loop (α := Nat) (P := fun n i ls => i + n = 31 ∧ i < 31 ∧ lv_has ls 7 [(2, .int (nI (cnt (fun j => decide (T j = tv)) i))), (5, .int (nI (i))), (0, .ref h), (1, .int (tv)), (3, .ref a2), (4, .int (nI (30)))]) (st := fun _ => []) 14 (fun i ls h => by have := h.1; have := h.2.1; omega) (fun n ih i ls h => ?_) (31) (0) ls ⟨by omega, by omega, lv_sub hl [3, 0, 4, 5, 2, 1] rfl⟩
  obtain ⟨hin, hi6, hl⟩ := h
  have := cnt_le (fun j => decide (T j = tv)) i
  refine lv_iload hx hb dX0_truthsLike_14 (lv_at hl 1 rfl) ?_
  refine lv_iload hx hb dX0_truthsLike_16 (lv_at hl 5 rfl) ?_
  refine xn_icmp_ge (tgt := 42) hx hb (by omega) (by decide) dX0_truthsLike_18 (by decide) (fun c18 => ?_) (fun c18 => ?_)
  · refine lv_iload_n hx hb dX0_truthsLike_42 rfl (lv_at hl 0 rfl) ?_
    exact W.iret (v := nI (cnt (fun j => decide (T j = tv)) i)) hx hb hr (fun t ht hW => ⟨_, rfl, by rw [show i = 30 by omega], ht⟩) (fun q hq => absurd hq List.not_mem_nil) dX0_truthsLike_43
  · refine lv_aload_n hx hb dX0_truthsLike_21 rfl (lv_at hl 4 rfl) ?_
    refine lv_iload hx hb dX0_truthsLike_22 (lv_at hl 1 rfl) ?_
    refine xn_iald hx hb hK hP 3 2 rfl rfl (n := 30) (j := i) (by omega) (by decide) dX0_truthsLike_24 ?_
    refine lv_istore (lv' := [(6, .int (T i)), (2, .int (nI (cnt (fun j => decide (T j = tv)) i))), (5, .int (nI (i))), (0, .ref h), (1, .int (tv)), (3, .ref a2), (4, .int (nI (30)))]) hx hb dX0_truthsLike_25 hl (by decide) rfl (fun ls hl => ?_)
    refine lv_iload hx hb dX0_truthsLike_27 (lv_at hl 0 rfl) ?_
    refine lv_iload_n hx hb dX0_truthsLike_29 rfl (lv_at hl 4 rfl) ?_
    refine lv_icmp_ne (tgt := 36) hx hb dX0_truthsLike_30 (by decide) (fun c30 => ?_) (fun c30 => ?_)
    · refine xn_iinc (lv2 := [(5, .int (nI (i + 1))), (6, .int (T i)), (2, .int (nI (cnt (fun j => decide (T j = tv)) i))), (0, .ref h), (1, .int (tv)), (3, .ref a2), (4, .int (nI (30)))]) hx hb dX0_truthsLike_36 hl (k0 := 2) rfl (by decide) rfl (fun ls hl => ?_)
      refine lv_goto (tgt := 14) hx hb dX0_truthsLike_39 (by decide) ?_
      exact ih (i + 1) ls ⟨by omega, by omega, by rw [cnt_f (f := (fun j => decide (T j = tv))) (decide_eq_false c30)]; exact lv_sub hl [2, 0, 3, 4, 5, 6] rfl⟩
    · refine xn_iinc (lv2 := [(2, .int (nI (cnt (fun j => decide (T j = tv)) i + 1))), (6, .int (T i)), (5, .int (nI (i))), (0, .ref h), (1, .int (tv)), (3, .ref a2), (4, .int (nI (30)))]) hx hb dX0_truthsLike_33 hl (k0 := 1) rfl (by decide) rfl (fun ls hl => ?_)
      refine xn_iinc (lv2 := [(5, .int (nI (i + 1))), (2, .int (nI (cnt (fun j => decide (T j = tv)) i + 1))), (6, .int (T i)), (0, .ref h), (1, .int (tv)), (3, .ref a2), (4, .int (nI (30)))]) hx hb dX0_truthsLike_36 hl (k0 := 2) rfl (by decide) rfl (fun ls hl => ?_)
      refine lv_goto (tgt := 14) hx hb dX0_truthsLike_39 (by decide) ?_
      exact ih (i + 1) ls ⟨by omega, by omega, by rw [cnt_t (f := (fun j => decide (T j = tv))) (decide_eq_true c30)]; exact lv_sub hl [1, 0, 3, 4, 5, 6] rfl⟩
set_option maxHeartbeats 4000000 in
set_option maxRecDepth 100000 in
theorem c_X0_goesAhead (l : Launch) (dC : Nat → ClassId) (dI : Nat → Nat → Nat) (cD cZ cI cL : ClassId) (h a0 a1 a2 a3 : Nat) (N : Nat → UInt64) (G T O : Nat → Int32) (ah nx sn : Nat) (sb : Bool) (hah : ah < 6) (hnx : nx < 6) (hsn : sn < 5) : Met l yX0_goesAhead wsX0_goesAhead ({ frames := 1, cells := 0, slots := 0, locals := 22 }) (va_Pc [.ref h, .int (nI (ah)), .int (nI (nx)), .int (nI (sn)), .int (nI (Bool.toNat (sb)))] (fun U => okP dC dI cD cZ cI cL h a0 a1 a2 a3 N G T O U U.heap)) (vp_Si (fun r => r = nI (Bool.toNat (gh (rl G N (ah * 5 + sn) (nx * 5 + sn)) sb)))) 0 0 (fun _ => False) := by
  refine Met.ofW (cc := cX0_goesAhead) (maxL := 6) (ret := (some .boolean)) (by decide) rfl ?_
  intro p e s m args below meth c s₁ B hml hv
  obtain ⟨rfl, hO⟩ := hv
  obtain ⟨hP, hK, hN⟩ := id hO
  have hP : va_P (dC, dI) vwCl [(h, .inr (0, [.ref a0, .ref a1, .ref a2, .ref a3])), (a0, .inl (cD, 35, .inr (.inr (.inr (.inl (N)))))), (a1, .inl (cZ, 35, .inl (G))), (a2, .inl (cI, 30, .inl (T))), (a3, .inl (cI, 6, .inl (O)))] s.heap := hP
  have hx := B.exec
  have hb := B.bytes
  have hr := B.returns
  have hts := atoms_spec (ws := wsX0_goesAhead) B.pre
  have hown : s.vm.findClass RX0 = some m.cls := findClass_of_methodNamed B.named
  have hlocks := B.notSynchronized
  have hl := lv_entry ([.ref h, .int (nI (ah)), .int (nI (nx)), .int (nI (sn)), .int (nI (Bool.toNat (sb)))]) (n := 6) (Nat.le_of_ble_eq_true rfl)
  rw [lg_entry_eq]
  generalize (lg_sl ([.ref h, .int (nI (ah)), .int (nI (nx)), .int (nI (sn)), .int (nI (Bool.toNat (sb)))]) ++ List.replicate (6 - (lg_sl ([.ref h, .int (nI (ah)), .int (nI (nx)), .int (nI (sn)), .int (nI (Bool.toNat (sb)))])).length) Slot.unset).toArray = ls at hl ⊢
  have hl : lv_has ls 6 [(0, .ref h), (1, .int (nI (ah))), (2, .int (nI (nx))), (3, .int (nI (sn))), (4, .int (nI (Bool.toNat (sb))))] := hl
  refine lv_aload_n hx hb dX0_goesAhead_0 rfl (lv_at hl 0 rfl) ?_
  refine lv_iload_n hx hb dX0_goesAhead_1 rfl (lv_at hl 1 rfl) ?_
  refine lv_iload_n hx hb dX0_goesAhead_2 rfl (lv_at hl 3 rfl) ?_
  refine vp_callSi (va_Run.run (va_runSN (host := RX1) (As := [.int (nI (ah)), .int (nI (sn))]) (rest := [.ref h]) ⟨hx, hb, hml, hown, hts⟩ (c_X1_cellOf l (ah) (sn)) ⟨va_cnB 2 hts gX0_goesAhead_X1_cellOf_n40 rfl rfl rfl hN (hts (.initialized RX1) (by decide +kernel)) (by decide +kernel) ⟨Nat.le_of_ble_eq_true rfl, Nat.le_of_ble_eq_true rfl⟩, hts (.static yX1_cellOf) (by decide +kernel), trivial⟩ preT rfl rfl hl.1 rfl (lv_room (Nat.le_of_ble_eq_true rfl)) dX0_goesAhead_3 ⟨Nat.zero_le _, Nat.zero_le _⟩)) (fun r1 er1 => ?_)
  subst er1
  refine lv_iload_n hx hb dX0_goesAhead_6 rfl (lv_at hl 2 rfl) ?_
  refine lv_iload_n hx hb dX0_goesAhead_7 rfl (lv_at hl 3 rfl) ?_
  refine vp_callSi (va_Run.run (va_runSN (host := RX1) (As := [.int (nI (nx)), .int (nI (sn))]) (rest := [.int (nI (ah * 5 + sn)), .ref h]) ⟨hx, hb, hml, hown, hts⟩ (c_X1_cellOf l (nx) (sn)) ⟨va_cnB 2 hts gX0_goesAhead_X1_cellOf_n40 rfl rfl rfl hN (hts (.initialized RX1) (by decide +kernel)) (by decide +kernel) ⟨Nat.le_of_ble_eq_true rfl, Nat.le_of_ble_eq_true rfl⟩, hts (.static yX1_cellOf) (by decide +kernel), trivial⟩ preT rfl rfl hl.1 rfl (lv_room (Nat.le_of_ble_eq_true rfl)) dX0_goesAhead_8 ⟨Nat.zero_le _, Nat.zero_le _⟩)) (fun r2 er2 => ?_)
  subst er2
  refine vp_callSi (va_Run.run (va_runV (As := [.int (nI (ah * 5 + sn)), .int (nI (nx * 5 + sn))]) (rest := []) ⟨hx, hb, hml, hown, hts⟩ (c_X0_relation l dC dI cD cZ cI cL h a0 a1 a2 a3 N G T O (ah * 5 + sn) (nx * 5 + sn) (by omega) (by omega)) (cwV 2 hts gX0_goesAhead_X0_relation rfl rfl rfl (by decide +kernel) ⟨Nat.le_of_ble_eq_true rfl, Nat.le_of_ble_eq_true rfl⟩) (okP_pre ⟨hP, hK, hN⟩) rfl rfl hl.1 rfl (lv_room (Nat.le_of_ble_eq_true rfl)) dX0_goesAhead_11 ⟨Nat.zero_le _, Nat.zero_le _⟩)) (fun r3 er3 => ?_)
  subst er3
  have := rl_le G N (ah * 5 + sn) (nx * 5 + sn)
  refine lv_istore (lv' := [(5, .int (nI (rl G N (ah * 5 + sn) (nx * 5 + sn)))), (0, .ref h), (1, .int (nI (ah))), (2, .int (nI (nx))), (3, .int (nI (sn))), (4, .int (nI (Bool.toNat (sb))))]) hx hb dX0_goesAhead_14 hl (by decide) rfl (fun ls hl => ?_)
  refine lv_iload hx hb dX0_goesAhead_16 (lv_at hl 5 rfl) ?_
  refine xb_if_eq (tgt := 34) hx hb dX0_goesAhead_18 (by decide) (fun c18 => ?_) (fun c18 => ?_)
  · refine lv_iload hx hb dX0_goesAhead_34 (lv_at hl 0 rfl) ?_
    refine lv_iconst (v := nI 2) hx hb dX0_goesAhead_36 (by decide) ?_
    refine jn_icmp_eq hx hb (by omega) (by decide) dX0_goesAhead_37 dX0_goesAhead_40 dX0_goesAhead_41 dX0_goesAhead_44 ?_
    exact W.zret (v := nI (Bool.toNat (decide ((rl G N (ah * 5 + sn) (nx * 5 + sn)) ≠ 2)))) (ty := .boolean) hx hb hr (xb_nar _) (fun t ht hW => ⟨_, rfl, by simp [gh, c18], ht⟩) (fun q hq => absurd hq List.not_mem_nil) dX0_goesAhead_45
  · refine lv_iload hx hb dX0_goesAhead_21 (lv_at hl 0 rfl) ?_
    refine xn_if_ne (tgt := 30) hx hb (by omega) dX0_goesAhead_23 (by decide) (fun c23 => ?_) (fun c23 => ?_)
    · refine lv_iconst (v := nI 0) hx hb dX0_goesAhead_30 (by decide) ?_
      refine lv_goto (tgt := 45) hx hb dX0_goesAhead_31 (by decide) ?_
      exact W.zret (v := nI (Bool.toNat false)) (ty := .boolean) hx hb hr (xb_nar false) (fun t ht hW => ⟨_, rfl, by simp [gh, c18, c23], ht⟩) (fun q hq => absurd hq List.not_mem_nil) dX0_goesAhead_45
    · refine lv_iconst (v := nI 1) hx hb dX0_goesAhead_26 (by decide) ?_
      refine lv_goto (tgt := 45) hx hb dX0_goesAhead_27 (by decide) ?_
      exact W.zret (v := nI (Bool.toNat true)) (ty := .boolean) hx hb hr (xb_nar true) (fun t ht hW => ⟨_, rfl, by simp [gh, c18, c23], ht⟩) (fun q hq => absurd hq List.not_mem_nil) dX0_goesAhead_45
set_option maxHeartbeats 4000000 in
set_option maxRecDepth 100000 in
theorem c_X0_isBetter (l : Launch) (cv how : Nat) (hcv : cv < 4) (hhow : how < 4) : Met l yX0_isBetter wsX0_isBetter ({ frames := 0, cells := 0, slots := 0, locals := 0 }) (va_Pc [.int (nI (cv)), .int (nI (how))] (fun _ => True)) (vp_Si (fun r => r = nI (Bool.toNat (bet cv how)))) 0 0 (fun _ => False) := by
  refine Met.ofW (cc := cX0_isBetter) (maxL := 2) (ret := (some .boolean)) (by decide) rfl ?_
  intro p e s m args below meth c s₁ B hml hv
  obtain ⟨rfl, -⟩ := hv
  have hx := B.exec
  have hb := B.bytes
  have hr := B.returns
  have hts := atoms_spec (ws := wsX0_isBetter) B.pre
  have hown : s.vm.findClass RX0 = some m.cls := findClass_of_methodNamed B.named
  have hlocks := B.notSynchronized
  have hl := lv_entry ([.int (nI (cv)), .int (nI (how))]) (n := 2) (Nat.le_of_ble_eq_true rfl)
  rw [lg_entry_eq]
  generalize (lg_sl ([.int (nI (cv)), .int (nI (how))]) ++ List.replicate (2 - (lg_sl ([.int (nI (cv)), .int (nI (how))])).length) Slot.unset).toArray = ls at hl ⊢
  have hl : lv_has ls 2 [(0, .int (nI (cv))), (1, .int (nI (how)))] := hl
  refine lv_iload_n hx hb dX0_isBetter_0 rfl (lv_at hl 1 rfl) ?_
  rcases (show how = 0 ∨ how = 1 ∨ how = 2 ∨ 2 < how by omega) with hsw | hsw | hsw | hgt
  · refine lv_tableIn (off := 27) (tgt := 28) hx hb dX0_isBetter_1 (by rw [hsw]; decide) (by rw [hsw]; decide) (by rw [hsw]; decide) (by decide) ?_
    refine lv_iload_n hx hb dX0_isBetter_28 rfl (lv_at hl 0 rfl) ?_
    refine lv_iconst (v := nI 2) hx hb dX0_isBetter_29 (by decide) ?_
    refine jn_icmp_ne hx hb (by omega) (by decide) dX0_isBetter_30 dX0_isBetter_33 dX0_isBetter_34 dX0_isBetter_37 ?_
    exact W.zret (v := nI (Bool.toNat (decide (cv = 2)))) (ty := .boolean) hx hb hr (xb_nar _) (fun t ht hW => ⟨_, rfl, by simp [bet, hsw], ht⟩) (fun q hq => absurd hq List.not_mem_nil) dX0_isBetter_38
  · refine lv_tableIn (off := 38) (tgt := 39) hx hb dX0_isBetter_1 (by rw [hsw]; decide) (by rw [hsw]; decide) (by rw [hsw]; decide) (by decide) ?_
    refine lv_iload_n hx hb dX0_isBetter_39 rfl (lv_at hl 0 rfl) ?_
    refine xn_if_eq (tgt := 52) hx hb (by omega) dX0_isBetter_40 (by decide) (fun c40 => ?_) (fun c40 => ?_)
    · refine lv_iconst (v := nI 0) hx hb dX0_isBetter_52 (by decide) ?_
      exact W.zret (v := nI (Bool.toNat false)) (ty := .boolean) hx hb hr (xb_nar false) (fun t ht hW => ⟨_, rfl, by simp [bet, hsw, c40], ht⟩) (fun q hq => absurd hq List.not_mem_nil) dX0_isBetter_53
    · refine lv_iload_n hx hb dX0_isBetter_43 rfl (lv_at hl 0 rfl) ?_
      refine lv_iconst (v := nI 1) hx hb dX0_isBetter_44 (by decide) ?_
      refine jn_icmp_eq hx hb (by omega) (by decide) dX0_isBetter_45 dX0_isBetter_48 dX0_isBetter_49 dX0_isBetter_52 ?_
      exact W.zret (v := nI (Bool.toNat (decide (cv ≠ 1)))) (ty := .boolean) hx hb hr (xb_nar _) (fun t ht hW => ⟨_, rfl, by simp [bet, hsw, c40], ht⟩) (fun q hq => absurd hq List.not_mem_nil) dX0_isBetter_53
  · refine lv_tableIn (off := 53) (tgt := 54) hx hb dX0_isBetter_1 (by rw [hsw]; decide) (by rw [hsw]; decide) (by rw [hsw]; decide) (by decide) ?_
    refine lv_iload_n hx hb dX0_isBetter_54 rfl (lv_at hl 0 rfl) ?_
    refine jn_if_eq hx hb (by omega) dX0_isBetter_55 dX0_isBetter_58 dX0_isBetter_59 dX0_isBetter_62 ?_
    exact W.zret (v := nI (Bool.toNat (decide (cv ≠ 0)))) (ty := .boolean) hx hb hr (xb_nar _) (fun t ht hW => ⟨_, rfl, by simp [bet, hsw], ht⟩) (fun q hq => absurd hq List.not_mem_nil) dX0_isBetter_63
  · refine xn_tableOut (tgt := 64) hx hb (by omega) dX0_isBetter_1 (by omega) (by decide) ?_
    have hd0 : how ≠ 0 := by omega
    have hd1 : how ≠ 1 := by omega
    have hd2 : how ≠ 2 := by omega
    refine lv_iload_n hx hb dX0_isBetter_64 rfl (lv_at hl 0 rfl) ?_
    refine lv_iconst (v := nI 2) hx hb dX0_isBetter_65 (by decide) ?_
    refine xn_icmp_eq (tgt := 74) hx hb (by omega) (by decide) dX0_isBetter_66 (by decide) (fun c66 => ?_) (fun c66 => ?_)
    · refine lv_iconst (v := nI 1) hx hb dX0_isBetter_74 (by decide) ?_
      refine lv_goto (tgt := 79) hx hb dX0_isBetter_75 (by decide) ?_
      exact W.zret (v := nI (Bool.toNat true)) (ty := .boolean) hx hb hr (xb_nar true) (fun t ht hW => ⟨_, rfl, by simp [bet, hgt, hd0, hd1, hd2, c66], ht⟩) (fun q hq => absurd hq List.not_mem_nil) dX0_isBetter_79
    · refine lv_iload_n hx hb dX0_isBetter_69 rfl (lv_at hl 0 rfl) ?_
      refine lv_iconst (v := nI 1) hx hb dX0_isBetter_70 (by decide) ?_
      refine jn_icmp_ne hx hb (by omega) (by decide) dX0_isBetter_71 dX0_isBetter_74 dX0_isBetter_75 dX0_isBetter_78 ?_
      exact W.zret (v := nI (Bool.toNat (decide (cv = 1)))) (ty := .boolean) hx hb hr (xb_nar _) (fun t ht hW => ⟨_, rfl, by simp [bet, hgt, hd0, hd1, hd2, c66], ht⟩) (fun q hq => absurd hq List.not_mem_nil) dX0_isBetter_79
set_option maxHeartbeats 4000000 in
set_option maxRecDepth 100000 in
theorem c_X0_bestOf (l : Launch) (dC : Nat → ClassId) (dI : Nat → Nat → Nat) (cD cZ cI cL : ClassId) (h a0 a1 a2 a3 : Nat) (N : Nat → UInt64) (G T O : Nat → Int32) (nn sn how : Nat) (hnn : nn ≤ 6) (hsn : sn < 5) (hhow : how < 4) : Met l yX0_bestOf wsX0_bestOf ({ frames := 1, cells := 0, slots := 0, locals := 22 }) (va_Pc [.ref h, .int (nI (nn)), .int (nI (sn)), .int (nI (how))] (fun U => okP dC dI cD cZ cI cL h a0 a1 a2 a3 N G T O U U.heap)) (vp_Si (fun r => r = (if nn = 0 then (-1) else nI (bst (fun i j => bet (rl G N (i * 5 + sn) (j * 5 + sn)) how) (nn - 1))))) 0 0 (fun _ => False) := by
  refine Met.ofW (cc := cX0_bestOf) (maxL := 6) (ret := (some .int)) (by decide) rfl ?_
  intro p e s m args below meth c s₁ B hml hv
  obtain ⟨rfl, hO⟩ := hv
  obtain ⟨hP, hK, hN⟩ := id hO
  have hP : va_P (dC, dI) vwCl [(h, .inr (0, [.ref a0, .ref a1, .ref a2, .ref a3])), (a0, .inl (cD, 35, .inr (.inr (.inr (.inl (N)))))), (a1, .inl (cZ, 35, .inl (G))), (a2, .inl (cI, 30, .inl (T))), (a3, .inl (cI, 6, .inl (O)))] s.heap := hP
  have hx := B.exec
  have hb := B.bytes
  have hr := B.returns
  have hts := atoms_spec (ws := wsX0_bestOf) B.pre
  have hown : s.vm.findClass RX0 = some m.cls := findClass_of_methodNamed B.named
  have hlocks := B.notSynchronized
  have hl := lv_entry ([.ref h, .int (nI (nn)), .int (nI (sn)), .int (nI (how))]) (n := 6) (Nat.le_of_ble_eq_true rfl)
  rw [lg_entry_eq]
  generalize (lg_sl ([.ref h, .int (nI (nn)), .int (nI (sn)), .int (nI (how))]) ++ List.replicate (6 - (lg_sl ([.ref h, .int (nI (nn)), .int (nI (sn)), .int (nI (how))])).length) Slot.unset).toArray = ls at hl ⊢
  have hl : lv_has ls 6 [(0, .ref h), (1, .int (nI (nn))), (2, .int (nI (sn))), (3, .int (nI (how)))] := hl
  refine lv_iload_n hx hb dX0_bestOf_0 rfl (lv_at hl 1 rfl) ?_
  refine xn_if_ne (tgt := 6) hx hb (by omega) dX0_bestOf_1 (by decide) (fun c1 => ?_) (fun c1 => ?_)
  · refine lv_iconst (v := nI 0) hx hb dX0_bestOf_6 (by decide) ?_
    refine lv_istore (lv' := [(4, .int (nI (0))), (0, .ref h), (1, .int (nI (nn))), (2, .int (nI (sn))), (3, .int (nI (how)))]) hx hb dX0_bestOf_7 hl (by decide) rfl (fun ls hl => ?_)
    refine lv_iconst (v := nI 1) hx hb dX0_bestOf_9 (by decide) ?_
    refine lv_istore (lv' := [(5, .int (nI (1))), (4, .int (nI (0))), (0, .ref h), (1, .int (nI (nn))), (2, .int (nI (sn))), (3, .int (nI (how)))]) hx hb dX0_bestOf_10 hl (by decide) rfl (fun ls hl => ?_)
    refine W_loop (α := Nat) (P := fun n j ls => j + n = nn ∧ j < nn ∧ lv_has ls 6 [(4, .int (nI (bst (fun i j => bet (rl G N (i * 5 + sn) (j * 5 + sn)) how) j))), (5, .int (nI (j + 1))), (0, .ref h), (1, .int (nI (nn))), (2, .int (nI (sn))), (3, .int (nI (how)))]) (st := fun _ => []) 12 (fun j ls h => by have := h.1; have := h.2.1; omega) (fun n ih j ls h => ?_) (nn) (0) ls ⟨by omega, by omega, lv_sub hl [1, 0, 2, 3, 4, 5] rfl⟩
    obtain ⟨hin, hjn, hl⟩ := h
    have := bst_le (fun i j => bet (rl G N (i * 5 + sn) (j * 5 + sn)) how) j
    refine lv_iload hx hb dX0_bestOf_12 (lv_at hl 1 rfl) ?_
    refine lv_iload_n hx hb dX0_bestOf_14 rfl (lv_at hl 3 rfl) ?_
    refine xn_icmp_ge (tgt := 51) hx hb (by omega) (by omega) dX0_bestOf_15 (by decide) (fun c15 => ?_) (fun c15 => ?_)
    · refine lv_iload hx hb dX0_bestOf_51 (lv_at hl 0 rfl) ?_
      exact W.iret (v := nI (bst (fun i j => bet (rl G N (i * 5 + sn) (j * 5 + sn)) how) j)) hx hb hr (fun t ht hW => ⟨_, rfl, by rw [if_neg c1, show nn - 1 = j by omega], ht⟩) (fun q hq => absurd hq List.not_mem_nil) dX0_bestOf_53
    · refine lv_aload_n hx hb dX0_bestOf_18 rfl (lv_at hl 2 rfl) ?_
      refine lv_iload hx hb dX0_bestOf_19 (lv_at hl 1 rfl) ?_
      refine lv_iload_n hx hb dX0_bestOf_21 rfl (lv_at hl 4 rfl) ?_
      refine vp_callSi (va_Run.run (va_runSN (host := RX1) (As := [.int (nI (j + 1)), .int (nI (sn))]) (rest := [.ref h]) ⟨hx, hb, hml, hown, hts⟩ (c_X1_cellOf l (j + 1) (sn)) ⟨va_cnB 2 hts gX0_bestOf_X1_cellOf_n40 rfl rfl rfl hN (hts (.initialized RX1) (by decide +kernel)) (by decide +kernel) ⟨Nat.le_of_ble_eq_true rfl, Nat.le_of_ble_eq_true rfl⟩, hts (.static yX1_cellOf) (by decide +kernel), trivial⟩ preT rfl rfl hl.1 rfl (lv_room (Nat.le_of_ble_eq_true rfl)) dX0_bestOf_22 ⟨Nat.zero_le _, Nat.zero_le _⟩)) (fun r1 er1 => ?_)
      subst er1
      refine lv_iload hx hb dX0_bestOf_25 (lv_at hl 0 rfl) ?_
      refine lv_iload_n hx hb dX0_bestOf_27 rfl (lv_at hl 4 rfl) ?_
      refine vp_callSi (va_Run.run (va_runSN (host := RX1) (As := [.int (nI (bst (fun i j => bet (rl G N (i * 5 + sn) (j * 5 + sn)) how) j)), .int (nI (sn))]) (rest := [.int (nI ((j + 1) * 5 + sn)), .ref h]) ⟨hx, hb, hml, hown, hts⟩ (c_X1_cellOf l (bst (fun i j => bet (rl G N (i * 5 + sn) (j * 5 + sn)) how) j) (sn)) ⟨va_cnB 2 hts gX0_bestOf_X1_cellOf_n40 rfl rfl rfl hN (hts (.initialized RX1) (by decide +kernel)) (by decide +kernel) ⟨Nat.le_of_ble_eq_true rfl, Nat.le_of_ble_eq_true rfl⟩, hts (.static yX1_cellOf) (by decide +kernel), trivial⟩ preT rfl rfl hl.1 rfl (lv_room (Nat.le_of_ble_eq_true rfl)) dX0_bestOf_28 ⟨Nat.zero_le _, Nat.zero_le _⟩)) (fun r2 er2 => ?_)
      subst er2
      refine vp_callSi (va_Run.run (va_runV (As := [.int (nI ((j + 1) * 5 + sn)), .int (nI ((bst (fun i j => bet (rl G N (i * 5 + sn) (j * 5 + sn)) how) j) * 5 + sn))]) (rest := []) ⟨hx, hb, hml, hown, hts⟩ (c_X0_relation l dC dI cD cZ cI cL h a0 a1 a2 a3 N G T O ((j + 1) * 5 + sn) ((bst (fun i j => bet (rl G N (i * 5 + sn) (j * 5 + sn)) how) j) * 5 + sn) (by omega) (by omega)) (cwV 2 hts gX0_bestOf_X0_relation rfl rfl rfl (by decide +kernel) ⟨Nat.le_of_ble_eq_true rfl, Nat.le_of_ble_eq_true rfl⟩) (okP_pre ⟨hP, hK, hN⟩) rfl rfl hl.1 rfl (lv_room (Nat.le_of_ble_eq_true rfl)) dX0_bestOf_31 ⟨Nat.zero_le _, Nat.zero_le _⟩)) (fun r3 er3 => ?_)
      subst er3
      have := rl_le G N ((j + 1) * 5 + sn) ((bst (fun i j => bet (rl G N (i * 5 + sn) (j * 5 + sn)) how) j) * 5 + sn)
      refine lv_iload_n hx hb dX0_bestOf_34 rfl (lv_at hl 5 rfl) ?_
      refine vp_callSi (va_Run.run (va_runS (As := [.int (nI (rl G N ((j + 1) * 5 + sn) ((bst (fun i j => bet (rl G N (i * 5 + sn) (j * 5 + sn)) how) j) * 5 + sn))), .int (nI (how))]) (rest := []) ⟨hx, hb, hml, hown, hts⟩ (c_X0_isBetter l (rl G N ((j + 1) * 5 + sn) ((bst (fun i j => bet (rl G N (i * 5 + sn) (j * 5 + sn)) how) j) * 5 + sn)) (how) (by omega) (by omega)) (va_cwS 2 hts gX0_bestOf_X0_isBetter rfl rfl rfl (by decide +kernel) ⟨Nat.le_of_ble_eq_true rfl, Nat.le_of_ble_eq_true rfl⟩) preT rfl rfl hl.1 rfl (lv_room (Nat.le_of_ble_eq_true rfl)) dX0_bestOf_35 ⟨Nat.zero_le _, Nat.zero_le _⟩)) (fun r4 er4 => ?_)
      subst er4
      refine xb_if_eq (tgt := 45) hx hb dX0_bestOf_38 (by decide) (fun c38 => ?_) (fun c38 => ?_)
      · refine xn_iinc (lv2 := [(5, .int (nI (j + 1 + 1))), (4, .int (nI (bst (fun i j => bet (rl G N (i * 5 + sn) (j * 5 + sn)) how) j))), (0, .ref h), (1, .int (nI (nn))), (2, .int (nI (sn))), (3, .int (nI (how)))]) hx hb dX0_bestOf_45 hl (k0 := 1) rfl (by decide) rfl (fun ls hl => ?_)
        refine lv_goto (tgt := 12) hx hb dX0_bestOf_48 (by decide) ?_
        exact ih (j + 1) ls ⟨by omega, by omega, by rw [bst_f (f := (fun i j => bet (rl G N (i * 5 + sn) (j * 5 + sn)) how)) c38]; exact lv_sub hl [1, 0, 2, 3, 4, 5] rfl⟩
      · refine lv_iload hx hb dX0_bestOf_41 (lv_at hl 1 rfl) ?_
        refine lv_istore (lv' := [(4, .int (nI (j + 1))), (5, .int (nI (j + 1))), (0, .ref h), (1, .int (nI (nn))), (2, .int (nI (sn))), (3, .int (nI (how)))]) hx hb dX0_bestOf_43 hl (by decide) rfl (fun ls hl => ?_)
        refine xn_iinc (lv2 := [(5, .int (nI (j + 1 + 1))), (4, .int (nI (j + 1))), (0, .ref h), (1, .int (nI (nn))), (2, .int (nI (sn))), (3, .int (nI (how)))]) hx hb dX0_bestOf_45 hl (k0 := 1) rfl (by decide) rfl (fun ls hl => ?_)
        refine lv_goto (tgt := 12) hx hb dX0_bestOf_48 (by decide) ?_
        exact ih (j + 1) ls ⟨by omega, by omega, by rw [bst_t (f := (fun i j => bet (rl G N (i * 5 + sn) (j * 5 + sn)) how)) c38]; exact lv_sub hl [1, 0, 2, 3, 4, 5] rfl⟩
  · refine lv_iconst (v := (-1)) hx hb dX0_bestOf_4 (by decide) ?_
    exact W.iret (v := -1) hx hb hr (fun t ht hW => ⟨_, rfl, by rw [if_pos c1], ht⟩) (fun q hq => absurd hq List.not_mem_nil) dX0_bestOf_5
set_option maxHeartbeats 4000000 in
set_option maxRecDepth 100000 in
theorem c_X0_isAgainst (l : Launch) (cv wh : Nat) (hcv : cv < 4) (hwh : wh < 5) : Met l yX0_isAgainst wsX0_isAgainst ({ frames := 0, cells := 0, slots := 0, locals := 0 }) (va_Pc [.int (nI (cv)), .int (nI (wh))] (fun _ => True)) (vp_Si (fun r => r = nI (Bool.toNat (ag cv wh)))) 0 0 (fun _ => False) := by
  refine Met.ofW (cc := cX0_isAgainst) (maxL := 2) (ret := (some .boolean)) (by decide) rfl ?_
  intro p e s m args below meth c s₁ B hml hv
  obtain ⟨rfl, -⟩ := hv
  have hx := B.exec
  have hb := B.bytes
  have hr := B.returns
  have hts := atoms_spec (ws := wsX0_isAgainst) B.pre
  have hown : s.vm.findClass RX0 = some m.cls := findClass_of_methodNamed B.named
  have hlocks := B.notSynchronized
  have hl := lv_entry ([.int (nI (cv)), .int (nI (wh))]) (n := 2) (Nat.le_of_ble_eq_true rfl)
  rw [lg_entry_eq]
  generalize (lg_sl ([.int (nI (cv)), .int (nI (wh))]) ++ List.replicate (2 - (lg_sl ([.int (nI (cv)), .int (nI (wh))])).length) Slot.unset).toArray = ls at hl ⊢
  have hl : lv_has ls 2 [(0, .int (nI (cv))), (1, .int (nI (wh)))] := hl
  refine lv_iload_n hx hb dX0_isAgainst_0 rfl (lv_at hl 1 rfl) ?_
  rcases (show wh = 0 ∨ wh = 1 ∨ wh = 2 ∨ wh = 3 ∨ 3 < wh by omega) with hsw | hsw | hsw | hsw | hgt
  · refine lv_tableIn (off := 31) (tgt := 32) hx hb dX0_isAgainst_1 (by rw [hsw]; decide) (by rw [hsw]; decide) (by rw [hsw]; decide) (by decide) ?_
    refine lv_iload_n hx hb dX0_isAgainst_32 rfl (lv_at hl 0 rfl) ?_
    refine lv_iconst (v := nI 2) hx hb dX0_isAgainst_33 (by decide) ?_
    refine jn_icmp_ne hx hb (by omega) (by decide) dX0_isAgainst_34 dX0_isAgainst_37 dX0_isAgainst_38 dX0_isAgainst_41 ?_
    exact W.zret (v := nI (Bool.toNat (decide (cv = 2)))) (ty := .boolean) hx hb hr (xb_nar _) (fun t ht hW => ⟨_, rfl, by simp [ag, hsw], ht⟩) (fun q hq => absurd hq List.not_mem_nil) dX0_isAgainst_42
  · refine lv_tableIn (off := 42) (tgt := 43) hx hb dX0_isAgainst_1 (by rw [hsw]; decide) (by rw [hsw]; decide) (by rw [hsw]; decide) (by decide) ?_
    refine lv_iload_n hx hb dX0_isAgainst_43 rfl (lv_at hl 0 rfl) ?_
    refine jn_if_ne hx hb (by omega) dX0_isAgainst_44 dX0_isAgainst_47 dX0_isAgainst_48 dX0_isAgainst_51 ?_
    exact W.zret (v := nI (Bool.toNat (decide (cv = 0)))) (ty := .boolean) hx hb hr (xb_nar _) (fun t ht hW => ⟨_, rfl, by simp [ag, hsw], ht⟩) (fun q hq => absurd hq List.not_mem_nil) dX0_isAgainst_52
  · refine lv_tableIn (off := 52) (tgt := 53) hx hb dX0_isAgainst_1 (by rw [hsw]; decide) (by rw [hsw]; decide) (by rw [hsw]; decide) (by decide) ?_
    refine lv_iload_n hx hb dX0_isAgainst_53 rfl (lv_at hl 0 rfl) ?_
    refine lv_iconst (v := nI 1) hx hb dX0_isAgainst_54 (by decide) ?_
    refine jn_icmp_ne hx hb (by omega) (by decide) dX0_isAgainst_55 dX0_isAgainst_58 dX0_isAgainst_59 dX0_isAgainst_62 ?_
    exact W.zret (v := nI (Bool.toNat (decide (cv = 1)))) (ty := .boolean) hx hb hr (xb_nar _) (fun t ht hW => ⟨_, rfl, by simp [ag, hsw], ht⟩) (fun q hq => absurd hq List.not_mem_nil) dX0_isAgainst_63
  · refine lv_tableIn (off := 63) (tgt := 64) hx hb dX0_isAgainst_1 (by rw [hsw]; decide) (by rw [hsw]; decide) (by rw [hsw]; decide) (by decide) ?_
    refine lv_iload_n hx hb dX0_isAgainst_64 rfl (lv_at hl 0 rfl) ?_
    refine lv_iconst (v := nI 3) hx hb dX0_isAgainst_65 (by decide) ?_
    refine jn_icmp_ne hx hb (by omega) (by decide) dX0_isAgainst_66 dX0_isAgainst_69 dX0_isAgainst_70 dX0_isAgainst_73 ?_
    exact W.zret (v := nI (Bool.toNat (decide (cv = 3)))) (ty := .boolean) hx hb hr (xb_nar _) (fun t ht hW => ⟨_, rfl, by simp [ag, hsw], ht⟩) (fun q hq => absurd hq List.not_mem_nil) dX0_isAgainst_74
  · refine xn_tableOut (tgt := 75) hx hb (by omega) dX0_isAgainst_1 (by omega) (by decide) ?_
    have hd0 : wh ≠ 0 := by omega
    have hd1 : wh ≠ 1 := by omega
    have hd2 : wh ≠ 2 := by omega
    have hd3 : wh ≠ 3 := by omega
    refine lv_iload_n hx hb dX0_isAgainst_75 rfl (lv_at hl 0 rfl) ?_
    refine lv_iconst (v := nI 1) hx hb dX0_isAgainst_76 (by decide) ?_
    refine xn_icmp_eq (tgt := 85) hx hb (by omega) (by decide) dX0_isAgainst_77 (by decide) (fun c77 => ?_) (fun c77 => ?_)
    · refine lv_iconst (v := nI 1) hx hb dX0_isAgainst_85 (by decide) ?_
      refine lv_goto (tgt := 90) hx hb dX0_isAgainst_86 (by decide) ?_
      exact W.zret (v := nI (Bool.toNat true)) (ty := .boolean) hx hb hr (xb_nar true) (fun t ht hW => ⟨_, rfl, by simp [ag, hgt, hd0, hd1, hd2, hd3, c77], ht⟩) (fun q hq => absurd hq List.not_mem_nil) dX0_isAgainst_90
    · refine lv_iload_n hx hb dX0_isAgainst_80 rfl (lv_at hl 0 rfl) ?_
      refine lv_iconst (v := nI 3) hx hb dX0_isAgainst_81 (by decide) ?_
      refine jn_icmp_ne hx hb (by omega) (by decide) dX0_isAgainst_82 dX0_isAgainst_85 dX0_isAgainst_86 dX0_isAgainst_89 ?_
      exact W.zret (v := nI (Bool.toNat (decide (cv = 3)))) (ty := .boolean) hx hb hr (xb_nar _) (fun t ht hW => ⟨_, rfl, by simp [ag, hgt, hd0, hd1, hd2, hd3, c77], ht⟩) (fun q hq => absurd hq List.not_mem_nil) dX0_isAgainst_90
set_option maxHeartbeats 4000000 in
set_option maxRecDepth 100000 in
theorem c_X0_seatsAgainst (l : Launch) (dC : Nat → ClassId) (dI : Nat → Nat → Nat) (cD cZ cI cL : ClassId) (h a0 a1 a2 a3 : Nat) (N : Nat → UInt64) (G T O : Nat → Int32) (ea eb wh : Nat) (hea : ea < 6) (heb : eb < 6) (hwh : wh < 5) : Met l yX0_seatsAgainst wsX0_seatsAgainst ({ frames := 1, cells := 0, slots := 0, locals := 22 }) (va_Pc [.ref h, .int (nI (ea)), .int (nI (eb)), .int (nI (wh))] (fun U => okP dC dI cD cZ cI cL h a0 a1 a2 a3 N G T O U U.heap)) (vp_Si (fun r => r = nI (cnt (fun i => ag (rl G N (ea * 5 + i) (eb * 5 + i)) wh) 5))) 0 0 (fun _ => False) := by
  refine Met.ofW (cc := cX0_seatsAgainst) (maxL := 6) (ret := (some .int)) (by decide) rfl ?_
  intro p e s m args below meth c s₁ B hml hv
  obtain ⟨rfl, hO⟩ := hv
  obtain ⟨hP, hK, hN⟩ := id hO
  have hP : va_P (dC, dI) vwCl [(h, .inr (0, [.ref a0, .ref a1, .ref a2, .ref a3])), (a0, .inl (cD, 35, .inr (.inr (.inr (.inl (N)))))), (a1, .inl (cZ, 35, .inl (G))), (a2, .inl (cI, 30, .inl (T))), (a3, .inl (cI, 6, .inl (O)))] s.heap := hP
  have hx := B.exec
  have hb := B.bytes
  have hr := B.returns
  have hts := atoms_spec (ws := wsX0_seatsAgainst) B.pre
  have hown : s.vm.findClass RX0 = some m.cls := findClass_of_methodNamed B.named
  have hlocks := B.notSynchronized
  have hl := lv_entry ([.ref h, .int (nI (ea)), .int (nI (eb)), .int (nI (wh))]) (n := 6) (Nat.le_of_ble_eq_true rfl)
  rw [lg_entry_eq]
  generalize (lg_sl ([.ref h, .int (nI (ea)), .int (nI (eb)), .int (nI (wh))]) ++ List.replicate (6 - (lg_sl ([.ref h, .int (nI (ea)), .int (nI (eb)), .int (nI (wh))])).length) Slot.unset).toArray = ls at hl ⊢
  have hl : lv_has ls 6 [(0, .ref h), (1, .int (nI (ea))), (2, .int (nI (eb))), (3, .int (nI (wh)))] := hl
  refine lv_iconst (v := nI 0) hx hb dX0_seatsAgainst_0 (by decide) ?_
  refine lv_istore (lv' := [(4, .int (nI (0))), (0, .ref h), (1, .int (nI (ea))), (2, .int (nI (eb))), (3, .int (nI (wh)))]) hx hb dX0_seatsAgainst_1 hl (by decide) rfl (fun ls hl => ?_)
  refine lv_iconst (v := nI 0) hx hb dX0_seatsAgainst_3 (by decide) ?_
  refine lv_istore (lv' := [(5, .int (nI (0))), (4, .int (nI (0))), (0, .ref h), (1, .int (nI (ea))), (2, .int (nI (eb))), (3, .int (nI (wh)))]) hx hb dX0_seatsAgainst_4 hl (by decide) rfl (fun ls hl => ?_)
  refine W_loop (α := Nat) (P := fun n i ls => i + n = 6 ∧ i < 6 ∧ lv_has ls 6 [(4, .int (nI (cnt (fun i => ag (rl G N (ea * 5 + i) (eb * 5 + i)) wh) i))), (5, .int (nI (i))), (0, .ref h), (1, .int (nI (ea))), (2, .int (nI (eb))), (3, .int (nI (wh)))]) (st := fun _ => []) 6 (fun i ls h => by have := h.1; have := h.2.1; omega) (fun n ih i ls h => ?_) (6) (0) ls ⟨by omega, by omega, lv_sub hl [1, 0, 2, 3, 4, 5] rfl⟩
  obtain ⟨hin, hi6, hl⟩ := h
  have := cnt_le (fun i => ag (rl G N (ea * 5 + i) (eb * 5 + i)) wh) i
  refine lv_iload hx hb dX0_seatsAgainst_6 (lv_at hl 1 rfl) ?_
  refine lv_iconst (v := nI 5) hx hb dX0_seatsAgainst_8 (by decide) ?_
  refine xn_icmp_ge (tgt := 44) hx hb (by omega) (by decide) dX0_seatsAgainst_9 (by decide) (fun c9 => ?_) (fun c9 => ?_)
  · refine lv_iload hx hb dX0_seatsAgainst_44 (lv_at hl 0 rfl) ?_
    exact W.iret (v := nI (cnt (fun i => ag (rl G N (ea * 5 + i) (eb * 5 + i)) wh) i)) hx hb hr (fun t ht hW => ⟨_, rfl, by rw [show i = 5 by omega], ht⟩) (fun q hq => absurd hq List.not_mem_nil) dX0_seatsAgainst_46
  · refine lv_aload_n hx hb dX0_seatsAgainst_12 rfl (lv_at hl 2 rfl) ?_
    refine lv_iload_n hx hb dX0_seatsAgainst_13 rfl (lv_at hl 3 rfl) ?_
    refine lv_iload hx hb dX0_seatsAgainst_14 (lv_at hl 1 rfl) ?_
    refine vp_callSi (va_Run.run (va_runSN (host := RX1) (As := [.int (nI (ea)), .int (nI (i))]) (rest := [.ref h]) ⟨hx, hb, hml, hown, hts⟩ (c_X1_cellOf l (ea) (i)) ⟨va_cnB 2 hts gX0_seatsAgainst_X1_cellOf_n40 rfl rfl rfl hN (hts (.initialized RX1) (by decide +kernel)) (by decide +kernel) ⟨Nat.le_of_ble_eq_true rfl, Nat.le_of_ble_eq_true rfl⟩, hts (.static yX1_cellOf) (by decide +kernel), trivial⟩ preT rfl rfl hl.1 rfl (lv_room (Nat.le_of_ble_eq_true rfl)) dX0_seatsAgainst_16 ⟨Nat.zero_le _, Nat.zero_le _⟩)) (fun r1 er1 => ?_)
    subst er1
    refine lv_iload_n hx hb dX0_seatsAgainst_19 rfl (lv_at hl 4 rfl) ?_
    refine lv_iload hx hb dX0_seatsAgainst_20 (lv_at hl 1 rfl) ?_
    refine vp_callSi (va_Run.run (va_runSN (host := RX1) (As := [.int (nI (eb)), .int (nI (i))]) (rest := [.int (nI (ea * 5 + i)), .ref h]) ⟨hx, hb, hml, hown, hts⟩ (c_X1_cellOf l (eb) (i)) ⟨va_cnB 2 hts gX0_seatsAgainst_X1_cellOf_n40 rfl rfl rfl hN (hts (.initialized RX1) (by decide +kernel)) (by decide +kernel) ⟨Nat.le_of_ble_eq_true rfl, Nat.le_of_ble_eq_true rfl⟩, hts (.static yX1_cellOf) (by decide +kernel), trivial⟩ preT rfl rfl hl.1 rfl (lv_room (Nat.le_of_ble_eq_true rfl)) dX0_seatsAgainst_22 ⟨Nat.zero_le _, Nat.zero_le _⟩)) (fun r2 er2 => ?_)
    subst er2
    refine vp_callSi (va_Run.run (va_runV (As := [.int (nI (ea * 5 + i)), .int (nI (eb * 5 + i))]) (rest := []) ⟨hx, hb, hml, hown, hts⟩ (c_X0_relation l dC dI cD cZ cI cL h a0 a1 a2 a3 N G T O (ea * 5 + i) (eb * 5 + i) (by omega) (by omega)) (cwV 2 hts gX0_seatsAgainst_X0_relation rfl rfl rfl (by decide +kernel) ⟨Nat.le_of_ble_eq_true rfl, Nat.le_of_ble_eq_true rfl⟩) (okP_pre ⟨hP, hK, hN⟩) rfl rfl hl.1 rfl (lv_room (Nat.le_of_ble_eq_true rfl)) dX0_seatsAgainst_25 ⟨Nat.zero_le _, Nat.zero_le _⟩)) (fun r3 er3 => ?_)
    subst er3
    have := rl_le G N (ea * 5 + i) (eb * 5 + i)
    refine lv_iload_n hx hb dX0_seatsAgainst_28 rfl (lv_at hl 5 rfl) ?_
    refine vp_callSi (va_Run.run (va_runS (As := [.int (nI (rl G N (ea * 5 + i) (eb * 5 + i))), .int (nI (wh))]) (rest := []) ⟨hx, hb, hml, hown, hts⟩ (c_X0_isAgainst l (rl G N (ea * 5 + i) (eb * 5 + i)) (wh) (by omega) (by omega)) (va_cwS 2 hts gX0_seatsAgainst_X0_isAgainst rfl rfl rfl (by decide +kernel) ⟨Nat.le_of_ble_eq_true rfl, Nat.le_of_ble_eq_true rfl⟩) preT rfl rfl hl.1 rfl (lv_room (Nat.le_of_ble_eq_true rfl)) dX0_seatsAgainst_29 ⟨Nat.zero_le _, Nat.zero_le _⟩)) (fun r4 er4 => ?_)
    subst er4
    refine xb_if_eq (tgt := 38) hx hb dX0_seatsAgainst_32 (by decide) (fun c32 => ?_) (fun c32 => ?_)
    · refine xn_iinc (lv2 := [(5, .int (nI (i + 1))), (4, .int (nI (cnt (fun i => ag (rl G N (ea * 5 + i) (eb * 5 + i)) wh) i))), (0, .ref h), (1, .int (nI (ea))), (2, .int (nI (eb))), (3, .int (nI (wh)))]) hx hb dX0_seatsAgainst_38 hl (k0 := 1) rfl (by decide) rfl (fun ls hl => ?_)
      refine lv_goto (tgt := 6) hx hb dX0_seatsAgainst_41 (by decide) ?_
      exact ih (i + 1) ls ⟨by omega, by omega, by rw [cnt_f (f := (fun i => ag (rl G N (ea * 5 + i) (eb * 5 + i)) wh)) c32]; exact lv_sub hl [1, 0, 2, 3, 4, 5] rfl⟩
    · refine xn_iinc (lv2 := [(4, .int (nI (cnt (fun i => ag (rl G N (ea * 5 + i) (eb * 5 + i)) wh) i + 1))), (5, .int (nI (i))), (0, .ref h), (1, .int (nI (ea))), (2, .int (nI (eb))), (3, .int (nI (wh)))]) hx hb dX0_seatsAgainst_35 hl (k0 := 0) rfl (by decide) rfl (fun ls hl => ?_)
      refine xn_iinc (lv2 := [(5, .int (nI (i + 1))), (4, .int (nI (cnt (fun i => ag (rl G N (ea * 5 + i) (eb * 5 + i)) wh) i + 1))), (0, .ref h), (1, .int (nI (ea))), (2, .int (nI (eb))), (3, .int (nI (wh)))]) hx hb dX0_seatsAgainst_38 hl (k0 := 1) rfl (by decide) rfl (fun ls hl => ?_)
      refine lv_goto (tgt := 6) hx hb dX0_seatsAgainst_41 (by decide) ?_
      exact ih (i + 1) ls ⟨by omega, by omega, by rw [cnt_t (f := (fun i => ag (rl G N (ea * 5 + i) (eb * 5 + i)) wh)) c32]; exact lv_sub hl [1, 0, 2, 3, 4, 5] rfl⟩
set_option maxHeartbeats 4000000 in
set_option maxRecDepth 100000 in
theorem c_X0_eighthsAt (l : Launch) (dC : Nat → ClassId) (dI : Nat → Nat → Nat) (cD cZ cI cL : ClassId) (h a0 a1 a2 a3 : Nat) (N : Nat → UInt64) (G T O : Nat → Int32) (i : Nat) (hi : i < 35) (hg : gd (N i)) : Met l yX0_eighthsAt wsX0_eighthsAt ({ frames := 0, cells := 0, slots := 0, locals := 0 }) (va_Pc [.ref h, .int (nI (i))] (fun U => okP dC dI cD cZ cI cL h a0 a1 a2 a3 N G T O U U.heap)) (vp_Sl (fun r => r = e8 (N i))) 0 0 (fun _ => False) := by
  refine Met.ofW (cc := cX0_eighthsAt) (maxL := 2) (ret := (some .long)) (by decide) rfl ?_
  intro p e s m args below meth c s₁ B hml hv
  obtain ⟨rfl, hO⟩ := hv
  obtain ⟨hP, hK, hN⟩ := id hO
  have hP : va_P (dC, dI) vwCl [(h, .inr (0, [.ref a0, .ref a1, .ref a2, .ref a3])), (a0, .inl (cD, 35, .inr (.inr (.inr (.inl (N)))))), (a1, .inl (cZ, 35, .inl (G))), (a2, .inl (cI, 30, .inl (T))), (a3, .inl (cI, 6, .inl (O)))] s.heap := hP
  have hx := B.exec
  have hb := B.bytes
  have hr := B.returns
  have hts := atoms_spec (ws := wsX0_eighthsAt) B.pre
  have hown : s.vm.findClass RX0 = some m.cls := findClass_of_methodNamed B.named
  have hlocks := B.notSynchronized
  have hin0 : ∀ w ∈ wsX00, w ∈ wsX0_eighthsAt := (fun w h => List.mem_cons_of_mem _ (List.mem_append_right _ h))
  have fl9 := hts (.fieldLink RX0 9 "JuryTable$Panel" "numbers" "[D") (by decide +kernel)
  have hl := lv_entry ([.ref h, .int (nI (i))]) (n := 2) (Nat.le_of_ble_eq_true rfl)
  rw [lg_entry_eq]
  generalize (lg_sl ([.ref h, .int (nI (i))]) ++ List.replicate (2 - (lg_sl ([.ref h, .int (nI (i))])).length) Slot.unset).toArray = ls at hl ⊢
  have hl : lv_has ls 2 [(0, .ref h), (1, .int (nI (i)))] := hl
  refine lv_aload_n hx hb dX0_eighthsAt_0 rfl (lv_at hl 0 rfl) ?_
  refine va_get (D := (dC, dI)) (ci := 0) (v := .ref a0) (C := RX0) (T := TX0) (N := 4) hx hb hts hin0 hown hK hP 0 rfl rfl 0 (by decide) fl9 (fun _ h9 => h9) rfl dX0_eighthsAt_1 ?_
  refine lv_iload_n hx hb dX0_eighthsAt_4 rfl (lv_at hl 1 rfl) ?_
  refine xn_dald hx hb hK hP 1 0 rfl rfl (n := 35) (j := i) (by omega) (by decide) dX0_eighthsAt_5 ?_
  refine lv_ldc2d hx hb hown (hts (.constantDouble RX0 69 (4620693217682128896)) (by decide +kernel)) dX0_eighthsAt_6 ?_
  refine lv_dmul hx hb dX0_eighthsAt_9 (gd_n8 hg) ?_
  refine lv_d2l hx hb dX0_eighthsAt_10 ?_
  exact W.lret (v := FP.d2l (FP.dmul (N i) 4620693217682128896)) hx hb hr (fun t ht hW => ⟨_, rfl, rfl, ht⟩) (fun q hq => absurd hq List.not_mem_nil) dX0_eighthsAt_11
set_option maxHeartbeats 4000000 in
set_option maxRecDepth 100000 in
theorem c_X0_numbersAmong (l : Launch) (dC : Nat → ClassId) (dI : Nat → Nat → Nat) (cD cZ cI cL : ClassId) (h a0 a1 a2 a3 : Nat) (N : Nat → UInt64) (G T O : Nat → Int32) (f1 b1 : Nat) (hf1 : f1 ≤ b1) (hb1 : b1 ≤ 35) : Met l yX0_numbersAmong wsX0_numbersAmong ({ frames := 0, cells := 0, slots := 0, locals := 0 }) (va_Pc [.ref h, .int (nI (f1)), .int (nI (b1))] (fun U => okP dC dI cD cZ cI cL h a0 a1 a2 a3 N G T O U U.heap)) (vp_Si (fun r => r = nI (cnt (fun i => decide (G (f1 + i) ≠ 0)) (b1 - f1)))) 0 0 (fun _ => False) := by
  refine Met.ofW (cc := cX0_numbersAmong) (maxL := 5) (ret := (some .int)) (by decide) rfl ?_
  intro p e s m args below meth c s₁ B hml hv
  obtain ⟨rfl, hO⟩ := hv
  obtain ⟨hP, hK, hN⟩ := id hO
  have hP : va_P (dC, dI) vwCl [(h, .inr (0, [.ref a0, .ref a1, .ref a2, .ref a3])), (a0, .inl (cD, 35, .inr (.inr (.inr (.inl (N)))))), (a1, .inl (cZ, 35, .inl (G))), (a2, .inl (cI, 30, .inl (T))), (a3, .inl (cI, 6, .inl (O)))] s.heap := hP
  have hx := B.exec
  have hb := B.bytes
  have hr := B.returns
  have hts := atoms_spec (ws := wsX0_numbersAmong) B.pre
  have hown : s.vm.findClass RX0 = some m.cls := findClass_of_methodNamed B.named
  have hlocks := B.notSynchronized
  have hin0 : ∀ w ∈ wsX00, w ∈ wsX0_numbersAmong := (fun w h => List.mem_cons_of_mem _ (List.mem_append_right _ h))
  have fl15 := hts (.fieldLink RX0 15 "JuryTable$Panel" "given" "[Z") (by decide +kernel)
  have hl := lv_entry ([.ref h, .int (nI (f1)), .int (nI (b1))]) (n := 5) (Nat.le_of_ble_eq_true rfl)
  rw [lg_entry_eq]
  generalize (lg_sl ([.ref h, .int (nI (f1)), .int (nI (b1))]) ++ List.replicate (5 - (lg_sl ([.ref h, .int (nI (f1)), .int (nI (b1))])).length) Slot.unset).toArray = ls at hl ⊢
  have hl : lv_has ls 5 [(0, .ref h), (1, .int (nI (f1))), (2, .int (nI (b1)))] := hl
  refine lv_iconst (v := nI 0) hx hb dX0_numbersAmong_0 (by decide) ?_
  refine lv_istore_n (lv' := [(3, .int (nI (0))), (0, .ref h), (1, .int (nI (f1))), (2, .int (nI (b1)))]) hx hb dX0_numbersAmong_1 rfl hl (by decide) rfl (fun ls hl => ?_)
  refine lv_iload_n hx hb dX0_numbersAmong_2 rfl (lv_at hl 2 rfl) ?_
  refine lv_istore (lv' := [(4, .int (nI (f1))), (3, .int (nI (0))), (0, .ref h), (1, .int (nI (f1))), (2, .int (nI (b1)))]) hx hb dX0_numbersAmong_3 hl (by decide) rfl (fun ls hl => ?_)
  refine W_loop (α := Nat) (P := fun n i ls => i + n = b1 - f1 + 1 ∧ i < b1 - f1 + 1 ∧ lv_has ls 5 [(3, .int (nI (cnt (fun i => decide (G (f1 + i) ≠ 0)) i))), (4, .int (nI (f1 + i))), (0, .ref h), (1, .int (nI (f1))), (2, .int (nI (b1)))]) (st := fun _ => []) 5 (fun i ls h => by have := h.1; have := h.2.1; omega) (fun n ih i ls h => ?_) (b1 - f1 + 1) (0) ls ⟨by omega, by omega, lv_sub hl [1, 0, 2, 3, 4] rfl⟩
  obtain ⟨hin, hi6, hl⟩ := h
  have := cnt_le (fun i => decide (G (f1 + i) ≠ 0)) i
  refine lv_iload hx hb dX0_numbersAmong_5 (lv_at hl 1 rfl) ?_
  refine lv_iload_n hx hb dX0_numbersAmong_7 rfl (lv_at hl 4 rfl) ?_
  refine xn_icmp_ge (tgt := 30) hx hb (by omega) (by omega) dX0_numbersAmong_8 (by decide) (fun c8 => ?_) (fun c8 => ?_)
  · refine lv_iload_n hx hb dX0_numbersAmong_30 rfl (lv_at hl 0 rfl) ?_
    exact W.iret (v := nI (cnt (fun i => decide (G (f1 + i) ≠ 0)) i)) hx hb hr (fun t ht hW => ⟨_, rfl, by rw [show b1 - f1 = i by omega], ht⟩) (fun q hq => absurd hq List.not_mem_nil) dX0_numbersAmong_31
  · refine lv_aload_n hx hb dX0_numbersAmong_11 rfl (lv_at hl 2 rfl) ?_
    refine va_get (D := (dC, dI)) (ci := 0) (v := .ref a1) (C := RX0) (T := TX0) (N := 4) hx hb hts hin0 hown hK hP 0 rfl rfl 1 (by decide) fl15 (fun _ h9 => h9) rfl dX0_numbersAmong_12 ?_
    refine lv_iload hx hb dX0_numbersAmong_15 (lv_at hl 1 rfl) ?_
    refine xn_zald hx hb hK hP 2 1 rfl rfl (n := 35) (j := f1 + i) (by omega) (by decide) dX0_numbersAmong_17 ?_
    refine lv_if_eq (tgt := 24) hx hb dX0_numbersAmong_18 (by decide) (fun c18 => ?_) (fun c18 => ?_)
    · refine xn_iinc (lv2 := [(4, .int (nI (f1 + i + 1))), (3, .int (nI (cnt (fun i => decide (G (f1 + i) ≠ 0)) i))), (0, .ref h), (1, .int (nI (f1))), (2, .int (nI (b1)))]) hx hb dX0_numbersAmong_24 hl (k0 := 1) rfl (by decide) rfl (fun ls hl => ?_)
      refine lv_goto (tgt := 5) hx hb dX0_numbersAmong_27 (by decide) ?_
      exact ih (i + 1) ls ⟨by omega, by omega, by rw [cnt_f (f := (fun i => decide (G (f1 + i) ≠ 0))) (decide_eq_false (fun q => q c18))]; exact lv_sub hl [1, 0, 2, 3, 4] rfl⟩
    · refine xn_iinc (lv2 := [(3, .int (nI (cnt (fun i => decide (G (f1 + i) ≠ 0)) i + 1))), (4, .int (nI (f1 + i))), (0, .ref h), (1, .int (nI (f1))), (2, .int (nI (b1)))]) hx hb dX0_numbersAmong_21 hl (k0 := 0) rfl (by decide) rfl (fun ls hl => ?_)
      refine xn_iinc (lv2 := [(4, .int (nI (f1 + i + 1))), (3, .int (nI (cnt (fun i => decide (G (f1 + i) ≠ 0)) i + 1))), (0, .ref h), (1, .int (nI (f1))), (2, .int (nI (b1)))]) hx hb dX0_numbersAmong_24 hl (k0 := 1) rfl (by decide) rfl (fun ls hl => ?_)
      refine lv_goto (tgt := 5) hx hb dX0_numbersAmong_27 (by decide) ?_
      exact ih (i + 1) ls ⟨by omega, by omega, by rw [cnt_t (f := (fun i => decide (G (f1 + i) ≠ 0))) (decide_eq_true c18)]; exact lv_sub hl [1, 0, 2, 3, 4] rfl⟩
set_option maxHeartbeats 4000000 in
set_option maxRecDepth 100000 in
theorem c_X0_numbersOfEntries (l : Launch) (dC : Nat → ClassId) (dI : Nat → Nat → Nat) (cD cZ cI cL : ClassId) (h a0 a1 a2 a3 : Nat) (N : Nat → UInt64) (G T O : Nat → Int32) : Met l yX0_numbersOfEntries wsX0_numbersOfEntries ({ frames := 1, cells := 0, slots := 0, locals := 24 }) (va_Pc [.ref h] (fun U => okP dC dI cD cZ cI cL h a0 a1 a2 a3 N G T O U U.heap)) (vp_Si (fun r => r = nI (cnt (fun i => decide (G (0 + i) ≠ 0)) 30))) 0 0 (fun _ => False) := by
  refine Met.ofW (cc := cX0_numbersOfEntries) (maxL := 1) (ret := (some .int)) (by decide) rfl ?_
  intro p e s m args below meth c s₁ B hml hv
  obtain ⟨rfl, hO⟩ := hv
  obtain ⟨hP, hK, hN⟩ := id hO
  have hP : va_P (dC, dI) vwCl [(h, .inr (0, [.ref a0, .ref a1, .ref a2, .ref a3])), (a0, .inl (cD, 35, .inr (.inr (.inr (.inl (N)))))), (a1, .inl (cZ, 35, .inl (G))), (a2, .inl (cI, 30, .inl (T))), (a3, .inl (cI, 6, .inl (O)))] s.heap := hP
  have hx := B.exec
  have hb := B.bytes
  have hr := B.returns
  have hts := atoms_spec (ws := wsX0_numbersOfEntries) B.pre
  have hown : s.vm.findClass RX0 = some m.cls := findClass_of_methodNamed B.named
  have hlocks := B.notSynchronized
  have hl := lv_entry ([.ref h]) (n := 1) (Nat.le_of_ble_eq_true rfl)
  rw [lg_entry_eq]
  generalize (lg_sl ([.ref h]) ++ List.replicate (1 - (lg_sl ([.ref h])).length) Slot.unset).toArray = ls at hl ⊢
  have hl : lv_has ls 1 [(0, .ref h)] := hl
  refine lv_aload_n hx hb dX0_numbersOfEntries_0 rfl (lv_at hl 0 rfl) ?_
  refine lv_iconst (v := nI 0) hx hb dX0_numbersOfEntries_1 (by decide) ?_
  refine lv_bipush (v := nI 6) hx hb dX0_numbersOfEntries_2 (by decide) ?_
  refine lv_iconst (v := nI 0) hx hb dX0_numbersOfEntries_4 (by decide) ?_
  refine vp_callSi (va_Run.run (va_runSN (host := RX1) (As := [.int (nI (6)), .int (nI (0))]) (rest := [.int (nI (0)), .ref h]) ⟨hx, hb, hml, hown, hts⟩ (c_X1_cellOf l (6) (0)) ⟨va_cnB 2 hts gX0_numbersOfEntries_X1_cellOf_n40 rfl rfl rfl hN (hts (.initialized RX1) (by decide +kernel)) (by decide +kernel) ⟨Nat.le_of_ble_eq_true rfl, Nat.le_of_ble_eq_true rfl⟩, hts (.static yX1_cellOf) (by decide +kernel), trivial⟩ preT rfl rfl hl.1 rfl (lv_room (Nat.le_of_ble_eq_true rfl)) dX0_numbersOfEntries_5 ⟨Nat.zero_le _, Nat.zero_le _⟩)) (fun r1 er1 => ?_)
  subst er1
  refine vp_callSi (va_Run.run (va_runV (As := [.int (nI (0)), .int (nI (6 * 5 + 0))]) (rest := []) ⟨hx, hb, hml, hown, hts⟩ (c_X0_numbersAmong l dC dI cD cZ cI cL h a0 a1 a2 a3 N G T O (0) (6 * 5 + 0) (by omega) (by omega)) (cwV 2 hts gX0_numbersOfEntries_X0_numbersAmong rfl rfl rfl (by decide +kernel) ⟨Nat.le_of_ble_eq_true rfl, Nat.le_of_ble_eq_true rfl⟩) (okP_pre ⟨hP, hK, hN⟩) rfl rfl hl.1 rfl (lv_room (Nat.le_of_ble_eq_true rfl)) dX0_numbersOfEntries_8 ⟨Nat.zero_le _, Nat.zero_le _⟩)) (fun r2 er2 => ?_)
  subst er2
  exact W.iret (v := nI (cnt (fun i => decide (G (0 + i) ≠ 0)) ((6 * 5 + 0) - 0))) hx hb hr (fun t ht hW => ⟨_, rfl, rfl, ht⟩) (fun q hq => absurd hq List.not_mem_nil) dX0_numbersOfEntries_11
set_option maxHeartbeats 4000000 in
set_option maxRecDepth 100000 in
theorem c_X0_numbersOfLimits (l : Launch) (dC : Nat → ClassId) (dI : Nat → Nat → Nat) (cD cZ cI cL : ClassId) (h a0 a1 a2 a3 : Nat) (N : Nat → UInt64) (G T O : Nat → Int32) : Met l yX0_numbersOfLimits wsX0_numbersOfLimits ({ frames := 1, cells := 0, slots := 0, locals := 24 }) (va_Pc [.ref h] (fun U => okP dC dI cD cZ cI cL h a0 a1 a2 a3 N G T O U U.heap)) (vp_Si (fun r => r = nI (cnt (fun i => decide (G (30 + i) ≠ 0)) 5))) 0 0 (fun _ => False) := by
  refine Met.ofW (cc := cX0_numbersOfLimits) (maxL := 1) (ret := (some .int)) (by decide) rfl ?_
  intro p e s m args below meth c s₁ B hml hv
  obtain ⟨rfl, hO⟩ := hv
  obtain ⟨hP, hK, hN⟩ := id hO
  have hP : va_P (dC, dI) vwCl [(h, .inr (0, [.ref a0, .ref a1, .ref a2, .ref a3])), (a0, .inl (cD, 35, .inr (.inr (.inr (.inl (N)))))), (a1, .inl (cZ, 35, .inl (G))), (a2, .inl (cI, 30, .inl (T))), (a3, .inl (cI, 6, .inl (O)))] s.heap := hP
  have hx := B.exec
  have hb := B.bytes
  have hr := B.returns
  have hts := atoms_spec (ws := wsX0_numbersOfLimits) B.pre
  have hown : s.vm.findClass RX0 = some m.cls := findClass_of_methodNamed B.named
  have hlocks := B.notSynchronized
  have hl := lv_entry ([.ref h]) (n := 1) (Nat.le_of_ble_eq_true rfl)
  rw [lg_entry_eq]
  generalize (lg_sl ([.ref h]) ++ List.replicate (1 - (lg_sl ([.ref h])).length) Slot.unset).toArray = ls at hl ⊢
  have hl : lv_has ls 1 [(0, .ref h)] := hl
  refine lv_aload_n hx hb dX0_numbersOfLimits_0 rfl (lv_at hl 0 rfl) ?_
  refine lv_bipush (v := nI 6) hx hb dX0_numbersOfLimits_1 (by decide) ?_
  refine lv_iconst (v := nI 0) hx hb dX0_numbersOfLimits_3 (by decide) ?_
  refine vp_callSi (va_Run.run (va_runSN (host := RX1) (As := [.int (nI (6)), .int (nI (0))]) (rest := [.ref h]) ⟨hx, hb, hml, hown, hts⟩ (c_X1_cellOf l (6) (0)) ⟨va_cnB 2 hts gX0_numbersOfLimits_X1_cellOf_n40 rfl rfl rfl hN (hts (.initialized RX1) (by decide +kernel)) (by decide +kernel) ⟨Nat.le_of_ble_eq_true rfl, Nat.le_of_ble_eq_true rfl⟩, hts (.static yX1_cellOf) (by decide +kernel), trivial⟩ preT rfl rfl hl.1 rfl (lv_room (Nat.le_of_ble_eq_true rfl)) dX0_numbersOfLimits_4 ⟨Nat.zero_le _, Nat.zero_le _⟩)) (fun r1 er1 => ?_)
  subst er1
  refine lv_bipush (v := nI 35) hx hb dX0_numbersOfLimits_7 (by decide) ?_
  refine vp_callSi (va_Run.run (va_runV (As := [.int (nI (6 * 5 + 0)), .int (nI (35))]) (rest := []) ⟨hx, hb, hml, hown, hts⟩ (c_X0_numbersAmong l dC dI cD cZ cI cL h a0 a1 a2 a3 N G T O (6 * 5 + 0) (35) (by omega) (by omega)) (cwV 2 hts gX0_numbersOfLimits_X0_numbersAmong rfl rfl rfl (by decide +kernel) ⟨Nat.le_of_ble_eq_true rfl, Nat.le_of_ble_eq_true rfl⟩) (okP_pre ⟨hP, hK, hN⟩) rfl rfl hl.1 rfl (lv_room (Nat.le_of_ble_eq_true rfl)) dX0_numbersOfLimits_9 ⟨Nat.zero_le _, Nat.zero_le _⟩)) (fun r2 er2 => ?_)
  subst er2
  exact W.iret (v := nI (cnt (fun i => decide (G ((6 * 5 + 0) + i) ≠ 0)) (35 - (6 * 5 + 0)))) hx hb hr (fun t ht hW => ⟨_, rfl, rfl, ht⟩) (fun q hq => absurd hq List.not_mem_nil) dX0_numbersOfLimits_12
