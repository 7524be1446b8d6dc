set_option maxHeartbeats 4000000 in
set_option maxRecDepth 100000 in
theorem law_loop {p : Program} {l : Launch} {e : Env} {s : State} {m : MethodId} {below : List Frame} {meth : Method} {c : Code} {b L : Nat} {xs : Nat → Int32} {dC : Nat → ClassId} {dI : Nat → Nat → Nat} {cD cZ cI cL : ClassId} {A : Nat → Prop} (C : lw_C p l s m c b L xs dC dI cD cZ cI cL) (hAe : A = fun q : Nat => s.heap.size ≤ q) (hr : meth.sig.returnType = ret) (hlocks : meth.locks = false) (h ox hm b0 b1 b2 b3 : Nat) : ∀ (n j : Nat) (H : Heap) (locs : List Loc) (ls : Array Slot), 5 * j ≤ L → L + 5 ≤ 5 * (j + n) → INV dC dI cD cZ cI cL A h ox hm b0 b1 b2 b3 H → va_S A s.heap H locs → lv_has ls 8 [(0, .ref b), (1, .ref h), (2, .ref hm), (3, .ref ox), (4, .int (nI (5 * j)))] → W p l e room_1 s m #[Value.ref b] below meth c H locs (19 + j) (480 + 6 * j) (lw_Z below #[Value.ref b] s) (F0 m 23 ls []) := by
  obtain ⟨hx, hb, hml, hown, hts, hX, hbl, hL, hst, hK, hE, hU, hU2⟩ := id C
  have hbA : ¬ A b := by rw [hAe]; exact Nat.not_le.mpr hbl
  intro n
  induction n with
  | zero =>
    intro j H locs ls h1 h2
    exact absurd h2 (by omega)
  | succ n ih =>
    intro j H locs ls hj hn hI hS hl
    refine lv_iload hx hb dL_law_23 (lv_at hl 4 rfl) ?_
    refine lv_aload_n hx hb dL_law_25 rfl (lv_at hl 0 rfl) ?_
    refine va_slen hx hb hX hbl hbA hS dL_law_26 ?_
    refine lv_iconst (v := nI 5) hx hb dL_law_27 (by decide) ?_
    refine lv_isub hx hb dL_law_28 ?_
    have hsub : (Int32.ofNat L - nI 5).toInt = (L : Int) - 5 := pk_sub_toInt (a := L) (b := 5) (by omega) (by decide)
    have hcur : (nI (5 * j)).toInt = ((5 * j : Nat) : Int) := nI_toInt (by omega)
    refine lv_icmp_gt (tgt := 1617) hx hb dL_law_29 (by decide) (fun c29 => ?_) (fun c29 => ?_)
    · refine lv_iconst (v := 1) hx hb dL_law_1617 (by decide) ?_
      refine va_forget (fun q hq => by have h9 := hS.2.2 q hq; rw [hAe] at h9; exact h9) ?_
      refine W.widen (k := 1048) (n := 8702) (by omega) (by omega) ?_
      exact lw_ret hx hb hr hlocks dL_law_1618
    · have hi : 5 * j + 5 ≤ L := by
        rw [Int32.lt_iff_toInt_lt, hsub, hcur] at c29
        omega
      have nx : ∀ (H : Heap) (locs : List Loc) (ls : Array Slot), INV dC dI cD cZ cI cL A h ox hm b0 b1 b2 b3 H → va_S A s.heap H locs → lv_has ls 8 [(0, .ref b), (1, .ref h), (2, .ref hm), (3, .ref ox), (4, .int (nI (5 * j)))] → W p l e room_1 s m #[Value.ref b] below meth c H locs (19 + j + 1) (480 + 6 * j + 6) (lw_Z below #[Value.ref b] s) (F0 m 1611 ls []) := by
        intro H locs ls hI hS hl
        refine lv_iinc (v := nI (5 * (j + 1))) (lv' := [(4, .int (nI (5 * (j + 1)))), (0, .ref b), (1, .ref h), (2, .ref hm), (3, .ref ox)]) hx hb dL_law_1611 hl (k := 4) rfl (by show nI (5 * j) + nI 5 = nI (5 * (j + 1)); rw [nI_add]; rfl) (by decide) rfl (fun ls hl => ?_)
        refine lv_goto (tgt := 23) hx hb dL_law_1614 (by decide) ?_
        exact ih (j + 1) H locs ls (by omega) (by omega) hI hS (lv_sub hl [1, 2, 3, 4, 0] rfl)
      refine lv_aload_n hx hb dL_law_32 rfl (lv_at hl 0 rfl) ?_
      refine lv_iload hx hb dL_law_33 (lv_at hl 4 rfl) ?_
      refine xn_sld (v := xs (5 * j)) hx hb hX hbl hbA hS (j := 5 * j) (by omega) hL rfl dL_law_35 ?_
      refine lv_bipush (v := nI 31) hx hb dL_law_36 (by decide) ?_
      refine lv_iand hx hb dL_law_38 ?_
      obtain ⟨t, ht, et⟩ := pk_andE (xs (5 * j)) (m := nI 31) 5 (by decide)
      rw [et]
      rcases (show t = 0 ∨ t = 1 ∨ t = 2 ∨ t = 3 ∨ t = 4 ∨ t = 5 ∨ t = 6 ∨ t = 7 ∨ t = 8 ∨ t = 9 ∨ t = 10 ∨ t = 11 ∨ t = 12 ∨ t = 13 ∨ t = 14 ∨ t = 15 ∨ t = 16 ∨ 16 < t by omega) with hsw | hsw | hsw | hsw | hsw | hsw | hsw | hsw | hsw | hsw | hsw | hsw | hsw | hsw | hsw | hsw | hsw | hgt
      · refine lv_tableIn (off := 81) (tgt := 120) hx hb dL_law_39 (by rw [hsw]; decide) (by rw [hsw]; decide) (by rw [hsw]; decide) (by decide) ?_
        exact op_entry C hAe h ox hm b0 b1 b2 b3 H locs (19 + j) (480 + 6 * j) hI hS (by omega) (by omega) (5 * j) hi ls hl nx
      · refine lv_tableIn (off := 125) (tgt := 164) hx hb dL_law_39 (by rw [hsw]; decide) (by rw [hsw]; decide) (by rw [hsw]; decide) (by decide) ?_
        exact op_mark C hAe h ox hm b0 b1 b2 b3 H locs (19 + j) (480 + 6 * j) hI hS (by omega) (by omega) (5 * j) hi ls hl nx
      · refine lv_tableIn (off := 195) (tgt := 234) hx hb dL_law_39 (by rw [hsw]; decide) (by rw [hsw]; decide) (by rw [hsw]; decide) (by decide) ?_
        exact op_points C hAe h ox hm b0 b1 b2 b3 H locs (19 + j) (480 + 6 * j) hI hS (by omega) (by omega) (5 * j) hi ls hl nx
      · refine lv_tableIn (off := 263) (tgt := 302) hx hb dL_law_39 (by rw [hsw]; decide) (by rw [hsw]; decide) (by rw [hsw]; decide) (by decide) ?_
        exact op_bar C hAe h ox hm b0 b1 b2 b3 H locs (19 + j) (480 + 6 * j) hI hS (by omega) (by omega) (5 * j) hi ls hl nx
      · refine lv_tableIn (off := 321) (tgt := 360) hx hb dL_law_39 (by rw [hsw]; decide) (by rw [hsw]; decide) (by rw [hsw]; decide) (by decide) ?_
        exact op_line C hAe h ox hm b0 b1 b2 b3 H locs (19 + j) (480 + 6 * j) hI hS (by omega) (by omega) (5 * j) hi ls hl nx
      · refine lv_tableIn (off := 377) (tgt := 416) hx hb dL_law_39 (by rw [hsw]; decide) (by rw [hsw]; decide) (by rw [hsw]; decide) (by decide) ?_
        exact op_clear C hAe h ox hm b0 b1 b2 b3 H locs (19 + j) (480 + 6 * j) hI hS (by omega) (by omega) (5 * j) hi ls hl nx
      · refine lv_tableIn (off := 480) (tgt := 519) hx hb dL_law_39 (by rw [hsw]; decide) (by rw [hsw]; decide) (by rw [hsw]; decide) (by decide) ?_
        exact op_holds C hAe h ox hm b0 b1 b2 b3 H locs (19 + j) (480 + 6 * j) hI hS (by omega) (by omega) (5 * j) hi ls hl nx
      · refine lv_tableIn (off := 595) (tgt := 634) hx hb dL_law_39 (by rw [hsw]; decide) (by rw [hsw]; decide) (by rw [hsw]; decide) (by decide) ?_
        exact op_tally C hAe h ox hm b0 b1 b2 b3 H locs (19 + j) (480 + 6 * j) hI hS (by omega) (by omega) (5 * j) hi ls hl nx
      · refine lv_tableIn (off := 691) (tgt := 730) hx hb dL_law_39 (by rw [hsw]; decide) (by rw [hsw]; decide) (by rw [hsw]; decide) (by decide) ?_
        exact op_run C hAe h ox hm b0 b1 b2 b3 H locs (19 + j) (480 + 6 * j) hI hS (by omega) (by omega) (5 * j) hi ls hl nx
      · refine lv_tableIn (off := 799) (tgt := 838) hx hb dL_law_39 (by rw [hsw]; decide) (by rw [hsw]; decide) (by rw [hsw]; decide) (by decide) ?_
        exact op_keep C hAe h ox hm b0 b1 b2 b3 H locs (19 + j) (480 + 6 * j) hI hS (by omega) (by omega) (5 * j) hi ls hl nx
      · refine lv_tableIn (off := 914) (tgt := 953) hx hb dL_law_39 (by rw [hsw]; decide) (by rw [hsw]; decide) (by rw [hsw]; decide) (by decide) ?_
        exact op_kept C hAe h ox hm b0 b1 b2 b3 H locs (19 + j) (480 + 6 * j) hI hS (by omega) (by omega) (5 * j) hi ls hl nx
      · refine lv_tableIn (off := 1010) (tgt := 1049) hx hb dL_law_39 (by rw [hsw]; decide) (by rw [hsw]; decide) (by rw [hsw]; decide) (by decide) ?_
        exact op_place C hAe h ox hm b0 b1 b2 b3 H locs (19 + j) (480 + 6 * j) hI hS (by omega) (by omega) (5 * j) hi ls hl nx
      · refine lv_tableIn (off := 1134) (tgt := 1173) hx hb dL_law_39 (by rw [hsw]; decide) (by rw [hsw]; decide) (by rw [hsw]; decide) (by decide) ?_
        exact op_best C hAe h ox hm b0 b1 b2 b3 H locs (19 + j) (480 + 6 * j) hI hS (by omega) (by omega) (5 * j) hi ls hl nx
      · refine lv_tableIn (off := 1230) (tgt := 1269) hx hb dL_law_39 (by rw [hsw]; decide) (by rw [hsw]; decide) (by rw [hsw]; decide) (by decide) ?_
        exact op_against C hAe h ox hm b0 b1 b2 b3 H locs (19 + j) (480 + 6 * j) hI hS (by omega) (by omega) (5 * j) hi ls hl nx
      · refine lv_tableIn (off := 1338) (tgt := 1377) hx hb dL_law_39 (by rw [hsw]; decide) (by rw [hsw]; decide) (by rw [hsw]; decide) (by decide) ?_
        exact op_told C hAe h ox hm b0 b1 b2 b3 H locs (19 + j) (480 + 6 * j) hI hS (by omega) (by omega) (5 * j) hi ls hl nx
      · refine lv_tableIn (off := 1433) (tgt := 1472) hx hb dL_law_39 (by rw [hsw]; decide) (by rw [hsw]; decide) (by rw [hsw]; decide) (by decide) ?_
        exact op_sum C hAe h ox hm b0 b1 b2 b3 H locs (19 + j) (480 + 6 * j) hI hS (by omega) (by omega) (5 * j) hi ls hl nx
      · refine lv_tableIn (off := 1516) (tgt := 1555) hx hb dL_law_39 (by rw [hsw]; decide) (by rw [hsw]; decide) (by rw [hsw]; decide) (by decide) ?_
        exact op_count C hAe h ox hm b0 b1 b2 b3 H locs (19 + j) (480 + 6 * j) hI hS (by omega) (by omega) (5 * j) hi ls hl nx
      · refine xn_tableOut (tgt := 1611) hx hb (by omega) dL_law_39 (by omega) (by decide) ?_
        refine W.widen (k := 19 + j + 1) (n := 480 + 6 * j + 6) (by omega) (by omega) ?_
        exact nx H locs ls hI hS hl
