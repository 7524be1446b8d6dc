theorem vB_65 {v : Int32} (h : vB v 6 = false) : vB v 5 = false ∧ ¬ v = nI 5 := by
  constructor
  · cases h5 : vB v 5 with
    | false => rfl
    | true =>
      obtain ⟨j, hj, e⟩ := vB_of h5 (by decide)
      rw [e, vB_nI (show j < 6 by omega) (by decide)] at h
      cases h
  · intro e
    rw [e, vB_nI (show 5 < 6 by decide) (by decide)] at h
    cases h
theorem op_entry {p : Program} {l : Launch} {e : Env} {s : State} {m : MethodId} {below : List Frame} {meth : Method} {c : Code} {b L : Nat} {xs : Nat → Int32} {dC : Nat → ClassId} {dI : Nat → Nat → Nat} {cD cZ cI cL : ClassId} {A : Nat → Prop} (C : lw_C p l s m c b L xs dC dI cD cZ cI cL) (hAe : A = fun q : Nat => s.heap.size ≤ q) (h ox hm b0 b1 b2 b3 : Nat) (H : Heap) (locs : List Loc) (kc ks : Nat) (hI : INV dC dI cD cZ cI cL A h ox hm b0 b1 b2 b3 H) (hS : va_S A s.heap H locs) (hk : kc + 1 ≤ 1048) (hs : ks + 6 ≤ 8702) (i : Nat) (hi : i + 5 ≤ L) (ls : Array Slot) (hl : lv_has ls 8 [(0, .ref b), (1, .ref h), (2, .ref hm), (3, .ref ox), (4, .int (nI (i)))]) (nx : ∀ (H : Heap) (locs : List Loc) (ls : Array Slot), INV dC dI cD cZ cI cL A h ox hm b0 b1 b2 b3 H → va_S A s.heap H locs → lv_has ls 8 [(0, .ref b), (1, .ref h), (2, .ref hm), (3, .ref ox), (4, .int (nI (i)))] → W p l e room_1 s m #[Value.ref b] below meth c H locs (kc + 1) (ks + 6) (lw_Z below #[Value.ref b] s) (F0 m 1611 ls [])) : W p l e room_1 s m #[Value.ref b] below meth c H locs kc ks (lw_Z below #[Value.ref b] s) (F0 m 120 ls []) := by
  obtain ⟨pf, f0, f1, f2, f3, po, o0, o1, o2, o3, tt, t0, NF, GF, TF, OF, NO, GO, TO, OO, DG, nn, F, N, I, T, R, th, hP, hD, hR⟩ := INV_at true hI
  have hnn6 := rel_nn hR
  rcases (show nn < 6 ∨ nn = 6 by omega) with hn6 | hn6
  · exact lg_entry_ok C hAe h pf f0 f1 f2 f3 po o0 o1 o2 o3 tt t0 NF GF TF OF NO GO TO OO DG nn ox F hm b0 b1 b2 b3 N I T R th H locs kc ks hP hD hR hS hk hs i hi hn6  ls hl nx
  · exact lg_entry_t1 C hAe h pf f0 f1 f2 f3 po o0 o1 o2 o3 tt t0 NF GF TF OF NO GO TO OO DG nn ox F hm b0 b1 b2 b3 N I T R th H locs kc ks hP hD hR hS hk hs i hi hn6  ls hl nx
theorem op_mark {p : Program} {l : Launch} {e : Env} {s : State} {m : MethodId} {below : List Frame} {meth : Method} {c : Code} {b L : Nat} {xs : Nat → Int32} {dC : Nat → ClassId} {dI : Nat → Nat → Nat} {cD cZ cI cL : ClassId} {A : Nat → Prop} (C : lw_C p l s m c b L xs dC dI cD cZ cI cL) (hAe : A = fun q : Nat => s.heap.size ≤ q) (h ox hm b0 b1 b2 b3 : Nat) (H : Heap) (locs : List Loc) (kc ks : Nat) (hI : INV dC dI cD cZ cI cL A h ox hm b0 b1 b2 b3 H) (hS : va_S A s.heap H locs) (hk : kc + 1 ≤ 1048) (hs : ks + 6 ≤ 8702) (i : Nat) (hi : i + 5 ≤ L) (ls : Array Slot) (hl : lv_has ls 8 [(0, .ref b), (1, .ref h), (2, .ref hm), (3, .ref ox), (4, .int (nI (i)))]) (nx : ∀ (H : Heap) (locs : List Loc) (ls : Array Slot), INV dC dI cD cZ cI cL A h ox hm b0 b1 b2 b3 H → va_S A s.heap H locs → lv_has ls 8 [(0, .ref b), (1, .ref h), (2, .ref hm), (3, .ref ox), (4, .int (nI (i)))] → W p l e room_1 s m #[Value.ref b] below meth c H locs (kc + 1) (ks + 6) (lw_Z below #[Value.ref b] s) (F0 m 1611 ls [])) : W p l e room_1 s m #[Value.ref b] below meth c H locs kc ks (lw_Z below #[Value.ref b] s) (F0 m 164 ls []) := by
  obtain ⟨pf, f0, f1, f2, f3, po, o0, o1, o2, o3, tt, t0, NF, GF, TF, OF, NO, GO, TO, OO, DG, nn, F, N, I, T, R, th, hP, hD, hR⟩ := INV_at true hI
  have hnn6 := rel_nn hR
  cases hv0 : vB (xs (i + 1)) nn with
  | false =>
    exact lg_mark_t1 C hAe h pf f0 f1 f2 f3 po o0 o1 o2 o3 tt t0 NF GF TF OF NO GO TO OO DG nn ox F hm b0 b1 b2 b3 N I T R th H locs kc ks hP hD hR hS hk hs i hi (xs (i + 1)) (xs (i + 2)) (FP.dmul (FP.i2d (xs (i + 3))) 4593671619917905920) hv0 rfl rfl rfl ls hl nx
  | true =>
    obtain ⟨en, hen, he0⟩ := vB_of hv0 (by omega)
    cases hv1 : vB (xs (i + 2)) 5 with
    | false =>
      exact lg_mark_t2 C hAe h pf f0 f1 f2 f3 po o0 o1 o2 o3 tt t0 NF GF TF OF NO GO TO OO DG nn ox F hm b0 b1 b2 b3 N I T R th H locs kc ks hP hD hR hS hk hs i hi (rel_nn hR) en (xs (i + 2)) (FP.dmul (FP.i2d (xs (i + 3))) 4593671619917905920) hen hv1 he0 rfl rfl ls hl nx
    | true =>
      obtain ⟨bn, hbn, he1⟩ := vB_of hv1 (by omega)
      exact lg_mark_ok C hAe h pf f0 f1 f2 f3 po o0 o1 o2 o3 tt t0 NF GF TF OF NO GO TO OO DG nn ox F hm b0 b1 b2 b3 N I T R th H locs kc ks hP hD hR hS hk hs i hi (rel_nn hR) en bn hen hbn (FP.dmul (FP.i2d (xs (i + 3))) 4593671619917905920) (gd_refl (gd_mark _)) (gd_mark _) he0 he1 rfl ls hl nx
theorem op_points {p : Program} {l : Launch} {e : Env} {s : State} {m : MethodId} {below : List Frame} {meth : Method} {c : Code} {b L : Nat} {xs : Nat → Int32} {dC : Nat → ClassId} {dI : Nat → Nat → Nat} {cD cZ cI cL : ClassId} {A : Nat → Prop} (C : lw_C p l s m c b L xs dC dI cD cZ cI cL) (hAe : A = fun q : Nat => s.heap.size ≤ q) (h ox hm b0 b1 b2 b3 : Nat) (H : Heap) (locs : List Loc) (kc ks : Nat) (hI : INV dC dI cD cZ cI cL A h ox hm b0 b1 b2 b3 H) (hS : va_S A s.heap H locs) (hk : kc + 1 ≤ 1048) (hs : ks + 6 ≤ 8702) (i : Nat) (hi : i + 5 ≤ L) (ls : Array Slot) (hl : lv_has ls 8 [(0, .ref b), (1, .ref h), (2, .ref hm), (3, .ref ox), (4, .int (nI (i)))]) (nx : ∀ (H : Heap) (locs : List Loc) (ls : Array Slot), INV dC dI cD cZ cI cL A h ox hm b0 b1 b2 b3 H → va_S A s.heap H locs → lv_has ls 8 [(0, .ref b), (1, .ref h), (2, .ref hm), (3, .ref ox), (4, .int (nI (i)))] → W p l e room_1 s m #[Value.ref b] below meth c H locs (kc + 1) (ks + 6) (lw_Z below #[Value.ref b] s) (F0 m 1611 ls [])) : W p l e room_1 s m #[Value.ref b] below meth c H locs kc ks (lw_Z below #[Value.ref b] s) (F0 m 234 ls []) := by
  obtain ⟨pf, f0, f1, f2, f3, po, o0, o1, o2, o3, tt, t0, NF, GF, TF, OF, NO, GO, TO, OO, DG, nn, F, N, I, T, R, th, hP, hD, hR⟩ := INV_at false hI
  have hnn6 := rel_nn hR
  cases hv0 : vB (xs (i + 1)) nn with
  | false =>
    exact lg_points_t1 C hAe h pf f0 f1 f2 f3 po o0 o1 o2 o3 tt t0 NF GF TF OF NO GO TO OO DG nn ox F hm b0 b1 b2 b3 N I T R th H locs kc ks hP hD hR hS hk hs i hi (xs (i + 1)) (xs (i + 2)) (FP.fmul (FP.i2f (xs (i + 3))) 1040187392) hv0 rfl rfl rfl ls hl nx
  | true =>
    obtain ⟨en, hen, he0⟩ := vB_of hv0 (by omega)
    cases hv1 : vB (xs (i + 2)) 5 with
    | false =>
      exact lg_points_t2 C hAe h pf f0 f1 f2 f3 po o0 o1 o2 o3 tt t0 NF GF TF OF NO GO TO OO DG nn ox F hm b0 b1 b2 b3 N I T R th H locs kc ks hP hD hR hS hk hs i hi (rel_nn hR) en (xs (i + 2)) (FP.fmul (FP.i2f (xs (i + 3))) 1040187392) hen hv1 he0 rfl rfl ls hl nx
    | true =>
      obtain ⟨bn, hbn, he1⟩ := vB_of hv1 (by omega)
      exact lg_points_ok C hAe h pf f0 f1 f2 f3 po o0 o1 o2 o3 tt t0 NF GF TF OF NO GO TO OO DG nn ox F hm b0 b1 b2 b3 N I T R th H locs kc ks hP hD hR hS hk hs i hi (rel_nn hR) en bn hen hbn (FP.fmul (FP.i2f (xs (i + 3))) 1040187392) (FP.Core.fcmp_refl (gd_pts _).2) (nn_of _ (gd_pts _).1.1) (gd_refl (gd_pts _).1) (gd_pts _).1 he0 he1 rfl ls hl nx
theorem op_bar {p : Program} {l : Launch} {e : Env} {s : State} {m : MethodId} {below : List Frame} {meth : Method} {c : Code} {b L : Nat} {xs : Nat → Int32} {dC : Nat → ClassId} {dI : Nat → Nat → Nat} {cD cZ cI cL : ClassId} {A : Nat → Prop} (C : lw_C p l s m c b L xs dC dI cD cZ cI cL) (hAe : A = fun q : Nat => s.heap.size ≤ q) (h ox hm b0 b1 b2 b3 : Nat) (H : Heap) (locs : List Loc) (kc ks : Nat) (hI : INV dC dI cD cZ cI cL A h ox hm b0 b1 b2 b3 H) (hS : va_S A s.heap H locs) (hk : kc + 1 ≤ 1048) (hs : ks + 6 ≤ 8702) (i : Nat) (hi : i + 5 ≤ L) (ls : Array Slot) (hl : lv_has ls 8 [(0, .ref b), (1, .ref h), (2, .ref hm), (3, .ref ox), (4, .int (nI (i)))]) (nx : ∀ (H : Heap) (locs : List Loc) (ls : Array Slot), INV dC dI cD cZ cI cL A h ox hm b0 b1 b2 b3 H → va_S A s.heap H locs → lv_has ls 8 [(0, .ref b), (1, .ref h), (2, .ref hm), (3, .ref ox), (4, .int (nI (i)))] → W p l e room_1 s m #[Value.ref b] below meth c H locs (kc + 1) (ks + 6) (lw_Z below #[Value.ref b] s) (F0 m 1611 ls [])) : W p l e room_1 s m #[Value.ref b] below meth c H locs kc ks (lw_Z below #[Value.ref b] s) (F0 m 302 ls []) := by
  obtain ⟨pf, f0, f1, f2, f3, po, o0, o1, o2, o3, tt, t0, NF, GF, TF, OF, NO, GO, TO, OO, DG, nn, F, N, I, T, R, th, hP, hD, hR⟩ := INV_at true hI
  have hnn6 := rel_nn hR
  cases hv0 : vB (xs (i + 1)) 5 with
  | false =>
    exact lg_bar_t1 C hAe h pf f0 f1 f2 f3 po o0 o1 o2 o3 tt t0 NF GF TF OF NO GO TO OO DG nn ox F hm b0 b1 b2 b3 N I T R th H locs kc ks hP hD hR hS hk hs i hi (xs (i + 1)) (FP.dmul (FP.i2d (xs (i + 2))) 4593671619917905920) hv0 rfl rfl ls hl nx
  | true =>
    obtain ⟨bn, hbn, he0⟩ := vB_of hv0 (by omega)
    exact lg_bar_ok C hAe h pf f0 f1 f2 f3 po o0 o1 o2 o3 tt t0 NF GF TF OF NO GO TO OO DG nn ox F hm b0 b1 b2 b3 N I T R th H locs kc ks hP hD hR hS hk hs i hi bn hbn (FP.dmul (FP.i2d (xs (i + 2))) 4593671619917905920) (gd_refl (gd_mark _)) (gd_mark _) he0 rfl ls hl nx
theorem op_line {p : Program} {l : Launch} {e : Env} {s : State} {m : MethodId} {below : List Frame} {meth : Method} {c : Code} {b L : Nat} {xs : Nat → Int32} {dC : Nat → ClassId} {dI : Nat → Nat → Nat} {cD cZ cI cL : ClassId} {A : Nat → Prop} (C : lw_C p l s m c b L xs dC dI cD cZ cI cL) (hAe : A = fun q : Nat => s.heap.size ≤ q) (h ox hm b0 b1 b2 b3 : Nat) (H : Heap) (locs : List Loc) (kc ks : Nat) (hI : INV dC dI cD cZ cI cL A h ox hm b0 b1 b2 b3 H) (hS : va_S A s.heap H locs) (hk : kc + 1 ≤ 1048) (hs : ks + 6 ≤ 8702) (i : Nat) (hi : i + 5 ≤ L) (ls : Array Slot) (hl : lv_has ls 8 [(0, .ref b), (1, .ref h), (2, .ref hm), (3, .ref ox), (4, .int (nI (i)))]) (nx : ∀ (H : Heap) (locs : List Loc) (ls : Array Slot), INV dC dI cD cZ cI cL A h ox hm b0 b1 b2 b3 H → va_S A s.heap H locs → lv_has ls 8 [(0, .ref b), (1, .ref h), (2, .ref hm), (3, .ref ox), (4, .int (nI (i)))] → W p l e room_1 s m #[Value.ref b] below meth c H locs (kc + 1) (ks + 6) (lw_Z below #[Value.ref b] s) (F0 m 1611 ls [])) : W p l e room_1 s m #[Value.ref b] below meth c H locs kc ks (lw_Z below #[Value.ref b] s) (F0 m 360 ls []) := by
  obtain ⟨pf, f0, f1, f2, f3, po, o0, o1, o2, o3, tt, t0, NF, GF, TF, OF, NO, GO, TO, OO, DG, nn, F, N, I, T, R, th, hP, hD, hR⟩ := INV_at false hI
  have hnn6 := rel_nn hR
  cases hv0 : vB (xs (i + 1)) 5 with
  | false =>
    exact lg_line_t1 C hAe h pf f0 f1 f2 f3 po o0 o1 o2 o3 tt t0 NF GF TF OF NO GO TO OO DG nn ox F hm b0 b1 b2 b3 N I T R th H locs kc ks hP hD hR hS hk hs i hi (xs (i + 1)) (FP.fmul (FP.i2f (xs (i + 2))) 1040187392) hv0 rfl rfl ls hl nx
  | true =>
    obtain ⟨bn, hbn, he0⟩ := vB_of hv0 (by omega)
    exact lg_line_ok C hAe h pf f0 f1 f2 f3 po o0 o1 o2 o3 tt t0 NF GF TF OF NO GO TO OO DG nn ox F hm b0 b1 b2 b3 N I T R th H locs kc ks hP hD hR hS hk hs i hi bn hbn (FP.fmul (FP.i2f (xs (i + 2))) 1040187392) (FP.Core.fcmp_refl (gd_pts _).2) (nn_of _ (gd_pts _).1.1) (gd_refl (gd_pts _).1) (gd_pts _).1 he0 rfl ls hl nx
theorem op_clear {p : Program} {l : Launch} {e : Env} {s : State} {m : MethodId} {below : List Frame} {meth : Method} {c : Code} {b L : Nat} {xs : Nat → Int32} {dC : Nat → ClassId} {dI : Nat → Nat → Nat} {cD cZ cI cL : ClassId} {A : Nat → Prop} (C : lw_C p l s m c b L xs dC dI cD cZ cI cL) (hAe : A = fun q : Nat => s.heap.size ≤ q) (h ox hm b0 b1 b2 b3 : Nat) (H : Heap) (locs : List Loc) (kc ks : Nat) (hI : INV dC dI cD cZ cI cL A h ox hm b0 b1 b2 b3 H) (hS : va_S A s.heap H locs) (hk : kc + 1 ≤ 1048) (hs : ks + 6 ≤ 8702) (i : Nat) (hi : i + 5 ≤ L) (ls : Array Slot) (hl : lv_has ls 8 [(0, .ref b), (1, .ref h), (2, .ref hm), (3, .ref ox), (4, .int (nI (i)))]) (nx : ∀ (H : Heap) (locs : List Loc) (ls : Array Slot), INV dC dI cD cZ cI cL A h ox hm b0 b1 b2 b3 H → va_S A s.heap H locs → lv_has ls 8 [(0, .ref b), (1, .ref h), (2, .ref hm), (3, .ref ox), (4, .int (nI (i)))] → W p l e room_1 s m #[Value.ref b] below meth c H locs (kc + 1) (ks + 6) (lw_Z below #[Value.ref b] s) (F0 m 1611 ls [])) : W p l e room_1 s m #[Value.ref b] below meth c H locs kc ks (lw_Z below #[Value.ref b] s) (F0 m 416 ls []) := by
  obtain ⟨pf, f0, f1, f2, f3, po, o0, o1, o2, o3, tt, t0, NF, GF, TF, OF, NO, GO, TO, OO, DG, nn, F, N, I, T, R, th, hP, hD, hR⟩ := INV_at (decide (xs (i + 1) ≠ 0)) hI
  have hnn6 := rel_nn hR
  by_cases hne : xs (i + 2) = (-1)
  · cases hv2 : vB (xs (i + 3)) 5 with
    | false =>
      exact lg_clear_t2N C hAe h pf f0 f1 f2 f3 po o0 o1 o2 o3 tt t0 NF GF TF OF NO GO TO OO DG nn (decide (xs (i + 1) ≠ 0)) ox F hm b0 b1 b2 b3 N I T R th H locs kc ks hP hD hR hS hk hs i hi (xs (i + 3)) hv2 rfl hne rfl ls hl nx
    | true =>
      obtain ⟨bn, hbn, he2⟩ := vB_of hv2 (by omega)
      exact lg_clear_okN C hAe h pf f0 f1 f2 f3 po o0 o1 o2 o3 tt t0 NF GF TF OF NO GO TO OO DG nn (decide (xs (i + 1) ≠ 0)) ox F hm b0 b1 b2 b3 N I T R th H locs kc ks hP hD hR hS hk hs i hi bn hbn (rel_hG hR) rfl hne he2 ls hl nx
  · cases hv1 : vB (xs (i + 2)) nn with
    | false =>
      exact lg_clear_t1 C hAe h pf f0 f1 f2 f3 po o0 o1 o2 o3 tt t0 NF GF TF OF NO GO TO OO DG nn (decide (xs (i + 1) ≠ 0)) ox F hm b0 b1 b2 b3 N I T R th H locs kc ks hP hD hR hS hk hs i hi (xs (i + 2)) (xs (i + 3)) hv1 hne rfl rfl rfl ls hl nx
    | true =>
      obtain ⟨en, hen, he1⟩ := vB_of hv1 (by omega)
      cases hv2 : vB (xs (i + 3)) 5 with
      | false =>
        exact lg_clear_t2 C hAe h pf f0 f1 f2 f3 po o0 o1 o2 o3 tt t0 NF GF TF OF NO GO TO OO DG nn (decide (xs (i + 1) ≠ 0)) ox F hm b0 b1 b2 b3 N I T R th H locs kc ks hP hD hR hS hk hs i hi (rel_nn hR) en (xs (i + 3)) hen hv2 rfl he1 rfl ls hl nx
      | true =>
        obtain ⟨bn, hbn, he2⟩ := vB_of hv2 (by omega)
        exact lg_clear_ok C hAe h pf f0 f1 f2 f3 po o0 o1 o2 o3 tt t0 NF GF TF OF NO GO TO OO DG nn (decide (xs (i + 1) ≠ 0)) ox F hm b0 b1 b2 b3 N I T R th H locs kc ks hP hD hR hS hk hs i hi (rel_nn hR) en bn hen hbn (rel_hG hR) rfl he1 he2 ls hl nx
theorem op_holds {p : Program} {l : Launch} {e : Env} {s : State} {m : MethodId} {below : List Frame} {meth : Method} {c : Code} {b L : Nat} {xs : Nat → Int32} {dC : Nat → ClassId} {dI : Nat → Nat → Nat} {cD cZ cI cL : ClassId} {A : Nat → Prop} (C : lw_C p l s m c b L xs dC dI cD cZ cI cL) (hAe : A = fun q : Nat => s.heap.size ≤ q) (h ox hm b0 b1 b2 b3 : Nat) (H : Heap) (locs : List Loc) (kc ks : Nat) (hI : INV dC dI cD cZ cI cL A h ox hm b0 b1 b2 b3 H) (hS : va_S A s.heap H locs) (hk : kc + 1 ≤ 1048) (hs : ks + 6 ≤ 8702) (i : Nat) (hi : i + 5 ≤ L) (ls : Array Slot) (hl : lv_has ls 8 [(0, .ref b), (1, .ref h), (2, .ref hm), (3, .ref ox), (4, .int (nI (i)))]) (nx : ∀ (H : Heap) (locs : List Loc) (ls : Array Slot), INV dC dI cD cZ cI cL A h ox hm b0 b1 b2 b3 H → va_S A s.heap H locs → lv_has ls 8 [(0, .ref b), (1, .ref h), (2, .ref hm), (3, .ref ox), (4, .int (nI (i)))] → W p l e room_1 s m #[Value.ref b] below meth c H locs (kc + 1) (ks + 6) (lw_Z below #[Value.ref b] s) (F0 m 1611 ls [])) : W p l e room_1 s m #[Value.ref b] below meth c H locs kc ks (lw_Z below #[Value.ref b] s) (F0 m 519 ls []) := by
  obtain ⟨pf, f0, f1, f2, f3, po, o0, o1, o2, o3, tt, t0, NF, GF, TF, OF, NO, GO, TO, OO, DG, nn, F, N, I, T, R, th, hP, hD, hR⟩ := INV_at (decide (xs (i + 1) ≠ 0)) hI
  have hnn6 := rel_nn hR
  cases hv1 : vB (xs (i + 2)) nn with
  | false =>
    exact lg_holds_t1 C hAe h pf f0 f1 f2 f3 po o0 o1 o2 o3 tt t0 NF GF TF OF NO GO TO OO DG nn (decide (xs (i + 1) ≠ 0)) ox F hm b0 b1 b2 b3 N I T R th H locs kc ks hP hD hR hS hk hs i hi (xs (i + 2)) (xs (i + 3)) (xs (i + 4)) hv1 rfl rfl rfl rfl ls hl nx
  | true =>
    obtain ⟨en, hen, he1⟩ := vB_of hv1 (by omega)
    cases hv2 : vB (xs (i + 3)) 5 with
    | false =>
      exact lg_holds_t2 C hAe h pf f0 f1 f2 f3 po o0 o1 o2 o3 tt t0 NF GF TF OF NO GO TO OO DG nn (decide (xs (i + 1) ≠ 0)) ox F hm b0 b1 b2 b3 N I T R th H locs kc ks hP hD hR hS hk hs i hi (rel_nn hR) en (xs (i + 3)) (xs (i + 4)) hen hv2 rfl he1 rfl rfl ls hl nx
    | true =>
      obtain ⟨bn, hbn, he2⟩ := vB_of hv2 (by omega)
      cases hv3 : vB (xs (i + 4)) 24 with
      | false =>
        exact lg_holds_t3 C hAe h pf f0 f1 f2 f3 po o0 o1 o2 o3 tt t0 NF GF TF OF NO GO TO OO DG nn (decide (xs (i + 1) ≠ 0)) ox F hm b0 b1 b2 b3 N I T R th H locs kc ks hP hD hR hS hk hs i hi (rel_nn hR) en bn (xs (i + 4)) hen hbn hv3 rfl he1 he2 rfl ls hl nx
      | true =>
        obtain ⟨kn, hkn, he3⟩ := vB_of hv3 (by omega)
        exact lg_holds_ok C hAe h pf f0 f1 f2 f3 po o0 o1 o2 o3 tt t0 NF GF TF OF NO GO TO OO DG nn (decide (xs (i + 1) ≠ 0)) ox F hm b0 b1 b2 b3 N I T R th H locs kc ks hP hD hR hS hk hs i hi (rel_nn hR) en bn hen hbn kn hkn rfl he1 he2 he3 ls hl nx
theorem op_tally {p : Program} {l : Launch} {e : Env} {s : State} {m : MethodId} {below : List Frame} {meth : Method} {c : Code} {b L : Nat} {xs : Nat → Int32} {dC : Nat → ClassId} {dI : Nat → Nat → Nat} {cD cZ cI cL : ClassId} {A : Nat → Prop} (C : lw_C p l s m c b L xs dC dI cD cZ cI cL) (hAe : A = fun q : Nat => s.heap.size ≤ q) (h ox hm b0 b1 b2 b3 : Nat) (H : Heap) (locs : List Loc) (kc ks : Nat) (hI : INV dC dI cD cZ cI cL A h ox hm b0 b1 b2 b3 H) (hS : va_S A s.heap H locs) (hk : kc + 1 ≤ 1048) (hs : ks + 6 ≤ 8702) (i : Nat) (hi : i + 5 ≤ L) (ls : Array Slot) (hl : lv_has ls 8 [(0, .ref b), (1, .ref h), (2, .ref hm), (3, .ref ox), (4, .int (nI (i)))]) (nx : ∀ (H : Heap) (locs : List Loc) (ls : Array Slot), INV dC dI cD cZ cI cL A h ox hm b0 b1 b2 b3 H → va_S A s.heap H locs → lv_has ls 8 [(0, .ref b), (1, .ref h), (2, .ref hm), (3, .ref ox), (4, .int (nI (i)))] → W p l e room_1 s m #[Value.ref b] below meth c H locs (kc + 1) (ks + 6) (lw_Z below #[Value.ref b] s) (F0 m 1611 ls [])) : W p l e room_1 s m #[Value.ref b] below meth c H locs kc ks (lw_Z below #[Value.ref b] s) (F0 m 634 ls []) := by
  obtain ⟨pf, f0, f1, f2, f3, po, o0, o1, o2, o3, tt, t0, NF, GF, TF, OF, NO, GO, TO, OO, DG, nn, F, N, I, T, R, th, hP, hD, hR⟩ := INV_at (decide (xs (i + 1) ≠ 0)) hI
  have hnn6 := rel_nn hR
  cases hv1 : vB (xs (i + 2)) nn with
  | false =>
    exact lg_tally_t1 C hAe h pf f0 f1 f2 f3 po o0 o1 o2 o3 tt t0 NF GF TF OF NO GO TO OO DG nn (decide (xs (i + 1) ≠ 0)) ox F hm b0 b1 b2 b3 N I T R th H locs kc ks hP hD hR hS hk hs i hi (xs (i + 2)) (xs (i + 3)) hv1 rfl rfl rfl ls hl nx
  | true =>
    obtain ⟨en, hen, he1⟩ := vB_of hv1 (by omega)
    cases hv2 : vB (xs (i + 3)) 24 with
    | false =>
      exact lg_tally_t3 C hAe h pf f0 f1 f2 f3 po o0 o1 o2 o3 tt t0 NF GF TF OF NO GO TO OO DG nn (decide (xs (i + 1) ≠ 0)) ox F hm b0 b1 b2 b3 N I T R th H locs kc ks hP hD hR hS hk hs i hi (rel_nn hR) en (xs (i + 3)) hen hv2 rfl he1 rfl ls hl nx
    | true =>
      obtain ⟨kn, hkn, he2⟩ := vB_of hv2 (by omega)
      exact lg_tally_ok C hAe h pf f0 f1 f2 f3 po o0 o1 o2 o3 tt t0 NF GF TF OF NO GO TO OO DG nn (decide (xs (i + 1) ≠ 0)) ox F hm b0 b1 b2 b3 N I T R th H locs kc ks hP hD hR hS hk hs i hi (rel_nn hR) en hen kn hkn rfl he1 he2 ls hl nx
theorem op_run {p : Program} {l : Launch} {e : Env} {s : State} {m : MethodId} {below : List Frame} {meth : Method} {c : Code} {b L : Nat} {xs : Nat → Int32} {dC : Nat → ClassId} {dI : Nat → Nat → Nat} {cD cZ cI cL : ClassId} {A : Nat → Prop} (C : lw_C p l s m c b L xs dC dI cD cZ cI cL) (hAe : A = fun q : Nat => s.heap.size ≤ q) (h ox hm b0 b1 b2 b3 : Nat) (H : Heap) (locs : List Loc) (kc ks : Nat) (hI : INV dC dI cD cZ cI cL A h ox hm b0 b1 b2 b3 H) (hS : va_S A s.heap H locs) (hk : kc + 1 ≤ 1048) (hs : ks + 6 ≤ 8702) (i : Nat) (hi : i + 5 ≤ L) (ls : Array Slot) (hl : lv_has ls 8 [(0, .ref b), (1, .ref h), (2, .ref hm), (3, .ref ox), (4, .int (nI (i)))]) (nx : ∀ (H : Heap) (locs : List Loc) (ls : Array Slot), INV dC dI cD cZ cI cL A h ox hm b0 b1 b2 b3 H → va_S A s.heap H locs → lv_has ls 8 [(0, .ref b), (1, .ref h), (2, .ref hm), (3, .ref ox), (4, .int (nI (i)))] → W p l e room_1 s m #[Value.ref b] below meth c H locs (kc + 1) (ks + 6) (lw_Z below #[Value.ref b] s) (F0 m 1611 ls [])) : W p l e room_1 s m #[Value.ref b] below meth c H locs kc ks (lw_Z below #[Value.ref b] s) (F0 m 730 ls []) := by
  obtain ⟨pf, f0, f1, f2, f3, po, o0, o1, o2, o3, tt, t0, NF, GF, TF, OF, NO, GO, TO, OO, DG, nn, F, N, I, T, R, th, hP, hD, hR⟩ := INV_at (decide (xs (i + 1) ≠ 0)) hI
  have hnn6 := rel_nn hR
  cases hv1 : vB (xs (i + 2)) nn with
  | false =>
    exact lg_run_t1 C hAe h pf f0 f1 f2 f3 po o0 o1 o2 o3 tt t0 NF GF TF OF NO GO TO OO DG nn (decide (xs (i + 1) ≠ 0)) ox F hm b0 b1 b2 b3 N I T R th H locs kc ks hP hD hR hS hk hs i hi (xs (i + 2)) (xs (i + 3)) (xs (i + 4)) hv1 rfl rfl rfl rfl ls hl nx
  | true =>
    obtain ⟨en, hen, he1⟩ := vB_of hv1 (by omega)
    cases hv2 : vB (xs (i + 3)) 6 with
    | false =>
      obtain ⟨hq5, hn5⟩ := vB_65 hv2
      exact lg_run_t2 C hAe h pf f0 f1 f2 f3 po o0 o1 o2 o3 tt t0 NF GF TF OF NO GO TO OO DG nn (decide (xs (i + 1) ≠ 0)) ox F hm b0 b1 b2 b3 N I T R th H locs kc ks hP hD hR hS hk hs i hi (rel_nn hR) en (xs (i + 3)) (xs (i + 4)) hen hq5 hn5 rfl he1 rfl rfl ls hl nx
    | true =>
      obtain ⟨fr, hfr, he2⟩ := vB_of hv2 (by omega)
      cases hv3 : vB (xs (i + 4)) 24 with
      | false =>
        exact lg_run_t3 C hAe h pf f0 f1 f2 f3 po o0 o1 o2 o3 tt t0 NF GF TF OF NO GO TO OO DG nn (decide (xs (i + 1) ≠ 0)) ox F hm b0 b1 b2 b3 N I T R th H locs kc ks hP hD hR hS hk hs i hi (rel_nn hR) en fr (xs (i + 4)) hen hfr hv3 rfl he1 he2 rfl ls hl nx
      | true =>
        obtain ⟨kn, hkn, he3⟩ := vB_of hv3 (by omega)
        exact lg_run_ok C hAe h pf f0 f1 f2 f3 po o0 o1 o2 o3 tt t0 NF GF TF OF NO GO TO OO DG nn (decide (xs (i + 1) ≠ 0)) ox F hm b0 b1 b2 b3 N I T R th H locs kc ks hP hD hR hS hk hs i hi (rel_nn hR) en fr hen hfr kn hkn rfl he1 he2 he3 ls hl nx
theorem op_keep {p : Program} {l : Launch} {e : Env} {s : State} {m : MethodId} {below : List Frame} {meth : Method} {c : Code} {b L : Nat} {xs : Nat → Int32} {dC : Nat → ClassId} {dI : Nat → Nat → Nat} {cD cZ cI cL : ClassId} {A : Nat → Prop} (C : lw_C p l s m c b L xs dC dI cD cZ cI cL) (hAe : A = fun q : Nat => s.heap.size ≤ q) (h ox hm b0 b1 b2 b3 : Nat) (H : Heap) (locs : List Loc) (kc ks : Nat) (hI : INV dC dI cD cZ cI cL A h ox hm b0 b1 b2 b3 H) (hS : va_S A s.heap H locs) (hk : kc + 1 ≤ 1048) (hs : ks + 6 ≤ 8702) (i : Nat) (hi : i + 5 ≤ L) (ls : Array Slot) (hl : lv_has ls 8 [(0, .ref b), (1, .ref h), (2, .ref hm), (3, .ref ox), (4, .int (nI (i)))]) (nx : ∀ (H : Heap) (locs : List Loc) (ls : Array Slot), INV dC dI cD cZ cI cL A h ox hm b0 b1 b2 b3 H → va_S A s.heap H locs → lv_has ls 8 [(0, .ref b), (1, .ref h), (2, .ref hm), (3, .ref ox), (4, .int (nI (i)))] → W p l e room_1 s m #[Value.ref b] below meth c H locs (kc + 1) (ks + 6) (lw_Z below #[Value.ref b] s) (F0 m 1611 ls [])) : W p l e room_1 s m #[Value.ref b] below meth c H locs kc ks (lw_Z below #[Value.ref b] s) (F0 m 838 ls []) := by
  obtain ⟨pf, f0, f1, f2, f3, po, o0, o1, o2, o3, tt, t0, NF, GF, TF, OF, NO, GO, TO, OO, DG, nn, F, N, I, T, R, th, hP, hD, hR⟩ := INV_at (decide (xs (i + 1) ≠ 0)) hI
  have hnn6 := rel_nn hR
  cases hv1 : vB (xs (i + 2)) nn with
  | false =>
    exact lg_keep_t1 C hAe h pf f0 f1 f2 f3 po o0 o1 o2 o3 tt t0 NF GF TF OF NO GO TO OO DG nn (decide (xs (i + 1) ≠ 0)) ox F hm b0 b1 b2 b3 N I T R th H locs kc ks hP hD hR hS hk hs i hi (xs (i + 2)) (xs (i + 3)) (xs (i + 4)) hv1 rfl rfl rfl rfl ls hl nx
  | true =>
    obtain ⟨en, hen, he1⟩ := vB_of hv1 (by omega)
    cases hv2 : vB (xs (i + 3)) 5 with
    | false =>
      exact lg_keep_t2 C hAe h pf f0 f1 f2 f3 po o0 o1 o2 o3 tt t0 NF GF TF OF NO GO TO OO DG nn (decide (xs (i + 1) ≠ 0)) ox F hm b0 b1 b2 b3 N I T R th H locs kc ks hP hD hR hS hk hs i hi (rel_nn hR) en (xs (i + 3)) (xs (i + 4)) hen hv2 rfl he1 rfl rfl ls hl nx
    | true =>
      obtain ⟨bn, hbn, he2⟩ := vB_of hv2 (by omega)
      cases hv3 : vB (xs (i + 4)) 24 with
      | false =>
        exact lg_keep_t3 C hAe h pf f0 f1 f2 f3 po o0 o1 o2 o3 tt t0 NF GF TF OF NO GO TO OO DG nn (decide (xs (i + 1) ≠ 0)) ox F hm b0 b1 b2 b3 N I T R th H locs kc ks hP hD hR hS hk hs i hi (rel_nn hR) en bn (xs (i + 4)) hen hbn hv3 rfl he1 he2 rfl ls hl nx
      | true =>
        obtain ⟨kn, hkn, he3⟩ := vB_of hv3 (by omega)
        exact lg_keep_ok C hAe h pf f0 f1 f2 f3 po o0 o1 o2 o3 tt t0 NF GF TF OF NO GO TO OO DG nn (decide (xs (i + 1) ≠ 0)) ox F hm b0 b1 b2 b3 N I T R th H locs kc ks hP hD hR hS hk hs i hi (rel_nn hR) en bn hen hbn kn hkn rfl he1 he2 he3 ls hl nx
theorem op_kept {p : Program} {l : Launch} {e : Env} {s : State} {m : MethodId} {below : List Frame} {meth : Method} {c : Code} {b L : Nat} {xs : Nat → Int32} {dC : Nat → ClassId} {dI : Nat → Nat → Nat} {cD cZ cI cL : ClassId} {A : Nat → Prop} (C : lw_C p l s m c b L xs dC dI cD cZ cI cL) (hAe : A = fun q : Nat => s.heap.size ≤ q) (h ox hm b0 b1 b2 b3 : Nat) (H : Heap) (locs : List Loc) (kc ks : Nat) (hI : INV dC dI cD cZ cI cL A h ox hm b0 b1 b2 b3 H) (hS : va_S A s.heap H locs) (hk : kc + 1 ≤ 1048) (hs : ks + 6 ≤ 8702) (i : Nat) (hi : i + 5 ≤ L) (ls : Array Slot) (hl : lv_has ls 8 [(0, .ref b), (1, .ref h), (2, .ref hm), (3, .ref ox), (4, .int (nI (i)))]) (nx : ∀ (H : Heap) (locs : List Loc) (ls : Array Slot), INV dC dI cD cZ cI cL A h ox hm b0 b1 b2 b3 H → va_S A s.heap H locs → lv_has ls 8 [(0, .ref b), (1, .ref h), (2, .ref hm), (3, .ref ox), (4, .int (nI (i)))] → W p l e room_1 s m #[Value.ref b] below meth c H locs (kc + 1) (ks + 6) (lw_Z below #[Value.ref b] s) (F0 m 1611 ls [])) : W p l e room_1 s m #[Value.ref b] below meth c H locs kc ks (lw_Z below #[Value.ref b] s) (F0 m 953 ls []) := by
  obtain ⟨pf, f0, f1, f2, f3, po, o0, o1, o2, o3, tt, t0, NF, GF, TF, OF, NO, GO, TO, OO, DG, nn, F, N, I, T, R, th, hP, hD, hR⟩ := INV_at (decide (xs (i + 1) ≠ 0)) hI
  have hnn6 := rel_nn hR
  cases hv1 : vB (xs (i + 2)) nn with
  | false =>
    exact lg_kept_t1 C hAe h pf f0 f1 f2 f3 po o0 o1 o2 o3 tt t0 NF GF TF OF NO GO TO OO DG nn (decide (xs (i + 1) ≠ 0)) ox F hm b0 b1 b2 b3 N I T R th H locs kc ks hP hD hR hS hk hs i hi (xs (i + 2)) (xs (i + 3)) hv1 rfl rfl rfl ls hl nx
  | true =>
    obtain ⟨en, hen, he1⟩ := vB_of hv1 (by omega)
    cases hv2 : vB (xs (i + 3)) 5 with
    | false =>
      exact lg_kept_t2 C hAe h pf f0 f1 f2 f3 po o0 o1 o2 o3 tt t0 NF GF TF OF NO GO TO OO DG nn (decide (xs (i + 1) ≠ 0)) ox F hm b0 b1 b2 b3 N I T R th H locs kc ks hP hD hR hS hk hs i hi (rel_nn hR) en (xs (i + 3)) hen hv2 rfl he1 rfl ls hl nx
    | true =>
      obtain ⟨bn, hbn, he2⟩ := vB_of hv2 (by omega)
      exact lg_kept_ok C hAe h pf f0 f1 f2 f3 po o0 o1 o2 o3 tt t0 NF GF TF OF NO GO TO OO DG nn (decide (xs (i + 1) ≠ 0)) ox F hm b0 b1 b2 b3 N I T R th H locs kc ks hP hD hR hS hk hs i hi (rel_nn hR) en bn hen hbn rfl he1 he2 ls hl nx
theorem op_place {p : Program} {l : Launch} {e : Env} {s : State} {m : MethodId} {below : List Frame} {meth : Method} {c : Code} {b L : Nat} {xs : Nat → Int32} {dC : Nat → ClassId} {dI : Nat → Nat → Nat} {cD cZ cI cL : ClassId} {A : Nat → Prop} (C : lw_C p l s m c b L xs dC dI cD cZ cI cL) (hAe : A = fun q : Nat => s.heap.size ≤ q) (h ox hm b0 b1 b2 b3 : Nat) (H : Heap) (locs : List Loc) (kc ks : Nat) (hI : INV dC dI cD cZ cI cL A h ox hm b0 b1 b2 b3 H) (hS : va_S A s.heap H locs) (hk : kc + 1 ≤ 1048) (hs : ks + 6 ≤ 8702) (i : Nat) (hi : i + 5 ≤ L) (ls : Array Slot) (hl : lv_has ls 8 [(0, .ref b), (1, .ref h), (2, .ref hm), (3, .ref ox), (4, .int (nI (i)))]) (nx : ∀ (H : Heap) (locs : List Loc) (ls : Array Slot), INV dC dI cD cZ cI cL A h ox hm b0 b1 b2 b3 H → va_S A s.heap H locs → lv_has ls 8 [(0, .ref b), (1, .ref h), (2, .ref hm), (3, .ref ox), (4, .int (nI (i)))] → W p l e room_1 s m #[Value.ref b] below meth c H locs (kc + 1) (ks + 6) (lw_Z below #[Value.ref b] s) (F0 m 1611 ls [])) : W p l e room_1 s m #[Value.ref b] below meth c H locs kc ks (lw_Z below #[Value.ref b] s) (F0 m 1049 ls []) := by
  obtain ⟨pf, f0, f1, f2, f3, po, o0, o1, o2, o3, tt, t0, NF, GF, TF, OF, NO, GO, TO, OO, DG, nn, F, N, I, T, R, th, hP, hD, hR⟩ := INV_at (decide (xs (i + 1) ≠ 0)) hI
  have hnn6 := rel_nn hR
  cases hv1 : vB (xs (i + 2)) nn with
  | false =>
    exact lg_place_t1 C hAe h pf f0 f1 f2 f3 po o0 o1 o2 o3 tt t0 NF GF TF OF NO GO TO OO DG nn (decide (xs (i + 1) ≠ 0)) ox F hm b0 b1 b2 b3 N I T R th H locs kc ks hP hD hR hS hk hs i hi (xs (i + 2)) (xs (i + 3)) (decide (xs (i + 4) ≠ 0)) hv1 rfl rfl rfl rfl ls hl nx
  | true =>
    obtain ⟨en, hen, he1⟩ := vB_of hv1 (by omega)
    cases hv2 : vB (xs (i + 3)) 5 with
    | false =>
      exact lg_place_t2 C hAe h pf f0 f1 f2 f3 po o0 o1 o2 o3 tt t0 NF GF TF OF NO GO TO OO DG nn (decide (xs (i + 1) ≠ 0)) ox F hm b0 b1 b2 b3 N I T R th H locs kc ks hP hD hR hS hk hs i hi (rel_nn hR) en (xs (i + 3)) (decide (xs (i + 4) ≠ 0)) hen hv2 rfl he1 rfl rfl ls hl nx
    | true =>
      obtain ⟨bn, hbn, he2⟩ := vB_of hv2 (by omega)
      exact lg_place_ok C hAe h pf f0 f1 f2 f3 po o0 o1 o2 o3 tt t0 NF GF TF OF NO GO TO OO DG nn (decide (xs (i + 1) ≠ 0)) ox F hm b0 b1 b2 b3 N I T R th H locs kc ks hP hD hR hS hk hs i hi (rel_nn hR) en bn hen hbn (decide (xs (i + 4) ≠ 0)) rfl he1 he2 rfl ls hl nx
theorem op_best {p : Program} {l : Launch} {e : Env} {s : State} {m : MethodId} {below : List Frame} {meth : Method} {c : Code} {b L : Nat} {xs : Nat → Int32} {dC : Nat → ClassId} {dI : Nat → Nat → Nat} {cD cZ cI cL : ClassId} {A : Nat → Prop} (C : lw_C p l s m c b L xs dC dI cD cZ cI cL) (hAe : A = fun q : Nat => s.heap.size ≤ q) (h ox hm b0 b1 b2 b3 : Nat) (H : Heap) (locs : List Loc) (kc ks : Nat) (hI : INV dC dI cD cZ cI cL A h ox hm b0 b1 b2 b3 H) (hS : va_S A s.heap H locs) (hk : kc + 1 ≤ 1048) (hs : ks + 6 ≤ 8702) (i : Nat) (hi : i + 5 ≤ L) (ls : Array Slot) (hl : lv_has ls 8 [(0, .ref b), (1, .ref h), (2, .ref hm), (3, .ref ox), (4, .int (nI (i)))]) (nx : ∀ (H : Heap) (locs : List Loc) (ls : Array Slot), INV dC dI cD cZ cI cL A h ox hm b0 b1 b2 b3 H → va_S A s.heap H locs → lv_has ls 8 [(0, .ref b), (1, .ref h), (2, .ref hm), (3, .ref ox), (4, .int (nI (i)))] → W p l e room_1 s m #[Value.ref b] below meth c H locs (kc + 1) (ks + 6) (lw_Z below #[Value.ref b] s) (F0 m 1611 ls [])) : W p l e room_1 s m #[Value.ref b] below meth c H locs kc ks (lw_Z below #[Value.ref b] s) (F0 m 1173 ls []) := by
  obtain ⟨pf, f0, f1, f2, f3, po, o0, o1, o2, o3, tt, t0, NF, GF, TF, OF, NO, GO, TO, OO, DG, nn, F, N, I, T, R, th, hP, hD, hR⟩ := INV_at (decide (xs (i + 1) ≠ 0)) hI
  have hnn6 := rel_nn hR
  cases hv1 : vB (xs (i + 2)) 5 with
  | false =>
    exact lg_best_t1 C hAe h pf f0 f1 f2 f3 po o0 o1 o2 o3 tt t0 NF GF TF OF NO GO TO OO DG nn (decide (xs (i + 1) ≠ 0)) ox F hm b0 b1 b2 b3 N I T R th H locs kc ks hP hD hR hS hk hs i hi (xs (i + 2)) (xs (i + 3)) hv1 rfl rfl rfl ls hl nx
  | true =>
    obtain ⟨bn, hbn, he1⟩ := vB_of hv1 (by omega)
    cases hv2 : vB (xs (i + 3)) 4 with
    | false =>
      exact lg_best_t2 C hAe h pf f0 f1 f2 f3 po o0 o1 o2 o3 tt t0 NF GF TF OF NO GO TO OO DG nn (decide (xs (i + 1) ≠ 0)) ox F hm b0 b1 b2 b3 N I T R th H locs kc ks hP hD hR hS hk hs i hi bn (xs (i + 3)) hbn hv2 rfl he1 rfl ls hl nx
    | true =>
      obtain ⟨how, hhow, he2⟩ := vB_of hv2 (by omega)
      rcases Nat.eq_zero_or_pos nn with hn0 | hn0
      · exact lg_best_ok0 C hAe h pf f0 f1 f2 f3 po o0 o1 o2 o3 tt t0 NF GF TF OF NO GO TO OO DG nn (decide (xs (i + 1) ≠ 0)) ox F hm b0 b1 b2 b3 N I T R th H locs kc ks hP hD hR hS hk hs i hi (rel_nn hR) bn how hbn hhow hn0 rfl he1 he2 ls hl nx
      · exact lg_best_ok C hAe h pf f0 f1 f2 f3 po o0 o1 o2 o3 tt t0 NF GF TF OF NO GO TO OO DG nn (decide (xs (i + 1) ≠ 0)) ox F hm b0 b1 b2 b3 N I T R th H locs kc ks hP hD hR hS hk hs i hi (rel_nn hR) bn how hbn hhow hn0 rfl he1 he2 ls hl nx
theorem op_against {p : Program} {l : Launch} {e : Env} {s : State} {m : MethodId} {below : List Frame} {meth : Method} {c : Code} {b L : Nat} {xs : Nat → Int32} {dC : Nat → ClassId} {dI : Nat → Nat → Nat} {cD cZ cI cL : ClassId} {A : Nat → Prop} (C : lw_C p l s m c b L xs dC dI cD cZ cI cL) (hAe : A = fun q : Nat => s.heap.size ≤ q) (h ox hm b0 b1 b2 b3 : Nat) (H : Heap) (locs : List Loc) (kc ks : Nat) (hI : INV dC dI cD cZ cI cL A h ox hm b0 b1 b2 b3 H) (hS : va_S A s.heap H locs) (hk : kc + 1 ≤ 1048) (hs : ks + 6 ≤ 8702) (i : Nat) (hi : i + 5 ≤ L) (ls : Array Slot) (hl : lv_has ls 8 [(0, .ref b), (1, .ref h), (2, .ref hm), (3, .ref ox), (4, .int (nI (i)))]) (nx : ∀ (H : Heap) (locs : List Loc) (ls : Array Slot), INV dC dI cD cZ cI cL A h ox hm b0 b1 b2 b3 H → va_S A s.heap H locs → lv_has ls 8 [(0, .ref b), (1, .ref h), (2, .ref hm), (3, .ref ox), (4, .int (nI (i)))] → W p l e room_1 s m #[Value.ref b] below meth c H locs (kc + 1) (ks + 6) (lw_Z below #[Value.ref b] s) (F0 m 1611 ls [])) : W p l e room_1 s m #[Value.ref b] below meth c H locs kc ks (lw_Z below #[Value.ref b] s) (F0 m 1269 ls []) := by
  obtain ⟨pf, f0, f1, f2, f3, po, o0, o1, o2, o3, tt, t0, NF, GF, TF, OF, NO, GO, TO, OO, DG, nn, F, N, I, T, R, th, hP, hD, hR⟩ := INV_at (decide (xs (i + 1) ≠ 0)) hI
  have hnn6 := rel_nn hR
  cases hv1 : vB (xs (i + 2)) nn with
  | false =>
    exact lg_against_t1 C hAe h pf f0 f1 f2 f3 po o0 o1 o2 o3 tt t0 NF GF TF OF NO GO TO OO DG nn (decide (xs (i + 1) ≠ 0)) ox F hm b0 b1 b2 b3 N I T R th H locs kc ks hP hD hR hS hk hs i hi (xs (i + 2)) (xs (i + 3)) (xs (i + 4)) hv1 rfl rfl rfl rfl ls hl nx
  | true =>
    obtain ⟨ea, hea, he1⟩ := vB_of hv1 (by omega)
    cases hv2 : vB (xs (i + 3)) nn with
    | false =>
      exact lg_against_t2 C hAe h pf f0 f1 f2 f3 po o0 o1 o2 o3 tt t0 NF GF TF OF NO GO TO OO DG nn (decide (xs (i + 1) ≠ 0)) ox F hm b0 b1 b2 b3 N I T R th H locs kc ks hP hD hR hS hk hs i hi (rel_nn hR) ea (xs (i + 3)) (xs (i + 4)) hea hv2 rfl he1 rfl rfl ls hl nx
    | true =>
      obtain ⟨eb, heb, he2⟩ := vB_of hv2 (by omega)
      cases hv3 : vB (xs (i + 4)) 5 with
      | false =>
        exact lg_against_t3 C hAe h pf f0 f1 f2 f3 po o0 o1 o2 o3 tt t0 NF GF TF OF NO GO TO OO DG nn (decide (xs (i + 1) ≠ 0)) ox F hm b0 b1 b2 b3 N I T R th H locs kc ks hP hD hR hS hk hs i hi (rel_nn hR) ea eb (xs (i + 4)) hea heb hv3 rfl he1 he2 rfl ls hl nx
      | true =>
        obtain ⟨wh, hwh, he3⟩ := vB_of hv3 (by omega)
        exact lg_against_ok C hAe h pf f0 f1 f2 f3 po o0 o1 o2 o3 tt t0 NF GF TF OF NO GO TO OO DG nn (decide (xs (i + 1) ≠ 0)) ox F hm b0 b1 b2 b3 N I T R th H locs kc ks hP hD hR hS hk hs i hi (rel_nn hR) ea eb wh hea heb hwh rfl he1 he2 he3 ls hl nx
theorem op_told {p : Program} {l : Launch} {e : Env} {s : State} {m : MethodId} {below : List Frame} {meth : Method} {c : Code} {b L : Nat} {xs : Nat → Int32} {dC : Nat → ClassId} {dI : Nat → Nat → Nat} {cD cZ cI cL : ClassId} {A : Nat → Prop} (C : lw_C p l s m c b L xs dC dI cD cZ cI cL) (hAe : A = fun q : Nat => s.heap.size ≤ q) (h ox hm b0 b1 b2 b3 : Nat) (H : Heap) (locs : List Loc) (kc ks : Nat) (hI : INV dC dI cD cZ cI cL A h ox hm b0 b1 b2 b3 H) (hS : va_S A s.heap H locs) (hk : kc + 1 ≤ 1048) (hs : ks + 6 ≤ 8702) (i : Nat) (hi : i + 5 ≤ L) (ls : Array Slot) (hl : lv_has ls 8 [(0, .ref b), (1, .ref h), (2, .ref hm), (3, .ref ox), (4, .int (nI (i)))]) (nx : ∀ (H : Heap) (locs : List Loc) (ls : Array Slot), INV dC dI cD cZ cI cL A h ox hm b0 b1 b2 b3 H → va_S A s.heap H locs → lv_has ls 8 [(0, .ref b), (1, .ref h), (2, .ref hm), (3, .ref ox), (4, .int (nI (i)))] → W p l e room_1 s m #[Value.ref b] below meth c H locs (kc + 1) (ks + 6) (lw_Z below #[Value.ref b] s) (F0 m 1611 ls [])) : W p l e room_1 s m #[Value.ref b] below meth c H locs kc ks (lw_Z below #[Value.ref b] s) (F0 m 1377 ls []) := by
  obtain ⟨pf, f0, f1, f2, f3, po, o0, o1, o2, o3, tt, t0, NF, GF, TF, OF, NO, GO, TO, OO, DG, nn, F, N, I, T, R, th, hP, hD, hR⟩ := INV_at (decide (xs (i + 1) ≠ 0)) hI
  have hnn6 := rel_nn hR
  by_cases hne : xs (i + 2) = (-1)
  · cases hv2 : vB (xs (i + 3)) 5 with
    | false =>
      exact lg_told_t2N C hAe h pf f0 f1 f2 f3 po o0 o1 o2 o3 tt t0 NF GF TF OF NO GO TO OO DG nn (decide (xs (i + 1) ≠ 0)) ox F hm b0 b1 b2 b3 N I T R th H locs kc ks hP hD hR hS hk hs i hi (xs (i + 3)) hv2 rfl hne rfl ls hl nx
    | true =>
      obtain ⟨bn, hbn, he2⟩ := vB_of hv2 (by omega)
      by_cases hth : GF (6 * 5 + bn) = 0
      · exact lg_told_teN C hAe h pf f0 f1 f2 f3 po o0 o1 o2 o3 tt t0 NF GF TF OF NO GO TO OO DG nn (decide (xs (i + 1) ≠ 0)) ox F hm b0 b1 b2 b3 N I T R th H locs kc ks hP hD hR hS hk hs i hi bn hbn (rel_hG hR) hth rfl hne he2 ls hl nx
      · exact lg_told_okN C hAe h pf f0 f1 f2 f3 po o0 o1 o2 o3 tt t0 NF GF TF OF NO GO TO OO DG nn (decide (xs (i + 1) ≠ 0)) ox F hm b0 b1 b2 b3 N I T R th H locs kc ks hP hD hR hS hk hs i hi bn hbn (rel_hG hR) (rel_g hR) hth rfl hne he2 ls hl nx
  · cases hv1 : vB (xs (i + 2)) nn with
    | false =>
      exact lg_told_t1 C hAe h pf f0 f1 f2 f3 po o0 o1 o2 o3 tt t0 NF GF TF OF NO GO TO OO DG nn (decide (xs (i + 1) ≠ 0)) ox F hm b0 b1 b2 b3 N I T R th H locs kc ks hP hD hR hS hk hs i hi (xs (i + 2)) (xs (i + 3)) hv1 hne rfl rfl rfl ls hl nx
    | true =>
      obtain ⟨en, hen, he1⟩ := vB_of hv1 (by omega)
      cases hv2 : vB (xs (i + 3)) 5 with
      | false =>
        exact lg_told_t2 C hAe h pf f0 f1 f2 f3 po o0 o1 o2 o3 tt t0 NF GF TF OF NO GO TO OO DG nn (decide (xs (i + 1) ≠ 0)) ox F hm b0 b1 b2 b3 N I T R th H locs kc ks hP hD hR hS hk hs i hi (rel_nn hR) en (xs (i + 3)) hen hv2 rfl he1 rfl ls hl nx
      | true =>
        obtain ⟨bn, hbn, he2⟩ := vB_of hv2 (by omega)
        by_cases hth : GF (en * 5 + bn) = 0
        · exact lg_told_te C hAe h pf f0 f1 f2 f3 po o0 o1 o2 o3 tt t0 NF GF TF OF NO GO TO OO DG nn (decide (xs (i + 1) ≠ 0)) ox F hm b0 b1 b2 b3 N I T R th H locs kc ks hP hD hR hS hk hs i hi (rel_nn hR) en bn hen hbn (rel_hG hR) hth rfl he1 he2 ls hl nx
        · exact lg_told_ok C hAe h pf f0 f1 f2 f3 po o0 o1 o2 o3 tt t0 NF GF TF OF NO GO TO OO DG nn (decide (xs (i + 1) ≠ 0)) ox F hm b0 b1 b2 b3 N I T R th H locs kc ks hP hD hR hS hk hs i hi (rel_nn hR) en bn hen hbn (rel_hG hR) (rel_g hR) hth rfl he1 he2 ls hl nx
theorem op_sum {p : Program} {l : Launch} {e : Env} {s : State} {m : MethodId} {below : List Frame} {meth : Method} {c : Code} {b L : Nat} {xs : Nat → Int32} {dC : Nat → ClassId} {dI : Nat → Nat → Nat} {cD cZ cI cL : ClassId} {A : Nat → Prop} (C : lw_C p l s m c b L xs dC dI cD cZ cI cL) (hAe : A = fun q : Nat => s.heap.size ≤ q) (h ox hm b0 b1 b2 b3 : Nat) (H : Heap) (locs : List Loc) (kc ks : Nat) (hI : INV dC dI cD cZ cI cL A h ox hm b0 b1 b2 b3 H) (hS : va_S A s.heap H locs) (hk : kc + 1 ≤ 1048) (hs : ks + 6 ≤ 8702) (i : Nat) (hi : i + 5 ≤ L) (ls : Array Slot) (hl : lv_has ls 8 [(0, .ref b), (1, .ref h), (2, .ref hm), (3, .ref ox), (4, .int (nI (i)))]) (nx : ∀ (H : Heap) (locs : List Loc) (ls : Array Slot), INV dC dI cD cZ cI cL A h ox hm b0 b1 b2 b3 H → va_S A s.heap H locs → lv_has ls 8 [(0, .ref b), (1, .ref h), (2, .ref hm), (3, .ref ox), (4, .int (nI (i)))] → W p l e room_1 s m #[Value.ref b] below meth c H locs (kc + 1) (ks + 6) (lw_Z below #[Value.ref b] s) (F0 m 1611 ls [])) : W p l e room_1 s m #[Value.ref b] below meth c H locs kc ks (lw_Z below #[Value.ref b] s) (F0 m 1472 ls []) := by
  obtain ⟨pf, f0, f1, f2, f3, po, o0, o1, o2, o3, tt, t0, NF, GF, TF, OF, NO, GO, TO, OO, DG, nn, F, N, I, T, R, th, hP, hD, hR⟩ := INV_at (decide (xs (i + 1) ≠ 0)) hI
  have hnn6 := rel_nn hR
  cases hv1 : vB (xs (i + 2)) nn with
  | false =>
    exact lg_sum_t1 C hAe h pf f0 f1 f2 f3 po o0 o1 o2 o3 tt t0 NF GF TF OF NO GO TO OO DG nn (decide (xs (i + 1) ≠ 0)) ox F hm b0 b1 b2 b3 N I T R th H locs kc ks hP hD hR hS hk hs i hi (xs (i + 2)) hv1 rfl rfl ls hl nx
  | true =>
    obtain ⟨en, hen, he1⟩ := vB_of hv1 (by omega)
    exact lg_sum_ok C hAe h pf f0 f1 f2 f3 po o0 o1 o2 o3 tt t0 NF GF TF OF NO GO TO OO DG nn (decide (xs (i + 1) ≠ 0)) ox F hm b0 b1 b2 b3 N I T R th H locs kc ks hP hD hR hS hk hs i hi (rel_nn hR) en hen (rel_g hR) rfl he1 ls hl nx
theorem op_count {p : Program} {l : Launch} {e : Env} {s : State} {m : MethodId} {below : List Frame} {meth : Method} {c : Code} {b L : Nat} {xs : Nat → Int32} {dC : Nat → ClassId} {dI : Nat → Nat → Nat} {cD cZ cI cL : ClassId} {A : Nat → Prop} (C : lw_C p l s m c b L xs dC dI cD cZ cI cL) (hAe : A = fun q : Nat => s.heap.size ≤ q) (h ox hm b0 b1 b2 b3 : Nat) (H : Heap) (locs : List Loc) (kc ks : Nat) (hI : INV dC dI cD cZ cI cL A h ox hm b0 b1 b2 b3 H) (hS : va_S A s.heap H locs) (hk : kc + 1 ≤ 1048) (hs : ks + 6 ≤ 8702) (i : Nat) (hi : i + 5 ≤ L) (ls : Array Slot) (hl : lv_has ls 8 [(0, .ref b), (1, .ref h), (2, .ref hm), (3, .ref ox), (4, .int (nI (i)))]) (nx : ∀ (H : Heap) (locs : List Loc) (ls : Array Slot), INV dC dI cD cZ cI cL A h ox hm b0 b1 b2 b3 H → va_S A s.heap H locs → lv_has ls 8 [(0, .ref b), (1, .ref h), (2, .ref hm), (3, .ref ox), (4, .int (nI (i)))] → W p l e room_1 s m #[Value.ref b] below meth c H locs (kc + 1) (ks + 6) (lw_Z below #[Value.ref b] s) (F0 m 1611 ls [])) : W p l e room_1 s m #[Value.ref b] below meth c H locs kc ks (lw_Z below #[Value.ref b] s) (F0 m 1555 ls []) := by
  obtain ⟨pf, f0, f1, f2, f3, po, o0, o1, o2, o3, tt, t0, NF, GF, TF, OF, NO, GO, TO, OO, DG, nn, F, N, I, T, R, th, hP, hD, hR⟩ := INV_at true hI
  have hnn6 := rel_nn hR
  cases hv0 : vB (xs (i + 1)) 9 with
  | false =>
    exact lg_count_t1 C hAe h pf f0 f1 f2 f3 po o0 o1 o2 o3 tt t0 NF GF TF OF NO GO TO OO DG nn ox F hm b0 b1 b2 b3 N I T R th H locs kc ks hP hD hR hS hk hs i hi (xs (i + 1)) hv0 rfl ls hl nx
  | true =>
    obtain ⟨wn, hwn, he0⟩ := vB_of hv0 (by omega)
    exact lg_count_ok C hAe h pf f0 f1 f2 f3 po o0 o1 o2 o3 tt t0 NF GF TF OF NO GO TO OO DG nn ox F hm b0 b1 b2 b3 N I T R th H locs kc ks hP hD hR hS hk hs i hi (rel_nn hR) wn hwn (by rw [rel_cG hR]; have := cnt_le (fun k => decide (I k ≠ 0)) (5 * nn); omega) (by rw [rel_cO hR]; have := cnt_le (fun k => decide (I (30 + k) ≠ 0)) (5 * nn); omega) he0 ls hl nx
