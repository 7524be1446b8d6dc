/-! THE CLAIM OUT OF ONE WALK OF THE LAW'S BODY. Your part is whole_start (and what it stands on); all else here is the same for every law, but numbers. -/
def R_law : String := "JuryTableLaw"
def lw_P (b : Addr) (xs : List Int32) (args : Array Value) (s : State) : Prop := args = #[.ref b] ∧ s.IntsAt b xs ∧ xs.length ≤ 2560 ∧ (Jvm.Cond.and given_1 narrow_1).before args s = true
def lw_Q (_ : Array Value) (s : State) (o : Outcome) (t : State) : Prop := o = .returned (some (.int 1)) ∧ Framed s o t [] 1048 8702
def lw_Z (below : List Frame) (a : Array Value) (s : State) : State → Prop := fun t => ∃ o, t.status = .running ∧ Ended t below o ∧ lw_Q a s o t
/-- the law's own end, with 1 on the stack, nothing written that was there before, its room as the claim has it -/
theorem lw_ret {p : Program} {l : Launch} {e : Env} {s : State} {m : MethodId} {below : List Frame} {meth : Method} {c : Code} {b : Nat} (hx : p.tables.exec = Jvm.exec) (hb : c.code = code) (hr : meth.sig.returnType = ret) (hlocks : meth.locks = false) {pc : Nat} {H : Heap} {ls : Array Slot} (hdg : decode code pc = .ok (.ireturn, 1)) : W p l e room_1 s m #[Value.ref b] below meth c H [] 1048 8702 (lw_Z below #[Value.ref b] s) (F0 m pc ls [.int 1]) := by
  intro T hT X
  obtain ⟨fs, hret, hrun, hended, hW, hframe⟩ := X.leave (v := some (.int 1)) (hlocks := hlocks) (fun h => by rw [hr] at h; cases h)
  have hmeth' : T.vm.method? m = some meth := X.method'
  refine ⟨T.setFrames fs, ?_, .returned (some (.int 1)), hrun, hended, rfl, ⟨_, rfl⟩, hW, hframe⟩
  jvm_step X.here [X.here.top, hx, hb, hdg, hmeth', hr, ret, narrow_b1]
  (try refine ⟨rfl, ?_⟩); (try refine ⟨rfl, ?_⟩)
  first | (intro acts; rw [hret _ acts rfl rfl rfl]) | rw [hret _ _ rfl rfl rfl]
  exact Steps.refl _
/-- what holds at the law's entry: the machine, the code, the tables' words (any of lw_tbl by 'hts w (by decide +kernel)'), the script of L ints xs at the cell b, what the Statement gives of the start (any of its parts by flat_of_before) -/
def lw_At (p : Program) (s : State) (m : MethodId) (meth : Method) (c : Code) (b L : Nat) (xs : Nat → Int32) : Prop :=
  p.tables.exec = Jvm.exec ∧ c.code = code ∧ meth.sig.returnType = ret ∧ c.maxLocals = 8 ∧ s.vm.findClass R_law = some m.cls ∧ (∀ w ∈ lw_tbl, w.before #[Value.ref b] s = true) ∧ va_X b L xs s s.heap ∧ b < s.heap.size ∧ meth.locks = false ∧ (Jvm.Cond.and given_1 narrow_1).before #[Value.ref b] s = true

/-! the law's world -/
abbrev w17 (cD cZ cI cL : ClassId) (h pf f0 f1 f2 f3 po o0 o1 o2 o3 tt t0 : Nat) (NF : Nat → UInt64) (GF TF OF : Nat → Int32) (NO : Nat → UInt64) (GO TO OO : Nat → Int32) (DG : Nat → Int64) (nn : Nat) (fb : Bool) (ox : Nat) (F : Nat → Int64) (hm b0 b1 b2 b3 : Nat) (N : Nat → UInt64) (I T R : Nat → Int32) (th : Int32) : va_W := [(h, .inr (1, [.ref (cond fb pf po), .ref (cond fb po pf), .ref tt, .int (nI nn)])), (pf, .inr (0, [.ref f0, .ref f1, .ref f2, .ref f3])), (f0, .inl (cD, 35, .inr (.inr (.inr (.inl NF))))), (f1, .inl (cZ, 35, .inl GF)), (f2, .inl (cI, 30, .inl TF)), (f3, .inl (cI, 6, .inl OF)), (po, .inr (0, [.ref o0, .ref o1, .ref o2, .ref o3])), (o0, .inl (cD, 35, .inr (.inr (.inr (.inl NO))))), (o1, .inl (cZ, 35, .inl GO)), (o2, .inl (cI, 30, .inl TO)), (o3, .inl (cI, 6, .inl OO)), (tt, .inr (3, [.ref t0])), (t0, .inl (cL, 42, .inr (.inl DG))), (ox, .inl (cL, 1, .inr (.inl F))), (hm, .inr (2, [.ref b0, .ref b1, .ref b2, .ref b3, .int (nI nn), .int th])), (b0, .inl (cD, 70, .inr (.inr (.inr (.inl N))))), (b1, .inl (cZ, 70, .inl I)), (b2, .inl (cI, 60, .inl T)), (b3, .inl (cI, 6, .inl R))]
/-- the two objects and the row, in the heap, and as the relation says -/
def INV (dC : Nat → ClassId) (dI : Nat → Nat → Nat) (cD cZ cI cL : ClassId) (A : Nat → Prop) (h ox hm b0 b1 b2 b3 : Nat) (H : Heap) : Prop := ∃ (fb : Bool) (pf f0 f1 f2 f3 po o0 o1 o2 o3 tt t0 : Nat) (NF : Nat → UInt64) (GF TF OF : Nat → Int32) (NO : Nat → UInt64) (GO TO OO : Nat → Int32) (DG : Nat → Int64) (nn : Nat) (F : Nat → Int64) (N : Nat → UInt64) (I T R : Nat → Int32) (th : Int32), va_P (dC, dI) vwCl (w17 cD cZ cI cL h pf f0 f1 f2 f3 po o0 o1 o2 o3 tt t0 NF GF TF OF NO GO TO OO DG nn fb ox F hm b0 b1 b2 b3 N I T R th) H ∧ va_D A (w17 cD cZ cI cL h pf f0 f1 f2 f3 po o0 o1 o2 o3 tt t0 NF GF TF OF NO GO TO OO DG nn fb ox F hm b0 b1 b2 b3 N I T R th) ∧ rel fb nn NF GF TF NO GO TO N I T
/-- .. with the panel first that is asked for -/
theorem INV_at {dC : Nat → ClassId} {dI : Nat → Nat → Nat} {cD cZ cI cL : ClassId} {A : Nat → Prop} {h ox hm b0 b1 b2 b3 : Nat} {H : Heap} (fb : Bool) (hI : INV dC dI cD cZ cI cL A h ox hm b0 b1 b2 b3 H) : ∃ (pf f0 f1 f2 f3 po o0 o1 o2 o3 tt t0 : Nat) (NF : Nat → UInt64) (GF TF OF : Nat → Int32) (NO : Nat → UInt64) (GO TO OO : Nat → Int32) (DG : Nat → Int64) (nn : Nat) (F : Nat → Int64) (N : Nat → UInt64) (I T R : Nat → Int32) (th : Int32), va_P (dC, dI) vwCl (w17 cD cZ cI cL h pf f0 f1 f2 f3 po o0 o1 o2 o3 tt t0 NF GF TF OF NO GO TO OO DG nn fb ox F hm b0 b1 b2 b3 N I T R th) H ∧ va_D A (w17 cD cZ cI cL h pf f0 f1 f2 f3 po o0 o1 o2 o3 tt t0 NF GF TF OF NO GO TO OO DG nn fb ox F hm b0 b1 b2 b3 N I T R th) ∧ rel fb nn NF GF TF NO GO TO N I T := by
  obtain ⟨fb0, pf, f0, f1, f2, f3, po, o0, o1, o2, o3, tt, t0, NF, GF, TF, OF, NO, GO, TO, OO, DG, nn, F, N, I, T, R, th, hP, hD, hR⟩ := hI
  by_cases e : fb0 = fb
  · subst e
    exact ⟨pf, f0, f1, f2, f3, po, o0, o1, o2, o3, tt, t0, NF, GF, TF, OF, NO, GO, TO, OO, DG, nn, F, N, I, T, R, th, hP, hD, hR⟩
  · have e2 : fb = !fb0 := by cases fb <;> cases fb0 <;> first | rfl | exact absurd rfl e
    subst e2
    refine ⟨po, o0, o1, o2, o3, pf, f0, f1, f2, f3, tt, t0, NO, GO, TO, OO, NF, GF, TF, OF, DG, nn, F, N, I, T, R, th, ?_, ?_, rel_swap hR⟩
    · cases fb0
      · exact hP.sub [0, 6, 7, 8, 9, 10, 1, 2, 3, 4, 5, 11, 12, 13, 14, 15, 16, 17, 18] rfl
      · exact hP.sub [0, 6, 7, 8, 9, 10, 1, 2, 3, 4, 5, 11, 12, 13, 14, 15, 16, 17, 18] rfl
    · cases fb0
      · exact hD.sub [0, 6, 7, 8, 9, 10, 1, 2, 3, 4, 5, 11, 12, 13, 14, 15, 16, 17, 18] (by decide) rfl
      · exact hD.sub [0, 6, 7, 8, 9, 10, 1, 2, 3, 4, 5, 11, 12, 13, 14, 15, 16, 17, 18] (by decide) rfl
/-- what holds all through the law -/
def lw_C (p : Program) (l : Launch) (s : State) (m : MethodId) (c : Code) (b L : Nat) (xs : Nat → Int32) (dC : Nat → ClassId) (dI : Nat → Nat → Nat) (cD cZ cI cL : ClassId) : Prop :=
  p.tables.exec = Jvm.exec ∧ c.code = cL_law ∧ c.maxLocals = 8 ∧ s.vm.findClass RL = some m.cls ∧ (∀ w ∈ wsL_law, w.before #[Value.ref b] s = true) ∧ va_X b L xs s s.heap ∧ b < s.heap.size ∧ L ≤ 2560 ∧ l.stackTraces = false ∧ va_K (dC, dI) vwCl (tL cD cZ cI cL) s ∧ exS s ∧ vx_Zq Bundle.tN "UNASSIGNED_STACK" Bundle.steD (fun q : Nat => s.heap.size ≤ q) s s.heap ∧ vx_Zq Bundle.tN "SUPPRESSED_SENTINEL" Bundle.listD (fun q : Nat => s.heap.size ≤ q) s s.heap
section LOWN
variable {p : Program} {l : Launch} {e : Env} {R : Room} {s : State} {m : MethodId} {args : Array Value} {below : List Frame} {meth : Method} {c : Code} {H : Heap} {locs : List Loc} {cells slots : Nat} {Q : State → Prop}
variable {cc : ByteArray} {pc : Nat} {ls : Array Slot} {rest : List Value}
theorem xn_sld (hx : p.tables.exec = Jvm.exec) (hb : c.code = cc) {b L : Nat} {xs : Nat → Int32} {A : Nat → Prop} {H0 : Heap} (hX : va_X b L xs s H0) (hbl : b < H0.size) (hbA : ¬ A b) (hS : va_S A H0 H locs) {j : Nat} {v : Int32} (hj : j < L) (hL : L ≤ 2560) (hv : xs j = v) (d : decode cc pc = .ok (.iaload, 1)) (k : W p l e R s m args below meth c H locs cells slots Q (F0 m (pc + 1) ls (.int v :: rest))) : W p l e R s m args below meth c H locs cells slots Q (F0 m pc ls (.int (nI j) :: .ref b :: rest)) := va_sld hx hb hX hbl hbA hS (vp_in_nI hj (by omega)) d (by rw [nI_clamp (by omega), hv]; exact k)
theorem jl_b (hx : p.tables.exec = Jvm.exec) (hb : c.code = cc) {b : Bool} (d0 : decode cc pc = .ok (.ifCond .eq 7, 3)) (d1 : decode cc (pc + 3) = .ok (.lconst 1, 1)) (d2 : decode cc (pc + 4) = .ok (.goto 4, 3)) (d3 : decode cc (pc + 7) = .ok (.lconst 0, 1)) (k : W p l e R s m args below meth c H locs cells slots Q (F0 m (pc + 8) ls (.long (bl b) :: rest))) : W p l e R s m args below meth c H locs cells slots Q (F0 m pc ls (.int (nI b.toNat) :: rest)) := by
  refine xb_if_eq (tgt := pc + 7) hx hb d0 (by omega) (fun h => ?_) (fun h => ?_)
  · refine lv_lconst (v := 0) hx hb d3 (by decide) ?_
    rw [h] at k; exact k
  · refine lv_lconst (v := 1) hx hb d1 (by decide) (lv_goto (tgt := pc + 8) hx hb d2 (by omega) ?_)
    rw [h] at k; exact k
theorem jl_z (hx : p.tables.exec = Jvm.exec) (hb : c.code = cc) {x : Int32} (d0 : decode cc pc = .ok (.ifCond .eq 7, 3)) (d1 : decode cc (pc + 3) = .ok (.lconst 1, 1)) (d2 : decode cc (pc + 4) = .ok (.goto 4, 3)) (d3 : decode cc (pc + 7) = .ok (.lconst 0, 1)) (k : W p l e R s m args below meth c H locs cells slots Q (F0 m (pc + 8) ls (.long (bz x) :: rest))) : W p l e R s m args below meth c H locs cells slots Q (F0 m pc ls (.int x :: rest)) := by
  refine lv_if_eq (tgt := pc + 7) hx hb d0 (by omega) (fun h => ?_) (fun h => ?_)
  · refine lv_lconst (v := 0) hx hb d3 (by decide) ?_
    rw [show bz x = 0 from if_pos h] at k; exact k
  · refine lv_lconst (v := 1) hx hb d1 (by decide) (lv_goto (tgt := pc + 8) hx hb d2 (by omega) ?_)
    rw [show bz x = 1 from if_neg h] at k; exact k
end LOWN
theorem lg_eq {x y : Int64} (h : x = y) : lg_cmp x y = 0 := by subst h; simp [lg_cmp]
theorem nn_of32 (a : UInt32) (h : FP.fIsNaN a = false) : vf_n32 a := by
  have h1 : ¬ 2139095040 < a.toNat % 2 ^ 31 := fun q => by
    have h2 : FP.Core.fIsNaN a = true := (FP.Core.isNaN_bits32 a).mpr q
    have h3 : FP.Core.fIsNaN a = false := h
    rw [h2] at h3
    cases h3
  show a &&& 0x7fffffff ≤ 0x7f800000
  rw [UInt32.le_iff_toNat_le, UInt32.toNat_and]
  show a.toNat &&& (2 ^ 31 - 1) ≤ 2139095040
  rw [Nat.and_two_pow_sub_one_eq_mod]
  omega
theorem vB_6 {v : Int32} (h : vB v 5 = false) (hn : ¬ v = nI 5) : vB v 6 = false := by
  cases h6 : vB v 6 with
  | false => rfl
  | true =>
    obtain ⟨j, hj, e⟩ := vB_of h6 (by decide)
    rcases (show j < 5 ∨ j = 5 by omega) with q | q
    · rw [e, vB_nI q (by decide)] at h; cases h
    · rw [e, q] at hn; exact absurd rfl hn
