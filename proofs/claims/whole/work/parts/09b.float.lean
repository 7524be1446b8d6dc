/-! an int's eighth, as a double and as a float: eight times it is whole -/
theorem fl_down {f : FP.Core.Fmt} (hf : FP.Core.Good f) {s : Bool} {c k : Nat} {q : Int} (h : FP.Core.fits f (.fin s c (q - 3))) : FP.Core.round f (FP.Core.exactProduct (.fin s c q) (.fin false (2 ^ k) (-(k : Int) - 3))) = .fin s c (q - 3) := by
  have e1 : FP.Core.exactProduct (.fin s c q) (.fin false (2 ^ k) (-(k : Int) - 3)) = .fin s (c * 2 ^ k) (q + (-(k : Int) - 3)) := by
    cases s <;> rfl
  rw [e1]
  show FP.Core.roundRatio f s (c * 2 ^ k) 1 (q + (-(k : Int) - 3)) = _
  refine FP.Core.roundRatio_exact hf (by decide) h ?_
  rw [show (q + (-(k : Int) - 3) - (q - 3)).toNat = 0 by omega, show (q - 3 - (q + (-(k : Int) - 3))).toNat = k by omega]
  simp
theorem fl_up {f : FP.Core.Fmt} (hf : FP.Core.Good f) {s : Bool} {c k : Nat} {q : Int} (h : FP.Core.fits f (.fin s c q)) : FP.Core.round f (FP.Core.exactProduct (.fin s c (q - 3)) (.fin false (2 ^ k) (3 - (k : Int)))) = .fin s c q := by
  have e1 : FP.Core.exactProduct (.fin s c (q - 3)) (.fin false (2 ^ k) (3 - (k : Int))) = .fin s (c * 2 ^ k) (q - 3 + (3 - (k : Int))) := by
    cases s <;> rfl
  rw [e1]
  show FP.Core.roundRatio f s (c * 2 ^ k) 1 (q - 3 + (3 - (k : Int))) = _
  refine FP.Core.roundRatio_exact hf (by decide) h ?_
  rw [show (q - 3 + (3 - (k : Int)) - q).toNat = 0 by omega, show (q - (q - 3 + (3 - (k : Int)))).toNat = k by omega]
  simp
theorem fl_v8 : FP.Core.val64 4620693217682128896 = .fin false (2 ^ 52) (3 - ((52 : Nat) : Int)) := by decide +kernel
theorem fl_vd : FP.Core.val64 4593671619917905920 = .fin false (2 ^ 52) (-((52 : Nat) : Int) - 3) := by decide +kernel
theorem fl_vf : FP.Core.val32 1040187392 = .fin false (2 ^ 23) (-((23 : Nat) : Int) - 3) := by decide +kernel
theorem fl_v48 : FP.Core.val64 4823355200913801216 = .fin false (2 ^ 52) (-4) := by decide +kernel
theorem fl_vn48 : FP.Core.val64 14046727237768577024 = .fin true (2 ^ 52) (-4) := by decide +kernel
theorem fl_vmax : FP.Core.val64 9218868437227405311 = .fin false (2 ^ 53 - 1) 971 := by decide +kernel
theorem fl_vnmax : FP.Core.val64 18442240474082181119 = .fin true (2 ^ 53 - 1) 971 := by decide +kernel
/-- below a number that is much greater -/
theorem fl_big {s t : Bool} {c d : Nat} {q r : Int} (hc : c < 2 ^ 53) (hd : 2 ^ 52 ≤ d) (hq : q + 2 ≤ r) : FP.Core.order (.fin s c q) (.fin t d r) = some (if t then .gt else .lt) := by
  show some (compare (FP.Core.signed s (FP.Core.inUnits c q (min q r))) (FP.Core.signed t (FP.Core.inUnits d r (min q r)))) = _
  rw [Int.min_eq_left (by omega)]
  unfold FP.Core.inUnits
  rw [show (q - q).toNat = 0 by omega]
  have h1 : 2 ^ 54 ≤ d * 2 ^ (r - q).toNat := by
    have e1 : 2 ^ 2 ≤ 2 ^ (r - q).toNat := Nat.pow_le_pow_right (by decide) (by omega)
    have e2 : 2 ^ 52 * 2 ^ 2 ≤ d * 2 ^ (r - q).toNat := Nat.mul_le_mul hd e1
    exact Nat.le_trans (by decide) e2
  generalize d * 2 ^ (r - q).toNat = D at h1 ⊢
  cases t
  · show some (compare (FP.Core.signed s (c * 2 ^ 0)) (D : Int)) = some .lt
    rw [Option.some.injEq, Int.compare_eq_lt]
    unfold FP.Core.signed
    split <;> omega
  · show some (compare (FP.Core.signed s (c * 2 ^ 0)) (-(D : Int))) = some .gt
    rw [Option.some.injEq, Int.compare_eq_gt]
    unfold FP.Core.signed
    split <;> omega
theorem fl_nz {s : Bool} {c : Nat} {q : Int} (hc : 0 < c) : FP.Core.order (.fin s c q) (.fin false 0 FP.Core.b64.qmin) ≠ some .eq := by
  show some (compare (FP.Core.signed s (FP.Core.inUnits c q (min q FP.Core.b64.qmin))) (FP.Core.signed false (FP.Core.inUnits 0 FP.Core.b64.qmin (min q FP.Core.b64.qmin)))) ≠ _
  unfold FP.Core.inUnits
  have h1 : 0 < c * 2 ^ (q - min q FP.Core.b64.qmin).toNat := Nat.mul_pos hc (Nat.two_pow_pos _)
  generalize c * 2 ^ (q - min q FP.Core.b64.qmin).toNat = D at h1 ⊢
  rw [Nat.zero_mul]
  intro z
  rw [Option.some.injEq, Int.compare_eq_eq] at z
  revert z
  unfold FP.Core.signed
  split <;> (simp; omega)
theorem gd_of {x : UInt64} {s : Bool} {c : Nat} {q : Int} {j : Int64} (hv : FP.Core.val64 x = .fin s c q) (hc1 : 4503599627370496 ≤ c) (hc2 : c < 9007199254740992) (hq1 : -200 ≤ q) (hq2 : q ≤ -10) (hj : j.toInt.natAbs ≤ 1099511627776) (hm : FP.dmul x 4620693217682128896 = FP.l2d j) (hw : FP.Core.val64 (FP.Core.l2d j) = .fin s c (q + 3)) : gd x := by
  have hm6 : FP.Core.b64.qmin = -1074 := by decide
  have hM6 : FP.Core.b64.qmax = 971 := by decide
  have hp6 : (2 : Nat) ^ FP.Core.b64.p = 9007199254740992 := rfl
  have ht6 : FP.Core.b64.tails = 4503599627370496 := rfl
  have f0 : FP.Core.fits FP.Core.b64 (.fin s c q) := ⟨by rw [hp6]; exact hc2, by rw [hm6]; omega, by rw [hM6]; omega, Or.inr (by rw [ht6]; exact hc1)⟩
  have f3 : FP.Core.fits FP.Core.b64 (.fin s c (q + 3)) := ⟨by rw [hp6]; exact hc2, by rw [hm6]; omega, by rw [hM6]; omega, Or.inr (by rw [ht6]; exact hc1)⟩
  have e1 : FP.Core.ddiv x 4593671619917905920 = FP.Core.l2d j := by
    refine FP.Core.val64_inj ?_ ?_
    · rw [FP.Core.val64_ddiv, hv, fl_vd]
      show FP.Core.roundRatio FP.Core.b64 (s != false) c (2 ^ 52) (q - (-((52 : Nat) : Int) - 3)) ≠ _
      exact FP.Core.roundRatio_ne_nan _ _ _ _ _
    · rw [FP.Core.val64_ddiv, hv, fl_vd, hw]
      show FP.Core.roundRatio FP.Core.b64 (s != false) c (2 ^ 52) (q - (-((52 : Nat) : Int) - 3)) = _
      rw [show (s != false) = s by cases s <;> rfl]
      refine FP.Core.roundRatio_exact FP.Core.good_b64 (by decide) f3 ?_
      rw [show (q - (-((52 : Nat) : Int) - 3) - (q + 3)).toNat = 52 by omega, show (q + 3 - (q - (-((52 : Nat) : Int) - 3))).toNat = 0 by omega]
      omega
  have e2 : FP.Core.dmul (FP.Core.l2d j) 4593671619917905920 = x := by
    refine (FP.Core.val64_inj (by rw [hv]; intro z; cases z) ?_).symm
    rw [FP.Core.val64_dmul, hw, fl_vd, hv]
    have e3 : FP.Core.exactProduct (.fin s c (q + 3)) (.fin false (2 ^ 52) (-((52 : Nat) : Int) - 3)) = .fin s (c * 2 ^ 52) (q + 3 + (-((52 : Nat) : Int) - 3)) := by
      cases s <;> rfl
    rw [e3]
    refine Eq.symm ?_
    show FP.Core.roundRatio FP.Core.b64 s (c * 2 ^ 52) 1 (q + 3 + (-((52 : Nat) : Int) - 3)) = _
    refine FP.Core.roundRatio_exact FP.Core.good_b64 (by decide) f0 ?_
    rw [show (q + 3 + (-((52 : Nat) : Int) - 3) - q).toNat = 0 by omega, show (q - (q + 3 + (-((52 : Nat) : Int) - 3))).toNat = 52 by omega]
    omega
  refine ⟨(FP.Core.notNaN_iff _).mpr (by rw [hv]; intro z; cases z), j, hj, hm, e1, ?_, ?_, ?_, ?_, ?_, ?_⟩
  · show FP.Core.dsub x (FP.Core.dmul (FP.Core.l2d j) 4593671619917905920) = 0
    rw [e2]
    exact FP.Core.dsub_self hv
  · intro z
    refine absurd z ?_
    show FP.Core.order (FP.Core.val64 x) (FP.Core.val64 0) ≠ _
    rw [hv, FP.Core.val64_zero]
    exact fl_nz (by omega)
  · show FP.Core.order (FP.Core.val64 x) (FP.Core.val64 _) = _
    rw [hv, fl_vmax]
    exact fl_big (by omega) (by decide) (by omega)
  · show FP.Core.order (FP.Core.val64 x) (FP.Core.val64 _) = _
    rw [hv, fl_vnmax]
    exact fl_big (by omega) (by decide) (by omega)
  · show FP.Core.order (FP.Core.val64 x) (FP.Core.val64 _) = _
    rw [hv, fl_vn48]
    exact fl_big (by omega) (by decide) (by omega)
  · show FP.Core.order (FP.Core.val64 x) (FP.Core.val64 _) = _
    rw [hv, fl_v48]
    exact fl_big (by omega) (by decide) (by omega)
theorem fl_sm (x : Int32) : FP.Core.Small53 x.toInt64 := by
  have h1 := x.toInt_lt
  have h2 := x.le_toInt
  unfold FP.Core.Small53
  rw [Int32.toInt_toInt64]
  omega
/-- a mark that the law gives -/
theorem gd_mark (x : Int32) : gd (FP.dmul (FP.i2d x) 4593671619917905920) := by
  by_cases hz : x = 0
  · subst hz
    exact ⟨by decide +kernel, 0, by decide, by decide +kernel, by decide +kernel, by decide +kernel, fun _ => rfl, by decide +kernel, by decide +kernel, by decide +kernel, by decide +kernel⟩
  · have hw : FP.Core.Whole x.toInt (FP.Core.val64 (FP.Core.i2d x)) := FP.Core.i2d_int x
    have hft := FP.Core.val64_fits (FP.Core.i2d x)
    have hi : x.toInt ≠ 0 := FP.Core.int32_ne hz
    cases hd : FP.Core.val64 (FP.Core.i2d x) with
    | nan => rw [hd] at hw; exact hw.elim
    | inf => rw [hd] at hw; exact hw.elim
    | fin s c q =>
      rw [hd] at hw hft
      have hn := FP.Core.whole_natAbs hw
      obtain ⟨h1, h2, h3, h4⟩ := hft
      have hp : (2 : Nat) ^ FP.Core.b64.p = 2 ^ 53 := rfl
      have hq : -52 ≤ q := by
        rcases Int.lt_or_le q (-52) with hlt | hge
        · exfalso
          have e0 : q.toNat = 0 := by omega
          rw [e0] at hn
          have e1 : 2 ^ 53 ≤ 2 ^ (-q).toNat := Nat.pow_le_pow_right (by decide) (by omega)
          have e2 : 1 * 2 ^ (-q).toNat ≤ x.toInt.natAbs * 2 ^ (-q).toNat := Nat.mul_le_mul_right _ (by omega)
          rw [hp] at h1
          omega
        · exact hge
      have hm : FP.Core.b64.qmin = -1074 := by decide
      have hM : FP.Core.b64.qmax = 971 := by decide
      have ht : FP.Core.b64.tails ≤ c := by
        rcases h4 with h4 | h4
        · rw [hm] at h4; omega
        · exact h4
      have f1 : FP.Core.fits FP.Core.b64 (.fin s c (q - 3)) := ⟨h1, by rw [hm]; omega, by rw [hM]; rw [hM] at h3; omega, Or.inr ht⟩
      have f0 : FP.Core.fits FP.Core.b64 (.fin s c q) := ⟨h1, h2, h3, h4⟩
      have v1 : FP.Core.val64 (FP.Core.dmul (FP.Core.i2d x) 4593671619917905920) = .fin s c (q - 3) := by
        rw [FP.Core.val64_dmul, hd, fl_vd]
        exact fl_down FP.Core.good_b64 f1
      have v2 : FP.Core.val64 (FP.Core.dmul (FP.Core.dmul (FP.Core.i2d x) 4593671619917905920) 4620693217682128896) = .fin s c q := by
        rw [FP.Core.val64_dmul, v1, fl_v8]
        exact fl_up FP.Core.good_b64 f0
      have e9 : FP.Core.dmul (FP.Core.dmul (FP.Core.i2d x) 4593671619917905920) 4620693217682128896 = FP.Core.i2d x := FP.Core.val64_inj (by rw [v2]; intro q; cases q) (by rw [v2, hd])
      have hx1 := x.toInt_lt
      have hx2 := x.le_toInt
      have ht6 : FP.Core.b64.tails = 4503599627370496 := rfl
      rw [ht6] at ht
      rw [hp] at h1
      have hq7 : q ≤ -7 := by
        rcases Int.lt_or_le (-7) q with hlt | hge
        · exfalso
          have e1 : 2 ^ (-q).toNat ≤ 2 ^ 6 := Nat.pow_le_pow_right (by decide) (by omega)
          have e2 : x.toInt.natAbs * 2 ^ (-q).toNat ≤ 2147483648 * 2 ^ 6 := Nat.mul_le_mul (by omega) e1
          have e3 : 1 ≤ 2 ^ q.toNat := Nat.two_pow_pos _
          have e4 : 4503599627370496 * 1 ≤ c * 2 ^ q.toNat := Nat.mul_le_mul ht e3
          omega
        · exact hge
      exact gd_of (j := x.toInt64) v1 ht h1 (by omega) (by omega) (by rw [Int32.toInt_toInt64]; omega) (e9.trans (FP.Core.i2d_l2d x)) (by rw [← FP.Core.i2d_l2d x, hd, show q - 3 + 3 = q by omega])
/-- an int, rounded to a float, is whole -/
theorem fl_whole (i : Int) (h : i.natAbs ≤ 2 ^ 31) (s : Bool) (c : Nat) (q : Int) (hd : FP.Core.round FP.Core.b32 (FP.Core.ofInt i) = .fin s c q) : q < 0 → FP.Core.Whole i (.fin s c q) := by
  intro hq
  rcases Nat.lt_or_ge (2 ^ 24) i.natAbs with hb | hb
  · exfalso
    have hr : FP.Core.round FP.Core.b32 (FP.Core.ofInt i) = FP.Core.roundAt FP.Core.b32 (decide (i < 0)) i.natAbs 1 0 (FP.Core.quantum FP.Core.b32 i.natAbs 1 0) := by
      show FP.Core.roundRatio FP.Core.b32 (decide (i < 0)) i.natAbs 1 0 = _
      unfold FP.Core.roundRatio
      rw [if_neg (by omega)]
    have hne : i.natAbs ≠ 0 := by omega
    have hl : FP.Core.leading i.natAbs 1 = (i.natAbs.log2 : Int) := by
      unfold FP.Core.leading
      have e1 : (Nat.log2 1 : Nat) = 0 := by decide
      simp only [e1]
      have e2 : ((i.natAbs.log2 : Int) - ((0 : Nat) : Int)).toNat = i.natAbs.log2 := by omega
      have e3 : (-((i.natAbs.log2 : Int) - ((0 : Nat) : Int))).toNat = 0 := by omega
      rw [e2, e3]
      rw [if_pos (by have := Nat.log2_self_le hne; omega)]
      omega
    have hlog : 24 ≤ i.natAbs.log2 := (Nat.le_log2 hne).mpr (by omega)
    have hquant : 0 ≤ FP.Core.quantum FP.Core.b32 i.natAbs 1 0 := by
      unfold FP.Core.quantum
      rw [hl]
      have : (FP.Core.b32.p : Int) = 24 := rfl
      rw [this]
      omega
    rw [hr] at hd
    unfold FP.Core.roundAt FP.Core.settle FP.Core.bound at hd
    split at hd
    · split at hd
      · cases hd; omega
      · cases hd
    · split at hd
      · cases hd; omega
      · cases hd
  · have h1 := FP.Core.whole_round (f := FP.Core.b32) FP.Core.good_b32 FP.Core.wide_b32 (i := i) hb (FP.Core.whole_ofInt i)
    rw [hd] at h1
    exact h1
/-- points that the law gives -/
theorem gd_pts (x : Int32) : gd (FP.f2d (FP.fmul (FP.i2f x) 1040187392)) ∧ FP.fIsNaN (FP.fmul (FP.i2f x) 1040187392) = false := by
  by_cases hz : x = 0
  · subst hz
    exact ⟨⟨by decide +kernel, 0, by decide, by decide +kernel, by decide +kernel, by decide +kernel, fun _ => rfl, by decide +kernel, by decide +kernel, by decide +kernel, by decide +kernel⟩, by decide +kernel⟩
  · have hi : x.toInt ≠ 0 := FP.Core.int32_ne hz
    have hx1 := x.toInt_lt
    have hx2 := x.le_toInt
    have hft := FP.Core.val32_fits (FP.Core.i2f x)
    have hmag := FP.Core.i2f_mag x
    obtain ⟨s, c, q, hd⟩ := FP.Core.i2f_fin x
    rw [hd] at hft
    obtain ⟨h1, h2, h3, h4⟩ := hft
    have hm : FP.Core.b32.qmin = -149 := by decide
    have hM : FP.Core.b32.qmax = 104 := by decide
    have hp : (2 : Nat) ^ FP.Core.b32.p = 16777216 := rfl
    rw [hp] at h1
    have hwn : q < 0 → FP.Core.Whole x.toInt (.fin s c q) := fl_whole x.toInt (by omega) s c q (by rw [← FP.Core.val32_i2f]; exact hd)
    have hq1 : -23 ≤ q := by
      rcases Int.lt_or_le q (-23) with hlt | hge
      · exfalso
        have hn := FP.Core.whole_natAbs (hwn (by omega))
        have e0 : q.toNat = 0 := by omega
        rw [e0] at hn
        have e1 : 2 ^ 24 ≤ 2 ^ (-q).toNat := Nat.pow_le_pow_right (by decide) (by omega)
        have e2 : 1 * 2 ^ (-q).toNat ≤ x.toInt.natAbs * 2 ^ (-q).toNat := Nat.mul_le_mul_right _ (by omega)
        omega
      · exact hge
    have ht : 8388608 ≤ c := by
      rcases h4 with h4 | h4
      · rw [hm] at h4; omega
      · exact h4
    have hq2 : q ≤ 9 := by
      have hd2 : FP.Core.decode FP.Core.b32 (FP.Core.i2f x).toNat = .fin s c q := hd
      have hE : FP.Core.fieldE FP.Core.b32 (FP.Core.i2f x).toNat < 160 := by
        show (FP.Core.i2f x).toNat / 8388608 % 256 < 160
        omega
      unfold FP.Core.decode at hd2
      rw [hm] at hd2
      split at hd2
      · split at hd2 <;> cases hd2
      · split at hd2
        · cases hd2; omega
        · cases hd2; omega
    obtain ⟨j, hj1, hj2, hj0⟩ : ∃ j : Int, j.natAbs ≤ 2 ^ 33 ∧ FP.Core.Whole j (.fin s c q) ∧ j ≠ 0 := by
      rcases Int.lt_or_le q 0 with hlt | hge
      · exact ⟨x.toInt, by omega, hwn hlt, hi⟩
      · have hc9 : c * 2 ^ q.toNat ≤ 2 ^ 33 := by
          have e1 : 2 ^ q.toNat ≤ 2 ^ 9 := Nat.pow_le_pow_right (by decide) (by omega)
          have e2 : c * 2 ^ q.toNat ≤ 16777216 * 2 ^ 9 := Nat.mul_le_mul (by omega) e1
          exact Nat.le_trans e2 (by decide)
        have hc0 : 0 < c * 2 ^ q.toNat := Nat.mul_pos (by omega) (Nat.two_pow_pos _)
        refine ⟨FP.Core.signed s (c * 2 ^ q.toNat), ?_, ?_, ?_⟩
        · unfold FP.Core.signed; split <;> omega
        · show FP.Core.signed s (c * 2 ^ q.toNat) = FP.Core.signed s (c * 2 ^ q.toNat) * ((2 ^ (-q).toNat : Nat) : Int)
          rw [show (-q).toNat = 0 by omega]
          simp
        · unfold FP.Core.signed; split <;> omega
    have f1 : FP.Core.fits FP.Core.b32 (.fin s c (q - 3)) := ⟨by rw [hp]; exact h1, by rw [hm]; omega, by rw [hM]; omega, Or.inr ht⟩
    have v1 : FP.Core.val32 (FP.Core.fmul (FP.Core.i2f x) 1040187392) = .fin s c (q - 3) := by
      rw [FP.Core.val32_fmul, hd, fl_vf]
      exact fl_down FP.Core.good_b32 f1
    have nn : FP.Core.fIsNaN (FP.Core.fmul (FP.Core.i2f x) 1040187392) = false := (FP.Core.notNaN_iff32 _).mpr (by rw [v1]; intro q; cases q)
    have hm6 : FP.Core.b64.qmin = -1074 := by decide
    have hM6 : FP.Core.b64.qmax = 971 := by decide
    have hp6 : (2 : Nat) ^ FP.Core.b64.p = 9007199254740992 := rfl
    have ht6 : FP.Core.b64.tails = 4503599627370496 := rfl
    have g1 : FP.Core.fits FP.Core.b64 (.fin s (c * 2 ^ 29) (q - 29 - 3)) := ⟨by rw [hp6]; omega, by rw [hm6]; omega, by rw [hM6]; omega, Or.inr (by rw [ht6]; omega)⟩
    have g0 : FP.Core.fits FP.Core.b64 (.fin s (c * 2 ^ 29) (q - 29)) := ⟨by rw [hp6]; omega, by rw [hm6]; omega, by rw [hM6]; omega, Or.inr (by rw [ht6]; omega)⟩
    have v2 : FP.Core.val64 (FP.Core.f2d (FP.Core.fmul (FP.Core.i2f x) 1040187392)) = .fin s (c * 2 ^ 29) (q - 29 - 3) := by
      rw [FP.Core.val64_f2d, v1]
      show FP.Core.roundRatio FP.Core.b64 s c 1 (q - 3) = _
      refine FP.Core.roundRatio_exact FP.Core.good_b64 (by decide) g1 ?_
      rw [show (q - 3 - (q - 29 - 3)).toNat = 29 by omega, show (q - 29 - 3 - (q - 3)).toNat = 0 by omega]
      simp
    have v3 : FP.Core.val64 (FP.Core.dmul (FP.Core.f2d (FP.Core.fmul (FP.Core.i2f x) 1040187392)) 4620693217682128896) = .fin s (c * 2 ^ 29) (q - 29) := by
      rw [FP.Core.val64_dmul, v2, fl_v8]
      exact fl_up FP.Core.good_b64 g0
    have w3 : FP.Core.Whole j (.fin s (c * 2 ^ 29) (q - 29)) := by
      have h9 := FP.Core.whole_round (f := FP.Core.b64) FP.Core.good_b64 FP.Core.wide_b64 (i := j) (by rw [hp6]; omega) hj2
      have e9 : FP.Core.round FP.Core.b64 (.fin s c q) = .fin s (c * 2 ^ 29) (q - 29) := by
        show FP.Core.roundRatio FP.Core.b64 s c 1 q = _
        refine FP.Core.roundRatio_exact FP.Core.good_b64 (by decide) g0 ?_
        rw [show (q - (q - 29)).toNat = 29 by omega, show (q - 29 - q).toNat = 0 by omega]
        simp
      rw [e9] at h9
      exact h9
    have hjt : (Int64.ofInt j).toInt = j := Int64.toInt_ofInt_of_le (by omega) (by omega)
    have hsm : FP.Core.Small53 (Int64.ofInt j) := by
      unfold FP.Core.Small53
      rw [hjt]
      omega
    have w4 := FP.Core.l2d_whole hsm
    rw [hjt] at w4
    have e5 : FP.Core.val64 (FP.Core.dmul (FP.Core.f2d (FP.Core.fmul (FP.Core.i2f x) 1040187392)) 4620693217682128896) = FP.Core.val64 (FP.Core.l2d (Int64.ofInt j)) := by
      rw [v3]
      exact FP.Core.whole_unique FP.Core.good_b64 hj0 w3 w4 g0 (FP.Core.val64_fits _)
    have e6 := FP.Core.val64_inj (by rw [v3]; intro q; cases q) e5
    have e7 : FP.f2d (FP.fmul (FP.i2f x) 1040187392) = FP.Core.f2d (FP.Core.fmul (FP.Core.i2f x) 1040187392) := FP.f2d_core nn
    refine ⟨?_, nn⟩
    rw [e7]
    exact gd_of (j := Int64.ofInt j) v2 (by omega) (by omega) (by omega) (by omega) (by rw [hjt]; omega) e6 (by rw [← e6, v3, show q - 29 - 3 + 3 = q - 29 by omega])
