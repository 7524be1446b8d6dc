/-! the class's state beside the reference's -/
def mi (f : Bool) (j : Nat) : Nat := if j < 30 then (if f then 0 else 30) + j else 30 + (if f then 0 else 5) + j
theorem mi_c {f : Bool} {e b : Nat} (he : e < 6) (hb : b < 5) : mi f (e * 5 + b) = mc f e b := by
  unfold mi mc
  rw [if_pos (show e * 5 + b < 30 by omega)]
  cases f <;> simp <;> omega
theorem mi_l {f : Bool} {b : Nat} (hb : b < 5) : mi f (6 * 5 + b) = ml f b := by
  unfold mi ml
  rw [if_neg (show ¬ 6 * 5 + b < 30 by omega)]
  cases f <;> simp <;> omega
theorem mi_inj {f : Bool} {i j : Nat} (hi : i < 35) (hj : j < 35) (h : mi f i = mi f j) : i = j := by
  unfold mi at h
  cases f <;> simp at h <;> split at h <;> split at h <;> omega
theorem mi_dis {f : Bool} {i j : Nat} (hi : i < 35) (hj : j < 35) : mi f i ≠ mi (!f) j := by
  intro h
  unfold mi at h
  cases f <;> simp at h <;> split at h <;> split at h <;> omega
def relP (f : Bool) (NF : Nat → UInt64) (GF TF : Nat → Int32) (N : Nat → UInt64) (I T : Nat → Int32) : Prop := (∀ j, j < 35 → NF j = N (mi f j)) ∧ (∀ j, j < 35 → GF j = I (mi f j)) ∧ (∀ j, j < 30 → TF j = T (mi f j))
def relZ (nn : Nat) (G T : Nat → Int32) : Prop := ∀ j, nn * 5 ≤ j → j < 30 → G j = 0 ∧ T j = -1
def b01 (G : Nat → Int32) : Prop := ∀ j, G j = 0 ∨ G j = 1
def rel (f : Bool) (nn : Nat) (NF : Nat → UInt64) (GF TF : Nat → Int32) (NO : Nat → UInt64) (GO TO : Nat → Int32) (N : Nat → UInt64) (I T : Nat → Int32) : Prop := relP f NF GF TF N I T ∧ relP (!f) NO GO TO N I T ∧ relZ nn GF TF ∧ relZ nn GO TO ∧ b01 GF ∧ b01 GO ∧ b01 I ∧ (∀ j, gd (NF j)) ∧ (∀ j, gd (NO j)) ∧ (∀ j, gd (N j)) ∧ nn ≤ 6
section REL
variable {f : Bool} {nn : Nat} {NF : Nat → UInt64} {GF TF : Nat → Int32} {NO : Nat → UInt64} {GO TO : Nat → Int32} {N : Nat → UInt64} {I T : Nat → Int32}
theorem rel_swap (h : rel f nn NF GF TF NO GO TO N I T) : rel (!f) nn NO GO TO NF GF TF N I T := by
  obtain ⟨h1, h2, h3, h4, h5, h6, h7, h8, h9, h10, h11⟩ := h
  exact ⟨h2, by rw [Bool.not_not]; exact h1, h4, h3, h6, h5, h7, h9, h8, h10, h11⟩
theorem rel_rl (h : rel f nn NF GF TF NO GO TO N I T) {i j : Nat} (hi : i < 35) (hj : j < 35) : rl GF NF i j = rl I N (mi f i) (mi f j) := by
  obtain ⟨⟨a1, a2, -⟩, -⟩ := h
  unfold rl
  rw [a1 i hi, a1 j hj, a2 i hi, a2 j hj]
theorem rel_so (h : rel f nn NF GF TF NO GO TO N I T) {e b : Nat} (he : e < 6) (hb : b < 5) (k : Nat) : so GF NF (e * 5 + b) (6 * 5 + b) k = so I N (mc f e b) (ml f b) k := by
  unfold so
  rw [rel_rl h (show e * 5 + b < 35 by omega) (show 6 * 5 + b < 35 by omega), rel_rl h (show 6 * 5 + b < 35 by omega) (show e * 5 + b < 35 by omega), mi_c he hb, mi_l hb]
theorem rel_rlc (h : rel f nn NF GF TF NO GO TO N I T) {a b s : Nat} (ha : a < 6) (hb : b < 6) (hs : s < 5) : rl GF NF (a * 5 + s) (b * 5 + s) = rl I N (mc f a s) (mc f b s) := by
  rw [rel_rl h (show a * 5 + s < 35 by omega) (show b * 5 + s < 35 by omega), mi_c ha hs, mi_c hb hs]
theorem rel_G (h : rel f nn NF GF TF NO GO TO N I T) {j : Nat} (hj : j < 35) : GF j = I (mi f j) := h.1.2.1 j hj
theorem rel_N (h : rel f nn NF GF TF NO GO TO N I T) {j : Nat} (hj : j < 35) : NF j = N (mi f j) := h.1.1 j hj
theorem rel_T (h : rel f nn NF GF TF NO GO TO N I T) {j : Nat} (hj : j < 30) : TF j = T (mi f j) := h.1.2.2 j hj
theorem rel_hG (h : rel f nn NF GF TF NO GO TO N I T) : ∀ j, GF j = 0 ∨ GF j = 1 := h.2.2.2.2.1
theorem rel_hI (h : rel f nn NF GF TF NO GO TO N I T) : ∀ j, I j = 0 ∨ I j = 1 := h.2.2.2.2.2.2.1
theorem rel_g (h : rel f nn NF GF TF NO GO TO N I T) : ∀ j, gd (NF j) := h.2.2.2.2.2.2.2.1
theorem rel_gN (h : rel f nn NF GF TF NO GO TO N I T) : ∀ j, gd (N j) := h.2.2.2.2.2.2.2.2.2.1
theorem rel_nn (h : rel f nn NF GF TF NO GO TO N I T) : nn ≤ 6 := h.2.2.2.2.2.2.2.2.2.2
theorem gd_cmp {x y : UInt64} (hx : gd x) (hy : gd y) : FP.dcmp x y ≠ none := by
  obtain ⟨o, ho⟩ := FP.Core.dcmp_of_notNaN hx.1 hy.1
  have h : FP.dcmp x y = some o := ho
  rw [h]
  intro q
  cases q
theorem gd_refl {x : UInt64} (hx : gd x) : FP.dcmp x x = some .eq := FP.Core.dcmp_refl hx.1
theorem rel_q (h : rel f nn NF GF TF NO GO TO N I T) : ∀ x y, FP.dcmp (N x) (N y) ≠ none := fun x y => gd_cmp (rel_gN h x) (rel_gN h y)
theorem rel_write (h : rel f nn NF GF TF NO GO TO N I T) {c : Nat} {v : UInt64} {x : Int32} (hc : c < 35) (hz : c < nn * 5 ∨ 30 ≤ c) (hv : gd v) (hx : x = 0 ∨ x = 1) : rel f nn (vf_upd NF c v) (upd GF c x) TF NO GO TO (vf_upd N (mi f c) v) (upd I (mi f c) x) T := by
  obtain ⟨⟨a1, a2, a3⟩, ⟨c1, c2, c3⟩, h3, h4, h5, h6, h7, h8, h9, h10, h11⟩ := h
  refine ⟨⟨fun j hj => ?_, fun j hj => ?_, a3⟩, ⟨fun j hj => ?_, fun j hj => ?_, c3⟩, fun j h1 h2 => ?_, h4, fun j => ?_, h6, fun j => ?_, fun j => ?_, h9, fun j => ?_, h11⟩
  · unfold vf_upd
    by_cases e : j = c
    · rw [if_pos e, if_pos (by rw [e])]
    · rw [if_neg e, if_neg (fun q => e (mi_inj hj hc q))]; exact a1 j hj
  · unfold upd
    by_cases e : j = c
    · rw [if_pos e, if_pos (by rw [e])]
    · rw [if_neg e, if_neg (fun q => e (mi_inj hj hc q))]; exact a2 j hj
  · unfold vf_upd
    rw [if_neg (fun q => mi_dis hc hj q.symm)]; exact c1 j hj
  · unfold upd
    rw [if_neg (fun q => mi_dis hc hj q.symm)]; exact c2 j hj
  · unfold upd
    rw [if_neg (show j ≠ c by omega)]; exact h3 j h1 h2
  · unfold upd
    by_cases e : j = c
    · rw [if_pos e]; exact hx
    · rw [if_neg e]; exact h5 j
  · unfold upd
    by_cases e : j = mi f c
    · rw [if_pos e]; exact hx
    · rw [if_neg e]; exact h7 j
  · unfold vf_upd
    by_cases e : j = c
    · rw [if_pos e]; exact hv
    · rw [if_neg e]; exact h8 j
  · unfold vf_upd
    by_cases e : j = mi f c
    · rw [if_pos e]; exact hv
    · rw [if_neg e]; exact h10 j
theorem rel_clear (h : rel f nn NF GF TF NO GO TO N I T) {c : Nat} {x : Int32} (hc : c < 35) (hz : c < nn * 5 ∨ 30 ≤ c) (hx : x = 0 ∨ x = 1) : rel f nn NF (upd GF c x) TF NO GO TO N (upd I (mi f c) x) T := by
  obtain ⟨⟨a1, a2, a3⟩, ⟨c1, c2, c3⟩, h3, h4, h5, h6, h7, h8, h9, h10, h11⟩ := h
  refine ⟨⟨a1, fun j hj => ?_, a3⟩, ⟨c1, fun j hj => ?_, c3⟩, fun j h1 h2 => ?_, h4, fun j => ?_, h6, fun j => ?_, h8, h9, h10, h11⟩
  · unfold upd
    by_cases e : j = c
    · rw [if_pos e, if_pos (by rw [e])]
    · rw [if_neg e, if_neg (fun q => e (mi_inj hj hc q))]; exact a2 j hj
  · unfold upd
    rw [if_neg (fun q => mi_dis hc hj q.symm)]; exact c2 j hj
  · unfold upd
    rw [if_neg (show j ≠ c by omega)]; exact h3 j h1 h2
  · unfold upd
    by_cases e : j = c
    · rw [if_pos e]; exact hx
    · rw [if_neg e]; exact h5 j
  · unfold upd
    by_cases e : j = mi f c
    · rw [if_pos e]; exact hx
    · rw [if_neg e]; exact h7 j
theorem rel_keep (h : rel f nn NF GF TF NO GO TO N I T) {c : Nat} {x : Int32} (hc : c < 30) (hz : c < nn * 5) : rel f nn NF GF (upd TF c x) NO GO TO N I (upd T (mi f c) x) := by
  obtain ⟨⟨a1, a2, a3⟩, ⟨c1, c2, c3⟩, h3, h4, h5, h6, h7, h8, h9, h10, h11⟩ := h
  refine ⟨⟨a1, a2, fun j hj => ?_⟩, ⟨c1, c2, fun j hj => ?_⟩, fun j h1 h2 => ?_, h4, h5, h6, h7, h8, h9, h10, h11⟩
  · unfold upd
    by_cases e : j = c
    · rw [if_pos e, if_pos (by rw [e])]
    · rw [if_neg e, if_neg (fun q => e (mi_inj (by omega) (by omega) q))]; exact a3 j hj
  · unfold upd
    rw [if_neg (fun q => mi_dis (show c < 35 by omega) (show j < 35 by omega) q.symm)]; exact c3 j hj
  · unfold upd
    rw [if_neg (show j ≠ c by omega)]; exact h3 j h1 h2
theorem rel_entry (h : rel f nn NF GF TF NO GO TO N I T) (hn : nn < 6) : rel f (nn + 1) NF GF TF NO GO TO N I T := by
  obtain ⟨h1, h2, h3, h4, h5, h6, h7, h8, h9, h10, h11⟩ := h
  exact ⟨h1, h2, fun j q1 q2 => h3 j (by omega) q2, fun j q1 q2 => h4 j (by omega) q2, h5, h6, h7, h8, h9, h10, by omega⟩
end REL
theorem cnt_cut {f : Nat → Bool} {m : Nat} : ∀ n, m ≤ n → (∀ i, m ≤ i → i < n → f i = false) → cnt f n = cnt f m
  | 0, h, _ => by rw [show m = 0 by omega]
  | n + 1, h, hf => by
    rcases Nat.lt_or_ge m (n + 1) with q | q
    · rw [cnt_f (hf n (by omega) (by omega))]
      exact cnt_cut n (by omega) (fun i h1 h2 => hf i h1 (by omega))
    · rw [show m = n + 1 by omega]
theorem ins_congr {g g' : Nat → Nat → Bool} {nx : Nat} (hn : nx < 6) (hg : ∀ a b, a < 6 → b < 6 → g a b = g' a b) : ∀ (p : Nat) (o : Nat → Nat), (∀ j, j < p → o j < 6) → ins g o nx p = ins g' o nx p
  | 0, o, _ => rfl
  | k + 1, o, h => by
    show (if g (o k) nx then ins g (va_up o (k + 1) (o k)) nx k else va_up o (k + 1) nx) = (if g' (o k) nx then ins g' (va_up o (k + 1) (o k)) nx k else va_up o (k + 1) nx)
    rw [hg (o k) nx (h k (by omega)) hn, ins_congr hn hg k (va_up o (k + 1) (o k)) (fun j hj => by unfold va_up; rw [if_neg (by omega)]; exact h j (by omega))]
theorem ins_lt {g : Nat → Nat → Bool} {nx : Nat} (hn : nx < 6) : ∀ (p : Nat) (o : Nat → Nat) (n : Nat), p ≤ n → (∀ j, j ≤ n → j ≠ p → o j < 6) → ∀ j, j ≤ n → ins g o nx p j < 6
  | 0, o, n, _, h => fun j hj => by
    show va_up o 0 nx j < 6
    unfold va_up
    by_cases e : j = 0
    · rw [if_pos e]; exact hn
    · rw [if_neg e]; exact h j hj e
  | k + 1, o, n, hk, h => fun j hj => by
    show (if g (o k) nx then ins g (va_up o (k + 1) (o k)) nx k else va_up o (k + 1) nx) j < 6
    split
    · refine ins_lt hn k (va_up o (k + 1) (o k)) n (by omega) (fun i hi hne => ?_) j hj
      unfold va_up
      by_cases e : i = k + 1
      · rw [if_pos e]; exact h k (by omega) (by omega)
      · rw [if_neg e]; exact h i hi e
    · unfold va_up
      by_cases e : j = k + 1
      · rw [if_pos e]; exact hn
      · rw [if_neg e]; exact h j hj e
theorem lin_lt (g : Nat → Nat → Bool) : ∀ n : Nat, n ≤ 6 → ∀ j, j < n → lin g n j < 6
  | 0, _ => fun j hj => absurd hj (Nat.not_lt_zero _)
  | n + 1, h => fun j hj => ins_lt (show n < 6 by omega) n (lin g n) n (Nat.le_refl n) (fun i hi hne => lin_lt g n (by omega) i (by omega)) j (by omega)
theorem lin_congr {g g' : Nat → Nat → Bool} (hg : ∀ a b, a < 6 → b < 6 → g a b = g' a b) : ∀ n : Nat, n ≤ 6 → lin g n = lin g' n
  | 0, _ => rfl
  | n + 1, h => by
    show ins g (lin g n) n n = ins g' (lin g' n) n n
    rw [lin_congr hg n (by omega)]
    exact ins_congr (show n < 6 by omega) hg n (lin g' n) (fun j hj => lin_lt g' n (by omega) j hj)
section REL2
variable {f : Bool} {nn : Nat} {NF : Nat → UInt64} {GF TF : Nat → Int32} {NO : Nat → UInt64} {GO TO : Nat → Int32} {N : Nat → UInt64} {I T : Nat → Int32}
theorem rel_tally (h : rel f nn NF GF TF NO GO TO N I T) {e : Nat} (he : e < 6) (k : Nat) : cnt (fun b => so GF NF (e * 5 + b) (6 * 5 + b) k) 5 = cnt (fun b => so I N (mc f e b) (ml f b) k) 5 := cnt_congr (fun b hb => rel_so h he hb k)
theorem rel_run (h : rel f nn NF GF TF NO GO TO N I T) {e fr : Nat} (he : e < 6) (hfr : fr < 6) (k : Nat) : stp (fun b => so GF NF (e * 5 + b) (6 * 5 + b) k) (5 - fr) fr = stp (fun b => so I N (mc f e b) (ml f b) k) (5 - fr) fr := stp_congr _ _ (fun b hb => rel_so h he (by omega) k)
theorem rel_place (h : rel f nn NF GF TF NO GO TO N I T) {b : Nat} (hb : b < 5) (sb : Bool) (e : Nat) : stp (fun j => decide (lin (fun a c => gh (rl GF NF (a * 5 + b) (c * 5 + b)) sb) nn j ≠ e)) nn 0 = stp (fun j => decide (lin (fun a c => gh (rl I N (mc f a b) (mc f c b)) sb) nn j ≠ e)) nn 0 := by
  rw [lin_congr (g' := fun a c => gh (rl I N (mc f a b) (mc f c b)) sb) (fun a c ha hc => by rw [rel_rlc h ha hc hb]) nn (rel_nn h)]
theorem rel_best (h : rel f nn NF GF TF NO GO TO N I T) {b : Nat} (hb : b < 5) (hn : 0 < nn) (how : Nat) : bst (fun i j => bet (rl GF NF (i * 5 + b) (j * 5 + b)) how) (nn - 1) = bst (fun i j => bet (rl I N (mc f i b) (mc f j b)) how) (nn - 1) := bst_congr _ (fun i j hi hj => by have := rel_nn h; rw [rel_rlc h (show i < 6 by omega) (show j < 6 by omega) hb])
theorem rel_against (h : rel f nn NF GF TF NO GO TO N I T) {a b : Nat} (ha : a < 6) (hb : b < 6) (w : Nat) : cnt (fun i => ag (rl GF NF (a * 5 + i) (b * 5 + i)) w) 5 = cnt (fun i => ag (rl I N (mc f a i) (mc f b i)) w) 5 := cnt_congr (fun i hi => by rw [rel_rlc h ha hb hi])
theorem rel_sum (h : rel f nn NF GF TF NO GO TO N I T) {e : Nat} (he : e < 6) : sm (fun b => if GF (e * 5 + b) = 0 then 0 else e8 (NF (e * 5 + b))) 5 = sm (fun b => if I (mc f e b) = 0 then 0 else e8 (N (mc f e b))) 5 := sm_congr (fun b hb => by rw [rel_G h (show e * 5 + b < 35 by omega), rel_N h (show e * 5 + b < 35 by omega), mi_c he hb])
theorem mi_t {j : Nat} (hj : j < 30) : mi true j = j := by unfold mi; rw [if_pos hj]; simp
theorem mi_f {j : Nat} (hj : j < 30) : mi false j = 30 + j := by unfold mi; rw [if_pos hj]; simp
theorem rel_cG (h : rel true nn NF GF TF NO GO TO N I T) : cnt (fun i => decide (GF (0 + i) ≠ 0)) 30 = cnt (fun k => decide (I k ≠ 0)) (5 * nn) := by
  have hn := rel_nn h
  rw [cnt_cut (m := 5 * nn) 30 (by omega) (fun i h1 h2 => decide_eq_false (fun q => q (by rw [Nat.zero_add]; exact (h.2.2.1 i (by omega) h2).1)))]
  exact cnt_congr (fun i hi => by rw [Nat.zero_add, rel_G h (show i < 35 by omega), mi_t (by omega)])
theorem rel_cO (h : rel true nn NF GF TF NO GO TO N I T) : cnt (fun i => decide (GO (0 + i) ≠ 0)) 30 = cnt (fun k => decide (I (30 + k) ≠ 0)) (5 * nn) := by
  have hn := rel_nn h
  have hs := rel_swap h
  rw [cnt_cut (m := 5 * nn) 30 (by omega) (fun i h1 h2 => decide_eq_false (fun q => q (by rw [Nat.zero_add]; exact (hs.2.2.1 i (by omega) h2).1)))]
  exact cnt_congr (fun i hi => by rw [Nat.zero_add, rel_G hs (show i < 35 by omega), show (!true) = false from rfl, mi_f (by omega)])
theorem rel_lG (h : rel true nn NF GF TF NO GO TO N I T) : cnt (fun i => decide (GF (30 + i) ≠ 0)) 5 = cnt (fun k => decide (I (ml true k) ≠ 0)) 5 := cnt_congr (fun i hi => by rw [rel_G h (show 30 + i < 35 by omega), show 30 + i = 6 * 5 + i by omega, mi_l hi])
theorem rel_lO (h : rel true nn NF GF TF NO GO TO N I T) : cnt (fun i => decide (GO (30 + i) ≠ 0)) 5 = cnt (fun k => decide (I (ml false k) ≠ 0)) 5 := by
  have hs := rel_swap h
  exact cnt_congr (fun i hi => by rw [rel_G hs (show 30 + i < 35 by omega), show 30 + i = 6 * 5 + i by omega, mi_l hi]; rfl)
theorem rel_tr (h : rel true nn NF GF TF NO GO TO N I T) {x : Int32} (hx : (-1 : Int32) ≠ x) : cnt (fun j => decide (TF j = x)) 30 + cnt (fun j => decide (TO j = x)) 30 = cc2 (fun k => decide (T k = x)) (fun k => decide (T (30 + k) = x)) (5 * nn) := by
  have hn := rel_nn h
  have hs := rel_swap h
  rw [cc2_eq]
  rw [cnt_cut (f := fun j => decide (TF j = x)) (m := 5 * nn) 30 (by omega) (fun i h1 h2 => decide_eq_false (fun q => hx (by rw [← q]; exact (h.2.2.1 i (by omega) h2).2.symm)))]
  rw [cnt_cut (f := fun j => decide (TO j = x)) (m := 5 * nn) 30 (by omega) (fun i h1 h2 => decide_eq_false (fun q => hx (by rw [← q]; exact (hs.2.2.1 i (by omega) h2).2.symm)))]
  rw [cnt_congr (f := fun j => decide (TF j = x)) (g := fun k => decide (T k = x)) (fun i hi => by rw [rel_T h (show i < 30 by omega), mi_t (by omega)])]
  rw [cnt_congr (f := fun j => decide (TO j = x)) (g := fun k => decide (T (30 + k) = x)) (fun i hi => by rw [rel_T hs (show i < 30 by omega), show (!true) = false from rfl, mi_f (by omega)])]
end REL2
