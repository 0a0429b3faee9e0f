/-! minds, both sides; what the objects hold between two calls -/
theorem cfg_dec (N : Nm) (o : Nat) : cfg N o = N (decK o) 0 (decJ o) := by
  unfold cfg decK decJ
  by_cases h1 : o < 7
  · simp only [h1, if_true]
  by_cases h2 : o < 11
  · simp only [h1, h2, if_true, if_false]
  by_cases h3 : o < 15
  · simp only [h1, h2, h3, if_true, if_false]
  by_cases h4 : o < 19
  · simp only [h1, h2, h3, h4, if_true, if_false]
  by_cases h5 : o < 23
  · simp only [h1, h2, h3, h4, h5, if_true, if_false]
  by_cases h6 : o < 26
  · simp only [h1, h2, h3, h4, h5, h6, if_true, if_false]
  by_cases h7 : o < 29
  · simp only [h1, h2, h3, h4, h5, h6, h7, if_true, if_false]
  by_cases h8 : o < 32
  · simp only [h1, h2, h3, h4, h5, h6, h7, h8, if_true, if_false]
  by_cases h9 : o < 35
  · simp only [h1, h2, h3, h4, h5, h6, h7, h8, h9, if_true, if_false]
  simp only [h1, h2, h3, h4, h5, h6, h7, h8, h9, if_false]
theorem cfg_idx (N : Nm) {k j : Nat} (h : idx k 0 j < 39) : cfg N (idx k 0 j) = N k 0 j := by
  obtain ⟨-, h1, h2⟩ := idx_dec (rfl : idx k 0 j = idx k 0 j) (by omega)
  rw [cfg_dec, h1, h2]
theorem idx_k {k i j : Nat} (h : k < 14 ∨ 22 < k) (h12 : k ≠ 12) : idx k i j = 99 := by
  unfold idx
  simp only [show k ≠ 14 by omega, show k ≠ 15 by omega, show k ≠ 16 by omega, show k ≠ 17 by omega, show k ≠ 18 by omega, show k ≠ 19 by omega, show k ≠ 20 by omega, show k ≠ 21 by omega, show k ≠ 22 by omega, h12, if_false, ite_self]
theorem idx_12 {j : Nat} (h : j < 10 ∨ 14 ≤ j) : idx 12 0 j = 99 := by
  have hj : ¬ (10 ≤ j ∧ j < 14) := by omega
  simp only [idx, if_true, Nat.reduceEqDiff, if_false, if_neg hj]
theorem sv_cell (N : Nm) (w : Nat) {o : Nat} (ho : o < 39) : svP N w 39 27 0 (50 * w + o) = cfg N o := by
  unfold svP
  rw [if_pos ⟨rfl, rfl, by omega, by omega⟩]
  congr 1
  omega
theorem rs_cell (N : Nm) (w : Nat) {k j : Nat} (h : idx k 0 j < 39) : rsP N w 39 k 0 j = N 27 0 (50 * w + idx k 0 j) := by
  unfold rsP
  rw [if_neg, if_neg, if_pos h]
  · rintro ⟨rfl, -, rfl⟩
    rw [idx_12 (by decide)] at h
    omega
  · rintro ⟨rfl, -, rfl⟩
    rw [idx_12 (by decide)] at h
    omega
theorem rs_k (N : Nm) (w : Nat) {k : Nat} (h : k < 14 ∨ 22 < k) (h12 : k ≠ 12) : rsP N w 39 k = N k := by
  funext i j
  unfold rsP
  rw [if_neg (fun z => h12 z.1), if_neg (fun z => h12 z.1), idx_k h h12, if_neg (by decide)]
theorem rs_12 (N : Nm) (w : Nat) {j : Nat} (h : j < 10 ∨ 14 ≤ j) (h1 : j ≠ 23) (h2 : j ≠ 24) : rsP N w 39 12 0 j = N 12 0 j := by
  unfold rsP
  rw [if_neg (fun z => h2 z.2.2), if_neg (fun z => h1 z.2.2), idx_12 h, if_neg (by decide)]
theorem sv_cf (N : Nm) (w : Nat) : CfE N (svP N w 39) := by
  intro k j h
  by_cases h12 : k = 12
  · subst h12
    have : 10 ≤ j ∧ j < 14 := by
      refine Decidable.byContradiction (fun z => ?_)
      rw [idx_12 (by omega)] at h
      omega
    exact svP_12 N w 39 (by omega) (by omega)
  · have : k ≠ 27 := by
      rintro rfl
      rw [idx_k (by decide) (by decide)] at h
      omega
    rw [svP_kd N w 39 h12 this]
/-- what a thought leaves alone, of what passesAll doesn't keep -/
def FrQ (A B : Nm) : Prop := (∀ k, k = 13 ∨ (23 ≤ k ∧ k ≤ 27) ∨ k = 32 → B k = A k) ∧ (∀ j, (18 ≤ j ∧ j ≤ 20) ∨ j = 22 ∨ j = 37 ∨ j = 38 ∨ j = 42 → B 12 0 j = A 12 0 j)
theorem FrQ.rf (A : Nm) : FrQ A A := ⟨fun _ _ => rfl, fun _ _ => rfl⟩
theorem FrQ.tr {A B C : Nm} (h1 : FrQ A B) (h2 : FrQ B C) : FrQ A C := ⟨fun k h => (h2.1 k h).trans (h1.1 k h), fun j h => (h2.2 j h).trans (h1.2 j h)⟩
theorem FrN.q {A B : Nm} (h : FrN A B) : FrQ A B := ⟨fun k hk => h.1 k (by omega) (by omega) (by omega) (by omega) (by omega) (by omega) (by omega) (by omega) (by omega) (by omega) (by omega) (by omega), fun j hj => h.2.1 j (by omega)⟩
theorem FrQ.wr (A : Nm) {k i j : Nat} (v : Int32) (h : (14 ≤ k ∧ k ≤ 22) ∨ (28 ≤ k ∧ k ≤ 31)) : FrQ A (wrN A k i j v) := ⟨fun q hq => wn_k _ _ _ _ (by omega), fun q hq => by rw [wn_k _ _ _ _ (by omega)]⟩
theorem FrQ.wr12 (A : Nm) {j : Nat} (v : Int32) (h : (10 ≤ j ∧ j ≤ 13) ∨ j = 40 ∨ j = 43) : FrQ A (wrN A 12 0 j v) := ⟨fun q hq => wn_k _ _ _ _ (by omega), fun q hq => by rw [wn_j _ _ _ _ (by omega)]⟩
/-- what a thought leaves alone in the end -/
def KpN (N N' : Nm) : Prop := CfE N N' ∧ N' 13 = N 13 ∧ (∀ k, 23 ≤ k → k ≤ 26 → N' k = N k) ∧ (∀ j, j < 50 → N' 27 0 j = N 27 0 j) ∧ N' 32 = N 32 ∧ (∀ j, (18 ≤ j ∧ j ≤ 20) ∨ j = 22 ∨ j = 37 ∨ j = 38 ∨ j = 42 → N' 12 0 j = N 12 0 j)
theorem KpN.rf (N : Nm) : KpN N N := ⟨CfE.rf N, rfl, fun _ _ _ => rfl, fun _ _ => rfl, rfl, fun _ _ => rfl⟩
theorem KpN.tr {A B C : Nm} (h1 : KpN A B) (h2 : KpN B C) : KpN A C := ⟨h1.1.tr h2.1, h2.2.1.trans h1.2.1, fun k a b => (h2.2.2.1 k a b).trans (h1.2.2.1 k a b), fun j a => (h2.2.2.2.1 j a).trans (h1.2.2.2.1 j a), h2.2.2.2.2.1.trans h1.2.2.2.2.1, fun j a => (h2.2.2.2.2.2 j a).trans (h1.2.2.2.2.2 j a)⟩
theorem kp_gen {N N3 : Nm} (h : FrQ (svP N 1 39) N3) : KpN N (rsP N3 1 39) := by
  refine ⟨fun k j hx => ?_, ?_, fun k h1 h2 => ?_, fun j hj => ?_, ?_, fun j hj => ?_⟩
  · rw [rs_cell N3 1 hx, h.1 27 (by decide), sv_cell N 1 hx, cfg_idx N hx]
  · rw [rs_k N3 1 (by decide) (by decide), h.1 13 (by decide), svP_kd N 1 39 (by decide) (by decide)]
  · rw [rs_k N3 1 (by omega) (by omega), h.1 k (by omega), svP_kd N 1 39 (by omega) (by omega)]
  · rw [rs_k N3 1 (by decide) (by decide), h.1 27 (by decide)]
    unfold svP
    rw [if_neg (fun z => by omega), if_neg (fun z => absurd z.1 (by decide)), if_neg (fun z => absurd z.1 (by decide))]
  · rw [rs_k N3 1 (by decide) (by decide), h.1 32 (by decide), svP_kd N 1 39 (by decide) (by decide)]
  · rw [rs_12 N3 1 (by omega) (by omega) (by omega), h.2 j hj, svP_12 N 1 39 (by omega) (by omega)]
/-- the reference behind a thought -/
def mEd (N' : Nm) (L : Nat) : Nm := rsP (wrN N' 12 0 40 (mAm N' 0 L (N' 14 0 5))) 1 39
theorem mEd_12 (N' : Nm) (L : Nat) {j : Nat} (h : 29 ≤ j) (h2 : j ≠ 40) : mEd N' L 12 0 j = N' 12 0 j := by
  unfold mEd
  rw [rs_12 _ 1 (by omega) (by omega) (by omega), wn_j _ _ _ _ h2]
theorem mEd_40 (N' : Nm) (L : Nat) : mEd N' L 12 0 40 = mAm N' 0 L (N' 14 0 5) := by
  unfold mEd
  rw [rs_12 _ 1 (by decide) (by decide) (by decide), wn_eq]
theorem mEd_k (N' : Nm) (L : Nat) {k : Nat} (h : 28 ≤ k) : mEd N' L k = N' k := by
  unfold mEd
  rw [rs_k _ 1 (by omega) (by omega), wn_k _ _ _ _ (by omega)]
theorem mEd_kp {N N' : Nm} (h : FrQ (svP N 1 39) N') (L : Nat) : KpN N (mEd N' L) := kp_gen (h.tr (FrQ.wr12 _ _ (Or.inr (Or.inl rfl))))
theorem sv_37 (N : Nm) : svP N 1 39 12 0 37 = N 12 0 37 ∧ svP N 1 39 12 0 38 = N 12 0 38 := ⟨svP_12 N 1 39 (by decide) (by decide), svP_12 N 1 39 (by decide) (by decide)⟩
theorem minds_both {S N : Nm} {T L m n : Nat} (h : R0 S N L m) (hw : S 0 0 13 = N 12 0 37) (hd : ∀ q, q < T → ((nI q < S 0 0 14) = (nI q < N 12 0 38))) (hl : T = 241 → S 0 0 12 = N 12 0 12) (hn : n ≤ 240) (hnT : n ≤ T) : ∃ (S' N' : Nm) (b' : Nat), b' ≤ 3 * n ∧ Rl T S' N' L m n b' (fun _ => n) ∧ FrQ (svP N 1 39) N' ∧ (∀ (M : Mm) (g : Nat), call 20 [aR g 0 0, aI (nI n)] (va_up M g S) = some (none, va_up M g (wrN S' 0 0 11 (S' 0 0 11 + S' 5 0 1)))) ∧ (∀ M : Mm, call 130 [aR 4 12 0, aI (nI n)] (va_up M 4 N) = some (none, va_up M 4 (mEd N' L))) := by
  have h1 : R0 S (svP N 1 39) L m := h.cf (sv_cf N 1)
  have h2 : Rg T S (svP N 1 39) L m := Rg.of0 h1 (by rw [(sv_37 N).1]; exact hw) (by rw [(sv_37 N).2]; exact hd) (by rw [svP_12 N 1 39 (by decide) (by decide)]; exact hl)
  obtain ⟨S', N', b', hb, hr, hf, hs, hm⟩ := pass_both h2 hn hnT
  refine ⟨S', N', b', hb, hr, hf.q, hs, fun M => ?_⟩
  have e1 := m103s M N (w := 1) (by decide)
  have e2 := m103r M (wrN N' 12 0 40 (mAm N' 0 L (N' 14 0 5))) (w := 1) (by decide)
  have e3 := m129 M N' hr.1.2.2.2.2.1 hr.1.1
  have n1 : nI 1 = 1 := by decide +kernel
  rw [n1] at e1 e2
  simp only [c130, r130_0, r130_1, r130_2, r130_3, r130_6, r130_7, r130_8, r130_11, r130_12, r130_13, r130_16, r130_19, r130_20, r130_21, r130_22, r130_25, e1, hm, e3, e2, wr_up, cbV_some, cbI_some]
  rfl
/-! refusals -/
def RfO (r : Int32) : Prop := r = -1 ∨ r = -2 ∨ r = -3 ∨ r = -4 ∨ r = -6
def cRf (A : Nm) (r : Int32) : Nm := wrN A 11 0 (-r - 1).toNatClampNeg (A 11 0 (-r - 1).toNatClampNeg + 1)
def mRf (N : Nm) (r : Int32) : Nm := wrN N 13 0 (-r).toNatClampNeg (N 13 0 (-r).toNatClampNeg + 1)
theorem rfo_f {r : Int32} (h : RfO r) : ¬ (-r - 1 < 0) ∧ -r - 1 < 6 ∧ vpB (-r - 1) 6 = true ∧ vpB (-r) 7 = true ∧ (-r).toNatClampNeg = (-r - 1).toNatClampNeg + 1 := by
  rcases h with rfl | rfl | rfl | rfl | rfl <;> decide +kernel
theorem K66 (M : Mm) {r : Int32} (h : RfO r) : call 66 [aR 0 7 0, aI r] M = some (some r, va_up M 0 (cRf (M 0) r)) := by
  obtain ⟨h1, h2, h3, -, -⟩ := rfo_f h
  have start : call 66 [aR 0 7 0, aI r] M = call 66 [aR 0 7 0, aI r] (va_up M 0 (M 0)) := by rw [up_id]
  rw [start]
  simp only [c66, r66_0, r66_1, r66_2, r66_3, r66_4, r66_5, r66_6, r66_9, r66_10, r66_11, r66_14, r66_15, r66_18, r66_19, r66_22, r66_23, r66_24, r66_25, r66_26, r66_27, r66_28, r66_29, h1, h2, h3, up_same, wr_up, reduceIte]
  rfl
theorem m81 (M : Mm) (N : Nm) {r : Int32} (h : RfO r) : call 81 [aR 4 12 0, aI r] (va_up M 4 N) = some (some r, va_up M 4 (mRf N r)) := by
  obtain ⟨-, -, -, h4, -⟩ := rfo_f h
  simp only [c81, r81_0, r81_1, r81_4, r81_5, r81_6, r81_7, r81_8, r81_9, r81_10, r81_11, r81_12, h4, up_same, wr_up, reduceIte]
  rfl
theorem m82 (M : Mm) (N : Nm) {r : Int32} (h : RfO r) : call 82 [aR 4 12 0, aI r] (va_up M 4 N) = some (some (1000000000 - r), va_up M 4 (mRf N r)) := by
  obtain ⟨-, -, -, h4, -⟩ := rfo_f h
  simp only [c82, r82_0, r82_1, r82_4, r82_5, r82_6, r82_7, r82_8, r82_9, r82_10, r82_11, r82_13, r82_14, r82_15, h4, up_same, wr_up, reduceIte]
  rfl
def RFs (A N : Nm) : Prop := ∀ q, q < 6 → A 11 0 q = N 13 0 (q + 1)
theorem RFs.up {A N : Nm} (h : RFs A N) {r : Int32} (hr : RfO r) : RFs (cRf A r) (mRf N r) := by
  obtain ⟨-, -, -, -, h5⟩ := rfo_f hr
  have h6 : (-r - 1).toNatClampNeg < 6 := by rcases hr with rfl | rfl | rfl | rfl | rfl <;> decide +kernel
  intro q hq
  unfold cRf mRf
  rw [wn_if, wn_if, h5]
  by_cases e : q = (-r - 1).toNatClampNeg
  · rw [if_pos e, if_pos (by omega), h _ h6]
  · rw [if_neg e, if_neg (by omega)]
    exact h q hq
/-! what holds between two calls -/
def HodB (N : Nm) : Prop := ∃ a, 10 ≤ a ∧ a ≤ 40 ∧ N 14 0 1 = nI a
def TxR (A N : Nm) : Prop := ∃ c, c ≤ 96 ∧ A 8 0 1 = nI c ∧ N 12 0 18 = nI c ∧ ∀ q, q < c → A 9 0 q = N 23 0 q ∧ ∃ z, z < 256 ∧ A 9 0 q = nI z
def RwR (A N : Nm) : Prop := ∃ c, c ≤ 20 ∧ A 7 0 6 = nI c ∧ N 12 0 42 = nI c ∧ ∀ q, q < c → A 10 0 q = N 32 0 q
def ImR (A S3 N : Nm) : Prop := (A 7 0 3 = 0 ∧ N 12 0 22 = 0) ∨ (A 7 0 3 = 1 ∧ N 12 0 22 = 1 ∧ (∃ L m, R0 S3 (rsP N 0 39) L m) ∧ HodB (rsP N 0 39) ∧ S3 0 0 12 = rsP N 0 39 12 0 12)
def TI (A S1 S3 N : Nm) : Prop := (∃ L m, R0 S1 N L m) ∧ (HodB N ∧ S1 0 0 12 = N 12 0 12) ∧ (S1 0 0 13 = 0 ∧ (∀ q, q < 241 → nI q < S1 0 0 14) ∧ N 12 0 37 = 0 ∧ N 12 0 38 = 100000) ∧ ImR A S3 N ∧ TxR A N ∧ RwR A N ∧ RFs A N
def TS (M : Mm) : Prop := TI (M 0) (M 1) (M 3) (M 4)
theorem im_cf {N N' : Nm} (h : ∀ j, j < 50 → N' 27 0 j = N 27 0 j) : CfE (rsP N 0 39) (rsP N' 0 39) := by
  intro k j hx
  rw [rs_cell N' 0 hx, rs_cell N 0 hx, h _ (by omega)]
theorem HodB.cf {A B : Nm} (h : HodB A) (hc : CfE A B) : HodB B := by
  obtain ⟨a, h1, h2, h3⟩ := h
  exact ⟨a, h1, h2, by rw [hc 14 1 (by decide +kernel)]; exact h3⟩
theorem ImR.kp {A A' S3 N N' : Nm} (h : ImR A S3 N) (h7 : A' 7 0 3 = A 7 0 3) (h22 : N' 12 0 22 = N 12 0 22) (h27 : ∀ j, j < 50 → N' 27 0 j = N 27 0 j) : ImR A' S3 N' := by
  rcases h with ⟨a, b⟩ | ⟨a, b, ⟨L, m, c⟩, d, e⟩
  · exact Or.inl ⟨h7.trans a, h22.trans b⟩
  · exact Or.inr ⟨h7.trans a, h22.trans b, ⟨L, m, c.cf (im_cf h27)⟩, d.cf (im_cf h27), e.trans (im_cf h27 12 12 (by decide +kernel)).symm⟩
theorem TI.kp {A S1 S3 N N' : Nm} (h : TI A S1 S3 N) (hk : KpN N N') : TI A S1 S3 N' := by
  obtain ⟨⟨L, m, h1⟩, h2, ⟨h3, h4, h5, h6⟩, h7, ⟨c, c1, c2, c3, c4⟩, ⟨d, d1, d2, d3, d4⟩, h10⟩ := h
  obtain ⟨k1, k2, k3, k4, k5, k6⟩ := hk
  refine ⟨⟨L, m, h1.cf k1⟩, ⟨h2.1.cf k1, h2.2.trans (k1 12 12 (by decide +kernel)).symm⟩, ⟨h3, h4, by rw [k6 37 (by decide)]; exact h5, by rw [k6 38 (by decide)]; exact h6⟩, h7.kp rfl (k6 22 (by decide)) k4, ⟨c, c1, c2, by rw [k6 18 (by decide)]; exact c3, fun q hq => by rw [k3 23 (by decide) (by decide)]; exact c4 q hq⟩, ⟨d, d1, d2, by rw [k6 42 (by decide)]; exact d3, fun q hq => by rw [k5]; exact d4 q hq⟩, fun q hq => by rw [k2]; exact h10 q hq⟩
theorem mRf_k (N : Nm) (r : Int32) {k : Nat} (h : k ≠ 13) : mRf N r k = N k := by
  unfold mRf
  exact wn_k _ _ _ _ h
theorem cRf_k (N : Nm) (r : Int32) {k : Nat} (h : k ≠ 11) : cRf N r k = N k := by
  unfold cRf
  exact wn_k _ _ _ _ h
theorem mRf_cf (N : Nm) (r : Int32) : CfE N (mRf N r) := by
  intro k j h
  have : k ≠ 13 := by
    rintro rfl
    rw [idx_k (by decide) (by decide)] at h
    omega
  rw [mRf_k N r this]
theorem TI.rf {A S1 S3 N : Nm} (h : TI A S1 S3 N) {r : Int32} (hr : RfO r) : TI (cRf A r) S1 S3 (mRf N r) := by
  obtain ⟨⟨L, m, h1⟩, h2, ⟨h3, h4, h5, h6⟩, h7, ⟨c, c1, c2, c3, c4⟩, ⟨d, d1, d2, d3, d4⟩, h10⟩ := h
  have hm := mRf_cf N r
  refine ⟨⟨L, m, h1.cf hm⟩, ⟨h2.1.cf hm, h2.2.trans (hm 12 12 (by decide +kernel)).symm⟩, ⟨h3, h4, by rw [mRf_k N r (by decide)]; exact h5, by rw [mRf_k N r (by decide)]; exact h6⟩, h7.kp (by rw [cRf_k A r (by decide)]) (by rw [mRf_k N r (by decide)]) (fun j _ => by rw [mRf_k N r (by decide)]), ⟨c, c1, by rw [cRf_k A r (by decide)]; exact c2, by rw [mRf_k N r (by decide)]; exact c3, fun q hq => by rw [cRf_k A r (by decide), mRf_k N r (by decide)]; exact c4 q hq⟩, ⟨d, d1, by rw [cRf_k A r (by decide)]; exact d2, by rw [mRf_k N r (by decide)]; exact d3, fun q hq => by rw [cRf_k A r (by decide), mRf_k N r (by decide)]; exact d4 q hq⟩, h10.up hr⟩
/-- class and reference answer alike, and all holds behind -/
def Ans (y y' : Nat) (as : List AV) : Prop := ∀ M : Mm, TS M → ∃ (v : Int32) (M1 M2 : Mm), call y (aR 0 7 0 :: as) M = some (some v, M1) ∧ call y' (aR 4 12 0 :: as) M1 = some (some v, M2) ∧ TS M2
theorem TS.of {M : Mm} {A S1 S3 N : Nm} (h : TI A S1 S3 N) (h0 : M 0 = A) (h1 : M 1 = S1) (h3 : M 3 = S3) (h4 : M 4 = N) : TS M := by
  unfold TS
  rw [h0, h1, h3, h4]
  exact h
section AnsRules
variable {y y' : Nat} {as : List AV} {M : Mm}
theorem Ans.mk {M1 : Mm} {v : Int32} {N' : Nm} (hc : call y (aR 0 7 0 :: as) M = some (some v, M1)) (h4 : M1 4 = M 4) (hr : ∀ X, call y' (aR 4 12 0 :: as) (va_up X 4 (M 4)) = some (some v, va_up X 4 N')) (hT : TI (M1 0) (M1 1) (M1 3) N') : ∃ (v : Int32) (M1 M2 : Mm), call y (aR 0 7 0 :: as) M = some (some v, M1) ∧ call y' (aR 4 12 0 :: as) M1 = some (some v, M2) ∧ TS M2 := by
  refine ⟨v, M1, va_up M1 4 N', hc, ?_, TS.of hT (up_ne _ _ (by decide)) (up_ne _ _ (by decide)) (up_ne _ _ (by decide)) (up_same _ _ _)⟩
  have := hr M1
  rw [← h4, up_id] at this
  exact this
theorem Ans.no (h : TS M) {r : Int32} (hr : RfO r) (hc : call y (aR 0 7 0 :: as) M = some (some r, va_up M 0 (cRf (M 0) r))) (hm : ∀ X, call y' (aR 4 12 0 :: as) (va_up X 4 (M 4)) = some (some r, va_up X 4 (mRf (M 4) r))) : ∃ (v : Int32) (M1 M2 : Mm), call y (aR 0 7 0 :: as) M = some (some v, M1) ∧ call y' (aR 4 12 0 :: as) M1 = some (some v, M2) ∧ TS M2 := by
  refine Ans.mk hc (up_ne _ _ (by decide)) hm ?_
  rw [up_same, up_ne _ _ (by decide), up_ne _ _ (by decide)]
  exact TI.rf h hr
theorem Ans.lo (h : TS M) {r : Int32} (hr : RfO r) (hc : call y (aR 0 7 0 :: as) M = some (some (1000000000 - r), va_up M 0 (cRf (M 0) r))) (hm : ∀ X, call y' (aR 4 12 0 :: as) (va_up X 4 (M 4)) = some (some (1000000000 - r), va_up X 4 (mRf (M 4) r))) : ∃ (v : Int32) (M1 M2 : Mm), call y (aR 0 7 0 :: as) M = some (some v, M1) ∧ call y' (aR 4 12 0 :: as) M1 = some (some v, M2) ∧ TS M2 := by
  refine Ans.mk hc (up_ne _ _ (by decide)) hm ?_
  rw [up_same, up_ne _ _ (by decide), up_ne _ _ (by decide)]
  exact TI.rf h hr
theorem Ans.id (h : TS M) {v : Int32} (hc : call y (aR 0 7 0 :: as) M = some (some v, M)) (hm : ∀ X, call y' (aR 4 12 0 :: as) (va_up X 4 (M 4)) = some (some v, va_up X 4 (M 4))) : ∃ (v : Int32) (M1 M2 : Mm), call y (aR 0 7 0 :: as) M = some (some v, M1) ∧ call y' (aR 4 12 0 :: as) M1 = some (some v, M2) ∧ TS M2 := Ans.mk hc rfl hm h
theorem Ans.th (h : TS M) {v : Int32} {Z N' : Nm} (hk : KpN (M 4) N') (hc : call y (aR 0 7 0 :: as) M = some (some v, va_up M 2 Z)) (hm : ∀ X, call y' (aR 4 12 0 :: as) (va_up X 4 (M 4)) = some (some v, va_up X 4 N')) : ∃ (v : Int32) (M1 M2 : Mm), call y (aR 0 7 0 :: as) M = some (some v, M1) ∧ call y' (aR 4 12 0 :: as) M1 = some (some v, M2) ∧ TS M2 := by
  refine Ans.mk hc (up_ne _ _ (by decide)) hm ?_
  rw [up_ne _ _ (by decide), up_ne _ _ (by decide), up_ne _ _ (by decide)]
  exact TI.kp h hk
end AnsRules
theorem rf1 : RfO (-1) := by unfold RfO; simp
theorem K66_1 (M : Mm) : call 66 [aR 0 7 0, aI (-1)] M = some (some (-1), va_up M 0 (cRf (M 0) (-1))) := K66 M rf1
theorem m81_1 (M : Mm) (N : Nm) : call 81 [aR 4 12 0, aI (-1)] (va_up M 4 N) = some (some (-1), va_up M 4 (mRf N (-1))) := m81 M N rf1
theorem m82_1 (M : Mm) (N : Nm) : call 82 [aR 4 12 0, aI (-1)] (va_up M 4 N) = some (some (1000000000 - -1), va_up M 4 (mRf N (-1))) := m82 M N rf1
theorem nz1 : ((-1 : Int32) = 0) = False := by decide +kernel
theorem rf2 : RfO (-2) := by unfold RfO; simp
theorem K66_2 (M : Mm) : call 66 [aR 0 7 0, aI (-2)] M = some (some (-2), va_up M 0 (cRf (M 0) (-2))) := K66 M rf2
theorem m81_2 (M : Mm) (N : Nm) : call 81 [aR 4 12 0, aI (-2)] (va_up M 4 N) = some (some (-2), va_up M 4 (mRf N (-2))) := m81 M N rf2
theorem m82_2 (M : Mm) (N : Nm) : call 82 [aR 4 12 0, aI (-2)] (va_up M 4 N) = some (some (1000000000 - -2), va_up M 4 (mRf N (-2))) := m82 M N rf2
theorem nz2 : ((-2 : Int32) = 0) = False := by decide +kernel
theorem rf3 : RfO (-3) := by unfold RfO; simp
theorem K66_3 (M : Mm) : call 66 [aR 0 7 0, aI (-3)] M = some (some (-3), va_up M 0 (cRf (M 0) (-3))) := K66 M rf3
theorem m81_3 (M : Mm) (N : Nm) : call 81 [aR 4 12 0, aI (-3)] (va_up M 4 N) = some (some (-3), va_up M 4 (mRf N (-3))) := m81 M N rf3
theorem m82_3 (M : Mm) (N : Nm) : call 82 [aR 4 12 0, aI (-3)] (va_up M 4 N) = some (some (1000000000 - -3), va_up M 4 (mRf N (-3))) := m82 M N rf3
theorem nz3 : ((-3 : Int32) = 0) = False := by decide +kernel
theorem rf4 : RfO (-4) := by unfold RfO; simp
theorem K66_4 (M : Mm) : call 66 [aR 0 7 0, aI (-4)] M = some (some (-4), va_up M 0 (cRf (M 0) (-4))) := K66 M rf4
theorem m81_4 (M : Mm) (N : Nm) : call 81 [aR 4 12 0, aI (-4)] (va_up M 4 N) = some (some (-4), va_up M 4 (mRf N (-4))) := m81 M N rf4
theorem m82_4 (M : Mm) (N : Nm) : call 82 [aR 4 12 0, aI (-4)] (va_up M 4 N) = some (some (1000000000 - -4), va_up M 4 (mRf N (-4))) := m82 M N rf4
theorem nz4 : ((-4 : Int32) = 0) = False := by decide +kernel
theorem rf6 : RfO (-6) := by unfold RfO; simp
theorem K66_6 (M : Mm) : call 66 [aR 0 7 0, aI (-6)] M = some (some (-6), va_up M 0 (cRf (M 0) (-6))) := K66 M rf6
theorem m81_6 (M : Mm) (N : Nm) : call 81 [aR 4 12 0, aI (-6)] (va_up M 4 N) = some (some (-6), va_up M 4 (mRf N (-6))) := m81 M N rf6
theorem m82_6 (M : Mm) (N : Nm) : call 82 [aR 4 12 0, aI (-6)] (va_up M 4 N) = some (some (1000000000 - -6), va_up M 4 (mRf N (-6))) := m82 M N rf6
theorem nz6 : ((-6 : Int32) = 0) = False := by decide +kernel
theorem mBo_a {v lo : Int32} (hi : Int32) (h : v < lo) : mBo v lo hi = -4 := by unfold mBo; rw [if_pos h]
theorem mBo_b {v lo hi : Int32} (h : ¬ v < lo) (h2 : hi < v) : mBo v lo hi = -6 := by unfold mBo; rw [if_neg h, if_pos h2]
theorem mBo_0 {v lo hi : Int32} (h : ¬ v < lo) (h2 : ¬ hi < v) : mBo v lo hi = 0 := by unfold mBo; rw [if_neg h, if_neg h2]
theorem mIn_a {v lo : Int32} (hi : Int32) (h : v < lo) : mIn v lo hi = 0 := by unfold mIn; rw [if_pos h]
theorem mIn_b {v lo hi : Int32} (h : ¬ v < lo) (h2 : hi < v) : mIn v lo hi = 0 := by unfold mIn; rw [if_neg h, if_pos h2]
theorem mIn_1 {v lo hi : Int32} (h : ¬ v < lo) (h2 : ¬ hi < v) : mIn v lo hi = 1 := by unfold mIn; rw [if_neg h, if_neg h2]
theorem K67 (M : Mm) (a b c : Int32) : call 67 [aI a, aI b, aI c] M = some (some (mBo a b c), M) := by
  simp only [c67, r67_0, r67_1, r67_2, r67_5, r67_7, r67_8, r67_9, r67_10, r67_13, r67_15, r67_18, r67_19]
  unfold mBo
  repeat' split
  all_goals rfl
theorem K12 {M : Mm} {g L : Nat} (hL : M g 0 0 1 = nI L) (x : Int32) : call 12 [aR g 0 0, aI x] M = some (some (if x < 0 then 0 else if x < nI L then 1 else 0), M) := by
  have h := k12 M (M g) g hL x
  rwa [up_id] at h
theorem m85 (M : Mm) {N : Nm} {L : Nat} (hL : N 12 0 10 = nI L) (x : Int32) : call 85 [aR 4 12 0, aI x] (va_up M 4 N) = some (some (if x < 0 then 0 else if x < nI L then 1 else 0), va_up M 4 N) := by
  simp only [c85, r85_0, r85_1, r85_4, r85_5, r85_6, r85_9, r85_12, r85_13, r85_16, r85_17, up_same, hL, true_or, or_true, reduceIte]
  repeat' split
  all_goals rfl
theorem K3 (M : Mm) (g i : Nat) (t : Int32) : call 3 [aR g 2 i, aI t] M = some (some (cWn (M g) i t), M) := by
  have h := k3 M (M g) g i t
  rwa [up_id] at h
theorem of_lt {x : Int32} {L : Nat} (hL : L < 2147483648) (h1 : ¬ x < 0) (h2 : x < nI L) : ∃ k, k < L ∧ x = nI k := by
  obtain ⟨j, hj, rfl⟩ := nI_of h1
  exact ⟨j, (nI_ltI hj hL).mp h2, rfl⟩
theorem of_le {x : Int32} {B : Nat} (hB : B < 2147483648) (h1 : ¬ x < 0) (h2 : ¬ nI B < x) : ∃ k, k ≤ B ∧ x = nI k := by
  obtain ⟨j, hj, rfl⟩ := nI_of h1
  exact ⟨j, Nat.not_lt.mp (fun z => h2 ((nI_ltI hB hj).mpr z)), rfl⟩
theorem nIneq {a b : Nat} (ha : a < 2147483648) (hb : b < 2147483648) : (nI a = nI b) = (a = b) := propext (nI_eq ha hb)
