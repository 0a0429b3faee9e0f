def mSum (N : Nm) : Int32 := N 28 0 0 + N 28 0 1 + N 28 0 2 + N 28 0 3
def cNs (S : Nm) (st fi : Int32) : Nm := if 0 < st then (if S 5 0 4 = -9 then wrN (wrN (if 1 < st then wrN (wrN S 5 0 2 (S 5 0 2 + st)) 5 0 3 (S 5 0 3 + 1) else wrN S 5 0 2 (S 5 0 2 + st)) 5 0 4 fi) 5 0 5 (S 5 0 0) else (if 1 < st then wrN (wrN S 5 0 2 (S 5 0 2 + st)) 5 0 3 (S 5 0 3 + 1) else wrN S 5 0 2 (S 5 0 2 + st))) else (if 1 < st then wrN (wrN S 5 0 2 (S 5 0 2 + st)) 5 0 3 (S 5 0 3 + 1) else wrN S 5 0 2 (S 5 0 2 + st))
theorem k30 (M : Mm) (S : Nm) (g : Nat) (st fi : Int32) : call 30 [aR g 5 0, aI st, aI fi] (va_up M g S) = some (none, va_up M g (cNs S st fi)) := by
  by_cases c1 : 1 < st
  · by_cases c0 : 0 < st
    · by_cases c9 : S 5 0 4 = -9
      · simp only [c30, r30_0, r30_1, r30_2, r30_5, r30_6, r30_7, r30_10, r30_11, r30_12, r30_15, r30_16, r30_17, r30_20, r30_21, r30_22, r30_25, r30_26, r30_29, r30_30, r30_33, r30_35, r30_38, r30_39, r30_40, r30_43, r30_44, r30_45, r30_48, r30_51, up_same, c1, c0, c9, wr_up, wn_if, Nat.reduceEqDiff, reduceIte, cNs]
      · simp only [c30, r30_0, r30_1, r30_2, r30_5, r30_6, r30_7, r30_10, r30_11, r30_12, r30_15, r30_16, r30_17, r30_20, r30_21, r30_22, r30_25, r30_26, r30_29, r30_30, r30_33, r30_35, r30_38, r30_39, r30_40, r30_43, r30_44, r30_45, r30_48, r30_51, up_same, c1, c0, c9, wr_up, wn_if, Nat.reduceEqDiff, reduceIte, cNs]
    · simp only [c30, r30_0, r30_1, r30_2, r30_5, r30_6, r30_7, r30_10, r30_11, r30_12, r30_15, r30_16, r30_17, r30_20, r30_21, r30_22, r30_25, r30_26, r30_29, r30_30, r30_33, r30_35, r30_38, r30_39, r30_40, r30_43, r30_44, r30_45, r30_48, r30_51, up_same, c1, c0, wr_up, wn_if, Nat.reduceEqDiff, reduceIte, cNs]
  · by_cases c0 : 0 < st
    · by_cases c9 : S 5 0 4 = -9
      · simp only [c30, r30_0, r30_1, r30_2, r30_5, r30_6, r30_7, r30_10, r30_11, r30_12, r30_15, r30_16, r30_17, r30_20, r30_21, r30_22, r30_25, r30_26, r30_29, r30_30, r30_33, r30_35, r30_38, r30_39, r30_40, r30_43, r30_44, r30_45, r30_48, r30_51, up_same, c1, c0, c9, wr_up, wn_if, Nat.reduceEqDiff, reduceIte, cNs]
      · simp only [c30, r30_0, r30_1, r30_2, r30_5, r30_6, r30_7, r30_10, r30_11, r30_12, r30_15, r30_16, r30_17, r30_20, r30_21, r30_22, r30_25, r30_26, r30_29, r30_30, r30_33, r30_35, r30_38, r30_39, r30_40, r30_43, r30_44, r30_45, r30_48, r30_51, up_same, c1, c0, c9, wr_up, wn_if, Nat.reduceEqDiff, reduceIte, cNs]
    · simp only [c30, r30_0, r30_1, r30_2, r30_5, r30_6, r30_7, r30_10, r30_11, r30_12, r30_15, r30_16, r30_17, r30_20, r30_21, r30_22, r30_25, r30_26, r30_29, r30_30, r30_33, r30_35, r30_38, r30_39, r30_40, r30_43, r30_44, r30_45, r30_48, r30_51, up_same, c1, c0, wr_up, wn_if, Nat.reduceEqDiff, reduceIte, cNs]
theorem e4 : nI 4 = 4 := by decide +kernel
theorem m125s (M : Mm) (N : Nm) {k : Nat} (hk : k < 4) (v : Int32) : run 125 4 [aR 4 12 0, aI v, aI (nI k)] [] (va_up M 4 N) = run 125 4 [aR 4 12 0, aI (v + N 28 0 k), aI (nI (k + 1))] [] (va_up M 4 N) := by
  have hv := vp_t hk (by decide)
  have ht := tn hk (by decide)
  have hc : (nI k < 4) = True := by rw [← e4]; exact eq_true (nI_lt hk (by decide))
  rw [r125_4]
  simp only [r125_0, r125_1, r125_2, r125_3, r125_5, r125_6, r125_9, r125_10, r125_11, r125_14, r125_15, r125_16, r125_17, r125_18, r125_21, r125_24, r125_25, up_same, hv, ht, hc, reduceIte, nI_1]
theorem m125 (M : Mm) (N : Nm) : call 125 [aR 4 12 0] (va_up M 4 N) = some (some (mSum N), va_up M 4 N) := by
  have h0 := m125s M N (k := 0) (by decide) 0
  rw [nI_0] at h0
  simp only [c125, r125_0, r125_1, r125_2, r125_3]
  rw [h0, m125s M N (by decide), m125s M N (by decide), m125s M N (by decide), r125_4]
  have hc : (nI (0 + 1 + 1 + 1 + 1) < 4) = False := by decide +kernel
  simp only [r125_0, r125_1, r125_2, r125_3, r125_5, r125_6, r125_9, r125_10, r125_11, r125_14, r125_15, r125_16, r125_17, r125_18, r125_21, r125_24, r125_25, hc, reduceIte]
  unfold mSum
  rw [Int32.zero_add]
/-- in the midst of the layers: i have laid, st of them stand, the first of these -/
def RMd (T : Nat) (S N : Nm) (L m t b i st : Nat) (fi : Option Nat) (T0 f0 g0 : Int32) : Prop := RCf S N L m ∧ RT1 T S N t ∧ RBg S N b ∧ RLs S N L (fun q => if q < i then t + 1 else t) ∧ RMs S N L m ∧ S 5 0 2 = T0 ∧ mSum N = T0 + nI st ∧ S 5 0 3 = N 12 0 34 ∧ S 5 0 4 = f0 ∧ S 5 0 5 = g0 ∧ (N 12 0 35 = if f0 = -9 then oI fi else f0) ∧ (N 12 0 36 = if f0 = -9 then (if fi = none then g0 else nI t) else g0) ∧ (f0 = -9 ∨ ∃ k, k < 4 ∧ f0 = nI k) ∧ (fi = none ↔ st = 0) ∧ st ≤ i ∧ (∀ c, fi = some c → c < 4) ∧ ∀ q, L ≤ q → q < 4 → N 28 0 q = 0
def fiU (fi : Option Nat) (i : Nat) : Option Nat := match fi with
  | none => some i
  | some c => some c
theorem oI_fiU (fi : Option Nat) (i : Nat) (h : ∀ c, fi = some c → c < 4) : (if oI fi = -9 then nI i else oI fi) = oI (fiU fi i) := by
  cases fi with
  | none => rfl
  | some c =>
    have := h c rfl
    have e : ¬ nI c = -9 := fun e => m9ne c (by omega) e.symm
    show (if nI c = -9 then nI i else nI c) = nI c
    rw [if_neg e]
theorem sum_up (N : Nm) (k : Nat) (hk : k < 4) (v : Int32) (f : Nat → Int32) (hf : ∀ q, f q = if q = k then N 28 0 k + 1 else N 28 0 q) : f 0 + f 1 + f 2 + f 3 = mSum N + 1 := by
  unfold mSum
  rcases (show k = 0 ∨ k = 1 ∨ k = 2 ∨ k = 3 by omega) with rfl | rfl | rfl | rfl
  all_goals
    rw [hf 0, hf 1, hf 2, hf 3]
    simp only [Nat.reduceEqDiff, reduceIte]
    grind
/-- what a layer's minute leaves alone -/
theorem cLy_k (S : Nm) (i : Nat) (t : Int32) {k : Nat} (h : k ≠ 2) : cLy S i t k = S k := by
  unfold cLy cL2 cL1
  repeat' split
  all_goals simp only [wn_k, h, ne_eq, not_false_eq_true]
theorem cLy_i (S : Nm) (i : Nat) (t : Int32) {q : Nat} (h : q ≠ i) : cLy S i t 2 q = S 2 q := by
  unfold cLy cL2 cL1
  repeat' split
  all_goals simp only [wn_i, h, ne_eq, not_false_eq_true]
theorem mLg_k (N : Nm) (i : Nat) {k : Nat} (h1 : k ≠ 17) (h2 : k ≠ 18) (h3 : k ≠ 12) (h4 : k ≠ 28) (h5 : k ≠ 29) (h6 : k ≠ 30) : mLg N i k = N k := by
  unfold mLg mL1
  repeat' split
  all_goals simp only [wn_k, h1, h2, h3, h4, h5, h6, ne_eq, not_false_eq_true]
theorem mLg_12 (N : Nm) (i : Nat) (j : Nat) : mLg N i 12 0 j = if j = 29 then N 12 0 29 + mLa N i else N 12 0 j := by
  unfold mLg mL1
  repeat' split
  all_goals simp only [wn_if, wn_k, ne_eq, Nat.reduceEqDiff, not_false_eq_true, reduceIte, *]
theorem mLg_q (N : Nm) (i : Nat) {q : Nat} (h : q ≠ i) : mLg N i 17 0 q = N 17 0 q ∧ mLg N i 18 0 q = N 18 0 q ∧ mLg N i 28 0 q = N 28 0 q ∧ mLg N i 29 0 q = N 29 0 q ∧ mLg N i 30 0 q = N 30 0 q := by
  unfold mLg mL1
  refine ⟨?_, ?_, ?_, ?_, ?_⟩
  all_goals
    repeat' split
    all_goals simp only [wn_if, wn_k, h, ne_eq, Nat.reduceEqDiff, not_false_eq_true, reduceIte]
theorem fr_lg (N : Nm) (i : Nat) : FrN N (mLg N i) := by
  unfold mLg
  refine (((?_ : FrN N (mL1 N i)).wr 17 i _ (by decide)).wr 18 i _ (by decide)).wr12 29 _ (by decide) (by decide) (by decide)
  unfold mL1
  repeat' split
  · exact ((FrN.rf N).wr 28 i _ (by decide)).wr 29 i _ (by decide)
  · exact ((FrN.rf N).wr 28 i _ (by decide)).wr 30 i _ (by decide)
  · exact FrN.rf N
section All
variable {S N : Nm} {T L m t b i st : Nat} {fi : Option Nat} {T0 f0 g0 : Int32}
theorem lay_step (h : RMd T S N L m t b i st fi T0 f0 g0) (ht : t ≤ 240) (hi : i < L) : ∃ (S' N' : Nm) (st' : Nat) (fi' : Option Nat), RMd T S' N' L m t b (i + 1) st' fi' T0 f0 g0 ∧ FrN N N' ∧ (∀ (M : Mm) (g : Nat) (z : AV), ∃ z', run 25 7 [aR g 0 0, aI (nI st), aI (oI fi), aI (nI i), z] [] (va_up M g S) = run 25 7 [aR g 0 0, aI (nI st'), aI (oI fi'), aI (nI (i + 1)), z'] [] (va_up M g S')) ∧ (∀ (M : Mm) (l1 z : AV), ∃ z', run 124 39 [aR 4 12 0, l1, aI (nI i), z] [] (va_up M 4 N) = run 124 39 [aR 4 12 0, l1, aI (nI (i + 1)), z'] [] (va_up M 4 N')) := by
  obtain ⟨hC, hT1, hB, hS, hM, d1, d2, d3, d4, d5, d6, d7, d8, d9, d10, d11, d12⟩ := h
  obtain ⟨c1, c2, c3, c4, c5, c6, c7, c8, c9, c10, c11, c12, c13, c14, c15, c16, c17, c18⟩ := id hC
  obtain ⟨a1, a2, a3, a4, a5, a6, a7, a8⟩ := id hT1
  obtain ⟨r0, r1, r2, r3, r4, r5, r6, r7, r8, r9, c, hcu, hcN⟩ := hS i hi
  obtain ⟨-, -, u3, u4⟩ := us_ok _ r9 (N 15 0 i)
  have hu0 : ¬ mUn (N 15 0 i) = 0 := mUn0 _
  have hcu' : c ≤ t := by simpa using hcu
  obtain ⟨l1, l2, l3⟩ := lay_eq hS c14 hi
  obtain ⟨rel, eN28, eS6⟩ := lay_rel hS c14 hi hcN hcu
  have hv : vpB (nI i) 4 = true := vp_t (by omega) (by decide)
  have htn : (nI i).toNatClampNeg = i := tn (n := 4) (by omega) (by decide)
  have hcL : (nI i < nI L) = True := eq_true (nI_lt hi (by omega))
  have k5' := fun M g => k5 M S g i (S 0 0 10) (by rw [r3]; exact u4) (by rw [r3]; exact hu0)
  -- the new rows, but for the first who stands
  have base : ∀ (S' N' : Nm), (∀ k, k ≠ 5 → S' k = cLy S i (S 0 0 10) k) → (∀ j, S' 5 0 j = if j = 1 then S 5 0 1 + mLa N i else S 5 0 j) → (∀ k, k ≠ 12 → N' k = mLg N i k) → (∀ j, j ≠ 35 → j ≠ 36 → N' 12 0 j = mLg N i 12 0 j) → RCf S' N' L m ∧ RT1 T S' N' t ∧ RBg S' N' b ∧ RLs S' N' L (fun q => if q < i + 1 then t + 1 else t) ∧ RMs S' N' L m ∧ S' 5 0 2 = T0 ∧ S' 5 0 3 = N' 12 0 34 ∧ S' 5 0 4 = f0 ∧ S' 5 0 5 = g0 ∧ ∀ q, L ≤ q → q < 4 → N' 28 0 q = 0 := by
    intro S' N' x1 x2 x3 x4
    refine ⟨?_, ?_, ?_, ?_, ?_, ?_, ?_, ?_, ?_, ?_⟩
    · simpa only [RCf, x1, x3, x4, cLy_k, mLg_k, mLg_12, ne_eq, Nat.reduceEqDiff, not_false_eq_true, reduceIte] using hC
    · simp only [RT1, x1, x2, x3, x4, cLy_k, mLg_k, mLg_12, ne_eq, Nat.reduceEqDiff, not_false_eq_true, reduceIte]
      exact ⟨a1, a2, by rw [a3], a4, a5, a6, a7, a8⟩
    · simpa only [RBg, x1, x2, x3, x4, cLy_k, mLg_k, mLg_12, ne_eq, Nat.reduceEqDiff, not_false_eq_true, reduceIte] using hB
    · intro q hq
      rw [x1 2 (by decide), x3 15 (by decide), x3 16 (by decide), x3 17 (by decide), x3 18 (by decide), x3 28 (by decide), x3 29 (by decide), x3 30 (by decide)]
      by_cases hqi : q = i
      · subst hqi
        have : (if q < q then t + 1 else t) + 1 = (if q < q + 1 then t + 1 else t) := by simp
        dsimp only at rel ⊢
        rw [this] at rel
        exact rel
      · obtain ⟨g1, g2, g3, g4, g5⟩ := mLg_q N i hqi
        have hx := hS q hq
        have e : (if q < i + 1 then t + 1 else t) = (if q < i then t + 1 else t) := by
          by_cases h1 : q < i
          · rw [if_pos h1, if_pos (by omega)]
          · rw [if_neg h1, if_neg (by omega)]
        dsimp only at hx ⊢
        rw [cLy_i S i _ hqi, g1, g2, g3, g4, g5, mLg_k N i (by decide) (by decide) (by decide) (by decide) (by decide) (by decide), mLg_k N i (by decide) (by decide) (by decide) (by decide) (by decide) (by decide), e]
        exact hx
    · simpa only [RMs, x1, x3, cLy_k, mLg_k, ne_eq, Nat.reduceEqDiff, not_false_eq_true] using hM
    · rw [x2]; exact d1
    · rw [x2, x4 _ (by decide) (by decide), mLg_12]; exact d3
    · rw [x2]; exact d4
    · rw [x2]; exact d5
    · intro q hq1 hq2
      rw [x3 28 (by decide), (mLg_q N i (by omega)).2.2.1]
      exact d12 q hq1 hq2
  by_cases hst : mLa N i < mWo N i
  · -- he stands
    rw [if_pos hst] at eN28 eS6
    have hgt : (nI c < nI (c + 1)) = True := eq_true (nI_lt (by omega) (by omega))
    have hsum : mSum (mLg N i) = T0 + nI (st + 1) := by
      have := sum_up N i (by omega) 0 (fun q => mLg N i 28 0 q) (fun q => by
        by_cases hq : q = i
        · rw [if_pos hq, hq, eN28, hcN, nI_1]
        · rw [if_neg hq]; exact (mLg_q N i hq).2.2.1)
      show mLg N i 28 0 0 + mLg N i 28 0 1 + mLg N i 28 0 2 + mLg N i 28 0 3 = _
      rw [this, d2, Int32.add_assoc, nI_1]
    refine ⟨wrN (cLy S i (S 0 0 10)) 5 0 1 (S 5 0 1 + mLa N i), if N 12 0 35 < 0 then wrN (wrN (mLg N i) 12 0 35 (nI i)) 12 0 36 (nI t) else mLg N i, st + 1, fiU fi i, ?_, by (split; exact ((fr_lg N i).wr12 35 _ (by decide) (by decide) (by decide)).wr12 36 _ (by decide) (by decide) (by decide); exact fr_lg N i), fun M g z => ⟨aI (S 2 i 6), ?_⟩, fun M l1 z => ⟨aI (N 28 0 i), ?_⟩⟩
    · have hb := base (wrN (cLy S i (S 0 0 10)) 5 0 1 (S 5 0 1 + mLa N i)) (if N 12 0 35 < 0 then wrN (wrN (mLg N i) 12 0 35 (nI i)) 12 0 36 (nI t) else mLg N i) (fun k hk => by rw [wn_k _ _ _ _ hk]) (fun j => by rw [wn_if, cLy_k _ _ _ (by decide)]) (fun k hk => by split <;> simp only [wn_k, hk, ne_eq, not_false_eq_true]) (fun j h1 h2 => by split <;> simp only [wn_if, h1, h2, if_false])
      obtain ⟨b1, b2, b3, b4, b5, b6, b7, b8, b9, b10⟩ := hb
      have hn28 : ∀ q, (if N 12 0 35 < 0 then wrN (wrN (mLg N i) 12 0 35 (nI i)) 12 0 36 (nI t) else mLg N i) 28 0 q = mLg N i 28 0 q := fun q => by split <;> simp only [wn_k, ne_eq, Nat.reduceEqDiff, not_false_eq_true]
      refine ⟨b1, b2, b3, b4, b5, b6, ?_, b7, b8, b9, ?_, ?_, d8, ?_, by omega, ?_, b10⟩
      · unfold mSum
        rw [hn28, hn28, hn28, hn28]
        exact hsum
      · by_cases hf : f0 = -9
        · rw [if_pos hf] at d6 ⊢
          cases fi with
          | none =>
            have : N 12 0 35 < 0 := by rw [d6]; exact m9lt
            rw [if_pos this]
            simp only [wn_if, Nat.reduceEqDiff, reduceIte]
            rfl
          | some k =>
            have hk := d11 k rfl
            have : ¬ N 12 0 35 < 0 := by rw [d6]; exact nI_pos (by omega)
            rw [if_neg this, mLg_12, if_neg (by decide)]
            exact d6
        · rw [if_neg hf] at d6 ⊢
          rcases d8 with d8 | ⟨k, hk, d8⟩
          · exact absurd d8 hf
          · have : ¬ N 12 0 35 < 0 := by rw [d6, d8]; exact nI_pos (by omega)
            rw [if_neg this, mLg_12, if_neg (by decide)]
            exact d6
      · by_cases hf : f0 = -9
        · rw [if_pos hf] at d6 d7 ⊢
          cases fi with
          | none =>
            have : N 12 0 35 < 0 := by rw [d6]; exact m9lt
            rw [if_pos this, wn_eq]
            rfl
          | some k =>
            have hk := d11 k rfl
            have : ¬ N 12 0 35 < 0 := by rw [d6]; exact nI_pos (by omega)
            rw [if_neg this, mLg_12, if_neg (by decide)]
            exact d7
        · rw [if_neg hf] at d6 d7 ⊢
          rcases d8 with d8 | ⟨k, hk, d8⟩
          · exact absurd d8 hf
          · have : ¬ N 12 0 35 < 0 := by rw [d6, d8]; exact nI_pos (by omega)
            rw [if_neg this, mLg_12, if_neg (by decide)]
            exact d7
      · constructor
        · intro hx; cases fi <;> cases hx
        · intro hx; omega
      · intro q hq
        cases fi with
        | none => cases hq; omega
        | some k => cases hq; exact d11 _ rfl
    · have hfu := oI_fiU fi i d11
      have hh : nI c < nI (c + 1) := nI_lt (by omega) (by omega)
      rw [r25_7]
      simp only [r25_0, r25_1, r25_2, r25_4, r25_5, r25_6, r25_8, r25_9, r25_12, r25_15, r25_16, r25_19, r25_20, r25_21, r25_24, r25_26, r25_27, r25_30, r25_31, r25_34, r25_35, r25_38, r25_39, r25_40, r25_41, r25_44, r25_47, r25_48, r25_51, r25_52, r25_55, r25_56, r25_57, r25_60, r25_62, r25_65, r25_68, r25_69, r25_71, r25_74, r25_75, r25_78, r25_79, r25_80, r25_83, r25_86, r25_87, r25_90, r25_91, r25_92, r25_95, up_same, c4, hcL, hv, htn, k5', cbI_some, wr_up, wn_if, wn_k, eS6, r6, hcN, hgt, l3, nI_1, ne_eq, Nat.reduceEqDiff, not_false_eq_true, reduceIte]
      split
      · rename_i e9
        rw [if_pos e9] at hfu
        rw [hfu]
      · rename_i e9
        rw [if_neg e9] at hfu
        rw [hfu]
    · rw [r124_39]
      by_cases h35 : N 12 0 35 < 0
      · simp only [r124_0, r124_1, r124_4, r124_5, r124_6, r124_7, r124_8, r124_9, r124_12, r124_13, r124_14, r124_17, r124_18, r124_21, r124_22, r124_23, r124_26, r124_27, r124_28, r124_31, r124_34, r124_37, r124_38, r124_40, r124_41, r124_44, r124_47, r124_48, r124_51, r124_52, r124_53, r124_54, r124_55, r124_56, r124_59, r124_60, r124_63, r124_66, r124_67, r124_70, r124_71, r124_72, r124_73, r124_76, r124_77, r124_78, r124_81, r124_82, r124_83, r124_86, r124_89, r124_92, r124_95, r124_96, r124_97, r124_100, r124_101, r124_104, r124_105, r124_106, r124_107, r124_110, r124_111, r124_114, r124_115, r124_116, r124_119, r124_120, r124_121, r124_122, r124_123, r124_126, r124_127, r124_128, r124_131, r124_132, r124_135, r124_136, r124_137, r124_140, r124_143, r124_144, r124_147, r124_148, r124_149, r124_150, r124_151, r124_152, r124_153, r124_154, r124_157, r124_158, r124_159, r124_162, r124_163, r124_164, r124_167, r124_170, r124_173, r124_174, r124_175, r124_178, r124_179, r124_180, r124_183, r124_184, r124_185, r124_188, r124_189, r124_190, r124_193, up_same, c5, hcL, hv, htn, m123 M N (show i < 4 by omega), cbV_some, wr_up, wn_if, mLg_12, eN28, hcN, hgt, h35, a2, nI_1, ne_eq, Nat.reduceEqDiff, not_false_eq_true, reduceIte]
      · simp only [r124_0, r124_1, r124_4, r124_5, r124_6, r124_7, r124_8, r124_9, r124_12, r124_13, r124_14, r124_17, r124_18, r124_21, r124_22, r124_23, r124_26, r124_27, r124_28, r124_31, r124_34, r124_37, r124_38, r124_40, r124_41, r124_44, r124_47, r124_48, r124_51, r124_52, r124_53, r124_54, r124_55, r124_56, r124_59, r124_60, r124_63, r124_66, r124_67, r124_70, r124_71, r124_72, r124_73, r124_76, r124_77, r124_78, r124_81, r124_82, r124_83, r124_86, r124_89, r124_92, r124_95, r124_96, r124_97, r124_100, r124_101, r124_104, r124_105, r124_106, r124_107, r124_110, r124_111, r124_114, r124_115, r124_116, r124_119, r124_120, r124_121, r124_122, r124_123, r124_126, r124_127, r124_128, r124_131, r124_132, r124_135, r124_136, r124_137, r124_140, r124_143, r124_144, r124_147, r124_148, r124_149, r124_150, r124_151, r124_152, r124_153, r124_154, r124_157, r124_158, r124_159, r124_162, r124_163, r124_164, r124_167, r124_170, r124_173, r124_174, r124_175, r124_178, r124_179, r124_180, r124_183, r124_184, r124_185, r124_188, r124_189, r124_190, r124_193, up_same, c5, hcL, hv, htn, m123 M N (show i < 4 by omega), cbV_some, wr_up, wn_if, mLg_12, eN28, hcN, hgt, h35, a2, nI_1, ne_eq, Nat.reduceEqDiff, not_false_eq_true, reduceIte]
  · -- he doesn't
    rw [if_neg hst] at eN28 eS6
    have hgt : (nI c < nI c) = False := eq_false (fun h => Int32.lt_irrefl h)
    have hsum : mSum (mLg N i) = T0 + nI st := by
      have e : ∀ q, mLg N i 28 0 q = N 28 0 q := fun q => by
        by_cases hq : q = i
        · rw [hq, eN28, hcN]
        · exact (mLg_q N i hq).2.2.1
      unfold mSum
      rw [e, e, e, e]
      exact d2
    refine ⟨wrN (cLy S i (S 0 0 10)) 5 0 1 (S 5 0 1 + mLa N i), mLg N i, st, fi, ?_, fr_lg N i, fun M g z => ⟨aI (S 2 i 6), ?_⟩, fun M l1 z => ⟨aI (N 28 0 i), ?_⟩⟩
    · obtain ⟨b1, b2, b3, b4, b5, b6, b7, b8, b9, b10⟩ := base (wrN (cLy S i (S 0 0 10)) 5 0 1 (S 5 0 1 + mLa N i)) (mLg N i) (fun k hk => by rw [wn_k _ _ _ _ hk]) (fun j => by rw [wn_if, cLy_k _ _ _ (by decide)]) (fun k hk => rfl) (fun j h1 h2 => rfl)
      exact ⟨b1, b2, b3, b4, b5, b6, hsum, b7, b8, b9, by rw [mLg_12, if_neg (by decide)]; exact d6, by rw [mLg_12, if_neg (by decide)]; exact d7, d8, d9, by omega, d11, b10⟩
    · rw [r25_7]
      simp only [r25_0, r25_1, r25_2, r25_4, r25_5, r25_6, r25_8, r25_9, r25_12, r25_15, r25_16, r25_19, r25_20, r25_21, r25_24, r25_26, r25_27, r25_30, r25_31, r25_34, r25_35, r25_38, r25_39, r25_40, r25_41, r25_44, r25_47, r25_48, r25_51, r25_52, r25_55, r25_56, r25_57, r25_60, r25_62, r25_65, r25_68, r25_69, r25_71, r25_74, r25_75, r25_78, r25_79, r25_80, r25_83, r25_86, r25_87, r25_90, r25_91, r25_92, r25_95, up_same, c4, hcL, hv, htn, k5', cbI_some, wr_up, wn_if, wn_k, eS6, r6, hcN, hgt, l3, nI_1, ne_eq, Nat.reduceEqDiff, not_false_eq_true, reduceIte]
    · rw [r124_39]
      by_cases h35 : N 12 0 35 < 0
      · simp only [r124_0, r124_1, r124_4, r124_5, r124_6, r124_7, r124_8, r124_9, r124_12, r124_13, r124_14, r124_17, r124_18, r124_21, r124_22, r124_23, r124_26, r124_27, r124_28, r124_31, r124_34, r124_37, r124_38, r124_40, r124_41, r124_44, r124_47, r124_48, r124_51, r124_52, r124_53, r124_54, r124_55, r124_56, r124_59, r124_60, r124_63, r124_66, r124_67, r124_70, r124_71, r124_72, r124_73, r124_76, r124_77, r124_78, r124_81, r124_82, r124_83, r124_86, r124_89, r124_92, r124_95, r124_96, r124_97, r124_100, r124_101, r124_104, r124_105, r124_106, r124_107, r124_110, r124_111, r124_114, r124_115, r124_116, r124_119, r124_120, r124_121, r124_122, r124_123, r124_126, r124_127, r124_128, r124_131, r124_132, r124_135, r124_136, r124_137, r124_140, r124_143, r124_144, r124_147, r124_148, r124_149, r124_150, r124_151, r124_152, r124_153, r124_154, r124_157, r124_158, r124_159, r124_162, r124_163, r124_164, r124_167, r124_170, r124_173, r124_174, r124_175, r124_178, r124_179, r124_180, r124_183, r124_184, r124_185, r124_188, r124_189, r124_190, r124_193, up_same, c5, hcL, hv, htn, m123 M N (show i < 4 by omega), cbV_some, wr_up, wn_if, mLg_12, eN28, hcN, hgt, h35, nI_1, ne_eq, Nat.reduceEqDiff, not_false_eq_true, reduceIte]
      · simp only [r124_0, r124_1, r124_4, r124_5, r124_6, r124_7, r124_8, r124_9, r124_12, r124_13, r124_14, r124_17, r124_18, r124_21, r124_22, r124_23, r124_26, r124_27, r124_28, r124_31, r124_34, r124_37, r124_38, r124_40, r124_41, r124_44, r124_47, r124_48, r124_51, r124_52, r124_53, r124_54, r124_55, r124_56, r124_59, r124_60, r124_63, r124_66, r124_67, r124_70, r124_71, r124_72, r124_73, r124_76, r124_77, r124_78, r124_81, r124_82, r124_83, r124_86, r124_89, r124_92, r124_95, r124_96, r124_97, r124_100, r124_101, r124_104, r124_105, r124_106, r124_107, r124_110, r124_111, r124_114, r124_115, r124_116, r124_119, r124_120, r124_121, r124_122, r124_123, r124_126, r124_127, r124_128, r124_131, r124_132, r124_135, r124_136, r124_137, r124_140, r124_143, r124_144, r124_147, r124_148, r124_149, r124_150, r124_151, r124_152, r124_153, r124_154, r124_157, r124_158, r124_159, r124_162, r124_163, r124_164, r124_167, r124_170, r124_173, r124_174, r124_175, r124_178, r124_179, r124_180, r124_183, r124_184, r124_185, r124_188, r124_189, r124_190, r124_193, up_same, c5, hcL, hv, htn, m123 M N (show i < 4 by omega), cbV_some, wr_up, wn_if, mLg_12, eN28, hcN, hgt, h35, nI_1, ne_eq, Nat.reduceEqDiff, not_false_eq_true, reduceIte]
end All
