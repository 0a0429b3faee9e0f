/-! from a still site: clear, pass; goesMinutes -/
def RLc (r : Nat → Int32) (kd pc bd sk : Int32) : Prop := r 0 = kd ∧ r 1 = pc ∧ r 2 = cUs kd pc ∧ r 3 = mUn kd ∧ r 4 = bd ∧ r 5 = sk ∧ (pc = 1 ∨ pc = 2 ∨ pc = 3 ∨ pc = 4)
def RLk (S N : Nm) (L : Nat) : Prop := ∀ i, i < L → RLc (S 2 i) (N 15 0 i) (N 16 0 i) (N 17 0 i) (N 18 0 i)
/-- a still site and the reference's rows -/
def Rg (T : Nat) (S N : Nm) (L m : Nat) : Prop := RCf S N L m ∧ RLk S N L ∧ RMs S N L m ∧ S 0 0 13 = N 12 0 37 ∧ (∀ q, q < T → ((nI q < S 0 0 14) = (nI q < N 12 0 38))) ∧ (T = 241 → S 0 0 12 = N 12 0 12)
def cCr (S : Nm) : Nm := wrN (wrN (wrN (wrN (wrN (wrN (wrN (wrN (wrN (wrN S 5 0 0 0) 5 0 1 0) 5 0 2 0) 5 0 3 0) 5 0 4 (-9)) 5 0 5 (-9)) 5 0 6 0) 5 0 7 0) 5 0 8 0) 5 0 10 0
theorem k28 (M : Mm) (S : Nm) (g : Nat) : call 28 [aR g 5 0] (va_up M g S) = some (none, va_up M g (cCr S)) := by
  simp only [c28, r28_0, r28_1, r28_2, r28_5, r28_6, r28_7, r28_10, r28_11, r28_12, r28_15, r28_16, r28_17, r28_20, r28_21, r28_23, r28_26, r28_27, r28_29, r28_32, r28_33, r28_34, r28_37, r28_38, r28_39, r28_42, r28_43, r28_44, r28_47, r28_48, r28_49, r28_52, wr_up]
  rfl
def cZs (S : Nm) : Nat → Nat → Nm
  | _, 0 => S
  | i, n + 1 => cZs (wrN (wrN S 2 i 6 0) 2 i 7 0) (i + 1) n
def mZs (N : Nm) : Nat → Nat → Nm
  | _, 0 => N
  | i, n + 1 => mZs (wrN (wrN (wrN N 28 0 i 0) 29 0 i 0) 30 0 i 0) (i + 1) n
def mCr (N : Nm) : Nm := wrN (wrN (wrN (wrN (wrN (wrN (wrN (wrN (wrN N 12 0 29 0) 12 0 30 0) 12 0 31 0) 12 0 32 0) 12 0 33 0) 12 0 34 0) 12 0 35 (-9)) 12 0 36 (-9)) 12 0 39 0
theorem cZs_k : ∀ (n i : Nat) (S : Nm) {k : Nat}, k ≠ 2 → cZs S i n k = S k := by
  intro n
  induction n with
  | zero => intro i S k h; rfl
  | succ n ih =>
    intro i S k h
    rw [cZs, ih _ _ h, wn_k _ _ _ _ h, wn_k _ _ _ _ h]
theorem cZs_j : ∀ (n i : Nat) (S : Nm) {q j : Nat}, j ≠ 6 → j ≠ 7 → cZs S i n 2 q j = S 2 q j := by
  intro n
  induction n with
  | zero => intro i S q j h1 h2; rfl
  | succ n ih =>
    intro i S q j h1 h2
    rw [cZs, ih _ _ h1 h2]
    by_cases hq : q = i
    · subst hq
      rw [wn_j _ _ _ _ h2, wn_j _ _ _ _ h1]
    · rw [wn_i _ _ _ _ hq, wn_i _ _ _ _ hq]
theorem cZs_z : ∀ (n i : Nat) (S : Nm) {q : Nat}, i ≤ q → q < i + n → cZs S i n 2 q 6 = 0 ∧ cZs S i n 2 q 7 = 0 := by
  intro n
  induction n with
  | zero => intro i S q h1 h2; omega
  | succ n ih =>
    intro i S q h1 h2
    rw [cZs]
    by_cases hq : q = i
    · subst hq
      have : ∀ (n i : Nat) (S : Nm) (q j : Nat), q < i → cZs S i n 2 q j = S 2 q j := by
        intro n
        induction n with
        | zero => intro i S q j h; rfl
        | succ n ih =>
          intro i S q j h
          rw [cZs, ih _ _ _ _ (by omega), wn_i _ _ _ _ (by omega), wn_i _ _ _ _ (by omega)]
      rw [this _ _ _ _ _ (by omega), this _ _ _ _ _ (by omega), wn_eq, wn_j _ _ _ _ (by decide), wn_eq]
      exact ⟨rfl, rfl⟩
    · exact ih (i + 1) _ (by omega) (by omega)
theorem mZs_k : ∀ (n i : Nat) (N : Nm) {k : Nat}, k ≠ 28 → k ≠ 29 → k ≠ 30 → mZs N i n k = N k := by
  intro n
  induction n with
  | zero => intro i N k h1 h2 h3; rfl
  | succ n ih =>
    intro i N k h1 h2 h3
    rw [mZs, ih _ _ h1 h2 h3, wn_k _ _ _ _ h3, wn_k _ _ _ _ h2, wn_k _ _ _ _ h1]
theorem mZs_lo : ∀ (n i : Nat) (N : Nm) {q : Nat}, q < i → mZs N i n 28 0 q = N 28 0 q ∧ mZs N i n 29 0 q = N 29 0 q ∧ mZs N i n 30 0 q = N 30 0 q := by
  intro n
  induction n with
  | zero => intro i N q h; exact ⟨rfl, rfl, rfl⟩
  | succ n ih =>
    intro i N q h
    have hq : q ≠ i := by omega
    obtain ⟨e1, e2, e3⟩ := ih (i + 1) (wrN (wrN (wrN N 28 0 i 0) 29 0 i 0) 30 0 i 0) (q := q) (by omega)
    rw [mZs, e1, e2, e3]
    simp only [wn_if, wn_k, hq, ne_eq, Nat.reduceEqDiff, not_false_eq_true, if_false, and_self]
theorem mZs_z : ∀ (n i : Nat) (N : Nm) {q : Nat}, i ≤ q → q < i + n → mZs N i n 28 0 q = 0 ∧ mZs N i n 29 0 q = 0 ∧ mZs N i n 30 0 q = 0 := by
  intro n
  induction n with
  | zero => intro i N q h1 h2; omega
  | succ n ih =>
    intro i N q h1 h2
    rw [mZs]
    by_cases hq : q = i
    · subst hq
      obtain ⟨e1, e2, e3⟩ := mZs_lo n (q + 1) (wrN (wrN (wrN N 28 0 q 0) 29 0 q 0) 30 0 q 0) (q := q) (by omega)
      rw [e1, e2, e3]
      simp only [wn_if, wn_k, ne_eq, Nat.reduceEqDiff, not_false_eq_true, if_true, and_self]
    · exact ih (i + 1) _ (by omega) (by omega)
theorem fr_zs : ∀ (n i : Nat) {N0 N : Nm}, FrN N0 N → FrN N0 (mZs N i n) := by
  intro n
  induction n with
  | zero => intro i N0 N h; exact h
  | succ n ih => intro i N0 N h; exact ih (i + 1) (((h.wr 28 i _ (by decide)).wr 29 i _ (by decide)).wr 30 i _ (by decide))
theorem k20L (M : Mm) (g : Nat) {L : Nat} (hL4 : L ≤ 4) (x1 : AV) : ∀ (n i : Nat) (S : Nm), S 0 0 1 = nI L → i + n = L → run 20 9 [aR g 0 0, x1, aI (nI i)] [] (va_up M g S) = run 20 43 [aR g 0 0, x1, aI (nI L)] [] (va_up M g (cZs S i n)) := by
  intro n
  induction n with
  | zero =>
    intro i S hL hi
    have : i = L := by omega
    subst this
    have hF : (nI i < nI i) = False := eq_false (fun h => Int32.lt_irrefl h)
    rw [r20_9]
    simp only [r20_10, r20_11, r20_14, up_same, hL, hF, reduceIte, cZs]
  | succ n ih =>
    intro i S hL hi
    have hT : (nI i < nI L) = True := eq_true (nI_lt (by omega) (by omega))
    have hv : vpB (nI i) 4 = true := vp_t (by omega) (by decide)
    have htn : (nI i).toNatClampNeg = i := tn (n := 4) (by omega) (by decide)
    have ih' := ih (i + 1) (wrN (wrN S 2 i 6 0) 2 i 7 0) (by simpa only [wn_k, ne_eq, Nat.reduceEqDiff, not_false_eq_true] using hL) (by omega)
    rw [r20_9]
    simp only [r20_10, r20_11, r20_14, r20_17, r20_18, r20_21, r20_22, r20_23, r20_24, r20_27, r20_28, r20_31, r20_32, r20_33, r20_34, r20_37, r20_40, up_same, hL, hT, hv, htn, reduceIte, wr_up, nI_1, ih', cZs]
theorem m126L (M : Mm) : ∀ (n i : Nat) (N : Nm), i + n = 4 → run 126 2 [aR 4 12 0, aI (nI i)] [] (va_up M 4 N) = some (none, va_up M 4 (mCr (mZs N i n))) := by
  intro n
  induction n with
  | zero =>
    intro i N hi
    have : i = 4 := by omega
    subst this
    have hF : (nI 4 < 4) = False := by decide +kernel
    rw [r126_2]
    simp only [r126_0, r126_1, r126_3, r126_4, r126_7, r126_8, r126_11, r126_12, r126_13, r126_14, r126_15, r126_18, r126_19, r126_20, r126_21, r126_22, r126_25, r126_26, r126_27, r126_28, r126_31, r126_34, r126_35, r126_36, r126_39, r126_40, r126_41, r126_44, r126_45, r126_46, r126_49, r126_50, r126_51, r126_54, r126_55, r126_56, r126_59, r126_60, r126_61, r126_64, r126_65, r126_67, r126_70, r126_71, r126_73, r126_76, r126_77, r126_78, r126_81, hF, reduceIte, wr_up, mZs]
    rfl
  | succ n ih =>
    intro i N hi
    have hT : (nI i < 4) = True := by rw [← e4]; exact eq_true (nI_lt (by omega) (by omega))
    have hv : vpB (nI i) 4 = true := vp_t (by omega) (by decide)
    have htn : (nI i).toNatClampNeg = i := tn (n := 4) (by omega) (by decide)
    rw [r126_2]
    simp only [r126_0, r126_1, r126_3, r126_4, r126_7, r126_8, r126_11, r126_12, r126_13, r126_14, r126_15, r126_18, r126_19, r126_20, r126_21, r126_22, r126_25, r126_26, r126_27, r126_28, r126_31, r126_35, r126_36, r126_39, r126_40, r126_41, r126_44, r126_45, r126_46, r126_49, r126_50, r126_51, r126_54, r126_55, r126_56, r126_59, r126_60, r126_61, r126_64, r126_65, r126_67, r126_70, r126_71, r126_73, r126_76, r126_77, r126_78, r126_81, hT, hv, htn, reduceIte, wr_up, nI_1, ih (i + 1) _ (by omega), mZs]
theorem m126 (M : Mm) (N : Nm) : call 126 [aR 4 12 0] (va_up M 4 N) = some (none, va_up M 4 (mCr (mZs N 0 4))) := by
  have h := m126L M 4 0 N (by omega)
  rw [nI_0] at h
  simp only [c126, r126_0, r126_1]
  exact h
/-- n minutes from a still site -/
theorem pass_both {S N : Nm} {T L m n : Nat} (h : Rg T S N L m) (hn : n ≤ 240) (hnT : n ≤ T) : ∃ (S' N' : Nm) (b' : Nat), b' ≤ 3 * n ∧ Rl T S' N' L m n b' (fun _ => n) ∧ FrN N N' ∧ (∀ (M : Mm) (g : Nat), call 20 [aR g 0 0, aI (nI n)] (va_up M g S) = some (none, va_up M g (wrN S' 0 0 11 (S' 0 0 11 + S' 5 0 1)))) ∧ (∀ M : Mm, call 127 [aR 4 12 0, aI (nI n)] (va_up M 4 N) = some (none, va_up M 4 N')) := by
  obtain ⟨hC, hK, hM, hw, hdry⟩ := h
  have hL4 := hC.1
  have hL1 : S 0 0 1 = nI L := hC.2.2.2.1
  have h0 : Rl T (cZs (cCr S) 0 L) (mCr (mZs N 0 4)) L m 0 0 (fun _ => 0) := by
    refine ⟨?_, ?_, ?_, ?_, ?_, ?_⟩
    · simpa only [RCf, cZs_k, cCr, mCr, mZs_k, wn_if, wn_k, ne_eq, Nat.reduceEqDiff, not_false_eq_true, reduceIte] using hC
    · simp only [RT1, cZs_k, cCr, mCr, mZs_k, wn_if, wn_k, ne_eq, Nat.reduceEqDiff, not_false_eq_true, reduceIte]
      exact ⟨nI_0.symm, nI_0.symm, trivial, trivial, trivial, trivial, hw, hdry⟩
    · have z := fun q (hq : q < 4) => (mZs_z 4 0 N (q := q) (by omega) (by omega)).1
      simp only [RT2, cZs_k, cCr, mCr, wn_if, wn_k, ne_eq, Nat.reduceEqDiff, not_false_eq_true, reduceIte]
      refine ⟨?_, trivial, trivial, trivial, Or.inl trivial, fun q _ hq => z q hq⟩
      rw [z 0 (by decide), z 1 (by decide), z 2 (by decide), z 3 (by decide)]
      decide +kernel
    · simp only [RBg, cZs_k, cCr, mCr, wn_if, wn_k, ne_eq, Nat.reduceEqDiff, not_false_eq_true, reduceIte]
      exact ⟨nI_0.symm, nI_0.symm, fun q hq => by omega⟩
    · intro i hi
      obtain ⟨r0, r1, r2, r3, r4, r5, r6⟩ := hK i hi
      obtain ⟨z6, z7⟩ := cZs_z L 0 (cCr S) (q := i) (by omega) (by omega)
      obtain ⟨y1, y2, y3⟩ := mZs_z 4 0 N (q := i) (by omega) (by omega)
      have e : ∀ j, cCr S 2 i j = S 2 i j := fun j => by simp only [cCr, wn_k, ne_eq, Nat.reduceEqDiff, not_false_eq_true]
      simp only [RLy, cZs_j, z6, z7, e, mCr, mZs_k, y1, y2, y3, wn_k, ne_eq, Nat.reduceEqDiff, not_false_eq_true]
      exact ⟨r0, r1, r2, r3, r4, r5, trivial, trivial, by decide +kernel, r6, 0, Nat.le_refl _, nI_0.symm⟩
    · simpa only [RMs, cZs_k, cCr, mCr, mZs_k, wn_k, ne_eq, Nat.reduceEqDiff, not_false_eq_true] using hM
  obtain ⟨S', N', b', hb', h', f', s', n'⟩ := minutes_both (L := L) (m := m) hn hnT n 0 0 _ _ (by omega) (by omega) h0
  have f0 : FrN N (mCr (mZs N 0 4)) := by
    unfold mCr
    exact (((((((((fr_zs 4 0 (FrN.rf N)).wr12 29 _ (by decide) (by decide) (by decide)).wr12 30 _ (by decide) (by decide) (by decide)).wr12 31 _ (by decide) (by decide) (by decide)).wr12 32 _ (by decide) (by decide) (by decide)).wr12 33 _ (by decide) (by decide) (by decide)).wr12 34 _ (by decide) (by decide) (by decide)).wr12 35 _ (by decide) (by decide) (by decide)).wr12 36 _ (by decide) (by decide) (by decide)).wr12 39 _ (by decide) (by decide) (by decide)
  have hF : (nI n < nI n) = False := eq_false (fun h => Int32.lt_irrefl h)
  have q0 : S' 5 0 0 = nI n := h'.2.1.1
  refine ⟨S', N', b', hb', h', f0.tr f', fun M g => ?_, fun M => ?_⟩
  · have e1 := k20L M g hL4 (aI (nI n)) L 0 (cCr S) (by simpa only [cCr, wn_k, ne_eq, Nat.reduceEqDiff, not_false_eq_true] using hL1) (by omega)
    rw [nI_0] at e1
    obtain ⟨z', e2⟩ := s' M g (aI (nI L))
    simp only [c20, r20_0, r20_1, r20_4, r20_7, r20_8, k28, cbV_some, e1, e2]
    rw [r20_43]
    simp only [r20_44, r20_47, r20_50, r20_51, r20_164, r20_165, r20_166, r20_169, r20_170, r20_173, r20_176, r20_177, r20_180, up_same, q0, hF, reduceIte, wr_up]
  · have e2 := n' M
    rw [nI_0] at e2
    simp only [c127, r127_0, r127_1, r127_4, r127_5, m126, cbV_some, e2]
    rw [r127_6]
    simp only [r127_7, r127_8, r127_21, hF, reduceIte]
