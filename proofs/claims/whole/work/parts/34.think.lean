/-! thoughts: what both sides hold behind one -/
def OutF (Z Ne : Nm) (L : Nat) : Prop := Z 5 0 1 = Ne 12 0 29 ∧ Z 5 0 2 = mSum Ne ∧ Z 5 0 3 = Ne 12 0 34 ∧ Z 5 0 4 = Ne 12 0 35 ∧ Z 5 0 5 = Ne 12 0 36 ∧ Z 5 0 6 = Ne 12 0 30 ∧ Z 5 0 7 = Ne 12 0 31 ∧ Z 5 0 8 = Ne 12 0 32 ∧ Z 0 0 1 = nI L ∧ (∀ k, k < L → Z 2 k 6 = Ne 28 0 k ∧ Z 2 k 7 = Ne 29 0 k ∧ Z 2 k 6 - Z 2 k 7 = Ne 30 0 k) ∧ ∃ b, b ≤ 720 ∧ Ne 12 0 33 = nI b ∧ Z 5 0 10 = nI (min b 20) ∧ ∀ q, q < b → q < 20 → Z 6 0 q = Ne 31 0 q
theorem out_of {T n L m b : Nat} {S N Ne : Nm} {v : Int32} (hr : Rl T S N L m n b (fun _ => n)) (hb : b ≤ 3 * n) (hn : n ≤ 240) (hk : ∀ k, k = 28 ∨ k = 29 ∨ k = 30 ∨ k = 31 → Ne k = N k) (h12 : ∀ j, 29 ≤ j → j ≤ 36 → Ne 12 0 j = N 12 0 j) : OutF (wrN S 0 0 11 v) Ne L := by
  obtain ⟨hC, ⟨-, -, a3, a4, a5, a6, -, -⟩, ⟨t1, t2, t3, t4, -, -⟩, ⟨b1, b2, b3⟩, hS, -⟩ := hr
  refine ⟨?_, ?_, ?_, ?_, ?_, ?_, ?_, ?_, ?_, fun k hkL => ?_, b, by omega, ?_, ?_, fun q hq hq2 => ?_⟩
  · rw [wn_k _ _ _ _ (by decide), h12 29 (by decide) (by decide)]; exact a3
  · rw [wn_k _ _ _ _ (by decide), t1]
    unfold mSum
    rw [hk 28 (by decide)]
  · rw [wn_k _ _ _ _ (by decide), h12 34 (by decide) (by decide)]; exact t2
  · rw [wn_k _ _ _ _ (by decide), h12 35 (by decide) (by decide)]; exact t3
  · rw [wn_k _ _ _ _ (by decide), h12 36 (by decide) (by decide)]; exact t4
  · rw [wn_k _ _ _ _ (by decide), h12 30 (by decide) (by decide)]; exact a4
  · rw [wn_k _ _ _ _ (by decide), h12 31 (by decide) (by decide)]; exact a5
  · rw [wn_k _ _ _ _ (by decide), h12 32 (by decide) (by decide)]; exact a6
  · rw [wn_j _ _ _ _ (by decide)]; exact hC.2.2.2.1
  · obtain ⟨-, -, -, -, -, -, r6, r7, r8, -, -⟩ := hS k hkL
    rw [wn_k _ _ _ _ (by decide), hk 28 (by decide), hk 29 (by decide), hk 30 (by decide)]
    exact ⟨r6, r7, by rw [r6, r7]; exact r8⟩
  · rw [h12 33 (by decide) (by decide)]; exact b1
  · rw [wn_k _ _ _ _ (by decide)]; exact b2
  · rw [wn_k _ _ _ _ (by decide), hk 31 (by decide)]; exact b3 q hq hq2
/-- behind minds: also what is left of muck -/
def Out (N : Nm) (L : Nat) (Z Ne : Nm) : Prop := OutF Z Ne L ∧ KpN N Ne ∧ cAm Z 0 L (Z 0 0 8) = Ne 12 0 40
theorem thinkS {S N : Nm} {T L m n : Nat} (h : R0 S N L m) (hw : S 0 0 13 = N 12 0 37) (hd : ∀ q, q < n → ((nI q < S 0 0 14) = (nI q < N 12 0 38))) (hn : n ≤ 240) : ∃ Z Ne : Nm, Out N L Z Ne ∧ (∀ (M : Mm) (g : Nat), call 20 [aR g 0 0, aI (nI n)] (va_up M g S) = some (none, va_up M g Z)) ∧ (∀ M : Mm, call 130 [aR 4 12 0, aI (nI n)] (va_up M 4 N) = some (none, va_up M 4 Ne)) := by
  obtain ⟨S', N', b', hb, hr, hf, hs, hm⟩ := minds_both (T := n) h hw hd (fun e => absurd e (by omega)) hn (Nat.le_refl _)
  refine ⟨_, mEd N' L, ⟨out_of hr hb hn (fun k hk => mEd_k N' L (by omega)) (fun j h1 h2 => mEd_12 N' L h1 (by omega)), mEd_kp hf L, ?_⟩, hs, hm⟩
  rw [mEd_40, wn_j _ _ _ _ (by decide), hr.1.2.2.2.2.2.2.2.2.2.2.2.1]
  refine am_eq (L := L) (fun i hi => ?_) L 0 _ (by omega)
  rw [wn_k _ _ _ _ (by decide)]
  exact (hr.2.2.2.2.1 i hi).2.2.2.2.1
/-- as it is -/
theorem think {M : Mm} {N : Nm} {L m n : Nat} (h : R0 (M 1) N L m) (hwN : N 12 0 37 = 0) (hdN : N 12 0 38 = 100000) (hn : n ≤ 240) : ∃ Z Ne : Nm, Out N L Z Ne ∧ call 70 [aR 0 7 0, aI (nI n)] M = some (none, va_up M 2 Z) ∧ (∀ X : Mm, call 130 [aR 4 12 0, aI (nI n)] (va_up X 4 N) = some (none, va_up X 4 Ne)) := by
  obtain ⟨Z, Ne, ho, hs, hm⟩ := thinkS (T := 240) (h.cp (M 2)) ((cp_13 _ _).1.trans hwN.symm) (fun q hq => by rw [(cp_13 _ _).2, hdN, eq_true (dry_ok q (by omega)).1, eq_true (dry_ok q (by omega)).2]) hn
  refine ⟨Z, Ne, ho, ?_, hm⟩
  have e1 := K11 (g := 2) (by decide) h
  simp only [c70, r70_0, r70_1, r70_4, r70_5, r70_8, r70_11, r70_12, r70_15, r70_16, r70_19, e1, hs, cbV_some]
/-- with a setting -/
theorem thinkQ {M : Mm} {N : Nm} {L m n q a : Nat} (h : R0 (M 1) N L m) (hwN : N 12 0 37 = 0) (hdN : N 12 0 38 = 100000) (hn : n ≤ 240) (hq : q < 7) (h0 : q ≠ 0) (h2 : q = 2 ∨ q = 3 → 1 ≤ a ∧ a ≤ 20) : ∃ Z Ne : Nm, Out (wrN N 14 0 q (nI a)) L Z Ne ∧ call 72 [aR 0 7 0, aI (nI q), aI (nI a), aI (nI n)] M = some (some (Ne 12 0 29), va_up M 2 Z) ∧ (∀ X : Mm, call 130 [aR 4 12 0, aI (nI n)] (va_up X 4 (wrN N 14 0 q (nI a))) = some (none, va_up X 4 Ne)) := by
  have hs0 := (h.cp (M 2)).sg hq (a := a) (fun e => absurd e h0) h2
  rw [if_neg h0] at hs0
  obtain ⟨Z, Ne, ho, hs, hm⟩ := thinkS (T := 240) hs0 (by rw [wn_j _ _ _ _ (by omega), wn_k _ _ _ _ (by decide)]; exact (cp_13 _ _).1.trans hwN.symm) (fun q hq => by rw [wn_j _ _ _ _ (by omega), wn_k _ _ _ _ (by decide), (cp_13 _ _).2, hdN, eq_true (dry_ok q (by omega)).1, eq_true (dry_ok q (by omega)).2]) hn
  refine ⟨Z, Ne, ho, ?_, hm⟩
  have e1 := K11 (g := 2) (by decide) h
  have e2 := fun S : Nm => k17 M S 2 hq (nI a)
  have e3 := ho.1.1
  simp only [c72, r72_0, r72_1, r72_4, r72_5, r72_8, r72_11, r72_12, r72_15, r72_16, r72_17, r72_20, r72_21, r72_24, r72_25, r72_28, r72_29, r72_32, r72_35, r72_38, e1, e2, hs, cbV_some, up_same, e3]
/-- a setting back -/
theorem kp_back {N Ne : Nm} {q : Nat} (hq : q < 7) {v : Int32} (h : KpN (wrN N 14 0 q v) Ne) : KpN N (wrN Ne 14 0 q (N 14 0 q)) := by
  obtain ⟨k1, k2, k3, k4, k5, k6⟩ := h
  refine ⟨fun k j hx => ?_, ?_, fun k a b => ?_, fun j hj => ?_, ?_, fun j hj => ?_⟩
  · rw [wn_ap]
    by_cases e : k = 14 ∧ (0 : Nat) = 0 ∧ j = q
    · obtain ⟨rfl, -, rfl⟩ := e
      rw [if_pos ⟨rfl, rfl, rfl⟩]
    · rw [if_neg e, k1 k j hx, wn_ap, if_neg e]
  · rw [wn_k _ _ _ _ (by decide), k2, wn_k _ _ _ _ (by decide)]
  · rw [wn_k _ _ _ _ (by omega), k3 k a b, wn_k _ _ _ _ (by omega)]
  · rw [wn_k _ _ _ _ (by decide), k4 j hj, wn_k _ _ _ _ (by decide)]
  · rw [wn_k _ _ _ _ (by decide), k5, wn_k _ _ _ _ (by decide)]
  · rw [wn_k _ _ _ _ (by decide), k6 j hj, wn_k _ _ _ _ (by decide)]
theorem K71 {M : Mm} {n : Int32} {Z Ne : Nm} {L : Nat} (h : call 70 [aR 0 7 0, aI n] M = some (none, va_up M 2 Z)) (ho : OutF Z Ne L) : call 71 [aR 0 7 0, aI n] M = some (some (Ne 12 0 29), va_up M 2 Z) := by
  simp only [c71, r71_0, r71_1, r71_2, r71_5, r71_6, r71_9, r71_12, r71_15, h, cbV_some, up_same, ho.1]
theorem m143 {X : Mm} {n : Int32} {N Ne : Nm} (h : call 130 [aR 4 12 0, aI n] (va_up X 4 N) = some (none, va_up X 4 Ne)) : call 143 [aR 4 12 0, aI n] (va_up X 4 N) = some (some (Ne 12 0 29), va_up X 4 Ne) := by
  simp only [c143, r143_0, r143_1, r143_2, r143_5, r143_6, r143_9, h, cbV_some, up_same]
theorem m140 {X : Mm} {n v : Int32} {N Ne : Nm} {q : Nat} (hq : q < 7) (h : call 130 [aR 4 12 0, aI n] (va_up X 4 (wrN N 14 0 q v)) = some (none, va_up X 4 Ne)) : call 140 [aR 4 12 0, aI (nI q), aI v, aI n] (va_up X 4 N) = some (some (Ne 12 0 29), va_up X 4 (wrN Ne 14 0 q (N 14 0 q))) := by
  obtain ⟨-, -, -, hv, htn⟩ := lim_f q hq
  simp only [c140, r140_0, r140_1, r140_4, r140_5, r140_6, r140_8, r140_9, r140_12, r140_13, r140_14, r140_15, r140_16, r140_17, r140_20, r140_21, r140_24, r140_25, r140_27, r140_28, r140_29, r140_32, h, cbV_some, up_same, hv, htn, wr_up, wn_k, ne_eq, Nat.reduceEqDiff, not_false_eq_true, reduceIte]
