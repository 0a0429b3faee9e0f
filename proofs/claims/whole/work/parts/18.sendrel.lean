def Rl (T : Nat) (S N : Nm) (L m t b : Nat) (u : Nat → Nat) : Prop := RCf S N L m ∧ RT1 T S N t ∧ RT2 S N L ∧ RBg S N b ∧ RLs S N L u ∧ RMs S N L m
theorem nb_k (S : Nm) (v : Int32) {k : Nat} (h5 : k ≠ 5) (h6 : k ≠ 6) : cNb S v k = S k := by
  unfold cNb cNc
  repeat' split
  all_goals simp only [wn_k, h5, h6, ne_eq, not_false_eq_true]
theorem nb_5 (S : Nm) (v : Int32) {j : Nat} (h6 : j ≠ 6) (h7 : j ≠ 7) (h10 : j ≠ 10) : cNb S v 5 0 j = S 5 0 j := by
  unfold cNb cNc
  repeat' split
  all_goals simp only [wn_if, wn_k, h6, h7, h10, ne_eq, Nat.reduceEqDiff, not_false_eq_true, reduceIte]
theorem nb_9 (S : Nm) : cNb S 9 5 0 6 = S 5 0 6 ∧ cNb S 9 5 0 7 = S 5 0 7 + 1 := by
  unfold cNb cNc
  constructor
  all_goals
    rw [if_pos rfl]
    split
    all_goals simp only [wn_if, wn_k, ne_eq, Nat.reduceEqDiff, not_false_eq_true, reduceIte]
theorem nb_n (S : Nm) {v : Int32} (h : ¬ v = 9) : cNb S v 5 0 6 = S 5 0 6 + 1 ∧ cNb S v 5 0 7 = S 5 0 7 := by
  unfold cNb cNc
  constructor
  all_goals
    rw [if_neg h]
    split
    all_goals simp only [wn_if, wn_k, ne_eq, Nat.reduceEqDiff, not_false_eq_true, reduceIte]
theorem tl_k (N : Nm) (v : Int32) {k : Nat} (h : k ≠ 31) (h2 : k ≠ 12) : mTl N v k = N k := by
  unfold mTl
  simp only [wn_k, h, h2, ne_eq, not_false_eq_true]
theorem tl_12 (N : Nm) (v : Int32) {j : Nat} (h : j ≠ 33) : mTl N v 12 0 j = N 12 0 j := by
  unfold mTl
  simp only [wn_if, wn_k, h, ne_eq, Nat.reduceEqDiff, not_false_eq_true, reduceIte]
theorem nb_bg {S N : Nm} {b : Nat} (h : RBg S N b) (hb : b < 800) (v : Int32) : RBg (cNb S v) (mTl N v) (b + 1) := by
  obtain ⟨h1, h2, h3⟩ := h
  have e33 : mTl N v 12 0 33 = nI (b + 1) := by
    unfold mTl
    rw [wn_eq, h1, nI_1]
  have e31 : ∀ q, mTl N v 31 0 q = if q = b then v else N 31 0 q := by
    intro q
    unfold mTl
    rw [wn_k _ _ _ _ (by decide), wn_if, h1, nI_clamp (by omega)]
  by_cases hc : b < 20
  · have hm : min b 20 = b := by omega
    have hlt : S 5 0 10 < 20 := by rw [h2, hm]; exact nI_lt (a := b) (b := 20) hc (by decide)
    refine ⟨e33, ?_, fun q hq hq2 => ?_⟩
    · unfold cNb
      rw [if_pos hlt, wn_eq, h2, hm, nI_1]
      congr 1
      omega
    · unfold cNb
      rw [if_pos hlt, wn_k _ _ _ _ (by decide), wn_if, e31, h2, hm, nI_clamp (by omega)]
      by_cases hqb : q = b
      · rw [if_pos hqb, if_pos hqb]
      · rw [if_neg hqb, if_neg hqb]
        have : cNc S v 6 0 q = S 6 0 q := by
          unfold cNc
          split <;> rw [wn_k _ _ _ _ (by decide)]
        rw [this]
        exact h3 q (by omega) hq2
  · have hm : min b 20 = 20 := by omega
    have hlt : ¬ S 5 0 10 < 20 := by rw [h2, hm]; decide +kernel
    have hx : cNb S v = cNc S v := by unfold cNb; rw [if_neg hlt]
    refine ⟨e33, ?_, fun q hq hq2 => ?_⟩
    · rw [hx]
      have : cNc S v 5 0 10 = S 5 0 10 := by
        unfold cNc
        split <;> simp only [wn_if, Nat.reduceEqDiff, reduceIte]
      rw [this, h2, hm]
      congr 1
      omega
    · rw [hx, e31, if_neg (by omega)]
      have : cNc S v 6 0 q = S 6 0 q := by
        unfold cNc
        split <;> rw [wn_k _ _ _ _ (by decide)]
      rw [this]
      exact h3 q (by omega) hq2
section SendRel
variable {S N : Nm} {T L m t b j k : Nat} {u : Nat → Nat}
theorem mx_rel (h : Rl T S N L m t b u) (hb : b < 800) (hj : j < m) : Rl T (sMx S j) (nMx N j) L m t (b + 1) u := by
  obtain ⟨hC, hT1, hT2, hB, hS, hM⟩ := h
  have hm3 := hC.2.2.1
  refine ⟨?_, ?_, ?_, ?_, ?_, ?_, ?_⟩
  · simpa only [RCf, sMx, nMx, nb_k, tl_k, tl_12, cBg, mBg, wn_if, wn_k, ne_eq, Nat.reduceEqDiff, not_false_eq_true, reduceIte] using hC
  · obtain ⟨a1, a2, a3, a4, a5, a6, a7, a8⟩ := hT1
    simp only [RT1, sMx, nMx, nb_k, nb_5, nb_9, tl_k, tl_12, cBg, mBg, wn_if, wn_k, ne_eq, Nat.reduceEqDiff, not_false_eq_true, reduceIte]
    exact ⟨a1, a2, a3, a4, by rw [a5], a6, a7, a8⟩
  · simpa only [RT2, sMx, nMx, nb_k, nb_5, tl_k, tl_12, cBg, mBg, wn_if, wn_k, ne_eq, Nat.reduceEqDiff, not_false_eq_true, reduceIte] using hT2
  · apply nb_bg _ hb
    simpa only [RBg, cBg, mBg, wn_if, wn_k, ne_eq, Nat.reduceEqDiff, not_false_eq_true, reduceIte] using hB
  · simpa only [RLs, sMx, nMx, nb_k, tl_k, tl_12, cBg, mBg, wn_if, wn_k, ne_eq, Nat.reduceEqDiff, not_false_eq_true, reduceIte] using hS
  · intro q hq
    have e4 : sMx S j 4 q = cBg S j 1 (S 0 0 6) 4 q := by unfold sMx; rw [nb_k _ _ (by decide) (by decide)]
    have hx := hM.1 q hq
    by_cases hqj : q = j
    · subst hqj
      obtain ⟨a, a1, a2, ha⟩ := hC.2.2.2.2.2.2.2.2.2.2.2.2.2.2.2.2.2
      have h6 : S 0 0 6 = N 14 0 3 := hC.2.2.2.2.2.2.2.2.2.1
      rw [e4]
      simp only [RMt, nMx, tl_k, cBg, mBg, wn_if, wn_k, ne_eq, Nat.reduceEqDiff, not_false_eq_true, reduceIte]
      exact ⟨trivial, Or.inr (Or.inl ⟨Or.inl trivial, h6, trivial, trivial, a, a1, a2, ha⟩)⟩
    · rw [e4]
      simpa only [RMt, nMx, tl_k, cBg, mBg, wn_if, wn_k, wn_i, hqj, ne_eq, Nat.reduceEqDiff, not_false_eq_true, reduceIte] using hx
  · intro q hq1 hq2
    have := hM.2 q hq1 hq2
    have hqj : q ≠ j := by omega
    simpa only [nMx, tl_k, mBg, wn_if, wn_k, hqj, ne_eq, Nat.reduceEqDiff, not_false_eq_true, reduceIte] using this
theorem up_rel (h : Rl T S N L m t b u) (hb : b < 800) (hj : j < m) (hk : k < L) {z : Int32} (hz : z = 0 ∨ z = 1) : Rl T (sUp S j k z) (nUp N j k z) L m t (b + 1) u := by
  obtain ⟨hC, hT1, hT2, hB, hS, hM⟩ := h
  have hm3 := hC.2.2.1
  have hL4 := hC.1
  have hk9 : ¬ nI k = 9 := by
    have p : ∀ k, k < 4 → ¬ nI k = 9 := by decide +kernel
    exact p k (by omega)
  generalize hS1 : (if z = 0 then S else wrN S 0 0 8 (S 0 0 8 - S 0 0 4)) = S1
  have x8 : S1 0 0 8 = S 0 0 8 - (if z = 0 then 0 else S 0 0 4) := by
    rw [← hS1]
    split
    · exact (Int32.sub_zero _).symm
    · rw [wn_eq]
  have x0 : ∀ q, q ≠ 8 → S1 0 0 q = S 0 0 q := by
    intro q hq
    rw [← hS1]
    split
    · rfl
    · rw [wn_j _ _ _ _ hq]
  have xk : ∀ q, q ≠ 0 → S1 q = S q := by
    intro q hq
    rw [← hS1]
    split
    · rfl
    · rw [wn_k _ _ _ _ hq]
  have hsu : sUp S j k z = cNb (wrN (cCl S1 j (nI k) z (S 0 0 5)) 0 0 12 (nI k)) (nI k) := by unfold sUp; rw [hS1]
  rw [hsu]
  refine ⟨?_, ?_, ?_, ?_, ?_, ?_, ?_⟩
  · obtain ⟨c1, c2, c3, c4, c5, c6, c7, c8, c9, c10, c11, c12, c13, c14, c15, c16, c17, c18⟩ := hC
    simp only [RCf, nUp, nb_k, tl_k, tl_12, cCl, mBg, wn_if, wn_k, x8, x0, ne_eq, Nat.reduceEqDiff, not_false_eq_true, reduceIte]
    exact ⟨c1, c2, c3, c4, c5, c6, c7, c8, c9, c10, c11, by rw [c12, c8], c13, c14, c15, Or.inr ⟨k, hk, rfl, rfl⟩, c17, c18⟩
  · obtain ⟨a1, a2, a3, a4, a5, a6, a7, a8⟩ := hT1
    simp only [RT1, nUp, nb_k, nb_5, nb_n _ hk9, tl_k, tl_12, cCl, mBg, wn_if, wn_k, xk, x0, ne_eq, Nat.reduceEqDiff, not_false_eq_true, reduceIte]
    refine ⟨a1, a2, a3, by rw [a4], a5, a6, a7, a8.1, ?_⟩
    first | trivial | exact fun _ => rfl | exact fun _ => trivial
  · simpa only [RT2, nUp, nb_k, nb_5, tl_k, tl_12, cCl, mBg, wn_if, wn_k, xk, ne_eq, Nat.reduceEqDiff, not_false_eq_true, reduceIte] using hT2
  · apply nb_bg _ hb
    simpa only [RBg, cCl, mBg, wn_if, wn_k, xk, ne_eq, Nat.reduceEqDiff, not_false_eq_true, reduceIte] using hB
  · simpa only [RLs, nUp, nb_k, tl_k, tl_12, cCl, mBg, wn_if, wn_k, xk, ne_eq, Nat.reduceEqDiff, not_false_eq_true, reduceIte] using hS
  · intro q hq
    have hx := hM.1 q hq
    by_cases hqj : q = j
    · subst hqj
      obtain ⟨a, a1, a2, ha⟩ := hC.2.2.2.2.2.2.2.2.2.2.2.2.2.2.2.2.1
      have h5 : S 0 0 5 = N 14 0 2 := hC.2.2.2.2.2.2.2.2.1
      simp only [RMt, nUp, nb_k, tl_k, cCl, mBg, wn_if, wn_k, xk, ne_eq, Nat.reduceEqDiff, not_false_eq_true, reduceIte]
      exact ⟨trivial, Or.inr (Or.inr ⟨trivial, h5, trivial, trivial, hz, ⟨k, hk, rfl⟩, a, a1, a2, ha⟩)⟩
    · simpa only [RMt, nUp, nb_k, tl_k, cCl, mBg, wn_if, wn_k, wn_i, xk, hqj, ne_eq, Nat.reduceEqDiff, not_false_eq_true, reduceIte] using hx
  · intro q hq1 hq2
    have := hM.2 q hq1 hq2
    have hqj : q ≠ j := by omega
    simpa only [nUp, tl_k, mBg, wn_if, wn_k, hqj, ne_eq, Nat.reduceEqDiff, not_false_eq_true, reduceIte] using this
/-- a free mate, both sides -/
theorem send_both (h : Rl T S N L m t b u) (hb : b < 800) (ht : t < T) (hj : j < m) : ∃ (S' N' : Nm) (b' : Nat), b' ≤ b + 1 ∧ Rl T S' N' L m t b' u ∧ (FrN N N' ∧ N' 28 = N 28) ∧ (∀ (M : Mm) (g : Nat), call 21 [aR g 0 0, aR g 4 j, aI (oI (mSv N m 0 L none))] (va_up M g S) = some (none, va_up M g S')) ∧ (∀ M : Mm, call 119 [aR 4 12 0, aI (nI j)] (va_up M 4 N) = some (none, va_up M 4 N')) := by
  obtain ⟨hC, hT1, hT2, hB, hS, hM⟩ := id h
  have hm3 := hC.2.2.1
  have hlt := sv_lt (N := N) (m := m) L 0 none (by intro c h; cases h)
  have hn := send_n hC hT1 hB hb hS (show j < 3 by omega)
  obtain ⟨o, ho⟩ : ∃ o, mSv N m 0 L none = o := ⟨_, rfl⟩
  simp only [ho] at hn hlt ⊢
  have hc := send_c hC hT1 hB hS ht (show j < 3 by omega) o (fun k hk => by have := hlt k hk; omega)
  cases o with
  | none => exact ⟨S, N, b, by omega, h, ⟨FrN.rf N, rfl⟩, hc, hn⟩
  | some k =>
    have hk : k < L := by have := hlt k rfl; omega
    dsimp only at hc hn
    by_cases c1 : N 18 0 k < N 17 0 k
    · simp only [if_pos c1] at hc hn
      exact ⟨_, _, b + 1, Nat.le_refl _, up_rel h hb hj hk (Or.inl rfl), fr_up N j k 0, hc, hn⟩
    · simp only [if_neg c1] at hc hn
      by_cases c2 : N 14 0 5 < N 14 0 1
      · simp only [if_pos c2] at hc hn
        by_cases c3 : nI t < N 12 0 38
        · simp only [if_pos c3] at hc hn
          exact ⟨_, _, b + 1, Nat.le_refl _, mx_rel h hb hj, fr_mx N j, hc, hn⟩
        · simp only [if_neg c3] at hc hn
          exact ⟨S, N, b, by omega, h, ⟨FrN.rf N, rfl⟩, hc, hn⟩
      · simp only [if_neg c2] at hc hn
        exact ⟨_, _, b + 1, Nat.le_refl _, up_rel h hb hj hk (Or.inr rfl), fr_up N j k 1, hc, hn⟩
end SendRel
