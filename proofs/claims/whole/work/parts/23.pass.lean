section Pass
variable {S N : Nm} {T L m t b : Nat}
/-- a minute, both sides -/
theorem minute_both (h : Rl T S N L m t b (fun _ => t)) (ht : t < 240) (htT : t < T) (hb : b + 3 < 800) : ∃ (S' N' : Nm) (b' : Nat), b' ≤ b + 3 ∧ Rl T S' N' L m (t + 1) b' (fun _ => t + 1) ∧ FrN N N' ∧ (∀ (M : Mm) (g : Nat) (n : Int32) (z : AV), nI t < n → run 20 43 [aR g 0 0, aI n, z] [] (va_up M g S) = run 20 43 [aR g 0 0, aI n, aI (nI m)] [] (va_up M g S')) ∧ (∀ M : Mm, call 124 [aR 4 12 0] (va_up M 4 N) = some (none, va_up M 4 N')) := by
  have hm3 : m ≤ 3 := h.1.2.2.1
  obtain ⟨S1, N1, b1, hb1, h1, f1, s1, n1⟩ := free_loop (L := L) (t := t) (by omega) m 0 b S N (by omega) (by omega) h
  obtain ⟨S2, N2, h2, f2, s2, n2⟩ := lay_both h1 (by omega)
  obtain ⟨S3, N3, h3, f3, s3, n3⟩ := busy_loop (L := L) (t := t) (b := b1) m 0 S2 N2 (by omega) h2
  rw [nI_0] at s1 n1 s3 n3
  have hsum : mSum N1 = mSum N := by
    unfold mSum
    rw [f1.2]
  rw [hsum] at n2
  obtain ⟨hC, hT1, hT2, hB, hS, hM⟩ := h3
  obtain ⟨c1, c2, c3, c4, c5, c6, c7, c8, c9, c10, c11, c12, c13, c14, c15, c16, c17, c18⟩ := id hC
  obtain ⟨a1, a2, a3, a4, a5, a6, a7, a8⟩ := id hT1
  have p6 : S1 0 0 3 = nI m := h1.1.2.2.2.2.2.1
  have p7 : N1 14 0 0 = nI m := h1.1.2.2.2.2.2.2.1
  have q0 : S 5 0 0 = nI t := h.2.1.1
  have hF : (nI m < nI m) = False := eq_false (fun h => Int32.lt_irrefl h)
  refine ⟨wrN (wrN S3 0 0 10 (S3 0 0 10 + 1)) 5 0 0 (nI (t + 1)), wrN (wrN N3 12 0 11 (N3 12 0 11 + 1)) 12 0 39 (nI (t + 1)), b1, by omega, ⟨?_, ?_, ?_, ?_, ?_, ?_⟩, ((f1.1.tr f2).tr f3).wr12 11 _ (by decide) (by decide) (by decide) |>.wr12 39 _ (by decide) (by decide) (by decide), fun M g n z hn => ?_, fun M => ?_⟩
  · simp only [RCf, wn_if, wn_k, ne_eq, Nat.reduceEqDiff, not_false_eq_true, reduceIte]
    exact ⟨c1, c2, c3, c4, c5, c6, c7, c8, c9, c10, c11, c12, c13, by rw [c14], c15, c16, c17, c18⟩
  · simp only [RT1, wn_if, wn_k, ne_eq, Nat.reduceEqDiff, not_false_eq_true, reduceIte]
    exact ⟨trivial, trivial, a3, a4, a5, a6, a7, a8⟩
  · simpa only [RT2, wn_if, wn_k, ne_eq, Nat.reduceEqDiff, not_false_eq_true, reduceIte] using hT2
  · simpa only [RBg, wn_if, wn_k, ne_eq, Nat.reduceEqDiff, not_false_eq_true, reduceIte] using hB
  · simpa only [RLs, wn_if, wn_k, ne_eq, Nat.reduceEqDiff, not_false_eq_true, reduceIte] using hS
  · simpa only [RMs, wn_if, wn_k, ne_eq, Nat.reduceEqDiff, not_false_eq_true, reduceIte] using hM
  · have e1 := s1 M g (aI n)
    have e2 := s2 M g
    have e3 := s3 M g (aI n)
    rw [r20_43]
    simp only [r20_44, r20_47, r20_50, r20_51, r20_54, r20_55, up_same, q0, hn, reduceIte, e1]
    rw [r20_56]
    simp only [r20_57, r20_58, r20_61, r20_96, r20_97, r20_100, r20_101, up_same, p6, hF, reduceIte, e2, cbV_some, e3]
    rw [r20_102]
    simp only [r20_103, r20_104, r20_107, r20_138, r20_139, r20_140, r20_143, r20_144, r20_145, r20_148, r20_149, r20_152, r20_153, r20_156, r20_157, r20_158, r20_161, up_same, c6, hF, reduceIte, wr_up, wn_k, a1, nI_1, ne_eq, Nat.reduceEqDiff, not_false_eq_true]
  · have e1 := n1 M (aI (mSum N)) none
    obtain ⟨z1, e2⟩ := n2 M (aI (nI m)) none
    have e3 := n3 M (aI (mSum N)) z1
    simp only [c124, r124_0, r124_1, r124_4, r124_5, r124_6, m125, cbI_some, e1]
    rw [r124_7]
    simp only [r124_8, r124_9, r124_12, r124_13, r124_14, up_same, v7_0, tn0, p7, hF, reduceIte, e2, r124_119, r124_120, e3]
    rw [r124_121]
    simp only [r124_122, r124_123, r124_126, r124_127, r124_128, r124_173, r124_174, r124_175, r124_178, r124_179, r124_180, r124_183, r124_184, r124_185, r124_188, r124_189, r124_190, r124_193, up_same, v7_0, tn0, c7, hF, reduceIte, wr_up, wn_if, a2, nI_1, Nat.reduceEqDiff]
/-- minutes, both sides -/
theorem minutes_both {n : Nat} (hn : n ≤ 240) (hnT : n ≤ T) : ∀ (k t b : Nat) (S N : Nm), t + k = n → b ≤ 3 * t → Rl T S N L m t b (fun _ => t) → ∃ (S' N' : Nm) (b' : Nat), b' ≤ 3 * n ∧ Rl T S' N' L m n b' (fun _ => n) ∧ FrN N N' ∧ (∀ (M : Mm) (g : Nat) (z : AV), ∃ z', run 20 43 [aR g 0 0, aI (nI n), z] [] (va_up M g S) = run 20 43 [aR g 0 0, aI (nI n), z'] [] (va_up M g S')) ∧ (∀ M : Mm, run 127 6 [aR 4 12 0, aI (nI n), aI (nI t)] [] (va_up M 4 N) = run 127 6 [aR 4 12 0, aI (nI n), aI (nI n)] [] (va_up M 4 N')) := by
  intro k
  induction k with
  | zero =>
    intro t b S N hk hb h
    have : t = n := by omega
    subst this
    exact ⟨S, N, b, hb, h, FrN.rf N, fun M g z => ⟨z, rfl⟩, fun M => rfl⟩
  | succ k ih =>
    intro t b S N hk hb h
    obtain ⟨S1, N1, b1, hb1, h1, f1, s1, n1⟩ := minute_both h (by omega) (by omega) (by omega)
    obtain ⟨S2, N2, b2, hb2, h2, f2, s2, n2⟩ := ih (t + 1) b1 S1 N1 (by omega) (by omega) h1
    have hlt : nI t < nI n := nI_lt (by omega) (by omega)
    have hT : (nI t < nI n) = True := eq_true hlt
    refine ⟨S2, N2, b2, hb2, h2, f1.tr f2, fun M g z => ?_, fun M => ?_⟩
    · obtain ⟨z', e⟩ := s2 M g (aI (nI m))
      exact ⟨z', (s1 M g (nI n) z hlt).trans e⟩
    · rw [r127_6]
      simp only [r127_0, r127_1, r127_4, r127_5, r127_7, r127_8, r127_11, r127_12, r127_15, r127_18, r127_21, hT, n1, cbV_some, nI_1, n2, reduceIte]
end Pass
