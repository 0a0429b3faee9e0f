/-! a statement read by the reference -/
def VAL (t : Nat → Int32) (p : Nat) (w0 w1 w2 w3 : Int32) : Prop := (t p = 121 → w0 = lyO (t (p + 1)) ∧ ¬ lyO (t (p + 1)) < 0 ∧ w1 = numV t (p + 2) 1 0 ∧ w2 = numV t (p + 3) 2 0 ∧ w3 = numV t (p + 5) 3 0) ∧ (t p = 109 → w0 = numV t (p + 1) 1 0) ∧ (t p = 104 → w0 = numV t (p + 1) 2 0 ∧ w1 = numV t (p + 3) 1 0) ∧ (t p = 120 → w0 = numV t (p + 1) 2 0 ∧ w1 = numV t (p + 3) 3 0) ∧ (t p = 117 → w0 = numV t (p + 1) 3 0) ∧ (t p = 114 → w0 = ruO (t (p + 1)) ∧ ¬ ruO (t (p + 1)) < 0) ∧ (t p = 110 → w0 = numV t (p + 1) 2 0)
def Fr26 (k : Nat) (N N' : Nm) : Prop := (∀ q, q ≠ 12 → q ≠ 26 → N' q = N q) ∧ (∀ j, j ≠ 19 → N' 12 0 j = N 12 0 j) ∧ ∀ j, j < 4 * k → N' 26 0 j = N 26 0 j
theorem Fr26.rf (k : Nat) (N : Nm) : Fr26 k N N := ⟨fun _ _ _ => rfl, fun _ _ => rfl, fun _ _ => rfl⟩
theorem Fr26.wp {k : Nat} {N N' : Nm} (h : Fr26 k N N') (v : Int32) : Fr26 k N (wrN N' 12 0 19 v) := ⟨fun q a b => by rw [wn_k _ _ _ _ a]; exact h.1 q a b, fun j a => by rw [wn_j _ _ _ _ a]; exact h.2.1 j a, fun j a => by rw [wn_k _ _ _ _ (by decide)]; exact h.2.2 j a⟩
theorem Fr26.wt {k : Nat} {N N' : Nm} (h : Fr26 k N N') {j0 : Nat} (hj : 4 * k ≤ j0) (v : Int32) : Fr26 k N (wrN N' 26 0 j0 v) := ⟨fun q a b => by rw [wn_k _ _ _ _ b]; exact h.1 q a b, fun j a => by rw [wn_k _ _ _ _ (by decide)]; exact h.2.1 j a, fun j a => by rw [wn_j _ _ _ _ (by omega)]; exact h.2.2 j a⟩
theorem nI_3 (a : Nat) : nI a + 3 = nI (a + 3) := nI_add a 3
theorem kf4 {k : Nat} : (4 * k = 4 * k + 1) = False ∧ (4 * k = 4 * k + 2) = False ∧ (4 * k = 4 * k + 3) = False ∧ (4 * k + 1 = 4 * k) = False ∧ (4 * k + 1 = 4 * k + 2) = False ∧ (4 * k + 1 = 4 * k + 3) = False ∧ (4 * k + 2 = 4 * k) = False ∧ (4 * k + 2 = 4 * k + 1) = False ∧ (4 * k + 2 = 4 * k + 3) = False := ⟨eq_false (by omega), eq_false (by omega), eq_false (by omega), eq_false (by omega), eq_false (by omega), eq_false (by omega), eq_false (by omega), eq_false (by omega), eq_false (by omega)⟩
def RdA (r : Nat → Int32) (c p k : Nat) (N : Nm) (n e : Nat) : Prop := ∃ (N' : Nm) (v : Int32), (∀ X : Mm, call 94 [aR 4 12 0, aI (tx r c p), aI (nI (4 * k))] (va_up X 4 N) = some (some v, va_up X 4 N')) ∧ Fr26 k N N' ∧ N' 12 0 19 = nI (ff (tx r c) p (p + 1) n) ∧ ((v = 1 ∧ ff (tx r c) p (p + 1) n = p + e ∧ VAL (tx r c) p (N' 26 0 (4 * k)) (N' 26 0 (4 * k + 1)) (N' 26 0 (4 * k + 2)) (N' 26 0 (4 * k + 3))) ∨ (v = 0 ∧ ff (tx r c) p (p + 1) n < p + e))
section Reads
variable {r : Nat → Int32} {c p k : Nat} {N : Nm}
theorem fit1 {t : Nat → Int32} {p : Nat} (hb : byteO (t (p + 1))) : (t p = 121 → fit t p (p + 1) = decide (¬ lyO (t (p + 1)) < 0)) ∧ (t p = 114 → fit t p (p + 1) = decide (¬ ruO (t (p + 1)) < 0)) := by
  have y1 : ¬ (114 : Int32) = 121 := by decide +kernel
  unfold fit
  by_cases h0 : t (p + 1) < 0
  · rcases hb with h1 | ⟨z, hz, h1⟩
    · rw [h1]
      obtain ⟨a1, a2, -, a4, -⟩ := ly_m1
      rw [if_pos a4, a1, a2]
      exact ⟨fun _ => by decide +kernel, fun _ => by decide +kernel⟩
    · rw [h1] at h0
      exact absurd h0 (nI_pos (by omega))
  · rw [if_neg h0, if_pos rfl]
    exact ⟨fun h => by rw [if_pos h], fun h => by rw [h, if_neg y1, if_pos rfl]⟩
theorem rd_121 (hc : c ≤ 96) (hp : p < 100) (hk : k < 40) (hr : N 23 0 = r) (h18 : N 12 0 18 = nI c) (h19 : N 12 0 19 = nI (p + 1)) (hb : byteO (tx r c (p + 1))) (ht : tx r c p = 121) : RdA r c p k N 7 8 := by
  obtain ⟨f1, f2⟩ := fit1 (t := tx r c) (p := p) hb
  obtain ⟨x1, x2, x3, x4, x5, x6, x7, x8, x9⟩ := kf4 (k := k)
  have e0 := fun X : Mm => m89 X N hc hr h18 (show p + 1 < 1000 by omega) h19
  have e1 := fun X : Mm => m93 X N (w := 4 * k) (by omega) h19 (lyO (tx r c (p + 1)))
  simp only [Nat.add_assoc, Nat.reduceAdd] at e1
  have fe := f1 ht
  by_cases hl : lyO (tx r c (p + 1)) < 0
  · simp only [if_pos hl] at e1
    have hff : ff (tx r c) p (p + 1) 7 = p + 1 := by rw [ff, fe, decide_eq_false (fun z => z hl), if_neg (by decide)]
    refine ⟨N, 0, fun X => ?_, Fr26.rf k N, by rw [hff]; exact h19, Or.inr ⟨rfl, by omega⟩⟩
    simp only [c94, r94_0, r94_1, r94_88, r94_89, r94_90, r94_91, r94_94, r94_97, r94_100, r94_103, r94_104, r94_105, r94_106, r94_107, r94_108, r94_111, r94_114, r94_115, r94_116, r94_117, r94_118, r94_119, r94_122, r94_125, r94_126, r94_127, r94_128, r94_129, r94_130, r94_133, r94_136, r94_137, r94_140, r94_141, r94_142, r94_143, r94_144, r94_145, r94_148, r94_149, r94_150, r94_151, r94_152, r94_155, r94_158, r94_159, r94_160, r94_161, r94_162, r94_163, r94_166, r94_169, r94_170, r94_173, r94_174, r94_175, r94_176, r94_177, r94_178, r94_181, r94_184, r94_185, r94_186, r94_187, r94_188, r94_189, r94_192, r94_195, r94_196, r94_199, r94_200, r94_201, r94_202, r94_203, r94_204, r94_207, r94_208, r94_209, r94_210, r94_211, r94_214, r94_217, r94_220, r94_221, r94_222, r94_223, r94_224, r94_227, ht, y121_104, y121_109, y121_110, y121_114, y121_117, y121_120, e0, m91, e1, reduceIte, cbI_some, true_or, or_true]
  simp only [if_neg hl] at e1
  have hf1 : ff (tx r c) p (p + 1) 7 = df (tx r c) (p + 2) 6 := by rw [ff, fe, decide_eq_true hl, if_pos rfl, ff_df _ _ _ (Or.inl (by omega))]
  have a1 := fun X : Mm => m90 X (wrN (wrN N 26 0 (4 * k) (lyO (tx r c (p + 1)))) 12 0 19 (nI (p + 2))) (r := r) (w := 4 * k + 1) (p := p + 2) (d := 1) hc (by omega) (by omega) (by decide) (by first | exact hr | (simp only [wn_k, ne_eq, Nat.reduceEqDiff, not_false_eq_true]; exact hr)) (by first | exact h18 | (simp only [wn_if, wn_k, ne_eq, Nat.reduceEqDiff, not_false_eq_true, reduceIte]; exact h18)) (by first | exact h19 | simp only [wn_if, wn_k, ne_eq, Nat.reduceEqDiff, not_false_eq_true, reduceIte])
  have s1 : df (tx r c) (p + 2) 6 = if df (tx r c) (p + 2) 1 = p + 2 + 1 then df (tx r c) (p + 2 + 1) 5 else df (tx r c) (p + 2) 1 := df_split _ 1 5 _
  have u1 := df_ge (tx r c) 1 (p + 2)
  simp only [Nat.add_assoc, Nat.reduceAdd, n_1] at a1
  simp only [Nat.add_assoc, Nat.reduceAdd] at s1
  by_cases g1 : df (tx r c) (p + 2) 1 = p + 3
  · simp only [if_pos g1] at a1
    rw [if_pos g1] at s1
    have hf3 : ff (tx r c) p (p + 1) 7 = df (tx r c) (p + 3) 5 := hf1.trans s1
    have a2 := fun X : Mm => m90 X (wrN (wrN (wrN (wrN N 26 0 (4 * k) (lyO (tx r c (p + 1)))) 12 0 19 (nI (p + 2))) 12 0 19 (nI (p + 3))) 26 0 (4 * k + 1) (numV (tx r c) (p + 2) 1 0)) (r := r) (w := 4 * k + 2) (p := p + 3) (d := 2) hc (by omega) (by omega) (by decide) (by first | exact hr | (simp only [wn_k, ne_eq, Nat.reduceEqDiff, not_false_eq_true]; exact hr)) (by first | exact h18 | (simp only [wn_if, wn_k, ne_eq, Nat.reduceEqDiff, not_false_eq_true, reduceIte]; exact h18)) (by first | exact h19 | simp only [wn_if, wn_k, ne_eq, Nat.reduceEqDiff, not_false_eq_true, reduceIte])
    have s2 : df (tx r c) (p + 3) 5 = if df (tx r c) (p + 3) 2 = p + 3 + 2 then df (tx r c) (p + 3 + 2) 3 else df (tx r c) (p + 3) 2 := df_split _ 2 3 _
    have u2 := df_ge (tx r c) 2 (p + 3)
    simp only [Nat.add_assoc, Nat.reduceAdd, v_2] at a2
    simp only [Nat.add_assoc, Nat.reduceAdd] at s2
    by_cases g2 : df (tx r c) (p + 3) 2 = p + 5
    · simp only [if_pos g2] at a2
      rw [if_pos g2] at s2
      have hf4 : ff (tx r c) p (p + 1) 7 = df (tx r c) (p + 5) 3 := hf3.trans s2
      have a3 := fun X : Mm => m90 X (wrN (wrN (wrN (wrN (wrN (wrN N 26 0 (4 * k) (lyO (tx r c (p + 1)))) 12 0 19 (nI (p + 2))) 12 0 19 (nI (p + 3))) 26 0 (4 * k + 1) (numV (tx r c) (p + 2) 1 0)) 12 0 19 (nI (p + 5))) 26 0 (4 * k + 2) (numV (tx r c) (p + 3) 2 0)) (r := r) (w := 4 * k + 3) (p := p + 5) (d := 3) hc (by omega) (by omega) (by decide) (by first | exact hr | (simp only [wn_k, ne_eq, Nat.reduceEqDiff, not_false_eq_true]; exact hr)) (by first | exact h18 | (simp only [wn_if, wn_k, ne_eq, Nat.reduceEqDiff, not_false_eq_true, reduceIte]; exact h18)) (by first | exact h19 | simp only [wn_if, wn_k, ne_eq, Nat.reduceEqDiff, not_false_eq_true, reduceIte])
      have u3 := df_ge (tx r c) 3 (p + 5)
      simp only [Nat.add_assoc, Nat.reduceAdd, v_3] at a3
      by_cases g3 : df (tx r c) (p + 5) 3 = p + 8
      · simp only [if_pos g3] at a3
        have hff : ff (tx r c) p (p + 1) 7 = p + 8 := hf4.trans g3
        refine ⟨(wrN (wrN (wrN (wrN (wrN (wrN (wrN (wrN N 26 0 (4 * k) (lyO (tx r c (p + 1)))) 12 0 19 (nI (p + 2))) 12 0 19 (nI (p + 3))) 26 0 (4 * k + 1) (numV (tx r c) (p + 2) 1 0)) 12 0 19 (nI (p + 5))) 26 0 (4 * k + 2) (numV (tx r c) (p + 3) 2 0)) 12 0 19 (nI (p + 8))) 26 0 (4 * k + 3) (numV (tx r c) (p + 5) 3 0)), 1, fun X => ?_, ((((((((Fr26.rf k N).wt (Nat.le_refl _) _).wp _).wp _).wt (by omega) _).wp _).wt (by omega) _).wp _).wt (by omega) _, ?_, Or.inl ⟨rfl, ?_, ?_⟩⟩
        · simp only [c94, r94_0, r94_1, r94_88, r94_89, r94_90, r94_91, r94_94, r94_97, r94_100, r94_103, r94_104, r94_105, r94_106, r94_107, r94_108, r94_111, r94_114, r94_115, r94_116, r94_117, r94_118, r94_119, r94_122, r94_125, r94_126, r94_127, r94_128, r94_129, r94_130, r94_133, r94_136, r94_137, r94_140, r94_141, r94_142, r94_143, r94_144, r94_145, r94_148, r94_149, r94_150, r94_151, r94_152, r94_155, r94_158, r94_159, r94_160, r94_161, r94_162, r94_163, r94_166, r94_169, r94_170, r94_173, r94_174, r94_175, r94_176, r94_177, r94_178, r94_181, r94_184, r94_185, r94_186, r94_187, r94_188, r94_189, r94_192, r94_195, r94_196, r94_199, r94_200, r94_201, r94_202, r94_203, r94_204, r94_207, r94_208, r94_209, r94_210, r94_211, r94_214, r94_217, r94_220, r94_221, r94_222, r94_223, r94_224, r94_227, ht, y121_104, y121_109, y121_110, y121_114, y121_117, y121_120, n_1, v_2, v_3, nI_1, nI_2, nI_3, q10, reduceIte, cbI_some, true_or, or_true, e0, m91, e1, a1, a2, a3]
        · rw [hff]
          simp only [wn_if, wn_k, ne_eq, Nat.reduceEqDiff, not_false_eq_true, reduceIte]
        · exact hff
        · refine ⟨fun _ => ?_, fun z => absurd (ht.symm.trans z) (by decide +kernel), fun z => absurd (ht.symm.trans z) (by decide +kernel), fun z => absurd (ht.symm.trans z) (by decide +kernel), fun z => absurd (ht.symm.trans z) (by decide +kernel), fun z => absurd (ht.symm.trans z) (by decide +kernel), fun z => absurd (ht.symm.trans z) (by decide +kernel)⟩
          simp only [wn_if, wn_k, ne_eq, Nat.reduceEqDiff, not_false_eq_true, reduceIte, x1, x2, x3, x4, x5, x6, x7, x8, x9]
          exact ⟨trivial, hl, trivial, trivial, trivial⟩
      · simp only [if_neg g3] at a3
        have hff : ff (tx r c) p (p + 1) 7 = df (tx r c) (p + 5) 3 := hf4
        refine ⟨wrN (wrN (wrN (wrN (wrN (wrN (wrN N 26 0 (4 * k) (lyO (tx r c (p + 1)))) 12 0 19 (nI (p + 2))) 12 0 19 (nI (p + 3))) 26 0 (4 * k + 1) (numV (tx r c) (p + 2) 1 0)) 12 0 19 (nI (p + 5))) 26 0 (4 * k + 2) (numV (tx r c) (p + 3) 2 0)) 12 0 19 (nI (df (tx r c) (p + 5) 3)), 0, fun X => ?_, (((((((Fr26.rf k N).wt (Nat.le_refl _) _).wp _).wp _).wt (by omega) _).wp _).wt (by omega) _).wp _, by rw [hff, wn_eq], Or.inr ⟨rfl, by omega⟩⟩
        simp only [c94, r94_0, r94_1, r94_88, r94_89, r94_90, r94_91, r94_94, r94_97, r94_100, r94_103, r94_104, r94_105, r94_106, r94_107, r94_108, r94_111, r94_114, r94_115, r94_116, r94_117, r94_118, r94_119, r94_122, r94_125, r94_126, r94_127, r94_128, r94_129, r94_130, r94_133, r94_136, r94_137, r94_140, r94_141, r94_142, r94_143, r94_144, r94_145, r94_148, r94_149, r94_150, r94_151, r94_152, r94_155, r94_158, r94_159, r94_160, r94_161, r94_162, r94_163, r94_166, r94_169, r94_170, r94_173, r94_174, r94_175, r94_176, r94_177, r94_178, r94_181, r94_184, r94_185, r94_186, r94_187, r94_188, r94_189, r94_192, r94_195, r94_196, r94_199, r94_200, r94_201, r94_202, r94_203, r94_204, r94_207, r94_208, r94_209, r94_210, r94_211, r94_214, r94_217, r94_220, r94_221, r94_222, r94_223, r94_224, r94_227, ht, y121_104, y121_109, y121_110, y121_114, y121_117, y121_120, n_1, v_2, v_3, nI_1, nI_2, nI_3, q10, reduceIte, cbI_some, true_or, or_true, e0, m91, e1, a1, a2, a3]
    · simp only [if_neg g2] at a2
      rw [if_neg g2] at s2
      have hff : ff (tx r c) p (p + 1) 7 = df (tx r c) (p + 3) 2 := hf3.trans s2
      refine ⟨wrN (wrN (wrN (wrN (wrN N 26 0 (4 * k) (lyO (tx r c (p + 1)))) 12 0 19 (nI (p + 2))) 12 0 19 (nI (p + 3))) 26 0 (4 * k + 1) (numV (tx r c) (p + 2) 1 0)) 12 0 19 (nI (df (tx r c) (p + 3) 2)), 0, fun X => ?_, (((((Fr26.rf k N).wt (Nat.le_refl _) _).wp _).wp _).wt (by omega) _).wp _, by rw [hff, wn_eq], Or.inr ⟨rfl, by omega⟩⟩
      simp only [c94, r94_0, r94_1, r94_88, r94_89, r94_90, r94_91, r94_94, r94_97, r94_100, r94_103, r94_104, r94_105, r94_106, r94_107, r94_108, r94_111, r94_114, r94_115, r94_116, r94_117, r94_118, r94_119, r94_122, r94_125, r94_126, r94_127, r94_128, r94_129, r94_130, r94_133, r94_136, r94_137, r94_140, r94_141, r94_142, r94_143, r94_144, r94_145, r94_148, r94_149, r94_150, r94_151, r94_152, r94_155, r94_158, r94_159, r94_160, r94_161, r94_162, r94_163, r94_166, r94_169, r94_170, r94_173, r94_174, r94_175, r94_176, r94_177, r94_178, r94_181, r94_184, r94_185, r94_186, r94_187, r94_188, r94_189, r94_192, r94_195, r94_196, r94_199, r94_200, r94_201, r94_202, r94_203, r94_204, r94_207, r94_208, r94_209, r94_210, r94_211, r94_214, r94_217, r94_220, r94_221, r94_222, r94_223, r94_224, r94_227, ht, y121_104, y121_109, y121_110, y121_114, y121_117, y121_120, n_1, v_2, v_3, nI_1, nI_2, nI_3, q10, reduceIte, cbI_some, true_or, or_true, e0, m91, e1, a1, a2]
  · simp only [if_neg g1] at a1
    rw [if_neg g1] at s1
    have hff : ff (tx r c) p (p + 1) 7 = df (tx r c) (p + 2) 1 := hf1.trans s1
    refine ⟨wrN (wrN (wrN N 26 0 (4 * k) (lyO (tx r c (p + 1)))) 12 0 19 (nI (p + 2))) 12 0 19 (nI (df (tx r c) (p + 2) 1)), 0, fun X => ?_, (((Fr26.rf k N).wt (Nat.le_refl _) _).wp _).wp _, by rw [hff, wn_eq], Or.inr ⟨rfl, by omega⟩⟩
    simp only [c94, r94_0, r94_1, r94_88, r94_89, r94_90, r94_91, r94_94, r94_97, r94_100, r94_103, r94_104, r94_105, r94_106, r94_107, r94_108, r94_111, r94_114, r94_115, r94_116, r94_117, r94_118, r94_119, r94_122, r94_125, r94_126, r94_127, r94_128, r94_129, r94_130, r94_133, r94_136, r94_137, r94_140, r94_141, r94_142, r94_143, r94_144, r94_145, r94_148, r94_149, r94_150, r94_151, r94_152, r94_155, r94_158, r94_159, r94_160, r94_161, r94_162, r94_163, r94_166, r94_169, r94_170, r94_173, r94_174, r94_175, r94_176, r94_177, r94_178, r94_181, r94_184, r94_185, r94_186, r94_187, r94_188, r94_189, r94_192, r94_195, r94_196, r94_199, r94_200, r94_201, r94_202, r94_203, r94_204, r94_207, r94_208, r94_209, r94_210, r94_211, r94_214, r94_217, r94_220, r94_221, r94_222, r94_223, r94_224, r94_227, ht, y121_104, y121_109, y121_110, y121_114, y121_117, y121_120, n_1, v_2, v_3, nI_1, nI_2, nI_3, q10, reduceIte, cbI_some, true_or, or_true, e0, m91, e1, a1]
theorem rd_109 (hc : c ≤ 96) (hp : p < 100) (hk : k < 40) (hr : N 23 0 = r) (h18 : N 12 0 18 = nI c) (h19 : N 12 0 19 = nI (p + 1)) (hb : byteO (tx r c (p + 1))) (ht : tx r c p = 109) : RdA r c p k N 1 2 := by
  obtain ⟨f1, f2⟩ := fit1 (t := tx r c) (p := p) hb
  obtain ⟨x1, x2, x3, x4, x5, x6, x7, x8, x9⟩ := kf4 (k := k)
  have hf1 : ff (tx r c) p (p + 1) 1 = df (tx r c) (p + 1) 1 := ff_df _ _ _ (Or.inr ⟨fun z => absurd (ht.symm.trans z) (by decide +kernel), fun z => absurd (ht.symm.trans z) (by decide +kernel)⟩)
  have a0 := fun X : Mm => m90 X N (r := r) (w := 4 * k) (p := p + 1) (d := 1) hc (by omega) (by omega) (by decide) (by first | exact hr | (simp only [wn_k, ne_eq, Nat.reduceEqDiff, not_false_eq_true]; exact hr)) (by first | exact h18 | (simp only [wn_if, wn_k, ne_eq, Nat.reduceEqDiff, not_false_eq_true, reduceIte]; exact h18)) (by first | exact h19 | simp only [wn_if, wn_k, ne_eq, Nat.reduceEqDiff, not_false_eq_true, reduceIte])
  have u0 := df_ge (tx r c) 1 (p + 1)
  simp only [Nat.add_assoc, Nat.reduceAdd, n_1] at a0
  by_cases g0 : df (tx r c) (p + 1) 1 = p + 2
  · simp only [if_pos g0] at a0
    have hff : ff (tx r c) p (p + 1) 1 = p + 2 := hf1.trans g0
    refine ⟨(wrN (wrN N 12 0 19 (nI (p + 2))) 26 0 (4 * k) (numV (tx r c) (p + 1) 1 0)), 1, fun X => ?_, ((Fr26.rf k N).wp _).wt (by omega) _, ?_, Or.inl ⟨rfl, ?_, ?_⟩⟩
    · simp only [c94, r94_0, r94_1, r94_88, r94_89, r94_90, r94_91, r94_94, r94_97, r94_100, r94_103, r94_104, r94_105, r94_106, r94_107, r94_108, r94_111, r94_114, r94_115, r94_116, r94_117, r94_118, r94_119, r94_122, r94_125, r94_126, r94_127, r94_128, r94_129, r94_130, r94_133, r94_136, r94_137, r94_140, r94_141, r94_142, r94_143, r94_144, r94_145, r94_148, r94_149, r94_150, r94_151, r94_152, r94_155, r94_158, r94_159, r94_160, r94_161, r94_162, r94_163, r94_166, r94_169, r94_170, r94_173, r94_174, r94_175, r94_176, r94_177, r94_178, r94_181, r94_184, r94_185, r94_186, r94_187, r94_188, r94_189, r94_192, r94_195, r94_196, r94_199, r94_200, r94_201, r94_202, r94_203, r94_204, r94_207, r94_208, r94_209, r94_210, r94_211, r94_214, r94_217, r94_220, r94_221, r94_222, r94_223, r94_224, r94_227, ht, y109_104, y109_110, y109_114, y109_117, y109_120, y109_121, n_1, v_2, v_3, nI_1, nI_2, nI_3, q10, reduceIte, cbI_some, true_or, or_true, a0]
    · rw [hff]
      simp only [wn_if, wn_k, ne_eq, Nat.reduceEqDiff, not_false_eq_true, reduceIte]
    · exact hff
    · refine ⟨fun z => absurd (ht.symm.trans z) (by decide +kernel), fun _ => ?_, fun z => absurd (ht.symm.trans z) (by decide +kernel), fun z => absurd (ht.symm.trans z) (by decide +kernel), fun z => absurd (ht.symm.trans z) (by decide +kernel), fun z => absurd (ht.symm.trans z) (by decide +kernel), fun z => absurd (ht.symm.trans z) (by decide +kernel)⟩
      simp only [wn_if, wn_k, ne_eq, Nat.reduceEqDiff, not_false_eq_true, reduceIte, x1, x2, x3, x4, x5, x6, x7, x8, x9]
  · simp only [if_neg g0] at a0
    have hff : ff (tx r c) p (p + 1) 1 = df (tx r c) (p + 1) 1 := hf1
    refine ⟨wrN N 12 0 19 (nI (df (tx r c) (p + 1) 1)), 0, fun X => ?_, (Fr26.rf k N).wp _, by rw [hff, wn_eq], Or.inr ⟨rfl, by omega⟩⟩
    simp only [c94, r94_0, r94_1, r94_88, r94_89, r94_90, r94_91, r94_94, r94_97, r94_100, r94_103, r94_104, r94_105, r94_106, r94_107, r94_108, r94_111, r94_114, r94_115, r94_116, r94_117, r94_118, r94_119, r94_122, r94_125, r94_126, r94_127, r94_128, r94_129, r94_130, r94_133, r94_136, r94_137, r94_140, r94_141, r94_142, r94_143, r94_144, r94_145, r94_148, r94_149, r94_150, r94_151, r94_152, r94_155, r94_158, r94_159, r94_160, r94_161, r94_162, r94_163, r94_166, r94_169, r94_170, r94_173, r94_174, r94_175, r94_176, r94_177, r94_178, r94_181, r94_184, r94_185, r94_186, r94_187, r94_188, r94_189, r94_192, r94_195, r94_196, r94_199, r94_200, r94_201, r94_202, r94_203, r94_204, r94_207, r94_208, r94_209, r94_210, r94_211, r94_214, r94_217, r94_220, r94_221, r94_222, r94_223, r94_224, r94_227, ht, y109_104, y109_110, y109_114, y109_117, y109_120, y109_121, n_1, v_2, v_3, nI_1, nI_2, nI_3, q10, reduceIte, cbI_some, true_or, or_true, a0]
theorem rd_104 (hc : c ≤ 96) (hp : p < 100) (hk : k < 40) (hr : N 23 0 = r) (h18 : N 12 0 18 = nI c) (h19 : N 12 0 19 = nI (p + 1)) (hb : byteO (tx r c (p + 1))) (ht : tx r c p = 104) : RdA r c p k N 3 4 := by
  obtain ⟨f1, f2⟩ := fit1 (t := tx r c) (p := p) hb
  obtain ⟨x1, x2, x3, x4, x5, x6, x7, x8, x9⟩ := kf4 (k := k)
  have hf1 : ff (tx r c) p (p + 1) 3 = df (tx r c) (p + 1) 3 := ff_df _ _ _ (Or.inr ⟨fun z => absurd (ht.symm.trans z) (by decide +kernel), fun z => absurd (ht.symm.trans z) (by decide +kernel)⟩)
  have a0 := fun X : Mm => m90 X N (r := r) (w := 4 * k) (p := p + 1) (d := 2) hc (by omega) (by omega) (by decide) (by first | exact hr | (simp only [wn_k, ne_eq, Nat.reduceEqDiff, not_false_eq_true]; exact hr)) (by first | exact h18 | (simp only [wn_if, wn_k, ne_eq, Nat.reduceEqDiff, not_false_eq_true, reduceIte]; exact h18)) (by first | exact h19 | simp only [wn_if, wn_k, ne_eq, Nat.reduceEqDiff, not_false_eq_true, reduceIte])
  have s0 : df (tx r c) (p + 1) 3 = if df (tx r c) (p + 1) 2 = p + 1 + 2 then df (tx r c) (p + 1 + 2) 1 else df (tx r c) (p + 1) 2 := df_split _ 2 1 _
  have u0 := df_ge (tx r c) 2 (p + 1)
  simp only [Nat.add_assoc, Nat.reduceAdd, v_2] at a0
  simp only [Nat.add_assoc, Nat.reduceAdd] at s0
  by_cases g0 : df (tx r c) (p + 1) 2 = p + 3
  · simp only [if_pos g0] at a0
    rw [if_pos g0] at s0
    have hf2 : ff (tx r c) p (p + 1) 3 = df (tx r c) (p + 3) 1 := hf1.trans s0
    have a1 := fun X : Mm => m90 X (wrN (wrN N 12 0 19 (nI (p + 3))) 26 0 (4 * k) (numV (tx r c) (p + 1) 2 0)) (r := r) (w := 4 * k + 1) (p := p + 3) (d := 1) hc (by omega) (by omega) (by decide) (by first | exact hr | (simp only [wn_k, ne_eq, Nat.reduceEqDiff, not_false_eq_true]; exact hr)) (by first | exact h18 | (simp only [wn_if, wn_k, ne_eq, Nat.reduceEqDiff, not_false_eq_true, reduceIte]; exact h18)) (by first | exact h19 | simp only [wn_if, wn_k, ne_eq, Nat.reduceEqDiff, not_false_eq_true, reduceIte])
    have u1 := df_ge (tx r c) 1 (p + 3)
    simp only [Nat.add_assoc, Nat.reduceAdd, n_1] at a1
    by_cases g1 : df (tx r c) (p + 3) 1 = p + 4
    · simp only [if_pos g1] at a1
      have hff : ff (tx r c) p (p + 1) 3 = p + 4 := hf2.trans g1
      refine ⟨(wrN (wrN (wrN (wrN N 12 0 19 (nI (p + 3))) 26 0 (4 * k) (numV (tx r c) (p + 1) 2 0)) 12 0 19 (nI (p + 4))) 26 0 (4 * k + 1) (numV (tx r c) (p + 3) 1 0)), 1, fun X => ?_, ((((Fr26.rf k N).wp _).wt (by omega) _).wp _).wt (by omega) _, ?_, Or.inl ⟨rfl, ?_, ?_⟩⟩
      · simp only [c94, r94_0, r94_1, r94_88, r94_89, r94_90, r94_91, r94_94, r94_97, r94_100, r94_103, r94_104, r94_105, r94_106, r94_107, r94_108, r94_111, r94_114, r94_115, r94_116, r94_117, r94_118, r94_119, r94_122, r94_125, r94_126, r94_127, r94_128, r94_129, r94_130, r94_133, r94_136, r94_137, r94_140, r94_141, r94_142, r94_143, r94_144, r94_145, r94_148, r94_149, r94_150, r94_151, r94_152, r94_155, r94_158, r94_159, r94_160, r94_161, r94_162, r94_163, r94_166, r94_169, r94_170, r94_173, r94_174, r94_175, r94_176, r94_177, r94_178, r94_181, r94_184, r94_185, r94_186, r94_187, r94_188, r94_189, r94_192, r94_195, r94_196, r94_199, r94_200, r94_201, r94_202, r94_203, r94_204, r94_207, r94_208, r94_209, r94_210, r94_211, r94_214, r94_217, r94_220, r94_221, r94_222, r94_223, r94_224, r94_227, ht, y104_109, y104_110, y104_114, y104_117, y104_120, y104_121, n_1, v_2, v_3, nI_1, nI_2, nI_3, q10, reduceIte, cbI_some, true_or, or_true, a0, a1]
      · rw [hff]
        simp only [wn_if, wn_k, ne_eq, Nat.reduceEqDiff, not_false_eq_true, reduceIte]
      · exact hff
      · refine ⟨fun z => absurd (ht.symm.trans z) (by decide +kernel), fun z => absurd (ht.symm.trans z) (by decide +kernel), fun _ => ?_, fun z => absurd (ht.symm.trans z) (by decide +kernel), fun z => absurd (ht.symm.trans z) (by decide +kernel), fun z => absurd (ht.symm.trans z) (by decide +kernel), fun z => absurd (ht.symm.trans z) (by decide +kernel)⟩
        simp only [wn_if, wn_k, ne_eq, Nat.reduceEqDiff, not_false_eq_true, reduceIte, x1, x2, x3, x4, x5, x6, x7, x8, x9]
        exact ⟨trivial, trivial⟩
    · simp only [if_neg g1] at a1
      have hff : ff (tx r c) p (p + 1) 3 = df (tx r c) (p + 3) 1 := hf2
      refine ⟨wrN (wrN (wrN N 12 0 19 (nI (p + 3))) 26 0 (4 * k) (numV (tx r c) (p + 1) 2 0)) 12 0 19 (nI (df (tx r c) (p + 3) 1)), 0, fun X => ?_, (((Fr26.rf k N).wp _).wt (by omega) _).wp _, by rw [hff, wn_eq], Or.inr ⟨rfl, by omega⟩⟩
      simp only [c94, r94_0, r94_1, r94_88, r94_89, r94_90, r94_91, r94_94, r94_97, r94_100, r94_103, r94_104, r94_105, r94_106, r94_107, r94_108, r94_111, r94_114, r94_115, r94_116, r94_117, r94_118, r94_119, r94_122, r94_125, r94_126, r94_127, r94_128, r94_129, r94_130, r94_133, r94_136, r94_137, r94_140, r94_141, r94_142, r94_143, r94_144, r94_145, r94_148, r94_149, r94_150, r94_151, r94_152, r94_155, r94_158, r94_159, r94_160, r94_161, r94_162, r94_163, r94_166, r94_169, r94_170, r94_173, r94_174, r94_175, r94_176, r94_177, r94_178, r94_181, r94_184, r94_185, r94_186, r94_187, r94_188, r94_189, r94_192, r94_195, r94_196, r94_199, r94_200, r94_201, r94_202, r94_203, r94_204, r94_207, r94_208, r94_209, r94_210, r94_211, r94_214, r94_217, r94_220, r94_221, r94_222, r94_223, r94_224, r94_227, ht, y104_109, y104_110, y104_114, y104_117, y104_120, y104_121, n_1, v_2, v_3, nI_1, nI_2, nI_3, q10, reduceIte, cbI_some, true_or, or_true, a0, a1]
  · simp only [if_neg g0] at a0
    rw [if_neg g0] at s0
    have hff : ff (tx r c) p (p + 1) 3 = df (tx r c) (p + 1) 2 := hf1.trans s0
    refine ⟨wrN N 12 0 19 (nI (df (tx r c) (p + 1) 2)), 0, fun X => ?_, (Fr26.rf k N).wp _, by rw [hff, wn_eq], Or.inr ⟨rfl, by omega⟩⟩
    simp only [c94, r94_0, r94_1, r94_88, r94_89, r94_90, r94_91, r94_94, r94_97, r94_100, r94_103, r94_104, r94_105, r94_106, r94_107, r94_108, r94_111, r94_114, r94_115, r94_116, r94_117, r94_118, r94_119, r94_122, r94_125, r94_126, r94_127, r94_128, r94_129, r94_130, r94_133, r94_136, r94_137, r94_140, r94_141, r94_142, r94_143, r94_144, r94_145, r94_148, r94_149, r94_150, r94_151, r94_152, r94_155, r94_158, r94_159, r94_160, r94_161, r94_162, r94_163, r94_166, r94_169, r94_170, r94_173, r94_174, r94_175, r94_176, r94_177, r94_178, r94_181, r94_184, r94_185, r94_186, r94_187, r94_188, r94_189, r94_192, r94_195, r94_196, r94_199, r94_200, r94_201, r94_202, r94_203, r94_204, r94_207, r94_208, r94_209, r94_210, r94_211, r94_214, r94_217, r94_220, r94_221, r94_222, r94_223, r94_224, r94_227, ht, y104_109, y104_110, y104_114, y104_117, y104_120, y104_121, n_1, v_2, v_3, nI_1, nI_2, nI_3, q10, reduceIte, cbI_some, true_or, or_true, a0]
theorem rd_120 (hc : c ≤ 96) (hp : p < 100) (hk : k < 40) (hr : N 23 0 = r) (h18 : N 12 0 18 = nI c) (h19 : N 12 0 19 = nI (p + 1)) (hb : byteO (tx r c (p + 1))) (ht : tx r c p = 120) : RdA r c p k N 5 6 := by
  obtain ⟨f1, f2⟩ := fit1 (t := tx r c) (p := p) hb
  obtain ⟨x1, x2, x3, x4, x5, x6, x7, x8, x9⟩ := kf4 (k := k)
  have hf1 : ff (tx r c) p (p + 1) 5 = df (tx r c) (p + 1) 5 := ff_df _ _ _ (Or.inr ⟨fun z => absurd (ht.symm.trans z) (by decide +kernel), fun z => absurd (ht.symm.trans z) (by decide +kernel)⟩)
  have a0 := fun X : Mm => m90 X N (r := r) (w := 4 * k) (p := p + 1) (d := 2) hc (by omega) (by omega) (by decide) (by first | exact hr | (simp only [wn_k, ne_eq, Nat.reduceEqDiff, not_false_eq_true]; exact hr)) (by first | exact h18 | (simp only [wn_if, wn_k, ne_eq, Nat.reduceEqDiff, not_false_eq_true, reduceIte]; exact h18)) (by first | exact h19 | simp only [wn_if, wn_k, ne_eq, Nat.reduceEqDiff, not_false_eq_true, reduceIte])
  have s0 : df (tx r c) (p + 1) 5 = if df (tx r c) (p + 1) 2 = p + 1 + 2 then df (tx r c) (p + 1 + 2) 3 else df (tx r c) (p + 1) 2 := df_split _ 2 3 _
  have u0 := df_ge (tx r c) 2 (p + 1)
  simp only [Nat.add_assoc, Nat.reduceAdd, v_2] at a0
  simp only [Nat.add_assoc, Nat.reduceAdd] at s0
  by_cases g0 : df (tx r c) (p + 1) 2 = p + 3
  · simp only [if_pos g0] at a0
    rw [if_pos g0] at s0
    have hf2 : ff (tx r c) p (p + 1) 5 = df (tx r c) (p + 3) 3 := hf1.trans s0
    have a1 := fun X : Mm => m90 X (wrN (wrN N 12 0 19 (nI (p + 3))) 26 0 (4 * k) (numV (tx r c) (p + 1) 2 0)) (r := r) (w := 4 * k + 1) (p := p + 3) (d := 3) hc (by omega) (by omega) (by decide) (by first | exact hr | (simp only [wn_k, ne_eq, Nat.reduceEqDiff, not_false_eq_true]; exact hr)) (by first | exact h18 | (simp only [wn_if, wn_k, ne_eq, Nat.reduceEqDiff, not_false_eq_true, reduceIte]; exact h18)) (by first | exact h19 | simp only [wn_if, wn_k, ne_eq, Nat.reduceEqDiff, not_false_eq_true, reduceIte])
    have u1 := df_ge (tx r c) 3 (p + 3)
    simp only [Nat.add_assoc, Nat.reduceAdd, v_3] at a1
    by_cases g1 : df (tx r c) (p + 3) 3 = p + 6
    · simp only [if_pos g1] at a1
      have hff : ff (tx r c) p (p + 1) 5 = p + 6 := hf2.trans g1
      refine ⟨(wrN (wrN (wrN (wrN N 12 0 19 (nI (p + 3))) 26 0 (4 * k) (numV (tx r c) (p + 1) 2 0)) 12 0 19 (nI (p + 6))) 26 0 (4 * k + 1) (numV (tx r c) (p + 3) 3 0)), 1, fun X => ?_, ((((Fr26.rf k N).wp _).wt (by omega) _).wp _).wt (by omega) _, ?_, Or.inl ⟨rfl, ?_, ?_⟩⟩
      · simp only [c94, r94_0, r94_1, r94_88, r94_89, r94_90, r94_91, r94_94, r94_97, r94_100, r94_103, r94_104, r94_105, r94_106, r94_107, r94_108, r94_111, r94_114, r94_115, r94_116, r94_117, r94_118, r94_119, r94_122, r94_125, r94_126, r94_127, r94_128, r94_129, r94_130, r94_133, r94_136, r94_137, r94_140, r94_141, r94_142, r94_143, r94_144, r94_145, r94_148, r94_149, r94_150, r94_151, r94_152, r94_155, r94_158, r94_159, r94_160, r94_161, r94_162, r94_163, r94_166, r94_169, r94_170, r94_173, r94_174, r94_175, r94_176, r94_177, r94_178, r94_181, r94_184, r94_185, r94_186, r94_187, r94_188, r94_189, r94_192, r94_195, r94_196, r94_199, r94_200, r94_201, r94_202, r94_203, r94_204, r94_207, r94_208, r94_209, r94_210, r94_211, r94_214, r94_217, r94_220, r94_221, r94_222, r94_223, r94_224, r94_227, ht, y120_104, y120_109, y120_110, y120_114, y120_117, y120_121, n_1, v_2, v_3, nI_1, nI_2, nI_3, q10, reduceIte, cbI_some, true_or, or_true, a0, a1]
      · rw [hff]
        simp only [wn_if, wn_k, ne_eq, Nat.reduceEqDiff, not_false_eq_true, reduceIte]
      · exact hff
      · refine ⟨fun z => absurd (ht.symm.trans z) (by decide +kernel), fun z => absurd (ht.symm.trans z) (by decide +kernel), fun z => absurd (ht.symm.trans z) (by decide +kernel), fun _ => ?_, fun z => absurd (ht.symm.trans z) (by decide +kernel), fun z => absurd (ht.symm.trans z) (by decide +kernel), fun z => absurd (ht.symm.trans z) (by decide +kernel)⟩
        simp only [wn_if, wn_k, ne_eq, Nat.reduceEqDiff, not_false_eq_true, reduceIte, x1, x2, x3, x4, x5, x6, x7, x8, x9]
        exact ⟨trivial, trivial⟩
    · simp only [if_neg g1] at a1
      have hff : ff (tx r c) p (p + 1) 5 = df (tx r c) (p + 3) 3 := hf2
      refine ⟨wrN (wrN (wrN N 12 0 19 (nI (p + 3))) 26 0 (4 * k) (numV (tx r c) (p + 1) 2 0)) 12 0 19 (nI (df (tx r c) (p + 3) 3)), 0, fun X => ?_, (((Fr26.rf k N).wp _).wt (by omega) _).wp _, by rw [hff, wn_eq], Or.inr ⟨rfl, by omega⟩⟩
      simp only [c94, r94_0, r94_1, r94_88, r94_89, r94_90, r94_91, r94_94, r94_97, r94_100, r94_103, r94_104, r94_105, r94_106, r94_107, r94_108, r94_111, r94_114, r94_115, r94_116, r94_117, r94_118, r94_119, r94_122, r94_125, r94_126, r94_127, r94_128, r94_129, r94_130, r94_133, r94_136, r94_137, r94_140, r94_141, r94_142, r94_143, r94_144, r94_145, r94_148, r94_149, r94_150, r94_151, r94_152, r94_155, r94_158, r94_159, r94_160, r94_161, r94_162, r94_163, r94_166, r94_169, r94_170, r94_173, r94_174, r94_175, r94_176, r94_177, r94_178, r94_181, r94_184, r94_185, r94_186, r94_187, r94_188, r94_189, r94_192, r94_195, r94_196, r94_199, r94_200, r94_201, r94_202, r94_203, r94_204, r94_207, r94_208, r94_209, r94_210, r94_211, r94_214, r94_217, r94_220, r94_221, r94_222, r94_223, r94_224, r94_227, ht, y120_104, y120_109, y120_110, y120_114, y120_117, y120_121, n_1, v_2, v_3, nI_1, nI_2, nI_3, q10, reduceIte, cbI_some, true_or, or_true, a0, a1]
  · simp only [if_neg g0] at a0
    rw [if_neg g0] at s0
    have hff : ff (tx r c) p (p + 1) 5 = df (tx r c) (p + 1) 2 := hf1.trans s0
    refine ⟨wrN N 12 0 19 (nI (df (tx r c) (p + 1) 2)), 0, fun X => ?_, (Fr26.rf k N).wp _, by rw [hff, wn_eq], Or.inr ⟨rfl, by omega⟩⟩
    simp only [c94, r94_0, r94_1, r94_88, r94_89, r94_90, r94_91, r94_94, r94_97, r94_100, r94_103, r94_104, r94_105, r94_106, r94_107, r94_108, r94_111, r94_114, r94_115, r94_116, r94_117, r94_118, r94_119, r94_122, r94_125, r94_126, r94_127, r94_128, r94_129, r94_130, r94_133, r94_136, r94_137, r94_140, r94_141, r94_142, r94_143, r94_144, r94_145, r94_148, r94_149, r94_150, r94_151, r94_152, r94_155, r94_158, r94_159, r94_160, r94_161, r94_162, r94_163, r94_166, r94_169, r94_170, r94_173, r94_174, r94_175, r94_176, r94_177, r94_178, r94_181, r94_184, r94_185, r94_186, r94_187, r94_188, r94_189, r94_192, r94_195, r94_196, r94_199, r94_200, r94_201, r94_202, r94_203, r94_204, r94_207, r94_208, r94_209, r94_210, r94_211, r94_214, r94_217, r94_220, r94_221, r94_222, r94_223, r94_224, r94_227, ht, y120_104, y120_109, y120_110, y120_114, y120_117, y120_121, n_1, v_2, v_3, nI_1, nI_2, nI_3, q10, reduceIte, cbI_some, true_or, or_true, a0]
theorem rd_117 (hc : c ≤ 96) (hp : p < 100) (hk : k < 40) (hr : N 23 0 = r) (h18 : N 12 0 18 = nI c) (h19 : N 12 0 19 = nI (p + 1)) (hb : byteO (tx r c (p + 1))) (ht : tx r c p = 117) : RdA r c p k N 3 4 := by
  obtain ⟨f1, f2⟩ := fit1 (t := tx r c) (p := p) hb
  obtain ⟨x1, x2, x3, x4, x5, x6, x7, x8, x9⟩ := kf4 (k := k)
  have hf1 : ff (tx r c) p (p + 1) 3 = df (tx r c) (p + 1) 3 := ff_df _ _ _ (Or.inr ⟨fun z => absurd (ht.symm.trans z) (by decide +kernel), fun z => absurd (ht.symm.trans z) (by decide +kernel)⟩)
  have a0 := fun X : Mm => m90 X N (r := r) (w := 4 * k) (p := p + 1) (d := 3) hc (by omega) (by omega) (by decide) (by first | exact hr | (simp only [wn_k, ne_eq, Nat.reduceEqDiff, not_false_eq_true]; exact hr)) (by first | exact h18 | (simp only [wn_if, wn_k, ne_eq, Nat.reduceEqDiff, not_false_eq_true, reduceIte]; exact h18)) (by first | exact h19 | simp only [wn_if, wn_k, ne_eq, Nat.reduceEqDiff, not_false_eq_true, reduceIte])
  have u0 := df_ge (tx r c) 3 (p + 1)
  simp only [Nat.add_assoc, Nat.reduceAdd, v_3] at a0
  by_cases g0 : df (tx r c) (p + 1) 3 = p + 4
  · simp only [if_pos g0] at a0
    have hff : ff (tx r c) p (p + 1) 3 = p + 4 := hf1.trans g0
    refine ⟨(wrN (wrN N 12 0 19 (nI (p + 4))) 26 0 (4 * k) (numV (tx r c) (p + 1) 3 0)), 1, fun X => ?_, ((Fr26.rf k N).wp _).wt (by omega) _, ?_, Or.inl ⟨rfl, ?_, ?_⟩⟩
    · simp only [c94, r94_0, r94_1, r94_88, r94_89, r94_90, r94_91, r94_94, r94_97, r94_100, r94_103, r94_104, r94_105, r94_106, r94_107, r94_108, r94_111, r94_114, r94_115, r94_116, r94_117, r94_118, r94_119, r94_122, r94_125, r94_126, r94_127, r94_128, r94_129, r94_130, r94_133, r94_136, r94_137, r94_140, r94_141, r94_142, r94_143, r94_144, r94_145, r94_148, r94_149, r94_150, r94_151, r94_152, r94_155, r94_158, r94_159, r94_160, r94_161, r94_162, r94_163, r94_166, r94_169, r94_170, r94_173, r94_174, r94_175, r94_176, r94_177, r94_178, r94_181, r94_184, r94_185, r94_186, r94_187, r94_188, r94_189, r94_192, r94_195, r94_196, r94_199, r94_200, r94_201, r94_202, r94_203, r94_204, r94_207, r94_208, r94_209, r94_210, r94_211, r94_214, r94_217, r94_220, r94_221, r94_222, r94_223, r94_224, r94_227, ht, y117_104, y117_109, y117_110, y117_114, y117_120, y117_121, n_1, v_2, v_3, nI_1, nI_2, nI_3, q10, reduceIte, cbI_some, true_or, or_true, a0]
    · rw [hff]
      simp only [wn_if, wn_k, ne_eq, Nat.reduceEqDiff, not_false_eq_true, reduceIte]
    · exact hff
    · refine ⟨fun z => absurd (ht.symm.trans z) (by decide +kernel), fun z => absurd (ht.symm.trans z) (by decide +kernel), fun z => absurd (ht.symm.trans z) (by decide +kernel), fun z => absurd (ht.symm.trans z) (by decide +kernel), fun _ => ?_, fun z => absurd (ht.symm.trans z) (by decide +kernel), fun z => absurd (ht.symm.trans z) (by decide +kernel)⟩
      simp only [wn_if, wn_k, ne_eq, Nat.reduceEqDiff, not_false_eq_true, reduceIte, x1, x2, x3, x4, x5, x6, x7, x8, x9]
  · simp only [if_neg g0] at a0
    have hff : ff (tx r c) p (p + 1) 3 = df (tx r c) (p + 1) 3 := hf1
    refine ⟨wrN N 12 0 19 (nI (df (tx r c) (p + 1) 3)), 0, fun X => ?_, (Fr26.rf k N).wp _, by rw [hff, wn_eq], Or.inr ⟨rfl, by omega⟩⟩
    simp only [c94, r94_0, r94_1, r94_88, r94_89, r94_90, r94_91, r94_94, r94_97, r94_100, r94_103, r94_104, r94_105, r94_106, r94_107, r94_108, r94_111, r94_114, r94_115, r94_116, r94_117, r94_118, r94_119, r94_122, r94_125, r94_126, r94_127, r94_128, r94_129, r94_130, r94_133, r94_136, r94_137, r94_140, r94_141, r94_142, r94_143, r94_144, r94_145, r94_148, r94_149, r94_150, r94_151, r94_152, r94_155, r94_158, r94_159, r94_160, r94_161, r94_162, r94_163, r94_166, r94_169, r94_170, r94_173, r94_174, r94_175, r94_176, r94_177, r94_178, r94_181, r94_184, r94_185, r94_186, r94_187, r94_188, r94_189, r94_192, r94_195, r94_196, r94_199, r94_200, r94_201, r94_202, r94_203, r94_204, r94_207, r94_208, r94_209, r94_210, r94_211, r94_214, r94_217, r94_220, r94_221, r94_222, r94_223, r94_224, r94_227, ht, y117_104, y117_109, y117_110, y117_114, y117_120, y117_121, n_1, v_2, v_3, nI_1, nI_2, nI_3, q10, reduceIte, cbI_some, true_or, or_true, a0]
theorem rd_114 (hc : c ≤ 96) (hp : p < 100) (hk : k < 40) (hr : N 23 0 = r) (h18 : N 12 0 18 = nI c) (h19 : N 12 0 19 = nI (p + 1)) (hb : byteO (tx r c (p + 1))) (ht : tx r c p = 114) : RdA r c p k N 1 2 := by
  obtain ⟨f1, f2⟩ := fit1 (t := tx r c) (p := p) hb
  obtain ⟨x1, x2, x3, x4, x5, x6, x7, x8, x9⟩ := kf4 (k := k)
  have e0 := fun X : Mm => m89 X N hc hr h18 (show p + 1 < 1000 by omega) h19
  have e1 := fun X : Mm => m93 X N (w := 4 * k) (by omega) h19 (ruO (tx r c (p + 1)))
  simp only [Nat.add_assoc, Nat.reduceAdd] at e1
  have fe := f2 ht
  by_cases hl : ruO (tx r c (p + 1)) < 0
  · simp only [if_pos hl] at e1
    have hff : ff (tx r c) p (p + 1) 1 = p + 1 := by rw [ff, fe, decide_eq_false (fun z => z hl), if_neg (by decide)]
    refine ⟨N, 0, fun X => ?_, Fr26.rf k N, by rw [hff]; exact h19, Or.inr ⟨rfl, by omega⟩⟩
    simp only [c94, r94_0, r94_1, r94_88, r94_89, r94_90, r94_91, r94_94, r94_97, r94_100, r94_103, r94_104, r94_105, r94_106, r94_107, r94_108, r94_111, r94_114, r94_115, r94_116, r94_117, r94_118, r94_119, r94_122, r94_125, r94_126, r94_127, r94_128, r94_129, r94_130, r94_133, r94_136, r94_137, r94_140, r94_141, r94_142, r94_143, r94_144, r94_145, r94_148, r94_149, r94_150, r94_151, r94_152, r94_155, r94_158, r94_159, r94_160, r94_161, r94_162, r94_163, r94_166, r94_169, r94_170, r94_173, r94_174, r94_175, r94_176, r94_177, r94_178, r94_181, r94_184, r94_185, r94_186, r94_187, r94_188, r94_189, r94_192, r94_195, r94_196, r94_199, r94_200, r94_201, r94_202, r94_203, r94_204, r94_207, r94_208, r94_209, r94_210, r94_211, r94_214, r94_217, r94_220, r94_221, r94_222, r94_223, r94_224, r94_227, ht, y114_104, y114_109, y114_110, y114_117, y114_120, y114_121, e0, m92, e1, reduceIte, cbI_some, true_or, or_true]
  simp only [if_neg hl] at e1
  have hf1 : ff (tx r c) p (p + 1) 1 = df (tx r c) (p + 2) 0 := by rw [ff, fe, decide_eq_true hl, if_pos rfl, ff_df _ _ _ (Or.inl (by omega))]
  have hff : ff (tx r c) p (p + 1) 1 = p + 2 := hf1
  refine ⟨(wrN (wrN N 26 0 (4 * k) (ruO (tx r c (p + 1)))) 12 0 19 (nI (p + 2))), 1, fun X => ?_, ((Fr26.rf k N).wt (Nat.le_refl _) _).wp _, ?_, Or.inl ⟨rfl, ?_, ?_⟩⟩
  · simp only [c94, r94_0, r94_1, r94_88, r94_89, r94_90, r94_91, r94_94, r94_97, r94_100, r94_103, r94_104, r94_105, r94_106, r94_107, r94_108, r94_111, r94_114, r94_115, r94_116, r94_117, r94_118, r94_119, r94_122, r94_125, r94_126, r94_127, r94_128, r94_129, r94_130, r94_133, r94_136, r94_137, r94_140, r94_141, r94_142, r94_143, r94_144, r94_145, r94_148, r94_149, r94_150, r94_151, r94_152, r94_155, r94_158, r94_159, r94_160, r94_161, r94_162, r94_163, r94_166, r94_169, r94_170, r94_173, r94_174, r94_175, r94_176, r94_177, r94_178, r94_181, r94_184, r94_185, r94_186, r94_187, r94_188, r94_189, r94_192, r94_195, r94_196, r94_199, r94_200, r94_201, r94_202, r94_203, r94_204, r94_207, r94_208, r94_209, r94_210, r94_211, r94_214, r94_217, r94_220, r94_221, r94_222, r94_223, r94_224, r94_227, ht, y114_104, y114_109, y114_110, y114_117, y114_120, y114_121, n_1, v_2, v_3, nI_1, nI_2, nI_3, q10, reduceIte, cbI_some, true_or, or_true, e0, m92, e1]
  · rw [hff]
    simp only [wn_if, wn_k, ne_eq, Nat.reduceEqDiff, not_false_eq_true, reduceIte]
  · exact hff
  · refine ⟨fun z => absurd (ht.symm.trans z) (by decide +kernel), fun z => absurd (ht.symm.trans z) (by decide +kernel), fun z => absurd (ht.symm.trans z) (by decide +kernel), fun z => absurd (ht.symm.trans z) (by decide +kernel), fun z => absurd (ht.symm.trans z) (by decide +kernel), fun _ => ?_, fun z => absurd (ht.symm.trans z) (by decide +kernel)⟩
    simp only [wn_if, wn_k, ne_eq, Nat.reduceEqDiff, not_false_eq_true, reduceIte, x1, x2, x3, x4, x5, x6, x7, x8, x9]
    exact ⟨trivial, hl⟩
theorem rd_110 (hc : c ≤ 96) (hp : p < 100) (hk : k < 40) (hr : N 23 0 = r) (h18 : N 12 0 18 = nI c) (h19 : N 12 0 19 = nI (p + 1)) (hb : byteO (tx r c (p + 1))) (ht : tx r c p = 110) : RdA r c p k N 2 3 := by
  obtain ⟨f1, f2⟩ := fit1 (t := tx r c) (p := p) hb
  obtain ⟨x1, x2, x3, x4, x5, x6, x7, x8, x9⟩ := kf4 (k := k)
  have hf1 : ff (tx r c) p (p + 1) 2 = df (tx r c) (p + 1) 2 := ff_df _ _ _ (Or.inr ⟨fun z => absurd (ht.symm.trans z) (by decide +kernel), fun z => absurd (ht.symm.trans z) (by decide +kernel)⟩)
  have a0 := fun X : Mm => m90 X N (r := r) (w := 4 * k) (p := p + 1) (d := 2) hc (by omega) (by omega) (by decide) (by first | exact hr | (simp only [wn_k, ne_eq, Nat.reduceEqDiff, not_false_eq_true]; exact hr)) (by first | exact h18 | (simp only [wn_if, wn_k, ne_eq, Nat.reduceEqDiff, not_false_eq_true, reduceIte]; exact h18)) (by first | exact h19 | simp only [wn_if, wn_k, ne_eq, Nat.reduceEqDiff, not_false_eq_true, reduceIte])
  have u0 := df_ge (tx r c) 2 (p + 1)
  simp only [Nat.add_assoc, Nat.reduceAdd, v_2] at a0
  by_cases g0 : df (tx r c) (p + 1) 2 = p + 3
  · simp only [if_pos g0] at a0
    have hff : ff (tx r c) p (p + 1) 2 = p + 3 := hf1.trans g0
    refine ⟨(wrN (wrN N 12 0 19 (nI (p + 3))) 26 0 (4 * k) (numV (tx r c) (p + 1) 2 0)), 1, fun X => ?_, ((Fr26.rf k N).wp _).wt (by omega) _, ?_, Or.inl ⟨rfl, ?_, ?_⟩⟩
    · simp only [c94, r94_0, r94_1, r94_88, r94_89, r94_90, r94_91, r94_94, r94_97, r94_100, r94_103, r94_104, r94_105, r94_106, r94_107, r94_108, r94_111, r94_114, r94_115, r94_116, r94_117, r94_118, r94_119, r94_122, r94_125, r94_126, r94_127, r94_128, r94_129, r94_130, r94_133, r94_136, r94_137, r94_140, r94_141, r94_142, r94_143, r94_144, r94_145, r94_148, r94_149, r94_150, r94_151, r94_152, r94_155, r94_158, r94_159, r94_160, r94_161, r94_162, r94_163, r94_166, r94_169, r94_170, r94_173, r94_174, r94_175, r94_176, r94_177, r94_178, r94_181, r94_184, r94_185, r94_186, r94_187, r94_188, r94_189, r94_192, r94_195, r94_196, r94_199, r94_200, r94_201, r94_202, r94_203, r94_204, r94_207, r94_208, r94_209, r94_210, r94_211, r94_214, r94_217, r94_220, r94_221, r94_222, r94_223, r94_224, r94_227, ht, y110_104, y110_109, y110_114, y110_117, y110_120, y110_121, n_1, v_2, v_3, nI_1, nI_2, nI_3, q10, reduceIte, cbI_some, true_or, or_true, a0]
    · rw [hff]
      simp only [wn_if, wn_k, ne_eq, Nat.reduceEqDiff, not_false_eq_true, reduceIte]
    · exact hff
    · refine ⟨fun z => absurd (ht.symm.trans z) (by decide +kernel), fun z => absurd (ht.symm.trans z) (by decide +kernel), fun z => absurd (ht.symm.trans z) (by decide +kernel), fun z => absurd (ht.symm.trans z) (by decide +kernel), fun z => absurd (ht.symm.trans z) (by decide +kernel), fun z => absurd (ht.symm.trans z) (by decide +kernel), fun _ => ?_⟩
      simp only [wn_if, wn_k, ne_eq, Nat.reduceEqDiff, not_false_eq_true, reduceIte, x1, x2, x3, x4, x5, x6, x7, x8, x9]
  · simp only [if_neg g0] at a0
    have hff : ff (tx r c) p (p + 1) 2 = df (tx r c) (p + 1) 2 := hf1
    refine ⟨wrN N 12 0 19 (nI (df (tx r c) (p + 1) 2)), 0, fun X => ?_, (Fr26.rf k N).wp _, by rw [hff, wn_eq], Or.inr ⟨rfl, by omega⟩⟩
    simp only [c94, r94_0, r94_1, r94_88, r94_89, r94_90, r94_91, r94_94, r94_97, r94_100, r94_103, r94_104, r94_105, r94_106, r94_107, r94_108, r94_111, r94_114, r94_115, r94_116, r94_117, r94_118, r94_119, r94_122, r94_125, r94_126, r94_127, r94_128, r94_129, r94_130, r94_133, r94_136, r94_137, r94_140, r94_141, r94_142, r94_143, r94_144, r94_145, r94_148, r94_149, r94_150, r94_151, r94_152, r94_155, r94_158, r94_159, r94_160, r94_161, r94_162, r94_163, r94_166, r94_169, r94_170, r94_173, r94_174, r94_175, r94_176, r94_177, r94_178, r94_181, r94_184, r94_185, r94_186, r94_187, r94_188, r94_189, r94_192, r94_195, r94_196, r94_199, r94_200, r94_201, r94_202, r94_203, r94_204, r94_207, r94_208, r94_209, r94_210, r94_211, r94_214, r94_217, r94_220, r94_221, r94_222, r94_223, r94_224, r94_227, ht, y110_104, y110_109, y110_114, y110_117, y110_120, y110_121, n_1, v_2, v_3, nI_1, nI_2, nI_3, q10, reduceIte, cbI_some, true_or, or_true, a0]
end Reads
