section Minute
variable {S N : Nm} {T L m t b : Nat}
theorem lay_loop {T0 f0 g0 : Int32} (ht : t ≤ 240) : ∀ (n i st : Nat) (fi : Option Nat) (S N : Nm), i + n = L → RMd T S N L m t b i st fi T0 f0 g0 → ∃ (S' N' : Nm) (st' : Nat) (fi' : Option Nat), RMd T S' N' L m t b L st' fi' T0 f0 g0 ∧ FrN N N' ∧ (∀ (M : Mm) (g : Nat) (z : AV), ∃ z', run 25 7 [aR g 0 0, aI (nI st), aI (oI fi), aI (nI i), z] [] (va_up M g S) = run 25 7 [aR g 0 0, aI (nI st'), aI (oI fi'), aI (nI L), z'] [] (va_up M g S')) ∧ (∀ (M : Mm) (l1 z : AV), ∃ z', run 124 39 [aR 4 12 0, l1, aI (nI i), z] [] (va_up M 4 N) = run 124 39 [aR 4 12 0, l1, aI (nI L), z'] [] (va_up M 4 N')) := by
  intro n
  induction n with
  | zero =>
    intro i st fi S N hi h
    have : i = L := by omega
    subst this
    exact ⟨S, N, st, fi, h, FrN.rf N, fun M g z => ⟨z, rfl⟩, fun M l1 z => ⟨z, rfl⟩⟩
  | succ n ih =>
    intro i st fi S N hi h
    obtain ⟨S1, N1, st1, fi1, h1, f1, s1, n1⟩ := lay_step h ht (by omega)
    obtain ⟨S2, N2, st2, fi2, h2, f2, s2, n2⟩ := ih (i + 1) st1 fi1 S1 N1 (by omega) h1
    refine ⟨S2, N2, st2, fi2, h2, f1.tr f2, fun M g z => ?_, fun M l1 z => ?_⟩
    · obtain ⟨z1, e1⟩ := s1 M g z
      obtain ⟨z2, e2⟩ := s2 M g z1
      exact ⟨z2, e1.trans e2⟩
    · obtain ⟨z1, e1⟩ := n1 M l1 z
      obtain ⟨z2, e2⟩ := n2 M l1 z1
      exact ⟨z2, e1.trans e2⟩
theorem ns_k (S : Nm) (a c : Int32) {k : Nat} (h : k ≠ 5) : cNs S a c k = S k := by
  unfold cNs
  repeat' split
  all_goals simp only [wn_k, h, ne_eq, not_false_eq_true]
theorem ns_5 (S : Nm) (a c : Int32) {j : Nat} (h2 : j ≠ 2) (h3 : j ≠ 3) (h4 : j ≠ 4) (h5 : j ≠ 5) : cNs S a c 5 0 j = S 5 0 j := by
  unfold cNs
  repeat' split
  all_goals simp only [wn_if, h2, h3, h4, h5, if_false]
theorem ns_2 (S : Nm) (a c : Int32) : cNs S a c 5 0 2 = S 5 0 2 + a ∧ cNs S a c 5 0 3 = (if 1 < a then S 5 0 3 + 1 else S 5 0 3) ∧ cNs S a c 5 0 4 = (if 0 < a then (if S 5 0 4 = -9 then c else S 5 0 4) else S 5 0 4) ∧ cNs S a c 5 0 5 = (if 0 < a then (if S 5 0 4 = -9 then S 5 0 0 else S 5 0 5) else S 5 0 5) := by
  unfold cNs
  by_cases c1 : 1 < a
  · by_cases c0 : 0 < a
    · by_cases c9 : S 5 0 4 = -9
      · simp only [c1, c0, c9, wn_if, Nat.reduceEqDiff, reduceIte, and_self]
      · simp only [c1, c0, c9, wn_if, Nat.reduceEqDiff, reduceIte, and_self]
    · simp only [c1, c0, wn_if, Nat.reduceEqDiff, reduceIte, and_self]
  · by_cases c0 : 0 < a
    · by_cases c9 : S 5 0 4 = -9
      · simp only [c1, c0, c9, wn_if, Nat.reduceEqDiff, reduceIte, and_self]
      · simp only [c1, c0, c9, wn_if, Nat.reduceEqDiff, reduceIte, and_self]
    · simp only [c1, c0, wn_if, Nat.reduceEqDiff, reduceIte, and_self]
theorem add_sub_l (a c : Int32) : a + c - a = c := by grind
/-- all layers lay -/
theorem lay_both (h : Rl T S N L m t b (fun _ => t)) (ht : t ≤ 240) : ∃ (S' N' : Nm), Rl T S' N' L m t b (fun _ => t + 1) ∧ FrN N N' ∧ (∀ (M : Mm) (g : Nat), call 25 [aR g 0 0] (va_up M g S) = some (none, va_up M g S')) ∧ (∀ (M : Mm) (l2 z : AV), ∃ z', run 124 37 [aR 4 12 0, aI (mSum N), l2, z] [] (va_up M 4 N) = run 124 119 [aR 4 12 0, aI (mSum N), aI (nI L), z'] [] (va_up M 4 N')) := by
  obtain ⟨hC, hT1, ⟨t1, t2, t3, t4, t5, t6⟩, hB, hS, hM⟩ := h
  have h0 : RMd T S N L m t b 0 0 none (mSum N) (S 5 0 4) (S 5 0 5) := by
    refine ⟨hC, hT1, hB, ?_, hM, t1, ?_, t2, rfl, rfl, ?_, ?_, ?_, ?_, Nat.le_refl _, ?_, t6⟩
    · simpa only [RLs, Nat.not_lt_zero, if_false] using hS
    · rw [nI_0, Int32.add_zero]
    · rw [← t3]
      split
      · assumption
      · rfl
    · rw [← t4]
      simp only [if_true, ite_self]
    · rw [t3]; exact t5
    · exact ⟨fun _ => rfl, fun _ => rfl⟩
    · intro c hc; cases hc
  obtain ⟨S1, N1, st, fi, h1, f1, s1, n1⟩ := lay_loop (L := L) (m := m) (b := b) ht L 0 0 none S N (by omega) h0
  obtain ⟨hC1, hT11, hB1, hS1, hM1, d1, d2, d3, d4, d5, d6, d7, d8, d9, d10, d11, d12⟩ := h1
  obtain ⟨c1, c2, c3, c4, c5, -⟩ := id hC1
  obtain ⟨a1, a2, -⟩ := id hT11
  obtain ⟨w2, w3, w4, w5⟩ := ns_2 S1 (nI st) (oI fi)
  have hcF : (nI L < nI L) = False := eq_false (fun h => Int32.lt_irrefl h)
  refine ⟨cNs S1 (nI st) (oI fi), wrN N1 12 0 34 (N1 12 0 34 + if 1 < nI st then 1 else 0), ⟨?_, ?_, ⟨?_, ?_, ?_, ?_, ?_, ?_⟩, ?_, ?_, ?_⟩, f1.wr12 34 _ (by decide) (by decide) (by decide), fun M g => ?_, fun M l2 z => ?_⟩
  · simpa only [RCf, ns_k, wn_if, wn_k, ne_eq, Nat.reduceEqDiff, not_false_eq_true, reduceIte] using hC1
  · simpa only [RT1, ns_k, ns_5, wn_if, wn_k, ne_eq, Nat.reduceEqDiff, not_false_eq_true, reduceIte] using hT11
  · rw [w2, d1, ← d2]
    simp only [wn_k, ne_eq, Nat.reduceEqDiff, not_false_eq_true]
    rfl
  · rw [w3, wn_eq, d3]
    split
    · rfl
    · rw [Int32.add_zero]
  · rw [w4, wn_j _ _ _ _ (by decide), d4, d6]
    by_cases hst : st = 0
    · have hfi := d9.mpr hst
      subst hst
      subst hfi
      rw [if_neg (by decide +kernel)]
      split
      · assumption
      · rfl
    · have hp : 0 < nI st := by rw [← nI_0]; exact nI_lt (by omega) (by omega)
      rw [if_pos hp]
  · rw [w5, wn_j _ _ _ _ (by decide), d4, d5, d7]
    by_cases hst : st = 0
    · have hfi := d9.mpr hst
      subst hst
      subst hfi
      rw [if_neg (by decide +kernel)]
      simp only [if_true, ite_self]
    · have hp : 0 < nI st := by rw [← nI_0]; exact nI_lt (by omega) (by omega)
      have hfi : ¬ fi = none := fun e => hst (d9.mp e)
      rw [if_pos hp, a1, if_neg hfi]
  · rw [wn_j _ _ _ _ (by decide), d6]
    by_cases hf : S 5 0 4 = -9
    · rw [if_pos hf]
      cases fi with
      | none => exact Or.inl rfl
      | some k => exact Or.inr ⟨k, d11 k rfl, rfl⟩
    · rw [if_neg hf]
      exact d8
  · simpa only [wn_k, ne_eq, Nat.reduceEqDiff, not_false_eq_true] using d12
  · simpa only [RBg, ns_k, ns_5, wn_if, wn_k, ne_eq, Nat.reduceEqDiff, not_false_eq_true, reduceIte] using hB1
  · intro q hq
    have hx := hS1 q hq
    simp only [hq, if_true] at hx
    simpa only [ns_k, wn_k, ne_eq, Nat.reduceEqDiff, not_false_eq_true] using hx
  · simpa only [RMs, ns_k, wn_k, ne_eq, Nat.reduceEqDiff, not_false_eq_true] using hM1
  · obtain ⟨z1, e1⟩ := s1 M g none
    rw [nI_0] at e1
    simp only [c25, r25_0, r25_1, r25_2, r25_4, r25_5, r25_6]
    refine Eq.trans e1 ?_
    rw [r25_7]
    simp only [r25_0, r25_1, r25_2, r25_4, r25_5, r25_6, r25_8, r25_9, r25_12, r25_15, r25_16, r25_19, r25_20, r25_21, r25_24, r25_26, r25_27, r25_30, r25_31, r25_34, r25_35, r25_38, r25_39, r25_40, r25_41, r25_44, r25_47, r25_48, r25_51, r25_52, r25_55, r25_56, r25_57, r25_60, r25_62, r25_65, r25_68, r25_69, r25_71, r25_74, r25_75, r25_78, r25_79, r25_80, r25_83, r25_86, r25_87, r25_90, r25_91, r25_92, r25_95, up_same, c4, hcF, k30, cbV_some, reduceIte]
  · obtain ⟨z1, e1⟩ := n1 M (aI (mSum N)) z
    rw [nI_0] at e1
    refine ⟨z1, ?_⟩
    rw [r124_37, r124_38, e1, r124_39]
    have hd : mSum N1 - mSum N = nI st := by rw [d2, add_sub_l]
    by_cases hs1 : 1 < nI st
    · simp only [r124_0, r124_1, r124_4, r124_5, r124_6, r124_7, r124_8, r124_9, r124_12, r124_13, r124_14, r124_17, r124_18, r124_21, r124_22, r124_23, r124_26, r124_27, r124_28, r124_31, r124_34, r124_37, r124_38, r124_40, r124_41, r124_44, r124_47, r124_48, r124_51, r124_52, r124_53, r124_54, r124_55, r124_56, r124_59, r124_60, r124_63, r124_66, r124_67, r124_70, r124_71, r124_72, r124_73, r124_76, r124_77, r124_78, r124_81, r124_82, r124_83, r124_86, r124_89, r124_92, r124_95, r124_96, r124_97, r124_100, r124_101, r124_104, r124_105, r124_106, r124_107, r124_110, r124_111, r124_114, r124_115, r124_116, r124_120, r124_121, r124_122, r124_123, r124_126, r124_127, r124_128, r124_131, r124_132, r124_135, r124_136, r124_137, r124_140, r124_143, r124_144, r124_147, r124_148, r124_149, r124_150, r124_151, r124_152, r124_153, r124_154, r124_157, r124_158, r124_159, r124_162, r124_163, r124_164, r124_167, r124_170, r124_173, r124_174, r124_175, r124_178, r124_179, r124_180, r124_183, r124_184, r124_185, r124_188, r124_189, r124_190, r124_193, up_same, c5, hcF, m125, hd, hs1, cbI_some, wr_up, reduceIte]
    · simp only [r124_0, r124_1, r124_4, r124_5, r124_6, r124_7, r124_8, r124_9, r124_12, r124_13, r124_14, r124_17, r124_18, r124_21, r124_22, r124_23, r124_26, r124_27, r124_28, r124_31, r124_34, r124_37, r124_38, r124_40, r124_41, r124_44, r124_47, r124_48, r124_51, r124_52, r124_53, r124_54, r124_55, r124_56, r124_59, r124_60, r124_63, r124_66, r124_67, r124_70, r124_71, r124_72, r124_73, r124_76, r124_77, r124_78, r124_81, r124_82, r124_83, r124_86, r124_89, r124_92, r124_95, r124_96, r124_97, r124_100, r124_101, r124_104, r124_105, r124_106, r124_107, r124_110, r124_111, r124_114, r124_115, r124_116, r124_120, r124_121, r124_122, r124_123, r124_126, r124_127, r124_128, r124_131, r124_132, r124_135, r124_136, r124_137, r124_140, r124_143, r124_144, r124_147, r124_148, r124_149, r124_150, r124_151, r124_152, r124_153, r124_154, r124_157, r124_158, r124_159, r124_162, r124_163, r124_164, r124_167, r124_170, r124_173, r124_174, r124_175, r124_178, r124_179, r124_180, r124_183, r124_184, r124_185, r124_188, r124_189, r124_190, r124_193, up_same, c5, hcF, m125, hd, hs1, cbI_some, wr_up, reduceIte]
/-- the free mates -/
theorem free_loop {u : Nat → Nat} (ht : t < T) : ∀ (n j b : Nat) (S N : Nm), j + n = m → b + n < 800 → Rl T S N L m t b u → ∃ (S' N' : Nm) (b' : Nat), b' ≤ b + n ∧ Rl T S' N' L m t b' u ∧ (FrN N N' ∧ N' 28 = N 28) ∧ (∀ (M : Mm) (g : Nat) (x1 : AV), run 20 56 [aR g 0 0, x1, aI (nI j)] [] (va_up M g S) = run 20 56 [aR g 0 0, x1, aI (nI m)] [] (va_up M g S')) ∧ (∀ (M : Mm) (l1 l3 : AV), run 124 7 [aR 4 12 0, l1, aI (nI j), l3] [] (va_up M 4 N) = run 124 7 [aR 4 12 0, l1, aI (nI m), l3] [] (va_up M 4 N')) := by
  intro n
  induction n with
  | zero =>
    intro j b S N hj hb h
    have : j = m := by omega
    subst this
    exact ⟨S, N, b, by omega, h, ⟨FrN.rf N, rfl⟩, fun _ _ _ => rfl, fun _ _ _ => rfl⟩
  | succ n ih =>
    intro j b S N hj hb h
    obtain ⟨hC, hT1, hT2, hB, hS, hM⟩ := id h
    obtain ⟨c1, c2, c3, c4, c5, c6, c7, -⟩ := id hC
    have hj3 : j < 3 := by omega
    have hv : vpB (nI j) 3 = true := vp_t hj3 (by decide)
    have htn : (nI j).toNatClampNeg = j := tn hj3 (by decide)
    have hcT : (nI j < nI m) = True := eq_true (nI_lt (by omega) (by omega))
    have e0 : S 4 j 0 = N 19 0 j := (hM.1 j hj3).1
    by_cases hd : N 19 0 j = 0
    · obtain ⟨S1, N1, b1, hb1, h1, f1, s1, n1⟩ := send_both h (by omega) ht (show j < m by omega)
      obtain ⟨S2, N2, b2, hb2, h2, f2, s2, n2⟩ := ih (j + 1) b1 S1 N1 (by omega) (by omega) h1
      refine ⟨S2, N2, b2, by omega, h2, ⟨f1.1.tr f2.1, f2.2.trans f1.2⟩, fun M g x1 => ?_, fun M l1 l3 => ?_⟩
      · have hch := k22 M S g c4 c1 c6 c3 hS.ok
        rw [ch_eq hC hS hM L 0 none (by omega) (by intro c hc; cases hc)] at hch
        rw [r20_56]
        simp only [r20_0, r20_1, r20_4, r20_7, r20_8, r20_10, r20_11, r20_14, r20_17, r20_18, r20_21, r20_22, r20_23, r20_24, r20_27, r20_28, r20_31, r20_32, r20_33, r20_34, r20_37, r20_40, r20_44, r20_47, r20_50, r20_51, r20_54, r20_55, r20_57, r20_58, r20_61, r20_64, r20_65, r20_68, r20_69, r20_70, r20_73, r20_76, r20_77, r20_78, r20_81, r20_82, r20_83, r20_84, r20_87, r20_90, r20_93, r20_97, r20_100, r20_101, r20_103, r20_104, r20_107, r20_110, r20_111, r20_114, r20_115, r20_116, r20_119, r20_122, r20_123, r20_124, r20_127, r20_128, r20_129, r20_132, r20_135, r20_138, r20_139, r20_140, r20_143, r20_144, r20_145, r20_148, r20_149, r20_152, r20_153, r20_156, r20_157, r20_158, r20_161, r20_164, r20_165, r20_166, r20_169, r20_170, r20_173, r20_176, r20_177, r20_180, up_same, c6, hcT, hv, htn, e0, hd, hch, s1, cbI_some, cbV_some, nI_1, s2, reduceIte]
      · rw [r124_7]
        simp only [r124_0, r124_1, r124_4, r124_5, r124_6, r124_8, r124_9, r124_12, r124_13, r124_14, r124_17, r124_18, r124_21, r124_22, r124_23, r124_26, r124_27, r124_28, r124_31, r124_34, r124_38, r124_39, r124_40, r124_41, r124_44, r124_47, r124_48, r124_51, r124_52, r124_53, r124_54, r124_55, r124_56, r124_59, r124_60, r124_63, r124_66, r124_67, r124_70, r124_71, r124_72, r124_73, r124_76, r124_77, r124_78, r124_81, r124_82, r124_83, r124_86, r124_89, r124_92, r124_95, r124_96, r124_97, r124_100, r124_101, r124_104, r124_105, r124_106, r124_107, r124_110, r124_111, r124_114, r124_115, r124_116, r124_119, r124_120, r124_121, r124_122, r124_123, r124_126, r124_127, r124_128, r124_131, r124_132, r124_135, r124_136, r124_137, r124_140, r124_143, r124_144, r124_147, r124_148, r124_149, r124_150, r124_151, r124_152, r124_153, r124_154, r124_157, r124_158, r124_159, r124_162, r124_163, r124_164, r124_167, r124_170, r124_173, r124_174, r124_175, r124_178, r124_179, r124_180, r124_183, r124_184, r124_185, r124_188, r124_189, r124_190, r124_193, up_same, c7, hcT, hv, htn, v7_0, tn0, hd, n1, cbV_some, nI_1, n2, reduceIte]
    · obtain ⟨S2, N2, b2, hb2, h2, f2, s2, n2⟩ := ih (j + 1) b S N (by omega) (by omega) h
      refine ⟨S2, N2, b2, by omega, h2, f2, fun M g x1 => ?_, fun M l1 l3 => ?_⟩
      · rw [r20_56]
        simp only [r20_0, r20_1, r20_4, r20_7, r20_8, r20_10, r20_11, r20_14, r20_17, r20_18, r20_21, r20_22, r20_23, r20_24, r20_27, r20_28, r20_31, r20_32, r20_33, r20_34, r20_37, r20_40, r20_44, r20_47, r20_50, r20_51, r20_54, r20_55, r20_57, r20_58, r20_61, r20_64, r20_65, r20_68, r20_69, r20_70, r20_73, r20_76, r20_77, r20_78, r20_81, r20_82, r20_83, r20_84, r20_87, r20_90, r20_93, r20_97, r20_100, r20_101, r20_103, r20_104, r20_107, r20_110, r20_111, r20_114, r20_115, r20_116, r20_119, r20_122, r20_123, r20_124, r20_127, r20_128, r20_129, r20_132, r20_135, r20_138, r20_139, r20_140, r20_143, r20_144, r20_145, r20_148, r20_149, r20_152, r20_153, r20_156, r20_157, r20_158, r20_161, r20_164, r20_165, r20_166, r20_169, r20_170, r20_173, r20_176, r20_177, r20_180, up_same, c6, hcT, hv, htn, e0, hd, nI_1, s2, reduceIte]
      · rw [r124_7]
        simp only [r124_0, r124_1, r124_4, r124_5, r124_6, r124_8, r124_9, r124_12, r124_13, r124_14, r124_17, r124_18, r124_21, r124_22, r124_23, r124_26, r124_27, r124_28, r124_31, r124_34, r124_38, r124_39, r124_40, r124_41, r124_44, r124_47, r124_48, r124_51, r124_52, r124_53, r124_54, r124_55, r124_56, r124_59, r124_60, r124_63, r124_66, r124_67, r124_70, r124_71, r124_72, r124_73, r124_76, r124_77, r124_78, r124_81, r124_82, r124_83, r124_86, r124_89, r124_92, r124_95, r124_96, r124_97, r124_100, r124_101, r124_104, r124_105, r124_106, r124_107, r124_110, r124_111, r124_114, r124_115, r124_116, r124_119, r124_120, r124_121, r124_122, r124_123, r124_126, r124_127, r124_128, r124_131, r124_132, r124_135, r124_136, r124_137, r124_140, r124_143, r124_144, r124_147, r124_148, r124_149, r124_150, r124_151, r124_152, r124_153, r124_154, r124_157, r124_158, r124_159, r124_162, r124_163, r124_164, r124_167, r124_170, r124_173, r124_174, r124_175, r124_178, r124_179, r124_180, r124_183, r124_184, r124_185, r124_188, r124_189, r124_190, r124_193, up_same, c7, hcT, hv, htn, v7_0, tn0, hd, nI_1, n2, reduceIte]
/-- the busy mates -/
theorem busy_loop {u : Nat → Nat} : ∀ (n j : Nat) (S N : Nm), j + n = m → Rl T S N L m t b u → ∃ (S' N' : Nm), Rl T S' N' L m t b u ∧ FrN N N' ∧ (∀ (M : Mm) (g : Nat) (x1 : AV), run 20 102 [aR g 0 0, x1, aI (nI j)] [] (va_up M g S) = run 20 102 [aR g 0 0, x1, aI (nI m)] [] (va_up M g S')) ∧ (∀ (M : Mm) (l1 l3 : AV), run 124 121 [aR 4 12 0, l1, aI (nI j), l3] [] (va_up M 4 N) = run 124 121 [aR 4 12 0, l1, aI (nI m), l3] [] (va_up M 4 N')) := by
  intro n
  induction n with
  | zero =>
    intro j S N hj h
    have : j = m := by omega
    subst this
    exact ⟨S, N, h, FrN.rf N, fun _ _ _ => rfl, fun _ _ _ => rfl⟩
  | succ n ih =>
    intro j S N hj h
    obtain ⟨hC, hT1, hT2, hB, hS, hM⟩ := id h
    obtain ⟨c1, c2, c3, c4, c5, c6, c7, -⟩ := id hC
    have hj3 : j < 3 := by omega
    have hv : vpB (nI j) 3 = true := vp_t hj3 (by decide)
    have htn : (nI j).toNatClampNeg = j := tn hj3 (by decide)
    have hcT : (nI j < nI m) = True := eq_true (nI_lt (by omega) (by omega))
    have e0 : S 4 j 0 = N 19 0 j := (hM.1 j hj3).1
    by_cases hd : N 19 0 j = 0
    · obtain ⟨S2, N2, h2, f2, s2, n2⟩ := ih (j + 1) S N (by omega) h
      refine ⟨S2, N2, h2, f2, fun M g x1 => ?_, fun M l1 l3 => ?_⟩
      · rw [r20_102]
        simp only [r20_0, r20_1, r20_4, r20_7, r20_8, r20_10, r20_11, r20_14, r20_17, r20_18, r20_21, r20_22, r20_23, r20_24, r20_27, r20_28, r20_31, r20_32, r20_33, r20_34, r20_37, r20_40, r20_44, r20_47, r20_50, r20_51, r20_54, r20_55, r20_57, r20_58, r20_61, r20_64, r20_65, r20_68, r20_69, r20_70, r20_73, r20_76, r20_77, r20_78, r20_81, r20_82, r20_83, r20_84, r20_87, r20_90, r20_93, r20_96, r20_97, r20_100, r20_101, r20_103, r20_104, r20_107, r20_110, r20_111, r20_114, r20_115, r20_116, r20_119, r20_122, r20_123, r20_124, r20_127, r20_128, r20_129, r20_132, r20_135, r20_139, r20_140, r20_143, r20_144, r20_145, r20_148, r20_149, r20_152, r20_153, r20_156, r20_157, r20_158, r20_161, r20_164, r20_165, r20_166, r20_169, r20_170, r20_173, r20_176, r20_177, r20_180, up_same, c6, hcT, hv, htn, e0, hd, nI_1, s2, reduceIte]
      · rw [r124_121]
        simp only [r124_0, r124_1, r124_4, r124_5, r124_6, r124_8, r124_9, r124_12, r124_13, r124_14, r124_17, r124_18, r124_21, r124_22, r124_23, r124_26, r124_27, r124_28, r124_31, r124_34, r124_38, r124_39, r124_40, r124_41, r124_44, r124_47, r124_48, r124_51, r124_52, r124_53, r124_54, r124_55, r124_56, r124_59, r124_60, r124_63, r124_66, r124_67, r124_70, r124_71, r124_72, r124_73, r124_76, r124_77, r124_78, r124_81, r124_82, r124_83, r124_86, r124_89, r124_92, r124_95, r124_96, r124_97, r124_100, r124_101, r124_104, r124_105, r124_106, r124_107, r124_110, r124_111, r124_114, r124_115, r124_116, r124_119, r124_120, r124_122, r124_123, r124_126, r124_127, r124_128, r124_131, r124_132, r124_135, r124_136, r124_137, r124_140, r124_143, r124_144, r124_147, r124_148, r124_149, r124_150, r124_151, r124_152, r124_153, r124_154, r124_157, r124_158, r124_159, r124_162, r124_163, r124_164, r124_167, r124_170, r124_174, r124_175, r124_178, r124_179, r124_180, r124_183, r124_184, r124_185, r124_188, r124_189, r124_190, r124_193, up_same, c7, hcT, hv, htn, v7_0, tn0, hd, nI_1, n2, reduceIte]
    · obtain ⟨S1, N1, h1, f1, s1, n1⟩ := spend_both h (show j < m by omega) hd
      obtain ⟨S2, N2, h2, f2, s2, n2⟩ := ih (j + 1) S1 N1 (by omega) h1
      refine ⟨S2, N2, h2, f1.tr f2, fun M g x1 => ?_, fun M l1 l3 => ?_⟩
      · rw [r20_102]
        simp only [r20_0, r20_1, r20_4, r20_7, r20_8, r20_10, r20_11, r20_14, r20_17, r20_18, r20_21, r20_22, r20_23, r20_24, r20_27, r20_28, r20_31, r20_32, r20_33, r20_34, r20_37, r20_40, r20_44, r20_47, r20_50, r20_51, r20_54, r20_55, r20_57, r20_58, r20_61, r20_64, r20_65, r20_68, r20_69, r20_70, r20_73, r20_76, r20_77, r20_78, r20_81, r20_82, r20_83, r20_84, r20_87, r20_90, r20_93, r20_96, r20_97, r20_100, r20_101, r20_103, r20_104, r20_107, r20_110, r20_111, r20_114, r20_115, r20_116, r20_119, r20_122, r20_123, r20_124, r20_127, r20_128, r20_129, r20_132, r20_135, r20_139, r20_140, r20_143, r20_144, r20_145, r20_148, r20_149, r20_152, r20_153, r20_156, r20_157, r20_158, r20_161, r20_164, r20_165, r20_166, r20_169, r20_170, r20_173, r20_176, r20_177, r20_180, up_same, c6, hcT, hv, htn, e0, hd, s1, cbV_some, nI_1, s2, reduceIte]
      · rw [r124_121]
        simp only [r124_0, r124_1, r124_4, r124_5, r124_6, r124_8, r124_9, r124_12, r124_13, r124_14, r124_17, r124_18, r124_21, r124_22, r124_23, r124_26, r124_27, r124_28, r124_31, r124_34, r124_38, r124_39, r124_40, r124_41, r124_44, r124_47, r124_48, r124_51, r124_52, r124_53, r124_54, r124_55, r124_56, r124_59, r124_60, r124_63, r124_66, r124_67, r124_70, r124_71, r124_72, r124_73, r124_76, r124_77, r124_78, r124_81, r124_82, r124_83, r124_86, r124_89, r124_92, r124_95, r124_96, r124_97, r124_100, r124_101, r124_104, r124_105, r124_106, r124_107, r124_110, r124_111, r124_114, r124_115, r124_116, r124_119, r124_120, r124_122, r124_123, r124_126, r124_127, r124_128, r124_131, r124_132, r124_135, r124_136, r124_137, r124_140, r124_144, r124_147, r124_148, r124_149, r124_150, r124_151, r124_152, r124_153, r124_154, r124_157, r124_158, r124_159, r124_162, r124_163, r124_164, r124_167, r124_170, r124_174, r124_175, r124_178, r124_179, r124_180, r124_183, r124_184, r124_185, r124_188, r124_189, r124_190, r124_193, up_same, c7, hcT, hv, htn, v7_0, tn0, hd, n1, nI_1, n2, reduceIte]
end Minute
