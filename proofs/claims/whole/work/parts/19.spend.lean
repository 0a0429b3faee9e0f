/-! a busy mate's minute: spendMinute and ends -/
theorem one_m : (1 : Int32) - 1 = 0 := by decide +kernel
theorem mi_sub (x m : Int32) : x - cMi x m = if m < x then x - m else 0 := by
  unfold cMi
  split
  · rfl
  · exact Int32.sub_self _
def cUl (S : Nm) (j k : Nat) : Nm := if S 4 j 3 = 0 then wrN (cBk S k (S 0 0 4)) 5 0 8 (S 5 0 8 + (S 2 k 5 + S 0 0 4 - cMi (S 2 k 5 + S 0 0 4) 240)) else wrN (cBd S k (S 0 0 4 + S 0 0 13)) 5 0 8 (S 5 0 8 + (S 2 k 4 + (S 0 0 4 + S 0 0 13) - cMi (S 2 k 4 + (S 0 0 4 + S 0 0 13)) 60))
def mCt (N : Nm) (j k : Nat) : Nm := mBg (if N 22 0 j = 1 then wrN (mHe N (N 17 0 k + N 14 0 1 + N 12 0 37) 60) 17 0 k (mLe (N 17 0 k + N 14 0 1 + N 12 0 37) 60) else wrN (mHe N (N 18 0 k + N 14 0 1) 240) 18 0 k (mLe (N 18 0 k + N 14 0 1) 240)) j 3 (N 14 0 2)
theorem k27 (M : Mm) (S : Nm) (g : Nat) {L j k : Nat} (hL : S 0 0 1 = nI L) (hL4 : L ≤ 4) (hk : k < L) (hw : S 4 j 2 = nI k) : call 27 [aR g 0 0, aR g 4 j] (va_up M g S) = some (none, va_up M g (cUl S j k)) := by
  have hv : vpB (nI k) 4 = true := vp_t (by omega) (by decide)
  have htn : (nI k).toNatClampNeg = k := tn (n := 4) (by omega) (by decide)
  have hk0 : (nI k < 0) = False := eq_false (nI_pos (by omega))
  have hkL : (nI k < nI L) = True := eq_true (nI_lt hk (by omega))
  by_cases hc : S 4 j 3 = 0
  · simp only [c27, r27_0, r27_1, r27_2, r27_5, r27_8, r27_11, r27_12, r27_13, r27_16, r27_17, r27_20, r27_21, r27_22, r27_23, r27_26, r27_27, r27_30, r27_31, r27_34, r27_37, r27_38, r27_39, r27_42, r27_43, r27_46, r27_47, r27_50, r27_53, r27_54, r27_55, r27_58, r27_61, r27_62, r27_65, up_same, hw, hc, k12 M S g hL, hk0, hkL, b10, hv, htn, k7, wr_up, cbI_some, cbV_some, reduceIte, cUl]
  · simp only [c27, r27_0, r27_1, r27_2, r27_5, r27_8, r27_11, r27_12, r27_13, r27_16, r27_17, r27_20, r27_21, r27_22, r27_23, r27_26, r27_27, r27_30, r27_31, r27_34, r27_37, r27_38, r27_39, r27_42, r27_43, r27_46, r27_47, r27_50, r27_53, r27_54, r27_55, r27_58, r27_61, r27_62, r27_65, up_same, hw, hc, k12 M S g hL, hk0, hkL, b10, hv, htn, k6, wr_up, cbI_some, cbV_some, reduceIte, cUl]
theorem m121 (M : Mm) (N : Nm) {j k : Nat} (hj : j < 3) (hk : k < 4) (hw : N 21 0 j = nI k) : call 121 [aR 4 12 0, aI (nI j)] (va_up M 4 N) = some (none, va_up M 4 (mCt N j k)) := by
  have hv : vpB (nI k) 4 = true := vp_t (by omega) (by decide)
  have htn : (nI k).toNatClampNeg = k := tn (n := 4) (by omega) (by decide)
  have hvj := vp_t hj (by decide)
  have htj := tn hj (by decide)
  by_cases hc : N 22 0 j = 1
  · simp only [c121, r121_0, r121_1, r121_4, r121_5, r121_6, r121_7, r121_8, r121_11, r121_12, r121_13, r121_14, r121_17, r121_18, r121_21, r121_22, r121_23, r121_24, r121_27, r121_28, r121_29, r121_30, r121_33, r121_34, r121_35, r121_36, r121_37, r121_40, r121_41, r121_43, r121_46, r121_47, r121_50, r121_51, r121_54, r121_55, r121_56, r121_57, r121_60, r121_61, r121_62, r121_63, r121_66, r121_67, r121_68, r121_69, r121_72, r121_75, r121_76, r121_77, r121_78, r121_79, r121_80, r121_83, r121_84, r121_85, r121_88, up_same, hw, hc, hv, htn, hvj, htj, v7_1, v7_2, tn1, tn2, m120, m117 M _ hj, wr_up, cbI_some, cbV_some, reduceIte, mCt, mHe, wn_if, wn_k, ne_eq, Nat.reduceEqDiff, not_false_eq_true]
  · simp only [c121, r121_0, r121_1, r121_4, r121_5, r121_6, r121_7, r121_8, r121_11, r121_12, r121_13, r121_14, r121_17, r121_18, r121_21, r121_22, r121_23, r121_24, r121_27, r121_28, r121_29, r121_30, r121_33, r121_34, r121_35, r121_36, r121_37, r121_40, r121_41, r121_43, r121_46, r121_47, r121_50, r121_51, r121_54, r121_55, r121_56, r121_57, r121_60, r121_61, r121_62, r121_63, r121_66, r121_67, r121_68, r121_69, r121_72, r121_75, r121_76, r121_77, r121_78, r121_79, r121_80, r121_83, r121_84, r121_85, r121_88, up_same, hw, hc, hv, htn, hvj, htj, v7_1, v7_2, tn1, tn2, m120, m117 M _ hj, wr_up, cbI_some, cbV_some, reduceIte, mCt, mHe, wn_if, wn_k, ne_eq, Nat.reduceEqDiff, not_false_eq_true]
theorem fr_ct {N0 N : Nm} (h : FrN N0 N) (j k : Nat) : FrN N0 (mCt N j k) := by
  unfold mCt
  refine fr_bg ?_ _ _ _
  split
  · exact (h.wr12 32 _ (by decide) (by decide) (by decide)).wr 17 k _ (by decide)
  · exact (h.wr12 32 _ (by decide) (by decide) (by decide)).wr 18 k _ (by decide)
section Spend
variable {S N : Nm} {T L m t b j : Nat} {u : Nat → Nat}
/-- what both sides do for one busy mate -/
def SpB (T : Nat) (S N : Nm) (L m t b : Nat) (u : Nat → Nat) (j : Nat) : Prop := ∃ (S' N' : Nm), Rl T S' N' L m t b u ∧ FrN N N' ∧ (∀ (M : Mm) (g : Nat), call 26 [aR g 0 0, aR g 4 j] (va_up M g S) = some (none, va_up M g S')) ∧ (∀ (M : Mm) (l1 l3 : AV), run 124 143 [aR 4 12 0, l1, aI (nI j), l3] [] (va_up M 4 N) = run 124 167 [aR 4 12 0, l1, aI (nI j), l3] [] (va_up M 4 N'))
theorem sp_on (h : Rl T S N L m t b u) (hj : j < 3) {c : Nat} (hc : 2 ≤ c) (hc2 : c ≤ 20) (hd : ¬ N 19 0 j = 0) (h1 : S 4 j 1 = nI c) (h2 : N 20 0 j = nI c) : SpB T S N L m t b u j := by
  obtain ⟨d, rfl⟩ : ∃ d, c = d + 1 := ⟨c - 1, by omega⟩
  have hpos : (0 < nI d) = True := eq_true (nI_lt (a := 0) (b := d) (by omega) (by omega))
  have hne : (nI d = 0) = False := eq_false (nI_ne0 (by omega) (by omega))
  have hvj := vp_t hj (by decide)
  have htj := tn hj (by decide)
  refine ⟨wrN S 4 j 1 (nI d), wrN N 20 0 j (nI d), ?_, (FrN.rf N).wr 20 j _ (by decide), fun M g => ?_, fun M l1 l3 => ?_⟩
  · obtain ⟨hC, hT1, hT2, hB, hS, hM⟩ := h
    refine ⟨?_, ?_, ?_, ?_, ?_, ?_, ?_⟩
    · simpa only [RCf, wn_k, ne_eq, Nat.reduceEqDiff, not_false_eq_true] using hC
    · simpa only [RT1, wn_k, ne_eq, Nat.reduceEqDiff, not_false_eq_true] using hT1
    · simpa only [RT2, wn_k, ne_eq, Nat.reduceEqDiff, not_false_eq_true] using hT2
    · simpa only [RBg, wn_k, ne_eq, Nat.reduceEqDiff, not_false_eq_true] using hB
    · simpa only [RLs, wn_k, ne_eq, Nat.reduceEqDiff, not_false_eq_true] using hS
    · intro q hq
      have hx := hM.1 q hq
      by_cases hqj : q = j
      · subst hqj
        simp only [RMt, wn_if, wn_k, ne_eq, Nat.reduceEqDiff, not_false_eq_true, reduceIte] at hx ⊢
        obtain ⟨e0, hx | ⟨a1, a2, a3, a4, -⟩ | ⟨a1, a2, a3, a4, a5, a6, -⟩⟩ := hx
        · exact absurd hx.1 hd
        · exact ⟨e0, Or.inr (Or.inl ⟨a1, trivial, a3, a4, d, by omega, by omega, rfl⟩)⟩
        · exact ⟨e0, Or.inr (Or.inr ⟨a1, trivial, a3, a4, a5, a6, d, by omega, by omega, rfl⟩)⟩
      · simpa only [RMt, wn_if, wn_k, wn_i, hqj, ne_eq, Nat.reduceEqDiff, not_false_eq_true, reduceIte] using hx
    · simpa only [wn_k, ne_eq, Nat.reduceEqDiff, not_false_eq_true] using hM.2
  · simp only [c26, r26_0, r26_1, r26_2, r26_5, r26_6, r26_7, r26_10, r26_11, r26_14, r26_17, r26_18, r26_19, r26_22, r26_23, r26_26, r26_27, r26_28, r26_31, r26_32, r26_33, r26_34, r26_37, r26_40, r26_41, r26_42, r26_45, r26_46, r26_49, r26_50, r26_51, r26_54, r26_55, r26_58, r26_59, r26_62, r26_65, r26_68, r26_69, r26_70, r26_71, r26_74, up_same, h1, nI_pred, wr_up, wn_if, hpos, reduceIte]
  · simp only [r124_0, r124_1, r124_4, r124_5, r124_6, r124_7, r124_8, r124_9, r124_12, r124_13, r124_14, r124_17, r124_18, r124_21, r124_22, r124_23, r124_26, r124_27, r124_28, r124_31, r124_34, r124_37, r124_38, r124_39, r124_40, r124_41, r124_44, r124_47, r124_48, r124_51, r124_52, r124_53, r124_54, r124_55, r124_56, r124_59, r124_60, r124_63, r124_66, r124_67, r124_70, r124_71, r124_72, r124_73, r124_76, r124_77, r124_78, r124_81, r124_82, r124_83, r124_86, r124_89, r124_92, r124_95, r124_96, r124_97, r124_100, r124_101, r124_104, r124_105, r124_106, r124_107, r124_110, r124_111, r124_114, r124_115, r124_116, r124_119, r124_120, r124_121, r124_122, r124_123, r124_126, r124_127, r124_128, r124_131, r124_132, r124_135, r124_136, r124_137, r124_140, r124_143, r124_144, r124_147, r124_148, r124_149, r124_150, r124_151, r124_152, r124_153, r124_154, r124_157, r124_158, r124_159, r124_162, r124_163, r124_164, r124_170, r124_173, r124_174, r124_175, r124_178, r124_179, r124_180, r124_183, r124_184, r124_185, r124_188, r124_189, r124_190, r124_193, up_same, h2, hvj, htj, nI_pred, wr_up, wn_if, hne, reduceIte]
theorem sp_mix (h : Rl T S N L m t b u) (hj : j < 3) (hd : N 19 0 j = 1) (h1 : S 4 j 1 = 1) (h2 : N 20 0 j = 1) : SpB T S N L m t b u j := by
  have hvj := vp_t hj (by decide)
  have htj := tn hj (by decide)
  obtain ⟨hC, hT1, hT2, hB, hS, hM⟩ := h
  have e0 : S 4 j 0 = 1 := (hM.1 j hj).1.trans hd
  have e12 : ¬ (1 : Int32) = 2 := by decide +kernel
  have p0 : ¬ (0 : Int32) < 0 := by decide +kernel
  refine ⟨cBg (wrN (wrN S 4 j 1 0) 0 0 8 (cMi (S 0 0 8 + S 0 0 7) 240)) j 0 0, wrN (wrN (wrN N 20 0 j 0) 14 0 5 (mLe (N 14 0 5 + N 14 0 4) 240)) 19 0 j 0, ?_, (((FrN.rf N).wr 20 j _ (by decide)).wr14 _).wr 19 j _ (by decide), fun M g => ?_, fun M l1 l3 => ?_⟩
  · refine ⟨?_, ?_, ?_, ?_, ?_, ?_, ?_⟩
    · obtain ⟨c1, c2, c3, c4, c5, c6, c7, c8, c9, c10, c11, c12, c13, c14, c15, c16, c17, c18⟩ := hC
      simp only [RCf, cBg, wn_if, wn_k, ne_eq, Nat.reduceEqDiff, not_false_eq_true, reduceIte]
      exact ⟨c1, c2, c3, c4, c5, c6, c7, c8, c9, c10, c11, by rw [c12, c11, mLe_eq], c13, c14, c15, c16, c17, c18⟩
    · simpa only [RT1, cBg, wn_if, wn_k, ne_eq, Nat.reduceEqDiff, not_false_eq_true, reduceIte] using hT1
    · simpa only [RT2, cBg, wn_if, wn_k, ne_eq, Nat.reduceEqDiff, not_false_eq_true, reduceIte] using hT2
    · simpa only [RBg, cBg, wn_if, wn_k, ne_eq, Nat.reduceEqDiff, not_false_eq_true, reduceIte] using hB
    · simpa only [RLs, cBg, wn_if, wn_k, ne_eq, Nat.reduceEqDiff, not_false_eq_true, reduceIte] using hS
    · intro q hq
      have hx := hM.1 q hq
      by_cases hqj : q = j
      · subst hqj
        simp only [RMt, cBg, wn_if, wn_k, ne_eq, Nat.reduceEqDiff, not_false_eq_true, reduceIte]
        exact ⟨trivial, Or.inl ⟨trivial, trivial, trivial, trivial⟩⟩
      · simpa only [RMt, cBg, wn_if, wn_k, wn_i, hqj, ne_eq, Nat.reduceEqDiff, not_false_eq_true, reduceIte] using hx
    · intro q hq1 hq2
      have := hM.2 q hq1 hq2
      by_cases hqj : q = j
      · subst hqj
        rw [wn_eq]
      · simpa only [wn_if, wn_k, hqj, ne_eq, Nat.reduceEqDiff, not_false_eq_true, reduceIte] using this
  · simp only [c26, r26_0, r26_1, r26_2, r26_5, r26_6, r26_7, r26_10, r26_11, r26_14, r26_17, r26_18, r26_19, r26_22, r26_23, r26_26, r26_27, r26_28, r26_31, r26_32, r26_33, r26_34, r26_37, r26_40, r26_41, r26_42, r26_45, r26_46, r26_49, r26_50, r26_51, r26_54, r26_55, r26_58, r26_59, r26_62, r26_65, r26_68, r26_69, r26_70, r26_71, r26_74, up_same, h1, e0, e12, p0, one_m, k9, wr_up, wn_if, wn_k, cbV_some, reduceIte, ne_eq, Nat.reduceEqDiff, not_false_eq_true]
    rfl
  · simp only [r124_0, r124_1, r124_4, r124_5, r124_6, r124_7, r124_8, r124_9, r124_12, r124_13, r124_14, r124_17, r124_18, r124_21, r124_22, r124_23, r124_26, r124_27, r124_28, r124_31, r124_34, r124_37, r124_38, r124_39, r124_40, r124_41, r124_44, r124_47, r124_48, r124_51, r124_52, r124_53, r124_54, r124_55, r124_56, r124_59, r124_60, r124_63, r124_66, r124_67, r124_70, r124_71, r124_72, r124_73, r124_76, r124_77, r124_78, r124_81, r124_82, r124_83, r124_86, r124_89, r124_92, r124_95, r124_96, r124_97, r124_100, r124_101, r124_104, r124_105, r124_106, r124_107, r124_110, r124_111, r124_114, r124_115, r124_116, r124_119, r124_120, r124_121, r124_122, r124_123, r124_126, r124_127, r124_128, r124_131, r124_132, r124_135, r124_136, r124_137, r124_140, r124_143, r124_144, r124_147, r124_148, r124_149, r124_150, r124_151, r124_152, r124_153, r124_154, r124_157, r124_158, r124_159, r124_162, r124_163, r124_164, r124_170, r124_173, r124_174, r124_175, r124_178, r124_179, r124_180, r124_183, r124_184, r124_185, r124_188, r124_189, r124_190, r124_193, c122, r122_0, r122_1, r122_4, r122_5, r122_6, r122_7, r122_10, r122_11, r122_14, r122_15, r122_16, r122_19, r122_20, r122_21, r122_22, r122_25, r122_26, r122_27, r122_28, r122_31, r122_34, r122_35, r122_36, r122_39, r122_40, r122_41, r122_42, r122_45, r122_46, r122_47, r122_50, r122_53, r122_54, r122_57, r122_58, r122_59, r122_60, up_same, h2, hd, e12, hvj, htj, v7_5, v7_4, tn5, tn4, m109, one_m, wr_up, wn_if, wn_k, cbI_some, cbV_some, reduceIte, ne_eq, Nat.reduceEqDiff, not_false_eq_true]
theorem sp_down (h : Rl T S N L m t b u) (hj : j < 3) (hd : N 19 0 j = 3) (h1 : S 4 j 1 = 1) (h2 : N 20 0 j = 1) : SpB T S N L m t b u j := by
  have hvj := vp_t hj (by decide)
  have htj := tn hj (by decide)
  obtain ⟨hC, hT1, hT2, hB, hS, hM⟩ := h
  have e0 : S 4 j 0 = 3 := (hM.1 j hj).1.trans hd
  have e12 : ¬ (3 : Int32) = 2 := by decide +kernel
  have e31 : ¬ (3 : Int32) = 1 := by decide +kernel
  have p0 : ¬ (0 : Int32) < 0 := by decide +kernel
  refine ⟨cBg (wrN S 4 j 1 0) j 0 0, wrN (wrN N 20 0 j 0) 19 0 j 0, ?_, ((FrN.rf N).wr 20 j _ (by decide)).wr 19 j _ (by decide), fun M g => ?_, fun M l1 l3 => ?_⟩
  · refine ⟨?_, ?_, ?_, ?_, ?_, ?_, ?_⟩
    · simpa only [RCf, cBg, wn_if, wn_k, ne_eq, Nat.reduceEqDiff, not_false_eq_true, reduceIte] using hC
    · simpa only [RT1, cBg, wn_if, wn_k, ne_eq, Nat.reduceEqDiff, not_false_eq_true, reduceIte] using hT1
    · simpa only [RT2, cBg, wn_if, wn_k, ne_eq, Nat.reduceEqDiff, not_false_eq_true, reduceIte] using hT2
    · simpa only [RBg, cBg, wn_if, wn_k, ne_eq, Nat.reduceEqDiff, not_false_eq_true, reduceIte] using hB
    · simpa only [RLs, cBg, wn_if, wn_k, ne_eq, Nat.reduceEqDiff, not_false_eq_true, reduceIte] using hS
    · intro q hq
      have hx := hM.1 q hq
      by_cases hqj : q = j
      · subst hqj
        simp only [RMt, cBg, wn_if, wn_k, ne_eq, Nat.reduceEqDiff, not_false_eq_true, reduceIte]
        exact ⟨trivial, Or.inl ⟨trivial, trivial, trivial, trivial⟩⟩
      · simpa only [RMt, cBg, wn_if, wn_k, wn_i, hqj, ne_eq, Nat.reduceEqDiff, not_false_eq_true, reduceIte] using hx
    · intro q hq1 hq2
      have := hM.2 q hq1 hq2
      by_cases hqj : q = j
      · subst hqj
        rw [wn_eq]
      · simpa only [wn_if, wn_k, hqj, ne_eq, Nat.reduceEqDiff, not_false_eq_true, reduceIte] using this
  · simp only [c26, r26_0, r26_1, r26_2, r26_5, r26_6, r26_7, r26_10, r26_11, r26_14, r26_17, r26_18, r26_19, r26_22, r26_23, r26_26, r26_27, r26_28, r26_31, r26_32, r26_33, r26_34, r26_37, r26_40, r26_41, r26_42, r26_45, r26_46, r26_49, r26_50, r26_51, r26_54, r26_55, r26_58, r26_59, r26_62, r26_65, r26_68, r26_69, r26_70, r26_71, r26_74, up_same, h1, e0, e12, e31, p0, one_m, k9, wr_up, wn_if, wn_k, cbV_some, reduceIte, ne_eq, Nat.reduceEqDiff, not_false_eq_true]
  · simp only [r124_0, r124_1, r124_4, r124_5, r124_6, r124_7, r124_8, r124_9, r124_12, r124_13, r124_14, r124_17, r124_18, r124_21, r124_22, r124_23, r124_26, r124_27, r124_28, r124_31, r124_34, r124_37, r124_38, r124_39, r124_40, r124_41, r124_44, r124_47, r124_48, r124_51, r124_52, r124_53, r124_54, r124_55, r124_56, r124_59, r124_60, r124_63, r124_66, r124_67, r124_70, r124_71, r124_72, r124_73, r124_76, r124_77, r124_78, r124_81, r124_82, r124_83, r124_86, r124_89, r124_92, r124_95, r124_96, r124_97, r124_100, r124_101, r124_104, r124_105, r124_106, r124_107, r124_110, r124_111, r124_114, r124_115, r124_116, r124_119, r124_120, r124_121, r124_122, r124_123, r124_126, r124_127, r124_128, r124_131, r124_132, r124_135, r124_136, r124_137, r124_140, r124_143, r124_144, r124_147, r124_148, r124_149, r124_150, r124_151, r124_152, r124_153, r124_154, r124_157, r124_158, r124_159, r124_162, r124_163, r124_164, r124_170, r124_173, r124_174, r124_175, r124_178, r124_179, r124_180, r124_183, r124_184, r124_185, r124_188, r124_189, r124_190, r124_193, c122, r122_0, r122_1, r122_4, r122_5, r122_6, r122_7, r122_10, r122_11, r122_14, r122_15, r122_16, r122_19, r122_20, r122_21, r122_22, r122_25, r122_26, r122_27, r122_28, r122_31, r122_34, r122_35, r122_36, r122_39, r122_40, r122_41, r122_42, r122_45, r122_46, r122_47, r122_50, r122_53, r122_54, r122_57, r122_58, r122_59, r122_60, up_same, h2, hd, e12, e31, hvj, htj, one_m, wr_up, wn_if, wn_k, cbI_some, cbV_some, reduceIte, ne_eq, Nat.reduceEqDiff, not_false_eq_true]
theorem sp_up (h : Rl T S N L m t b u) (hj : j < 3) (hjm : j < m) (hd : N 19 0 j = 2) (h1 : S 4 j 1 = 1) (h2 : N 20 0 j = 1) : SpB T S N L m t b u j := by
  have hvj := vp_t hj (by decide)
  have htj := tn hj (by decide)
  obtain ⟨hC, hT1, hT2, hB, hS, hM⟩ := h
  obtain ⟨e0, hx⟩ := hM.1 j hj
  rw [hd] at e0
  have e21 : ¬ (2 : Int32) = 1 := by decide +kernel
  have p0 : ¬ (0 : Int32) < 0 := by decide +kernel
  obtain ⟨k, hk, hw, hS2, hz, hS3⟩ : ∃ k, k < L ∧ N 21 0 j = nI k ∧ S 4 j 2 = nI k ∧ (N 22 0 j = 0 ∨ N 22 0 j = 1) ∧ S 4 j 3 = N 22 0 j := by
    rcases hx with ⟨a, -⟩ | ⟨a | a, -⟩ | ⟨-, -, a3, a4, a5, ⟨k, a6, a7⟩, -⟩
    · rw [hd] at a; exact absurd a (by decide +kernel)
    · rw [hd] at a; exact absurd a (by decide +kernel)
    · rw [hd] at a; exact absurd a (by decide +kernel)
    · exact ⟨k, a6, a7, a3.trans a7, a5, a4⟩
  have hL4 := hC.1
  have hL1 : S 0 0 1 = nI L := hC.2.2.2.1
  have hu := k27 (j := j) (k := k) (L := L) (S := wrN S 4 j 1 0)
  refine ⟨cBg (cUl (wrN S 4 j 1 0) j k) j 3 (S 0 0 5), mCt (wrN N 20 0 j 0) j k, ?_, fr_ct ((FrN.rf N).wr 20 j _ (by decide)) j k, fun M g => ?_, fun M l1 l3 => ?_⟩
  · obtain ⟨c1, c2, c3, c4, c5, c6, c7, c8, c9, c10, c11, c12, c13, c14, c15, c16, c17, c18⟩ := id hC
    obtain ⟨a1, a2, a3, a4, a5, a6, a7, a8⟩ := id hT1
    obtain ⟨r0, r1, r2, r3, r4, r5, r6, r7, r8, r9, r10⟩ := hS k hk
    have cases2 : (S 4 j 3 = 0 ∧ N 22 0 j = 0) ∨ (S 4 j 3 = 1 ∧ N 22 0 j = 1) := by
      rcases hz with hz | hz
      · exact Or.inl ⟨hS3.trans hz, hz⟩
      · exact Or.inr ⟨hS3.trans hz, hz⟩
    have b01 : ¬ (0 : Int32) = 1 := by decide +kernel
    rcases cases2 with ⟨z1, z2⟩ | ⟨z1, z2⟩
    · refine ⟨?_, ?_, ?_, ?_, ?_, ?_, ?_⟩
      · simpa only [RCf, cBg, cUl, cBk, mCt, mBg, mHe, z1, z2, b01, wn_if, wn_k, ne_eq, Nat.reduceEqDiff, not_false_eq_true, reduceIte] using hC
      · simp only [RT1, cBg, cUl, cBk, mCt, mBg, mHe, z1, z2, b01, wn_if, wn_k, ne_eq, Nat.reduceEqDiff, not_false_eq_true, reduceIte]
        exact ⟨a1, a2, a3, a4, a5, by rw [mi_sub, a6, r5, c8], a7, a8⟩
      · simpa only [RT2, cBg, cUl, cBk, mCt, mBg, mHe, z1, z2, b01, wn_if, wn_k, ne_eq, Nat.reduceEqDiff, not_false_eq_true, reduceIte] using hT2
      · simpa only [RBg, cBg, cUl, cBk, mCt, mBg, mHe, z1, z2, b01, wn_if, wn_k, ne_eq, Nat.reduceEqDiff, not_false_eq_true, reduceIte] using hB
      · intro q hq
        by_cases hqk : q = k
        · subst hqk
          simp only [RLy, cBg, cUl, cBk, mCt, mBg, mHe, z1, z2, b01, wn_if, wn_k, ne_eq, Nat.reduceEqDiff, not_false_eq_true, reduceIte]
          exact ⟨r0, r1, r2, r3, r4, by rw [mLe_eq, r5, c8], r6, r7, r8, r9, r10⟩
        · simpa only [RLy, cBg, cUl, cBk, mCt, mBg, mHe, z1, z2, b01, wn_if, wn_k, wn_i, hqk, ne_eq, Nat.reduceEqDiff, not_false_eq_true, reduceIte] using hS q hq
      · intro q hq
        by_cases hqj : q = j
        · subst hqj
          obtain ⟨a, a1, a2, ha⟩ := c17
          simp only [RMt, cBg, cUl, cBk, mCt, mBg, mHe, z1, z2, b01, wn_if, wn_k, ne_eq, Nat.reduceEqDiff, not_false_eq_true, reduceIte]
          exact ⟨trivial, Or.inr (Or.inl ⟨Or.inr trivial, c9, trivial, trivial, a, a1, a2, ha⟩)⟩
        · simpa only [RMt, cBg, cUl, cBk, mCt, mBg, mHe, z1, z2, b01, wn_if, wn_k, wn_i, hqj, ne_eq, Nat.reduceEqDiff, not_false_eq_true, reduceIte] using hM.1 q hq
      · intro q hq1 hq2
        have hqj : q ≠ j := by omega
        simpa only [mCt, mBg, mHe, z2, b01, wn_if, wn_k, hqj, ne_eq, Nat.reduceEqDiff, not_false_eq_true, reduceIte] using hM.2 q hq1 hq2
    · refine ⟨?_, ?_, ?_, ?_, ?_, ?_, ?_⟩
      · simpa only [RCf, cBg, cUl, cBd, mCt, mBg, mHe, z1, z2, b10, wn_if, wn_k, ne_eq, Nat.reduceEqDiff, not_false_eq_true, reduceIte] using hC
      · simp only [RT1, cBg, cUl, cBd, mCt, mBg, mHe, z1, z2, b10, wn_if, wn_k, ne_eq, Nat.reduceEqDiff, not_false_eq_true, reduceIte]
        exact ⟨a1, a2, a3, a4, a5, by rw [mi_sub, a6, r4, c8, a7, Int32.add_assoc], a7, a8⟩
      · simpa only [RT2, cBg, cUl, cBd, mCt, mBg, mHe, z1, z2, b10, wn_if, wn_k, ne_eq, Nat.reduceEqDiff, not_false_eq_true, reduceIte] using hT2
      · simpa only [RBg, cBg, cUl, cBd, mCt, mBg, mHe, z1, z2, b10, wn_if, wn_k, ne_eq, Nat.reduceEqDiff, not_false_eq_true, reduceIte] using hB
      · intro q hq
        by_cases hqk : q = k
        · subst hqk
          simp only [RLy, cBg, cUl, cBd, mCt, mBg, mHe, z1, z2, b10, wn_if, wn_k, ne_eq, Nat.reduceEqDiff, not_false_eq_true, reduceIte]
          exact ⟨r0, r1, r2, r3, by rw [mLe_eq, r4, c8, a7, Int32.add_assoc], r5, r6, r7, r8, r9, r10⟩
        · simpa only [RLy, cBg, cUl, cBd, mCt, mBg, mHe, z1, z2, b10, wn_if, wn_k, wn_i, hqk, ne_eq, Nat.reduceEqDiff, not_false_eq_true, reduceIte] using hS q hq
      · intro q hq
        by_cases hqj : q = j
        · subst hqj
          obtain ⟨a, a1, a2, ha⟩ := c17
          simp only [RMt, cBg, cUl, cBd, mCt, mBg, mHe, z1, z2, b10, wn_if, wn_k, ne_eq, Nat.reduceEqDiff, not_false_eq_true, reduceIte]
          exact ⟨trivial, Or.inr (Or.inl ⟨Or.inr trivial, c9, trivial, trivial, a, a1, a2, ha⟩)⟩
        · simpa only [RMt, cBg, cUl, cBd, mCt, mBg, mHe, z1, z2, b10, wn_if, wn_k, wn_i, hqj, ne_eq, Nat.reduceEqDiff, not_false_eq_true, reduceIte] using hM.1 q hq
      · intro q hq1 hq2
        have hqj : q ≠ j := by omega
        simpa only [mCt, mBg, mHe, z2, b10, wn_if, wn_k, hqj, ne_eq, Nat.reduceEqDiff, not_false_eq_true, reduceIte] using hM.2 q hq1 hq2
  · have hu2 := hu M g (by simpa only [wn_k, ne_eq, Nat.reduceEqDiff, not_false_eq_true] using hL1) hL4 hk (by simpa only [wn_if, Nat.reduceEqDiff, reduceIte] using hS2)
    have h5 : cUl (wrN S 4 j 1 0) j k 0 0 5 = S 0 0 5 := by
      unfold cUl cBk cBd
      split <;> simp only [wn_if, wn_k, ne_eq, Nat.reduceEqDiff, not_false_eq_true, reduceIte]
    simp only [c26, r26_0, r26_1, r26_2, r26_5, r26_6, r26_7, r26_10, r26_11, r26_14, r26_17, r26_18, r26_19, r26_22, r26_23, r26_26, r26_27, r26_28, r26_31, r26_32, r26_33, r26_34, r26_37, r26_40, r26_41, r26_42, r26_45, r26_46, r26_49, r26_50, r26_51, r26_54, r26_55, r26_58, r26_59, r26_62, r26_65, r26_68, r26_69, r26_70, r26_71, r26_74, up_same, h1, e0, p0, one_m, hu2, k9, wr_up, wn_if, h5, cbV_some, reduceIte, Nat.reduceEqDiff]
  · have hm2 := m121 M (wrN N 20 0 j 0) hj (show k < 4 by omega) (by simpa only [wn_k, ne_eq, Nat.reduceEqDiff, not_false_eq_true] using hw)
    simp only [r124_0, r124_1, r124_4, r124_5, r124_6, r124_7, r124_8, r124_9, r124_12, r124_13, r124_14, r124_17, r124_18, r124_21, r124_22, r124_23, r124_26, r124_27, r124_28, r124_31, r124_34, r124_37, r124_38, r124_39, r124_40, r124_41, r124_44, r124_47, r124_48, r124_51, r124_52, r124_53, r124_54, r124_55, r124_56, r124_59, r124_60, r124_63, r124_66, r124_67, r124_70, r124_71, r124_72, r124_73, r124_76, r124_77, r124_78, r124_81, r124_82, r124_83, r124_86, r124_89, r124_92, r124_95, r124_96, r124_97, r124_100, r124_101, r124_104, r124_105, r124_106, r124_107, r124_110, r124_111, r124_114, r124_115, r124_116, r124_119, r124_120, r124_121, r124_122, r124_123, r124_126, r124_127, r124_128, r124_131, r124_132, r124_135, r124_136, r124_137, r124_140, r124_143, r124_144, r124_147, r124_148, r124_149, r124_150, r124_151, r124_152, r124_153, r124_154, r124_157, r124_158, r124_159, r124_162, r124_163, r124_164, r124_170, r124_173, r124_174, r124_175, r124_178, r124_179, r124_180, r124_183, r124_184, r124_185, r124_188, r124_189, r124_190, r124_193, c122, r122_0, r122_1, r122_4, r122_5, r122_6, r122_7, r122_10, r122_11, r122_14, r122_15, r122_16, r122_19, r122_20, r122_21, r122_22, r122_25, r122_26, r122_27, r122_28, r122_31, r122_34, r122_35, r122_36, r122_39, r122_40, r122_41, r122_42, r122_45, r122_46, r122_47, r122_50, r122_53, r122_54, r122_57, r122_58, r122_59, r122_60, up_same, h2, hd, e21, hvj, htj, one_m, hm2, wr_up, wn_if, wn_k, cbI_some, cbV_some, reduceIte, ne_eq, Nat.reduceEqDiff, not_false_eq_true]
theorem spend_both (h : Rl T S N L m t b u) (hj : j < m) (hd : ¬ N 19 0 j = 0) : SpB T S N L m t b u j := by
  have hm3 : m ≤ 3 := h.1.2.2.1
  obtain ⟨-, hx⟩ := h.2.2.2.2.2.1 j (by omega)
  rcases hx with ⟨a, -⟩ | ⟨a1, a2, -, -, c, c1, c2, c3⟩ | ⟨a1, a2, -, -, -, -, c, c1, c2, c3⟩
  · exact absurd a hd
  · by_cases hc : c = 1
    · subst hc
      have e1 : nI 1 = 1 := by decide +kernel
      rcases a1 with a1 | a1
      · exact sp_mix h (by omega) a1 (by rw [a2, c3, e1]) (by rw [c3, e1])
      · exact sp_down h (by omega) a1 (by rw [a2, c3, e1]) (by rw [c3, e1])
    · exact sp_on h (by omega) (c := c) (by omega) c2 hd (a2.trans c3) c3
  · by_cases hc : c = 1
    · subst hc
      have e1 : nI 1 = 1 := by decide +kernel
      exact sp_up h (by omega) hj a1 (by rw [a2, c3, e1]) (by rw [c3, e1])
    · exact sp_on h (by omega) (c := c) (by omega) c2 hd (a2.trans c3) c3
end Spend
