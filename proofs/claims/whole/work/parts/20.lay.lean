/-! a layer's minute: lay and layerGoes; all of them -/
def cBy (S : Nm) (i : Nat) : Int32 := if S 2 i 3 < 1 then 0 else S 2 i 4 / S 2 i 3
def cBr (S : Nm) (i : Nat) (t : Int32) : Int32 := cMi (cWn S i t) (cMi (cBy S i) (S 2 i 5))
def cL1 (S : Nm) (i : Nat) (t : Int32) : Nm := if cBr S i t < cWn S i t then wrN S 2 i 6 (S 2 i 6 + 1) else S
def cL2 (S : Nm) (i : Nat) (t : Int32) : Nm := if cBy S i < cWn S i t then wrN (cL1 S i t) 2 i 7 (S 2 i 7 + 1) else cL1 S i t
def cLy (S : Nm) (i : Nat) (t : Int32) : Nm := wrN (wrN (cL2 S i t) 2 i 4 (S 2 i 4 - cBr S i t * S 2 i 3)) 2 i 5 (S 2 i 5 - cBr S i t)
def mL1 (N : Nm) (k : Nat) : Nm := if mLa N k < mWo N k then (if N 17 0 k / mUn (N 15 0 k) < mWo N k then wrN (wrN N 28 0 k (N 28 0 k + 1)) 29 0 k (N 29 0 k + 1) else wrN (wrN N 28 0 k (N 28 0 k + 1)) 30 0 k (N 30 0 k + 1)) else N
def mLg (N : Nm) (k : Nat) : Nm := wrN (wrN (wrN (mL1 N k) 17 0 k (N 17 0 k - mLa N k * mUn (N 15 0 k))) 18 0 k (N 18 0 k - mLa N k)) 12 0 29 (N 12 0 29 + mLa N k)
theorem k5 (M : Mm) (S : Nm) (g i : Nat) (t : Int32) (hu : ¬ S 2 i 3 < 1) (hu0 : ¬ S 2 i 3 = 0) : call 5 [aR g 2 i, aI t] (va_up M g S) = some (some (cBr S i t), va_up M g (cLy S i t)) := by
  have hy : cBy S i = S 2 i 4 / S 2 i 3 := by unfold cBy; rw [if_neg hu]
  have e1 : ∀ a b : Int32, (if b < a then b else a) = cMi a b := fun a b => rfl
  by_cases c1 : cBr S i t < cWn S i t
  · by_cases c2 : cBy S i < cWn S i t
    · unfold cBr at c1
      rw [hy] at c1 c2
      simp only [c5, r5_0, r5_1, r5_2, r5_5, r5_6, r5_7, r5_10, r5_11, r5_14, r5_15, r5_18, r5_19, r5_22, r5_23, r5_26, r5_27, r5_28, r5_29, r5_30, r5_31, r5_34, r5_37, r5_40, r5_42, r5_44, r5_45, r5_48, r5_49, r5_50, r5_53, r5_54, r5_55, r5_58, r5_59, r5_60, r5_63, r5_64, r5_65, r5_68, r5_69, r5_70, r5_73, r5_74, r5_75, r5_78, r5_80, r5_81, r5_84, r5_85, r5_86, r5_89, r5_90, r5_91, r5_94, r5_96, r5_97, r5_100, r5_102, up_same, k3, cbI_some, hu, hu0, reduceIte, e1, c1, c2, wr_up, wn_if, Nat.reduceEqDiff, cLy, cL2, cL1, cBr, hy]
    · unfold cBr at c1
      rw [hy] at c1 c2
      simp only [c5, r5_0, r5_1, r5_2, r5_5, r5_6, r5_7, r5_10, r5_11, r5_14, r5_15, r5_18, r5_19, r5_22, r5_23, r5_26, r5_27, r5_28, r5_29, r5_30, r5_31, r5_34, r5_37, r5_40, r5_42, r5_44, r5_45, r5_48, r5_49, r5_50, r5_53, r5_54, r5_55, r5_58, r5_59, r5_60, r5_63, r5_64, r5_65, r5_68, r5_69, r5_70, r5_73, r5_74, r5_75, r5_78, r5_80, r5_81, r5_84, r5_85, r5_86, r5_89, r5_90, r5_91, r5_94, r5_96, r5_97, r5_100, r5_102, up_same, k3, cbI_some, hu, hu0, reduceIte, e1, c1, c2, wr_up, wn_if, Nat.reduceEqDiff, cLy, cL2, cL1, cBr, hy]
  · by_cases c2 : cBy S i < cWn S i t
    · unfold cBr at c1
      rw [hy] at c1 c2
      simp only [c5, r5_0, r5_1, r5_2, r5_5, r5_6, r5_7, r5_10, r5_11, r5_14, r5_15, r5_18, r5_19, r5_22, r5_23, r5_26, r5_27, r5_28, r5_29, r5_30, r5_31, r5_34, r5_37, r5_40, r5_42, r5_44, r5_45, r5_48, r5_49, r5_50, r5_53, r5_54, r5_55, r5_58, r5_59, r5_60, r5_63, r5_64, r5_65, r5_68, r5_69, r5_70, r5_73, r5_74, r5_75, r5_78, r5_80, r5_81, r5_84, r5_85, r5_86, r5_89, r5_90, r5_91, r5_94, r5_96, r5_97, r5_100, r5_102, up_same, k3, cbI_some, hu, hu0, reduceIte, e1, c1, c2, wr_up, wn_if, Nat.reduceEqDiff, cLy, cL2, cL1, cBr, hy]
    · unfold cBr at c1
      rw [hy] at c1 c2
      simp only [c5, r5_0, r5_1, r5_2, r5_5, r5_6, r5_7, r5_10, r5_11, r5_14, r5_15, r5_18, r5_19, r5_22, r5_23, r5_26, r5_27, r5_28, r5_29, r5_30, r5_31, r5_34, r5_37, r5_40, r5_42, r5_44, r5_45, r5_48, r5_49, r5_50, r5_53, r5_54, r5_55, r5_58, r5_59, r5_60, r5_63, r5_64, r5_65, r5_68, r5_69, r5_70, r5_73, r5_74, r5_75, r5_78, r5_80, r5_81, r5_84, r5_85, r5_86, r5_89, r5_90, r5_91, r5_94, r5_96, r5_97, r5_100, r5_102, up_same, k3, cbI_some, hu, hu0, reduceIte, e1, c1, c2, wr_up, wn_if, Nat.reduceEqDiff, cLy, cL2, cL1, cBr, hy]
theorem m123 (M : Mm) (N : Nm) {k : Nat} (hk : k < 4) : call 123 [aR 4 12 0, aI (nI k)] (va_up M 4 N) = some (none, va_up M 4 (mLg N k)) := by
  have hv := vp_t hk (by decide)
  have ht := tn hk (by decide)
  by_cases c1 : mLa N k < mWo N k
  · by_cases c2 : N 17 0 k / mUn (N 15 0 k) < mWo N k
    · simp only [c123, r123_0, r123_1, r123_2, r123_5, r123_6, r123_7, r123_8, r123_11, r123_12, r123_13, r123_14, r123_17, r123_18, r123_21, r123_22, r123_23, r123_24, r123_25, r123_26, r123_27, r123_28, r123_31, r123_32, r123_33, r123_34, r123_37, r123_38, r123_39, r123_42, r123_43, r123_44, r123_47, r123_48, r123_51, r123_52, r123_53, r123_54, r123_55, r123_56, r123_57, r123_60, r123_61, r123_64, r123_65, r123_66, r123_67, r123_68, r123_69, r123_70, r123_71, r123_74, r123_75, r123_76, r123_77, r123_78, r123_79, r123_82, r123_83, r123_84, r123_87, r123_88, r123_89, r123_90, r123_91, r123_94, r123_95, r123_96, r123_97, r123_98, r123_99, r123_100, r123_101, r123_102, r123_105, r123_106, r123_107, r123_110, up_same, m108 M N hk, m110 M N hk, m107, mUn0, cbI_some, hv, ht, reduceIte, c1, c2, wr_up, wn_if, wn_k, ne_eq, Nat.reduceEqDiff, not_false_eq_true, mLg, mL1]
    · simp only [c123, r123_0, r123_1, r123_2, r123_5, r123_6, r123_7, r123_8, r123_11, r123_12, r123_13, r123_14, r123_17, r123_18, r123_21, r123_22, r123_23, r123_24, r123_25, r123_26, r123_27, r123_28, r123_31, r123_32, r123_33, r123_34, r123_37, r123_38, r123_39, r123_42, r123_43, r123_44, r123_47, r123_48, r123_51, r123_52, r123_53, r123_54, r123_55, r123_56, r123_57, r123_60, r123_61, r123_64, r123_65, r123_66, r123_67, r123_68, r123_69, r123_70, r123_71, r123_74, r123_75, r123_76, r123_77, r123_78, r123_79, r123_82, r123_83, r123_84, r123_87, r123_88, r123_89, r123_90, r123_91, r123_94, r123_95, r123_96, r123_97, r123_98, r123_99, r123_100, r123_101, r123_102, r123_105, r123_106, r123_107, r123_110, up_same, m108 M N hk, m110 M N hk, m107, mUn0, cbI_some, hv, ht, reduceIte, c1, c2, wr_up, wn_if, wn_k, ne_eq, Nat.reduceEqDiff, not_false_eq_true, mLg, mL1]
  · simp only [c123, r123_0, r123_1, r123_2, r123_5, r123_6, r123_7, r123_8, r123_11, r123_12, r123_13, r123_14, r123_17, r123_18, r123_21, r123_22, r123_23, r123_24, r123_25, r123_26, r123_27, r123_28, r123_31, r123_32, r123_33, r123_34, r123_37, r123_38, r123_39, r123_42, r123_43, r123_44, r123_47, r123_48, r123_51, r123_52, r123_53, r123_54, r123_55, r123_56, r123_57, r123_60, r123_61, r123_64, r123_65, r123_66, r123_67, r123_68, r123_69, r123_70, r123_71, r123_74, r123_75, r123_76, r123_77, r123_78, r123_79, r123_82, r123_83, r123_84, r123_87, r123_88, r123_89, r123_90, r123_91, r123_94, r123_95, r123_96, r123_97, r123_98, r123_99, r123_100, r123_101, r123_102, r123_105, r123_106, r123_107, r123_110, up_same, m108 M N hk, m110 M N hk, m107, mUn0, cbI_some, hv, ht, reduceIte, c1, wr_up, wn_if, wn_k, ne_eq, Nat.reduceEqDiff, not_false_eq_true, mLg, mL1]
theorem mLe_l (a b : Int32) : mLe a b ≤ b := by
  unfold mLe
  split
  · exact Int32.le_of_lt (by assumption)
  · exact Int32.le_refl b
theorem mLe_a (a b : Int32) : mLe a b ≤ a := by
  unfold mLe
  split
  · exact Int32.le_refl a
  · exact Int32.not_lt.mp (by assumption)
section Lay
variable {S N : Nm} {L m t b : Nat} {u : Nat → Nat}
/-- the two of a layer are alike -/
theorem lay_eq (hS : RLs S N L u) (h10 : S 0 0 10 = N 12 0 11) {i : Nat} (hi : i < L) : cWn S i (S 0 0 10) = mWo N i ∧ cBy S i = N 17 0 i / mUn (N 15 0 i) ∧ cBr S i (S 0 0 10) = mLa N i := by
  obtain ⟨r0, r1, r2, r3, r4, r5, -, -, -, hp, -⟩ := hS i hi
  obtain ⟨-, -, u3, u4⟩ := us_ok _ hp (N 15 0 i)
  have e1 : cWn S i (S 0 0 10) = mWo N i := by
    unfold cWn mWo
    rw [r0, r2, h10]
    rfl
  have e2 : cBy S i = N 17 0 i / mUn (N 15 0 i) := by
    unfold cBy
    rw [r3, if_neg u4, r4]
  refine ⟨e1, e2, ?_⟩
  unfold cBr mLa
  rw [e1, e2, r5, mLe_eq, mLe_eq]
/-- whether a layer stands, and what becomes of it -/
theorem lay_rel (hS : RLs S N L u) (h10 : S 0 0 10 = N 12 0 11) {i c : Nat} (hi : i < L) (hc : N 28 0 i = nI c) (hcu : c ≤ u i) : RLy (cLy S i (S 0 0 10) 2 i) (mLg N i 15 0 i) (mLg N i 16 0 i) (mLg N i 17 0 i) (mLg N i 18 0 i) (mLg N i 28 0 i) (mLg N i 29 0 i) (mLg N i 30 0 i) (u i + 1) ∧ mLg N i 28 0 i = nI (if mLa N i < mWo N i then c + 1 else c) ∧ cLy S i (S 0 0 10) 2 i 6 = nI (if mLa N i < mWo N i then c + 1 else c) := by
  obtain ⟨e1, e2, e3⟩ := lay_eq hS h10 hi
  obtain ⟨r0, r1, r2, r3, r4, r5, r6, r7, r8, r9, -⟩ := hS i hi
  by_cases c1 : mLa N i < mWo N i
  · by_cases c2 : N 17 0 i / mUn (N 15 0 i) < mWo N i
    · simp only [cLy, cL2, cL1, mLg, mL1, e1, e2, e3, c1, c2, if_true, RLy, wn_if, wn_k, ne_eq, Nat.reduceEqDiff, not_false_eq_true, reduceIte]
      refine ⟨⟨r0, r1, r2, r3, by rw [r4, r3], by rw [r5], by rw [r6], by rw [r7], ?_, r9, c + 1, by omega, by rw [hc, nI_1]⟩, by rw [hc, nI_1], by rw [r6, hc, nI_1]⟩
      rw [← r8]
      grind
    · simp only [cLy, cL2, cL1, mLg, mL1, e1, e2, e3, c1, c2, if_true, RLy, wn_if, wn_k, ne_eq, Nat.reduceEqDiff, not_false_eq_true, reduceIte]
      refine ⟨⟨r0, r1, r2, r3, by rw [r4, r3], by rw [r5], by rw [r6], r7, ?_, r9, c + 1, by omega, by rw [hc, nI_1]⟩, by rw [hc, nI_1], by rw [r6, hc, nI_1]⟩
      rw [← r8]
      grind
  · have c2 : ¬ N 17 0 i / mUn (N 15 0 i) < mWo N i := by
      intro hlt
      apply c1
      unfold mLa
      exact Int32.lt_of_le_of_lt (Int32.le_trans (mLe_l _ _) (mLe_a _ _)) hlt
    simp only [cLy, cL2, cL1, mLg, mL1, e1, e2, e3, c1, c2, if_false, RLy, wn_if, wn_k, ne_eq, Nat.reduceEqDiff, not_false_eq_true, reduceIte]
    exact ⟨⟨r0, r1, r2, r3, by rw [r4, r3], by rw [r5], r6, r7, r8, r9, c, by omega, hc⟩, hc, by rw [r6, hc]⟩
end Lay
