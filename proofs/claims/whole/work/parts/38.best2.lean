/-! answers: bestRule, bestHod, bestBatch -/
theorem ans_bestRule (x : Int32) : Ans 47 139 [aI x] := by
  intro M h
  obtain ⟨⟨L, m, h0⟩, ⟨hhod, hlat⟩, ⟨hw0, hdr0, hwN, hdN⟩, him, htx, hrw, hrf⟩ := id h
  by_cases g1 : x < 0
  · have gb := mBo_a 240 g1
    refine Ans.no h rf4 ?_ (fun X => ?_)
    · simp only [c47, r47_0, r47_1, r47_2, r47_5, r47_8, r47_9, r47_10, r47_13, r47_14, r47_15, r47_18, r47_19, r47_20, r47_21, r47_22, r47_24, r47_25, r47_27, r47_28, r47_32, r47_35, r47_37, r47_38, r47_41, r47_42, r47_44, r47_46, r47_47, r47_50, r47_52, r47_53, r47_56, r47_59, r47_62, r47_64, r47_66, r47_68, r47_71, r47_73, r47_75, r47_78, r47_80, r47_82, r47_85, r47_87, r47_88, r47_90, r47_92, r47_94, r47_96, r47_99, r47_102, r47_103, up_same, cbI_some, cbV_some, reduceIte, gb, K67, nz4, K66_4]
    · simp only [c139, r139_0, r139_1, r139_2, r139_5, r139_8, r139_9, r139_10, r139_13, r139_14, r139_15, r139_18, r139_19, r139_20, r139_23, r139_25, r139_26, r139_27, r139_28, r139_30, r139_31, r139_33, r139_34, r139_36, r139_37, r139_41, r139_43, r139_46, r139_47, r139_50, r139_52, r139_54, r139_55, r139_56, r139_57, r139_60, r139_61, r139_64, r139_66, r139_67, r139_70, r139_72, r139_75, r139_76, r139_79, r139_81, r139_84, r139_86, r139_88, r139_91, r139_94, r139_96, r139_98, r139_99, r139_102, r139_104, r139_106, r139_108, r139_111, r139_114, r139_115, r139_118, r139_120, r139_121, r139_122, r139_124, up_same, cbI_some, cbV_some, reduceIte, gb, m84, nz4, m81_4]
  by_cases g2 : 240 < x
  · have gb := mBo_b g1 g2
    refine Ans.no h rf6 ?_ (fun X => ?_)
    · simp only [c47, r47_0, r47_1, r47_2, r47_5, r47_8, r47_9, r47_10, r47_13, r47_14, r47_15, r47_18, r47_19, r47_20, r47_21, r47_22, r47_24, r47_25, r47_27, r47_28, r47_32, r47_35, r47_37, r47_38, r47_41, r47_42, r47_44, r47_46, r47_47, r47_50, r47_52, r47_53, r47_56, r47_59, r47_62, r47_64, r47_66, r47_68, r47_71, r47_73, r47_75, r47_78, r47_80, r47_82, r47_85, r47_87, r47_88, r47_90, r47_92, r47_94, r47_96, r47_99, r47_102, r47_103, up_same, cbI_some, cbV_some, reduceIte, gb, K67, nz6, K66_6]
    · simp only [c139, r139_0, r139_1, r139_2, r139_5, r139_8, r139_9, r139_10, r139_13, r139_14, r139_15, r139_18, r139_19, r139_20, r139_23, r139_25, r139_26, r139_27, r139_28, r139_30, r139_31, r139_33, r139_34, r139_36, r139_37, r139_41, r139_43, r139_46, r139_47, r139_50, r139_52, r139_54, r139_55, r139_56, r139_57, r139_60, r139_61, r139_64, r139_66, r139_67, r139_70, r139_72, r139_75, r139_76, r139_79, r139_81, r139_84, r139_86, r139_88, r139_91, r139_94, r139_96, r139_98, r139_99, r139_102, r139_104, r139_106, r139_108, r139_111, r139_114, r139_115, r139_118, r139_120, r139_121, r139_122, r139_124, up_same, cbI_some, cbV_some, reduceIte, gb, m84, nz6, m81_6]
  have gb := mBo_0 g1 g2
  obtain ⟨n, hn, rfl⟩ := of_le (B := 240) (by decide) g1 g2
  obtain ⟨v, Z, Nf, i1, i2, i3⟩ := br_loop (S1 := M 1) (N := M 4) h0 hwN hdN hn 6 0 M (M 4) 0 (-1) 0 (aI 0) none none (aI 0) none (by omega) rfl (by rw [wn_id _ _ _ _ _ rfl]; exact KpN.rf _)
  rw [nI_0] at i1 i3
  refine Ans.th h (Z := Z) (v := v) i2 ?_ (fun X => ?_)
  · simp only [c47, r47_0, r47_1, r47_2, r47_5, r47_8, r47_9, r47_10, r47_13, r47_14, r47_15, r47_18, r47_19, r47_20, r47_21, r47_22, r47_24, r47_25, r47_27, r47_28, r47_32, r47_35, r47_37, r47_38, r47_41, r47_42, r47_44, r47_46, r47_47, r47_50, r47_52, r47_53, r47_56, r47_59, r47_62, r47_64, r47_66, r47_68, r47_71, r47_73, r47_75, r47_78, r47_80, r47_82, r47_85, r47_87, r47_88, r47_90, r47_92, r47_94, r47_96, r47_99, r47_102, r47_103, up_same, cbI_some, cbV_some, reduceIte, gb, K67, i1]
  · simp only [c139, r139_0, r139_1, r139_2, r139_5, r139_8, r139_9, r139_10, r139_13, r139_14, r139_15, r139_18, r139_19, r139_20, r139_23, r139_25, r139_26, r139_27, r139_28, r139_30, r139_31, r139_33, r139_34, r139_36, r139_37, r139_41, r139_43, r139_46, r139_47, r139_50, r139_52, r139_54, r139_55, r139_56, r139_57, r139_60, r139_61, r139_64, r139_66, r139_67, r139_70, r139_72, r139_75, r139_76, r139_79, r139_81, r139_84, r139_86, r139_88, r139_91, r139_94, r139_96, r139_98, r139_99, r139_102, r139_104, r139_106, r139_108, r139_111, r139_114, r139_115, r139_118, r139_120, r139_121, r139_122, r139_124, up_same, cbI_some, cbV_some, reduceIte, gb, m84, v7_6, tn6, i3]
theorem bestHod_loop {S1 N : Nm} {L m n : Nat} (h0 : R0 S1 N L m) (hwN : N 12 0 37 = 0) (hdN : N 12 0 38 = 100000) (hn : n ≤ 240) : ∀ (k r : Nat) (M : Mm) (Nr : Nm) (best most : Int32) (l7 k2 k6 : AV), r + k = 31 → M 1 = S1 → KpN N Nr → ∃ (v : Int32) (Z Nf : Nm), run 74 17 [aR 0 7 0, aI 1, aI 1, aI (nI n), aI best, aI most, aI (nI (10 + 1 * r)), l7] [] M = some (some v, va_up M 2 Z) ∧ KpN N Nf ∧ ∀ X : Mm, run 141 29 [aR 4 12 0, aI (nI n), k2, aI best, aI most, aI (nI (10 + 1 * r)), k6] [] (va_up X 4 Nr) = some (some v, va_up X 4 Nf) := by
  intro k
  induction k with
  | zero =>
    intro r M Nr best most l7 k2 k6 hr hM hk
    have : r = 31 := by omega
    subst this
    have t1 : (40 < nI (10 + 1 * 31)) = True := by decide +kernel
    have t2 : (nI (10 + 1 * 31) < 41) = False := by decide +kernel
    refine ⟨best, M 2, _, ?_, hk, fun X => ?_⟩
    · rw [up_id, r74_17]
      simp only [r74_0, r74_3, r74_4, r74_5, r74_7, r74_8, r74_10, r74_13, r74_14, r74_15, r74_19, r74_22, r74_23, r74_24, r74_27, r74_28, r74_29, r74_31, r74_32, r74_35, r74_37, r74_39, r74_41, r74_44, r74_46, r74_48, r74_50, r74_52, r74_54, r74_55, r74_56, r74_58, r74_61, r74_63, v7_1, tn1, st34, t1, reduceIte]
    · rw [r141_29]
      simp only [r141_0, r141_1, r141_2, r141_5, r141_8, r141_9, r141_10, r141_13, r141_14, r141_15, r141_18, r141_19, r141_21, r141_22, r141_23, r141_25, r141_27, r141_31, r141_33, r141_36, r141_37, r141_38, r141_40, r141_41, r141_44, r141_46, r141_48, r141_50, r141_53, r141_56, r141_58, r141_59, r141_61, r141_63, r141_66, r141_69, r141_70, t2, reduceIte]
  | succ k ih =>
    intro r M Nr best most l7 k2 k6 hr hM hk
    have t1 : (40 < nI (10 + 1 * r)) = False := by
      have : nI 40 = 40 := by decide +kernel
      rw [← this, nIlt (by omega) (by omega)]
      exact eq_false (by omega)
    have t2 : (nI (10 + 1 * r) < 41) = True := by
      have : nI 41 = 41 := by decide +kernel
      rw [← this, nIlt (by omega) (by omega)]
      exact eq_true (by omega)
    have hR : R0 (M 1) Nr L m := by rw [hM]; exact h0.cf hk.1
    obtain ⟨Z, Ne, ho, hs, hm⟩ := thinkQ (q := 1) (a := 10 + 1 * r) hR (hk.w12.1.trans hwN) (hk.w12.2.trans hdN) hn (by decide) (by decide) (fun z => by omega)
    have hkb := kp_back (q := 1) (by decide) ho.2.1
    have m1 := fun X => m140 (by decide) (hm X)
    have vq : nI 1 = 1 := by decide +kernel
    rw [vq] at hs
    simp only [vq] at m1
    have hM' : va_up M 2 Z 1 = S1 := by rw [up_ne _ _ (by decide)]; exact hM
    have hnx : 10 + 1 * r + 1 = 10 + 1 * (r + 1) := by omega
    by_cases c1 : most < Ne 12 0 29
    · obtain ⟨v, Z2, Nf, i1, i2, i3⟩ := ih (r + 1) (va_up M 2 Z) (wrN Ne 14 0 1 (Nr 14 0 1)) (nI (10 + 1 * r)) (Ne 12 0 29) (aI (Ne 12 0 29)) k2 (aI (Ne 12 0 29)) (by omega) hM' (hk.tr hkb)
      rw [up_up] at i1
      refine ⟨v, Z2, Nf, ?_, i2, fun X => ?_⟩
      · rw [r74_17]
        simp only [r74_0, r74_3, r74_4, r74_5, r74_7, r74_8, r74_10, r74_13, r74_14, r74_15, r74_19, r74_22, r74_23, r74_24, r74_27, r74_28, r74_29, r74_31, r74_32, r74_35, r74_37, r74_39, r74_41, r74_44, r74_46, r74_48, r74_50, r74_52, r74_54, r74_55, r74_56, r74_58, r74_61, r74_63, v7_1, tn1, st34, t1, hs, cbI_some, c1, nI_1, hnx, i1, reduceIte]
      · rw [r141_29]
        simp only [r141_0, r141_1, r141_2, r141_5, r141_8, r141_9, r141_10, r141_13, r141_14, r141_15, r141_18, r141_19, r141_21, r141_22, r141_23, r141_25, r141_27, r141_31, r141_33, r141_36, r141_37, r141_38, r141_40, r141_41, r141_44, r141_46, r141_48, r141_50, r141_53, r141_56, r141_58, r141_59, r141_61, r141_63, r141_66, r141_69, r141_70, t2, m1, cbI_some, c1, nI_1, hnx, i3, reduceIte]
    · obtain ⟨v, Z2, Nf, i1, i2, i3⟩ := ih (r + 1) (va_up M 2 Z) (wrN Ne 14 0 1 (Nr 14 0 1)) best most (aI (Ne 12 0 29)) k2 (aI (Ne 12 0 29)) (by omega) hM' (hk.tr hkb)
      rw [up_up] at i1
      refine ⟨v, Z2, Nf, ?_, i2, fun X => ?_⟩
      · rw [r74_17]
        simp only [r74_0, r74_3, r74_4, r74_5, r74_7, r74_8, r74_10, r74_13, r74_14, r74_15, r74_19, r74_22, r74_23, r74_24, r74_27, r74_28, r74_29, r74_31, r74_32, r74_35, r74_37, r74_39, r74_41, r74_44, r74_46, r74_48, r74_50, r74_52, r74_54, r74_55, r74_56, r74_58, r74_61, r74_63, v7_1, tn1, st34, t1, hs, cbI_some, c1, nI_1, hnx, i1, reduceIte]
      · rw [r141_29]
        simp only [r141_0, r141_1, r141_2, r141_5, r141_8, r141_9, r141_10, r141_13, r141_14, r141_15, r141_18, r141_19, r141_21, r141_22, r141_23, r141_25, r141_27, r141_31, r141_33, r141_36, r141_37, r141_38, r141_40, r141_41, r141_44, r141_46, r141_48, r141_50, r141_53, r141_56, r141_58, r141_59, r141_61, r141_63, r141_66, r141_69, r141_70, t2, m1, cbI_some, c1, nI_1, hnx, i3, reduceIte]
theorem ans_bestHod (x : Int32) : Ans 48 141 [aI x] := by
  intro M h
  obtain ⟨⟨L, m, h0⟩, ⟨hhod, hlat⟩, ⟨hw0, hdr0, hwN, hdN⟩, him, htx, hrw, hrf⟩ := id h
  by_cases g1 : x < 0
  · have gb := mBo_a 240 g1
    refine Ans.no h rf4 ?_ (fun X => ?_)
    · simp only [c48, r48_0, r48_1, r48_2, r48_5, r48_8, r48_9, r48_10, r48_13, r48_14, r48_15, r48_18, r48_21, r48_22, r48_23, r48_24, r48_25, r48_28, up_same, cbI_some, cbV_some, reduceIte, gb, K67, nz4, K66_4]
    · simp only [c141, r141_0, r141_1, r141_2, r141_5, r141_8, r141_9, r141_10, r141_13, r141_14, r141_15, r141_18, r141_19, r141_21, r141_22, r141_23, r141_25, r141_27, r141_31, r141_33, r141_36, r141_37, r141_38, r141_40, r141_41, r141_44, r141_46, r141_48, r141_50, r141_53, r141_56, r141_58, r141_59, r141_61, r141_63, r141_66, r141_69, r141_70, up_same, cbI_some, cbV_some, reduceIte, gb, m84, nz4, m81_4]
  by_cases g2 : 240 < x
  · have gb := mBo_b g1 g2
    refine Ans.no h rf6 ?_ (fun X => ?_)
    · simp only [c48, r48_0, r48_1, r48_2, r48_5, r48_8, r48_9, r48_10, r48_13, r48_14, r48_15, r48_18, r48_21, r48_22, r48_23, r48_24, r48_25, r48_28, up_same, cbI_some, cbV_some, reduceIte, gb, K67, nz6, K66_6]
    · simp only [c141, r141_0, r141_1, r141_2, r141_5, r141_8, r141_9, r141_10, r141_13, r141_14, r141_15, r141_18, r141_19, r141_21, r141_22, r141_23, r141_25, r141_27, r141_31, r141_33, r141_36, r141_37, r141_38, r141_40, r141_41, r141_44, r141_46, r141_48, r141_50, r141_53, r141_56, r141_58, r141_59, r141_61, r141_63, r141_66, r141_69, r141_70, up_same, cbI_some, cbV_some, reduceIte, gb, m84, nz6, m81_6]
  have gb := mBo_0 g1 g2
  obtain ⟨n, hn, rfl⟩ := of_le (B := 240) (by decide) g1 g2
  obtain ⟨v, Z, Nf, i1, i2, i3⟩ := bestHod_loop (S1 := M 1) (N := M 4) h0 hwN hdN hn 31 0 M (M 4) 10 (-1) none (aI 0) none (by omega) rfl (KpN.rf _)
  have eb : nI (10 + 1 * 0) = 10 := by decide +kernel
  rw [eb] at i1
  simp only [eb] at i3
  refine Ans.th h (Z := Z) (v := v) i2 ?_ (fun X => ?_)
  · simp only [c48, r48_0, r48_1, r48_2, r48_5, r48_8, r48_9, r48_10, r48_13, r48_14, r48_15, r48_18, r48_21, r48_22, r48_23, r48_24, r48_25, r48_28, c74, r74_0, r74_3, r74_4, r74_5, r74_7, r74_8, r74_10, r74_13, r74_14, r74_15, r74_19, r74_22, r74_23, r74_24, r74_27, r74_28, r74_29, r74_31, r74_32, r74_35, r74_37, r74_39, r74_41, r74_44, r74_46, r74_48, r74_50, r74_52, r74_54, r74_55, r74_56, r74_58, r74_61, r74_63, v7_1, tn1, st34, up_same, cbI_some, cbV_some, reduceIte, gb, K67, i1]
  · simp only [c141, r141_0, r141_1, r141_2, r141_5, r141_8, r141_9, r141_10, r141_13, r141_14, r141_15, r141_18, r141_19, r141_21, r141_22, r141_23, r141_25, r141_27, r141_31, r141_33, r141_36, r141_37, r141_38, r141_40, r141_41, r141_44, r141_46, r141_48, r141_50, r141_53, r141_56, r141_58, r141_59, r141_61, r141_63, r141_66, r141_69, r141_70, up_same, cbI_some, cbV_some, reduceIte, gb, m84, i3]
theorem nI_10 (a : Nat) : nI a + 10 = nI (a + 10) := nI_add a 10
theorem bestBatch_loop {S1 N : Nm} {L m n : Nat} (h0 : R0 S1 N L m) (hwN : N 12 0 37 = 0) (hdN : N 12 0 38 = 100000) (hn : n ≤ 240) : ∀ (k r : Nat) (M : Mm) (Nr : Nm) (best most : Int32) (l7 k2 k6 : AV), r + k = 11 → M 1 = S1 → KpN N Nr → ∃ (v : Int32) (Z Nf : Nm), run 74 17 [aR 0 7 0, aI 4, aI 10, aI (nI n), aI best, aI most, aI (nI (20 + 10 * r)), l7] [] M = some (some v, va_up M 2 Z) ∧ KpN N Nf ∧ ∀ X : Mm, run 142 29 [aR 4 12 0, aI (nI n), k2, aI best, aI most, aI (nI (20 + 10 * r)), k6] [] (va_up X 4 Nr) = some (some v, va_up X 4 Nf) := by
  intro k
  induction k with
  | zero =>
    intro r M Nr best most l7 k2 k6 hr hM hk
    have : r = 11 := by omega
    subst this
    have t1 : (120 < nI (20 + 10 * 11)) = True := by decide +kernel
    have t2 : (nI (20 + 10 * 11) < 121) = False := by decide +kernel
    refine ⟨best, M 2, _, ?_, hk, fun X => ?_⟩
    · rw [up_id, r74_17]
      simp only [r74_0, r74_3, r74_4, r74_5, r74_7, r74_8, r74_10, r74_13, r74_14, r74_15, r74_19, r74_22, r74_23, r74_24, r74_27, r74_28, r74_29, r74_31, r74_32, r74_35, r74_37, r74_39, r74_41, r74_44, r74_46, r74_48, r74_50, r74_52, r74_54, r74_55, r74_56, r74_58, r74_61, r74_63, v7_4, tn4, st34, t1, reduceIte]
    · rw [r142_29]
      simp only [r142_0, r142_1, r142_2, r142_5, r142_8, r142_9, r142_10, r142_13, r142_14, r142_15, r142_18, r142_19, r142_21, r142_22, r142_23, r142_25, r142_27, r142_31, r142_33, r142_36, r142_37, r142_38, r142_40, r142_41, r142_44, r142_46, r142_48, r142_50, r142_53, r142_56, r142_58, r142_59, r142_61, r142_63, r142_66, r142_69, r142_70, t2, reduceIte]
  | succ k ih =>
    intro r M Nr best most l7 k2 k6 hr hM hk
    have t1 : (120 < nI (20 + 10 * r)) = False := by
      have : nI 120 = 120 := by decide +kernel
      rw [← this, nIlt (by omega) (by omega)]
      exact eq_false (by omega)
    have t2 : (nI (20 + 10 * r) < 121) = True := by
      have : nI 121 = 121 := by decide +kernel
      rw [← this, nIlt (by omega) (by omega)]
      exact eq_true (by omega)
    have hR : R0 (M 1) Nr L m := by rw [hM]; exact h0.cf hk.1
    obtain ⟨Z, Ne, ho, hs, hm⟩ := thinkQ (q := 4) (a := 20 + 10 * r) hR (hk.w12.1.trans hwN) (hk.w12.2.trans hdN) hn (by decide) (by decide) (fun z => by omega)
    have hkb := kp_back (q := 4) (by decide) ho.2.1
    have m1 := fun X => m140 (by decide) (hm X)
    have vq : nI 4 = 4 := by decide +kernel
    rw [vq] at hs
    simp only [vq] at m1
    have hM' : va_up M 2 Z 1 = S1 := by rw [up_ne _ _ (by decide)]; exact hM
    have hnx : 20 + 10 * r + 10 = 20 + 10 * (r + 1) := by omega
    by_cases c1 : most < Ne 12 0 29
    · obtain ⟨v, Z2, Nf, i1, i2, i3⟩ := ih (r + 1) (va_up M 2 Z) (wrN Ne 14 0 4 (Nr 14 0 4)) (nI (20 + 10 * r)) (Ne 12 0 29) (aI (Ne 12 0 29)) k2 (aI (Ne 12 0 29)) (by omega) hM' (hk.tr hkb)
      rw [up_up] at i1
      refine ⟨v, Z2, Nf, ?_, i2, fun X => ?_⟩
      · rw [r74_17]
        simp only [r74_0, r74_3, r74_4, r74_5, r74_7, r74_8, r74_10, r74_13, r74_14, r74_15, r74_19, r74_22, r74_23, r74_24, r74_27, r74_28, r74_29, r74_31, r74_32, r74_35, r74_37, r74_39, r74_41, r74_44, r74_46, r74_48, r74_50, r74_52, r74_54, r74_55, r74_56, r74_58, r74_61, r74_63, v7_4, tn4, st34, t1, hs, cbI_some, c1, nI_10, hnx, i1, reduceIte]
      · rw [r142_29]
        simp only [r142_0, r142_1, r142_2, r142_5, r142_8, r142_9, r142_10, r142_13, r142_14, r142_15, r142_18, r142_19, r142_21, r142_22, r142_23, r142_25, r142_27, r142_31, r142_33, r142_36, r142_37, r142_38, r142_40, r142_41, r142_44, r142_46, r142_48, r142_50, r142_53, r142_56, r142_58, r142_59, r142_61, r142_63, r142_66, r142_69, r142_70, t2, m1, cbI_some, c1, nI_10, hnx, i3, reduceIte]
    · obtain ⟨v, Z2, Nf, i1, i2, i3⟩ := ih (r + 1) (va_up M 2 Z) (wrN Ne 14 0 4 (Nr 14 0 4)) best most (aI (Ne 12 0 29)) k2 (aI (Ne 12 0 29)) (by omega) hM' (hk.tr hkb)
      rw [up_up] at i1
      refine ⟨v, Z2, Nf, ?_, i2, fun X => ?_⟩
      · rw [r74_17]
        simp only [r74_0, r74_3, r74_4, r74_5, r74_7, r74_8, r74_10, r74_13, r74_14, r74_15, r74_19, r74_22, r74_23, r74_24, r74_27, r74_28, r74_29, r74_31, r74_32, r74_35, r74_37, r74_39, r74_41, r74_44, r74_46, r74_48, r74_50, r74_52, r74_54, r74_55, r74_56, r74_58, r74_61, r74_63, v7_4, tn4, st34, t1, hs, cbI_some, c1, nI_10, hnx, i1, reduceIte]
      · rw [r142_29]
        simp only [r142_0, r142_1, r142_2, r142_5, r142_8, r142_9, r142_10, r142_13, r142_14, r142_15, r142_18, r142_19, r142_21, r142_22, r142_23, r142_25, r142_27, r142_31, r142_33, r142_36, r142_37, r142_38, r142_40, r142_41, r142_44, r142_46, r142_48, r142_50, r142_53, r142_56, r142_58, r142_59, r142_61, r142_63, r142_66, r142_69, r142_70, t2, m1, cbI_some, c1, nI_10, hnx, i3, reduceIte]
theorem ans_bestBatch (x : Int32) : Ans 49 142 [aI x] := by
  intro M h
  obtain ⟨⟨L, m, h0⟩, ⟨hhod, hlat⟩, ⟨hw0, hdr0, hwN, hdN⟩, him, htx, hrw, hrf⟩ := id h
  by_cases g1 : x < 0
  · have gb := mBo_a 240 g1
    refine Ans.no h rf4 ?_ (fun X => ?_)
    · simp only [c49, r49_0, r49_1, r49_2, r49_5, r49_8, r49_9, r49_10, r49_13, r49_14, r49_15, r49_18, r49_21, r49_22, r49_23, r49_25, r49_26, r49_29, up_same, cbI_some, cbV_some, reduceIte, gb, K67, nz4, K66_4]
    · simp only [c142, r142_0, r142_1, r142_2, r142_5, r142_8, r142_9, r142_10, r142_13, r142_14, r142_15, r142_18, r142_19, r142_21, r142_22, r142_23, r142_25, r142_27, r142_31, r142_33, r142_36, r142_37, r142_38, r142_40, r142_41, r142_44, r142_46, r142_48, r142_50, r142_53, r142_56, r142_58, r142_59, r142_61, r142_63, r142_66, r142_69, r142_70, up_same, cbI_some, cbV_some, reduceIte, gb, m84, nz4, m81_4]
  by_cases g2 : 240 < x
  · have gb := mBo_b g1 g2
    refine Ans.no h rf6 ?_ (fun X => ?_)
    · simp only [c49, r49_0, r49_1, r49_2, r49_5, r49_8, r49_9, r49_10, r49_13, r49_14, r49_15, r49_18, r49_21, r49_22, r49_23, r49_25, r49_26, r49_29, up_same, cbI_some, cbV_some, reduceIte, gb, K67, nz6, K66_6]
    · simp only [c142, r142_0, r142_1, r142_2, r142_5, r142_8, r142_9, r142_10, r142_13, r142_14, r142_15, r142_18, r142_19, r142_21, r142_22, r142_23, r142_25, r142_27, r142_31, r142_33, r142_36, r142_37, r142_38, r142_40, r142_41, r142_44, r142_46, r142_48, r142_50, r142_53, r142_56, r142_58, r142_59, r142_61, r142_63, r142_66, r142_69, r142_70, up_same, cbI_some, cbV_some, reduceIte, gb, m84, nz6, m81_6]
  have gb := mBo_0 g1 g2
  obtain ⟨n, hn, rfl⟩ := of_le (B := 240) (by decide) g1 g2
  obtain ⟨v, Z, Nf, i1, i2, i3⟩ := bestBatch_loop (S1 := M 1) (N := M 4) h0 hwN hdN hn 11 0 M (M 4) 20 (-1) none (aI 0) none (by omega) rfl (KpN.rf _)
  have eb : nI (20 + 10 * 0) = 20 := by decide +kernel
  rw [eb] at i1
  simp only [eb] at i3
  refine Ans.th h (Z := Z) (v := v) i2 ?_ (fun X => ?_)
  · simp only [c49, r49_0, r49_1, r49_2, r49_5, r49_8, r49_9, r49_10, r49_13, r49_14, r49_15, r49_18, r49_21, r49_22, r49_23, r49_25, r49_26, r49_29, c74, r74_0, r74_3, r74_4, r74_5, r74_7, r74_8, r74_10, r74_13, r74_14, r74_15, r74_19, r74_22, r74_23, r74_24, r74_27, r74_28, r74_29, r74_31, r74_32, r74_35, r74_37, r74_39, r74_41, r74_44, r74_46, r74_48, r74_50, r74_52, r74_54, r74_55, r74_56, r74_58, r74_61, r74_63, v7_4, tn4, st34, up_same, cbI_some, cbV_some, reduceIte, gb, K67, i1]
  · simp only [c142, r142_0, r142_1, r142_2, r142_5, r142_8, r142_9, r142_10, r142_13, r142_14, r142_15, r142_18, r142_19, r142_21, r142_22, r142_23, r142_25, r142_27, r142_31, r142_33, r142_36, r142_37, r142_38, r142_40, r142_41, r142_44, r142_46, r142_48, r142_50, r142_53, r142_56, r142_58, r142_59, r142_61, r142_63, r142_66, r142_69, r142_70, up_same, cbI_some, cbV_some, reduceIte, gb, m84, i3]
