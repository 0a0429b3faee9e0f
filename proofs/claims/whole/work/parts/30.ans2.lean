/-! answers: letter, row, put, set -/
theorem TI.ch {A A' S1 S3 N N' : Nm} (h : TI A S1 S3 N) (hcf : CfE N N') (h37 : N' 12 0 37 = N 12 0 37) (h38 : N' 12 0 38 = N 12 0 38) (h22 : N' 12 0 22 = N 12 0 22) (h27 : N' 27 = N 27) (h7 : A' 7 0 3 = A 7 0 3) (tx : TxR A' N') (rw' : RwR A' N') (rf : RFs A' N') : TI A' S1 S3 N' := by
  obtain ⟨⟨L, m, h1⟩, h2, ⟨h3, h4, h5, h6⟩, h8, -, -, -⟩ := h
  exact ⟨⟨L, m, h1.cf hcf⟩, ⟨h2.1.cf hcf, h2.2.trans (hcf 12 12 (by decide +kernel)).symm⟩, ⟨h3, h4, h37.trans h5, h38.trans h6⟩, h8.kp h7 h22 (fun j _ => by rw [h27]), tx, rw', rf⟩
theorem TI.st {A S1 S1' S3 N N' : Nm} (h : TI A S1 S3 N) (hr : ∃ L m, R0 S1' N' L m) (hh : HodB N') (hl : S1' 0 0 12 = N' 12 0 12) (hw : S1' 0 0 13 = 0) (hd : ∀ q, q < 241 → nI q < S1' 0 0 14) (hf : FrQ N N') : TI A S1' S3 N' := by
  obtain ⟨-, -, ⟨-, -, h5, h6⟩, h8, ⟨c, t1, t2, t3, t4⟩, ⟨d, u1, u2, u3, u4⟩, h9⟩ := h
  refine ⟨hr, ⟨hh, hl⟩, ⟨hw, hd, (hf.2 37 (by decide)).trans h5, (hf.2 38 (by decide)).trans h6⟩, h8.kp rfl (hf.2 22 (by decide)) (fun j _ => by rw [hf.1 27 (by decide)]), ⟨c, t1, t2, (hf.2 18 (by decide)).trans t3, fun q hq => by rw [hf.1 23 (by decide)]; exact t4 q hq⟩, ⟨d, u1, u2, (hf.2 42 (by decide)).trans u3, fun q hq => by rw [hf.1 32 (by decide)]; exact u4 q hq⟩, fun q hq => by rw [hf.1 13 (by decide)]; exact h9 q hq⟩
theorem cf_12 (N : Nm) {k i j : Nat} (v : Int32) (hk : k < 12 ∨ 22 < k ∨ k = 13 ∨ (k = 12 ∧ (j < 10 ∨ 14 ≤ j))) : CfE N (wrN N k i j v) := by
  intro q r h
  by_cases hq : q = 12
  · subst hq
    have hr : 10 ≤ r ∧ r < 14 := by
      refine Decidable.byContradiction (fun z => ?_)
      rw [idx_12 (by omega)] at h
      omega
    rw [wn_ap, if_neg (fun z => by omega)]
  · have hq2 : ¬ (q < 14 ∨ 22 < q) := fun z => by
      rw [idx_k z hq] at h
      omega
    rw [wn_ap, if_neg (fun z => by omega)]
theorem ans_letter (x : Int32) : Ans 37 88 [aI x] := by
  intro M h
  obtain ⟨⟨L, m, h0⟩, ⟨hhod, hlat⟩, ⟨hw0, hdr0, hwN, hdN⟩, him, htx, hrw, hrf⟩ := id h
  obtain ⟨hC, hK, hMs⟩ := id h0
  obtain ⟨c1, c2, c3, c4, c5, c6, c7, c8, c9, c10, c11, c12, c13, c14, c15, c16, c17, c18⟩ := id hC
  obtain ⟨c, tc1, tc2, tc3, tc4⟩ := id htx
  obtain ⟨d, rc1, rc2, rc3, rc4⟩ := id hrw
  have ti := h
  by_cases g1 : x < 0
  · have g1T := eq_true g1
    have gb := mBo_a 255 g1
    have gi := mIn_a 255 g1
    refine Ans.no h rf4 ?_ (fun X => ?_)
    · simp only [c37, r37_0, r37_1, r37_4, r37_5, r37_7, r37_10, r37_11, r37_12, r37_15, r37_18, r37_19, r37_22, r37_25, r37_27, r37_30, r37_31, r37_33, r37_36, r37_37, r37_38, r37_41, r37_42, r37_45, r37_46, r37_49, r37_52, up_same, cbI_some, cbV_some, reduceIte, g1T, tc2, gb, gi, K66_4, nz1, nz2, nz3, nz4, nz6, b10]
    · simp only [c88, r88_0, r88_1, r88_2, r88_5, r88_8, r88_9, r88_10, r88_13, r88_14, r88_17, r88_19, r88_22, r88_24, r88_25, r88_26, r88_29, r88_30, r88_31, r88_34, r88_35, r88_36, r88_39, r88_40, r88_43, r88_44, r88_45, r88_46, r88_47, r88_50, r88_51, r88_52, r88_55, r88_56, r88_59, up_same, cbI_some, cbV_some, reduceIte, g1T, m84, tc3, gb, gi, m81_4, nz1, nz2, nz3, nz4, nz6, b10]
  · skip
    by_cases g2 : 255 < x
    · have g2T := eq_true g2
      have gb := mBo_b g1 g2
      have gi := mIn_b g1 g2
      refine Ans.no h rf6 ?_ (fun X => ?_)
      · simp only [c37, r37_0, r37_1, r37_4, r37_5, r37_7, r37_10, r37_11, r37_12, r37_15, r37_18, r37_19, r37_22, r37_25, r37_27, r37_30, r37_31, r37_33, r37_36, r37_37, r37_38, r37_41, r37_42, r37_45, r37_46, r37_49, r37_52, up_same, cbI_some, cbV_some, reduceIte, g1, g2T, tc2, gb, gi, K66_6, nz1, nz2, nz3, nz4, nz6, b10]
      · simp only [c88, r88_0, r88_1, r88_2, r88_5, r88_8, r88_9, r88_10, r88_13, r88_14, r88_17, r88_19, r88_22, r88_24, r88_25, r88_26, r88_29, r88_30, r88_31, r88_34, r88_35, r88_36, r88_39, r88_40, r88_43, r88_44, r88_45, r88_46, r88_47, r88_50, r88_51, r88_52, r88_55, r88_56, r88_59, up_same, cbI_some, cbV_some, reduceIte, g1, g2T, m84, tc3, gb, gi, m81_6, nz1, nz2, nz3, nz4, nz6, b10]
    · skip
      have gb := mBo_0 g1 g2
      have gi := mIn_1 g1 g2
      by_cases fu : c = 96
      · have fuT := eq_true fu
        subst fu
        clear fuT
        have e96 : nI 96 = 96 := by decide +kernel
        have hlt : ¬ nI 96 < 96 := by decide +kernel
        refine Ans.no h rf6 ?_ (fun X => ?_)
        · simp only [c37, r37_0, r37_1, r37_4, r37_5, r37_7, r37_10, r37_11, r37_12, r37_15, r37_18, r37_19, r37_22, r37_25, r37_27, r37_30, r37_31, r37_33, r37_36, r37_37, r37_38, r37_41, r37_42, r37_45, r37_46, r37_49, r37_52, up_same, cbI_some, cbV_some, reduceIte, g1, g2, tc2, gb, gi, hlt, K66_6, nz1, nz2, nz3, nz4, nz6, b10]
        · simp only [c88, r88_0, r88_1, r88_2, r88_5, r88_8, r88_9, r88_10, r88_13, r88_14, r88_17, r88_19, r88_22, r88_24, r88_25, r88_26, r88_29, r88_30, r88_31, r88_34, r88_35, r88_36, r88_39, r88_40, r88_43, r88_44, r88_45, r88_46, r88_47, r88_50, r88_51, r88_52, r88_55, r88_56, r88_59, up_same, cbI_some, cbV_some, reduceIte, g1, g2, m84, tc3, gb, gi, e96, m81_6, nz1, nz2, nz3, nz4, nz6, b10]
      · skip
        have hv : vpB (nI c) 96 = true := vp_t (by omega) (by decide)
        have htn : (nI c).toNatClampNeg = c := tn (n := 96) (by omega) (by decide)
        have hlt : nI c < 96 := nI_lt (a := c) (b := 96) (by omega) (by decide)
        have hne : ¬ nI c = 96 := fun e => Int32.lt_irrefl (e ▸ hlt)
        obtain ⟨z, hz, rfl⟩ := of_le (B := 255) (by decide) g1 g2
        have start : call 37 [aR 0 7 0, aI (nI z)] M = call 37 [aR 0 7 0, aI (nI z)] (va_up M 0 (M 0)) := by rw [up_id]
        refine Ans.mk (v := nI (c + 1)) (M1 := va_up M 0 (wrN (wrN (M 0) 9 0 c (nI z)) 8 0 1 (nI (c + 1)))) (N' := wrN (wrN (M 4) 23 0 c (nI z)) 12 0 18 (nI (c + 1))) ?_ (up_ne _ _ (by decide)) (fun X => ?_) ?_
        · rw [start]
          simp only [c37, r37_0, r37_1, r37_4, r37_5, r37_7, r37_10, r37_11, r37_12, r37_15, r37_18, r37_19, r37_22, r37_25, r37_27, r37_30, r37_31, r37_33, r37_36, r37_37, r37_38, r37_41, r37_42, r37_45, r37_46, r37_49, r37_52, up_same, cbI_some, cbV_some, reduceIte, g1, g2, tc2, gb, gi, nz1, nz2, nz3, nz4, nz6, b10, c31, r31_0, r31_1, r31_4, r31_5, r31_8, r31_9, r31_12, r31_13, r31_16, r31_17, r31_20, r31_21, r31_22, r31_23, r31_24, r31_27, r31_28, r31_29, r31_32, hv, htn, hlt, wr_up, wn_if, wn_k, nI_1, ne_eq, Nat.reduceEqDiff, not_false_eq_true]
        · simp only [c88, r88_0, r88_1, r88_2, r88_5, r88_8, r88_9, r88_10, r88_13, r88_14, r88_17, r88_19, r88_22, r88_24, r88_25, r88_26, r88_29, r88_30, r88_31, r88_34, r88_35, r88_36, r88_39, r88_40, r88_43, r88_44, r88_45, r88_46, r88_47, r88_50, r88_51, r88_52, r88_55, r88_56, r88_59, up_same, cbI_some, cbV_some, reduceIte, g1, g2, m84, tc3, gb, gi, nz1, nz2, nz3, nz4, nz6, b10, hv, htn, hne, wr_up, wn_if, wn_k, nI_1, ne_eq, Nat.reduceEqDiff, not_false_eq_true]
        · rw [up_same, up_ne _ _ (by decide), up_ne _ _ (by decide)]
          refine TI.ch h ((cf_12 _ _ (by omega)).tr (cf_12 _ _ (by omega))) (by simp only [wn_if, wn_k, ne_eq, Nat.reduceEqDiff, not_false_eq_true, reduceIte]) (by simp only [wn_if, wn_k, ne_eq, Nat.reduceEqDiff, not_false_eq_true, reduceIte]) (by simp only [wn_if, wn_k, ne_eq, Nat.reduceEqDiff, not_false_eq_true, reduceIte]) (by simp only [wn_k, ne_eq, Nat.reduceEqDiff, not_false_eq_true]) (by simp only [wn_k, ne_eq, Nat.reduceEqDiff, not_false_eq_true]) ⟨c + 1, by omega, wn_eq _ _ _ _ _, wn_eq _ _ _ _ _, fun q hq => ?_⟩ ⟨d, rc1, ?_, ?_, fun q hq => ?_⟩ (fun q hq => ?_)
          · simp only [wn_if, wn_k, ne_eq, Nat.reduceEqDiff, not_false_eq_true]
            by_cases e : q = c
            · rw [if_pos e, if_pos e]
              exact ⟨rfl, z, by omega, rfl⟩
            · rw [if_neg e, if_neg e]
              exact tc4 q (by omega)
          · simp only [wn_k, ne_eq, Nat.reduceEqDiff, not_false_eq_true]
            exact rc2
          · simp only [wn_if, wn_k, ne_eq, Nat.reduceEqDiff, not_false_eq_true, reduceIte]
            exact rc3
          · simp only [wn_k, ne_eq, Nat.reduceEqDiff, not_false_eq_true]
            exact rc4 q hq
          · simp only [wn_k, ne_eq, Nat.reduceEqDiff, not_false_eq_true]
            exact hrf q hq
theorem ans_row (x : Int32) : Ans 60 156 [aI x] := by
  intro M h
  obtain ⟨⟨L, m, h0⟩, ⟨hhod, hlat⟩, ⟨hw0, hdr0, hwN, hdN⟩, him, htx, hrw, hrf⟩ := id h
  obtain ⟨hC, hK, hMs⟩ := id h0
  obtain ⟨c1, c2, c3, c4, c5, c6, c7, c8, c9, c10, c11, c12, c13, c14, c15, c16, c17, c18⟩ := id hC
  obtain ⟨c, tc1, tc2, tc3, tc4⟩ := id htx
  obtain ⟨d, rc1, rc2, rc3, rc4⟩ := id hrw
  by_cases g1 : x < 0
  · have g1T := eq_true g1
    have gb := mBo_a 99 g1
    have gi := mIn_a 99 g1
    refine Ans.no h rf4 ?_ (fun X => ?_)
    · simp only [c60, r60_0, r60_1, r60_4, r60_5, r60_7, r60_10, r60_11, r60_12, r60_14, r60_17, r60_18, r60_21, r60_23, r60_26, r60_27, r60_29, r60_32, r60_33, r60_34, r60_37, r60_38, r60_41, r60_42, r60_43, r60_44, r60_45, r60_48, r60_49, r60_50, r60_53, r60_54, r60_57, up_same, cbI_some, cbV_some, reduceIte, g1T, rc2, gb, gi, K66_4, nz1, nz2, nz3, nz4, nz6, b10]
    · simp only [c156, r156_0, r156_1, r156_2, r156_4, r156_7, r156_8, r156_9, r156_12, r156_13, r156_16, r156_18, r156_21, r156_23, r156_24, r156_25, r156_28, r156_29, r156_30, r156_33, r156_34, r156_35, r156_38, r156_39, r156_42, r156_43, r156_44, r156_45, r156_46, r156_49, r156_50, r156_51, r156_54, r156_55, r156_58, up_same, cbI_some, cbV_some, reduceIte, g1T, m84, rc3, gb, gi, m81_4, nz1, nz2, nz3, nz4, nz6, b10]
  · skip
    by_cases g2 : 99 < x
    · have g2T := eq_true g2
      have gb := mBo_b g1 g2
      have gi := mIn_b g1 g2
      refine Ans.no h rf6 ?_ (fun X => ?_)
      · simp only [c60, r60_0, r60_1, r60_4, r60_5, r60_7, r60_10, r60_11, r60_12, r60_14, r60_17, r60_18, r60_21, r60_23, r60_26, r60_27, r60_29, r60_32, r60_33, r60_34, r60_37, r60_38, r60_41, r60_42, r60_43, r60_44, r60_45, r60_48, r60_49, r60_50, r60_53, r60_54, r60_57, up_same, cbI_some, cbV_some, reduceIte, g1, g2T, rc2, gb, gi, K66_6, nz1, nz2, nz3, nz4, nz6, b10]
      · simp only [c156, r156_0, r156_1, r156_2, r156_4, r156_7, r156_8, r156_9, r156_12, r156_13, r156_16, r156_18, r156_21, r156_23, r156_24, r156_25, r156_28, r156_29, r156_30, r156_33, r156_34, r156_35, r156_38, r156_39, r156_42, r156_43, r156_44, r156_45, r156_46, r156_49, r156_50, r156_51, r156_54, r156_55, r156_58, up_same, cbI_some, cbV_some, reduceIte, g1, g2T, m84, rc3, gb, gi, m81_6, nz1, nz2, nz3, nz4, nz6, b10]
    · skip
      have gb := mBo_0 g1 g2
      have gi := mIn_1 g1 g2
      by_cases fu : d = 20
      · have fuT := eq_true fu
        subst fu
        clear fuT
        have e96 : nI 20 = 20 := by decide +kernel
        have hlt : ¬ nI 20 < 20 := by decide +kernel
        refine Ans.no h rf6 ?_ (fun X => ?_)
        · simp only [c60, r60_0, r60_1, r60_4, r60_5, r60_7, r60_10, r60_11, r60_12, r60_14, r60_17, r60_18, r60_21, r60_23, r60_26, r60_27, r60_29, r60_32, r60_33, r60_34, r60_37, r60_38, r60_41, r60_42, r60_43, r60_44, r60_45, r60_48, r60_49, r60_50, r60_53, r60_54, r60_57, up_same, cbI_some, cbV_some, reduceIte, g1, g2, rc2, gb, gi, hlt, K66_6, nz1, nz2, nz3, nz4, nz6, b10]
        · simp only [c156, r156_0, r156_1, r156_2, r156_4, r156_7, r156_8, r156_9, r156_12, r156_13, r156_16, r156_18, r156_21, r156_23, r156_24, r156_25, r156_28, r156_29, r156_30, r156_33, r156_34, r156_35, r156_38, r156_39, r156_42, r156_43, r156_44, r156_45, r156_46, r156_49, r156_50, r156_51, r156_54, r156_55, r156_58, up_same, cbI_some, cbV_some, reduceIte, g1, g2, m84, rc3, gb, gi, e96, m81_6, nz1, nz2, nz3, nz4, nz6, b10]
      · skip
        have hv : vpB (nI d) 20 = true := vp_t (by omega) (by decide)
        have htn : (nI d).toNatClampNeg = d := tn (n := 20) (by omega) (by decide)
        have hlt : nI d < 20 := nI_lt (a := d) (b := 20) (by omega) (by decide)
        have hne : ¬ nI d = 20 := fun e => Int32.lt_irrefl (e ▸ hlt)
        have start : call 60 [aR 0 7 0, aI x] M = call 60 [aR 0 7 0, aI x] (va_up M 0 (M 0)) := by rw [up_id]
        refine Ans.mk (v := nI (d + 1)) (M1 := va_up M 0 (wrN (wrN (M 0) 10 0 d x) 7 0 6 (nI (d + 1)))) (N' := wrN (wrN (M 4) 32 0 d x) 12 0 42 (nI (d + 1))) ?_ (up_ne _ _ (by decide)) (fun X => ?_) ?_
        · rw [start]
          simp only [c60, r60_0, r60_1, r60_4, r60_5, r60_7, r60_10, r60_11, r60_12, r60_14, r60_17, r60_18, r60_21, r60_23, r60_26, r60_27, r60_29, r60_32, r60_33, r60_34, r60_37, r60_38, r60_41, r60_42, r60_43, r60_44, r60_45, r60_48, r60_49, r60_50, r60_53, r60_54, r60_57, up_same, cbI_some, cbV_some, reduceIte, g1, g2, rc2, gb, gi, nz1, nz2, nz3, nz4, nz6, b10, hv, htn, hlt, wr_up, wn_if, wn_k, nI_1, ne_eq, Nat.reduceEqDiff, not_false_eq_true]
        · simp only [c156, r156_0, r156_1, r156_2, r156_4, r156_7, r156_8, r156_9, r156_12, r156_13, r156_16, r156_18, r156_21, r156_23, r156_24, r156_25, r156_28, r156_29, r156_30, r156_33, r156_34, r156_35, r156_38, r156_39, r156_42, r156_43, r156_44, r156_45, r156_46, r156_49, r156_50, r156_51, r156_54, r156_55, r156_58, up_same, cbI_some, cbV_some, reduceIte, g1, g2, m84, rc3, gb, gi, nz1, nz2, nz3, nz4, nz6, b10, hv, htn, hne, wr_up, wn_if, wn_k, nI_1, ne_eq, Nat.reduceEqDiff, not_false_eq_true]
        · rw [up_same, up_ne _ _ (by decide), up_ne _ _ (by decide)]
          refine TI.ch h ((cf_12 _ _ (by omega)).tr (cf_12 _ _ (by omega))) (by simp only [wn_if, wn_k, ne_eq, Nat.reduceEqDiff, not_false_eq_true, reduceIte]) (by simp only [wn_if, wn_k, ne_eq, Nat.reduceEqDiff, not_false_eq_true, reduceIte]) (by simp only [wn_if, wn_k, ne_eq, Nat.reduceEqDiff, not_false_eq_true, reduceIte]) (by simp only [wn_k, ne_eq, Nat.reduceEqDiff, not_false_eq_true]) (by simp only [wn_if, wn_k, ne_eq, Nat.reduceEqDiff, not_false_eq_true, reduceIte]) ⟨c, tc1, ?_, ?_, fun q hq => ?_⟩ ⟨d + 1, by omega, wn_eq _ _ _ _ _, wn_eq _ _ _ _ _, fun q hq => ?_⟩ (fun q hq => ?_)
          · simp only [wn_k, ne_eq, Nat.reduceEqDiff, not_false_eq_true]
            exact tc2
          · simp only [wn_if, wn_k, ne_eq, Nat.reduceEqDiff, not_false_eq_true, reduceIte]
            exact tc3
          · simp only [wn_k, ne_eq, Nat.reduceEqDiff, not_false_eq_true]
            exact tc4 q hq
          · simp only [wn_if, wn_k, ne_eq, Nat.reduceEqDiff, not_false_eq_true]
            by_cases e : q = d
            · rw [if_pos e, if_pos e]
            · rw [if_neg e, if_neg e]
              exact rc4 q (by omega)
          · simp only [wn_k, ne_eq, Nat.reduceEqDiff, not_false_eq_true]
            exact hrf q hq
theorem R0.pb {S N : Nm} {L m : Nat} (h : R0 S N L m) (k : Nat) (v : Int32) : R0 (wrN S 2 k 4 v) (wrN N 17 0 k v) L m := by
  obtain ⟨hC, hK, hM⟩ := h
  refine ⟨?_, fun i hi => ?_, ?_⟩
  · simpa only [RCf, wn_k, ne_eq, Nat.reduceEqDiff, not_false_eq_true] using hC
  · have hx := hK i hi
    by_cases e : i = k
    · subst e
      simp only [RLc, wn_if, wn_k, ne_eq, Nat.reduceEqDiff, not_false_eq_true, reduceIte] at hx ⊢
      obtain ⟨r0, r1, r2, r3, r4, r5, r6⟩ := hx
      exact ⟨r0, r1, r2, r3, trivial, r5, r6⟩
    · simpa only [RLc, wn_if, wn_i, wn_k, e, ne_eq, Nat.reduceEqDiff, not_false_eq_true, reduceIte] using hx
  · simpa only [RMs, wn_k, ne_eq, Nat.reduceEqDiff, not_false_eq_true] using hM
theorem R0.pk {S N : Nm} {L m : Nat} (h : R0 S N L m) (k : Nat) (v : Int32) : R0 (wrN S 2 k 5 v) (wrN N 18 0 k v) L m := by
  obtain ⟨hC, hK, hM⟩ := h
  refine ⟨?_, fun i hi => ?_, ?_⟩
  · simpa only [RCf, wn_k, ne_eq, Nat.reduceEqDiff, not_false_eq_true] using hC
  · have hx := hK i hi
    by_cases e : i = k
    · subst e
      simp only [RLc, wn_if, wn_k, ne_eq, Nat.reduceEqDiff, not_false_eq_true, reduceIte] at hx ⊢
      obtain ⟨r0, r1, r2, r3, r4, r5, r6⟩ := hx
      exact ⟨r0, r1, r2, r3, r4, trivial, r6⟩
    · simpa only [RLc, wn_if, wn_i, wn_k, e, ne_eq, Nat.reduceEqDiff, not_false_eq_true, reduceIte] using hx
  · simpa only [RMs, wn_k, ne_eq, Nat.reduceEqDiff, not_false_eq_true] using hM
theorem ans_put (x w v : Int32) : Ans 40 132 [aI x, aI w, aI v] := by
  intro M h
  obtain ⟨⟨L, m, h0⟩, ⟨hhod, hlat⟩, ⟨hw0, hdr0, hwN, hdN⟩, him, htx, hrw, hrf⟩ := id h
  obtain ⟨hC, hK, hMs⟩ := id h0
  obtain ⟨c1, c2, c3, c4, c5, c6, c7, c8, c9, c10, c11, c12, c13, c14, c15, c16, c17, c18⟩ := id hC
  by_cases f1 : x < 0
  · have f1T := eq_true f1
    refine Ans.no h rf1 ?_ (fun X => ?_)
    · simp only [c40, r40_0, r40_1, r40_4, r40_5, r40_8, r40_11, r40_12, r40_13, r40_16, r40_17, r40_18, r40_21, r40_22, r40_23, r40_26, r40_27, r40_29, r40_32, r40_33, r40_34, r40_35, r40_36, r40_39, r40_41, r40_44, r40_47, r40_50, r40_52, r40_54, r40_57, r40_58, r40_60, r40_63, r40_64, r40_65, r40_68, r40_71, r40_72, r40_73, r40_75, r40_76, r40_79, r40_81, r40_84, r40_87, r40_89, r40_92, r40_94, r40_95, r40_98, r40_100, r40_101, r40_104, r40_107, r40_109, r40_110, r40_113, r40_115, up_same, cbI_some, cbV_some, reduceIte, f1T, K12 c4, K67, K66_1, nz1, nz2, nz3, nz4, nz6, b10]
    · simp only [c132, r132_0, r132_1, r132_2, r132_5, r132_8, r132_9, r132_12, r132_13, r132_14, r132_15, r132_18, r132_21, r132_23, r132_26, r132_27, r132_28, r132_29, r132_32, r132_34, r132_37, r132_40, r132_43, r132_45, r132_47, r132_50, r132_51, r132_53, r132_56, r132_57, r132_58, r132_61, r132_62, r132_65, r132_66, r132_67, r132_70, r132_71, r132_74, r132_75, r132_76, r132_78, r132_79, r132_82, r132_83, r132_86, r132_87, r132_88, r132_89, r132_92, r132_93, r132_96, r132_97, r132_98, r132_99, r132_101, up_same, cbI_some, cbV_some, reduceIte, f1T, m85 X c5, m84, m83, m81_1, nz1, nz2, nz3, nz4, nz6, b10]
  · skip
    by_cases f2 : x < nI L
    · have f2T := eq_true f2
      obtain ⟨k, hk, rfl⟩ := of_lt (by omega) f1 f2
      have hv : vpB (nI k) 4 = true := vp_t (by omega) (by decide)
      have htn : (nI k).toNatClampNeg = k := tn (n := 4) (by omega) (by decide)
      by_cases e1 : w < 0
      · have e1T := eq_true e1
        have ei := mIn_a 1 e1
        refine Ans.no h rf2 ?_ (fun X => ?_)
        · simp only [c40, r40_0, r40_1, r40_4, r40_5, r40_8, r40_11, r40_12, r40_13, r40_16, r40_17, r40_18, r40_21, r40_22, r40_23, r40_26, r40_27, r40_29, r40_32, r40_33, r40_34, r40_35, r40_36, r40_39, r40_41, r40_44, r40_47, r40_50, r40_52, r40_54, r40_57, r40_58, r40_60, r40_63, r40_64, r40_65, r40_68, r40_71, r40_72, r40_73, r40_75, r40_76, r40_79, r40_81, r40_84, r40_87, r40_89, r40_92, r40_94, r40_95, r40_98, r40_100, r40_101, r40_104, r40_107, r40_109, r40_110, r40_113, r40_115, up_same, cbI_some, cbV_some, reduceIte, f1, f2T, e1T, K12 c4, K67, hv, htn, K66_2, nz1, nz2, nz3, nz4, nz6, b10]
        · simp only [c132, r132_0, r132_1, r132_2, r132_5, r132_8, r132_9, r132_12, r132_13, r132_14, r132_15, r132_18, r132_21, r132_23, r132_26, r132_27, r132_28, r132_29, r132_32, r132_34, r132_37, r132_40, r132_43, r132_45, r132_47, r132_50, r132_51, r132_53, r132_56, r132_57, r132_58, r132_61, r132_62, r132_65, r132_66, r132_67, r132_70, r132_71, r132_74, r132_75, r132_76, r132_78, r132_79, r132_82, r132_83, r132_86, r132_87, r132_88, r132_89, r132_92, r132_93, r132_96, r132_97, r132_98, r132_99, r132_101, up_same, cbI_some, cbV_some, reduceIte, f1, f2T, e1T, m85 X c5, m84, m83, hv, htn, ei, m81_2, nz1, nz2, nz3, nz4, nz6, b10]
      · skip
        by_cases e2 : 1 < w
        · have e2T := eq_true e2
          have ei := mIn_b e1 e2
          refine Ans.no h rf2 ?_ (fun X => ?_)
          · simp only [c40, r40_0, r40_1, r40_4, r40_5, r40_8, r40_11, r40_12, r40_13, r40_16, r40_17, r40_18, r40_21, r40_22, r40_23, r40_26, r40_27, r40_29, r40_32, r40_33, r40_34, r40_35, r40_36, r40_39, r40_41, r40_44, r40_47, r40_50, r40_52, r40_54, r40_57, r40_58, r40_60, r40_63, r40_64, r40_65, r40_68, r40_71, r40_72, r40_73, r40_75, r40_76, r40_79, r40_81, r40_84, r40_87, r40_89, r40_92, r40_94, r40_95, r40_98, r40_100, r40_101, r40_104, r40_107, r40_109, r40_110, r40_113, r40_115, up_same, cbI_some, cbV_some, reduceIte, f1, f2T, e1, e2T, K12 c4, K67, hv, htn, K66_2, nz1, nz2, nz3, nz4, nz6, b10]
          · simp only [c132, r132_0, r132_1, r132_2, r132_5, r132_8, r132_9, r132_12, r132_13, r132_14, r132_15, r132_18, r132_21, r132_23, r132_26, r132_27, r132_28, r132_29, r132_32, r132_34, r132_37, r132_40, r132_43, r132_45, r132_47, r132_50, r132_51, r132_53, r132_56, r132_57, r132_58, r132_61, r132_62, r132_65, r132_66, r132_67, r132_70, r132_71, r132_74, r132_75, r132_76, r132_78, r132_79, r132_82, r132_83, r132_86, r132_87, r132_88, r132_89, r132_92, r132_93, r132_96, r132_97, r132_98, r132_99, r132_101, up_same, cbI_some, cbV_some, reduceIte, f1, f2T, e1, e2T, m85 X c5, m84, m83, hv, htn, ei, m81_2, nz1, nz2, nz3, nz4, nz6, b10]
        · skip
          have ei := mIn_1 e1 e2
          by_cases d0 : w = 0
          · have d0T := eq_true d0
            by_cases p1 : v < 0
            · have p1T := eq_true p1
              have pb := mBo_a 60 p1
              have pi := mIn_a 60 p1
              refine Ans.no h rf4 ?_ (fun X => ?_)
              · simp only [c40, r40_0, r40_1, r40_4, r40_5, r40_8, r40_11, r40_12, r40_13, r40_16, r40_17, r40_18, r40_21, r40_22, r40_23, r40_26, r40_27, r40_29, r40_32, r40_33, r40_34, r40_35, r40_36, r40_39, r40_41, r40_44, r40_47, r40_50, r40_52, r40_54, r40_57, r40_58, r40_60, r40_63, r40_64, r40_65, r40_68, r40_71, r40_72, r40_73, r40_75, r40_76, r40_79, r40_81, r40_84, r40_87, r40_89, r40_92, r40_94, r40_95, r40_98, r40_100, r40_101, r40_104, r40_107, r40_109, r40_110, r40_113, r40_115, up_same, cbI_some, cbV_some, reduceIte, f1, f2T, e1, e2, d0T, p1T, K12 c4, K67, hv, htn, pb, pi, K66_4, nz1, nz2, nz3, nz4, nz6, b10]
              · simp only [c132, r132_0, r132_1, r132_2, r132_5, r132_8, r132_9, r132_12, r132_13, r132_14, r132_15, r132_18, r132_21, r132_23, r132_26, r132_27, r132_28, r132_29, r132_32, r132_34, r132_37, r132_40, r132_43, r132_45, r132_47, r132_50, r132_51, r132_53, r132_56, r132_57, r132_58, r132_61, r132_62, r132_65, r132_66, r132_67, r132_70, r132_71, r132_74, r132_75, r132_76, r132_78, r132_79, r132_82, r132_83, r132_86, r132_87, r132_88, r132_89, r132_92, r132_93, r132_96, r132_97, r132_98, r132_99, r132_101, up_same, cbI_some, cbV_some, reduceIte, f1, f2T, e1, e2, d0T, p1T, m85 X c5, m84, m83, hv, htn, ei, pb, pi, m81_4, nz1, nz2, nz3, nz4, nz6, b10]
            · skip
              by_cases p2 : 60 < v
              · have p2T := eq_true p2
                have pb := mBo_b p1 p2
                have pi := mIn_b p1 p2
                refine Ans.no h rf6 ?_ (fun X => ?_)
                · simp only [c40, r40_0, r40_1, r40_4, r40_5, r40_8, r40_11, r40_12, r40_13, r40_16, r40_17, r40_18, r40_21, r40_22, r40_23, r40_26, r40_27, r40_29, r40_32, r40_33, r40_34, r40_35, r40_36, r40_39, r40_41, r40_44, r40_47, r40_50, r40_52, r40_54, r40_57, r40_58, r40_60, r40_63, r40_64, r40_65, r40_68, r40_71, r40_72, r40_73, r40_75, r40_76, r40_79, r40_81, r40_84, r40_87, r40_89, r40_92, r40_94, r40_95, r40_98, r40_100, r40_101, r40_104, r40_107, r40_109, r40_110, r40_113, r40_115, up_same, cbI_some, cbV_some, reduceIte, f1, f2T, e1, e2, d0T, p1, p2T, K12 c4, K67, hv, htn, pb, pi, K66_6, nz1, nz2, nz3, nz4, nz6, b10]
                · simp only [c132, r132_0, r132_1, r132_2, r132_5, r132_8, r132_9, r132_12, r132_13, r132_14, r132_15, r132_18, r132_21, r132_23, r132_26, r132_27, r132_28, r132_29, r132_32, r132_34, r132_37, r132_40, r132_43, r132_45, r132_47, r132_50, r132_51, r132_53, r132_56, r132_57, r132_58, r132_61, r132_62, r132_65, r132_66, r132_67, r132_70, r132_71, r132_74, r132_75, r132_76, r132_78, r132_79, r132_82, r132_83, r132_86, r132_87, r132_88, r132_89, r132_92, r132_93, r132_96, r132_97, r132_98, r132_99, r132_101, up_same, cbI_some, cbV_some, reduceIte, f1, f2T, e1, e2, d0T, p1, p2T, m85 X c5, m84, m83, hv, htn, ei, pb, pi, m81_6, nz1, nz2, nz3, nz4, nz6, b10]
              · skip
                have pb := mBo_0 p1 p2
                have pi := mIn_1 p1 p2
                obtain ⟨r0, r1, r2, r3, r4, r5, -⟩ := hK k hk
                have start : call 40 [aR 0 7 0, aI (nI k), aI w, aI v] M = call 40 [aR 0 7 0, aI (nI k), aI w, aI v] (va_up M 1 (M 1)) := by rw [up_id]
                refine Ans.mk (v := M 4 17 0 k) (M1 := va_up M 1 (wrN (M 1) 2 k 4 v)) (N' := wrN (M 4) 17 0 k v) ?_ (up_ne _ _ (by decide)) (fun X => ?_) ?_
                · rw [start]
                  simp only [c40, r40_0, r40_1, r40_4, r40_5, r40_8, r40_11, r40_12, r40_13, r40_16, r40_17, r40_18, r40_21, r40_22, r40_23, r40_26, r40_27, r40_29, r40_32, r40_33, r40_34, r40_35, r40_36, r40_39, r40_41, r40_44, r40_47, r40_50, r40_52, r40_54, r40_57, r40_58, r40_60, r40_63, r40_64, r40_65, r40_68, r40_71, r40_72, r40_73, r40_75, r40_76, r40_79, r40_81, r40_84, r40_87, r40_89, r40_92, r40_94, r40_95, r40_98, r40_100, r40_101, r40_104, r40_107, r40_109, r40_110, r40_113, r40_115, up_same, cbI_some, cbV_some, reduceIte, f1, f2T, e1, e2, d0T, p1, p2, K12 c4, K67, hv, htn, pb, pi, nz1, nz2, nz3, nz4, nz6, b10, up_id, r4, r5]
                  rw [← up_id M 1]
                  simp only [up_same, up_up, wr_up]
                · simp only [c132, r132_0, r132_1, r132_2, r132_5, r132_8, r132_9, r132_12, r132_13, r132_14, r132_15, r132_18, r132_21, r132_23, r132_26, r132_27, r132_28, r132_29, r132_32, r132_34, r132_37, r132_40, r132_43, r132_45, r132_47, r132_50, r132_51, r132_53, r132_56, r132_57, r132_58, r132_61, r132_62, r132_65, r132_66, r132_67, r132_70, r132_71, r132_74, r132_75, r132_76, r132_78, r132_79, r132_82, r132_83, r132_86, r132_87, r132_88, r132_89, r132_92, r132_93, r132_96, r132_97, r132_98, r132_99, r132_101, up_same, cbI_some, cbV_some, reduceIte, f1, f2T, e1, e2, d0T, p1, p2, m85 X c5, m84, m83, hv, htn, ei, pb, pi, nz1, nz2, nz3, nz4, nz6, b10, wr_up]
                · rw [up_same, up_ne _ _ (by decide), up_ne _ _ (by decide)]
                  refine TI.st h ⟨L, m, h0.pb k v⟩ ?_ ?_ ?_ ?_ (FrQ.wr _ _ (by decide))
                  · simpa only [HodB, wn_k, ne_eq, Nat.reduceEqDiff, not_false_eq_true] using hhod
                  · simpa only [wn_k, ne_eq, Nat.reduceEqDiff, not_false_eq_true] using hlat
                  · simpa only [wn_k, ne_eq, Nat.reduceEqDiff, not_false_eq_true] using hw0
                  · simpa only [wn_k, ne_eq, Nat.reduceEqDiff, not_false_eq_true] using hdr0
          · skip
            by_cases p1 : v < 0
            · have p1T := eq_true p1
              have pb := mBo_a 240 p1
              have pi := mIn_a 240 p1
              refine Ans.no h rf4 ?_ (fun X => ?_)
              · simp only [c40, r40_0, r40_1, r40_4, r40_5, r40_8, r40_11, r40_12, r40_13, r40_16, r40_17, r40_18, r40_21, r40_22, r40_23, r40_26, r40_27, r40_29, r40_32, r40_33, r40_34, r40_35, r40_36, r40_39, r40_41, r40_44, r40_47, r40_50, r40_52, r40_54, r40_57, r40_58, r40_60, r40_63, r40_64, r40_65, r40_68, r40_71, r40_72, r40_73, r40_75, r40_76, r40_79, r40_81, r40_84, r40_87, r40_89, r40_92, r40_94, r40_95, r40_98, r40_100, r40_101, r40_104, r40_107, r40_109, r40_110, r40_113, r40_115, up_same, cbI_some, cbV_some, reduceIte, f1, f2T, e1, e2, d0, p1T, K12 c4, K67, hv, htn, pb, pi, K66_4, nz1, nz2, nz3, nz4, nz6, b10]
              · simp only [c132, r132_0, r132_1, r132_2, r132_5, r132_8, r132_9, r132_12, r132_13, r132_14, r132_15, r132_18, r132_21, r132_23, r132_26, r132_27, r132_28, r132_29, r132_32, r132_34, r132_37, r132_40, r132_43, r132_45, r132_47, r132_50, r132_51, r132_53, r132_56, r132_57, r132_58, r132_61, r132_62, r132_65, r132_66, r132_67, r132_70, r132_71, r132_74, r132_75, r132_76, r132_78, r132_79, r132_82, r132_83, r132_86, r132_87, r132_88, r132_89, r132_92, r132_93, r132_96, r132_97, r132_98, r132_99, r132_101, up_same, cbI_some, cbV_some, reduceIte, f1, f2T, e1, e2, d0, p1T, m85 X c5, m84, m83, hv, htn, ei, pb, pi, m81_4, nz1, nz2, nz3, nz4, nz6, b10]
            · skip
              by_cases p2 : 240 < v
              · have p2T := eq_true p2
                have pb := mBo_b p1 p2
                have pi := mIn_b p1 p2
                refine Ans.no h rf6 ?_ (fun X => ?_)
                · simp only [c40, r40_0, r40_1, r40_4, r40_5, r40_8, r40_11, r40_12, r40_13, r40_16, r40_17, r40_18, r40_21, r40_22, r40_23, r40_26, r40_27, r40_29, r40_32, r40_33, r40_34, r40_35, r40_36, r40_39, r40_41, r40_44, r40_47, r40_50, r40_52, r40_54, r40_57, r40_58, r40_60, r40_63, r40_64, r40_65, r40_68, r40_71, r40_72, r40_73, r40_75, r40_76, r40_79, r40_81, r40_84, r40_87, r40_89, r40_92, r40_94, r40_95, r40_98, r40_100, r40_101, r40_104, r40_107, r40_109, r40_110, r40_113, r40_115, up_same, cbI_some, cbV_some, reduceIte, f1, f2T, e1, e2, d0, p1, p2T, K12 c4, K67, hv, htn, pb, pi, K66_6, nz1, nz2, nz3, nz4, nz6, b10]
                · simp only [c132, r132_0, r132_1, r132_2, r132_5, r132_8, r132_9, r132_12, r132_13, r132_14, r132_15, r132_18, r132_21, r132_23, r132_26, r132_27, r132_28, r132_29, r132_32, r132_34, r132_37, r132_40, r132_43, r132_45, r132_47, r132_50, r132_51, r132_53, r132_56, r132_57, r132_58, r132_61, r132_62, r132_65, r132_66, r132_67, r132_70, r132_71, r132_74, r132_75, r132_76, r132_78, r132_79, r132_82, r132_83, r132_86, r132_87, r132_88, r132_89, r132_92, r132_93, r132_96, r132_97, r132_98, r132_99, r132_101, up_same, cbI_some, cbV_some, reduceIte, f1, f2T, e1, e2, d0, p1, p2T, m85 X c5, m84, m83, hv, htn, ei, pb, pi, m81_6, nz1, nz2, nz3, nz4, nz6, b10]
              · skip
                have pb := mBo_0 p1 p2
                have pi := mIn_1 p1 p2
                obtain ⟨r0, r1, r2, r3, r4, r5, -⟩ := hK k hk
                have start : call 40 [aR 0 7 0, aI (nI k), aI w, aI v] M = call 40 [aR 0 7 0, aI (nI k), aI w, aI v] (va_up M 1 (M 1)) := by rw [up_id]
                refine Ans.mk (v := M 4 18 0 k) (M1 := va_up M 1 (wrN (M 1) 2 k 5 v)) (N' := wrN (M 4) 18 0 k v) ?_ (up_ne _ _ (by decide)) (fun X => ?_) ?_
                · rw [start]
                  simp only [c40, r40_0, r40_1, r40_4, r40_5, r40_8, r40_11, r40_12, r40_13, r40_16, r40_17, r40_18, r40_21, r40_22, r40_23, r40_26, r40_27, r40_29, r40_32, r40_33, r40_34, r40_35, r40_36, r40_39, r40_41, r40_44, r40_47, r40_50, r40_52, r40_54, r40_57, r40_58, r40_60, r40_63, r40_64, r40_65, r40_68, r40_71, r40_72, r40_73, r40_75, r40_76, r40_79, r40_81, r40_84, r40_87, r40_89, r40_92, r40_94, r40_95, r40_98, r40_100, r40_101, r40_104, r40_107, r40_109, r40_110, r40_113, r40_115, up_same, cbI_some, cbV_some, reduceIte, f1, f2T, e1, e2, d0, p1, p2, K12 c4, K67, hv, htn, pb, pi, nz1, nz2, nz3, nz4, nz6, b10, up_id, r4, r5]
                  rw [← up_id M 1]
                  simp only [up_same, up_up, wr_up]
                · simp only [c132, r132_0, r132_1, r132_2, r132_5, r132_8, r132_9, r132_12, r132_13, r132_14, r132_15, r132_18, r132_21, r132_23, r132_26, r132_27, r132_28, r132_29, r132_32, r132_34, r132_37, r132_40, r132_43, r132_45, r132_47, r132_50, r132_51, r132_53, r132_56, r132_57, r132_58, r132_61, r132_62, r132_65, r132_66, r132_67, r132_70, r132_71, r132_74, r132_75, r132_76, r132_78, r132_79, r132_82, r132_83, r132_86, r132_87, r132_88, r132_89, r132_92, r132_93, r132_96, r132_97, r132_98, r132_99, r132_101, up_same, cbI_some, cbV_some, reduceIte, f1, f2T, e1, e2, d0, p1, p2, m85 X c5, m84, m83, hv, htn, ei, pb, pi, nz1, nz2, nz3, nz4, nz6, b10, wr_up]
                · rw [up_same, up_ne _ _ (by decide), up_ne _ _ (by decide)]
                  refine TI.st h ⟨L, m, h0.pk k v⟩ ?_ ?_ ?_ ?_ (FrQ.wr _ _ (by decide))
                  · simpa only [HodB, wn_k, ne_eq, Nat.reduceEqDiff, not_false_eq_true] using hhod
                  · simpa only [wn_k, ne_eq, Nat.reduceEqDiff, not_false_eq_true] using hlat
                  · simpa only [wn_k, ne_eq, Nat.reduceEqDiff, not_false_eq_true] using hw0
                  · simpa only [wn_k, ne_eq, Nat.reduceEqDiff, not_false_eq_true] using hdr0
    · skip
      refine Ans.no h rf1 ?_ (fun X => ?_)
      · simp only [c40, r40_0, r40_1, r40_4, r40_5, r40_8, r40_11, r40_12, r40_13, r40_16, r40_17, r40_18, r40_21, r40_22, r40_23, r40_26, r40_27, r40_29, r40_32, r40_33, r40_34, r40_35, r40_36, r40_39, r40_41, r40_44, r40_47, r40_50, r40_52, r40_54, r40_57, r40_58, r40_60, r40_63, r40_64, r40_65, r40_68, r40_71, r40_72, r40_73, r40_75, r40_76, r40_79, r40_81, r40_84, r40_87, r40_89, r40_92, r40_94, r40_95, r40_98, r40_100, r40_101, r40_104, r40_107, r40_109, r40_110, r40_113, r40_115, up_same, cbI_some, cbV_some, reduceIte, f1, f2, K12 c4, K67, K66_1, nz1, nz2, nz3, nz4, nz6, b10]
      · simp only [c132, r132_0, r132_1, r132_2, r132_5, r132_8, r132_9, r132_12, r132_13, r132_14, r132_15, r132_18, r132_21, r132_23, r132_26, r132_27, r132_28, r132_29, r132_32, r132_34, r132_37, r132_40, r132_43, r132_45, r132_47, r132_50, r132_51, r132_53, r132_56, r132_57, r132_58, r132_61, r132_62, r132_65, r132_66, r132_67, r132_70, r132_71, r132_74, r132_75, r132_76, r132_78, r132_79, r132_82, r132_83, r132_86, r132_87, r132_88, r132_89, r132_92, r132_93, r132_96, r132_97, r132_98, r132_99, r132_101, up_same, cbI_some, cbV_some, reduceIte, f1, f2, m85 X c5, m84, m83, m81_1, nz1, nz2, nz3, nz4, nz6, b10]
