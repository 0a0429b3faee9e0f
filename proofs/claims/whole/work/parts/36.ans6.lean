/-! answers: left, mate, watered, ahead -/
/-- the reference: keep, pass, read, put back -/
theorem passR {S N1 N : Nm} {L m n : Nat} (h : R0 S N1 L m) (hq : FrQ (svP N 1 39) N1) (hw : S 0 0 13 = N1 12 0 37) (hd : ∀ q, q < n → ((nI q < S 0 0 14) = (nI q < N1 12 0 38))) (hn : n ≤ 240) : ∃ Z N' : Nm, OutF Z N' L ∧ (∀ k, k < L → Z 2 k 4 = N' 17 0 k ∧ Z 2 k 5 = N' 18 0 k) ∧ KpN N (rsP N' 1 39) ∧ (∀ (M : Mm) (g : Nat), call 20 [aR g 0 0, aI (nI n)] (va_up M g S) = some (none, va_up M g Z)) ∧ (∀ M : Mm, call 127 [aR 4 12 0, aI (nI n)] (va_up M 4 N1) = some (none, va_up M 4 N')) ∧ (∀ M : Mm, call 103 [aR 4 12 0, aI 1, aI 0] (va_up M 4 N') = some (none, va_up M 4 (rsP N' 1 39))) ∧ rsP N' 1 39 12 0 43 = N1 12 0 43 := by
  obtain ⟨S', N', b', hb, hr, hf, hs, hm⟩ := pass_both (T := n) (Rg.of0 h hw hd (fun e => absurd e (by omega))) hn (Nat.le_refl _)
  refine ⟨_, N', out_of hr hb hn (fun _ _ => rfl) (fun _ _ _ => rfl), fun k hk => ?_, kp_gen (hq.tr hf.q), hs, hm, fun M => ?_, ?_⟩
  · obtain ⟨-, -, -, -, r4, r5, -⟩ := hr.2.2.2.2.1 k hk
    rw [wn_k _ _ _ _ (by decide)]
    exact ⟨r4, r5⟩
  · have e2 := m103r M N' (w := 1) (by decide)
    rwa [n_1] at e2
  · rw [rs_12 _ _ (by decide) (by decide) (by decide)]
    exact hf.2.1 43 (by decide)
theorem m103S (M : Mm) (N : Nm) : call 103 [aR 4 12 0, aI 1, aI 1] (va_up M 4 N) = some (none, va_up M 4 (svP N 1 39)) := by
  have e2 := m103s M N (w := 1) (by decide)
  rwa [n_1] at e2
theorem det4 {y : Nat} {as : List AV} {M : Mm} {N a b : Nm} {v w : Option Int32} (h1 : call y as (va_up M 4 N) = some (v, va_up M 4 a)) (h2 : call y as (va_up M 4 N) = some (w, va_up M 4 b)) : v = w ∧ a = b := by
  rw [h1] at h2
  have e := Option.some.inj h2
  refine ⟨congrArg Prod.fst e, ?_⟩
  have := congrArg (fun z : Rs => z.2 4) e
  simpa only [up_same] using this
theorem dryX {N : Nm} (hdN : N 12 0 38 = 100000) (D S : Nm) {n : Nat} (hn : n ≤ 240) : ∀ q, q < n → ((nI q < cpS D S 0 0 14) = (nI q < N 12 0 38)) := fun q hq => by rw [(cp_13 _ _).2, hdN, eq_true (dry_ok q (by omega)).1, eq_true (dry_ok q (by omega)).2]
theorem R0.w13 {S N : Nm} {L m : Nat} (h : R0 S N L m) {j : Nat} (hj : j = 13 ∨ j = 14) (v : Int32) : R0 (wrN S 0 0 j v) N L m := by
  obtain ⟨hC, hK, hM⟩ := h
  refine ⟨?_, ?_, ?_⟩
  · rcases hj with rfl | rfl
    · simpa only [RCf, wn_if, Nat.reduceEqDiff, reduceIte] using hC
    · simpa only [RCf, wn_if, Nat.reduceEqDiff, reduceIte] using hC
  · simpa only [RLk, wn_k, ne_eq, Nat.reduceEqDiff, not_false_eq_true] using hK
  · simpa only [RMs, wn_k, ne_eq, Nat.reduceEqDiff, not_false_eq_true] using hM
theorem kp_12 {N Ne : Nm} {j : Nat} (hj : j = 37 ∨ j = 38) {v w : Int32} (h : KpN (wrN N 12 0 j v) Ne) (hw : N 12 0 j = w) : KpN N (wrN Ne 12 0 j w) := by
  obtain ⟨k1, k2, k3, k4, k5, k6⟩ := h
  refine ⟨(CfE.tr (cf_12 N v (by omega)) k1).tr (cf_12 Ne w (by omega)), ?_, fun k a b => ?_, fun i hi => ?_, ?_, fun i hi => ?_⟩
  · rw [wn_k _ _ _ _ (by decide), k2, wn_k _ _ _ _ (by decide)]
  · rw [wn_k _ _ _ _ (by omega), k3 k a b, wn_k _ _ _ _ (by omega)]
  · rw [wn_k _ _ _ _ (by decide), k4 i hi, wn_k _ _ _ _ (by decide)]
  · rw [wn_k _ _ _ _ (by decide), k5, wn_k _ _ _ _ (by decide)]
  · by_cases e : i = j
    · rw [e, wn_eq, hw]
    · rw [wn_j _ _ _ _ e, k6 i hi, wn_j _ _ _ _ e]
theorem ans_left (x y w : Int32) : Ans 46 138 [aI x, aI y, aI w] := by
  intro M h
  obtain ⟨⟨L, m, h0⟩, ⟨hhod, hlat⟩, ⟨hw0, hdr0, hwN, hdN⟩, him, htx, hrw, hrf⟩ := id h
  obtain ⟨hC, hK, hMs⟩ := id h0
  obtain ⟨c1, c2, c3, c4, c5, c6, c7, c8, c9, c10, c11, c12, c13, c14, c15, c16, c17, c18⟩ := id hC
  by_cases g1 : x < 0
  · have g1T := eq_true g1
    have gb := mBo_a 240 g1
    have gi := mIn_a 240 g1
    refine Ans.no h rf4 ?_ (fun X => ?_)
    · simp only [c46, r46_0, r46_1, r46_2, r46_3, r46_4, r46_7, r46_9, r46_11, r46_14, r46_15, r46_17, r46_20, r46_21, r46_22, r46_23, r46_26, r46_27, r46_30, r46_33, r46_34, r46_35, r46_37, r46_38, r46_41, r46_43, r46_46, r46_49, r46_51, r46_54, up_same, cbI_some, cbV_some, reduceIte, g1T, K67, K12 c4, c69, r69_0, r69_1, r69_2, r69_5, r69_8, r69_10, r69_12, r69_15, r69_16, r69_19, r69_20, r69_23, r69_26, r69_27, r69_29, r69_31, r69_34, r69_35, r69_38, r69_39, r69_40, r69_43, r69_45, r69_47, r69_49, gb, gi, K66_4, nz1, nz2, nz3, nz4, nz6, b10]
    · simp only [c138, r138_0, r138_1, r138_2, r138_5, r138_8, r138_10, r138_12, r138_15, r138_16, r138_17, r138_20, r138_23, r138_24, r138_27, r138_28, r138_29, r138_30, r138_33, r138_36, r138_38, r138_41, r138_42, r138_44, r138_46, r138_49, r138_50, r138_52, r138_55, r138_56, r138_57, r138_58, r138_59, r138_62, r138_63, r138_64, r138_67, r138_68, r138_71, r138_72, r138_75, r138_76, r138_77, r138_80, r138_81, r138_84, r138_85, r138_86, r138_88, r138_89, r138_90, r138_91, r138_94, r138_96, up_same, cbI_some, cbV_some, reduceIte, g1T, m84, m85 X c5, m83, gb, gi, m81_4, nz1, nz2, nz3, nz4, nz6, b10]
  · skip
    by_cases g2 : 240 < x
    · have g2T := eq_true g2
      have gb := mBo_b g1 g2
      have gi := mIn_b g1 g2
      refine Ans.no h rf6 ?_ (fun X => ?_)
      · simp only [c46, r46_0, r46_1, r46_2, r46_3, r46_4, r46_7, r46_9, r46_11, r46_14, r46_15, r46_17, r46_20, r46_21, r46_22, r46_23, r46_26, r46_27, r46_30, r46_33, r46_34, r46_35, r46_37, r46_38, r46_41, r46_43, r46_46, r46_49, r46_51, r46_54, up_same, cbI_some, cbV_some, reduceIte, g1, g2T, K67, K12 c4, c69, r69_0, r69_1, r69_2, r69_5, r69_8, r69_10, r69_12, r69_15, r69_16, r69_19, r69_20, r69_23, r69_26, r69_27, r69_29, r69_31, r69_34, r69_35, r69_38, r69_39, r69_40, r69_43, r69_45, r69_47, r69_49, gb, gi, K66_6, nz1, nz2, nz3, nz4, nz6, b10]
      · simp only [c138, r138_0, r138_1, r138_2, r138_5, r138_8, r138_10, r138_12, r138_15, r138_16, r138_17, r138_20, r138_23, r138_24, r138_27, r138_28, r138_29, r138_30, r138_33, r138_36, r138_38, r138_41, r138_42, r138_44, r138_46, r138_49, r138_50, r138_52, r138_55, r138_56, r138_57, r138_58, r138_59, r138_62, r138_63, r138_64, r138_67, r138_68, r138_71, r138_72, r138_75, r138_76, r138_77, r138_80, r138_81, r138_84, r138_85, r138_86, r138_88, r138_89, r138_90, r138_91, r138_94, r138_96, up_same, cbI_some, cbV_some, reduceIte, g1, g2T, m84, m85 X c5, m83, gb, gi, m81_6, nz1, nz2, nz3, nz4, nz6, b10]
    · skip
      have gb := mBo_0 g1 g2
      have gi := mIn_1 g1 g2
      by_cases f1 : y < 0
      · have f1T := eq_true f1
        refine Ans.no h rf1 ?_ (fun X => ?_)
        · simp only [c46, r46_0, r46_1, r46_2, r46_3, r46_4, r46_7, r46_9, r46_11, r46_14, r46_15, r46_17, r46_20, r46_21, r46_22, r46_23, r46_26, r46_27, r46_30, r46_33, r46_34, r46_35, r46_37, r46_38, r46_41, r46_43, r46_46, r46_49, r46_51, r46_54, up_same, cbI_some, cbV_some, reduceIte, g1, g2, f1T, K67, K12 c4, c69, r69_0, r69_1, r69_2, r69_5, r69_8, r69_10, r69_12, r69_15, r69_16, r69_19, r69_20, r69_23, r69_26, r69_27, r69_29, r69_31, r69_34, r69_35, r69_38, r69_39, r69_40, r69_43, r69_45, r69_47, r69_49, gb, gi, K66_1, nz1, nz2, nz3, nz4, nz6, b10]
        · simp only [c138, r138_0, r138_1, r138_2, r138_5, r138_8, r138_10, r138_12, r138_15, r138_16, r138_17, r138_20, r138_23, r138_24, r138_27, r138_28, r138_29, r138_30, r138_33, r138_36, r138_38, r138_41, r138_42, r138_44, r138_46, r138_49, r138_50, r138_52, r138_55, r138_56, r138_57, r138_58, r138_59, r138_62, r138_63, r138_64, r138_67, r138_68, r138_71, r138_72, r138_75, r138_76, r138_77, r138_80, r138_81, r138_84, r138_85, r138_86, r138_88, r138_89, r138_90, r138_91, r138_94, r138_96, up_same, cbI_some, cbV_some, reduceIte, g1, g2, f1T, m84, m85 X c5, m83, gb, gi, m81_1, nz1, nz2, nz3, nz4, nz6, b10]
      · skip
        by_cases f2 : y < nI L
        · have f2T := eq_true f2
          obtain ⟨k, hkL, rfl⟩ := of_lt (by omega) f1 f2
          have hv : vpB (nI k) 4 = true := vp_t (by omega) (by decide)
          have htn : (nI k).toNatClampNeg = k := tn (n := 4) (by omega) (by decide)
          by_cases iw1 : w < 0
          · have iw1T := eq_true iw1
            have iwi := mIn_a 1 iw1
            refine Ans.no h rf2 ?_ (fun X => ?_)
            · simp only [c46, r46_0, r46_1, r46_2, r46_3, r46_4, r46_7, r46_9, r46_11, r46_14, r46_15, r46_17, r46_20, r46_21, r46_22, r46_23, r46_26, r46_27, r46_30, r46_33, r46_34, r46_35, r46_37, r46_38, r46_41, r46_43, r46_46, r46_49, r46_51, r46_54, up_same, cbI_some, cbV_some, reduceIte, g1, g2, f1, f2T, iw1T, K67, K12 c4, c69, r69_0, r69_1, r69_2, r69_5, r69_8, r69_10, r69_12, r69_15, r69_16, r69_19, r69_20, r69_23, r69_26, r69_27, r69_29, r69_31, r69_34, r69_35, r69_38, r69_39, r69_40, r69_43, r69_45, r69_47, r69_49, gb, gi, hv, htn, K66_2, nz1, nz2, nz3, nz4, nz6, b10]
            · simp only [c138, r138_0, r138_1, r138_2, r138_5, r138_8, r138_10, r138_12, r138_15, r138_16, r138_17, r138_20, r138_23, r138_24, r138_27, r138_28, r138_29, r138_30, r138_33, r138_36, r138_38, r138_41, r138_42, r138_44, r138_46, r138_49, r138_50, r138_52, r138_55, r138_56, r138_57, r138_58, r138_59, r138_62, r138_63, r138_64, r138_67, r138_68, r138_71, r138_72, r138_75, r138_76, r138_77, r138_80, r138_81, r138_84, r138_85, r138_86, r138_88, r138_89, r138_90, r138_91, r138_94, r138_96, up_same, cbI_some, cbV_some, reduceIte, g1, g2, f1, f2T, iw1T, m84, m85 X c5, m83, gb, gi, hv, htn, iwi, m81_2, nz1, nz2, nz3, nz4, nz6, b10]
          · skip
            by_cases iw2 : 1 < w
            · have iw2T := eq_true iw2
              have iwi := mIn_b iw1 iw2
              refine Ans.no h rf2 ?_ (fun X => ?_)
              · simp only [c46, r46_0, r46_1, r46_2, r46_3, r46_4, r46_7, r46_9, r46_11, r46_14, r46_15, r46_17, r46_20, r46_21, r46_22, r46_23, r46_26, r46_27, r46_30, r46_33, r46_34, r46_35, r46_37, r46_38, r46_41, r46_43, r46_46, r46_49, r46_51, r46_54, up_same, cbI_some, cbV_some, reduceIte, g1, g2, f1, f2T, iw1, iw2T, K67, K12 c4, c69, r69_0, r69_1, r69_2, r69_5, r69_8, r69_10, r69_12, r69_15, r69_16, r69_19, r69_20, r69_23, r69_26, r69_27, r69_29, r69_31, r69_34, r69_35, r69_38, r69_39, r69_40, r69_43, r69_45, r69_47, r69_49, gb, gi, hv, htn, K66_2, nz1, nz2, nz3, nz4, nz6, b10]
              · simp only [c138, r138_0, r138_1, r138_2, r138_5, r138_8, r138_10, r138_12, r138_15, r138_16, r138_17, r138_20, r138_23, r138_24, r138_27, r138_28, r138_29, r138_30, r138_33, r138_36, r138_38, r138_41, r138_42, r138_44, r138_46, r138_49, r138_50, r138_52, r138_55, r138_56, r138_57, r138_58, r138_59, r138_62, r138_63, r138_64, r138_67, r138_68, r138_71, r138_72, r138_75, r138_76, r138_77, r138_80, r138_81, r138_84, r138_85, r138_86, r138_88, r138_89, r138_90, r138_91, r138_94, r138_96, up_same, cbI_some, cbV_some, reduceIte, g1, g2, f1, f2T, iw1, iw2T, m84, m85 X c5, m83, gb, gi, hv, htn, iwi, m81_2, nz1, nz2, nz3, nz4, nz6, b10]
            · skip
              have iwi := mIn_1 iw1 iw2
              obtain ⟨n, hn, rfl⟩ := of_le (B := 240) (by decide) g1 g2
              obtain ⟨Z, N', ho, hbk, hkp, hs, hm, hre, -⟩ := passR (S := cpS (M 2) (M 1)) (N := M 4) ((h0.cf (sv_cf _ 1)).cp (M 2)) (FrQ.rf _) ((cp_13 _ _).1.trans ((sv_37 _).1.trans hwN).symm) (fun q hq => by rw [(sv_37 _).2]; exact dryX hdN _ _ hn q hq) hn
              obtain ⟨p4, p5⟩ := hbk k hkL
              have e1 := K11 (g := 2) (by decide) h0
              have hs' := hs M 2
              by_cases d0 : w = 0
              · have d0T := eq_true d0
                refine Ans.th h (Z := Z) (v := N' 17 0 k) hkp ?_ (fun X => ?_)
                · simp only [c46, r46_0, r46_1, r46_2, r46_3, r46_4, r46_7, r46_9, r46_11, r46_14, r46_15, r46_17, r46_20, r46_21, r46_22, r46_23, r46_26, r46_27, r46_30, r46_33, r46_34, r46_35, r46_37, r46_38, r46_41, r46_43, r46_46, r46_49, r46_51, r46_54, up_same, cbI_some, cbV_some, reduceIte, g1, g2, f1, f2T, iw1, iw2, d0T, K67, K12 c4, c69, r69_0, r69_1, r69_2, r69_5, r69_8, r69_10, r69_12, r69_15, r69_16, r69_19, r69_20, r69_23, r69_26, r69_27, r69_29, r69_31, r69_34, r69_35, r69_38, r69_39, r69_40, r69_43, r69_45, r69_47, r69_49, gb, gi, hv, htn, nz1, nz2, nz3, nz4, nz6, b10, c70, r70_0, r70_1, r70_4, r70_5, r70_8, r70_11, r70_12, r70_15, r70_16, r70_19, e1, hs', p4]
                · simp only [c138, r138_0, r138_1, r138_2, r138_5, r138_8, r138_10, r138_12, r138_15, r138_16, r138_17, r138_20, r138_23, r138_24, r138_27, r138_28, r138_29, r138_30, r138_33, r138_36, r138_38, r138_41, r138_42, r138_44, r138_46, r138_49, r138_50, r138_52, r138_55, r138_56, r138_57, r138_58, r138_59, r138_62, r138_63, r138_64, r138_67, r138_68, r138_71, r138_72, r138_75, r138_76, r138_77, r138_80, r138_81, r138_84, r138_85, r138_86, r138_88, r138_89, r138_90, r138_91, r138_94, r138_96, up_same, cbI_some, cbV_some, reduceIte, g1, g2, f1, f2T, iw1, iw2, d0T, m84, m85 X c5, m83, gb, gi, hv, htn, iwi, nz1, nz2, nz3, nz4, nz6, b10, m103S, hm X, hre X]
              · skip
                refine Ans.th h (Z := Z) (v := N' 18 0 k) hkp ?_ (fun X => ?_)
                · simp only [c46, r46_0, r46_1, r46_2, r46_3, r46_4, r46_7, r46_9, r46_11, r46_14, r46_15, r46_17, r46_20, r46_21, r46_22, r46_23, r46_26, r46_27, r46_30, r46_33, r46_34, r46_35, r46_37, r46_38, r46_41, r46_43, r46_46, r46_49, r46_51, r46_54, up_same, cbI_some, cbV_some, reduceIte, g1, g2, f1, f2T, iw1, iw2, d0, K67, K12 c4, c69, r69_0, r69_1, r69_2, r69_5, r69_8, r69_10, r69_12, r69_15, r69_16, r69_19, r69_20, r69_23, r69_26, r69_27, r69_29, r69_31, r69_34, r69_35, r69_38, r69_39, r69_40, r69_43, r69_45, r69_47, r69_49, gb, gi, hv, htn, nz1, nz2, nz3, nz4, nz6, b10, c70, r70_0, r70_1, r70_4, r70_5, r70_8, r70_11, r70_12, r70_15, r70_16, r70_19, e1, hs', p5]
                · simp only [c138, r138_0, r138_1, r138_2, r138_5, r138_8, r138_10, r138_12, r138_15, r138_16, r138_17, r138_20, r138_23, r138_24, r138_27, r138_28, r138_29, r138_30, r138_33, r138_36, r138_38, r138_41, r138_42, r138_44, r138_46, r138_49, r138_50, r138_52, r138_55, r138_56, r138_57, r138_58, r138_59, r138_62, r138_63, r138_64, r138_67, r138_68, r138_71, r138_72, r138_75, r138_76, r138_77, r138_80, r138_81, r138_84, r138_85, r138_86, r138_88, r138_89, r138_90, r138_91, r138_94, r138_96, up_same, cbI_some, cbV_some, reduceIte, g1, g2, f1, f2T, iw1, iw2, d0, m84, m85 X c5, m83, gb, gi, hv, htn, iwi, nz1, nz2, nz3, nz4, nz6, b10, m103S, hm X, hre X]
        · skip
          refine Ans.no h rf1 ?_ (fun X => ?_)
          · simp only [c46, r46_0, r46_1, r46_2, r46_3, r46_4, r46_7, r46_9, r46_11, r46_14, r46_15, r46_17, r46_20, r46_21, r46_22, r46_23, r46_26, r46_27, r46_30, r46_33, r46_34, r46_35, r46_37, r46_38, r46_41, r46_43, r46_46, r46_49, r46_51, r46_54, up_same, cbI_some, cbV_some, reduceIte, g1, g2, f1, f2, K67, K12 c4, c69, r69_0, r69_1, r69_2, r69_5, r69_8, r69_10, r69_12, r69_15, r69_16, r69_19, r69_20, r69_23, r69_26, r69_27, r69_29, r69_31, r69_34, r69_35, r69_38, r69_39, r69_40, r69_43, r69_45, r69_47, r69_49, gb, gi, K66_1, nz1, nz2, nz3, nz4, nz6, b10]
          · simp only [c138, r138_0, r138_1, r138_2, r138_5, r138_8, r138_10, r138_12, r138_15, r138_16, r138_17, r138_20, r138_23, r138_24, r138_27, r138_28, r138_29, r138_30, r138_33, r138_36, r138_38, r138_41, r138_42, r138_44, r138_46, r138_49, r138_50, r138_52, r138_55, r138_56, r138_57, r138_58, r138_59, r138_62, r138_63, r138_64, r138_67, r138_68, r138_71, r138_72, r138_75, r138_76, r138_77, r138_80, r138_81, r138_84, r138_85, r138_86, r138_88, r138_89, r138_90, r138_91, r138_94, r138_96, up_same, cbI_some, cbV_some, reduceIte, g1, g2, f1, f2, m84, m85 X c5, m83, gb, gi, m81_1, nz1, nz2, nz3, nz4, nz6, b10]
theorem ans_mate (x : Int32) : Ans 50 144 [aI x] := by
  intro M h
  obtain ⟨⟨L, m, h0⟩, ⟨hhod, hlat⟩, ⟨hw0, hdr0, hwN, hdN⟩, him, htx, hrw, hrf⟩ := id h
  obtain ⟨hC, hK, hMs⟩ := id h0
  obtain ⟨c1, c2, c3, c4, c5, c6, c7, c8, c9, c10, c11, c12, c13, c14, c15, c16, c17, c18⟩ := id hC
  by_cases g1 : x < 0
  · have g1T := eq_true g1
    have gb := mBo_a 240 g1
    have gi := mIn_a 240 g1
    refine Ans.lo h rf4 ?_ (fun X => ?_)
    · simp only [c50, r50_0, r50_1, r50_2, r50_5, r50_8, r50_9, r50_10, r50_13, r50_14, r50_17, r50_20, r50_21, r50_24, r50_26, r50_27, r50_28, r50_31, r50_33, r50_34, r50_35, r50_38, r50_39, r50_40, r50_41, r50_42, r50_43, r50_46, r50_49, r50_50, r50_51, r50_52, r50_55, r50_56, r50_57, r50_60, r50_61, up_same, cbI_some, cbV_some, reduceIte, g1T, K67, c6, gb, gi, K66_4, nz1, nz2, nz3, nz4, nz6, b10]
    · simp only [c144, r144_0, r144_1, r144_2, r144_5, r144_8, r144_9, r144_10, r144_13, r144_14, r144_17, r144_18, r144_19, r144_20, r144_23, r144_25, r144_26, r144_27, r144_30, r144_31, r144_32, r144_35, r144_36, r144_37, r144_38, r144_41, r144_42, r144_43, r144_44, r144_45, r144_48, r144_49, r144_52, r144_53, r144_56, r144_57, r144_58, r144_59, r144_60, r144_61, r144_64, r144_65, r144_66, r144_67, r144_68, r144_69, r144_70, r144_71, r144_72, r144_75, r144_76, r144_79, r144_81, r144_82, r144_83, r144_84, r144_87, r144_89, r144_90, r144_91, up_same, cbI_some, cbV_some, reduceIte, g1T, m84, c7, v7_0, tn0, gb, gi, m82_4, nz1, nz2, nz3, nz4, nz6, b10]
  · skip
    by_cases g2 : 240 < x
    · have g2T := eq_true g2
      have gb := mBo_b g1 g2
      have gi := mIn_b g1 g2
      refine Ans.lo h rf6 ?_ (fun X => ?_)
      · simp only [c50, r50_0, r50_1, r50_2, r50_5, r50_8, r50_9, r50_10, r50_13, r50_14, r50_17, r50_20, r50_21, r50_24, r50_26, r50_27, r50_28, r50_31, r50_33, r50_34, r50_35, r50_38, r50_39, r50_40, r50_41, r50_42, r50_43, r50_46, r50_49, r50_50, r50_51, r50_52, r50_55, r50_56, r50_57, r50_60, r50_61, up_same, cbI_some, cbV_some, reduceIte, g1, g2T, K67, c6, gb, gi, K66_6, nz1, nz2, nz3, nz4, nz6, b10]
      · simp only [c144, r144_0, r144_1, r144_2, r144_5, r144_8, r144_9, r144_10, r144_13, r144_14, r144_17, r144_18, r144_19, r144_20, r144_23, r144_25, r144_26, r144_27, r144_30, r144_31, r144_32, r144_35, r144_36, r144_37, r144_38, r144_41, r144_42, r144_43, r144_44, r144_45, r144_48, r144_49, r144_52, r144_53, r144_56, r144_57, r144_58, r144_59, r144_60, r144_61, r144_64, r144_65, r144_66, r144_67, r144_68, r144_69, r144_70, r144_71, r144_72, r144_75, r144_76, r144_79, r144_81, r144_82, r144_83, r144_84, r144_87, r144_89, r144_90, r144_91, up_same, cbI_some, cbV_some, reduceIte, g1, g2T, m84, c7, v7_0, tn0, gb, gi, m82_6, nz1, nz2, nz3, nz4, nz6, b10]
    · skip
      have gb := mBo_0 g1 g2
      have gi := mIn_1 g1 g2
      by_cases em : m = 3
      · have emT := eq_true em
        subst em
        clear emT
        have e3 : nI 3 = 3 := by decide +kernel
        have hlt : ¬ nI 3 < 3 := by decide +kernel
        refine Ans.lo h rf3 ?_ (fun X => ?_)
        · simp only [c50, r50_0, r50_1, r50_2, r50_5, r50_8, r50_9, r50_10, r50_13, r50_14, r50_17, r50_20, r50_21, r50_24, r50_26, r50_27, r50_28, r50_31, r50_33, r50_34, r50_35, r50_38, r50_39, r50_40, r50_41, r50_42, r50_43, r50_46, r50_49, r50_50, r50_51, r50_52, r50_55, r50_56, r50_57, r50_60, r50_61, up_same, cbI_some, cbV_some, reduceIte, g1, g2, K67, c6, gb, gi, hlt, K66_3, nz1, nz2, nz3, nz4, nz6, b10]
        · simp only [c144, r144_0, r144_1, r144_2, r144_5, r144_8, r144_9, r144_10, r144_13, r144_14, r144_17, r144_18, r144_19, r144_20, r144_23, r144_25, r144_26, r144_27, r144_30, r144_31, r144_32, r144_35, r144_36, r144_37, r144_38, r144_41, r144_42, r144_43, r144_44, r144_45, r144_48, r144_49, r144_52, r144_53, r144_56, r144_57, r144_58, r144_59, r144_60, r144_61, r144_64, r144_65, r144_66, r144_67, r144_68, r144_69, r144_70, r144_71, r144_72, r144_75, r144_76, r144_79, r144_81, r144_82, r144_83, r144_84, r144_87, r144_89, r144_90, r144_91, up_same, cbI_some, cbV_some, reduceIte, g1, g2, m84, c7, v7_0, tn0, gb, gi, e3, m82_3, nz1, nz2, nz3, nz4, nz6, b10]
      · skip
        obtain ⟨n, hn, rfl⟩ := of_le (B := 240) (by decide) g1 g2
        have hmm : nI m < 3 := nI_lt (a := m) (b := 3) (by omega) (by decide)
        have hm3 : ¬ nI m = 3 := fun e => Int32.lt_irrefl (e ▸ hmm)
        obtain ⟨Z0, N0, ho0, hs0, hm0⟩ := think h0 hwN hdN hn
        have hk0 := ho0.2.1
        have h01 : R0 (M 1) N0 L m := h0.cf hk0.1
        have h02 := ((h01.cf (sv_cf _ 1)).cp (M 2)).sg (q := 0) (a := m + 1) (by decide) (fun _ => ⟨by omega, by omega, fun j a b => by rw [sv_cf N0 1 19 j (ix_lo.2.2.2.2.2.1 j b)]; exact h01.2.2.2 j (by omega) b⟩) (fun e => by omega)
        rw [if_pos rfl] at h02
        have hz : svP N0 1 39 19 0 m = 0 := by rw [sv_cf N0 1 19 m (ix_lo.2.2.2.2.2.1 m (by omega))]; exact h01.2.2.2 m (by omega) (by omega)
        have hid := wn_id (svP N0 1 39) 19 0 m 0 hz
        have h14 : svP N0 1 39 14 0 0 = nI m := by rw [sv_cf N0 1 14 0 (by decide +kernel)]; exact h01.1.2.2.2.2.2.2.1
        obtain ⟨Z1, N1, ho1, -, hkp, hs1, hm1, hre, -⟩ := passR (N := N0) h02 (FrQ.wr _ _ (by decide)) (by rw [wn_j _ _ _ _ (by decide), wn_k _ _ _ _ (by decide), (sv_37 _).1, hk0.w12.1, hwN]; exact (cp_13 _ _).1) (fun q hq => by rw [wn_j _ _ _ _ (by decide), wn_k _ _ _ _ (by decide), (sv_37 _).2, hk0.w12.2]; exact dryX hdN _ _ hn q hq) hn
        have hM1 : va_up M 2 Z1 1 = M 1 := up_ne _ _ (by decide)
        obtain ⟨Z2, N2, ho2, hs2, hm2⟩ := think (M := va_up M 2 Z1) (by rw [hM1]; exact h0) hwN hdN hn
        have e20 : N2 = N0 := (det4 (hm2 M) (hm0 M)).2
        subst e20
        have c71 := K71 hs2 ho2.1
        have e1 := K11 (g := 2) (by decide) h0
        have e17 := fun S : Nm => k17 M S 2 (q := 0) (by decide) (nI (m + 1))
        rw [nI_0] at e17
        have hvm : vpB (nI m) 3 = true := vp_t (by omega) (by decide)
        have htm : (nI m).toNatClampNeg = m := tn (n := 3) (by omega) (by decide)
        have o1 := ho1.1
        simp only [Nat.reduceAdd] at hs1 e17
        refine Ans.th h (Z := Z2) (v := N1 12 0 29 - N2 12 0 29) (hk0.tr hkp) ?_ (fun X => ?_)
        · simp only [c50, r50_0, r50_1, r50_2, r50_5, r50_8, r50_9, r50_10, r50_13, r50_14, r50_17, r50_20, r50_21, r50_24, r50_26, r50_27, r50_28, r50_31, r50_33, r50_34, r50_35, r50_38, r50_39, r50_40, r50_41, r50_42, r50_43, r50_46, r50_49, r50_50, r50_51, r50_52, r50_55, r50_56, r50_57, r50_60, r50_61, up_same, cbI_some, cbV_some, reduceIte, g1, g2, K67, c6, gb, gi, nz1, nz2, nz3, nz4, nz6, b10, hmm, nI_1, c72, r72_0, r72_1, r72_4, r72_5, r72_8, r72_11, r72_12, r72_15, r72_16, r72_17, r72_20, r72_21, r72_24, r72_25, r72_28, r72_29, r72_32, r72_35, r72_38, e1, e17, hs1, o1, c71, up_up]
        · simp only [c144, r144_0, r144_1, r144_2, r144_5, r144_8, r144_9, r144_10, r144_13, r144_14, r144_17, r144_18, r144_19, r144_20, r144_23, r144_25, r144_26, r144_27, r144_30, r144_31, r144_32, r144_35, r144_36, r144_37, r144_38, r144_41, r144_42, r144_43, r144_44, r144_45, r144_48, r144_49, r144_52, r144_53, r144_56, r144_57, r144_58, r144_59, r144_60, r144_61, r144_64, r144_65, r144_66, r144_67, r144_68, r144_69, r144_70, r144_71, r144_72, r144_75, r144_76, r144_79, r144_81, r144_82, r144_83, r144_84, r144_87, r144_89, r144_90, r144_91, up_same, cbI_some, cbV_some, reduceIte, g1, g2, m84, c7, v7_0, tn0, gb, gi, nz1, nz2, nz3, nz4, nz6, b10, hm3, m143 (hm0 X), m103S, h14, hvm, htm, hid, wr_up, nI_1, hm1 X, hre X]
theorem K68 (M : Mm) (n v g : Int32) : call 68 [aI n, aI v, aI g] M = some (some (if n < 0 then -4 else if v < 0 then -4 else if 240 < n then -6 else if g < v then -6 else 0), M) := by
  simp only [c68, r68_0, r68_1, r68_4, r68_5, r68_8, r68_10, r68_11, r68_12, r68_15, r68_18, r68_19, r68_20, r68_23, r68_25, r68_28, r68_29]
  repeat' split
  all_goals rfl
theorem K162 (M : Mm) (a b g : Int32) (h : 0 < g) (h0 : ¬ g = 0) : call 162 [aI a, aI b, aI g] M = some (some (a * b / g), M) := by
  have hT := eq_true h
  simp only [c162, r162_0, r162_1, r162_4, r162_5, r162_6, r162_7, r162_8, r162_9, r162_12, r162_13, hT, h0, reduceIte]
theorem ans_watered (x y w : Int32) : Ans 58 154 [aI x, aI y, aI w] := by
  intro M h
  obtain ⟨⟨L, m, h0⟩, ⟨hhod, hlat⟩, ⟨hw0, hdr0, hwN, hdN⟩, him, htx, hrw, hrf⟩ := id h
  obtain ⟨hC, hK, hMs⟩ := id h0
  obtain ⟨c1, c2, c3, c4, c5, c6, c7, c8, c9, c10, c11, c12, c13, c14, c15, c16, c17, c18⟩ := id hC
  by_cases g1 : x < 0
  · have g1T := eq_true g1
    refine Ans.lo h rf4 ?_ (fun X => ?_)
    · simp only [c58, r58_0, r58_1, r58_2, r58_4, r58_7, r58_9, r58_11, r58_14, r58_15, r58_18, r58_19, r58_20, r58_23, r58_25, r58_27, r58_29, r58_32, r58_34, r58_35, r58_37, r58_40, r58_41, r58_42, r58_43, r58_44, r58_47, r58_49, r58_50, r58_53, r58_54, r58_57, r58_60, r58_61, r58_64, r58_65, r58_68, r58_69, r58_72, r58_73, r58_76, r58_77, r58_80, r58_83, r58_86, r58_88, r58_89, r58_92, r58_94, r58_96, r58_97, r58_100, r58_102, r58_103, r58_104, r58_107, r58_110, r58_111, r58_112, r58_115, up_same, cbI_some, cbV_some, reduceIte, g1T, K68, K66_4, nz1, nz2, nz3, nz4, nz6, b10]
    · simp only [c154, r154_0, r154_1, r154_4, r154_5, r154_8, r154_10, r154_13, r154_14, r154_17, r154_20, r154_21, r154_23, r154_26, r154_28, r154_31, r154_32, r154_33, r154_34, r154_37, r154_40, r154_42, r154_45, r154_46, r154_48, r154_50, r154_53, r154_54, r154_56, r154_59, r154_60, r154_61, r154_62, r154_65, r154_67, r154_68, r154_69, r154_72, r154_73, r154_74, r154_77, r154_79, r154_80, r154_81, r154_84, r154_85, r154_88, r154_90, r154_92, r154_93, r154_96, r154_98, r154_99, r154_100, r154_101, r154_104, r154_105, r154_106, r154_107, r154_108, r154_109, up_same, cbI_some, cbV_some, reduceIte, g1T, m83, m82_4, nz1, nz2, nz3, nz4, nz6, b10]
  · skip
    by_cases g3 : y < 0
    · have g3T := eq_true g3
      refine Ans.lo h rf4 ?_ (fun X => ?_)
      · simp only [c58, r58_0, r58_1, r58_2, r58_4, r58_7, r58_9, r58_11, r58_14, r58_15, r58_18, r58_19, r58_20, r58_23, r58_25, r58_27, r58_29, r58_32, r58_34, r58_35, r58_37, r58_40, r58_41, r58_42, r58_43, r58_44, r58_47, r58_49, r58_50, r58_53, r58_54, r58_57, r58_60, r58_61, r58_64, r58_65, r58_68, r58_69, r58_72, r58_73, r58_76, r58_77, r58_80, r58_83, r58_86, r58_88, r58_89, r58_92, r58_94, r58_96, r58_97, r58_100, r58_102, r58_103, r58_104, r58_107, r58_110, r58_111, r58_112, r58_115, up_same, cbI_some, cbV_some, reduceIte, g1, g3T, K68, K66_4, nz1, nz2, nz3, nz4, nz6, b10]
      · simp only [c154, r154_0, r154_1, r154_4, r154_5, r154_8, r154_10, r154_13, r154_14, r154_17, r154_20, r154_21, r154_23, r154_26, r154_28, r154_31, r154_32, r154_33, r154_34, r154_37, r154_40, r154_42, r154_45, r154_46, r154_48, r154_50, r154_53, r154_54, r154_56, r154_59, r154_60, r154_61, r154_62, r154_65, r154_67, r154_68, r154_69, r154_72, r154_73, r154_74, r154_77, r154_79, r154_80, r154_81, r154_84, r154_85, r154_88, r154_90, r154_92, r154_93, r154_96, r154_98, r154_99, r154_100, r154_101, r154_104, r154_105, r154_106, r154_107, r154_108, r154_109, up_same, cbI_some, cbV_some, reduceIte, g1, g3T, m83, m82_4, nz1, nz2, nz3, nz4, nz6, b10]
    · skip
      by_cases g2 : 240 < x
      · have g2T := eq_true g2
        refine Ans.lo h rf6 ?_ (fun X => ?_)
        · simp only [c58, r58_0, r58_1, r58_2, r58_4, r58_7, r58_9, r58_11, r58_14, r58_15, r58_18, r58_19, r58_20, r58_23, r58_25, r58_27, r58_29, r58_32, r58_34, r58_35, r58_37, r58_40, r58_41, r58_42, r58_43, r58_44, r58_47, r58_49, r58_50, r58_53, r58_54, r58_57, r58_60, r58_61, r58_64, r58_65, r58_68, r58_69, r58_72, r58_73, r58_76, r58_77, r58_80, r58_83, r58_86, r58_88, r58_89, r58_92, r58_94, r58_96, r58_97, r58_100, r58_102, r58_103, r58_104, r58_107, r58_110, r58_111, r58_112, r58_115, up_same, cbI_some, cbV_some, reduceIte, g1, g3, g2T, K68, K66_6, nz1, nz2, nz3, nz4, nz6, b10]
        · simp only [c154, r154_0, r154_1, r154_4, r154_5, r154_8, r154_10, r154_13, r154_14, r154_17, r154_20, r154_21, r154_23, r154_26, r154_28, r154_31, r154_32, r154_33, r154_34, r154_37, r154_40, r154_42, r154_45, r154_46, r154_48, r154_50, r154_53, r154_54, r154_56, r154_59, r154_60, r154_61, r154_62, r154_65, r154_67, r154_68, r154_69, r154_72, r154_73, r154_74, r154_77, r154_79, r154_80, r154_81, r154_84, r154_85, r154_88, r154_90, r154_92, r154_93, r154_96, r154_98, r154_99, r154_100, r154_101, r154_104, r154_105, r154_106, r154_107, r154_108, r154_109, up_same, cbI_some, cbV_some, reduceIte, g1, g3, g2T, m83, m82_6, nz1, nz2, nz3, nz4, nz6, b10]
      · skip
        by_cases g4 : 9 < y
        · have g4T := eq_true g4
          refine Ans.lo h rf6 ?_ (fun X => ?_)
          · simp only [c58, r58_0, r58_1, r58_2, r58_4, r58_7, r58_9, r58_11, r58_14, r58_15, r58_18, r58_19, r58_20, r58_23, r58_25, r58_27, r58_29, r58_32, r58_34, r58_35, r58_37, r58_40, r58_41, r58_42, r58_43, r58_44, r58_47, r58_49, r58_50, r58_53, r58_54, r58_57, r58_60, r58_61, r58_64, r58_65, r58_68, r58_69, r58_72, r58_73, r58_76, r58_77, r58_80, r58_83, r58_86, r58_88, r58_89, r58_92, r58_94, r58_96, r58_97, r58_100, r58_102, r58_103, r58_104, r58_107, r58_110, r58_111, r58_112, r58_115, up_same, cbI_some, cbV_some, reduceIte, g1, g3, g2, g4T, K68, K66_6, nz1, nz2, nz3, nz4, nz6, b10]
          · simp only [c154, r154_0, r154_1, r154_4, r154_5, r154_8, r154_10, r154_13, r154_14, r154_17, r154_20, r154_21, r154_23, r154_26, r154_28, r154_31, r154_32, r154_33, r154_34, r154_37, r154_40, r154_42, r154_45, r154_46, r154_48, r154_50, r154_53, r154_54, r154_56, r154_59, r154_60, r154_61, r154_62, r154_65, r154_67, r154_68, r154_69, r154_72, r154_73, r154_74, r154_77, r154_79, r154_80, r154_81, r154_84, r154_85, r154_88, r154_90, r154_92, r154_93, r154_96, r154_98, r154_99, r154_100, r154_101, r154_104, r154_105, r154_106, r154_107, r154_108, r154_109, up_same, cbI_some, cbV_some, reduceIte, g1, g3, g2, g4T, m83, m82_6, nz1, nz2, nz3, nz4, nz6, b10]
        · skip
          by_cases iw1 : w < 0
          · have iw1T := eq_true iw1
            have iwi := mIn_a 1 iw1
            refine Ans.lo h rf2 ?_ (fun X => ?_)
            · simp only [c58, r58_0, r58_1, r58_2, r58_4, r58_7, r58_9, r58_11, r58_14, r58_15, r58_18, r58_19, r58_20, r58_23, r58_25, r58_27, r58_29, r58_32, r58_34, r58_35, r58_37, r58_40, r58_41, r58_42, r58_43, r58_44, r58_47, r58_49, r58_50, r58_53, r58_54, r58_57, r58_60, r58_61, r58_64, r58_65, r58_68, r58_69, r58_72, r58_73, r58_76, r58_77, r58_80, r58_83, r58_86, r58_88, r58_89, r58_92, r58_94, r58_96, r58_97, r58_100, r58_102, r58_103, r58_104, r58_107, r58_110, r58_111, r58_112, r58_115, up_same, cbI_some, cbV_some, reduceIte, g1, g3, g2, g4, iw1T, K68, K66_2, nz1, nz2, nz3, nz4, nz6, b10]
            · simp only [c154, r154_0, r154_1, r154_4, r154_5, r154_8, r154_10, r154_13, r154_14, r154_17, r154_20, r154_21, r154_23, r154_26, r154_28, r154_31, r154_32, r154_33, r154_34, r154_37, r154_40, r154_42, r154_45, r154_46, r154_48, r154_50, r154_53, r154_54, r154_56, r154_59, r154_60, r154_61, r154_62, r154_65, r154_67, r154_68, r154_69, r154_72, r154_73, r154_74, r154_77, r154_79, r154_80, r154_81, r154_84, r154_85, r154_88, r154_90, r154_92, r154_93, r154_96, r154_98, r154_99, r154_100, r154_101, r154_104, r154_105, r154_106, r154_107, r154_108, r154_109, up_same, cbI_some, cbV_some, reduceIte, g1, g3, g2, g4, iw1T, m83, iwi, m82_2, nz1, nz2, nz3, nz4, nz6, b10]
          · skip
            by_cases iw2 : 1 < w
            · have iw2T := eq_true iw2
              have iwi := mIn_b iw1 iw2
              refine Ans.lo h rf2 ?_ (fun X => ?_)
              · simp only [c58, r58_0, r58_1, r58_2, r58_4, r58_7, r58_9, r58_11, r58_14, r58_15, r58_18, r58_19, r58_20, r58_23, r58_25, r58_27, r58_29, r58_32, r58_34, r58_35, r58_37, r58_40, r58_41, r58_42, r58_43, r58_44, r58_47, r58_49, r58_50, r58_53, r58_54, r58_57, r58_60, r58_61, r58_64, r58_65, r58_68, r58_69, r58_72, r58_73, r58_76, r58_77, r58_80, r58_83, r58_86, r58_88, r58_89, r58_92, r58_94, r58_96, r58_97, r58_100, r58_102, r58_103, r58_104, r58_107, r58_110, r58_111, r58_112, r58_115, up_same, cbI_some, cbV_some, reduceIte, g1, g3, g2, g4, iw1, iw2T, K68, K66_2, nz1, nz2, nz3, nz4, nz6, b10]
              · simp only [c154, r154_0, r154_1, r154_4, r154_5, r154_8, r154_10, r154_13, r154_14, r154_17, r154_20, r154_21, r154_23, r154_26, r154_28, r154_31, r154_32, r154_33, r154_34, r154_37, r154_40, r154_42, r154_45, r154_46, r154_48, r154_50, r154_53, r154_54, r154_56, r154_59, r154_60, r154_61, r154_62, r154_65, r154_67, r154_68, r154_69, r154_72, r154_73, r154_74, r154_77, r154_79, r154_80, r154_81, r154_84, r154_85, r154_88, r154_90, r154_92, r154_93, r154_96, r154_98, r154_99, r154_100, r154_101, r154_104, r154_105, r154_106, r154_107, r154_108, r154_109, up_same, cbI_some, cbV_some, reduceIte, g1, g3, g2, g4, iw1, iw2T, m83, iwi, m82_2, nz1, nz2, nz3, nz4, nz6, b10]
            · skip
              have iwi := mIn_1 iw1 iw2
              obtain ⟨n, hn, rfl⟩ := of_le (B := 240) (by decide) g1 g2
              obtain ⟨z, hz, rfl⟩ := of_le (B := 9) (by decide) g3 g4
              obtain ⟨a, a1, a2, a3⟩ := id hhod
              have hgt : 0 < M 4 14 0 1 + nI z := by rw [a3, nI_add, ← nI_0]; exact nI_lt (by omega) (by omega)
              have hdiv : ¬ M 4 14 0 1 + nI z = 0 := by rw [a3, nI_add]; exact nI_ne0 (by omega) (by omega)
              obtain ⟨Z0, N0, ho0, hs0, hm0⟩ := think h0 hwN hdN hn
              have hk0 := ho0.2.1
              have h01 : R0 (M 1) N0 L m := h0.cf hk0.1
              obtain ⟨Z1, N1, ho1, hs1, hm1⟩ := thinkS (T := 240) (S := wrN (cpS Z0 (M 1)) 0 0 13 (nI z)) (N := wrN N0 12 0 37 (nI z)) (((h01.cf (cf_12 _ _ (by decide))).cp Z0).w13 (Or.inl rfl) _) (by rw [wn_eq, wn_eq]) (fun q hq => by rw [wn_j _ _ _ _ (by decide), wn_j _ _ _ _ (by decide), hk0.w12.2]; exact dryX hdN _ _ hn q hq) hn
              have hkp := kp_12 (w := 0) (Or.inl rfl) ho1.2.1 (hk0.w12.1.trans hwN)
              have c71 := K71 hs0 ho0.1
              have hM1 : va_up M 2 Z0 1 = M 1 := up_ne _ _ (by decide)
              have e1 := K11 (M := va_up M 2 Z0) (g := 2) (h := 1) (by decide) (by rw [hM1]; exact h0)
              rw [up_same, hM1, up_up] at e1
              have o1 := ho1.1.1
              have r1 : ∀ Z : Nm, va_up M 2 Z 1 = M 1 := fun Z => up_ne _ _ (by decide)
              have s14 : ∀ v : Int32, wrN N1 12 0 37 v 14 0 1 = M 4 14 0 1 := fun v => by rw [wn_k _ _ _ _ (by decide), ho1.2.1.1 14 1 (by decide +kernel), wn_k _ _ _ _ (by decide), hk0.1 14 1 (by decide +kernel)]
              by_cases d0 : w = 0
              · have d0T := eq_true d0
                refine Ans.th h (Z := Z1) (v := N1 12 0 29 - N0 12 0 29) (hk0.tr hkp) ?_ (fun X => ?_)
                · simp only [c58, r58_0, r58_1, r58_2, r58_4, r58_7, r58_9, r58_11, r58_14, r58_15, r58_18, r58_19, r58_20, r58_23, r58_25, r58_27, r58_29, r58_32, r58_34, r58_35, r58_37, r58_40, r58_41, r58_42, r58_43, r58_44, r58_47, r58_49, r58_50, r58_53, r58_54, r58_57, r58_60, r58_61, r58_64, r58_65, r58_68, r58_69, r58_72, r58_73, r58_76, r58_77, r58_80, r58_83, r58_86, r58_88, r58_89, r58_92, r58_94, r58_96, r58_97, r58_100, r58_102, r58_103, r58_104, r58_107, r58_110, r58_111, r58_112, r58_115, up_same, cbI_some, cbV_some, reduceIte, g1, g3, g2, g4, iw1, iw2, d0T, K68, nz1, nz2, nz3, nz4, nz6, b10, c71, e1, wr_up, hs1, o1, r1, c8, hdiv]
                · simp only [c154, r154_0, r154_1, r154_4, r154_5, r154_8, r154_10, r154_13, r154_14, r154_17, r154_20, r154_21, r154_23, r154_26, r154_28, r154_31, r154_32, r154_33, r154_34, r154_37, r154_40, r154_42, r154_45, r154_46, r154_48, r154_50, r154_53, r154_54, r154_56, r154_59, r154_60, r154_61, r154_62, r154_65, r154_67, r154_68, r154_69, r154_72, r154_73, r154_74, r154_77, r154_79, r154_80, r154_81, r154_84, r154_85, r154_88, r154_90, r154_92, r154_93, r154_96, r154_98, r154_99, r154_100, r154_101, r154_104, r154_105, r154_106, r154_107, r154_108, r154_109, up_same, cbI_some, cbV_some, reduceIte, g1, g3, g2, g4, iw1, iw2, d0T, m83, iwi, nz1, nz2, nz3, nz4, nz6, b10, m143 (hm0 X), wr_up, m143 (hm1 X), s14, v7_1, tn1, hdiv, wn_j _ _ _ _ (show (29 : Nat) ≠ 37 by decide)]
              · skip
                refine Ans.th h (Z := Z1) (v := N1 12 0 29 * nI z / (M 4 14 0 1 + nI z)) (hk0.tr hkp) ?_ (fun X => ?_)
                · simp only [c58, r58_0, r58_1, r58_2, r58_4, r58_7, r58_9, r58_11, r58_14, r58_15, r58_18, r58_19, r58_20, r58_23, r58_25, r58_27, r58_29, r58_32, r58_34, r58_35, r58_37, r58_40, r58_41, r58_42, r58_43, r58_44, r58_47, r58_49, r58_50, r58_53, r58_54, r58_57, r58_60, r58_61, r58_64, r58_65, r58_68, r58_69, r58_72, r58_73, r58_76, r58_77, r58_80, r58_83, r58_86, r58_88, r58_89, r58_92, r58_94, r58_96, r58_97, r58_100, r58_102, r58_103, r58_104, r58_107, r58_110, r58_111, r58_112, r58_115, up_same, cbI_some, cbV_some, reduceIte, g1, g3, g2, g4, iw1, iw2, d0, K68, nz1, nz2, nz3, nz4, nz6, b10, c71, e1, wr_up, hs1, o1, r1, c8, K162 _ _ (nI z) (M 4 14 0 1 + nI z) hgt hdiv]
                · simp only [c154, r154_0, r154_1, r154_4, r154_5, r154_8, r154_10, r154_13, r154_14, r154_17, r154_20, r154_21, r154_23, r154_26, r154_28, r154_31, r154_32, r154_33, r154_34, r154_37, r154_40, r154_42, r154_45, r154_46, r154_48, r154_50, r154_53, r154_54, r154_56, r154_59, r154_60, r154_61, r154_62, r154_65, r154_67, r154_68, r154_69, r154_72, r154_73, r154_74, r154_77, r154_79, r154_80, r154_81, r154_84, r154_85, r154_88, r154_90, r154_92, r154_93, r154_96, r154_98, r154_99, r154_100, r154_101, r154_104, r154_105, r154_106, r154_107, r154_108, r154_109, up_same, cbI_some, cbV_some, reduceIte, g1, g3, g2, g4, iw1, iw2, d0, m83, iwi, nz1, nz2, nz3, nz4, nz6, b10, m143 (hm0 X), wr_up, m143 (hm1 X), s14, v7_1, tn1, hdiv, wn_j _ _ _ _ (show (29 : Nat) ≠ 37 by decide)]
