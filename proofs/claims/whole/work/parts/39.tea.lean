/-! answers: tea -/
theorem detG {y : Nat} {as : List AV} {M : Mm} {g : Nat} {N a b : Nm} {v w : Option Int32} (h1 : call y as (va_up M g N) = some (v, va_up M g a)) (h2 : call y as (va_up M g N) = some (w, va_up M g b)) : a = b := by
  rw [h1] at h2
  have := congrArg (fun z : Rs => z.2 g) (Option.some.inj h2)
  simpa only [up_same] using this
theorem det2 {y : Nat} {as : List AV} {M : Mm} {a b : Nm} {v w : Option Int32} (h1 : call y as M = some (v, va_up M 2 a)) (h2 : call y as M = some (w, va_up M 2 b)) : a = b := by
  rw [h1] at h2
  have := congrArg (fun z : Rs => z.2 2) (Option.some.inj h2)
  simpa only [up_same] using this
/-- k minutes of mixing, n minutes -/
theorem tea_step {M : Mm} {N : Nm} {L m n : Nat} (k : Nat) (h : R0 (M 1) N L m) (hwN : N 12 0 37 = 0) (hdN : N 12 0 38 = 100000) (hn : n ≤ 60) : ∃ Z Ne : Nm, OutF Z Ne L ∧ cAm Z 0 L (Z 0 0 8) = Ne 12 0 40 ∧ KpN N (wrN Ne 12 0 38 100000) ∧ call 73 [aR 0 7 0, aI (nI k), aI (nI n)] M = some (none, va_up M 2 Z) ∧ (∀ X : Mm, call 151 [aR 4 12 0, aI (nI k), aI (nI n)] (va_up X 4 N) = some (some (Ne 12 0 29), va_up X 4 (wrN Ne 12 0 38 100000))) ∧ (k = n → ∀ Z0 N0 : Nm, OutF Z0 N0 L → call 70 [aR 0 7 0, aI (nI n)] M = some (none, va_up M 2 Z0) → Ne 12 0 29 = N0 12 0 29) := by
  have hR : R0 (wrN (cpS (M 2) (M 1)) 0 0 14 (nI k)) (wrN N 12 0 38 (nI k)) L m := ((h.cf (cf_12 N (nI k) (by decide))).cp (M 2)).w13 (Or.inr rfl) _
  obtain ⟨Z, Ne, ho, hs, hm⟩ := thinkS (T := 60) (n := n) hR (by rw [wn_j _ _ _ _ (by decide), wn_j _ _ _ _ (by decide), hwN]; exact (cp_13 _ _).1) (fun q hq => by rw [wn_eq, wn_eq]) (by omega)
  have e1 := K11 (g := 2) (by decide) h
  refine ⟨Z, Ne, ho.1, ho.2.2, kp_12 (Or.inr rfl) ho.2.1 hdN, ?_, fun X => ?_, fun hkn Z0 N0 ho0 hc0 => ?_⟩
  · simp only [c73, r73_0, r73_1, r73_4, r73_5, r73_8, r73_11, r73_12, r73_15, r73_16, r73_19, r73_20, r73_23, r73_24, r73_27, e1, cbV_some, wr_up, hs]
  · simp only [c151, r151_0, r151_1, r151_2, r151_5, r151_6, r151_7, r151_10, r151_11, r151_13, r151_16, r151_17, r151_20, wr_up, hm, cbV_some, up_same, wn_j _ _ _ _ (show (29 : Nat) ≠ 38 by decide)]
  · subst hkn
    obtain ⟨Z1, N1, ho1, hs1, hm1⟩ := thinkS (T := 60) (n := k) (S := cpS (M 2) (M 1)) (N := wrN N 12 0 38 (nI k)) ((h.cf (cf_12 N (nI k) (by decide))).cp (M 2)) (by rw [wn_j _ _ _ _ (by decide), hwN]; exact (cp_13 _ _).1) (fun q hq => by rw [wn_eq, (cp_13 _ _).2, eq_true (dry_ok q (by omega)).1, eq_true (nI_lt hq (by omega))]) (by omega)
    have a := (det4 (hm1 M) (hm M)).2
    subst a
    have c : call 70 [aR 0 7 0, aI (nI k)] M = some (none, va_up M 2 Z1) := by simp only [c70, r70_0, r70_1, r70_4, r70_5, r70_8, r70_11, r70_12, r70_15, r70_16, r70_19, e1, hs1, cbV_some]
    have b := det2 c hc0
    subst b
    exact ho1.1.1.symm.trans ho0.1
theorem tea_loop {S1 N : Nm} {L m n : Nat} {now w : Int32} (h0 : R0 S1 N L m) (hwN : N 12 0 37 = 0) (hdN : N 12 0 38 = 100000) (hn : n ≤ 60) (hnow : ∀ M : Mm, M 1 = S1 → ∃ Z0 N0 : Nm, OutF Z0 N0 L ∧ call 70 [aR 0 7 0, aI (nI n)] M = some (none, va_up M 2 Z0) ∧ N0 12 0 29 = now) : ∀ (j k : Nat) (M : Mm) (Nr Zk : Nm) (l3 : AV), k + j = n → M 1 = S1 → KpN N Nr → call 73 [aR 0 7 0, aI (nI k), aI (nI n)] M = some (none, va_up M 2 Zk) → ∃ (v : Int32) (Z Nf : Nm), run 56 51 [aR 0 7 0, aI (nI n), aI w, l3, aI now, aI (nI k)] [] (va_up M 2 Zk) = some (some v, va_up M 2 Z) ∧ KpN N Nf ∧ ∀ X : Mm, run 152 44 [aR 4 12 0, aI (nI n), aI w, l3, aI now, aI (nI k)] [] (va_up X 4 Nr) = some (some v, va_up X 4 Nf) := by
  intro j
  induction j with
  | zero =>
    intro k M Nr Zk l3 hk hM hkp hc
    have hR : R0 (M 1) Nr L m := by rw [hM]; exact h0.cf hkp.1
    obtain ⟨Z, Ne, ho, om, hkb, hs, hm, hl⟩ := tea_step k hR (hkp.w12.1.trans hwN) (hkp.w12.2.trans hdN) hn
    have hz := det2 hc hs
    subst hz
    obtain ⟨Z0, N0, p1, p2, p3⟩ := hnow M hM
    have e := (hl (by omega) Z0 N0 p1 p2).trans p3
    have t1 : (nI k < nI n) = False := by rw [nIlt (by omega) (by omega)]; exact eq_false (by omega)
    have t2 : (now < now) = False := eq_false (fun z => Int32.lt_irrefl z)
    have ov := ho.2.2.2.2.2.2.2.2.1
    have hL4 := h0.1.1
    refine ⟨if w = 0 then nI k else Ne 12 0 40, Zk, _, ?_, hkp.tr hkb, fun X => ?_⟩
    · rw [r56_51]
      by_cases d : w = 0
      · have dT := eq_true d
        simp only [r56_0, r56_1, r56_2, r56_4, r56_7, r56_8, r56_9, r56_12, r56_13, r56_16, r56_17, r56_18, r56_21, r56_23, r56_24, r56_25, r56_28, r56_29, r56_30, r56_33, r56_34, r56_35, r56_36, r56_39, r56_41, r56_42, r56_44, r56_45, r56_47, r56_48, r56_53, r56_54, r56_57, r56_58, r56_61, r56_64, r56_67, r56_69, r56_72, r56_75, r56_76, r56_78, r56_79, r56_82, r56_85, r56_86, r56_89, r56_91, r56_94, r56_95, r56_98, r56_101, t1, dT, reduceIte]
      · simp only [r56_0, r56_1, r56_2, r56_4, r56_7, r56_8, r56_9, r56_12, r56_13, r56_16, r56_17, r56_18, r56_21, r56_23, r56_24, r56_25, r56_28, r56_29, r56_30, r56_33, r56_34, r56_35, r56_36, r56_39, r56_41, r56_42, r56_44, r56_45, r56_47, r56_48, r56_53, r56_54, r56_57, r56_58, r56_61, r56_64, r56_67, r56_69, r56_72, r56_75, r56_76, r56_78, r56_79, r56_82, r56_85, r56_86, r56_89, r56_91, r56_94, r56_95, r56_98, r56_101, t1, d, k19 M Zk 2 ov hL4, om, cbI_some, reduceIte]
    · rw [r152_44]
      by_cases d : w = 0
      · have dT := eq_true d
        simp only [r152_0, r152_1, r152_2, r152_4, r152_7, r152_8, r152_9, r152_12, r152_13, r152_14, r152_15, r152_18, r152_21, r152_23, r152_24, r152_25, r152_28, r152_29, r152_30, r152_33, r152_34, r152_35, r152_36, r152_39, r152_41, r152_42, r152_45, r152_47, r152_48, r152_51, r152_53, r152_56, r152_59, r152_62, r152_63, r152_66, r152_68, r152_71, r152_72, r152_75, hm, e, t2, dT, cbI_some, reduceIte]
      · simp only [r152_0, r152_1, r152_2, r152_4, r152_7, r152_8, r152_9, r152_12, r152_13, r152_14, r152_15, r152_18, r152_21, r152_23, r152_24, r152_25, r152_28, r152_29, r152_30, r152_33, r152_34, r152_35, r152_36, r152_39, r152_41, r152_42, r152_45, r152_47, r152_48, r152_51, r152_53, r152_56, r152_59, r152_62, r152_63, r152_66, r152_68, r152_71, r152_72, r152_75, hm, e, t2, d, cbI_some, up_same, wn_j _ _ _ _ (show (40 : Nat) ≠ 38 by decide), reduceIte]
  | succ j ih =>
    intro k M Nr Zk l3 hk hM hkp hc
    have hR : R0 (M 1) Nr L m := by rw [hM]; exact h0.cf hkp.1
    obtain ⟨Z, Ne, ho, om, hkb, hs, hm, -⟩ := tea_step k hR (hkp.w12.1.trans hwN) (hkp.w12.2.trans hdN) hn
    have hz := det2 hc hs
    subst hz
    have t1 : (nI k < nI n) = True := by rw [nIlt (by omega) (by omega)]; exact eq_true (by omega)
    have ov := ho.2.2.2.2.2.2.2.2.1
    have o1 := ho.1
    have hL4 := h0.1.1
    by_cases c : Ne 12 0 29 < now
    · have hM' : va_up M 2 Zk 1 = S1 := by rw [up_ne _ _ (by decide)]; exact hM
      have hkp' := hkp.tr hkb
      have hR' : R0 (va_up M 2 Zk 1) (wrN Ne 12 0 38 100000) L m := by rw [hM']; exact h0.cf hkp'.1
      obtain ⟨Z2, -, -, -, -, hs2, -, -⟩ := tea_step (M := va_up M 2 Zk) (k + 1) hR' (hkp'.w12.1.trans hwN) (hkp'.w12.2.trans hdN) hn
      obtain ⟨v, Zf, Nf, i1, i2, i3⟩ := ih (k + 1) (va_up M 2 Zk) (wrN Ne 12 0 38 100000) Z2 l3 (by omega) hM' hkp' hs2
      rw [up_up, up_up] at i1
      rw [up_up] at hs2
      refine ⟨v, Zf, Nf, ?_, i2, fun X => ?_⟩
      · rw [r56_51]
        simp only [r56_0, r56_1, r56_2, r56_4, r56_7, r56_8, r56_9, r56_12, r56_13, r56_16, r56_17, r56_18, r56_21, r56_23, r56_24, r56_25, r56_28, r56_29, r56_30, r56_33, r56_34, r56_35, r56_36, r56_39, r56_41, r56_42, r56_44, r56_45, r56_47, r56_48, r56_53, r56_54, r56_57, r56_58, r56_61, r56_64, r56_67, r56_69, r56_72, r56_75, r56_76, r56_78, r56_79, r56_82, r56_85, r56_86, r56_89, r56_91, r56_94, r56_95, r56_98, r56_101, t1, up_same, o1, c, nI_1, hs2, i1, cbV_some, reduceIte]
      · rw [r152_44]
        simp only [r152_0, r152_1, r152_2, r152_4, r152_7, r152_8, r152_9, r152_12, r152_13, r152_14, r152_15, r152_18, r152_21, r152_23, r152_24, r152_25, r152_28, r152_29, r152_30, r152_33, r152_34, r152_35, r152_36, r152_39, r152_41, r152_42, r152_45, r152_47, r152_48, r152_51, r152_53, r152_56, r152_59, r152_62, r152_63, r152_66, r152_68, r152_71, r152_72, r152_75, hm, c, nI_1, i3, cbI_some, reduceIte]
    · refine ⟨if w = 0 then nI k else Ne 12 0 40, Zk, _, ?_, hkp.tr hkb, fun X => ?_⟩
      · rw [r56_51]
        by_cases d : w = 0
        · have dT := eq_true d
          simp only [r56_0, r56_1, r56_2, r56_4, r56_7, r56_8, r56_9, r56_12, r56_13, r56_16, r56_17, r56_18, r56_21, r56_23, r56_24, r56_25, r56_28, r56_29, r56_30, r56_33, r56_34, r56_35, r56_36, r56_39, r56_41, r56_42, r56_44, r56_45, r56_47, r56_48, r56_53, r56_54, r56_57, r56_58, r56_61, r56_64, r56_67, r56_69, r56_72, r56_75, r56_76, r56_78, r56_79, r56_82, r56_85, r56_86, r56_89, r56_91, r56_94, r56_95, r56_98, r56_101, t1, up_same, o1, c, dT, reduceIte]
        · simp only [r56_0, r56_1, r56_2, r56_4, r56_7, r56_8, r56_9, r56_12, r56_13, r56_16, r56_17, r56_18, r56_21, r56_23, r56_24, r56_25, r56_28, r56_29, r56_30, r56_33, r56_34, r56_35, r56_36, r56_39, r56_41, r56_42, r56_44, r56_45, r56_47, r56_48, r56_53, r56_54, r56_57, r56_58, r56_61, r56_64, r56_67, r56_69, r56_72, r56_75, r56_76, r56_78, r56_79, r56_82, r56_85, r56_86, r56_89, r56_91, r56_94, r56_95, r56_98, r56_101, t1, up_same, o1, c, d, k19 M Zk 2 ov hL4, om, cbI_some, reduceIte]
      · rw [r152_44]
        by_cases d : w = 0
        · have dT := eq_true d
          simp only [r152_0, r152_1, r152_2, r152_4, r152_7, r152_8, r152_9, r152_12, r152_13, r152_14, r152_15, r152_18, r152_21, r152_23, r152_24, r152_25, r152_28, r152_29, r152_30, r152_33, r152_34, r152_35, r152_36, r152_39, r152_41, r152_42, r152_45, r152_47, r152_48, r152_51, r152_53, r152_56, r152_59, r152_62, r152_63, r152_66, r152_68, r152_71, r152_72, r152_75, hm, c, dT, cbI_some, reduceIte]
        · simp only [r152_0, r152_1, r152_2, r152_4, r152_7, r152_8, r152_9, r152_12, r152_13, r152_14, r152_15, r152_18, r152_21, r152_23, r152_24, r152_25, r152_28, r152_29, r152_30, r152_33, r152_34, r152_35, r152_36, r152_39, r152_41, r152_42, r152_45, r152_47, r152_48, r152_51, r152_53, r152_56, r152_59, r152_62, r152_63, r152_66, r152_68, r152_71, r152_72, r152_75, hm, c, d, cbI_some, up_same, wn_j _ _ _ _ (show (40 : Nat) ≠ 38 by decide), reduceIte]
theorem ans_tea (x w : Int32) : Ans 56 152 [aI x, aI w] := by
  intro M h
  obtain ⟨⟨L, m, h0⟩, ⟨hhod, hlat⟩, ⟨hw0, hdr0, hwN, hdN⟩, him, htx, hrw, hrf⟩ := id h
  obtain ⟨hC, hK, hMs⟩ := id h0
  obtain ⟨c1, c2, c3, c4, c5, c6, c7, c8, c9, c10, c11, c12, c13, c14, c15, c16, c17, c18⟩ := id hC
  by_cases g1 : x < 0
  · have g1T := eq_true g1
    have gb := mBo_a 60 g1
    have gi := mIn_a 60 g1
    refine Ans.no h rf4 ?_ (fun X => ?_)
    · simp only [c56, r56_0, r56_1, r56_2, r56_4, r56_7, r56_8, r56_9, r56_12, r56_13, r56_16, r56_17, r56_18, r56_21, r56_23, r56_24, r56_25, r56_28, r56_29, r56_30, r56_33, r56_34, r56_35, r56_36, r56_39, r56_41, r56_42, r56_44, r56_45, r56_47, r56_48, r56_53, r56_54, r56_57, r56_58, r56_61, r56_64, r56_67, r56_69, r56_72, r56_75, r56_76, r56_78, r56_79, r56_82, r56_85, r56_86, r56_89, r56_91, r56_94, r56_95, r56_98, r56_101, up_same, cbI_some, cbV_some, reduceIte, g1T, K67, gb, gi, K66_4, nz1, nz2, nz3, nz4, nz6, b10]
    · simp only [c152, r152_0, r152_1, r152_2, r152_4, r152_7, r152_8, r152_9, r152_12, r152_13, r152_14, r152_15, r152_18, r152_21, r152_23, r152_24, r152_25, r152_28, r152_29, r152_30, r152_33, r152_34, r152_35, r152_36, r152_39, r152_41, r152_42, r152_45, r152_47, r152_48, r152_51, r152_53, r152_56, r152_59, r152_62, r152_63, r152_66, r152_68, r152_71, r152_72, r152_75, up_same, cbI_some, cbV_some, reduceIte, g1T, m84, m83, gb, gi, m81_4, nz1, nz2, nz3, nz4, nz6, b10]
  · skip
    by_cases g2 : 60 < x
    · have g2T := eq_true g2
      have gb := mBo_b g1 g2
      have gi := mIn_b g1 g2
      refine Ans.no h rf6 ?_ (fun X => ?_)
      · simp only [c56, r56_0, r56_1, r56_2, r56_4, r56_7, r56_8, r56_9, r56_12, r56_13, r56_16, r56_17, r56_18, r56_21, r56_23, r56_24, r56_25, r56_28, r56_29, r56_30, r56_33, r56_34, r56_35, r56_36, r56_39, r56_41, r56_42, r56_44, r56_45, r56_47, r56_48, r56_53, r56_54, r56_57, r56_58, r56_61, r56_64, r56_67, r56_69, r56_72, r56_75, r56_76, r56_78, r56_79, r56_82, r56_85, r56_86, r56_89, r56_91, r56_94, r56_95, r56_98, r56_101, up_same, cbI_some, cbV_some, reduceIte, g1, g2T, K67, gb, gi, K66_6, nz1, nz2, nz3, nz4, nz6, b10]
      · simp only [c152, r152_0, r152_1, r152_2, r152_4, r152_7, r152_8, r152_9, r152_12, r152_13, r152_14, r152_15, r152_18, r152_21, r152_23, r152_24, r152_25, r152_28, r152_29, r152_30, r152_33, r152_34, r152_35, r152_36, r152_39, r152_41, r152_42, r152_45, r152_47, r152_48, r152_51, r152_53, r152_56, r152_59, r152_62, r152_63, r152_66, r152_68, r152_71, r152_72, r152_75, up_same, cbI_some, cbV_some, reduceIte, g1, g2T, m84, m83, gb, gi, m81_6, nz1, nz2, nz3, nz4, nz6, b10]
    · skip
      have gb := mBo_0 g1 g2
      have gi := mIn_1 g1 g2
      by_cases iw1 : w < 0
      · have iw1T := eq_true iw1
        have iwi := mIn_a 1 iw1
        refine Ans.no h rf2 ?_ (fun X => ?_)
        · simp only [c56, r56_0, r56_1, r56_2, r56_4, r56_7, r56_8, r56_9, r56_12, r56_13, r56_16, r56_17, r56_18, r56_21, r56_23, r56_24, r56_25, r56_28, r56_29, r56_30, r56_33, r56_34, r56_35, r56_36, r56_39, r56_41, r56_42, r56_44, r56_45, r56_47, r56_48, r56_53, r56_54, r56_57, r56_58, r56_61, r56_64, r56_67, r56_69, r56_72, r56_75, r56_76, r56_78, r56_79, r56_82, r56_85, r56_86, r56_89, r56_91, r56_94, r56_95, r56_98, r56_101, up_same, cbI_some, cbV_some, reduceIte, g1, g2, iw1T, K67, gb, gi, K66_2, nz1, nz2, nz3, nz4, nz6, b10]
        · simp only [c152, r152_0, r152_1, r152_2, r152_4, r152_7, r152_8, r152_9, r152_12, r152_13, r152_14, r152_15, r152_18, r152_21, r152_23, r152_24, r152_25, r152_28, r152_29, r152_30, r152_33, r152_34, r152_35, r152_36, r152_39, r152_41, r152_42, r152_45, r152_47, r152_48, r152_51, r152_53, r152_56, r152_59, r152_62, r152_63, r152_66, r152_68, r152_71, r152_72, r152_75, up_same, cbI_some, cbV_some, reduceIte, g1, g2, iw1T, m84, m83, gb, gi, iwi, m81_2, nz1, nz2, nz3, nz4, nz6, b10]
      · skip
        by_cases iw2 : 1 < w
        · have iw2T := eq_true iw2
          have iwi := mIn_b iw1 iw2
          refine Ans.no h rf2 ?_ (fun X => ?_)
          · simp only [c56, r56_0, r56_1, r56_2, r56_4, r56_7, r56_8, r56_9, r56_12, r56_13, r56_16, r56_17, r56_18, r56_21, r56_23, r56_24, r56_25, r56_28, r56_29, r56_30, r56_33, r56_34, r56_35, r56_36, r56_39, r56_41, r56_42, r56_44, r56_45, r56_47, r56_48, r56_53, r56_54, r56_57, r56_58, r56_61, r56_64, r56_67, r56_69, r56_72, r56_75, r56_76, r56_78, r56_79, r56_82, r56_85, r56_86, r56_89, r56_91, r56_94, r56_95, r56_98, r56_101, up_same, cbI_some, cbV_some, reduceIte, g1, g2, iw1, iw2T, K67, gb, gi, K66_2, nz1, nz2, nz3, nz4, nz6, b10]
          · simp only [c152, r152_0, r152_1, r152_2, r152_4, r152_7, r152_8, r152_9, r152_12, r152_13, r152_14, r152_15, r152_18, r152_21, r152_23, r152_24, r152_25, r152_28, r152_29, r152_30, r152_33, r152_34, r152_35, r152_36, r152_39, r152_41, r152_42, r152_45, r152_47, r152_48, r152_51, r152_53, r152_56, r152_59, r152_62, r152_63, r152_66, r152_68, r152_71, r152_72, r152_75, up_same, cbI_some, cbV_some, reduceIte, g1, g2, iw1, iw2T, m84, m83, gb, gi, iwi, m81_2, nz1, nz2, nz3, nz4, nz6, b10]
        · skip
          have iwi := mIn_1 iw1 iw2
          obtain ⟨n, hn, rfl⟩ := of_le (B := 60) (by decide) g1 g2
          obtain ⟨Z0, N0, ho0, hs0, hm0⟩ := think h0 hwN hdN (n := n) (by omega)
          have hk0 := ho0.2.1
          have c71 := K71 hs0 ho0.1
          have hM1 : va_up M 2 Z0 1 = M 1 := up_ne _ _ (by decide)
          have hR1 : R0 (va_up M 2 Z0 1) (M 4) L m := by rw [hM1]; exact h0
          obtain ⟨Z1, -, -, -, -, hs1, -, -⟩ := tea_step (M := va_up M 2 Z0) 0 hR1 hwN hdN hn
          obtain ⟨v, Z, Nf, i1, i2, i3⟩ := tea_loop (S1 := M 1) (N := M 4) (now := N0 12 0 29) (w := w) h0 hwN hdN hn (fun M' hM' => by
            have hR' : R0 (M' 1) (M 4) L m := by rw [hM']; exact h0
            obtain ⟨Z', N', ho', hs', hm'⟩ := think hR' hwN hdN (n := n) (by omega)
            have := (det4 (hm' M) (hm0 M)).2
            subst this
            exact ⟨Z', N', ho'.1, hs', rfl⟩) n 0 (va_up M 2 Z0) N0 Z1 (aI 0) (by omega) hM1 hk0 hs1
          rw [nI_0] at hs1 i1
          simp only [nI_0] at i3
          rw [up_up] at hs1
          rw [up_up, up_up] at i1
          refine Ans.th h (Z := Z) (v := v) i2 ?_ (fun X => ?_)
          · simp only [c56, r56_0, r56_1, r56_2, r56_4, r56_7, r56_8, r56_9, r56_12, r56_13, r56_16, r56_17, r56_18, r56_21, r56_23, r56_24, r56_25, r56_28, r56_29, r56_30, r56_33, r56_34, r56_35, r56_36, r56_39, r56_41, r56_42, r56_44, r56_45, r56_47, r56_48, r56_53, r56_54, r56_57, r56_58, r56_61, r56_64, r56_67, r56_69, r56_72, r56_75, r56_76, r56_78, r56_79, r56_82, r56_85, r56_86, r56_89, r56_91, r56_94, r56_95, r56_98, r56_101, up_same, cbI_some, cbV_some, reduceIte, g1, g2, iw1, iw2, K67, gb, gi, nz1, nz2, nz3, nz4, nz6, b10, c71, hs1, i1]
          · simp only [c152, r152_0, r152_1, r152_2, r152_4, r152_7, r152_8, r152_9, r152_12, r152_13, r152_14, r152_15, r152_18, r152_21, r152_23, r152_24, r152_25, r152_28, r152_29, r152_30, r152_33, r152_34, r152_35, r152_36, r152_39, r152_41, r152_42, r152_45, r152_47, r152_48, r152_51, r152_53, r152_56, r152_59, r152_62, r152_63, r152_66, r152_68, r152_71, r152_72, r152_75, up_same, cbI_some, cbV_some, reduceIte, g1, g2, iw1, iw2, m84, m83, gb, gi, iwi, nz1, nz2, nz3, nz4, nz6, b10, m143 (hm0 X), i3]
