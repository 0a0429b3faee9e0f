/-! answers: ahead, bestRule, bestHod, bestBatch -/
theorem rb_both {L m : Nat} (b : Int32) : ∀ (n i : Nat) (S N : Nm), i + n = L → R0 S N L m → ∃ S' N' : Nm, R0 S' N' L m ∧ FrQ N N' ∧ S' 0 0 13 = S 0 0 13 ∧ S' 0 0 14 = S 0 0 14 ∧ (∀ (M : Mm) (l1 l3 l4 : AV), run 52 52 [aR 0 7 0, l1, aI b, l3, l4, aI (nI i)] [] (va_up M 2 S) = run 52 52 [aR 0 7 0, l1, aI b, l3, l4, aI (nI L)] [] (va_up M 2 S')) ∧ (∀ (M : Mm) (l1 l3 l4 : AV), run 146 63 [aR 4 12 0, l1, aI b, l3, l4, aI (nI i)] [] (va_up M 4 N) = run 146 63 [aR 4 12 0, l1, aI b, l3, l4, aI (nI L)] [] (va_up M 4 N')) := by
  intro n
  induction n with
  | zero =>
    intro i S N hi h
    have : i = L := by omega
    subst this
    exact ⟨S, N, h, FrQ.rf N, rfl, rfl, fun _ _ _ _ => rfl, fun _ _ _ _ => rfl⟩
  | succ n ih =>
    intro i S N hi h
    obtain ⟨hC, hK, hM⟩ := id h
    have c1 := hC.1
    have c4 : S 0 0 1 = nI L := hC.2.2.2.1
    have c5 : N 12 0 10 = nI L := hC.2.2.2.2.1
    obtain ⟨-, -, -, -, -, r5, -⟩ := hK i (by omega)
    have hv : vpB (nI i) 4 = true := vp_t (by omega) (by decide)
    have htn : (nI i).toNatClampNeg = i := tn (n := 4) (by omega) (by decide)
    have hcT : (nI i < nI L) = True := eq_true (nI_lt (by omega) (by omega))
    have e5 : cBk S i b = wrN S 2 i 5 (mLe (N 18 0 i + b) 240) := by unfold cBk; rw [mLe_eq, r5]
    obtain ⟨S', N', h1, h2, h3, h4, h5, h6⟩ := ih (i + 1) _ _ (by omega) (h.pk i (mLe (N 18 0 i + b) 240))
    refine ⟨S', N', h1, (FrQ.wr _ _ (by decide)).tr h2, by rw [h3, wn_k _ _ _ _ (by decide)], by rw [h4, wn_k _ _ _ _ (by decide)], fun M l1 l3 l4 => ?_, fun M l1 l3 l4 => ?_⟩
    · rw [r52_52]
      simp only [r52_0, r52_1, r52_2, r52_4, r52_7, r52_8, r52_9, r52_12, r52_14, r52_15, r52_16, r52_19, r52_20, r52_21, r52_22, r52_23, r52_26, r52_27, r52_30, r52_33, r52_36, r52_38, r52_39, r52_42, r52_43, r52_46, r52_49, r52_50, r52_54, r52_55, r52_58, r52_61, r52_64, r52_65, r52_68, r52_71, r52_73, r52_74, r52_75, r52_78, r52_79, r52_82, r52_85, r52_86, r52_89, r52_90, r52_93, r52_95, r52_96, r52_99, r52_102, r52_105, r52_106, up_same, c4, hcT, hv, htn, k7, e5, cbI_some, nI_1, h5, reduceIte]
    · rw [r146_63]
      simp only [r146_0, r146_1, r146_4, r146_5, r146_8, r146_10, r146_13, r146_14, r146_17, r146_20, r146_21, r146_23, r146_26, r146_28, r146_31, r146_32, r146_33, r146_34, r146_37, r146_38, r146_39, r146_42, r146_43, r146_44, r146_45, r146_48, r146_49, r146_52, r146_54, r146_55, r146_56, r146_57, r146_60, r146_61, r146_65, r146_66, r146_69, r146_72, r146_73, r146_76, r146_78, r146_79, r146_82, r146_84, r146_85, r146_86, r146_87, r146_90, r146_93, r146_94, r146_97, r146_100, r146_101, r146_102, r146_105, r146_106, r146_109, r146_111, r146_112, r146_113, r146_114, r146_117, r146_119, r146_121, r146_122, up_same, c5, hcT, hv, htn, m109, wr_up, cbI_some, nI_1, h6, reduceIte]
theorem ans_ahead (x b : Int32) : Ans 52 146 [aI x, aI b] := by
  intro M h
  obtain ⟨⟨L, m, h0⟩, ⟨hhod, hlat⟩, ⟨hw0, hdr0, hwN, hdN⟩, him, htx, hrw, hrf⟩ := id h
  by_cases g1 : x < 0
  · have g1T := eq_true g1
    refine Ans.lo h rf4 ?_ (fun X => ?_)
    · simp only [c52, r52_0, r52_1, r52_2, r52_4, r52_7, r52_8, r52_9, r52_12, r52_14, r52_15, r52_16, r52_19, r52_20, r52_21, r52_22, r52_23, r52_26, r52_27, r52_30, r52_33, r52_36, r52_38, r52_39, r52_42, r52_43, r52_46, r52_49, r52_50, r52_54, r52_55, r52_58, r52_61, r52_64, r52_65, r52_68, r52_71, r52_73, r52_74, r52_75, r52_78, r52_79, r52_82, r52_85, r52_86, r52_89, r52_90, r52_93, r52_95, r52_96, r52_99, r52_102, r52_105, r52_106, up_same, cbI_some, cbV_some, reduceIte, g1T, K68, nz4, K66_4]
    · simp only [c146, r146_0, r146_1, r146_4, r146_5, r146_8, r146_10, r146_13, r146_14, r146_17, r146_20, r146_21, r146_23, r146_26, r146_28, r146_31, r146_32, r146_33, r146_34, r146_37, r146_38, r146_39, r146_42, r146_43, r146_44, r146_45, r146_48, r146_49, r146_52, r146_54, r146_55, r146_56, r146_57, r146_60, r146_61, r146_65, r146_66, r146_69, r146_72, r146_73, r146_76, r146_78, r146_79, r146_82, r146_84, r146_85, r146_86, r146_87, r146_90, r146_93, r146_94, r146_97, r146_100, r146_101, r146_102, r146_105, r146_106, r146_109, r146_111, r146_112, r146_113, r146_114, r146_117, r146_119, r146_121, r146_122, up_same, cbI_some, cbV_some, reduceIte, g1T, nz4, m82_4]
  by_cases g3 : b < 0
  · have g3T := eq_true g3
    refine Ans.lo h rf4 ?_ (fun X => ?_)
    · simp only [c52, r52_0, r52_1, r52_2, r52_4, r52_7, r52_8, r52_9, r52_12, r52_14, r52_15, r52_16, r52_19, r52_20, r52_21, r52_22, r52_23, r52_26, r52_27, r52_30, r52_33, r52_36, r52_38, r52_39, r52_42, r52_43, r52_46, r52_49, r52_50, r52_54, r52_55, r52_58, r52_61, r52_64, r52_65, r52_68, r52_71, r52_73, r52_74, r52_75, r52_78, r52_79, r52_82, r52_85, r52_86, r52_89, r52_90, r52_93, r52_95, r52_96, r52_99, r52_102, r52_105, r52_106, up_same, cbI_some, cbV_some, reduceIte, g1, g3T, K68, nz4, K66_4]
    · simp only [c146, r146_0, r146_1, r146_4, r146_5, r146_8, r146_10, r146_13, r146_14, r146_17, r146_20, r146_21, r146_23, r146_26, r146_28, r146_31, r146_32, r146_33, r146_34, r146_37, r146_38, r146_39, r146_42, r146_43, r146_44, r146_45, r146_48, r146_49, r146_52, r146_54, r146_55, r146_56, r146_57, r146_60, r146_61, r146_65, r146_66, r146_69, r146_72, r146_73, r146_76, r146_78, r146_79, r146_82, r146_84, r146_85, r146_86, r146_87, r146_90, r146_93, r146_94, r146_97, r146_100, r146_101, r146_102, r146_105, r146_106, r146_109, r146_111, r146_112, r146_113, r146_114, r146_117, r146_119, r146_121, r146_122, up_same, cbI_some, cbV_some, reduceIte, g1, g3T, nz4, m82_4]
  by_cases g2 : 240 < x
  · have g2T := eq_true g2
    refine Ans.lo h rf6 ?_ (fun X => ?_)
    · simp only [c52, r52_0, r52_1, r52_2, r52_4, r52_7, r52_8, r52_9, r52_12, r52_14, r52_15, r52_16, r52_19, r52_20, r52_21, r52_22, r52_23, r52_26, r52_27, r52_30, r52_33, r52_36, r52_38, r52_39, r52_42, r52_43, r52_46, r52_49, r52_50, r52_54, r52_55, r52_58, r52_61, r52_64, r52_65, r52_68, r52_71, r52_73, r52_74, r52_75, r52_78, r52_79, r52_82, r52_85, r52_86, r52_89, r52_90, r52_93, r52_95, r52_96, r52_99, r52_102, r52_105, r52_106, up_same, cbI_some, cbV_some, reduceIte, g1, g3, g2T, K68, nz6, K66_6]
    · simp only [c146, r146_0, r146_1, r146_4, r146_5, r146_8, r146_10, r146_13, r146_14, r146_17, r146_20, r146_21, r146_23, r146_26, r146_28, r146_31, r146_32, r146_33, r146_34, r146_37, r146_38, r146_39, r146_42, r146_43, r146_44, r146_45, r146_48, r146_49, r146_52, r146_54, r146_55, r146_56, r146_57, r146_60, r146_61, r146_65, r146_66, r146_69, r146_72, r146_73, r146_76, r146_78, r146_79, r146_82, r146_84, r146_85, r146_86, r146_87, r146_90, r146_93, r146_94, r146_97, r146_100, r146_101, r146_102, r146_105, r146_106, r146_109, r146_111, r146_112, r146_113, r146_114, r146_117, r146_119, r146_121, r146_122, up_same, cbI_some, cbV_some, reduceIte, g1, g3, g2T, nz6, m82_6]
  by_cases g4 : 99 < b
  · have g4T := eq_true g4
    refine Ans.lo h rf6 ?_ (fun X => ?_)
    · simp only [c52, r52_0, r52_1, r52_2, r52_4, r52_7, r52_8, r52_9, r52_12, r52_14, r52_15, r52_16, r52_19, r52_20, r52_21, r52_22, r52_23, r52_26, r52_27, r52_30, r52_33, r52_36, r52_38, r52_39, r52_42, r52_43, r52_46, r52_49, r52_50, r52_54, r52_55, r52_58, r52_61, r52_64, r52_65, r52_68, r52_71, r52_73, r52_74, r52_75, r52_78, r52_79, r52_82, r52_85, r52_86, r52_89, r52_90, r52_93, r52_95, r52_96, r52_99, r52_102, r52_105, r52_106, up_same, cbI_some, cbV_some, reduceIte, g1, g3, g2, g4T, K68, nz6, K66_6]
    · simp only [c146, r146_0, r146_1, r146_4, r146_5, r146_8, r146_10, r146_13, r146_14, r146_17, r146_20, r146_21, r146_23, r146_26, r146_28, r146_31, r146_32, r146_33, r146_34, r146_37, r146_38, r146_39, r146_42, r146_43, r146_44, r146_45, r146_48, r146_49, r146_52, r146_54, r146_55, r146_56, r146_57, r146_60, r146_61, r146_65, r146_66, r146_69, r146_72, r146_73, r146_76, r146_78, r146_79, r146_82, r146_84, r146_85, r146_86, r146_87, r146_90, r146_93, r146_94, r146_97, r146_100, r146_101, r146_102, r146_105, r146_106, r146_109, r146_111, r146_112, r146_113, r146_114, r146_117, r146_119, r146_121, r146_122, up_same, cbI_some, cbV_some, reduceIte, g1, g3, g2, g4T, nz6, m82_6]
  obtain ⟨n, hn, rfl⟩ := of_le (B := 240) (by decide) g1 g2
  obtain ⟨Z0, N0, ho0, hs0, hm0⟩ := think h0 hwN hdN hn
  have hk0 := ho0.2.1
  have h01 : R0 (M 1) N0 L m := h0.cf hk0.1
  obtain ⟨S1, N1, b1, b2, b3, b4, b5, b6⟩ := rb_both (L := L) (m := m) b L 0 (cpS Z0 (M 1)) (svP N0 1 39) (by omega) ((h01.cf (sv_cf _ 1)).cp Z0)
  rw [nI_0] at b5 b6
  obtain ⟨Z1, N', ho1, -, hkp, hs1, hm1, hre, -⟩ := passR (N := N0) b1 b2 (by rw [b3, b2.2 37 (by decide), (sv_37 _).1, hk0.w12.1, hwN]; exact (cp_13 _ _).1) (fun q hq => by rw [b4, b2.2 38 (by decide), (sv_37 _).2, hk0.w12.2]; exact dryX hdN _ _ hn q hq) hn
  have hM1 : va_up M 2 Z0 1 = M 1 := up_ne _ _ (by decide)
  have e1 := K11 (M := va_up M 2 Z0) (g := 2) (h := 1) (by decide) (by rw [hM1]; exact h0)
  rw [up_same, hM1, up_up] at e1
  have q2 := ho0.1.2.1
  have p2 := ho1.2.1
  have c4 : S1 0 0 1 = nI L := b1.1.2.2.2.1
  have c5 : N1 12 0 10 = nI L := b1.1.2.2.2.2.1
  have hF : (nI L < nI L) = False := eq_false (fun z => Int32.lt_irrefl z)
  refine Ans.th h (Z := Z1) (v := mSum N0 - mSum N') (hk0.tr hkp) ?_ (fun X => ?_)
  · simp only [r52_0, r52_1, r52_2, r52_4, r52_7, r52_8, r52_9, r52_12, r52_14, r52_15, r52_16, r52_19, r52_20, r52_21, r52_22, r52_23, r52_26, r52_27, r52_30, r52_33, r52_36, r52_38, r52_39, r52_42, r52_43, r52_46, r52_49, r52_50, r52_54, r52_55, r52_58, r52_61, r52_64, r52_65, r52_68, r52_71, r52_73, r52_74, r52_75, r52_78, r52_79, r52_82, r52_85, r52_86, r52_89, r52_90, r52_93, r52_95, r52_96, r52_99, r52_102, r52_105, r52_106, c52, K68, g1, g2, g3, g4, hs0, up_same, q2, e1, b5, cbI_some, cbV_some, reduceIte]
    rw [r52_52]
    simp only [r52_0, r52_1, r52_2, r52_4, r52_7, r52_8, r52_9, r52_12, r52_14, r52_15, r52_16, r52_19, r52_20, r52_21, r52_22, r52_23, r52_26, r52_27, r52_30, r52_33, r52_36, r52_38, r52_39, r52_42, r52_43, r52_46, r52_49, r52_50, r52_54, r52_55, r52_58, r52_61, r52_64, r52_65, r52_68, r52_71, r52_73, r52_74, r52_75, r52_78, r52_79, r52_82, r52_85, r52_86, r52_89, r52_90, r52_93, r52_95, r52_96, r52_99, r52_102, r52_105, r52_106, up_same, c4, hF, hs1, p2, cbV_some, reduceIte]
  · simp only [r146_0, r146_1, r146_4, r146_5, r146_8, r146_10, r146_13, r146_14, r146_17, r146_20, r146_21, r146_23, r146_26, r146_28, r146_31, r146_32, r146_33, r146_34, r146_37, r146_38, r146_39, r146_42, r146_43, r146_44, r146_45, r146_48, r146_49, r146_52, r146_54, r146_55, r146_56, r146_57, r146_60, r146_61, r146_65, r146_66, r146_69, r146_72, r146_73, r146_76, r146_78, r146_79, r146_82, r146_84, r146_85, r146_86, r146_87, r146_90, r146_93, r146_94, r146_97, r146_100, r146_101, r146_102, r146_105, r146_106, r146_109, r146_111, r146_112, r146_113, r146_114, r146_117, r146_119, r146_121, r146_122, c146, g1, g2, g3, g4, hm0, m125, m103S, b6, cbI_some, cbV_some, reduceIte]
    rw [r146_63]
    simp only [r146_0, r146_1, r146_4, r146_5, r146_8, r146_10, r146_13, r146_14, r146_17, r146_20, r146_21, r146_23, r146_26, r146_28, r146_31, r146_32, r146_33, r146_34, r146_37, r146_38, r146_39, r146_42, r146_43, r146_44, r146_45, r146_48, r146_49, r146_52, r146_54, r146_55, r146_56, r146_57, r146_60, r146_61, r146_65, r146_66, r146_69, r146_72, r146_73, r146_76, r146_78, r146_79, r146_82, r146_84, r146_85, r146_86, r146_87, r146_90, r146_93, r146_94, r146_97, r146_100, r146_101, r146_102, r146_105, r146_106, r146_109, r146_111, r146_112, r146_113, r146_114, r146_117, r146_119, r146_121, r146_122, up_same, c5, hF, hm1, m125, hre, cbI_some, cbV_some, reduceIte]
theorem wn_wn (N : Nm) (k i j : Nat) (v w : Int32) : wrN (wrN N k i j v) k i j w = wrN N k i j w := by
  funext a b c
  rw [wn_ap, wn_ap, wn_ap]
  split <;> rfl
theorem lt_of_n {a b : Int32} (h1 : ¬ b < a) (h2 : ¬ a = b) : a < b := Int32.lt_of_le_of_ne (Int32.not_lt.mp h1) h2
theorem st34 : stV 34 6 = 5 ∧ stV 33 1 = 10 ∧ stV 34 1 = 40 ∧ stV 33 4 = 20 ∧ stV 34 4 = 120 := by decide +kernel
theorem br_loop {S1 N : Nm} {L m n : Nat} (h0 : R0 S1 N L m) (hwN : N 12 0 37 = 0) (hdN : N 12 0 38 = 100000) (hn : n ≤ 240) : ∀ (k r : Nat) (M : Mm) (Nr : Nm) (best most least : Int32) (l2 l7 l8 k2 k8 : AV), r + k = 6 → M 1 = S1 → KpN N (wrN Nr 14 0 6 (N 14 0 6)) → ∃ (v : Int32) (Z Nf : Nm), run 47 30 [aR 0 7 0, aI (nI n), l2, aI best, aI most, aI least, aI (nI r), l7, l8] [] M = some (some v, va_up M 2 Z) ∧ KpN N Nf ∧ ∀ X : Mm, run 139 39 [aR 4 12 0, aI (nI n), k2, aI (N 14 0 6), aI best, aI most, aI least, aI (nI r), k8] [] (va_up X 4 Nr) = some (some v, va_up X 4 Nf) := by
  intro k
  induction k with
  | zero =>
    intro r M Nr best most least l2 l7 l8 k2 k8 hr hM hk
    have : r = 6 := by omega
    subst this
    have t1 : (5 < nI 6) = True := by decide +kernel
    have t2 : (nI 6 < 6) = False := by decide +kernel
    refine ⟨best, M 2, _, ?_, hk, fun X => ?_⟩
    · rw [up_id, r47_30]
      simp only [r47_0, r47_1, r47_2, r47_5, r47_8, r47_9, r47_10, r47_13, r47_14, r47_15, r47_18, r47_19, r47_20, r47_21, r47_22, r47_24, r47_25, r47_27, r47_28, r47_32, r47_35, r47_37, r47_38, r47_41, r47_42, r47_44, r47_46, r47_47, r47_50, r47_52, r47_53, r47_56, r47_59, r47_62, r47_64, r47_66, r47_68, r47_71, r47_73, r47_75, r47_78, r47_80, r47_82, r47_85, r47_87, r47_88, r47_90, r47_92, r47_94, r47_96, r47_99, r47_102, r47_103, v7_6, tn6, st34, t1, reduceIte]
    · rw [r139_39]
      simp only [r139_0, r139_1, r139_2, r139_5, r139_8, r139_9, r139_10, r139_13, r139_14, r139_15, r139_18, r139_19, r139_20, r139_23, r139_25, r139_26, r139_27, r139_28, r139_30, r139_31, r139_33, r139_34, r139_36, r139_37, r139_41, r139_43, r139_46, r139_47, r139_50, r139_52, r139_54, r139_55, r139_56, r139_57, r139_60, r139_61, r139_64, r139_66, r139_67, r139_70, r139_72, r139_75, r139_76, r139_79, r139_81, r139_84, r139_86, r139_88, r139_91, r139_94, r139_96, r139_98, r139_99, r139_102, r139_104, r139_106, r139_108, r139_111, r139_114, r139_115, r139_118, r139_120, r139_121, r139_122, r139_124, v7_6, tn6, t2, wr_up, reduceIte]
  | succ k ih =>
    intro r M Nr best most least l2 l7 l8 k2 k8 hr hM hk
    have t1 : (5 < nI r) = False := by
      have : nI 5 = 5 := by decide +kernel
      rw [← this, nIlt (by omega) (by omega)]
      exact eq_false (by omega)
    have t2 : (nI r < 6) = True := by
      rw [← v_6, nIlt (by omega) (by omega)]
      exact eq_true (by omega)
    have hR : R0 (M 1) (wrN Nr 14 0 6 (N 14 0 6)) L m := by rw [hM]; exact h0.cf hk.1
    obtain ⟨Z, Ne, ho, hs, hm⟩ := thinkQ (q := 6) (a := r) hR (hk.w12.1.trans hwN) (hk.w12.2.trans hdN) hn (by decide) (by decide) (fun z => by omega)
    have hkb := kp_back (q := 6) (by decide) ho.2.1
    rw [wn_eq] at hkb
    have o1 := ho.1.1
    have o2 := ho.1.2.1
    rw [wn_wn] at hm
    rw [v_6] at hs
    have hM' : va_up M 2 Z 1 = S1 := by rw [up_ne _ _ (by decide)]; exact hM
    by_cases c1 : most < Ne 12 0 29
    · have f1 : ¬ Ne 12 0 29 < most := fun z => Int32.lt_irrefl (Int32.lt_trans c1 z)
      have f2 : ¬ Ne 12 0 29 = most := fun z => Int32.lt_irrefl (z ▸ c1)
      obtain ⟨v, Z2, Nf, i1, i2, i3⟩ := ih (r + 1) (va_up M 2 Z) Ne (nI r) (Ne 12 0 29) (mSum Ne) l2 (aI (Ne 12 0 29)) (aI (mSum Ne)) k2 (aI (mSum Ne)) (by omega) hM' (hk.tr hkb)
      rw [up_up] at i1
      refine ⟨v, Z2, Nf, ?_, i2, fun X => ?_⟩
      · rw [r47_30]
        simp only [r47_0, r47_1, r47_2, r47_5, r47_8, r47_9, r47_10, r47_13, r47_14, r47_15, r47_18, r47_19, r47_20, r47_21, r47_22, r47_24, r47_25, r47_27, r47_28, r47_32, r47_35, r47_37, r47_38, r47_41, r47_42, r47_44, r47_46, r47_47, r47_50, r47_52, r47_53, r47_56, r47_59, r47_62, r47_64, r47_66, r47_68, r47_71, r47_73, r47_75, r47_78, r47_80, r47_82, r47_85, r47_87, r47_88, r47_90, r47_92, r47_94, r47_96, r47_99, r47_102, r47_103, v7_6, tn6, st34, t1, hs, cbI_some, up_same, o2, c1, nI_1, i1, reduceIte]
      · rw [r139_39]
        simp only [r139_0, r139_1, r139_2, r139_5, r139_8, r139_9, r139_10, r139_13, r139_14, r139_15, r139_18, r139_19, r139_20, r139_23, r139_25, r139_26, r139_27, r139_28, r139_30, r139_31, r139_33, r139_34, r139_36, r139_37, r139_41, r139_43, r139_46, r139_47, r139_50, r139_52, r139_54, r139_55, r139_56, r139_57, r139_60, r139_61, r139_64, r139_66, r139_67, r139_70, r139_72, r139_75, r139_76, r139_79, r139_81, r139_84, r139_86, r139_88, r139_91, r139_94, r139_96, r139_98, r139_99, r139_102, r139_104, r139_106, r139_108, r139_111, r139_114, r139_115, r139_118, r139_120, r139_121, r139_122, r139_124, v7_6, tn6, t2, wr_up, hm, m125, cbI_some, cbV_some, up_same, f1, f2, nI_1, i3, reduceIte]
    · by_cases c2 : Ne 12 0 29 = most
      · have f1 : ¬ most < most := fun z => Int32.lt_irrefl z
        by_cases c3 : mSum Ne < least
        · obtain ⟨v, Z2, Nf, i1, i2, i3⟩ := ih (r + 1) (va_up M 2 Z) Ne (nI r) most (mSum Ne) l2 (aI most) (aI (mSum Ne)) k2 (aI (mSum Ne)) (by omega) hM' (hk.tr hkb)
          rw [up_up] at i1
          refine ⟨v, Z2, Nf, ?_, i2, fun X => ?_⟩
          · rw [r47_30]
            simp only [r47_0, r47_1, r47_2, r47_5, r47_8, r47_9, r47_10, r47_13, r47_14, r47_15, r47_18, r47_19, r47_20, r47_21, r47_22, r47_24, r47_25, r47_27, r47_28, r47_32, r47_35, r47_37, r47_38, r47_41, r47_42, r47_44, r47_46, r47_47, r47_50, r47_52, r47_53, r47_56, r47_59, r47_62, r47_64, r47_66, r47_68, r47_71, r47_73, r47_75, r47_78, r47_80, r47_82, r47_85, r47_87, r47_88, r47_90, r47_92, r47_94, r47_96, r47_99, r47_102, r47_103, v7_6, tn6, st34, t1, hs, cbI_some, up_same, o2, c2, f1, c3, nI_1, i1, reduceIte]
          · rw [r139_39]
            simp only [r139_0, r139_1, r139_2, r139_5, r139_8, r139_9, r139_10, r139_13, r139_14, r139_15, r139_18, r139_19, r139_20, r139_23, r139_25, r139_26, r139_27, r139_28, r139_30, r139_31, r139_33, r139_34, r139_36, r139_37, r139_41, r139_43, r139_46, r139_47, r139_50, r139_52, r139_54, r139_55, r139_56, r139_57, r139_60, r139_61, r139_64, r139_66, r139_67, r139_70, r139_72, r139_75, r139_76, r139_79, r139_81, r139_84, r139_86, r139_88, r139_91, r139_94, r139_96, r139_98, r139_99, r139_102, r139_104, r139_106, r139_108, r139_111, r139_114, r139_115, r139_118, r139_120, r139_121, r139_122, r139_124, v7_6, tn6, t2, wr_up, hm, m125, cbI_some, cbV_some, up_same, c2, f1, c3, nI_1, i3, reduceIte]
        · obtain ⟨v, Z2, Nf, i1, i2, i3⟩ := ih (r + 1) (va_up M 2 Z) Ne best most least l2 (aI most) (aI (mSum Ne)) k2 (aI (mSum Ne)) (by omega) hM' (hk.tr hkb)
          rw [up_up] at i1
          refine ⟨v, Z2, Nf, ?_, i2, fun X => ?_⟩
          · rw [r47_30]
            simp only [r47_0, r47_1, r47_2, r47_5, r47_8, r47_9, r47_10, r47_13, r47_14, r47_15, r47_18, r47_19, r47_20, r47_21, r47_22, r47_24, r47_25, r47_27, r47_28, r47_32, r47_35, r47_37, r47_38, r47_41, r47_42, r47_44, r47_46, r47_47, r47_50, r47_52, r47_53, r47_56, r47_59, r47_62, r47_64, r47_66, r47_68, r47_71, r47_73, r47_75, r47_78, r47_80, r47_82, r47_85, r47_87, r47_88, r47_90, r47_92, r47_94, r47_96, r47_99, r47_102, r47_103, v7_6, tn6, st34, t1, hs, cbI_some, up_same, o2, c2, f1, c3, nI_1, i1, reduceIte]
          · rw [r139_39]
            simp only [r139_0, r139_1, r139_2, r139_5, r139_8, r139_9, r139_10, r139_13, r139_14, r139_15, r139_18, r139_19, r139_20, r139_23, r139_25, r139_26, r139_27, r139_28, r139_30, r139_31, r139_33, r139_34, r139_36, r139_37, r139_41, r139_43, r139_46, r139_47, r139_50, r139_52, r139_54, r139_55, r139_56, r139_57, r139_60, r139_61, r139_64, r139_66, r139_67, r139_70, r139_72, r139_75, r139_76, r139_79, r139_81, r139_84, r139_86, r139_88, r139_91, r139_94, r139_96, r139_98, r139_99, r139_102, r139_104, r139_106, r139_108, r139_111, r139_114, r139_115, r139_118, r139_120, r139_121, r139_122, r139_124, v7_6, tn6, t2, wr_up, hm, m125, cbI_some, cbV_some, up_same, c2, f1, c3, nI_1, i3, reduceIte]
      · have f1 := lt_of_n c1 c2
        obtain ⟨v, Z2, Nf, i1, i2, i3⟩ := ih (r + 1) (va_up M 2 Z) Ne best most least l2 (aI (Ne 12 0 29)) (aI (mSum Ne)) k2 (aI (mSum Ne)) (by omega) hM' (hk.tr hkb)
        rw [up_up] at i1
        refine ⟨v, Z2, Nf, ?_, i2, fun X => ?_⟩
        · rw [r47_30]
          simp only [r47_0, r47_1, r47_2, r47_5, r47_8, r47_9, r47_10, r47_13, r47_14, r47_15, r47_18, r47_19, r47_20, r47_21, r47_22, r47_24, r47_25, r47_27, r47_28, r47_32, r47_35, r47_37, r47_38, r47_41, r47_42, r47_44, r47_46, r47_47, r47_50, r47_52, r47_53, r47_56, r47_59, r47_62, r47_64, r47_66, r47_68, r47_71, r47_73, r47_75, r47_78, r47_80, r47_82, r47_85, r47_87, r47_88, r47_90, r47_92, r47_94, r47_96, r47_99, r47_102, r47_103, v7_6, tn6, st34, t1, hs, cbI_some, up_same, o2, c1, c2, nI_1, i1, reduceIte]
        · rw [r139_39]
          simp only [r139_0, r139_1, r139_2, r139_5, r139_8, r139_9, r139_10, r139_13, r139_14, r139_15, r139_18, r139_19, r139_20, r139_23, r139_25, r139_26, r139_27, r139_28, r139_30, r139_31, r139_33, r139_34, r139_36, r139_37, r139_41, r139_43, r139_46, r139_47, r139_50, r139_52, r139_54, r139_55, r139_56, r139_57, r139_60, r139_61, r139_64, r139_66, r139_67, r139_70, r139_72, r139_75, r139_76, r139_79, r139_81, r139_84, r139_86, r139_88, r139_91, r139_94, r139_96, r139_98, r139_99, r139_102, r139_104, r139_106, r139_108, r139_111, r139_114, r139_115, r139_118, r139_120, r139_121, r139_122, r139_124, v7_6, tn6, t2, wr_up, hm, m125, cbI_some, cbV_some, up_same, f1, nI_1, i3, reduceIte]
