/-! answers: total, stood, left, fault, inStep, emptyFirst, hoist -/
theorem ans_total (x w : Int32) : Ans 44 136 [aI x, aI w] := by
  intro M h
  obtain ⟨⟨L, m, h0⟩, ⟨hhod, hlat⟩, ⟨hw0, hdr0, hwN, hdN⟩, him, htx, hrw, hrf⟩ := id h
  obtain ⟨hC, hK, hMs⟩ := id h0
  obtain ⟨c1, c2, c3, c4, c5, c6, c7, c8, c9, c10, c11, c12, c13, c14, c15, c16, c17, c18⟩ := id hC
  by_cases g1 : x < 0
  · have g1T := eq_true g1
    have gb := mBo_a 240 g1
    have gi := mIn_a 240 g1
    refine Ans.no h rf4 ?_ (fun X => ?_)
    · simp only [c44, r44_0, r44_1, r44_2, r44_5, r44_8, r44_9, r44_10, r44_13, r44_14, r44_17, r44_18, r44_19, r44_22, r44_24, r44_25, r44_26, r44_29, r44_30, r44_31, r44_34, r44_35, r44_36, r44_37, r44_40, r44_41, r44_76, r44_77, r44_80, r44_83, r44_86, r44_87, r44_88, r44_91, r44_94, r44_97, r44_98, r44_99, r44_102, r44_105, r44_108, r44_109, r44_110, r44_113, r44_116, r44_119, r44_120, r44_121, r44_124, r44_127, r44_130, r44_131, r44_132, r44_135, r44_138, up_same, cbI_some, cbV_some, reduceIte, g1T, K67, gb, gi, K66_4, nz1, nz2, nz3, nz4, nz6, b10]
    · simp only [c136, r136_0, r136_1, r136_2, r136_5, r136_8, r136_9, r136_10, r136_13, r136_14, r136_15, r136_16, r136_19, r136_22, r136_24, r136_25, r136_26, r136_29, r136_30, r136_31, r136_34, r136_35, r136_36, r136_37, r136_40, r136_41, r136_76, r136_77, r136_80, r136_81, r136_82, r136_85, r136_86, r136_87, r136_90, r136_91, r136_92, r136_95, r136_96, r136_97, r136_100, r136_101, r136_102, r136_105, up_same, cbI_some, cbV_some, reduceIte, g1T, m84, m83, gb, gi, m81_4, nz1, nz2, nz3, nz4, nz6, b10]
  · skip
    by_cases g2 : 240 < x
    · have g2T := eq_true g2
      have gb := mBo_b g1 g2
      have gi := mIn_b g1 g2
      refine Ans.no h rf6 ?_ (fun X => ?_)
      · simp only [c44, r44_0, r44_1, r44_2, r44_5, r44_8, r44_9, r44_10, r44_13, r44_14, r44_17, r44_18, r44_19, r44_22, r44_24, r44_25, r44_26, r44_29, r44_30, r44_31, r44_34, r44_35, r44_36, r44_37, r44_40, r44_41, r44_76, r44_77, r44_80, r44_83, r44_86, r44_87, r44_88, r44_91, r44_94, r44_97, r44_98, r44_99, r44_102, r44_105, r44_108, r44_109, r44_110, r44_113, r44_116, r44_119, r44_120, r44_121, r44_124, r44_127, r44_130, r44_131, r44_132, r44_135, r44_138, up_same, cbI_some, cbV_some, reduceIte, g1, g2T, K67, gb, gi, K66_6, nz1, nz2, nz3, nz4, nz6, b10]
      · simp only [c136, r136_0, r136_1, r136_2, r136_5, r136_8, r136_9, r136_10, r136_13, r136_14, r136_15, r136_16, r136_19, r136_22, r136_24, r136_25, r136_26, r136_29, r136_30, r136_31, r136_34, r136_35, r136_36, r136_37, r136_40, r136_41, r136_76, r136_77, r136_80, r136_81, r136_82, r136_85, r136_86, r136_87, r136_90, r136_91, r136_92, r136_95, r136_96, r136_97, r136_100, r136_101, r136_102, r136_105, up_same, cbI_some, cbV_some, reduceIte, g1, g2T, m84, m83, gb, gi, m81_6, nz1, nz2, nz3, nz4, nz6, b10]
    · skip
      have gb := mBo_0 g1 g2
      have gi := mIn_1 g1 g2
      by_cases e1 : w < 0
      · have e1T := eq_true e1
        have ei := mIn_a 5 e1
        refine Ans.no h rf2 ?_ (fun X => ?_)
        · simp only [c44, r44_0, r44_1, r44_2, r44_5, r44_8, r44_9, r44_10, r44_13, r44_14, r44_17, r44_18, r44_19, r44_22, r44_24, r44_25, r44_26, r44_29, r44_30, r44_31, r44_34, r44_35, r44_36, r44_37, r44_40, r44_41, r44_76, r44_77, r44_80, r44_83, r44_86, r44_87, r44_88, r44_91, r44_94, r44_97, r44_98, r44_99, r44_102, r44_105, r44_108, r44_109, r44_110, r44_113, r44_116, r44_119, r44_120, r44_121, r44_124, r44_127, r44_130, r44_131, r44_132, r44_135, r44_138, up_same, cbI_some, cbV_some, reduceIte, g1, g2, e1T, K67, gb, gi, K66_2, nz1, nz2, nz3, nz4, nz6, b10]
        · simp only [c136, r136_0, r136_1, r136_2, r136_5, r136_8, r136_9, r136_10, r136_13, r136_14, r136_15, r136_16, r136_19, r136_22, r136_24, r136_25, r136_26, r136_29, r136_30, r136_31, r136_34, r136_35, r136_36, r136_37, r136_40, r136_41, r136_76, r136_77, r136_80, r136_81, r136_82, r136_85, r136_86, r136_87, r136_90, r136_91, r136_92, r136_95, r136_96, r136_97, r136_100, r136_101, r136_102, r136_105, up_same, cbI_some, cbV_some, reduceIte, g1, g2, e1T, m84, m83, gb, gi, ei, m81_2, nz1, nz2, nz3, nz4, nz6, b10]
      · skip
        by_cases e2 : 5 < w
        · have e2T := eq_true e2
          have ei := mIn_b e1 e2
          refine Ans.no h rf2 ?_ (fun X => ?_)
          · simp only [c44, r44_0, r44_1, r44_2, r44_5, r44_8, r44_9, r44_10, r44_13, r44_14, r44_17, r44_18, r44_19, r44_22, r44_24, r44_25, r44_26, r44_29, r44_30, r44_31, r44_34, r44_35, r44_36, r44_37, r44_40, r44_41, r44_76, r44_77, r44_80, r44_83, r44_86, r44_87, r44_88, r44_91, r44_94, r44_97, r44_98, r44_99, r44_102, r44_105, r44_108, r44_109, r44_110, r44_113, r44_116, r44_119, r44_120, r44_121, r44_124, r44_127, r44_130, r44_131, r44_132, r44_135, r44_138, up_same, cbI_some, cbV_some, reduceIte, g1, g2, e1, e2T, K67, gb, gi, K66_2, nz1, nz2, nz3, nz4, nz6, b10]
          · simp only [c136, r136_0, r136_1, r136_2, r136_5, r136_8, r136_9, r136_10, r136_13, r136_14, r136_15, r136_16, r136_19, r136_22, r136_24, r136_25, r136_26, r136_29, r136_30, r136_31, r136_34, r136_35, r136_36, r136_37, r136_40, r136_41, r136_76, r136_77, r136_80, r136_81, r136_82, r136_85, r136_86, r136_87, r136_90, r136_91, r136_92, r136_95, r136_96, r136_97, r136_100, r136_101, r136_102, r136_105, up_same, cbI_some, cbV_some, reduceIte, g1, g2, e1, e2T, m84, m83, gb, gi, ei, m81_2, nz1, nz2, nz3, nz4, nz6, b10]
        · skip
          have ei := mIn_1 e1 e2
          obtain ⟨n, hn, rfl⟩ := of_le (B := 240) (by decide) g1 g2
          obtain ⟨Z, Ne, ho, hs, hm⟩ := think h0 hwN hdN hn
          obtain ⟨⟨o1, o2, o3, o4, o5, o6, o7, o8, o9, o10, o11⟩, hk, om⟩ := id ho
          by_cases d0 : w = 0
          · have d0T := eq_true d0
            refine Ans.th h (Z := Z) (v := Ne 12 0 29) hk ?_ (fun X => ?_)
            · simp only [c44, r44_0, r44_1, r44_2, r44_5, r44_8, r44_9, r44_10, r44_13, r44_14, r44_17, r44_18, r44_19, r44_22, r44_24, r44_25, r44_26, r44_29, r44_30, r44_31, r44_34, r44_35, r44_36, r44_37, r44_40, r44_41, r44_76, r44_77, r44_80, r44_83, r44_86, r44_87, r44_88, r44_91, r44_94, r44_97, r44_98, r44_99, r44_102, r44_105, r44_108, r44_109, r44_110, r44_113, r44_116, r44_119, r44_120, r44_121, r44_124, r44_127, r44_130, r44_131, r44_132, r44_135, r44_138, up_same, cbI_some, cbV_some, reduceIte, g1, g2, e1, e2, d0T, K67, gb, gi, nz1, nz2, nz3, nz4, nz6, b10, hs, o1]
            · simp only [c136, r136_0, r136_1, r136_2, r136_5, r136_8, r136_9, r136_10, r136_13, r136_14, r136_15, r136_16, r136_19, r136_22, r136_24, r136_25, r136_26, r136_29, r136_30, r136_31, r136_34, r136_35, r136_36, r136_37, r136_40, r136_41, r136_76, r136_77, r136_80, r136_81, r136_82, r136_85, r136_86, r136_87, r136_90, r136_91, r136_92, r136_95, r136_96, r136_97, r136_100, r136_101, r136_102, r136_105, up_same, cbI_some, cbV_some, reduceIte, g1, g2, e1, e2, d0T, m84, m83, gb, gi, ei, nz1, nz2, nz3, nz4, nz6, b10, hm X]
          · skip
            by_cases d1 : w = 1
            · have d1T := eq_true d1
              refine Ans.th h (Z := Z) (v := mSum Ne) hk ?_ (fun X => ?_)
              · simp only [c44, r44_0, r44_1, r44_2, r44_5, r44_8, r44_9, r44_10, r44_13, r44_14, r44_17, r44_18, r44_19, r44_22, r44_24, r44_25, r44_26, r44_29, r44_30, r44_31, r44_34, r44_35, r44_36, r44_37, r44_40, r44_41, r44_76, r44_77, r44_80, r44_83, r44_86, r44_87, r44_88, r44_91, r44_94, r44_97, r44_98, r44_99, r44_102, r44_105, r44_108, r44_109, r44_110, r44_113, r44_116, r44_119, r44_120, r44_121, r44_124, r44_127, r44_130, r44_131, r44_132, r44_135, r44_138, up_same, cbI_some, cbV_some, reduceIte, g1, g2, e1, e2, d0, d1T, K67, gb, gi, nz1, nz2, nz3, nz4, nz6, b10, hs, o2]
              · simp only [c136, r136_0, r136_1, r136_2, r136_5, r136_8, r136_9, r136_10, r136_13, r136_14, r136_15, r136_16, r136_19, r136_22, r136_24, r136_25, r136_26, r136_29, r136_30, r136_31, r136_34, r136_35, r136_36, r136_37, r136_40, r136_41, r136_76, r136_77, r136_80, r136_81, r136_82, r136_85, r136_86, r136_87, r136_90, r136_91, r136_92, r136_95, r136_96, r136_97, r136_100, r136_101, r136_102, r136_105, up_same, cbI_some, cbV_some, reduceIte, g1, g2, e1, e2, d0, d1T, m84, m83, gb, gi, ei, nz1, nz2, nz3, nz4, nz6, b10, hm X, m125]
            · skip
              by_cases d2 : w = 2
              · have d2T := eq_true d2
                refine Ans.th h (Z := Z) (v := Ne 12 0 30) hk ?_ (fun X => ?_)
                · simp only [c44, r44_0, r44_1, r44_2, r44_5, r44_8, r44_9, r44_10, r44_13, r44_14, r44_17, r44_18, r44_19, r44_22, r44_24, r44_25, r44_26, r44_29, r44_30, r44_31, r44_34, r44_35, r44_36, r44_37, r44_40, r44_41, r44_76, r44_77, r44_80, r44_83, r44_86, r44_87, r44_88, r44_91, r44_94, r44_97, r44_98, r44_99, r44_102, r44_105, r44_108, r44_109, r44_110, r44_113, r44_116, r44_119, r44_120, r44_121, r44_124, r44_127, r44_130, r44_131, r44_132, r44_135, r44_138, up_same, cbI_some, cbV_some, reduceIte, g1, g2, e1, e2, d0, d1, d2T, K67, gb, gi, nz1, nz2, nz3, nz4, nz6, b10, hs, o6]
                · simp only [c136, r136_0, r136_1, r136_2, r136_5, r136_8, r136_9, r136_10, r136_13, r136_14, r136_15, r136_16, r136_19, r136_22, r136_24, r136_25, r136_26, r136_29, r136_30, r136_31, r136_34, r136_35, r136_36, r136_37, r136_40, r136_41, r136_76, r136_77, r136_80, r136_81, r136_82, r136_85, r136_86, r136_87, r136_90, r136_91, r136_92, r136_95, r136_96, r136_97, r136_100, r136_101, r136_102, r136_105, up_same, cbI_some, cbV_some, reduceIte, g1, g2, e1, e2, d0, d1, d2T, m84, m83, gb, gi, ei, nz1, nz2, nz3, nz4, nz6, b10, hm X]
              · skip
                by_cases d3 : w = 3
                · have d3T := eq_true d3
                  refine Ans.th h (Z := Z) (v := Ne 12 0 31) hk ?_ (fun X => ?_)
                  · simp only [c44, r44_0, r44_1, r44_2, r44_5, r44_8, r44_9, r44_10, r44_13, r44_14, r44_17, r44_18, r44_19, r44_22, r44_24, r44_25, r44_26, r44_29, r44_30, r44_31, r44_34, r44_35, r44_36, r44_37, r44_40, r44_41, r44_76, r44_77, r44_80, r44_83, r44_86, r44_87, r44_88, r44_91, r44_94, r44_97, r44_98, r44_99, r44_102, r44_105, r44_108, r44_109, r44_110, r44_113, r44_116, r44_119, r44_120, r44_121, r44_124, r44_127, r44_130, r44_131, r44_132, r44_135, r44_138, up_same, cbI_some, cbV_some, reduceIte, g1, g2, e1, e2, d0, d1, d2, d3T, K67, gb, gi, nz1, nz2, nz3, nz4, nz6, b10, hs, o7]
                  · simp only [c136, r136_0, r136_1, r136_2, r136_5, r136_8, r136_9, r136_10, r136_13, r136_14, r136_15, r136_16, r136_19, r136_22, r136_24, r136_25, r136_26, r136_29, r136_30, r136_31, r136_34, r136_35, r136_36, r136_37, r136_40, r136_41, r136_76, r136_77, r136_80, r136_81, r136_82, r136_85, r136_86, r136_87, r136_90, r136_91, r136_92, r136_95, r136_96, r136_97, r136_100, r136_101, r136_102, r136_105, up_same, cbI_some, cbV_some, reduceIte, g1, g2, e1, e2, d0, d1, d2, d3T, m84, m83, gb, gi, ei, nz1, nz2, nz3, nz4, nz6, b10, hm X]
                · skip
                  by_cases d4 : w = 4
                  · have d4T := eq_true d4
                    refine Ans.th h (Z := Z) (v := Ne 12 0 32) hk ?_ (fun X => ?_)
                    · simp only [c44, r44_0, r44_1, r44_2, r44_5, r44_8, r44_9, r44_10, r44_13, r44_14, r44_17, r44_18, r44_19, r44_22, r44_24, r44_25, r44_26, r44_29, r44_30, r44_31, r44_34, r44_35, r44_36, r44_37, r44_40, r44_41, r44_76, r44_77, r44_80, r44_83, r44_86, r44_87, r44_88, r44_91, r44_94, r44_97, r44_98, r44_99, r44_102, r44_105, r44_108, r44_109, r44_110, r44_113, r44_116, r44_119, r44_120, r44_121, r44_124, r44_127, r44_130, r44_131, r44_132, r44_135, r44_138, up_same, cbI_some, cbV_some, reduceIte, g1, g2, e1, e2, d0, d1, d2, d3, d4T, K67, gb, gi, nz1, nz2, nz3, nz4, nz6, b10, hs, o8]
                    · simp only [c136, r136_0, r136_1, r136_2, r136_5, r136_8, r136_9, r136_10, r136_13, r136_14, r136_15, r136_16, r136_19, r136_22, r136_24, r136_25, r136_26, r136_29, r136_30, r136_31, r136_34, r136_35, r136_36, r136_37, r136_40, r136_41, r136_76, r136_77, r136_80, r136_81, r136_82, r136_85, r136_86, r136_87, r136_90, r136_91, r136_92, r136_95, r136_96, r136_97, r136_100, r136_101, r136_102, r136_105, up_same, cbI_some, cbV_some, reduceIte, g1, g2, e1, e2, d0, d1, d2, d3, d4T, m84, m83, gb, gi, ei, nz1, nz2, nz3, nz4, nz6, b10, hm X]
                  · skip
                    refine Ans.th h (Z := Z) (v := Ne 12 0 40) hk ?_ (fun X => ?_)
                    · simp only [c44, r44_0, r44_1, r44_2, r44_5, r44_8, r44_9, r44_10, r44_13, r44_14, r44_17, r44_18, r44_19, r44_22, r44_24, r44_25, r44_26, r44_29, r44_30, r44_31, r44_34, r44_35, r44_36, r44_37, r44_40, r44_41, r44_76, r44_77, r44_80, r44_83, r44_86, r44_87, r44_88, r44_91, r44_94, r44_97, r44_98, r44_99, r44_102, r44_105, r44_108, r44_109, r44_110, r44_113, r44_116, r44_119, r44_120, r44_121, r44_124, r44_127, r44_130, r44_131, r44_132, r44_135, r44_138, up_same, cbI_some, cbV_some, reduceIte, g1, g2, e1, e2, d0, d1, d2, d3, d4, K67, gb, gi, nz1, nz2, nz3, nz4, nz6, b10, hs, k19 M Z 2 o9 c1, om]
                    · simp only [c136, r136_0, r136_1, r136_2, r136_5, r136_8, r136_9, r136_10, r136_13, r136_14, r136_15, r136_16, r136_19, r136_22, r136_24, r136_25, r136_26, r136_29, r136_30, r136_31, r136_34, r136_35, r136_36, r136_37, r136_40, r136_41, r136_76, r136_77, r136_80, r136_81, r136_82, r136_85, r136_86, r136_87, r136_90, r136_91, r136_92, r136_95, r136_96, r136_97, r136_100, r136_101, r136_102, r136_105, up_same, cbI_some, cbV_some, reduceIte, g1, g2, e1, e2, d0, d1, d2, d3, d4, m84, m83, gb, gi, ei, nz1, nz2, nz3, nz4, nz6, b10, hm X]
theorem ans_stood (x y : Int32) : Ans 45 137 [aI x, aI y] := by
  intro M h
  obtain ⟨⟨L, m, h0⟩, ⟨hhod, hlat⟩, ⟨hw0, hdr0, hwN, hdN⟩, him, htx, hrw, hrf⟩ := id h
  obtain ⟨hC, hK, hMs⟩ := id h0
  obtain ⟨c1, c2, c3, c4, c5, c6, c7, c8, c9, c10, c11, c12, c13, c14, c15, c16, c17, c18⟩ := id hC
  by_cases g1 : x < 0
  · have g1T := eq_true g1
    have gb := mBo_a 240 g1
    have gi := mIn_a 240 g1
    refine Ans.no h rf4 ?_ (fun X => ?_)
    · simp only [c45, r45_0, r45_1, r45_2, r45_5, r45_8, r45_9, r45_10, r45_13, r45_14, r45_17, r45_18, r45_21, r45_24, r45_25, r45_26, r45_27, r45_30, r45_31, r45_32, r45_35, r45_36, r45_37, r45_38, r45_41, r45_42, r45_45, r45_48, r45_49, r45_50, r45_53, up_same, cbI_some, cbV_some, reduceIte, g1T, K67, K12 c4, gb, gi, K66_4, nz1, nz2, nz3, nz4, nz6, b10]
    · simp only [c137, r137_0, r137_1, r137_2, r137_5, r137_8, r137_9, r137_10, r137_13, r137_14, r137_15, r137_18, r137_21, r137_22, r137_23, r137_24, r137_27, r137_28, r137_29, r137_32, r137_33, r137_34, r137_35, r137_38, r137_39, r137_42, r137_43, r137_44, up_same, cbI_some, cbV_some, reduceIte, g1T, m84, m85 X c5, gb, gi, m81_4, nz1, nz2, nz3, nz4, nz6, b10]
  · skip
    by_cases g2 : 240 < x
    · have g2T := eq_true g2
      have gb := mBo_b g1 g2
      have gi := mIn_b g1 g2
      refine Ans.no h rf6 ?_ (fun X => ?_)
      · simp only [c45, r45_0, r45_1, r45_2, r45_5, r45_8, r45_9, r45_10, r45_13, r45_14, r45_17, r45_18, r45_21, r45_24, r45_25, r45_26, r45_27, r45_30, r45_31, r45_32, r45_35, r45_36, r45_37, r45_38, r45_41, r45_42, r45_45, r45_48, r45_49, r45_50, r45_53, up_same, cbI_some, cbV_some, reduceIte, g1, g2T, K67, K12 c4, gb, gi, K66_6, nz1, nz2, nz3, nz4, nz6, b10]
      · simp only [c137, r137_0, r137_1, r137_2, r137_5, r137_8, r137_9, r137_10, r137_13, r137_14, r137_15, r137_18, r137_21, r137_22, r137_23, r137_24, r137_27, r137_28, r137_29, r137_32, r137_33, r137_34, r137_35, r137_38, r137_39, r137_42, r137_43, r137_44, up_same, cbI_some, cbV_some, reduceIte, g1, g2T, m84, m85 X c5, gb, gi, m81_6, nz1, nz2, nz3, nz4, nz6, b10]
    · skip
      have gb := mBo_0 g1 g2
      have gi := mIn_1 g1 g2
      by_cases f1 : y < 0
      · have f1T := eq_true f1
        refine Ans.no h rf1 ?_ (fun X => ?_)
        · simp only [c45, r45_0, r45_1, r45_2, r45_5, r45_8, r45_9, r45_10, r45_13, r45_14, r45_17, r45_18, r45_21, r45_24, r45_25, r45_26, r45_27, r45_30, r45_31, r45_32, r45_35, r45_36, r45_37, r45_38, r45_41, r45_42, r45_45, r45_48, r45_49, r45_50, r45_53, up_same, cbI_some, cbV_some, reduceIte, g1, g2, f1T, K67, K12 c4, gb, gi, K66_1, nz1, nz2, nz3, nz4, nz6, b10]
        · simp only [c137, r137_0, r137_1, r137_2, r137_5, r137_8, r137_9, r137_10, r137_13, r137_14, r137_15, r137_18, r137_21, r137_22, r137_23, r137_24, r137_27, r137_28, r137_29, r137_32, r137_33, r137_34, r137_35, r137_38, r137_39, r137_42, r137_43, r137_44, up_same, cbI_some, cbV_some, reduceIte, g1, g2, f1T, m84, m85 X c5, gb, gi, m81_1, nz1, nz2, nz3, nz4, nz6, b10]
      · skip
        by_cases f2 : y < nI L
        · have f2T := eq_true f2
          obtain ⟨k, hkL, rfl⟩ := of_lt (by omega) f1 f2
          have hv : vpB (nI k) 4 = true := vp_t (by omega) (by decide)
          have htn : (nI k).toNatClampNeg = k := tn (n := 4) (by omega) (by decide)
          obtain ⟨n, hn, rfl⟩ := of_le (B := 240) (by decide) g1 g2
          obtain ⟨Z, Ne, ho, hs, hm⟩ := think h0 hwN hdN hn
          obtain ⟨⟨o1, o2, o3, o4, o5, o6, o7, o8, o9, o10, o11⟩, hk, om⟩ := id ho
          obtain ⟨p1, p2, p3⟩ := o10 k hkL
          refine Ans.th h (Z := Z) (v := Ne 28 0 k) hk ?_ (fun X => ?_)
          · simp only [c45, r45_0, r45_1, r45_2, r45_5, r45_8, r45_9, r45_10, r45_13, r45_14, r45_17, r45_18, r45_21, r45_24, r45_25, r45_26, r45_27, r45_30, r45_31, r45_32, r45_35, r45_36, r45_37, r45_38, r45_41, r45_42, r45_45, r45_48, r45_49, r45_50, r45_53, up_same, cbI_some, cbV_some, reduceIte, g1, g2, f1, f2T, K67, K12 c4, gb, gi, hv, htn, nz1, nz2, nz3, nz4, nz6, b10, hs, p1]
          · simp only [c137, r137_0, r137_1, r137_2, r137_5, r137_8, r137_9, r137_10, r137_13, r137_14, r137_15, r137_18, r137_21, r137_22, r137_23, r137_24, r137_27, r137_28, r137_29, r137_32, r137_33, r137_34, r137_35, r137_38, r137_39, r137_42, r137_43, r137_44, up_same, cbI_some, cbV_some, reduceIte, g1, g2, f1, f2T, m84, m85 X c5, gb, gi, hv, htn, nz1, nz2, nz3, nz4, nz6, b10, hm X]
        · skip
          refine Ans.no h rf1 ?_ (fun X => ?_)
          · simp only [c45, r45_0, r45_1, r45_2, r45_5, r45_8, r45_9, r45_10, r45_13, r45_14, r45_17, r45_18, r45_21, r45_24, r45_25, r45_26, r45_27, r45_30, r45_31, r45_32, r45_35, r45_36, r45_37, r45_38, r45_41, r45_42, r45_45, r45_48, r45_49, r45_50, r45_53, up_same, cbI_some, cbV_some, reduceIte, g1, g2, f1, f2, K67, K12 c4, gb, gi, K66_1, nz1, nz2, nz3, nz4, nz6, b10]
          · simp only [c137, r137_0, r137_1, r137_2, r137_5, r137_8, r137_9, r137_10, r137_13, r137_14, r137_15, r137_18, r137_21, r137_22, r137_23, r137_24, r137_27, r137_28, r137_29, r137_32, r137_33, r137_34, r137_35, r137_38, r137_39, r137_42, r137_43, r137_44, up_same, cbI_some, cbV_some, reduceIte, g1, g2, f1, f2, m84, m85 X c5, gb, gi, m81_1, nz1, nz2, nz3, nz4, nz6, b10]
theorem ans_fault (x y w : Int32) : Ans 57 153 [aI x, aI y, aI w] := by
  intro M h
  obtain ⟨⟨L, m, h0⟩, ⟨hhod, hlat⟩, ⟨hw0, hdr0, hwN, hdN⟩, him, htx, hrw, hrf⟩ := id h
  obtain ⟨hC, hK, hMs⟩ := id h0
  obtain ⟨c1, c2, c3, c4, c5, c6, c7, c8, c9, c10, c11, c12, c13, c14, c15, c16, c17, c18⟩ := id hC
  by_cases g1 : x < 0
  · have g1T := eq_true g1
    have gb := mBo_a 240 g1
    have gi := mIn_a 240 g1
    refine Ans.no h rf4 ?_ (fun X => ?_)
    · simp only [c57, r57_0, r57_1, r57_2, r57_3, r57_4, r57_7, r57_9, r57_11, r57_14, r57_15, r57_17, r57_20, r57_21, r57_22, r57_23, r57_26, r57_27, r57_30, r57_33, r57_34, r57_35, r57_37, r57_38, r57_41, r57_43, r57_46, r57_49, r57_51, r57_54, r57_56, r57_59, r57_60, up_same, cbI_some, cbV_some, reduceIte, g1T, K67, K12 c4, c69, r69_0, r69_1, r69_2, r69_5, r69_8, r69_10, r69_12, r69_15, r69_16, r69_19, r69_20, r69_23, r69_26, r69_27, r69_29, r69_31, r69_34, r69_35, r69_38, r69_39, r69_40, r69_43, r69_45, r69_47, r69_49, gb, gi, K66_4, nz1, nz2, nz3, nz4, nz6, b10]
    · simp only [c153, r153_0, r153_1, r153_2, r153_5, r153_8, r153_10, r153_12, r153_15, r153_16, r153_17, r153_20, r153_23, r153_24, r153_27, r153_28, r153_29, r153_30, r153_33, r153_36, r153_38, r153_41, r153_42, r153_44, r153_46, r153_49, r153_50, r153_52, r153_55, r153_56, r153_57, r153_58, r153_61, r153_62, r153_65, r153_66, r153_69, r153_70, r153_71, r153_74, r153_75, r153_78, r153_79, r153_80, up_same, cbI_some, cbV_some, reduceIte, g1T, m84, m85 X c5, m83, gb, gi, m81_4, nz1, nz2, nz3, nz4, nz6, b10]
  · skip
    by_cases g2 : 240 < x
    · have g2T := eq_true g2
      have gb := mBo_b g1 g2
      have gi := mIn_b g1 g2
      refine Ans.no h rf6 ?_ (fun X => ?_)
      · simp only [c57, r57_0, r57_1, r57_2, r57_3, r57_4, r57_7, r57_9, r57_11, r57_14, r57_15, r57_17, r57_20, r57_21, r57_22, r57_23, r57_26, r57_27, r57_30, r57_33, r57_34, r57_35, r57_37, r57_38, r57_41, r57_43, r57_46, r57_49, r57_51, r57_54, r57_56, r57_59, r57_60, up_same, cbI_some, cbV_some, reduceIte, g1, g2T, K67, K12 c4, c69, r69_0, r69_1, r69_2, r69_5, r69_8, r69_10, r69_12, r69_15, r69_16, r69_19, r69_20, r69_23, r69_26, r69_27, r69_29, r69_31, r69_34, r69_35, r69_38, r69_39, r69_40, r69_43, r69_45, r69_47, r69_49, gb, gi, K66_6, nz1, nz2, nz3, nz4, nz6, b10]
      · simp only [c153, r153_0, r153_1, r153_2, r153_5, r153_8, r153_10, r153_12, r153_15, r153_16, r153_17, r153_20, r153_23, r153_24, r153_27, r153_28, r153_29, r153_30, r153_33, r153_36, r153_38, r153_41, r153_42, r153_44, r153_46, r153_49, r153_50, r153_52, r153_55, r153_56, r153_57, r153_58, r153_61, r153_62, r153_65, r153_66, r153_69, r153_70, r153_71, r153_74, r153_75, r153_78, r153_79, r153_80, up_same, cbI_some, cbV_some, reduceIte, g1, g2T, m84, m85 X c5, m83, gb, gi, m81_6, nz1, nz2, nz3, nz4, nz6, b10]
    · skip
      have gb := mBo_0 g1 g2
      have gi := mIn_1 g1 g2
      by_cases f1 : y < 0
      · have f1T := eq_true f1
        refine Ans.no h rf1 ?_ (fun X => ?_)
        · simp only [c57, r57_0, r57_1, r57_2, r57_3, r57_4, r57_7, r57_9, r57_11, r57_14, r57_15, r57_17, r57_20, r57_21, r57_22, r57_23, r57_26, r57_27, r57_30, r57_33, r57_34, r57_35, r57_37, r57_38, r57_41, r57_43, r57_46, r57_49, r57_51, r57_54, r57_56, r57_59, r57_60, up_same, cbI_some, cbV_some, reduceIte, g1, g2, f1T, K67, K12 c4, c69, r69_0, r69_1, r69_2, r69_5, r69_8, r69_10, r69_12, r69_15, r69_16, r69_19, r69_20, r69_23, r69_26, r69_27, r69_29, r69_31, r69_34, r69_35, r69_38, r69_39, r69_40, r69_43, r69_45, r69_47, r69_49, gb, gi, K66_1, nz1, nz2, nz3, nz4, nz6, b10]
        · simp only [c153, r153_0, r153_1, r153_2, r153_5, r153_8, r153_10, r153_12, r153_15, r153_16, r153_17, r153_20, r153_23, r153_24, r153_27, r153_28, r153_29, r153_30, r153_33, r153_36, r153_38, r153_41, r153_42, r153_44, r153_46, r153_49, r153_50, r153_52, r153_55, r153_56, r153_57, r153_58, r153_61, r153_62, r153_65, r153_66, r153_69, r153_70, r153_71, r153_74, r153_75, r153_78, r153_79, r153_80, up_same, cbI_some, cbV_some, reduceIte, g1, g2, f1T, m84, m85 X c5, m83, gb, gi, m81_1, nz1, nz2, nz3, nz4, nz6, b10]
      · skip
        by_cases f2 : y < nI L
        · have f2T := eq_true f2
          obtain ⟨k, hkL, rfl⟩ := of_lt (by omega) f1 f2
          have hv : vpB (nI k) 4 = true := vp_t (by omega) (by decide)
          have htn : (nI k).toNatClampNeg = k := tn (n := 4) (by omega) (by decide)
          by_cases e1 : w < 0
          · have e1T := eq_true e1
            have ei := mIn_a 1 e1
            refine Ans.no h rf2 ?_ (fun X => ?_)
            · simp only [c57, r57_0, r57_1, r57_2, r57_3, r57_4, r57_7, r57_9, r57_11, r57_14, r57_15, r57_17, r57_20, r57_21, r57_22, r57_23, r57_26, r57_27, r57_30, r57_33, r57_34, r57_35, r57_37, r57_38, r57_41, r57_43, r57_46, r57_49, r57_51, r57_54, r57_56, r57_59, r57_60, up_same, cbI_some, cbV_some, reduceIte, g1, g2, f1, f2T, e1T, K67, K12 c4, c69, r69_0, r69_1, r69_2, r69_5, r69_8, r69_10, r69_12, r69_15, r69_16, r69_19, r69_20, r69_23, r69_26, r69_27, r69_29, r69_31, r69_34, r69_35, r69_38, r69_39, r69_40, r69_43, r69_45, r69_47, r69_49, gb, gi, hv, htn, K66_2, nz1, nz2, nz3, nz4, nz6, b10]
            · simp only [c153, r153_0, r153_1, r153_2, r153_5, r153_8, r153_10, r153_12, r153_15, r153_16, r153_17, r153_20, r153_23, r153_24, r153_27, r153_28, r153_29, r153_30, r153_33, r153_36, r153_38, r153_41, r153_42, r153_44, r153_46, r153_49, r153_50, r153_52, r153_55, r153_56, r153_57, r153_58, r153_61, r153_62, r153_65, r153_66, r153_69, r153_70, r153_71, r153_74, r153_75, r153_78, r153_79, r153_80, up_same, cbI_some, cbV_some, reduceIte, g1, g2, f1, f2T, e1T, m84, m85 X c5, m83, gb, gi, hv, htn, ei, m81_2, nz1, nz2, nz3, nz4, nz6, b10]
          · skip
            by_cases e2 : 1 < w
            · have e2T := eq_true e2
              have ei := mIn_b e1 e2
              refine Ans.no h rf2 ?_ (fun X => ?_)
              · simp only [c57, r57_0, r57_1, r57_2, r57_3, r57_4, r57_7, r57_9, r57_11, r57_14, r57_15, r57_17, r57_20, r57_21, r57_22, r57_23, r57_26, r57_27, r57_30, r57_33, r57_34, r57_35, r57_37, r57_38, r57_41, r57_43, r57_46, r57_49, r57_51, r57_54, r57_56, r57_59, r57_60, up_same, cbI_some, cbV_some, reduceIte, g1, g2, f1, f2T, e1, e2T, K67, K12 c4, c69, r69_0, r69_1, r69_2, r69_5, r69_8, r69_10, r69_12, r69_15, r69_16, r69_19, r69_20, r69_23, r69_26, r69_27, r69_29, r69_31, r69_34, r69_35, r69_38, r69_39, r69_40, r69_43, r69_45, r69_47, r69_49, gb, gi, hv, htn, K66_2, nz1, nz2, nz3, nz4, nz6, b10]
              · simp only [c153, r153_0, r153_1, r153_2, r153_5, r153_8, r153_10, r153_12, r153_15, r153_16, r153_17, r153_20, r153_23, r153_24, r153_27, r153_28, r153_29, r153_30, r153_33, r153_36, r153_38, r153_41, r153_42, r153_44, r153_46, r153_49, r153_50, r153_52, r153_55, r153_56, r153_57, r153_58, r153_61, r153_62, r153_65, r153_66, r153_69, r153_70, r153_71, r153_74, r153_75, r153_78, r153_79, r153_80, up_same, cbI_some, cbV_some, reduceIte, g1, g2, f1, f2T, e1, e2T, m84, m85 X c5, m83, gb, gi, hv, htn, ei, m81_2, nz1, nz2, nz3, nz4, nz6, b10]
            · skip
              have ei := mIn_1 e1 e2
              obtain ⟨n, hn, rfl⟩ := of_le (B := 240) (by decide) g1 g2
              obtain ⟨Z, Ne, ho, hs, hm⟩ := think h0 hwN hdN hn
              obtain ⟨⟨o1, o2, o3, o4, o5, o6, o7, o8, o9, o10, o11⟩, hk, om⟩ := id ho
              obtain ⟨p1, p2, p3⟩ := o10 k hkL
              by_cases d0 : w = 0
              · have d0T := eq_true d0
                refine Ans.th h (Z := Z) (v := Ne 29 0 k) hk ?_ (fun X => ?_)
                · simp only [c57, r57_0, r57_1, r57_2, r57_3, r57_4, r57_7, r57_9, r57_11, r57_14, r57_15, r57_17, r57_20, r57_21, r57_22, r57_23, r57_26, r57_27, r57_30, r57_33, r57_34, r57_35, r57_37, r57_38, r57_41, r57_43, r57_46, r57_49, r57_51, r57_54, r57_56, r57_59, r57_60, up_same, cbI_some, cbV_some, reduceIte, g1, g2, f1, f2T, e1, e2, d0T, K67, K12 c4, c69, r69_0, r69_1, r69_2, r69_5, r69_8, r69_10, r69_12, r69_15, r69_16, r69_19, r69_20, r69_23, r69_26, r69_27, r69_29, r69_31, r69_34, r69_35, r69_38, r69_39, r69_40, r69_43, r69_45, r69_47, r69_49, gb, gi, hv, htn, nz1, nz2, nz3, nz4, nz6, b10, hs, p2]
                · simp only [c153, r153_0, r153_1, r153_2, r153_5, r153_8, r153_10, r153_12, r153_15, r153_16, r153_17, r153_20, r153_23, r153_24, r153_27, r153_28, r153_29, r153_30, r153_33, r153_36, r153_38, r153_41, r153_42, r153_44, r153_46, r153_49, r153_50, r153_52, r153_55, r153_56, r153_57, r153_58, r153_61, r153_62, r153_65, r153_66, r153_69, r153_70, r153_71, r153_74, r153_75, r153_78, r153_79, r153_80, up_same, cbI_some, cbV_some, reduceIte, g1, g2, f1, f2T, e1, e2, d0T, m84, m85 X c5, m83, gb, gi, hv, htn, ei, nz1, nz2, nz3, nz4, nz6, b10, hm X]
              · skip
                refine Ans.th h (Z := Z) (v := Ne 30 0 k) hk ?_ (fun X => ?_)
                · simp only [c57, r57_0, r57_1, r57_2, r57_3, r57_4, r57_7, r57_9, r57_11, r57_14, r57_15, r57_17, r57_20, r57_21, r57_22, r57_23, r57_26, r57_27, r57_30, r57_33, r57_34, r57_35, r57_37, r57_38, r57_41, r57_43, r57_46, r57_49, r57_51, r57_54, r57_56, r57_59, r57_60, up_same, cbI_some, cbV_some, reduceIte, g1, g2, f1, f2T, e1, e2, d0, K67, K12 c4, c69, r69_0, r69_1, r69_2, r69_5, r69_8, r69_10, r69_12, r69_15, r69_16, r69_19, r69_20, r69_23, r69_26, r69_27, r69_29, r69_31, r69_34, r69_35, r69_38, r69_39, r69_40, r69_43, r69_45, r69_47, r69_49, gb, gi, hv, htn, nz1, nz2, nz3, nz4, nz6, b10, hs, p3]
                · simp only [c153, r153_0, r153_1, r153_2, r153_5, r153_8, r153_10, r153_12, r153_15, r153_16, r153_17, r153_20, r153_23, r153_24, r153_27, r153_28, r153_29, r153_30, r153_33, r153_36, r153_38, r153_41, r153_42, r153_44, r153_46, r153_49, r153_50, r153_52, r153_55, r153_56, r153_57, r153_58, r153_61, r153_62, r153_65, r153_66, r153_69, r153_70, r153_71, r153_74, r153_75, r153_78, r153_79, r153_80, up_same, cbI_some, cbV_some, reduceIte, g1, g2, f1, f2T, e1, e2, d0, m84, m85 X c5, m83, gb, gi, hv, htn, ei, nz1, nz2, nz3, nz4, nz6, b10, hm X]
        · skip
          refine Ans.no h rf1 ?_ (fun X => ?_)
          · simp only [c57, r57_0, r57_1, r57_2, r57_3, r57_4, r57_7, r57_9, r57_11, r57_14, r57_15, r57_17, r57_20, r57_21, r57_22, r57_23, r57_26, r57_27, r57_30, r57_33, r57_34, r57_35, r57_37, r57_38, r57_41, r57_43, r57_46, r57_49, r57_51, r57_54, r57_56, r57_59, r57_60, up_same, cbI_some, cbV_some, reduceIte, g1, g2, f1, f2, K67, K12 c4, c69, r69_0, r69_1, r69_2, r69_5, r69_8, r69_10, r69_12, r69_15, r69_16, r69_19, r69_20, r69_23, r69_26, r69_27, r69_29, r69_31, r69_34, r69_35, r69_38, r69_39, r69_40, r69_43, r69_45, r69_47, r69_49, gb, gi, K66_1, nz1, nz2, nz3, nz4, nz6, b10]
          · simp only [c153, r153_0, r153_1, r153_2, r153_5, r153_8, r153_10, r153_12, r153_15, r153_16, r153_17, r153_20, r153_23, r153_24, r153_27, r153_28, r153_29, r153_30, r153_33, r153_36, r153_38, r153_41, r153_42, r153_44, r153_46, r153_49, r153_50, r153_52, r153_55, r153_56, r153_57, r153_58, r153_61, r153_62, r153_65, r153_66, r153_69, r153_70, r153_71, r153_74, r153_75, r153_78, r153_79, r153_80, up_same, cbI_some, cbV_some, reduceIte, g1, g2, f1, f2, m84, m85 X c5, m83, gb, gi, m81_1, nz1, nz2, nz3, nz4, nz6, b10]
theorem ans_inStep (x : Int32) : Ans 53 147 [aI x] := by
  intro M h
  obtain ⟨⟨L, m, h0⟩, ⟨hhod, hlat⟩, ⟨hw0, hdr0, hwN, hdN⟩, him, htx, hrw, hrf⟩ := id h
  obtain ⟨hC, hK, hMs⟩ := id h0
  obtain ⟨c1, c2, c3, c4, c5, c6, c7, c8, c9, c10, c11, c12, c13, c14, c15, c16, c17, c18⟩ := id hC
  by_cases g1 : x < 0
  · have g1T := eq_true g1
    have gb := mBo_a 240 g1
    have gi := mIn_a 240 g1
    refine Ans.no h rf4 ?_ (fun X => ?_)
    · simp only [c53, r53_0, r53_1, r53_2, r53_5, r53_8, r53_9, r53_10, r53_13, r53_14, r53_15, r53_18, r53_19, r53_20, r53_21, r53_24, r53_25, r53_28, r53_31, r53_34, up_same, cbI_some, cbV_some, reduceIte, g1T, K67, gb, gi, K66_4, nz1, nz2, nz3, nz4, nz6, b10]
    · simp only [c147, r147_0, r147_1, r147_2, r147_5, r147_8, r147_9, r147_10, r147_13, r147_14, r147_15, r147_18, r147_19, r147_20, r147_21, r147_24, r147_25, r147_28, up_same, cbI_some, cbV_some, reduceIte, g1T, m84, gb, gi, m81_4, nz1, nz2, nz3, nz4, nz6, b10]
  · skip
    by_cases g2 : 240 < x
    · have g2T := eq_true g2
      have gb := mBo_b g1 g2
      have gi := mIn_b g1 g2
      refine Ans.no h rf6 ?_ (fun X => ?_)
      · simp only [c53, r53_0, r53_1, r53_2, r53_5, r53_8, r53_9, r53_10, r53_13, r53_14, r53_15, r53_18, r53_19, r53_20, r53_21, r53_24, r53_25, r53_28, r53_31, r53_34, up_same, cbI_some, cbV_some, reduceIte, g1, g2T, K67, gb, gi, K66_6, nz1, nz2, nz3, nz4, nz6, b10]
      · simp only [c147, r147_0, r147_1, r147_2, r147_5, r147_8, r147_9, r147_10, r147_13, r147_14, r147_15, r147_18, r147_19, r147_20, r147_21, r147_24, r147_25, r147_28, up_same, cbI_some, cbV_some, reduceIte, g1, g2T, m84, gb, gi, m81_6, nz1, nz2, nz3, nz4, nz6, b10]
    · skip
      have gb := mBo_0 g1 g2
      have gi := mIn_1 g1 g2
      obtain ⟨n, hn, rfl⟩ := of_le (B := 240) (by decide) g1 g2
      obtain ⟨Z, Ne, ho, hs, hm⟩ := think h0 hwN hdN hn
      obtain ⟨⟨o1, o2, o3, o4, o5, o6, o7, o8, o9, o10, o11⟩, hk, om⟩ := id ho
      refine Ans.th h (Z := Z) (v := Ne 12 0 34) hk ?_ (fun X => ?_)
      · simp only [c53, r53_0, r53_1, r53_2, r53_5, r53_8, r53_9, r53_10, r53_13, r53_14, r53_15, r53_18, r53_19, r53_20, r53_21, r53_24, r53_25, r53_28, r53_31, r53_34, up_same, cbI_some, cbV_some, reduceIte, g1, g2, K67, gb, gi, nz1, nz2, nz3, nz4, nz6, b10, hs, o3]
      · simp only [c147, r147_0, r147_1, r147_2, r147_5, r147_8, r147_9, r147_10, r147_13, r147_14, r147_15, r147_18, r147_19, r147_20, r147_21, r147_24, r147_25, r147_28, up_same, cbI_some, cbV_some, reduceIte, g1, g2, m84, gb, gi, nz1, nz2, nz3, nz4, nz6, b10, hm X]
theorem ans_emptyFirst (w : Int32) : Ans 55 150 [aI w] := by
  intro M h
  obtain ⟨⟨L, m, h0⟩, ⟨hhod, hlat⟩, ⟨hw0, hdr0, hwN, hdN⟩, him, htx, hrw, hrf⟩ := id h
  obtain ⟨hC, hK, hMs⟩ := id h0
  obtain ⟨c1, c2, c3, c4, c5, c6, c7, c8, c9, c10, c11, c12, c13, c14, c15, c16, c17, c18⟩ := id hC
  by_cases e1 : w < 0
  · have e1T := eq_true e1
    have ei := mIn_a 1 e1
    refine Ans.no h rf2 ?_ (fun X => ?_)
    · simp only [c55, r55_0, r55_1, r55_4, r55_5, r55_6, r55_9, r55_10, r55_12, r55_15, r55_16, r55_17, r55_20, r55_23, r55_24, r55_27, r55_28, r55_31, r55_34, r55_37, r55_40, r55_41, r55_44, r55_47, r55_50, up_same, cbI_some, cbV_some, reduceIte, e1T, K66_2, nz1, nz2, nz3, nz4, nz6, b10]
    · simp only [c150, r150_0, r150_1, r150_2, r150_3, r150_6, r150_9, r150_10, r150_12, r150_15, r150_16, r150_17, r150_20, r150_23, r150_24, r150_27, r150_28, r150_31, r150_34, r150_35, r150_38, up_same, cbI_some, cbV_some, reduceIte, e1T, m83, ei, m81_2, nz1, nz2, nz3, nz4, nz6, b10]
  · skip
    by_cases e2 : 1 < w
    · have e2T := eq_true e2
      have ei := mIn_b e1 e2
      refine Ans.no h rf2 ?_ (fun X => ?_)
      · simp only [c55, r55_0, r55_1, r55_4, r55_5, r55_6, r55_9, r55_10, r55_12, r55_15, r55_16, r55_17, r55_20, r55_23, r55_24, r55_27, r55_28, r55_31, r55_34, r55_37, r55_40, r55_41, r55_44, r55_47, r55_50, up_same, cbI_some, cbV_some, reduceIte, e1, e2T, K66_2, nz1, nz2, nz3, nz4, nz6, b10]
      · simp only [c150, r150_0, r150_1, r150_2, r150_3, r150_6, r150_9, r150_10, r150_12, r150_15, r150_16, r150_17, r150_20, r150_23, r150_24, r150_27, r150_28, r150_31, r150_34, r150_35, r150_38, up_same, cbI_some, cbV_some, reduceIte, e1, e2T, m83, ei, m81_2, nz1, nz2, nz3, nz4, nz6, b10]
    · skip
      have ei := mIn_1 e1 e2
      obtain ⟨Z, Ne, ho, hs, hm⟩ := think h0 hwN hdN (n := 240) (by decide)
      obtain ⟨⟨o1, o2, o3, o4, o5, o6, o7, o8, o9, o10, o11⟩, hk, om⟩ := id ho
      have e240 : nI 240 = 240 := by decide +kernel
      rw [e240] at hs hm
      by_cases d0 : w = 0
      · have d0T := eq_true d0
        refine Ans.th h (Z := Z) (v := Ne 12 0 35) hk ?_ (fun X => ?_)
        · simp only [c55, r55_0, r55_1, r55_4, r55_5, r55_6, r55_9, r55_10, r55_12, r55_15, r55_16, r55_17, r55_20, r55_23, r55_24, r55_27, r55_28, r55_31, r55_34, r55_37, r55_40, r55_41, r55_44, r55_47, r55_50, up_same, cbI_some, cbV_some, reduceIte, e1, e2, d0T, nz1, nz2, nz3, nz4, nz6, b10, hs, o4]
        · simp only [c150, r150_0, r150_1, r150_2, r150_3, r150_6, r150_9, r150_10, r150_12, r150_15, r150_16, r150_17, r150_20, r150_23, r150_24, r150_27, r150_28, r150_31, r150_34, r150_35, r150_38, up_same, cbI_some, cbV_some, reduceIte, e1, e2, d0T, m83, ei, nz1, nz2, nz3, nz4, nz6, b10, hm X]
      · skip
        refine Ans.th h (Z := Z) (v := Ne 12 0 36) hk ?_ (fun X => ?_)
        · simp only [c55, r55_0, r55_1, r55_4, r55_5, r55_6, r55_9, r55_10, r55_12, r55_15, r55_16, r55_17, r55_20, r55_23, r55_24, r55_27, r55_28, r55_31, r55_34, r55_37, r55_40, r55_41, r55_44, r55_47, r55_50, up_same, cbI_some, cbV_some, reduceIte, e1, e2, d0, nz1, nz2, nz3, nz4, nz6, b10, hs, o5]
        · simp only [c150, r150_0, r150_1, r150_2, r150_3, r150_6, r150_9, r150_10, r150_12, r150_15, r150_16, r150_17, r150_20, r150_23, r150_24, r150_27, r150_28, r150_31, r150_34, r150_35, r150_38, up_same, cbI_some, cbV_some, reduceIte, e1, e2, d0, m83, ei, nz1, nz2, nz3, nz4, nz6, b10, hm X]
theorem KpN.w12 {N Ne : Nm} (h : KpN N Ne) : Ne 12 0 37 = N 12 0 37 ∧ Ne 12 0 38 = N 12 0 38 := ⟨h.2.2.2.2.2 37 (by decide), h.2.2.2.2.2 38 (by decide)⟩
theorem ans_hoist (x : Int32) : Ans 51 145 [aI x] := by
  intro M h
  obtain ⟨⟨L, m, h0⟩, ⟨hhod, hlat⟩, ⟨hw0, hdr0, hwN, hdN⟩, him, htx, hrw, hrf⟩ := id h
  obtain ⟨hC, hK, hMs⟩ := id h0
  obtain ⟨c1, c2, c3, c4, c5, c6, c7, c8, c9, c10, c11, c12, c13, c14, c15, c16, c17, c18⟩ := id hC
  by_cases g1 : x < 0
  · have g1T := eq_true g1
    have gb := mBo_a 240 g1
    have gi := mIn_a 240 g1
    refine Ans.lo h rf4 ?_ (fun X => ?_)
    · simp only [c51, r51_0, r51_1, r51_2, r51_5, r51_8, r51_9, r51_10, r51_13, r51_15, r51_16, r51_17, r51_20, r51_21, r51_22, r51_23, r51_24, r51_25, r51_26, r51_29, r51_30, r51_31, r51_34, r51_35, up_same, cbI_some, cbV_some, reduceIte, g1T, K67, gb, gi, K66_4, nz1, nz2, nz3, nz4, nz6, b10]
    · simp only [c145, r145_0, r145_1, r145_2, r145_5, r145_8, r145_9, r145_10, r145_13, r145_14, r145_15, r145_18, r145_19, r145_20, r145_21, r145_24, r145_25, r145_26, r145_27, r145_28, r145_29, r145_32, r145_33, r145_34, up_same, cbI_some, cbV_some, reduceIte, g1T, m84, gb, gi, m82_4, nz1, nz2, nz3, nz4, nz6, b10]
  · skip
    by_cases g2 : 240 < x
    · have g2T := eq_true g2
      have gb := mBo_b g1 g2
      have gi := mIn_b g1 g2
      refine Ans.lo h rf6 ?_ (fun X => ?_)
      · simp only [c51, r51_0, r51_1, r51_2, r51_5, r51_8, r51_9, r51_10, r51_13, r51_15, r51_16, r51_17, r51_20, r51_21, r51_22, r51_23, r51_24, r51_25, r51_26, r51_29, r51_30, r51_31, r51_34, r51_35, up_same, cbI_some, cbV_some, reduceIte, g1, g2T, K67, gb, gi, K66_6, nz1, nz2, nz3, nz4, nz6, b10]
      · simp only [c145, r145_0, r145_1, r145_2, r145_5, r145_8, r145_9, r145_10, r145_13, r145_14, r145_15, r145_18, r145_19, r145_20, r145_21, r145_24, r145_25, r145_26, r145_27, r145_28, r145_29, r145_32, r145_33, r145_34, up_same, cbI_some, cbV_some, reduceIte, g1, g2T, m84, gb, gi, m82_6, nz1, nz2, nz3, nz4, nz6, b10]
    · skip
      have gb := mBo_0 g1 g2
      have gi := mIn_1 g1 g2
      obtain ⟨n, hn, rfl⟩ := of_le (B := 240) (by decide) g1 g2
      obtain ⟨Z0, N0, ho0, hs0, hm0⟩ := think h0 hwN hdN hn
      have hk0 := ho0.2.1
      have h01 : R0 (M 1) N0 L m := h0.cf hk0.1
      obtain ⟨Z1, N1, ho1, hs1, hm1⟩ := thinkQ (q := 2) (a := 1) h01 (hk0.w12.1.trans hwN) (hk0.w12.2.trans hdN) hn (by decide) (by decide) (fun _ => by decide)
      have k1 := kp_back (by decide) ho1.2.1
      have hM1 : va_up M 2 Z1 1 = M 1 := up_ne _ _ (by decide)
      obtain ⟨Z2, N2, ho2, hs2, hm2⟩ := think (M := va_up M 2 Z1) (by rw [hM1]; exact h0) hwN hdN hn
      have e20 : N2 = N0 := by
        have a := hm2 M
        have b := hm0 M
        rw [a] at b
        have c := congrArg (fun z : Option Rs => (z.getD (none, M)).2 4) b
        simpa only [Option.getD_some, up_same] using c
      subst e20
      have m1 := fun X => m140 (by decide) (hm1 X)
      have c71 := K71 hs2 ho2.1
      rw [v_2, n_1] at hs1
      simp only [v_2, n_1] at m1
      refine Ans.th h (Z := Z2) (v := N1 12 0 29 - N2 12 0 29) (hk0.tr k1) ?_ (fun X => ?_)
      · simp only [c51, r51_0, r51_1, r51_2, r51_5, r51_8, r51_9, r51_10, r51_13, r51_15, r51_16, r51_17, r51_20, r51_21, r51_22, r51_23, r51_24, r51_25, r51_26, r51_29, r51_30, r51_31, r51_34, r51_35, up_same, cbI_some, cbV_some, reduceIte, g1, g2, K67, gb, gi, nz1, nz2, nz3, nz4, nz6, b10, hs1, c71, up_up]
      · simp only [c145, r145_0, r145_1, r145_2, r145_5, r145_8, r145_9, r145_10, r145_13, r145_14, r145_15, r145_18, r145_19, r145_20, r145_21, r145_24, r145_25, r145_26, r145_27, r145_28, r145_29, r145_32, r145_33, r145_34, up_same, cbI_some, cbV_some, reduceIte, g1, g2, m84, gb, gi, nz1, nz2, nz3, nz4, nz6, b10, m143 (hm0 X), m1]
