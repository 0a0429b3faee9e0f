/-! answers: site -/
theorem Chn.q {N N' : Nm} {t : Nat → Int32} {c K : Nat} (h : Chn N t c K) (hf : FrQ N N') : Chn N' t c K := by
  intro i hi
  have := h i hi
  unfold Sto at this ⊢
  rw [hf.1 24 (by decide), hf.1 25 (by decide), hf.1 26 (by decide)]
  exact this
theorem wr0 (M : Mm) (k i j : Nat) (v : Int32) : wr M 0 k i j v = va_up M 0 (wrN (M 0) k i j v) := by
  have := wr_up M 0 (M 0) k i j v
  rwa [up_id] at this
theorem pass2 {M : Mm} {r : Nat → Int32} {c K : Nat} (hc : c ≤ 96) (h8 : M 0 8 0 1 = nI c) (htx : tx (M 0 9 0) c = tx r c) (hby : ∀ q, byteO (tx r c q)) (hK : K ≤ 40) (hpos : pos (tx r c) K = c) : ∀ (j k : Nat) (S N : Nm) (l1 k1 : AV), k + j = K → Lv S N → Chn N (tx r c) c K → N 12 0 20 = nI K → (∃ (S' N' : Nm) (q : Nat), run 38 41 [aR 0 7 0, l1, aI (nI (pos (tx r c) k)), aI (nI k)] [] (va_up M 2 S) = some (some (-2000 - nI q), va_up (va_up M 2 S') 0 (wrN (M 0) 8 0 1 0)) ∧ (∀ X : Mm, run 100 86 [aR 4 12 0, k1, aI (nI k)] [] (va_up X 4 N) = some (some (-2000 - nI q), va_up X 4 (rsP N' 1 39))) ∧ FrQ N N') ∨ ∃ S' N' : Nm, run 38 41 [aR 0 7 0, l1, aI (nI (pos (tx r c) k)), aI (nI k)] [] (va_up M 2 S) = run 38 97 [aR 0 7 0, l1, aI (nI c), aI (nI K)] [] (va_up M 2 S') ∧ (∀ X : Mm, run 100 86 [aR 4 12 0, k1, aI (nI k)] [] (va_up X 4 N) = some (some (nI K), va_up X 4 N')) ∧ FrQ N N' ∧ Lv S' N' := by
  have r0 : ∀ S : Nm, va_up M 2 S 0 = M 0 := fun S => up_ne _ _ (by decide)
  have hA : ∀ (S : Nm) (q : Nat), q < 1000 → call 32 [aR 0 8 0, aI (nI q)] (va_up M 2 S) = some (some (tx r c q), va_up M 2 S) := by
    intro S q hq
    have := K32 (va_up M 2 S) hc (by rw [r0]; exact h8) hq
    rw [r0, htx] at this
    exact this
  have hN : ∀ (S : Nm) (q d : Nat), q < 900 → d ≤ 9 → call 33 [aR 0 8 0, aI (nI q), aI (nI d)] (va_up M 2 S) = some (some (numV (tx r c) q d 0), va_up M 2 S) := by
    intro S q d hq hd
    have := K33 (va_up M 2 S) hc (by rw [r0]; exact h8) hq hd
    rw [r0, htx] at this
    exact this
  have hL : ∀ (S : Nm) (q : Nat), q < 1000 → call 35 [aR 0 8 0, aI (nI q)] (va_up M 2 S) = some (some (nI (sL (tx r c q))), va_up M 2 S) := by
    intro S q hq
    have := K35 (va_up M 2 S) hc (by rw [r0]; exact h8) hq
    rw [r0, htx] at this
    exact this
  have e96 : nI 96 = 96 := by decide +kernel
  intro j
  induction j with
  | zero =>
    intro k S N l1 k1 hk hl hch h20
    have : k = K := by omega
    subst this
    have t1 : (nI c < nI c) = False := eq_false (fun z => Int32.lt_irrefl z)
    have t2 : (nI k < nI k) = False := eq_false (fun z => Int32.lt_irrefl z)
    refine Or.inr ⟨S, N, ?_, fun X => ?_, FrQ.rf N, hl⟩
    · rw [r38_41, hpos]
      simp only [r38_42, r38_43, r38_46, r38_49, r0, h8, t1, reduceIte]
    · rw [r100_86]
      simp only [r100_87, r100_88, r100_91, r100_128, r100_129, r100_132, up_same, h20, t2, reduceIte]
  | succ j ih =>
    intro k S N l1 k1 hk hl hch h20
    obtain ⟨hst, hg, hpc⟩ := hch k (by omega)
    have t1 : (nI (pos (tx r c) k) < nI c) = True := by rw [nIlt (by omega) (by omega)]; exact eq_true hpc
    have t2 : (nI k < 96) = True := by rw [← e96, nIlt (by omega) (by omega)]; exact eq_true (by omega)
    have t3 : (nI k < nI K) = True := by rw [nIlt (by omega) (by omega)]; exact eq_true (by omega)
    have hv : vpB (nI k) 48 = true := vp_t (by omega) (by decide)
    have htn : (nI k).toNatClampNeg = k := tn (n := 48) (by omega) (by decide)
    rcases cm_all (M := M) (k := k) (p := pos (tx r c) k) hA hN hby hl (by omega) (by omega) hg hst with ⟨S', N', e1, e2, e3⟩ | ⟨S', N', e1, e2, e3, e4⟩
    · refine Or.inl ⟨S', N', pos (tx r c) k, ?_, fun X => ?_, e3⟩
      · rw [r38_41]
        simp only [r38_42, r38_43, r38_46, r38_49, r38_52, r38_53, r38_55, r38_58, r38_59, r38_60, r38_63, r38_66, r38_67, r38_70, r38_71, r38_74, r38_77, r38_78, r38_79, r0, h8, t1, t2, e1, wr0, cbI_some, reduceIte]
      · have e5 := m103r X N' (w := 1) (by decide)
        rw [n_1] at e5
        have e6 : rsP N' 1 39 25 0 k = nI (pos (tx r c) k) := by rw [rs_k _ _ (by decide) (by decide), e3.1 25 (by decide)]; exact hst.2.1
        rw [r100_86]
        simp only [r100_87, r100_88, r100_91, r100_94, r100_95, r100_96, r100_99, r100_105, r100_106, r100_107, r100_108, r100_111, r100_114, r100_115, r100_118, r100_119, r100_120, r100_121, up_same, h20, t3, e2, e5, hv, htn, e6, cbI_some, cbV_some, reduceIte]
    · have hp' : pos (tx r c) (k + 1) = pos (tx r c) k + sL (tx r c (pos (tx r c) k)) := rfl
      have hpk : pos (tx r c) k < 1000 := by omega
      have go1 : run 38 41 [aR 0 7 0, l1, aI (nI (pos (tx r c) k)), aI (nI k)] [] (va_up M 2 S) = run 38 41 [aR 0 7 0, l1, aI (nI (pos (tx r c) (k + 1))), aI (nI (k + 1))] [] (va_up M 2 S') := by
        rw [r38_41]
        simp only [r38_42, r38_43, r38_46, r38_49, r38_52, r38_53, r38_55, r38_58, r38_59, r38_60, r38_63, r38_80, r38_81, r38_82, r38_85, r38_86, r38_89, r38_90, r38_91, r38_94, r0, h8, t1, t2, e1, q10, hL _ _ hpk, nI_add, nI_1, hp', cbI_some, reduceIte]
      have go2 : ∀ X : Mm, run 100 86 [aR 4 12 0, k1, aI (nI k)] [] (va_up X 4 N) = run 100 86 [aR 4 12 0, k1, aI (nI (k + 1))] [] (va_up X 4 N') := by
        intro X
        rw [r100_86]
        simp only [r100_87, r100_88, r100_91, r100_94, r100_95, r100_96, r100_99, r100_102, r100_122, r100_125, up_same, h20, t3, e2, q10, nI_1, cbI_some, reduceIte]
      rcases ih (k + 1) S' N' l1 k1 (by omega) e4 (hch.q e3) ((e3.2 20 (by decide)).trans h20) with ⟨S2, N2, q, f1, f2, f3⟩ | ⟨S2, N2, f1, f2, f3, f4⟩
      · exact Or.inl ⟨S2, N2, q, go1.trans f1, fun X => (go2 X).trans (f2 X), e3.tr f3⟩
      · exact Or.inr ⟨S2, N2, go1.trans f1, fun X => (go2 X).trans (f2 X), e3.tr f3, f4⟩
theorem FrP.cf {N N' : Nm} (h : FrP N N') : CfE N N' := by
  intro k j hx
  by_cases h12 : k = 12
  · subst h12
    have : 10 ≤ j ∧ j < 14 := by
      refine Decidable.byContradiction (fun z => ?_)
      rw [idx_12 (by omega)] at hx
      omega
    exact h.2 j (by omega) (by omega) (by omega)
  · have : ¬ (k < 14 ∨ 22 < k) := fun z => by
      rw [idx_k z h12] at hx
      omega
    rw [h.1 k h12 (by omega) (by omega) (by omega)]
/-- the text is empty again -/
theorem TI.tx0 {A S1 S3 N N' : Nm} (h : TI A S1 S3 N) (hf : FrP N N') (h18 : N' 12 0 18 = 0) : TI (wrN A 8 0 1 0) S1 S3 N' := by
  obtain ⟨-, -, -, -, -, ⟨d, rc1, rc2, rc3, rc4⟩, hrf⟩ := id h
  refine TI.ch h hf.cf (hf.2 37 (by decide) (by decide) (by decide)) (hf.2 38 (by decide) (by decide) (by decide)) (hf.2 22 (by decide) (by decide) (by decide)) (hf.1 27 (by decide) (by decide) (by decide) (by decide)) (by rw [wn_k _ _ _ _ (by decide)]) ⟨0, by decide, (wn_eq _ _ _ _ _).trans nI_0.symm, h18.trans nI_0.symm, fun q hq => by omega⟩ ⟨d, rc1, by rw [wn_k _ _ _ _ (by decide)]; exact rc2, (hf.2 42 (by decide) (by decide) (by decide)).trans rc3, fun q hq => by rw [wn_k _ _ _ _ (by decide), hf.1 32 (by decide) (by decide) (by decide) (by decide)]; exact rc4 q hq⟩ (fun q hq => by rw [wn_k _ _ _ _ (by decide), hf.1 13 (by decide) (by decide) (by decide) (by decide)]; exact hrf q hq)
theorem TI.st2 {A S1 S1' S3 N N' : Nm} (h : TI A S1 S3 N) (hr : ∃ L m, R0 S1' N' L m) (hh : HodB N') (hl : S1' 0 0 12 = N' 12 0 12) (hw : S1' 0 0 13 = 0) (hd : ∀ q, q < 241 → nI q < S1' 0 0 14) (hf : FrQ (svP N 1 39) N') : TI A S1' S3 N' := by
  obtain ⟨-, -, ⟨-, -, h5, h6⟩, h8, ⟨c, t1, t2, t3, t4⟩, ⟨d, u1, u2, u3, u4⟩, h9⟩ := h
  have g12 : ∀ j, (18 ≤ j ∧ j ≤ 20) ∨ j = 22 ∨ j = 37 ∨ j = 38 ∨ j = 42 → N' 12 0 j = N 12 0 j := fun j hj => by rw [hf.2 j hj, svP_12 _ _ _ (by omega) (by omega)]
  have gk : ∀ k, k = 13 ∨ k = 23 ∨ k = 32 → N' k = N k := fun k hk => by rw [hf.1 k (by omega), svP_kd _ _ _ (by omega) (by omega)]
  have g27 : ∀ j, j < 50 → N' 27 0 j = N 27 0 j := fun j hj => by
    rw [hf.1 27 (by decide)]
    unfold svP
    rw [if_neg (fun z => by omega), if_neg (fun z => absurd z.1 (by decide)), if_neg (fun z => absurd z.1 (by decide))]
  refine ⟨hr, ⟨hh, hl⟩, ⟨hw, hd, (g12 37 (by decide)).trans h5, (g12 38 (by decide)).trans h6⟩, h8.kp rfl (g12 22 (by decide)) g27, ⟨c, t1, t2, (g12 18 (by decide)).trans t3, fun q hq => by rw [gk 23 (by decide)]; exact t4 q hq⟩, ⟨d, u1, u2, (g12 42 (by decide)).trans u3, fun q hq => by rw [gk 32 (by decide)]; exact u4 q hq⟩, fun q hq => by rw [gk 13 (by decide)]; exact h9 q hq⟩
theorem ans_site : Ans 38 100 [] := by
  intro M h
  obtain ⟨⟨L, m, h0⟩, ⟨hhod, hlat⟩, ⟨hw0, hdr0, hwN, hdN⟩, him, ⟨c, tc1, tc2, tc3, tc4⟩, hrw, hrf⟩ := id h
  have htx : tx (M 0 9 0) c = tx (M 4 23 0) c := by
    funext q
    unfold tx
    by_cases e : q < c
    · rw [if_pos e, if_pos e]
      exact (tc4 q e).1
    · rw [if_neg e, if_neg e]
  have hby : ∀ q, byteO (tx (M 4 23 0) c q) := by
    intro q
    unfold tx
    by_cases e : q < c
    · rw [if_pos e]
      obtain ⟨a, z, z1, z2⟩ := tc4 q e
      exact Or.inr ⟨z, z1, a.symm.trans z2⟩
    · rw [if_neg e]
      exact Or.inl rfl
  have hF0 : FrP (M 4) (wrN (wrN (M 4) 12 0 19 0) 12 0 20 0) := ⟨fun q a _ _ _ => by rw [wn_k _ _ _ _ a, wn_k _ _ _ _ a], fun j _ a b => by rw [wn_j _ _ _ _ b, wn_j _ _ _ _ a]⟩
  have q01' : ((1 : Int32) = 0) = False := by decide +kernel
  rcases pass1 (M := M) (r := M 4 23 0) tc1 tc2 htx hby 100 0 0 (wrN (wrN (M 4) 12 0 19 0) 12 0 20 0) none none (by omega) (by omega) (by omega) rfl (Or.inr rfl) (fun j hj => by omega) (by rw [wn_k _ _ _ _ (by decide), wn_k _ _ _ _ (by decide)]) (by rw [wn_j _ _ _ _ (by decide), wn_j _ _ _ _ (by decide)]; exact tc3) (by rw [wn_j _ _ _ _ (by decide), wn_eq]; exact nI_0.symm) (by rw [wn_eq]; exact nI_0.symm) with ⟨q, N', hq, e1, e2, e3, e4⟩ | ⟨K, N1, e1, e2, e3, e4, e5, e6, e7, e8, e9⟩
  · rw [nI_0] at e1
    have hqp : (nI q < 0) = False := eq_false (nI_pos (by omega))
    refine Ans.mk (v := -1000 - nI q) (M1 := va_up M 0 (wrN (M 0) 8 0 1 0)) (N' := N') ?_ (up_ne _ _ (by decide)) (fun X => ?_) ?_
    · simp only [c38, r38_0, r38_1, r38_4, c34, r34_0, r34_1, r34_2, r34_3, e1, cbI_some, r38_7, r38_8, r38_9, r38_12, r38_13, r38_16, r38_17, r38_20, r38_23, r38_24, r38_25, hqp, wr0, reduceIte]
    · simp only [c100, r100_0, r100_1, r100_2, r100_5, r100_6, r100_7, r100_10, r100_11, wr_up, e2]
    · rw [up_same, up_ne _ _ (by decide), up_ne _ _ (by decide)]
      exact TI.tx0 h (hF0.tr e3) e4
  · rw [nI_0] at e1
    have hm1 : ((-1 : Int32) < 0) = True := by decide +kernel
    have hT := TI.tx0 h (hF0.tr e3) e4
    have hcf := (hF0.tr e3).cf
    have hR1 : R0 (cpS (M 2) (M 1)) (svP N1 1 39) L m := (((h0.cf hcf).cf (sv_cf _ 1))).cp _
    have hlv : Lv (cpS (M 2) (M 1)) (svP N1 1 39) := by
      refine ⟨⟨L, m, hR1⟩, (hhod.cf hcf).cf (sv_cf _ 1), ?_, (cp_13 _ _).1, fun q hq => ?_, ?_, ?_⟩
      · rw [cp_0 _ _ (by decide), sv_cf _ 1 12 12 (by decide +kernel), hcf 12 12 (by decide +kernel)]
        exact hlat
      · rw [(cp_13 _ _).2]
        exact (dry_ok q hq).1
      · rw [(sv_37 _).1, (hF0.tr e3).2 37 (by decide) (by decide) (by decide)]
        exact hwN
      · rw [(sv_37 _).2, (hF0.tr e3).2 38 (by decide) (by decide) (by decide)]
        exact hdN
    have hch : Chn (svP N1 1 39) (tx (M 4 23 0) c) c K := by
      intro i hi
      have := e9 i hi
      unfold Sto at this ⊢
      rw [svP_kd _ _ _ (by decide) (by decide), svP_kd _ _ _ (by decide) (by decide), svP_kd _ _ _ (by decide) (by decide)]
      exact this
    have k11 := K11 (g := 2) (by decide) h0
    have s1 := fun X : Mm => m103S X N1
    rcases pass2 (M := M) (r := M 4 23 0) tc1 tc2 htx hby e7 e8 K 0 (cpS (M 2) (M 1)) (svP N1 1 39) (aI (-1)) (aI 1) (by omega) hlv hch (by rw [svP_12 _ _ _ (by decide) (by decide)]; exact e5) with ⟨S2, N2, q, f1, f2, f3⟩ | ⟨S2, N2, f1, f2, f3, f4⟩
    · simp only [pos, nI_0] at f1 f2
      refine Ans.mk (v := -2000 - nI q) (M1 := va_up (va_up M 2 S2) 0 (wrN (M 0) 8 0 1 0)) (N' := rsP N2 1 39) ?_ (by rw [up_ne _ _ (by decide), up_ne _ _ (by decide)]) (fun X => ?_) ?_
      · simp only [c38, r38_0, r38_1, r38_4, c34, r34_0, r34_1, r34_2, r34_3, e1, cbI_some, r38_7, r38_8, r38_9, r38_26, r38_27, r38_30, r38_31, r38_34, r38_37, r38_38, r38_39, r38_40, hm1, k11, cbV_some, f1, reduceIte]
      · simp only [c100, r100_0, r100_1, r100_2, r100_5, r100_6, r100_7, r100_10, r100_11, wr_up, e2, r100_78, r100_79, r100_80, r100_81, r100_84, r100_85, s1, cbV_some, f2]
      · rw [up_same, up_ne _ _ (by decide), up_ne _ _ (by decide), up_ne _ _ (by decide), up_ne _ _ (by decide)]
        exact TI.kp hT (kp_gen f3)
    · simp only [pos, nI_0] at f1 f2
      obtain ⟨⟨L2, m2, g1⟩, g2, g3, g4, g5, g6, g7⟩ := f4
      have r2 : va_up M 2 S2 2 = S2 := up_same _ _ _
      have k11b := K11 (M := va_up M 2 S2) (g := 1) (h := 2) (by decide) (show R0 (va_up M 2 S2 2) N2 L2 m2 by rw [r2]; exact g1)
      rw [up_ne _ _ (show (1 : Nat) ≠ 2 by decide), r2] at k11b
      have r0 : va_up (va_up M 2 S2) 1 (cpS (M 1) S2) 0 = M 0 := by rw [up_ne _ _ (by decide), up_ne _ _ (by decide)]
      refine Ans.mk (v := nI K) (M1 := va_up (va_up (va_up M 2 S2) 1 (cpS (M 1) S2)) 0 (wrN (M 0) 8 0 1 0)) (N' := N2) ?_ (by rw [up_ne _ _ (by decide), up_ne _ _ (by decide), up_ne _ _ (by decide)]) (fun X => ?_) ?_
      · simp only [c38, r38_0, r38_1, r38_4, c34, r34_0, r34_1, r34_2, r34_3, e1, cbI_some, r38_7, r38_8, r38_9, r38_26, r38_27, r38_30, r38_31, r38_34, r38_37, r38_38, r38_39, r38_40, hm1, k11, cbV_some, f1, r38_97, r38_98, r38_101, r38_102, r38_105, r38_108, r38_109, r38_112, r38_113, r38_116, r38_117, k11b, wr0, r0, reduceIte]
      · simp only [c100, r100_0, r100_1, r100_2, r100_5, r100_6, r100_7, r100_10, r100_11, wr_up, e2, r100_78, r100_79, r100_80, r100_81, r100_84, r100_85, s1, cbV_some, f2]
      · rw [up_same, up_ne _ _ (by decide), up_same, up_ne _ _ (by decide), up_ne _ _ (by decide), up_ne _ _ (by decide)]
        refine TI.st2 hT ⟨L2, m2, g1.cp _⟩ g2 ?_ (cp_13 _ _).1 (fun q hq => ?_) f3
        · rw [cp_0 _ _ (by decide)]
          exact g3
        · rw [(cp_13 _ _).2]
          exact (dry_ok q hq).1
