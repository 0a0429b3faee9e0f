/-! answers: image, on, go -/
theorem K11 {M : Mm} {g h : Nat} {N : Nm} {L m : Nat} (hgh : h ≠ g) (h0 : R0 (M h) N L m) : call 11 [aR g 0 0, aR h 0 0] M = some (none, va_up M g (cpS (M g) (M h))) := k11 M g h hgh h0.z3
theorem dry_ok : ∀ q, q < 241 → nI q < 1000000 ∧ nI q < 100000 := by decide +kernel
theorem n_1 : nI 1 = 1 := by decide +kernel
theorem rs_q (N : Nm) (w : Nat) : FrQ N (rsP N w 39) := ⟨fun k hk => rs_k N w (by omega) (by omega), fun j hj => rs_12 N w (by omega) (by omega) (by omega)⟩
theorem im_sv (N : Nm) : CfE N (rsP (svP N 0 39) 0 39) := by
  intro k j h
  have := sv_cell N 0 (o := idx k 0 j) h
  rw [rs_cell _ 0 h, this, cfg_idx N h]
theorem ans_image : Ans 63 104 [] := by
  intro M h
  obtain ⟨⟨L, m, h0⟩, ⟨hhod, hlat⟩, ⟨hw0, hdr0, hwN, hdN⟩, him, htx, hrw, hrf⟩ := id h
  obtain ⟨hC, hK, hMs⟩ := id h0
  obtain ⟨c1, c2, c3, c4, c5, c6, c7, c8, c9, c10, c11, c12, c13, c14, c15, c16, c17, c18⟩ := id hC
  obtain ⟨c, tc1, tc2, tc3, tc4⟩ := id htx
  obtain ⟨d, rc1, rc2, rc3, rc4⟩ := id hrw
  have e1 := K11 (g := 3) (by decide) h0
  have hs := fun X : Mm => m103s X (wrN (M 4) 12 0 22 1) (w := 0) (by decide)
  rw [nI_0] at hs
  have g11 : svP (wrN (M 4) 12 0 22 1) 0 39 12 0 11 = M 4 12 0 11 := by rw [svP_12 _ _ _ (by decide) (by decide), wn_j _ _ _ _ (by decide)]
  refine Ans.mk (v := M 4 12 0 11) (M1 := va_up (va_up M 3 (cpS (M 3) (M 1))) 0 (wrN (M 0) 7 0 3 1)) (N' := svP (wrN (M 4) 12 0 22 1) 0 39) ?_ (by rw [up_ne _ _ (by decide), up_ne _ _ (by decide)]) (fun X => ?_) ?_
  · have r0 : va_up M 3 (cpS (M 3) (M 1)) 0 = M 0 := up_ne _ _ (by decide)
    have start : va_up M 3 (cpS (M 3) (M 1)) = va_up (va_up M 3 (cpS (M 3) (M 1))) 0 (M 0) := by rw [← r0, up_id]
    have r1 : ∀ Z : Nm, va_up (va_up M 3 (cpS (M 3) (M 1))) 0 Z 1 = M 1 := fun Z => by rw [up_ne _ _ (by decide), up_ne _ _ (by decide)]
    simp only [c63, r63_0, r63_1, r63_4, r63_5, r63_8, r63_11, r63_12, r63_13, r63_16, r63_17, r63_20, r63_23, e1, cbV_some]
    rw [start]
    simp only [up_up, wr_up, r1, or_true, reduceIte, r63_12, r63_13, r63_16, r63_17, r63_20, r63_23, c14]
  · simp only [c104, r104_0, r104_1, r104_2, r104_5, r104_6, r104_7, r104_8, r104_11, r104_12, r104_15, up_same, cbI_some, cbV_some, reduceIte, nz1, nz2, nz3, nz4, nz6, b10, wr_up, or_true, hs, g11]
  · rw [up_same, up_ne _ _ (by decide), up_ne _ _ (by decide), up_ne _ _ (by decide), up_same]
    have cf0 : CfE (M 4) (wrN (M 4) 12 0 22 1) := cf_12 _ _ (by decide)
    have cf1 : CfE (M 4) (svP (wrN (M 4) 12 0 22 1) 0 39) := cf0.tr (sv_cf _ 0)
    have s12 : ∀ j, j ≠ 23 → j ≠ 24 → j ≠ 22 → svP (wrN (M 4) 12 0 22 1) 0 39 12 0 j = M 4 12 0 j := fun j h1 h2 h3 => by rw [svP_12 _ _ _ h2 h1, wn_j _ _ _ _ h3]
    have sk : ∀ k, k ≠ 12 → k ≠ 27 → svP (wrN (M 4) 12 0 22 1) 0 39 k = M 4 k := fun k h1 h2 => by rw [svP_kd _ _ _ h1 h2, wn_k _ _ _ _ h1]
    have cf2 : CfE (M 4) (rsP (svP (wrN (M 4) 12 0 22 1) 0 39) 0 39) := cf0.tr (im_sv _)
    refine ⟨⟨L, m, h0.cf cf1⟩, ⟨hhod.cf cf1, hlat.trans (cf1 12 12 (by decide +kernel)).symm⟩, ⟨hw0, hdr0, (s12 37 (by decide) (by decide) (by decide)).trans hwN, (s12 38 (by decide) (by decide) (by decide)).trans hdN⟩, Or.inr ⟨wn_eq _ _ _ _ _, ?_, ⟨L, m, (h0.cf cf2).cp _⟩, hhod.cf cf2, ?_⟩, ⟨c, tc1, ?_, (s12 18 (by decide) (by decide) (by decide)).trans tc3, fun q hq => ?_⟩, ⟨d, rc1, ?_, (s12 42 (by decide) (by decide) (by decide)).trans rc3, fun q hq => ?_⟩, fun q hq => ?_⟩
    · rw [svP_12 _ _ _ (by decide) (by decide), wn_eq]
    · rw [cp_0 _ _ (by decide), cf2 12 12 (by decide +kernel)]
      exact hlat
    · rw [wn_k _ _ _ _ (by decide)]; exact tc2
    · rw [wn_k _ _ _ _ (by decide), sk 23 (by decide) (by decide)]; exact tc4 q hq
    · rw [wn_j _ _ _ _ (by decide)]; exact rc2
    · rw [wn_k _ _ _ _ (by decide), sk 32 (by decide) (by decide)]; exact rc4 q hq
    · rw [wn_k _ _ _ _ (by decide), sk 13 (by decide) (by decide)]; exact hrf q hq
theorem ans_on : Ans 64 105 [] := by
  intro M h
  obtain ⟨⟨L, m, h0⟩, ⟨hhod, hlat⟩, ⟨hw0, hdr0, hwN, hdN⟩, him, htx, hrw, hrf⟩ := id h
  obtain ⟨hC, hK, hMs⟩ := id h0
  obtain ⟨c1, c2, c3, c4, c5, c6, c7, c8, c9, c10, c11, c12, c13, c14, c15, c16, c17, c18⟩ := id hC
  obtain ⟨c, tc1, tc2, tc3, tc4⟩ := id htx
  obtain ⟨d, rc1, rc2, rc3, rc4⟩ := id hrw
  rcases him with ⟨i1, i2⟩ | ⟨i1, i2, ⟨L3, m3, hR3⟩, hh3, hl3⟩
  · refine Ans.no h rf3 ?_ (fun X => ?_)
    · simp only [c64, r64_0, r64_1, r64_4, r64_7, r64_8, r64_10, r64_13, r64_14, r64_15, r64_18, r64_19, r64_22, r64_25, r64_26, r64_29, r64_32, i1, up_same, cbI_some, cbV_some, reduceIte, K66_3]
    · simp only [c105, r105_0, r105_1, r105_4, r105_7, r105_8, r105_10, r105_13, r105_14, r105_15, r105_16, r105_17, r105_20, r105_21, r105_24, i2, up_same, cbI_some, cbV_some, reduceIte, m81_3]
  · have e1 := K11 (M := M) (g := 1) (h := 3) (by decide) hR3
    have hs := fun X : Mm => m103r X (M 4) (w := 0) (by decide)
    rw [nI_0] at hs
    have hm : cpS (M 1) (M 3) 0 0 10 = rsP (M 4) 0 39 12 0 11 := by
      rw [cp_0 _ _ (by decide)]
      exact hR3.1.2.2.2.2.2.2.2.2.2.2.2.2.2.1
    refine Ans.mk (v := rsP (M 4) 0 39 12 0 11) (M1 := va_up M 1 (cpS (M 1) (M 3))) (N' := rsP (M 4) 0 39) ?_ (up_ne _ _ (by decide)) (fun X => ?_) ?_
    · simp only [c64, r64_0, r64_1, r64_4, r64_7, r64_8, r64_10, r64_13, r64_14, r64_15, r64_18, r64_19, r64_22, r64_25, r64_26, r64_29, r64_32, i1, q10, up_same, cbI_some, cbV_some, reduceIte, e1, hm]
    · simp only [c105, r105_0, r105_1, r105_4, r105_7, r105_8, r105_10, r105_13, r105_14, r105_15, r105_16, r105_17, r105_20, r105_21, r105_24, i2, q10, up_same, cbI_some, cbV_some, reduceIte, hs]
    · rw [up_same, up_ne _ _ (by decide), up_ne _ _ (by decide)]
      refine TI.st h ⟨L3, m3, hR3.cp _⟩ hh3 (by rw [cp_0 _ _ (by decide)]; exact hl3) (cp_13 _ _).1 (fun q hq => ?_) (rs_q _ 0)
      rw [(cp_13 _ _).2]
      exact (dry_ok q hq).1
theorem k13 (M : Mm) (S : Nm) (g : Nat) (x : Int32) : call 13 [aR g 0 0, aI x] (va_up M g S) = some (some (if x < 1 then 0 else if 60 < x then 0 else if 9999 < S 0 0 10 + x then 0 else 1), va_up M g S) := by
  simp only [c13, r13_0, r13_1, r13_2, r13_5, r13_6, r13_8, r13_11, r13_12, r13_15, r13_16, r13_17, r13_20, r13_23, r13_24, r13_27, r13_28, up_same, true_or, or_true, reduceIte]
  repeat' split
  all_goals rfl
theorem K13 (M : Mm) (g : Nat) (x : Int32) : call 13 [aR g 0 0, aI x] M = some (some (if x < 1 then 0 else if 60 < x then 0 else if 9999 < M g 0 0 10 + x then 0 else 1), M) := by
  have h := k13 M (M g) g x
  rwa [up_id] at h
/-- behind a pass: a still site again -/
theorem Rl.r0 {T : Nat} {S N : Nm} {L m t b : Nat} {u : Nat → Nat} (h : Rl T S N L m t b u) : R0 S N L m := by
  obtain ⟨hC, -, -, -, hS, hM⟩ := h
  refine ⟨hC, fun i hi => ?_, hM⟩
  obtain ⟨r0, r1, r2, r3, r4, r5, -, -, -, r9, -⟩ := hS i hi
  exact ⟨r0, r1, r2, r3, r4, r5, r9⟩
theorem R0.la {S N : Nm} {L m : Nat} (h : R0 S N L m) {x y : Int32} (e : x = y) : R0 (wrN S 0 0 11 x) (wrN N 12 0 13 y) L m := by
  obtain ⟨hC, hK, hM⟩ := h
  obtain ⟨c1, c2, c3, c4, c5, c6, c7, c8, c9, c10, c11, c12, c13, c14, c15, c16, c17, c18⟩ := hC
  refine ⟨?_, ?_, ?_⟩
  · simp only [RCf, wn_if, wn_k, ne_eq, Nat.reduceEqDiff, not_false_eq_true, reduceIte]
    exact ⟨c1, c2, c3, c4, c5, c6, c7, c8, c9, c10, c11, c12, c13, c14, e, c16, c17, c18⟩
  · simpa only [RLk, wn_k, ne_eq, Nat.reduceEqDiff, not_false_eq_true] using hK
  · simpa only [RMs, wn_k, ne_eq, Nat.reduceEqDiff, not_false_eq_true] using hM
/-- minutes of the real site -/
theorem go_both {S N : Nm} {L m n : Nat} (h0 : R0 S N L m) (hhod : HodB N) (hlat : S 0 0 12 = N 12 0 12) (hw0 : S 0 0 13 = 0) (hdr : ∀ q, q < 241 → nI q < S 0 0 14) (hwN : N 12 0 37 = 0) (hdN : N 12 0 38 = 100000) (hn : n ≤ 240) : ∃ (S' N' : Nm), R0 S' N' L m ∧ HodB N' ∧ S' 0 0 12 = N' 12 0 12 ∧ S' 0 0 13 = 0 ∧ (∀ q, q < 241 → nI q < S' 0 0 14) ∧ FrQ N N' ∧ S' 5 0 1 = N' 12 0 29 ∧ (∀ (M : Mm) (g : Nat), call 20 [aR g 0 0, aI (nI n)] (va_up M g S) = some (none, va_up M g S')) ∧ (∀ M : Mm, call 128 [aR 4 12 0, aI (nI n)] (va_up M 4 N) = some (none, va_up M 4 N')) := by
  have hg : Rg 241 S N L m := Rg.of0 h0 (hw0.trans hwN.symm) (fun q hq => by rw [hdN, eq_true (hdr q hq), eq_true (dry_ok q hq).2]) (fun _ => hlat)
  obtain ⟨S', N', b', hb, hr, hf, hs, hm⟩ := pass_both hg hn (by omega)
  have hr' := id hr
  obtain ⟨hC', hT', -⟩ := hr'
  obtain ⟨-, -, t3, -, -, -, t7, t8, t9⟩ := hT'
  have e38 : N' 12 0 38 = 100000 := (hf.2.1 38 (by decide)).trans hdN
  have e37 : N' 12 0 37 = 0 := (hf.2.1 37 (by decide)).trans hwN
  refine ⟨wrN S' 0 0 11 (S' 0 0 11 + S' 5 0 1), wrN N' 12 0 13 (N' 12 0 13 + N' 12 0 29), hr.r0.la ?_, ?_, ?_, ?_, fun q hq => ?_, hf.q.tr (FrQ.wr12 _ _ (by decide)), ?_, hs, fun M => ?_⟩
  · rw [t3, hC'.2.2.2.2.2.2.2.2.2.2.2.2.2.2.1]
  · obtain ⟨a, a1, a2, a3⟩ := hhod
    exact ⟨a, a1, a2, by rw [wn_k _ _ _ _ (by decide), hf.2.2 1 (by decide)]; exact a3⟩
  · rw [wn_j _ _ _ _ (by decide), wn_j _ _ _ _ (by decide)]
    exact t9 rfl
  · rw [wn_j _ _ _ _ (by decide), t7, e37]
  · rw [wn_j _ _ _ _ (by decide)]
    have := t8 q hq
    rw [e38, eq_true (dry_ok q hq).2] at this
    exact of_eq_true this
  · rw [wn_k _ _ _ _ (by decide), wn_j _ _ _ _ (by decide)]
    exact t3
  · simp only [c128, r128_0, r128_1, r128_2, r128_5, r128_6, r128_7, r128_10, r128_11, r128_14, r128_15, r128_18, hm, cbV_some, up_same, wr_up]
theorem ans_go (x : Int32) : Ans 42 134 [aI x] := by
  intro M h
  obtain ⟨⟨L, m, h0⟩, ⟨hhod, hlat⟩, ⟨hw0, hdr0, hwN, hdN⟩, him, htx, hrw, hrf⟩ := id h
  obtain ⟨hC, hK, hMs⟩ := id h0
  obtain ⟨c1, c2, c3, c4, c5, c6, c7, c8, c9, c10, c11, c12, c13, c14, c15, c16, c17, c18⟩ := id hC
  obtain ⟨c, tc1, tc2, tc3, tc4⟩ := id htx
  obtain ⟨d, rc1, rc2, rc3, rc4⟩ := id hrw
  by_cases g1 : x < 1
  · have g1T := eq_true g1
    have gb := mBo_a 60 g1
    have gi := mIn_a 60 g1
    refine Ans.no h rf4 ?_ (fun X => ?_)
    · simp only [c42, r42_0, r42_1, r42_4, r42_5, r42_8, r42_11, r42_12, r42_13, r42_14, r42_17, r42_19, r42_22, r42_24, r42_27, r42_28, r42_29, r42_32, r42_33, r42_36, r42_37, r42_40, r42_43, r42_46, up_same, cbI_some, cbV_some, reduceIte, g1T, K13, gb, gi, K66_4, nz1, nz2, nz3, nz4, nz6, b10]
    · simp only [c134, r134_0, r134_1, r134_2, r134_4, r134_7, r134_8, r134_9, r134_12, r134_13, r134_16, r134_17, r134_18, r134_21, r134_24, r134_26, r134_27, r134_28, r134_31, r134_32, r134_33, r134_36, r134_37, r134_38, r134_39, r134_42, r134_43, r134_46, up_same, cbI_some, cbV_some, reduceIte, g1T, m84, gb, gi, m81_4, nz1, nz2, nz3, nz4, nz6, b10]
  · skip
    by_cases g2 : 60 < x
    · have g2T := eq_true g2
      have gb := mBo_b g1 g2
      have gi := mIn_b g1 g2
      refine Ans.no h rf6 ?_ (fun X => ?_)
      · simp only [c42, r42_0, r42_1, r42_4, r42_5, r42_8, r42_11, r42_12, r42_13, r42_14, r42_17, r42_19, r42_22, r42_24, r42_27, r42_28, r42_29, r42_32, r42_33, r42_36, r42_37, r42_40, r42_43, r42_46, up_same, cbI_some, cbV_some, reduceIte, g1, g2T, K13, gb, gi, K66_6, nz1, nz2, nz3, nz4, nz6, b10]
      · simp only [c134, r134_0, r134_1, r134_2, r134_4, r134_7, r134_8, r134_9, r134_12, r134_13, r134_16, r134_17, r134_18, r134_21, r134_24, r134_26, r134_27, r134_28, r134_31, r134_32, r134_33, r134_36, r134_37, r134_38, r134_39, r134_42, r134_43, r134_46, up_same, cbI_some, cbV_some, reduceIte, g1, g2T, m84, gb, gi, m81_6, nz1, nz2, nz3, nz4, nz6, b10]
    · skip
      have gb := mBo_0 g1 g2
      have gi := mIn_1 g1 g2
      
      by_cases f1 : 9999 < M 4 12 0 11 + x
      · have f1T := eq_true f1
        refine Ans.no h rf6 ?_ (fun X => ?_)
        · simp only [c42, r42_0, r42_1, r42_4, r42_5, r42_8, r42_11, r42_12, r42_13, r42_14, r42_17, r42_19, r42_22, r42_24, r42_27, r42_28, r42_29, r42_32, r42_33, r42_36, r42_37, r42_40, r42_43, r42_46, up_same, cbI_some, cbV_some, reduceIte, g1, g2, f1T, K13, gb, gi, c14, K66_6, nz1, nz2, nz3, nz4, nz6, b10]
        · simp only [c134, r134_0, r134_1, r134_2, r134_4, r134_7, r134_8, r134_9, r134_12, r134_13, r134_16, r134_17, r134_18, r134_21, r134_24, r134_26, r134_27, r134_28, r134_31, r134_32, r134_33, r134_36, r134_37, r134_38, r134_39, r134_42, r134_43, r134_46, up_same, cbI_some, cbV_some, reduceIte, g1, g2, f1T, m84, gb, gi, m81_6, nz1, nz2, nz3, nz4, nz6, b10]
      · skip
        obtain ⟨n, hn, rfl⟩ := of_le (B := 60) (by decide) (fun z => g1 (Int32.lt_trans z (by decide +kernel))) g2
        obtain ⟨S', N', q1, q2, q3, q4, q5, q6, q7, q8, q9⟩ := go_both h0 hhod hlat hw0 hdr0 hwN hdN (n := n) (by omega)
        have q8' := q8 M 1
        rw [up_id] at q8'
        refine Ans.mk (v := N' 12 0 29) (M1 := va_up M 1 S') (N' := N') ?_ (up_ne _ _ (by decide)) (fun X => ?_) ?_
        · simp only [c42, r42_0, r42_1, r42_4, r42_5, r42_8, r42_11, r42_12, r42_13, r42_14, r42_17, r42_19, r42_22, r42_24, r42_27, r42_28, r42_29, r42_32, r42_33, r42_36, r42_37, r42_40, r42_43, r42_46, up_same, cbI_some, cbV_some, reduceIte, g1, g2, f1, K13, gb, gi, c14, nz1, nz2, nz3, nz4, nz6, b10, q8', q7]
        · simp only [c134, r134_0, r134_1, r134_2, r134_4, r134_7, r134_8, r134_9, r134_12, r134_13, r134_16, r134_17, r134_18, r134_21, r134_24, r134_26, r134_27, r134_28, r134_31, r134_32, r134_33, r134_36, r134_37, r134_38, r134_39, r134_42, r134_43, r134_46, up_same, cbI_some, cbV_some, reduceIte, g1, g2, f1, m84, gb, gi, nz1, nz2, nz3, nz4, nz6, b10, q9]
        · rw [up_same, up_ne _ _ (by decide), up_ne _ _ (by decide)]
          exact TI.st h ⟨L, m, q1⟩ q2 q3 q4 q5 q6
