/-! answers: set -/
theorem x0_1 : ((0 : Int32) = 1) = False := by decide +kernel
theorem x0_2 : ((0 : Int32) = 2) = False := by decide +kernel
theorem x0_3 : ((0 : Int32) = 3) = False := by decide +kernel
theorem x0_4 : ((0 : Int32) = 4) = False := by decide +kernel
theorem x0_5 : ((0 : Int32) = 5) = False := by decide +kernel
theorem x0_6 : ((0 : Int32) = 6) = False := by decide +kernel
theorem x0_7 : ((0 : Int32) = 7) = False := by decide +kernel
theorem x1_0 : ((1 : Int32) = 0) = False := by decide +kernel
theorem x1_2 : ((1 : Int32) = 2) = False := by decide +kernel
theorem x1_3 : ((1 : Int32) = 3) = False := by decide +kernel
theorem x1_4 : ((1 : Int32) = 4) = False := by decide +kernel
theorem x1_5 : ((1 : Int32) = 5) = False := by decide +kernel
theorem x1_6 : ((1 : Int32) = 6) = False := by decide +kernel
theorem x1_7 : ((1 : Int32) = 7) = False := by decide +kernel
theorem x2_0 : ((2 : Int32) = 0) = False := by decide +kernel
theorem x2_1 : ((2 : Int32) = 1) = False := by decide +kernel
theorem x2_3 : ((2 : Int32) = 3) = False := by decide +kernel
theorem x2_4 : ((2 : Int32) = 4) = False := by decide +kernel
theorem x2_5 : ((2 : Int32) = 5) = False := by decide +kernel
theorem x2_6 : ((2 : Int32) = 6) = False := by decide +kernel
theorem x2_7 : ((2 : Int32) = 7) = False := by decide +kernel
theorem x3_0 : ((3 : Int32) = 0) = False := by decide +kernel
theorem x3_1 : ((3 : Int32) = 1) = False := by decide +kernel
theorem x3_2 : ((3 : Int32) = 2) = False := by decide +kernel
theorem x3_4 : ((3 : Int32) = 4) = False := by decide +kernel
theorem x3_5 : ((3 : Int32) = 5) = False := by decide +kernel
theorem x3_6 : ((3 : Int32) = 6) = False := by decide +kernel
theorem x3_7 : ((3 : Int32) = 7) = False := by decide +kernel
theorem x4_0 : ((4 : Int32) = 0) = False := by decide +kernel
theorem x4_1 : ((4 : Int32) = 1) = False := by decide +kernel
theorem x4_2 : ((4 : Int32) = 2) = False := by decide +kernel
theorem x4_3 : ((4 : Int32) = 3) = False := by decide +kernel
theorem x4_5 : ((4 : Int32) = 5) = False := by decide +kernel
theorem x4_6 : ((4 : Int32) = 6) = False := by decide +kernel
theorem x4_7 : ((4 : Int32) = 7) = False := by decide +kernel
theorem x5_0 : ((5 : Int32) = 0) = False := by decide +kernel
theorem x5_1 : ((5 : Int32) = 1) = False := by decide +kernel
theorem x5_2 : ((5 : Int32) = 2) = False := by decide +kernel
theorem x5_3 : ((5 : Int32) = 3) = False := by decide +kernel
theorem x5_4 : ((5 : Int32) = 4) = False := by decide +kernel
theorem x5_6 : ((5 : Int32) = 6) = False := by decide +kernel
theorem x5_7 : ((5 : Int32) = 7) = False := by decide +kernel
theorem x6_0 : ((6 : Int32) = 0) = False := by decide +kernel
theorem x6_1 : ((6 : Int32) = 1) = False := by decide +kernel
theorem x6_2 : ((6 : Int32) = 2) = False := by decide +kernel
theorem x6_3 : ((6 : Int32) = 3) = False := by decide +kernel
theorem x6_4 : ((6 : Int32) = 4) = False := by decide +kernel
theorem x6_5 : ((6 : Int32) = 5) = False := by decide +kernel
theorem x6_7 : ((6 : Int32) = 7) = False := by decide +kernel
theorem x7_0 : ((7 : Int32) = 0) = False := by decide +kernel
theorem x7_1 : ((7 : Int32) = 1) = False := by decide +kernel
theorem x7_2 : ((7 : Int32) = 2) = False := by decide +kernel
theorem x7_3 : ((7 : Int32) = 3) = False := by decide +kernel
theorem x7_4 : ((7 : Int32) = 4) = False := by decide +kernel
theorem x7_5 : ((7 : Int32) = 5) = False := by decide +kernel
theorem x7_6 : ((7 : Int32) = 6) = False := by decide +kernel
theorem v_0 : nI 0 = 0 := by decide +kernel
theorem v_1 : nI 1 = 1 := by decide +kernel
theorem v_2 : nI 2 = 2 := by decide +kernel
theorem v_3 : nI 3 = 3 := by decide +kernel
theorem v_4 : nI 4 = 4 := by decide +kernel
theorem v_5 : nI 5 = 5 := by decide +kernel
theorem v_6 : nI 6 = 6 := by decide +kernel
theorem v_7 : nI 7 = 7 := by decide +kernel
theorem q7 {q : Nat} (h : q < 7) : q = 0 ∨ q = 1 ∨ q = 2 ∨ q = 3 ∨ q = 4 ∨ q = 5 ∨ q = 6 := by omega
section SetK
variable (M : Mm) (S : Nm) (g : Nat)
theorem k16 {q : Nat} (hq : q < 7) : call 16 [aR g 0 0, aI (nI q)] (va_up M g S) = some (some (S 0 0 (q + 3)), va_up M g S) := by
  rcases q7 hq with rfl | rfl | rfl | rfl | rfl | rfl | rfl
  all_goals simp only [c16, r16_0, r16_1, r16_40, r16_41, r16_44, r16_45, r16_46, r16_49, r16_50, r16_51, r16_54, r16_55, r16_56, r16_59, r16_60, r16_61, r16_64, r16_65, r16_66, r16_69, r16_70, r16_71, r16_74, v_0, v_1, v_2, v_3, v_4, v_5, v_6, v_7, x0_1, x0_2, x0_3, x0_4, x0_5, x0_6, x0_7, x1_0, x1_2, x1_3, x1_4, x1_5, x1_6, x1_7, x2_0, x2_1, x2_3, x2_4, x2_5, x2_6, x2_7, x3_0, x3_1, x3_2, x3_4, x3_5, x3_6, x3_7, x4_0, x4_1, x4_2, x4_3, x4_5, x4_6, x4_7, x5_0, x5_1, x5_2, x5_3, x5_4, x5_6, x5_7, x6_0, x6_1, x6_2, x6_3, x6_4, x6_5, x6_7, x7_0, x7_1, x7_2, x7_3, x7_4, x7_5, x7_6, up_same, reduceIte, Nat.reduceAdd]
theorem k17 {q : Nat} (hq : q < 7) (v : Int32) : call 17 [aR g 0 0, aI (nI q), aI v] (va_up M g S) = some (none, va_up M g (wrN S 0 0 (q + 3) v)) := by
  rcases q7 hq with rfl | rfl | rfl | rfl | rfl | rfl | rfl
  all_goals simp only [c17, r17_0, r17_1, r17_40, r17_41, r17_42, r17_45, r17_48, r17_49, r17_50, r17_53, r17_56, r17_57, r17_58, r17_61, r17_64, r17_65, r17_66, r17_69, r17_72, r17_73, r17_74, r17_77, r17_80, r17_81, r17_82, r17_85, r17_88, r17_89, r17_90, r17_93, v_0, v_1, v_2, v_3, v_4, v_5, v_6, v_7, x0_1, x0_2, x0_3, x0_4, x0_5, x0_6, x0_7, x1_0, x1_2, x1_3, x1_4, x1_5, x1_6, x1_7, x2_0, x2_1, x2_3, x2_4, x2_5, x2_6, x2_7, x3_0, x3_1, x3_2, x3_4, x3_5, x3_6, x3_7, x4_0, x4_1, x4_2, x4_3, x4_5, x4_6, x4_7, x5_0, x5_1, x5_2, x5_3, x5_4, x5_6, x5_7, x6_0, x6_1, x6_2, x6_3, x6_4, x6_5, x6_7, x7_0, x7_1, x7_2, x7_3, x7_4, x7_5, x7_6, wr_up, reduceIte, Nat.reduceAdd]
def mLs (a : Int32) : Int32 := if a = 1 then 10 else if a = 4 then 20 else if a = 5 then 0 else if a = 6 then 0 else 1
def mMs (a : Int32) : Int32 := if a = 0 then 3 else if a = 1 then 40 else if a = 2 then 9 else if a = 3 then 20 else if a = 6 then 5 else 120
theorem m86 (a : Int32) : call 86 [aI a] (va_up M 4 S) = some (some (mLs a), va_up M 4 S) := by
  simp only [c86, r86_0, r86_1, r86_2, r86_5, r86_7, r86_10, r86_11, r86_12, r86_15, r86_17, r86_20, r86_21, r86_22, r86_25, r86_26, r86_28, r86_31, r86_32, r86_35, r86_36]
  unfold mLs
  repeat' split
  all_goals rfl
theorem m87 (a : Int32) : call 87 [aI a] (va_up M 4 S) = some (some (mMs a), va_up M 4 S) := by
  simp only [c87, r87_0, r87_1, r87_4, r87_5, r87_8, r87_9, r87_10, r87_13, r87_15, r87_18, r87_19, r87_20, r87_23, r87_25, r87_28, r87_29, r87_30, r87_33, r87_35, r87_38, r87_39, r87_41, r87_44, r87_45, r87_48, r87_50]
  unfold mMs
  repeat' split
  all_goals rfl
theorem lim_eq : ∀ q, q < 7 → mLs (nI q) = stV 33 q ∧ mMs (nI q) = stV 34 q := by decide +kernel
def cBz (S : Nm) : Nat → Nat → Int32
  | _, 0 => 0
  | j, n + 1 => if S 4 j 0 = 0 then cBz S (j + 1) n else 1
def mBz (N : Nm) : Nat → Nat → Int32
  | _, 0 => 0
  | j, n + 1 => if N 19 0 j = 0 then mBz N (j + 1) n else 1
theorem k14L {m : Nat} (hm : S 0 0 3 = nI m) (h3 : m ≤ 3) : ∀ n j : Nat, j + n = m → run 14 2 [aR g 0 0, aI (nI j)] [] (va_up M g S) = some (some (cBz S j n), va_up M g S) := by
  intro n
  induction n with
  | zero =>
    intro j hj
    have hc : (nI j < nI m) = False := by rw [nIlt (by omega) (by omega)]; exact eq_false (by omega)
    rw [r14_2]
    simp only [r14_0, r14_1, r14_3, r14_4, r14_7, r14_10, r14_11, r14_14, r14_15, r14_16, r14_19, r14_22, r14_23, r14_24, r14_27, r14_30, r14_31, up_same, hm, hc, true_or, or_true, reduceIte, cBz]
  | succ n ih =>
    intro j hj
    have hc : (nI j < nI m) = True := by rw [nIlt (by omega) (by omega)]; exact eq_true (by omega)
    have hv : vpB (nI j) 3 = true := vp_t (by omega) (by decide)
    have ht : (nI j).toNatClampNeg = j := tn (n := 3) (by omega) (by decide)
    rw [r14_2]
    simp only [r14_0, r14_1, r14_3, r14_4, r14_7, r14_10, r14_11, r14_14, r14_15, r14_16, r14_19, r14_22, r14_23, r14_24, r14_27, r14_30, r14_31, up_same, hm, hc, hv, ht, true_or, or_true, nI_1, ih (j + 1) (by omega), reduceIte, cBz]
    repeat' split
    all_goals rfl
theorem k14 {m : Nat} (hm : S 0 0 3 = nI m) (h3 : m ≤ 3) : call 14 [aR g 0 0] (va_up M g S) = some (some (cBz S 0 m), va_up M g S) := by
  have hl := k14L M S g hm h3 m 0 (by omega)
  rw [nI_0] at hl
  simp only [c14, r14_0, r14_1, hl]
theorem m97L {m : Nat} (hm : S 14 0 0 = nI m) (h3 : m ≤ 3) : ∀ n j : Nat, j + n = m → run 97 2 [aR 4 12 0, aI (nI j)] [] (va_up M 4 S) = some (some (mBz S j n), va_up M 4 S) := by
  intro n
  induction n with
  | zero =>
    intro j hj
    have hc : (nI j < nI m) = False := by rw [nIlt (by omega) (by omega)]; exact eq_false (by omega)
    rw [r97_2]
    simp only [r97_0, r97_1, r97_3, r97_4, r97_7, r97_8, r97_9, r97_12, r97_13, r97_16, r97_17, r97_18, r97_21, r97_22, r97_23, r97_26, r97_29, r97_30, up_same, v7_0, tn0, hm, hc, true_or, or_true, reduceIte, mBz]
  | succ n ih =>
    intro j hj
    have hc : (nI j < nI m) = True := by rw [nIlt (by omega) (by omega)]; exact eq_true (by omega)
    have hv : vpB (nI j) 3 = true := vp_t (by omega) (by decide)
    have ht : (nI j).toNatClampNeg = j := tn (n := 3) (by omega) (by decide)
    rw [r97_2]
    simp only [r97_0, r97_1, r97_3, r97_4, r97_7, r97_8, r97_9, r97_12, r97_13, r97_16, r97_17, r97_18, r97_21, r97_22, r97_23, r97_26, r97_29, r97_30, up_same, v7_0, tn0, hm, hc, hv, ht, true_or, or_true, nI_1, ih (j + 1) (by omega), reduceIte, mBz]
    repeat' split
    all_goals rfl
theorem m97 {m : Nat} (hm : S 14 0 0 = nI m) (h3 : m ≤ 3) : call 97 [aR 4 12 0] (va_up M 4 S) = some (some (mBz S 0 m), va_up M 4 S) := by
  have hl := m97L M S hm h3 m 0 (by omega)
  rw [nI_0] at hl
  simp only [c97, r97_0, r97_1, hl]
end SetK
theorem bz_eq {S N : Nm} (h : ∀ j, j < 3 → S 4 j 0 = N 19 0 j) : ∀ n j, j + n ≤ 3 → cBz S j n = mBz N j n := by
  intro n
  induction n with
  | zero => intro j _; rfl
  | succ n ih => intro j hj; rw [cBz, mBz, h j (by omega), ih (j + 1) (by omega)]
theorem bz_01 (N : Nm) : ∀ n j, mBz N j n = 0 ∨ mBz N j n = 1 := by
  intro n
  induction n with
  | zero => intro j; exact Or.inl rfl
  | succ n ih =>
    intro j
    rw [mBz]
    split
    · exact ih (j + 1)
    · exact Or.inr rfl
theorem bz_0 {N : Nm} : ∀ n j, mBz N j n = 0 → ∀ q, j ≤ q → q < j + n → N 19 0 q = 0 := by
  intro n
  induction n with
  | zero => intro j _ q h1 h2; omega
  | succ n ih =>
    intro j h q h1 h2
    rw [mBz] at h
    split at h
    · rename_i e
      by_cases hq : q = j
      · rw [hq]; exact e
      · exact ih (j + 1) h q (by omega) (by omega)
    · exact absurd h q10
theorem K14 {M : Mm} {g m : Nat} (hm : M g 0 0 3 = nI m) (h3 : m ≤ 3) : call 14 [aR g 0 0] M = some (some (cBz (M g) 0 m), M) := by
  have h := k14 M (M g) g hm h3
  rwa [up_id] at h
theorem K16 (M : Mm) (g : Nat) {q : Nat} (hq : q < 7) : call 16 [aR g 0 0, aI (nI q)] M = some (some (M g 0 0 (q + 3)), M) := by
  have h := k16 M (M g) g hq
  rwa [up_id] at h
theorem K17 (M : Mm) (g : Nat) {q : Nat} (hq : q < 7) (v : Int32) : call 17 [aR g 0 0, aI (nI q), aI v] M = some (none, va_up M g (wrN (M g) 0 0 (q + 3) v)) := by
  have h := k17 M (M g) g hq v
  rwa [up_id] at h
theorem stg_eq {S N : Nm} {L m : Nat} (hC : RCf S N L m) : ∀ q, q < 7 → S 0 0 (q + 3) = N 14 0 q := by
  obtain ⟨c1, c2, c3, c4, c5, c6, c7, c8, c9, c10, c11, c12, c13, -⟩ := hC
  intro q hq
  rcases q7 hq with rfl | rfl | rfl | rfl | rfl | rfl | rfl
  · exact c6.trans c7.symm
  · exact c8
  · exact c9
  · exact c10
  · exact c11
  · exact c12
  · exact c13
/-- a setting changed on both sides; of the mates only if more come or all are free -/
theorem R0.sg {S N : Nm} {L m : Nat} (h : R0 S N L m) {q a : Nat} (hq : q < 7) (h0 : q = 0 → 1 ≤ a ∧ a ≤ 3 ∧ ∀ j, a ≤ j → j < 3 → N 19 0 j = 0) (h2 : q = 2 ∨ q = 3 → 1 ≤ a ∧ a ≤ 20) : R0 (wrN S 0 0 (q + 3) (nI a)) (wrN N 14 0 q (nI a)) L (if q = 0 then a else m) := by
  obtain ⟨hC, hK, hM⟩ := h
  obtain ⟨c1, c2, c3, c4, c5, c6, c7, c8, c9, c10, c11, c12, c13, c14, c15, c16, c17, c18⟩ := hC
  refine ⟨?_, ?_, ?_⟩
  · rcases q7 hq with rfl | rfl | rfl | rfl | rfl | rfl | rfl
    all_goals simp only [RCf, wn_if, wn_k, ne_eq, Nat.reduceEqDiff, Nat.reduceAdd, not_false_eq_true, reduceIte]
    · exact ⟨c1, (h0 rfl).1, (h0 rfl).2.1, c4, c5, trivial, trivial, c8, c9, c10, c11, c12, c13, c14, c15, c16, c17, c18⟩
    · exact ⟨c1, c2, c3, c4, c5, c6, c7, trivial, c9, c10, c11, c12, c13, c14, c15, c16, c17, c18⟩
    · exact ⟨c1, c2, c3, c4, c5, c6, c7, c8, trivial, c10, c11, c12, c13, c14, c15, c16, ⟨a, (h2 (Or.inl rfl)).1, (h2 (Or.inl rfl)).2, rfl⟩, c18⟩
    · exact ⟨c1, c2, c3, c4, c5, c6, c7, c8, c9, trivial, c11, c12, c13, c14, c15, c16, c17, ⟨a, (h2 (Or.inr rfl)).1, (h2 (Or.inr rfl)).2, rfl⟩⟩
    · exact ⟨c1, c2, c3, c4, c5, c6, c7, c8, c9, c10, trivial, c12, c13, c14, c15, c16, c17, c18⟩
    · exact ⟨c1, c2, c3, c4, c5, c6, c7, c8, c9, c10, c11, trivial, c13, c14, c15, c16, c17, c18⟩
    · exact ⟨c1, c2, c3, c4, c5, c6, c7, c8, c9, c10, c11, c12, trivial, c14, c15, c16, c17, c18⟩
  · simpa only [RLk, wn_k, ne_eq, Nat.reduceEqDiff, not_false_eq_true] using hK
  · refine ⟨?_, fun j h1 h2' => ?_⟩
    · simpa only [wn_k, ne_eq, Nat.reduceEqDiff, not_false_eq_true] using hM.1
    · rw [wn_k _ _ _ _ (by decide)]
      by_cases e : q = 0
      · rw [if_pos e] at h1
        exact (h0 e).2.2 j h1 h2'
      · rw [if_neg e] at h1
        exact hM.2 j h1 h2'
theorem lim_f : ∀ q, q < 7 → (nI q = 0 ↔ q = 0) ∧ ¬ nI q < 0 ∧ ¬ 6 < nI q ∧ vpB (nI q) 7 = true ∧ (nI q).toNatClampNeg = q := by decide +kernel
theorem lim_n : ∀ q, q < 7 → ∃ lo hi, lo ≤ hi ∧ hi ≤ 120 ∧ stV 33 q = nI lo ∧ stV 34 q = nI hi ∧ (q = 0 → 1 ≤ lo ∧ hi ≤ 3) ∧ (q = 2 ∨ q = 3 → 1 ≤ lo ∧ hi ≤ 20) ∧ (q = 1 → 10 ≤ lo ∧ hi ≤ 40) := by
  intro q hq
  rcases q7 hq with rfl | rfl | rfl | rfl | rfl | rfl | rfl
  · exact ⟨1, 3, by decide +kernel⟩
  · exact ⟨10, 40, by decide +kernel⟩
  · exact ⟨1, 9, by decide +kernel⟩
  · exact ⟨1, 20, by decide +kernel⟩
  · exact ⟨20, 120, by decide +kernel⟩
  · exact ⟨0, 120, by decide +kernel⟩
  · exact ⟨0, 5, by decide +kernel⟩
theorem of_mid {x : Int32} {lo hi : Nat} (hl : lo < 2147483648) (hh : hi < 2147483648) (h1 : ¬ x < nI lo) (h2 : ¬ nI hi < x) : ∃ a, lo ≤ a ∧ a ≤ hi ∧ x = nI a := by
  obtain ⟨j, hj, rfl⟩ := nI_of (x := x) (fun z => h1 (Int32.lt_of_lt_of_le z (nI_pos' hl)))
  exact ⟨j, Nat.not_lt.mp (fun z => h1 ((nI_ltI hj hl).mpr z)), Nat.not_lt.mp (fun z => h2 ((nI_ltI hh hj).mpr z)), rfl⟩
theorem ans_set (w v : Int32) : Ans 41 133 [aI w, aI v] := by
  intro M h
  obtain ⟨⟨L, m, h0⟩, ⟨hhod, hlat⟩, ⟨hw0, hdr0, hwN, hdN⟩, him, htx, hrw, hrf⟩ := id h
  obtain ⟨hC, hK, hMs⟩ := id h0
  obtain ⟨c1, c2, c3, c4, c5, c6, c7, c8, c9, c10, c11, c12, c13, c14, c15, c16, c17, c18⟩ := id hC
  by_cases e1 : w < 0
  · have e1T := eq_true e1
    have ei := mIn_a 6 e1
    refine Ans.no h rf2 ?_ (fun X => ?_)
    · simp only [c41, r41_0, r41_1, r41_4, r41_5, r41_7, r41_10, r41_11, r41_13, r41_16, r41_17, r41_18, r41_21, r41_22, r41_25, r41_28, r41_31, r41_32, r41_34, r41_37, r41_38, r41_39, r41_42, r41_43, r41_44, r41_47, r41_48, r41_49, r41_52, r41_53, r41_54, r41_57, r41_58, r41_59, r41_62, r41_63, r41_64, r41_67, r41_68, r41_71, r41_73, r41_74, r41_77, r41_78, r41_79, r41_82, r41_84, up_same, cbI_some, cbV_some, reduceIte, e1T, K67, K14 c6 c3, K66_2, nz1, nz2, nz3, nz4, nz6, b10]
    · simp only [c133, r133_0, r133_1, r133_2, r133_4, r133_7, r133_10, r133_12, r133_15, r133_16, r133_19, r133_20, r133_23, r133_26, r133_28, r133_31, r133_32, r133_33, r133_36, r133_37, r133_40, r133_43, r133_44, r133_45, r133_48, r133_49, r133_50, r133_53, r133_54, r133_55, r133_58, r133_59, r133_60, r133_62, r133_63, r133_66, r133_67, r133_68, r133_69, r133_71, up_same, cbI_some, cbV_some, reduceIte, e1T, m83, m84, m86, m87, m97 X (M 4) c7 c3, ei, m81_2, nz1, nz2, nz3, nz4, nz6, b10]
  · skip
    by_cases e2 : 6 < w
    · have e2T := eq_true e2
      have ei := mIn_b e1 e2
      refine Ans.no h rf2 ?_ (fun X => ?_)
      · simp only [c41, r41_0, r41_1, r41_4, r41_5, r41_7, r41_10, r41_11, r41_13, r41_16, r41_17, r41_18, r41_21, r41_22, r41_25, r41_28, r41_31, r41_32, r41_34, r41_37, r41_38, r41_39, r41_42, r41_43, r41_44, r41_47, r41_48, r41_49, r41_52, r41_53, r41_54, r41_57, r41_58, r41_59, r41_62, r41_63, r41_64, r41_67, r41_68, r41_71, r41_73, r41_74, r41_77, r41_78, r41_79, r41_82, r41_84, up_same, cbI_some, cbV_some, reduceIte, e1, e2T, K67, K14 c6 c3, K66_2, nz1, nz2, nz3, nz4, nz6, b10]
      · simp only [c133, r133_0, r133_1, r133_2, r133_4, r133_7, r133_10, r133_12, r133_15, r133_16, r133_19, r133_20, r133_23, r133_26, r133_28, r133_31, r133_32, r133_33, r133_36, r133_37, r133_40, r133_43, r133_44, r133_45, r133_48, r133_49, r133_50, r133_53, r133_54, r133_55, r133_58, r133_59, r133_60, r133_62, r133_63, r133_66, r133_67, r133_68, r133_69, r133_71, up_same, cbI_some, cbV_some, reduceIte, e1, e2T, m83, m84, m86, m87, m97 X (M 4) c7 c3, ei, m81_2, nz1, nz2, nz3, nz4, nz6, b10]
    · skip
      have ei := mIn_1 e1 e2
      obtain ⟨q, hq6, rfl⟩ := of_le (B := 6) (by decide) e1 e2
      have hq : q < 7 := by omega
      obtain ⟨f1, f2, f3, hv, htn⟩ := lim_f q hq
      obtain ⟨lo, hi, l1, l2, l3, l4, l5, l6, l7⟩ := lim_n q hq
      obtain ⟨le1, le2⟩ := lim_eq q hq
      have sg := stg_eq hC q hq
      have bq := bz_eq (S := M 1) (N := M 4) (fun j hj => (hMs.1 j hj).1) m 0 (by omega)
      by_cases d0 : nI q = 0
      · have d0T := eq_true d0
        by_cases db : mBz (M 4) 0 m = 0
        · have dbT := eq_true db
          by_cases p1 : v < (stV 33 q)
          · have p1T := eq_true p1
            have pb := mBo_a (stV 34 q) p1
            have pi := mIn_a (stV 34 q) p1
            refine Ans.no h rf4 ?_ (fun X => ?_)
            · simp only [c41, r41_0, r41_1, r41_4, r41_5, r41_7, r41_10, r41_11, r41_13, r41_16, r41_17, r41_18, r41_21, r41_22, r41_25, r41_28, r41_31, r41_32, r41_34, r41_37, r41_38, r41_39, r41_42, r41_43, r41_44, r41_47, r41_48, r41_49, r41_52, r41_53, r41_54, r41_57, r41_58, r41_59, r41_62, r41_63, r41_64, r41_67, r41_68, r41_71, r41_73, r41_74, r41_77, r41_78, r41_79, r41_82, r41_84, up_same, cbI_some, cbV_some, reduceIte, e1, e2, d0T, dbT, p1T, K67, K14 c6 c3, hv, htn, bq, pb, pi, K66_4, nz1, nz2, nz3, nz4, nz6, b10]
            · simp only [c133, r133_0, r133_1, r133_2, r133_4, r133_7, r133_10, r133_12, r133_15, r133_16, r133_19, r133_20, r133_23, r133_26, r133_28, r133_31, r133_32, r133_33, r133_36, r133_37, r133_40, r133_43, r133_44, r133_45, r133_48, r133_49, r133_50, r133_53, r133_54, r133_55, r133_58, r133_59, r133_60, r133_62, r133_63, r133_66, r133_67, r133_68, r133_69, r133_71, up_same, cbI_some, cbV_some, reduceIte, e1, e2, d0T, dbT, p1T, m83, m84, m86, m87, m97 X (M 4) c7 c3, ei, hv, htn, le1, le2, pb, pi, m81_4, nz1, nz2, nz3, nz4, nz6, b10]
          · skip
            by_cases p2 : (stV 34 q) < v
            · have p2T := eq_true p2
              have pb := mBo_b p1 p2
              have pi := mIn_b p1 p2
              refine Ans.no h rf6 ?_ (fun X => ?_)
              · simp only [c41, r41_0, r41_1, r41_4, r41_5, r41_7, r41_10, r41_11, r41_13, r41_16, r41_17, r41_18, r41_21, r41_22, r41_25, r41_28, r41_31, r41_32, r41_34, r41_37, r41_38, r41_39, r41_42, r41_43, r41_44, r41_47, r41_48, r41_49, r41_52, r41_53, r41_54, r41_57, r41_58, r41_59, r41_62, r41_63, r41_64, r41_67, r41_68, r41_71, r41_73, r41_74, r41_77, r41_78, r41_79, r41_82, r41_84, up_same, cbI_some, cbV_some, reduceIte, e1, e2, d0T, dbT, p1, p2T, K67, K14 c6 c3, hv, htn, bq, pb, pi, K66_6, nz1, nz2, nz3, nz4, nz6, b10]
              · simp only [c133, r133_0, r133_1, r133_2, r133_4, r133_7, r133_10, r133_12, r133_15, r133_16, r133_19, r133_20, r133_23, r133_26, r133_28, r133_31, r133_32, r133_33, r133_36, r133_37, r133_40, r133_43, r133_44, r133_45, r133_48, r133_49, r133_50, r133_53, r133_54, r133_55, r133_58, r133_59, r133_60, r133_62, r133_63, r133_66, r133_67, r133_68, r133_69, r133_71, up_same, cbI_some, cbV_some, reduceIte, e1, e2, d0T, dbT, p1, p2T, m83, m84, m86, m87, m97 X (M 4) c7 c3, ei, hv, htn, le1, le2, pb, pi, m81_6, nz1, nz2, nz3, nz4, nz6, b10]
            · skip
              have pb := mBo_0 p1 p2
              have pi := mIn_1 p1 p2
              obtain ⟨a, ha1, ha2, rfl⟩ := of_mid (x := v) (lo := lo) (hi := hi) (by omega) (by omega) (by rw [← l3]; exact p1) (by rw [← l4]; exact p2)
              refine Ans.mk (v := M 4 14 0 q) (M1 := va_up M 1 (wrN (M 1) 0 0 (q + 3) (nI a))) (N' := wrN (M 4) 14 0 q (nI a)) ?_ (up_ne _ _ (by decide)) (fun X => ?_) ?_
              · simp only [c41, r41_0, r41_1, r41_4, r41_5, r41_7, r41_10, r41_11, r41_13, r41_16, r41_17, r41_18, r41_21, r41_22, r41_25, r41_28, r41_31, r41_32, r41_34, r41_37, r41_38, r41_39, r41_42, r41_43, r41_44, r41_47, r41_48, r41_49, r41_52, r41_53, r41_54, r41_57, r41_58, r41_59, r41_62, r41_63, r41_64, r41_67, r41_68, r41_71, r41_73, r41_74, r41_77, r41_78, r41_79, r41_82, r41_84, up_same, cbI_some, cbV_some, reduceIte, e1, e2, d0T, dbT, p1, p2, K67, K14 c6 c3, hv, htn, bq, pb, pi, nz1, nz2, nz3, nz4, nz6, b10, K16 M 1 hq, K17 M 1 hq, sg]
              · simp only [c133, r133_0, r133_1, r133_2, r133_4, r133_7, r133_10, r133_12, r133_15, r133_16, r133_19, r133_20, r133_23, r133_26, r133_28, r133_31, r133_32, r133_33, r133_36, r133_37, r133_40, r133_43, r133_44, r133_45, r133_48, r133_49, r133_50, r133_53, r133_54, r133_55, r133_58, r133_59, r133_60, r133_62, r133_63, r133_66, r133_67, r133_68, r133_69, r133_71, up_same, cbI_some, cbV_some, reduceIte, e1, e2, d0T, dbT, p1, p2, m83, m84, m86, m87, m97 X (M 4) c7 c3, ei, hv, htn, le1, le2, pb, pi, nz1, nz2, nz3, nz4, nz6, b10, wr_up]
              · rw [up_same, up_ne _ _ (by decide), up_ne _ _ (by decide)]
                refine TI.st h ⟨L, _, h0.sg hq (fun e => ⟨by have := l5 e; omega, by have := l5 e; omega, fun j hj1 hj2 => ?_⟩) (fun e => ⟨by have := l6 e; omega, by have := l6 e; omega⟩)⟩ ?_ ?_ ?_ ?_ (FrQ.wr _ _ (by decide))
                · by_cases hjm : j < m
                  · exact bz_0 m 0 db j (by omega) (by omega)
                  · exact hMs.2 j (by omega) hj2
                · obtain ⟨aa, b1, b2, b3⟩ := hhod
                  by_cases e : q = 1
                  · subst e
                    exact ⟨a, by have := l7 rfl; omega, by have := l7 rfl; omega, wn_eq _ _ _ _ _⟩
                  · exact ⟨aa, b1, b2, by rw [wn_j _ _ _ _ (fun z => e z.symm)]; exact b3⟩
                · rw [wn_j _ _ _ _ (by omega), wn_k _ _ _ _ (by decide)]
                  exact hlat
                · rw [wn_j _ _ _ _ (by omega)]
                  exact hw0
                · rw [wn_j _ _ _ _ (by omega)]
                  exact hdr0
        · skip
          refine Ans.no h rf3 ?_ (fun X => ?_)
          · simp only [c41, r41_0, r41_1, r41_4, r41_5, r41_7, r41_10, r41_11, r41_13, r41_16, r41_17, r41_18, r41_21, r41_22, r41_25, r41_28, r41_31, r41_32, r41_34, r41_37, r41_38, r41_39, r41_42, r41_43, r41_44, r41_47, r41_48, r41_49, r41_52, r41_53, r41_54, r41_57, r41_58, r41_59, r41_62, r41_63, r41_64, r41_67, r41_68, r41_71, r41_73, r41_74, r41_77, r41_78, r41_79, r41_82, r41_84, up_same, cbI_some, cbV_some, reduceIte, e1, e2, d0T, db, K67, K14 c6 c3, hv, htn, bq, K66_3, nz1, nz2, nz3, nz4, nz6, b10]
          · simp only [c133, r133_0, r133_1, r133_2, r133_4, r133_7, r133_10, r133_12, r133_15, r133_16, r133_19, r133_20, r133_23, r133_26, r133_28, r133_31, r133_32, r133_33, r133_36, r133_37, r133_40, r133_43, r133_44, r133_45, r133_48, r133_49, r133_50, r133_53, r133_54, r133_55, r133_58, r133_59, r133_60, r133_62, r133_63, r133_66, r133_67, r133_68, r133_69, r133_71, up_same, cbI_some, cbV_some, reduceIte, e1, e2, d0T, db, m83, m84, m86, m87, m97 X (M 4) c7 c3, ei, hv, htn, le1, le2, m81_3, nz1, nz2, nz3, nz4, nz6, b10]
      · skip
        by_cases p1 : v < (stV 33 q)
        · have p1T := eq_true p1
          have pb := mBo_a (stV 34 q) p1
          have pi := mIn_a (stV 34 q) p1
          refine Ans.no h rf4 ?_ (fun X => ?_)
          · simp only [c41, r41_0, r41_1, r41_4, r41_5, r41_7, r41_10, r41_11, r41_13, r41_16, r41_17, r41_18, r41_21, r41_22, r41_25, r41_28, r41_31, r41_32, r41_34, r41_37, r41_38, r41_39, r41_42, r41_43, r41_44, r41_47, r41_48, r41_49, r41_52, r41_53, r41_54, r41_57, r41_58, r41_59, r41_62, r41_63, r41_64, r41_67, r41_68, r41_71, r41_73, r41_74, r41_77, r41_78, r41_79, r41_82, r41_84, up_same, cbI_some, cbV_some, reduceIte, e1, e2, d0, p1T, K67, K14 c6 c3, hv, htn, bq, pb, pi, K66_4, nz1, nz2, nz3, nz4, nz6, b10]
          · simp only [c133, r133_0, r133_1, r133_2, r133_4, r133_7, r133_10, r133_12, r133_15, r133_16, r133_19, r133_20, r133_23, r133_26, r133_28, r133_31, r133_32, r133_33, r133_36, r133_37, r133_40, r133_43, r133_44, r133_45, r133_48, r133_49, r133_50, r133_53, r133_54, r133_55, r133_58, r133_59, r133_60, r133_62, r133_63, r133_66, r133_67, r133_68, r133_69, r133_71, up_same, cbI_some, cbV_some, reduceIte, e1, e2, d0, p1T, m83, m84, m86, m87, m97 X (M 4) c7 c3, ei, hv, htn, le1, le2, pb, pi, m81_4, nz1, nz2, nz3, nz4, nz6, b10]
        · skip
          by_cases p2 : (stV 34 q) < v
          · have p2T := eq_true p2
            have pb := mBo_b p1 p2
            have pi := mIn_b p1 p2
            refine Ans.no h rf6 ?_ (fun X => ?_)
            · simp only [c41, r41_0, r41_1, r41_4, r41_5, r41_7, r41_10, r41_11, r41_13, r41_16, r41_17, r41_18, r41_21, r41_22, r41_25, r41_28, r41_31, r41_32, r41_34, r41_37, r41_38, r41_39, r41_42, r41_43, r41_44, r41_47, r41_48, r41_49, r41_52, r41_53, r41_54, r41_57, r41_58, r41_59, r41_62, r41_63, r41_64, r41_67, r41_68, r41_71, r41_73, r41_74, r41_77, r41_78, r41_79, r41_82, r41_84, up_same, cbI_some, cbV_some, reduceIte, e1, e2, d0, p1, p2T, K67, K14 c6 c3, hv, htn, bq, pb, pi, K66_6, nz1, nz2, nz3, nz4, nz6, b10]
            · simp only [c133, r133_0, r133_1, r133_2, r133_4, r133_7, r133_10, r133_12, r133_15, r133_16, r133_19, r133_20, r133_23, r133_26, r133_28, r133_31, r133_32, r133_33, r133_36, r133_37, r133_40, r133_43, r133_44, r133_45, r133_48, r133_49, r133_50, r133_53, r133_54, r133_55, r133_58, r133_59, r133_60, r133_62, r133_63, r133_66, r133_67, r133_68, r133_69, r133_71, up_same, cbI_some, cbV_some, reduceIte, e1, e2, d0, p1, p2T, m83, m84, m86, m87, m97 X (M 4) c7 c3, ei, hv, htn, le1, le2, pb, pi, m81_6, nz1, nz2, nz3, nz4, nz6, b10]
          · skip
            have pb := mBo_0 p1 p2
            have pi := mIn_1 p1 p2
            obtain ⟨a, ha1, ha2, rfl⟩ := of_mid (x := v) (lo := lo) (hi := hi) (by omega) (by omega) (by rw [← l3]; exact p1) (by rw [← l4]; exact p2)
            refine Ans.mk (v := M 4 14 0 q) (M1 := va_up M 1 (wrN (M 1) 0 0 (q + 3) (nI a))) (N' := wrN (M 4) 14 0 q (nI a)) ?_ (up_ne _ _ (by decide)) (fun X => ?_) ?_
            · simp only [c41, r41_0, r41_1, r41_4, r41_5, r41_7, r41_10, r41_11, r41_13, r41_16, r41_17, r41_18, r41_21, r41_22, r41_25, r41_28, r41_31, r41_32, r41_34, r41_37, r41_38, r41_39, r41_42, r41_43, r41_44, r41_47, r41_48, r41_49, r41_52, r41_53, r41_54, r41_57, r41_58, r41_59, r41_62, r41_63, r41_64, r41_67, r41_68, r41_71, r41_73, r41_74, r41_77, r41_78, r41_79, r41_82, r41_84, up_same, cbI_some, cbV_some, reduceIte, e1, e2, d0, p1, p2, K67, K14 c6 c3, hv, htn, bq, pb, pi, nz1, nz2, nz3, nz4, nz6, b10, K16 M 1 hq, K17 M 1 hq, sg]
            · simp only [c133, r133_0, r133_1, r133_2, r133_4, r133_7, r133_10, r133_12, r133_15, r133_16, r133_19, r133_20, r133_23, r133_26, r133_28, r133_31, r133_32, r133_33, r133_36, r133_37, r133_40, r133_43, r133_44, r133_45, r133_48, r133_49, r133_50, r133_53, r133_54, r133_55, r133_58, r133_59, r133_60, r133_62, r133_63, r133_66, r133_67, r133_68, r133_69, r133_71, up_same, cbI_some, cbV_some, reduceIte, e1, e2, d0, p1, p2, m83, m84, m86, m87, m97 X (M 4) c7 c3, ei, hv, htn, le1, le2, pb, pi, nz1, nz2, nz3, nz4, nz6, b10, wr_up]
            · rw [up_same, up_ne _ _ (by decide), up_ne _ _ (by decide)]
              refine TI.st h ⟨L, _, h0.sg hq (fun e => ⟨by have := l5 e; omega, by have := l5 e; omega, fun j hj1 hj2 => ?_⟩) (fun e => ⟨by have := l6 e; omega, by have := l6 e; omega⟩)⟩ ?_ ?_ ?_ ?_ (FrQ.wr _ _ (by decide))
              · exact absurd (f1.mpr e) d0
              · obtain ⟨aa, b1, b2, b3⟩ := hhod
                by_cases e : q = 1
                · subst e
                  exact ⟨a, by have := l7 rfl; omega, by have := l7 rfl; omega, wn_eq _ _ _ _ _⟩
                · exact ⟨aa, b1, b2, by rw [wn_j _ _ _ _ (fun z => e z.symm)]; exact b3⟩
              · rw [wn_j _ _ _ _ (by omega), wn_k _ _ _ _ (by decide)]
                exact hlat
              · rw [wn_j _ _ _ _ (by omega)]
                exact hw0
              · rw [wn_j _ _ _ _ (by omega)]
                exact hdr0
