/-! a free mate: send and starts -/
/-- what a minute of the reference leaves alone -/
def FrN (N N' : Nm) : Prop := (∀ k, k ≠ 12 → k ≠ 14 → k ≠ 17 → k ≠ 18 → k ≠ 19 → k ≠ 20 → k ≠ 21 → k ≠ 22 → k ≠ 28 → k ≠ 29 → k ≠ 30 → k ≠ 31 → N' k = N k) ∧ (∀ j, (j < 11 ∨ (12 < j ∧ j < 29) ∨ (36 < j ∧ j ≠ 39)) → N' 12 0 j = N 12 0 j) ∧ (∀ j, j ≠ 5 → N' 14 0 j = N 14 0 j)
theorem FrN.rf (N : Nm) : FrN N N := ⟨fun _ _ _ _ _ _ _ _ _ _ _ _ _ => rfl, fun _ _ => rfl, fun _ _ => rfl⟩
theorem FrN.tr {N1 N2 N3 : Nm} (h1 : FrN N1 N2) (h2 : FrN N2 N3) : FrN N1 N3 := ⟨fun k a1 a2 a3 a4 a5 a6 a7 a8 a9 a10 a11 a12 => (h2.1 k a1 a2 a3 a4 a5 a6 a7 a8 a9 a10 a11 a12).trans (h1.1 k a1 a2 a3 a4 a5 a6 a7 a8 a9 a10 a11 a12), fun j h => (h2.2.1 j h).trans (h1.2.1 j h), fun j h => (h2.2.2 j h).trans (h1.2.2 j h)⟩
/-- one place more -/
theorem FrN.wr {N0 N : Nm} (h : FrN N0 N) (k j : Nat) (v : Int32) (hk : k = 17 ∨ k = 18 ∨ k = 19 ∨ k = 20 ∨ k = 21 ∨ k = 22 ∨ k = 28 ∨ k = 29 ∨ k = 30 ∨ k = 31) : FrN N0 (wrN N k 0 j v) := by
  refine ⟨fun q a1 a2 a3 a4 a5 a6 a7 a8 a9 a10 a11 a12 => ?_, fun q hq => ?_, fun q hq => ?_⟩
  · rw [wn_k _ _ _ _ (by omega)]; exact h.1 q a1 a2 a3 a4 a5 a6 a7 a8 a9 a10 a11 a12
  · rw [wn_k _ _ _ _ (by omega)]; exact h.2.1 q hq
  · rw [wn_k _ _ _ _ (by omega)]; exact h.2.2 q hq
theorem FrN.wr12 {N0 N : Nm} (h : FrN N0 N) (j : Nat) (v : Int32) (hj : 11 ≤ j) (hj2 : j ≤ 12 ∨ 29 ≤ j) (hj3 : j ≤ 36 ∨ j = 39) : FrN N0 (wrN N 12 0 j v) := by
  refine ⟨fun q a1 a2 a3 a4 a5 a6 a7 a8 a9 a10 a11 a12 => ?_, fun q hq => ?_, fun q hq => ?_⟩
  · rw [wn_k _ _ _ _ a1]; exact h.1 q a1 a2 a3 a4 a5 a6 a7 a8 a9 a10 a11 a12
  · rw [wn_j _ _ _ _ (by omega)]; exact h.2.1 q hq
  · rw [wn_k _ _ _ _ (by decide)]; exact h.2.2 q hq
theorem FrN.wr14 {N0 N : Nm} (h : FrN N0 N) (v : Int32) : FrN N0 (wrN N 14 0 5 v) := by
  refine ⟨fun q a1 a2 a3 a4 a5 a6 a7 a8 a9 a10 a11 a12 => ?_, fun q hq => ?_, fun q hq => ?_⟩
  · rw [wn_k _ _ _ _ a2]; exact h.1 q a1 a2 a3 a4 a5 a6 a7 a8 a9 a10 a11 a12
  · rw [wn_k _ _ _ _ (by decide)]; exact h.2.1 q hq
  · rw [wn_j _ _ _ _ hq]; exact h.2.2 q hq
def okB (x : Int32) : Bool := !decide (x < 20) || vpB x 20
def ok8 (x : Int32) : Bool := decide (x < 800) && vpB x 800
def cNc (S : Nm) (v : Int32) : Nm := if v = 9 then wrN S 5 0 7 (S 5 0 7 + 1) else wrN S 5 0 6 (S 5 0 6 + 1)
def cNb (S : Nm) (v : Int32) : Nm := if S 5 0 10 < 20 then wrN (wrN (cNc S v) 6 0 (S 5 0 10).toNatClampNeg v) 5 0 10 (S 5 0 10 + 1) else cNc S v
def mTl (N : Nm) (v : Int32) : Nm := wrN (wrN N 31 0 (N 12 0 33).toNatClampNeg v) 12 0 33 (N 12 0 33 + 1)
def RT1 (T : Nat) (S N : Nm) (t : Nat) : Prop := S 5 0 0 = nI t ∧ N 12 0 39 = nI t ∧ S 5 0 1 = N 12 0 29 ∧ S 5 0 6 = N 12 0 30 ∧ S 5 0 7 = N 12 0 31 ∧ S 5 0 8 = N 12 0 32 ∧ S 0 0 13 = N 12 0 37 ∧ (∀ q, q < T → ((nI q < S 0 0 14) = (nI q < N 12 0 38))) ∧ (T = 241 → S 0 0 12 = N 12 0 12)
def RT2 (S N : Nm) (L : Nat) : Prop := S 5 0 2 = N 28 0 0 + N 28 0 1 + N 28 0 2 + N 28 0 3 ∧ S 5 0 3 = N 12 0 34 ∧ S 5 0 4 = N 12 0 35 ∧ S 5 0 5 = N 12 0 36 ∧ (N 12 0 35 = -9 ∨ ∃ k, k < 4 ∧ N 12 0 35 = nI k) ∧ ∀ i, L ≤ i → i < 4 → N 28 0 i = 0
def RBg (S N : Nm) (b : Nat) : Prop := N 12 0 33 = nI b ∧ S 5 0 10 = nI (min b 20) ∧ ∀ q, q < b → q < 20 → S 6 0 q = N 31 0 q
theorem RBg.oB {S N : Nm} {b : Nat} (h : RBg S N b) : okB (S 5 0 10) = true := by
  rw [h.2.1]
  unfold okB
  by_cases hb : b < 20
  · rw [vp_t (n := 20) (by omega) (by decide), Bool.or_true]
  · have : min b 20 = 20 := by omega
    rw [this]
    decide +kernel
theorem RBg.o8 {S N : Nm} {b : Nat} (h : RBg S N b) (hb : b < 800) : ok8 (N 12 0 33) = true := by
  rw [h.1]
  unfold ok8
  rw [vp_t (n := 800) hb (by decide), Bool.and_true]
  exact decide_eq_true (nI_lt (a := b) (b := 800) hb (by decide))
theorem k29 (M : Mm) (S : Nm) (g : Nat) (v : Int32) (h : okB (S 5 0 10) = true) : call 29 [aR g 5 0, aI v] (va_up M g S) = some (none, va_up M g (cNb S v)) := by
  unfold okB at h
  have w7 := wn_k S (k := 5) (k' := 6) 0 7 (S 5 0 7 + 1) (by decide)
  by_cases hc : S 5 0 10 < 20
  · have hv : vpB (S 5 0 10) 20 = true := by simpa [hc] using h
    by_cases h9 : v = 9
    · simp only [c29, r29_0, r29_1, r29_3, r29_6, r29_7, r29_8, r29_11, r29_12, r29_13, r29_16, r29_19, r29_20, r29_21, r29_24, r29_25, r29_26, r29_29, r29_30, r29_33, r29_34, r29_37, r29_38, r29_41, r29_42, r29_45, r29_46, r29_49, r29_50, r29_51, r29_52, r29_53, r29_56, r29_57, r29_58, r29_61, h9, up_same, wr_up, wn_if, wn_k, hc, hv, reduceIte, ne_eq, Nat.reduceEqDiff, not_false_eq_true, cNb, cNc]
    · simp only [c29, r29_0, r29_1, r29_3, r29_6, r29_7, r29_8, r29_11, r29_12, r29_13, r29_16, r29_19, r29_20, r29_21, r29_24, r29_25, r29_26, r29_29, r29_30, r29_33, r29_34, r29_37, r29_38, r29_41, r29_42, r29_45, r29_46, r29_49, r29_50, r29_51, r29_52, r29_53, r29_56, r29_57, r29_58, r29_61, h9, up_same, wr_up, wn_if, wn_k, hc, hv, reduceIte, ne_eq, Nat.reduceEqDiff, not_false_eq_true, cNb, cNc]
  · by_cases h9 : v = 9
    · simp only [c29, r29_0, r29_1, r29_3, r29_6, r29_7, r29_8, r29_11, r29_12, r29_13, r29_16, r29_19, r29_20, r29_21, r29_24, r29_25, r29_26, r29_29, r29_30, r29_33, r29_34, r29_37, r29_38, r29_41, r29_42, r29_45, r29_46, r29_49, r29_50, r29_51, r29_52, r29_53, r29_56, r29_57, r29_58, r29_61, h9, up_same, wr_up, wn_if, wn_k, hc, reduceIte, ne_eq, Nat.reduceEqDiff, not_false_eq_true, cNb, cNc]
    · simp only [c29, r29_0, r29_1, r29_3, r29_6, r29_7, r29_8, r29_11, r29_12, r29_13, r29_16, r29_19, r29_20, r29_21, r29_24, r29_25, r29_26, r29_29, r29_30, r29_33, r29_34, r29_37, r29_38, r29_41, r29_42, r29_45, r29_46, r29_49, r29_50, r29_51, r29_52, r29_53, r29_56, r29_57, r29_58, r29_61, h9, up_same, wr_up, wn_if, wn_k, hc, reduceIte, ne_eq, Nat.reduceEqDiff, not_false_eq_true, cNb, cNc]
theorem m118' (M : Mm) (N : Nm) (v : Int32) (h : ok8 (N 12 0 33) = true) : call 118 [aR 4 12 0, aI v] (va_up M 4 N) = some (none, va_up M 4 (mTl N v)) := by
  unfold ok8 at h
  rw [Bool.and_eq_true, decide_eq_true_eq] at h
  simp only [c118, r118_0, r118_1, r118_4, r118_5, r118_8, r118_9, r118_12, r118_13, r118_16, r118_17, r118_20, r118_21, r118_22, r118_23, r118_24, r118_27, r118_28, r118_29, r118_32, up_same, h.1, h.2, reduceIte, wr_up, wn_k, ne_eq, Nat.reduceEqDiff, not_false_eq_true, mTl]
/-- the three ways of a free mate who serves k -/
def sMx (S : Nm) (j : Nat) : Nm := cNb (cBg S j 1 (S 0 0 6)) 9
def nMx (N : Nm) (j : Nat) : Nm := mTl (wrN (mBg N j 1 (N 14 0 3)) 12 0 31 (N 12 0 31 + 1)) 9
def sUp (S : Nm) (j k : Nat) (z : Int32) : Nm := cNb (wrN (cCl (if z = 0 then S else wrN S 0 0 8 (S 0 0 8 - S 0 0 4)) j (nI k) z (S 0 0 5)) 0 0 12 (nI k)) (nI k)
def nUp (N : Nm) (j k : Nat) (z : Int32) : Nm := mTl (wrN (mBg (wrN (wrN (wrN (wrN N 14 0 5 (N 14 0 5 - if z = 0 then 0 else N 14 0 1)) 21 0 j (nI k)) 22 0 j z) 12 0 12 (nI k)) j 2 (N 14 0 2)) 12 0 30 (N 12 0 30 + 1)) (nI k)
theorem fr_bg {N0 N : Nm} (h : FrN N0 N) (j : Nat) (w t : Int32) : FrN N0 (mBg N j w t) := (h.wr 19 j w (by decide)).wr 20 j t (by decide)
theorem fr_tl {N0 N : Nm} (h : FrN N0 N) (v : Int32) : FrN N0 (mTl N v) := (h.wr 31 _ v (by decide)).wr12 33 _ (by decide) (by decide) (by decide)
theorem fr_mx (N : Nm) (j : Nat) : FrN N (nMx N j) ∧ nMx N j 28 = N 28 := ⟨fr_tl ((fr_bg (FrN.rf N) j _ _).wr12 31 _ (by decide) (by decide) (by decide)) _, by simp only [nMx, mTl, mBg, wn_k, ne_eq, Nat.reduceEqDiff, not_false_eq_true]⟩
theorem fr_up (N : Nm) (j k : Nat) (z : Int32) : FrN N (nUp N j k z) ∧ nUp N j k z 28 = N 28 := ⟨fr_tl ((fr_bg (((((FrN.rf N).wr14 _).wr 21 j _ (by decide)).wr 22 j _ (by decide)).wr12 12 _ (by decide) (by decide) (by decide)) j _ _).wr12 30 _ (by decide) (by decide) (by decide)) _, by simp only [nUp, mTl, mBg, wn_k, ne_eq, Nat.reduceEqDiff, not_false_eq_true]⟩
section Send
variable {S N : Nm} {T L m t b j : Nat} {u : Nat → Nat}
theorem send_c (hC : RCf S N L m) (hT : RT1 T S N t) (hB : RBg S N b) (hS : RLs S N L u) (ht : t < T) (hj : j < 3) (o : Option Nat) (ho : ∀ k, o = some k → k < L) : ∀ (M : Mm) (g : Nat), call 21 [aR g 0 0, aR g 4 j, aI (oI o)] (va_up M g S) = some (none, va_up M g (match o with
    | none => S
    | some k => if N 18 0 k < N 17 0 k then sUp S j k 0 else if N 14 0 5 < N 14 0 1 then (if nI t < N 12 0 38 then sMx S j else S) else sUp S j k 1)) := by
  intro M g
  obtain ⟨hL4, -, hm, hL1, -, -, -, hh, -, -, -, hmk, -⟩ := hC
  obtain ⟨ht0, -, -, -, -, -, -, hdry, -⟩ := hT
  have hok := hB.oB
  cases o with
  | none =>
    simp only [oI, c21, r21_0, r21_1, r21_2, r21_5, r21_8, r21_9, r21_10, r21_13, r21_14, r21_15, r21_18, r21_19, r21_22, r21_23, r21_24, r21_27, r21_30, r21_31, r21_34, r21_35, r21_36, r21_37, r21_40, r21_41, r21_44, r21_45, r21_48, r21_51, r21_52, r21_55, r21_58, r21_59, r21_62, r21_65, r21_66, r21_67, r21_68, r21_71, r21_74, r21_75, r21_78, r21_80, r21_83, r21_84, r21_85, r21_88, r21_89, r21_90, r21_93, r21_94, r21_97, r21_98, r21_101, r21_102, r21_103, r21_104, r21_105, r21_108, r21_111, r21_112, r21_113, r21_116, r21_117, r21_120, r21_121, r21_124, k12 M S g hL1, m9lt, cbI_some, reduceIte]
  | some k =>
    have hk := ho k rfl
    obtain ⟨-, -, -, -, h4, h5, -⟩ := hS k hk
    have hv : vpB (nI k) 4 = true := vp_t (by omega) (by decide)
    have htn : (nI k).toNatClampNeg = k := tn (n := 4) (by omega) (by decide)
    have hk0 : (nI k < 0) = False := eq_false (nI_pos (by omega))
    have hkL : (nI k < nI L) = True := eq_true (nI_lt hk (by omega))
    by_cases c1 : N 18 0 k < N 17 0 k
    · simp only [oI, c21, r21_0, r21_1, r21_2, r21_5, r21_8, r21_9, r21_10, r21_13, r21_14, r21_15, r21_18, r21_19, r21_22, r21_23, r21_24, r21_27, r21_30, r21_31, r21_34, r21_35, r21_36, r21_37, r21_40, r21_41, r21_44, r21_45, r21_48, r21_51, r21_52, r21_55, r21_58, r21_59, r21_62, r21_65, r21_66, r21_67, r21_68, r21_71, r21_74, r21_75, r21_78, r21_80, r21_83, r21_84, r21_85, r21_88, r21_89, r21_90, r21_93, r21_94, r21_97, r21_98, r21_101, r21_102, r21_103, r21_104, r21_105, r21_108, r21_111, r21_112, r21_113, r21_116, r21_117, r21_120, r21_121, r21_124, k12 M S g hL1, hk0, hkL, b10, cbI_some, cbV_some, up_same, hv, htn, h4, h5, c1, k10 M _ g j _ 0 _ (Or.inl rfl), wr_up, k29 M _ g, cCl, wn_if, wn_k, ne_eq, Nat.reduceEqDiff, not_false_eq_true, hok, reduceIte, sUp]
    · by_cases c2 : N 14 0 5 < N 14 0 1
      · by_cases c3 : nI t < N 12 0 38
        · have c3' : nI t < S 0 0 14 := by rw [hdry t ht]; exact c3
          simp only [oI, c21, r21_0, r21_1, r21_2, r21_5, r21_8, r21_9, r21_10, r21_13, r21_14, r21_15, r21_18, r21_19, r21_22, r21_23, r21_24, r21_27, r21_30, r21_31, r21_34, r21_35, r21_36, r21_37, r21_40, r21_41, r21_44, r21_45, r21_48, r21_51, r21_52, r21_55, r21_58, r21_59, r21_62, r21_65, r21_66, r21_67, r21_68, r21_71, r21_74, r21_75, r21_78, r21_80, r21_83, r21_84, r21_85, r21_88, r21_89, r21_90, r21_93, r21_94, r21_97, r21_98, r21_101, r21_102, r21_103, r21_104, r21_105, r21_108, r21_111, r21_112, r21_113, r21_116, r21_117, r21_120, r21_121, r21_124, k12 M S g hL1, hk0, hkL, b10, cbI_some, cbV_some, up_same, hv, htn, h4, h5, c1, c2, c3, c3', hh, hmk, ht0, k9, wr_up, k29 M _ g, cBg, wn_if, wn_k, ne_eq, Nat.reduceEqDiff, not_false_eq_true, hok, reduceIte, sMx]
        · have c3' : ¬ nI t < S 0 0 14 := by rw [hdry t ht]; exact c3
          simp only [oI, c21, r21_0, r21_1, r21_2, r21_5, r21_8, r21_9, r21_10, r21_13, r21_14, r21_15, r21_18, r21_19, r21_22, r21_23, r21_24, r21_27, r21_30, r21_31, r21_34, r21_35, r21_36, r21_37, r21_40, r21_41, r21_44, r21_45, r21_48, r21_51, r21_52, r21_55, r21_58, r21_59, r21_62, r21_65, r21_66, r21_67, r21_68, r21_71, r21_74, r21_75, r21_78, r21_80, r21_83, r21_84, r21_85, r21_88, r21_89, r21_90, r21_93, r21_94, r21_97, r21_98, r21_101, r21_102, r21_103, r21_104, r21_105, r21_108, r21_111, r21_112, r21_113, r21_116, r21_117, r21_120, r21_121, r21_124, k12 M S g hL1, hk0, hkL, b10, cbI_some, cbV_some, up_same, hv, htn, h4, h5, c1, c2, c3, c3', hh, hmk, ht0, reduceIte]
      · simp only [oI, c21, r21_0, r21_1, r21_2, r21_5, r21_8, r21_9, r21_10, r21_13, r21_14, r21_15, r21_18, r21_19, r21_22, r21_23, r21_24, r21_27, r21_30, r21_31, r21_34, r21_35, r21_36, r21_37, r21_40, r21_41, r21_44, r21_45, r21_48, r21_51, r21_52, r21_55, r21_58, r21_59, r21_62, r21_65, r21_66, r21_67, r21_68, r21_71, r21_74, r21_75, r21_78, r21_80, r21_83, r21_84, r21_85, r21_88, r21_89, r21_90, r21_93, r21_94, r21_97, r21_98, r21_101, r21_102, r21_103, r21_104, r21_105, r21_108, r21_111, r21_112, r21_113, r21_116, r21_117, r21_120, r21_121, r21_124, k12 M S g hL1, hk0, hkL, b10, cbI_some, cbV_some, up_same, hv, htn, h4, h5, c1, c2, hh, hmk, k10 M _ g j _ 1 _ (Or.inr rfl), wr_up, k29 M _ g, cCl, wn_if, wn_k, ne_eq, Nat.reduceEqDiff, not_false_eq_true, hok, reduceIte, sUp]
theorem send_n (hC : RCf S N L m) (hT : RT1 T S N t) (hB : RBg S N b) (hb : b < 800) (hS : RLs S N L u) (hj : j < 3) : ∀ (M : Mm), call 119 [aR 4 12 0, aI (nI j)] (va_up M 4 N) = some (none, va_up M 4 (match mSv N m 0 L none with
    | none => N
    | some k => if N 18 0 k < N 17 0 k then nUp N j k 0 else if N 14 0 5 < N 14 0 1 then (if nI t < N 12 0 38 then nMx N j else N) else nUp N j k 1)) := by
  intro M
  obtain ⟨hL4, -, hm, -, hLN, -, hmN, -⟩ := hC
  obtain ⟨-, htN, -⟩ := hT
  have hok := hB.o8 hb
  have hsv := m115 M N hLN hL4 hmN hm hS.okN
  have hlt := sv_lt (N := N) (m := m) L 0 none (by intro c h; cases h)
  have hvj := vp_t hj (by decide)
  have htj := tn hj (by decide)
  generalize mSv N m 0 L none = o at hsv hlt
  cases o with
  | none =>
    simp only [oI] at hsv
    simp only [c119, r119_0, r119_1, r119_4, r119_5, r119_6, r119_9, r119_10, r119_11, r119_14, r119_15, r119_16, r119_17, r119_20, r119_21, r119_22, r119_25, r119_26, r119_29, r119_30, r119_31, r119_32, r119_35, r119_36, r119_39, r119_40, r119_41, r119_42, r119_45, r119_46, r119_47, r119_50, r119_51, r119_54, r119_55, r119_58, r119_61, r119_62, r119_63, r119_64, r119_65, r119_66, r119_69, r119_70, r119_71, r119_74, r119_75, r119_76, r119_79, r119_80, r119_81, r119_84, r119_85, r119_87, r119_90, r119_91, r119_92, r119_95, r119_96, r119_97, r119_98, r119_99, r119_102, r119_103, r119_106, r119_107, r119_108, r119_111, r119_112, r119_113, r119_114, r119_115, r119_118, r119_119, r119_120, r119_121, r119_122, r119_125, r119_126, r119_127, r119_130, r119_131, r119_134, r119_135, r119_136, r119_137, r119_138, r119_141, r119_142, r119_143, r119_144, r119_145, r119_148, r119_149, r119_150, r119_153, r119_154, r119_155, r119_158, r119_159, r119_160, r119_163, r119_164, r119_165, r119_168, hsv, m9lt, cbI_some, reduceIte]
  | some k =>
    have hk := hlt k rfl
    have hv : vpB (nI k) 4 = true := vp_t (by omega) (by decide)
    have htn : (nI k).toNatClampNeg = k := tn (n := 4) (by omega) (by decide)
    have hk0 : (nI k < 0) = False := eq_false (nI_pos (by omega))
    simp only [oI] at hsv
    by_cases c1 : N 18 0 k < N 17 0 k
    · simp only [c119, r119_0, r119_1, r119_4, r119_5, r119_6, r119_9, r119_10, r119_11, r119_14, r119_15, r119_16, r119_17, r119_20, r119_21, r119_22, r119_25, r119_26, r119_29, r119_30, r119_31, r119_32, r119_35, r119_36, r119_39, r119_40, r119_41, r119_42, r119_45, r119_46, r119_47, r119_50, r119_51, r119_54, r119_55, r119_58, r119_61, r119_62, r119_63, r119_64, r119_65, r119_66, r119_69, r119_70, r119_71, r119_74, r119_75, r119_76, r119_79, r119_80, r119_81, r119_84, r119_85, r119_87, r119_90, r119_91, r119_92, r119_95, r119_96, r119_97, r119_98, r119_99, r119_102, r119_103, r119_106, r119_107, r119_108, r119_111, r119_112, r119_113, r119_114, r119_115, r119_118, r119_119, r119_120, r119_121, r119_122, r119_125, r119_126, r119_127, r119_130, r119_131, r119_134, r119_135, r119_136, r119_137, r119_138, r119_141, r119_142, r119_143, r119_144, r119_145, r119_148, r119_149, r119_150, r119_153, r119_154, r119_155, r119_158, r119_159, r119_160, r119_163, r119_164, r119_165, r119_168, hsv, hk0, b10, cbI_some, cbV_some, up_same, hv, htn, hvj, htj, v7_1, v7_2, v7_3, v7_5, tn1, tn2, tn3, tn5, c1, wr_up, m117 M _ hj, m118' M, mBg, wn_if, wn_k, ne_eq, Nat.reduceEqDiff, not_false_eq_true, hok, reduceIte, nUp]
    · by_cases c2 : N 14 0 5 < N 14 0 1
      · by_cases c3 : nI t < N 12 0 38
        · simp only [c119, r119_0, r119_1, r119_4, r119_5, r119_6, r119_9, r119_10, r119_11, r119_14, r119_15, r119_16, r119_17, r119_20, r119_21, r119_22, r119_25, r119_26, r119_29, r119_30, r119_31, r119_32, r119_35, r119_36, r119_39, r119_40, r119_41, r119_42, r119_45, r119_46, r119_47, r119_50, r119_51, r119_54, r119_55, r119_58, r119_61, r119_62, r119_63, r119_64, r119_65, r119_66, r119_69, r119_70, r119_71, r119_74, r119_75, r119_76, r119_79, r119_80, r119_81, r119_84, r119_85, r119_87, r119_90, r119_91, r119_92, r119_95, r119_96, r119_97, r119_98, r119_99, r119_102, r119_103, r119_106, r119_107, r119_108, r119_111, r119_112, r119_113, r119_114, r119_115, r119_118, r119_119, r119_120, r119_121, r119_122, r119_125, r119_126, r119_127, r119_130, r119_131, r119_134, r119_135, r119_136, r119_137, r119_138, r119_141, r119_142, r119_143, r119_144, r119_145, r119_148, r119_149, r119_150, r119_153, r119_154, r119_155, r119_158, r119_159, r119_160, r119_163, r119_164, r119_165, r119_168, hsv, hk0, b10, cbI_some, cbV_some, up_same, hv, htn, hvj, htj, v7_1, v7_2, v7_3, v7_5, tn1, tn2, tn3, tn5, c1, c2, c3, htN, wr_up, m117 M _ hj, m118' M, mBg, wn_if, wn_k, ne_eq, Nat.reduceEqDiff, not_false_eq_true, hok, reduceIte, nMx]
        · simp only [c119, r119_0, r119_1, r119_4, r119_5, r119_6, r119_9, r119_10, r119_11, r119_14, r119_15, r119_16, r119_17, r119_20, r119_21, r119_22, r119_25, r119_26, r119_29, r119_30, r119_31, r119_32, r119_35, r119_36, r119_39, r119_40, r119_41, r119_42, r119_45, r119_46, r119_47, r119_50, r119_51, r119_54, r119_55, r119_58, r119_61, r119_62, r119_63, r119_64, r119_65, r119_66, r119_69, r119_70, r119_71, r119_74, r119_75, r119_76, r119_79, r119_80, r119_81, r119_84, r119_85, r119_87, r119_90, r119_91, r119_92, r119_95, r119_96, r119_97, r119_98, r119_99, r119_102, r119_103, r119_106, r119_107, r119_108, r119_111, r119_112, r119_113, r119_114, r119_115, r119_118, r119_119, r119_120, r119_121, r119_122, r119_125, r119_126, r119_127, r119_130, r119_131, r119_134, r119_135, r119_136, r119_137, r119_138, r119_141, r119_142, r119_143, r119_144, r119_145, r119_148, r119_149, r119_150, r119_153, r119_154, r119_155, r119_158, r119_159, r119_160, r119_163, r119_164, r119_165, r119_168, hsv, hk0, b10, cbI_some, cbV_some, up_same, hv, htn, hvj, htj, v7_1, v7_2, v7_3, v7_5, tn1, tn2, tn3, tn5, c1, c2, c3, htN, reduceIte]
      · simp only [c119, r119_0, r119_1, r119_4, r119_5, r119_6, r119_9, r119_10, r119_11, r119_14, r119_15, r119_16, r119_17, r119_20, r119_21, r119_22, r119_25, r119_26, r119_29, r119_30, r119_31, r119_32, r119_35, r119_36, r119_39, r119_40, r119_41, r119_42, r119_45, r119_46, r119_47, r119_50, r119_51, r119_54, r119_55, r119_58, r119_61, r119_62, r119_63, r119_64, r119_65, r119_66, r119_69, r119_70, r119_71, r119_74, r119_75, r119_76, r119_79, r119_80, r119_81, r119_84, r119_85, r119_87, r119_90, r119_91, r119_92, r119_95, r119_96, r119_97, r119_98, r119_99, r119_102, r119_103, r119_106, r119_107, r119_108, r119_111, r119_112, r119_113, r119_114, r119_115, r119_118, r119_119, r119_120, r119_121, r119_122, r119_125, r119_126, r119_127, r119_130, r119_131, r119_134, r119_135, r119_136, r119_137, r119_138, r119_141, r119_142, r119_143, r119_144, r119_145, r119_148, r119_149, r119_150, r119_153, r119_154, r119_155, r119_158, r119_159, r119_160, r119_163, r119_164, r119_165, r119_168, hsv, hk0, b10, cbI_some, cbV_some, up_same, hv, htn, hvj, htj, v7_1, v7_2, v7_3, v7_5, tn1, tn2, tn3, tn5, c1, c2, wr_up, m117 M _ hj, m118' M, mBg, wn_if, wn_k, ne_eq, Nat.reduceEqDiff, not_false_eq_true, hok, reduceIte, nUp]
end Send
