/-! statements that come: settings, layers -/
def Lv (S N : Nm) : Prop := (∃ L m, R0 S N L m) ∧ HodB N ∧ S 0 0 12 = N 12 0 12 ∧ S 0 0 13 = 0 ∧ (∀ q, q < 241 → nI q < S 0 0 14) ∧ N 12 0 37 = 0 ∧ N 12 0 38 = 100000
theorem dec_num : ∀ a, a < 100 → ∀ z, z < 10 → nI a * 10 + nI (z + 48) - 48 = nI (a * 10 + z) := by decide +kernel
theorem dg_of {a : Int32} (h : dg a = true) : ∃ z, z < 10 ∧ a = nI (z + 48) := by
  unfold dg at h
  by_cases h1 : a < 48
  · rw [if_pos h1] at h; cases h
  · rw [if_neg h1] at h
    by_cases h2 : 57 < a
    · rw [if_pos h2] at h; cases h
    · obtain ⟨b, b1, b2, rfl⟩ := of_mid (x := a) (lo := 48) (hi := 57) (by decide) (by decide) h1 h2
      exact ⟨b - 48, by omega, by rw [Nat.sub_add_cancel b1]⟩
theorem num_pos (t : Nat → Int32) : ∀ (n q a : Nat), df t q n = q + n → (a + 1) * 10 ^ n ≤ 1000 → ∃ b, b < 1000 ∧ numV t q n (nI a) = nI b := by
  intro n
  induction n with
  | zero =>
    intro q a _ h
    exact ⟨a, by omega, rfl⟩
  | succ n ih =>
    intro q a h1 h2
    rw [df] at h1
    by_cases g : dg (t q) = true
    · rw [if_pos g] at h1
      obtain ⟨z, hz, e⟩ := dg_of g
      have hp : 1 ≤ 10 ^ n := Nat.one_le_pow n 10 (by decide)
      have h3 : (a + 1) * 10 * 10 ^ n ≤ 1000 := by rw [Nat.mul_assoc, ← Nat.pow_succ']; exact h2
      have ha : a < 100 := by
        have : (a + 1) * 10 ≤ (a + 1) * 10 * 10 ^ n := Nat.le_mul_of_pos_right _ hp
        omega
      obtain ⟨b, b1, b2⟩ := ih (q + 1) (a * 10 + z) (by omega) (Nat.le_trans (Nat.mul_le_mul_right _ (by omega)) h3)
      refine ⟨b, b1, ?_⟩
      rw [numV, e, dec_num a ha z hz]
      exact b2
    · rw [if_neg g] at h1
      omega
section Sets
variable {M : Mm} {S N : Nm}
theorem k80 (M : Mm) (S : Nm) {q : Nat} (hq : q < 7) (v : Int32) : call 80 [aR 0 7 0, aI (nI q), aI v] (va_up M 2 S) = if v < stV 33 q then some (some 0, va_up M 2 S) else if stV 34 q < v then some (some 0, va_up M 2 S) else some (some 1, va_up M 2 (wrN S 0 0 (q + 3) v)) := by
  obtain ⟨-, -, -, hv, htn⟩ := lim_f q hq
  by_cases c1 : v < stV 33 q
  · have cT := eq_true c1
    simp only [c80, r80_0, r80_1, r80_4, r80_5, r80_6, r80_9, r80_10, r80_11, r80_14, r80_17, r80_18, r80_19, r80_20, r80_23, r80_24, r80_25, r80_28, r80_29, hv, htn, K67, mBo_a _ c1, nz4, cT, true_or, or_true, cbI_some, cbV_some, reduceIte]
  · by_cases c2 : stV 34 q < v
    · have cT := eq_true c2
      simp only [c80, r80_0, r80_1, r80_4, r80_5, r80_6, r80_9, r80_10, r80_11, r80_14, r80_17, r80_18, r80_19, r80_20, r80_23, r80_24, r80_25, r80_28, r80_29, hv, htn, K67, mBo_b c1 c2, nz6, c1, cT, true_or, or_true, cbI_some, cbV_some, reduceIte]
    · simp only [c80, r80_0, r80_1, r80_4, r80_5, r80_6, r80_9, r80_10, r80_11, r80_14, r80_17, r80_18, r80_19, r80_20, r80_23, r80_24, r80_25, r80_28, r80_29, hv, htn, K67, mBo_0 c1 c2, k17 _ _ _ hq, c1, c2, true_or, or_true, cbI_some, cbV_some, reduceIte]
theorem m98 (X : Mm) (N : Nm) {q m : Nat} (hq : q < 7) (hm : N 14 0 0 = nI m) (h3 : m ≤ 3) (v : Int32) : call 98 [aR 4 12 0, aI (nI q), aI v] (va_up X 4 N) = if v < stV 33 q then some (some 0, va_up X 4 N) else if stV 34 q < v then some (some 0, va_up X 4 N) else if q = 0 ∧ ¬ mBz N 0 m = 0 then some (some 0, va_up X 4 N) else some (some 1, va_up X 4 (wrN N 14 0 q v)) := by
  obtain ⟨hz, -, -, hv, htn⟩ := lim_f q hq
  obtain ⟨l1, l2⟩ := lim_eq q hq
  have mb := m97 X N hm h3
  by_cases c1 : v < stV 33 q
  · have cT := eq_true c1
    simp only [c98, r98_0, r98_1, r98_2, r98_5, r98_6, r98_9, r98_12, r98_15, r98_16, r98_19, r98_20, r98_23, r98_26, r98_27, r98_28, r98_29, r98_32, r98_33, r98_34, r98_35, r98_36, m86, m87, l1, l2, m83, mIn_a _ c1, cT, true_or, or_true, cbI_some, cbV_some, reduceIte]
  · by_cases c2 : stV 34 q < v
    · have cT := eq_true c2
      simp only [c98, r98_0, r98_1, r98_2, r98_5, r98_6, r98_9, r98_12, r98_15, r98_16, r98_19, r98_20, r98_23, r98_26, r98_27, r98_28, r98_29, r98_32, r98_33, r98_34, r98_35, r98_36, m86, m87, l1, l2, m83, mIn_b c1 c2, c1, cT, true_or, or_true, cbI_some, cbV_some, reduceIte]
    · by_cases c0 : q = 0
      · have zT := eq_true (hz.mpr c0)
        have c0T := eq_true c0
        by_cases cb : mBz N 0 m = 0
        · have cbT := eq_true cb
          simp only [c98, r98_0, r98_1, r98_2, r98_5, r98_6, r98_9, r98_12, r98_15, r98_16, r98_19, r98_20, r98_23, r98_26, r98_27, r98_28, r98_29, r98_32, r98_33, r98_34, r98_35, r98_36, m86, m87, l1, l2, m83, mIn_1 c1 c2, c1, c2, q10, zT, c0T, mb, cbT, hv, htn, wr_up, not_true_eq_false, and_false, true_or, or_true, cbI_some, cbV_some, reduceIte]
        · simp only [c98, r98_0, r98_1, r98_2, r98_5, r98_6, r98_9, r98_12, r98_15, r98_16, r98_19, r98_20, r98_23, r98_26, r98_27, r98_28, r98_29, r98_32, r98_33, r98_34, r98_35, r98_36, m86, m87, l1, l2, m83, mIn_1 c1 c2, c1, c2, q10, zT, c0T, mb, cb, hv, htn, wr_up, not_false_eq_true, and_true, true_or, or_true, cbI_some, cbV_some, reduceIte]
      · have zF : ¬ nI q = 0 := fun z => c0 (hz.mp z)
        simp only [c98, r98_0, r98_1, r98_2, r98_5, r98_6, r98_9, r98_12, r98_15, r98_16, r98_19, r98_20, r98_23, r98_26, r98_27, r98_28, r98_29, r98_32, r98_33, r98_34, r98_35, r98_36, m86, m87, l1, l2, m83, mIn_1 c1 c2, c1, c2, q10, zF, c0, hv, htn, wr_up, false_and, true_or, or_true, cbI_some, cbV_some, reduceIte]
/-- a setting told by a statement, both sides -/
theorem set_both {m L : Nat} (h : Lv S N) (hR : R0 S N L m) {q : Nat} (hq : q < 7) (v : Int32) (hb : q = 0 → mBz N 0 m = 0) : ((∀ M : Mm, call 80 [aR 0 7 0, aI (nI q), aI v] (va_up M 2 S) = some (some 0, va_up M 2 S)) ∧ ∀ X : Mm, call 98 [aR 4 12 0, aI (nI q), aI v] (va_up X 4 N) = some (some 0, va_up X 4 N)) ∨ ∃ S' N' : Nm, (∀ M : Mm, call 80 [aR 0 7 0, aI (nI q), aI v] (va_up M 2 S) = some (some 1, va_up M 2 S')) ∧ (∀ X : Mm, call 98 [aR 4 12 0, aI (nI q), aI v] (va_up X 4 N) = some (some 1, va_up X 4 N')) ∧ Lv S' N' ∧ FrQ N N' ∧ N' 12 = N 12 := by
  have hm3 := hR.1.2.2.1
  have hmN : N 14 0 0 = nI m := hR.1.2.2.2.2.2.2.1
  by_cases c1 : v < stV 33 q
  · refine Or.inl ⟨fun M => by rw [k80 M S hq, if_pos c1], fun X => by rw [m98 X N hq hmN hm3, if_pos c1]⟩
  · by_cases c2 : stV 34 q < v
    · refine Or.inl ⟨fun M => by rw [k80 M S hq, if_neg c1, if_pos c2], fun X => by rw [m98 X N hq hmN hm3, if_neg c1, if_pos c2]⟩
    · obtain ⟨-, hhod, hlat, hw0, hdr, hwN, hdN⟩ := h
      obtain ⟨lo, hi, l1, l2, l3, l4, l5, l6, l7⟩ := lim_n q hq
      obtain ⟨a, ha1, ha2, rfl⟩ := of_mid (x := v) (lo := lo) (hi := hi) (by omega) (by omega) (by rw [← l3]; exact c1) (by rw [← l4]; exact c2)
      refine Or.inr ⟨wrN S 0 0 (q + 3) (nI a), wrN N 14 0 q (nI a), fun M => by rw [k80 M S hq, if_neg c1, if_neg c2], fun X => by rw [m98 X N hq hmN hm3, if_neg c1, if_neg c2, if_neg (fun z => z.2 (hb z.1))], ⟨⟨L, _, hR.sg hq (fun e => ⟨by have := l5 e; omega, by have := l5 e; omega, fun j hj1 hj2 => ?_⟩) (fun e => ⟨by have := l6 e; omega, by have := l6 e; omega⟩)⟩, ?_, ?_, ?_, ?_, by rw [wn_k _ _ _ _ (by decide)]; exact hwN, by rw [wn_k _ _ _ _ (by decide)]; exact hdN⟩, FrQ.wr _ _ (by decide), wn_k _ _ _ _ (by decide)⟩
      · by_cases hjm : j < m
        · exact bz_0 m 0 (hb e) j (by omega) (by omega)
        · exact hR.2.2.2 j (by omega) hj2
      · obtain ⟨aa, b1, b2, b3⟩ := hhod
        by_cases e : q = 1
        · subst e
          exact ⟨a, by have := l7 rfl; omega, by have := l7 rfl; omega, wn_eq _ _ _ _ _⟩
        · exact ⟨aa, b1, b2, by rw [wn_j _ _ _ _ (fun z => e z.symm)]; exact b3⟩
      · rw [wn_j _ _ _ _ (by omega), wn_k _ _ _ _ (by decide)]; exact hlat
      · rw [wn_j _ _ _ _ (by omega)]; exact hw0
      · rw [wn_j _ _ _ _ (by omega)]; exact hdr
end Sets
/-! one layer more -/
def cBe (S : Nm) (i : Nat) (kd pc bd sk : Int32) : Nm := wrN (wrN (wrN (wrN (wrN (wrN S 2 i 0 kd) 2 i 1 pc) 2 i 2 (cUs kd pc)) 2 i 3 (mUn kd)) 2 i 4 bd) 2 i 5 sk
def mBe (N : Nm) (i : Nat) (kd pc bd sk : Int32) : Nm := wrN (wrN (wrN (wrN N 15 0 i kd) 16 0 i pc) 17 0 i bd) 18 0 i sk
theorem k1 (M : Mm) (S : Nm) (g i : Nat) (kd pc bd sk : Int32) : call 1 [aR g 2 i, aI kd, aI pc, aI bd, aI sk] (va_up M g S) = some (none, va_up M g (cBe S i kd pc bd sk)) := by
  simp only [c1, r1_0, r1_1, r1_2, r1_5, r1_6, r1_7, r1_10, r1_11, r1_12, r1_13, r1_16, r1_19, r1_20, r1_21, r1_24, r1_27, r1_28, r1_29, r1_32, r1_33, r1_35, r1_38, k2, K78, wr_up, cbI_some]
  rfl
theorem R0.ad {S N : Nm} {L m : Nat} (h : R0 S N L m) (hL : L < 4) (hlat : S 0 0 12 = N 12 0 12) (kd pc bd sk : Int32) (hpc : pc = 1 ∨ pc = 2 ∨ pc = 3 ∨ pc = 4) : R0 (wrN (cBe S L kd pc bd sk) 0 0 1 (nI (L + 1))) (wrN (mBe N L kd pc bd sk) 12 0 10 (nI (L + 1))) (L + 1) m := by
  obtain ⟨hC, hK, hM⟩ := h
  obtain ⟨c1, c2, c3, c4, c5, c6, c7, c8, c9, c10, c11, c12, c13, c14, c15, c16, c17, c18⟩ := hC
  refine ⟨?_, fun i hi => ?_, fun j hj => ?_, fun j h1 h2 => ?_⟩
  · simp only [RCf, cBe, mBe, wn_if, wn_k, ne_eq, Nat.reduceEqDiff, not_false_eq_true, reduceIte]
    refine ⟨by omega, c2, c3, trivial, trivial, c6, c7, c8, c9, c10, c11, c12, c13, c14, c15, ?_, c17, c18⟩
    rcases c16 with ⟨a1, -⟩ | ⟨q, q1, q2, q3⟩
    · exact Or.inl ⟨a1, Or.inl (hlat.trans a1)⟩
    · exact Or.inr ⟨q, by omega, q2, q3⟩
  · by_cases e : i = L
    · subst e
      simp only [RLc, cBe, mBe, wn_if, wn_k, ne_eq, Nat.reduceEqDiff, not_false_eq_true, reduceIte]
      exact ⟨trivial, trivial, trivial, trivial, trivial, trivial, hpc⟩
    · have hx := hK i (by omega)
      simpa only [RLc, cBe, mBe, wn_if, wn_i, wn_k, e, ne_eq, Nat.reduceEqDiff, not_false_eq_true, reduceIte] using hx
  · obtain ⟨d0, hx⟩ := hM.1 j hj
    simp only [RMt, cBe, mBe, wn_k, ne_eq, Nat.reduceEqDiff, not_false_eq_true] at hx ⊢
    refine ⟨d0, ?_⟩
    rcases hx with a | a | ⟨a1, a2, a3, a4, a5, ⟨k, a6, a7⟩, a8⟩
    · exact Or.inl a
    · exact Or.inr (Or.inl a)
    · exact Or.inr (Or.inr ⟨a1, a2, a3, a4, a5, ⟨k, by omega, a7⟩, a8⟩)
  · simpa only [mBe, wn_k, ne_eq, Nat.reduceEqDiff, not_false_eq_true] using hM.2 j h1 h2
theorem pc_of {pc : Int32} (h1 : ¬ pc < 1) (h2 : ¬ 4 < pc) : pc = 1 ∨ pc = 2 ∨ pc = 3 ∨ pc = 4 := by
  obtain ⟨a, a1, a2, rfl⟩ := of_mid (x := pc) (lo := 1) (hi := 4) (by decide) (by decide) h1 h2
  rcases (show a = 1 ∨ a = 2 ∨ a = 3 ∨ a = 4 by omega) with rfl | rfl | rfl | rfl
  · exact Or.inl (by decide +kernel)
  · exact Or.inr (Or.inl (by decide +kernel))
  · exact Or.inr (Or.inr (Or.inl (by decide +kernel)))
  · exact Or.inr (Or.inr (Or.inr (by decide +kernel)))
theorem lay_add {S N : Nm} {L m : Nat} (h : Lv S N) (hR : R0 S N L m) {k : Nat} (hk : k < 40) (kd pc bd sk : Int32) (v0 : N 26 0 (4 * k) = kd) (v1 : N 26 0 (4 * k + 1) = pc) (v2 : N 26 0 (4 * k + 2) = bd) (v3 : N 26 0 (4 * k + 3) = sk) (hbd : ¬ bd < 0) (hsk : ¬ sk < 0) : ((∀ M : Mm, call 18 [aR 2 0 0, aI kd, aI pc, aI bd, aI sk] (va_up M 2 S) = some (some 0, va_up M 2 S)) ∧ ∀ X : Mm, call 96 [aR 4 12 0, aI (nI (4 * k))] (va_up X 4 N) = some (some 0, va_up X 4 N)) ∨ ∃ S' N' : Nm, (∀ M : Mm, call 18 [aR 2 0 0, aI kd, aI pc, aI bd, aI sk] (va_up M 2 S) = some (some 1, va_up M 2 S')) ∧ (∀ X : Mm, call 96 [aR 4 12 0, aI (nI (4 * k))] (va_up X 4 N) = some (some 1, va_up X 4 N')) ∧ Lv S' N' ∧ FrQ N N' := by
  obtain ⟨-, hhod, hlat, hw0, hdr, hwN, hdN⟩ := h
  have hL4 := hR.1.1
  have c4 : S 0 0 1 = nI L := hR.1.2.2.2.1
  have c5 : N 12 0 10 = nI L := hR.1.2.2.2.2.1
  have i0 : vpB (nI (4 * k)) 192 = true := vp_t (by omega) (by decide)
  have i1 : vpB (nI (4 * k + 1)) 192 = true := vp_t (by omega) (by decide)
  have i2 : vpB (nI (4 * k + 2)) 192 = true := vp_t (by omega) (by decide)
  have i3 : vpB (nI (4 * k + 3)) 192 = true := vp_t (by omega) (by decide)
  have t0 : (nI (4 * k)).toNatClampNeg = 4 * k := tn (n := 192) (by omega) (by decide)
  have t1 : (nI (4 * k + 1)).toNatClampNeg = 4 * k + 1 := tn (n := 192) (by omega) (by decide)
  have t2 : (nI (4 * k + 2)).toNatClampNeg = 4 * k + 2 := tn (n := 192) (by omega) (by decide)
  have t3 : (nI (4 * k + 3)).toNatClampNeg = 4 * k + 3 := tn (n := 192) (by omega) (by decide)
  have e4' : nI 4 = 4 := by decide +kernel
  by_cases a0 : L = 4
  · subst a0
    have l1 : (nI 4 < 4) = False := by decide +kernel
    have l2 := eq_true e4'
    by_cases p1 : pc < 1
    · have pT := eq_true p1
      refine Or.inl ⟨fun M => ?_, fun X => ?_⟩
      · simp only [c18, r18_0, r18_1, r18_4, r18_5, r18_8, r18_9, r18_10, r18_11, r18_14, r18_17, r18_18, r18_19, r18_21, r18_24, r18_27, r18_29, r18_30, r18_33, r18_36, r18_39, r18_40, r18_41, r18_42, r18_45, r18_46, r18_49, r18_50, r18_51, r18_52, r18_53, r18_55, r18_58, r18_59, r18_60, r18_63, r18_64, r18_65, r18_68, r18_69, up_same, c4, l1, K67, true_or, or_true, cbI_some, reduceIte]
      · simp only [c96, r96_0, r96_1, r96_4, r96_5, r96_6, r96_7, r96_8, r96_9, r96_10, r96_13, r96_16, r96_17, r96_20, r96_21, r96_22, r96_23, r96_24, r96_26, r96_29, r96_30, r96_33, r96_34, r96_35, r96_36, r96_37, r96_40, r96_43, r96_44, r96_47, r96_48, r96_51, r96_52, r96_53, r96_54, r96_57, r96_58, r96_61, r96_62, r96_65, r96_66, r96_67, r96_68, r96_69, r96_72, r96_73, r96_76, r96_77, r96_80, r96_81, r96_82, r96_83, r96_84, r96_85, r96_86, r96_89, r96_90, r96_93, r96_94, r96_97, r96_98, r96_99, r96_100, r96_101, r96_102, r96_103, r96_106, r96_107, r96_110, r96_111, r96_114, r96_115, r96_116, r96_117, r96_118, r96_119, r96_120, r96_121, r96_124, r96_125, r96_126, r96_129, r96_130, up_same, nI_1, i1, t1, v1, m83, mIn_a _ p1, true_or, or_true, cbI_some, reduceIte]
    by_cases p2 : 4 < pc
    · refine Or.inl ⟨fun M => ?_, fun X => ?_⟩
      · simp only [c18, r18_0, r18_1, r18_4, r18_5, r18_8, r18_9, r18_10, r18_11, r18_14, r18_17, r18_18, r18_19, r18_21, r18_24, r18_27, r18_29, r18_30, r18_33, r18_36, r18_39, r18_40, r18_41, r18_42, r18_45, r18_46, r18_49, r18_50, r18_51, r18_52, r18_53, r18_55, r18_58, r18_59, r18_60, r18_63, r18_64, r18_65, r18_68, r18_69, up_same, c4, l1, K67, true_or, or_true, cbI_some, reduceIte]
      · simp only [c96, r96_0, r96_1, r96_4, r96_5, r96_6, r96_7, r96_8, r96_9, r96_10, r96_13, r96_16, r96_17, r96_20, r96_21, r96_22, r96_23, r96_24, r96_26, r96_29, r96_30, r96_33, r96_34, r96_35, r96_36, r96_37, r96_40, r96_43, r96_44, r96_47, r96_48, r96_51, r96_52, r96_53, r96_54, r96_57, r96_58, r96_61, r96_62, r96_65, r96_66, r96_67, r96_68, r96_69, r96_72, r96_73, r96_76, r96_77, r96_80, r96_81, r96_82, r96_83, r96_84, r96_85, r96_86, r96_89, r96_90, r96_93, r96_94, r96_97, r96_98, r96_99, r96_100, r96_101, r96_102, r96_103, r96_106, r96_107, r96_110, r96_111, r96_114, r96_115, r96_116, r96_117, r96_118, r96_119, r96_120, r96_121, r96_124, r96_125, r96_126, r96_129, r96_130, up_same, nI_1, i1, t1, v1, m83, mIn_b p1 p2, true_or, or_true, cbI_some, reduceIte]
    by_cases p3 : 60 < bd
    · have pT := eq_true p3
      refine Or.inl ⟨fun M => ?_, fun X => ?_⟩
      · simp only [c18, r18_0, r18_1, r18_4, r18_5, r18_8, r18_9, r18_10, r18_11, r18_14, r18_17, r18_18, r18_19, r18_21, r18_24, r18_27, r18_29, r18_30, r18_33, r18_36, r18_39, r18_40, r18_41, r18_42, r18_45, r18_46, r18_49, r18_50, r18_51, r18_52, r18_53, r18_55, r18_58, r18_59, r18_60, r18_63, r18_64, r18_65, r18_68, r18_69, up_same, c4, l1, K67, true_or, or_true, cbI_some, reduceIte]
      · simp only [c96, r96_0, r96_1, r96_4, r96_5, r96_6, r96_7, r96_8, r96_9, r96_10, r96_13, r96_16, r96_17, r96_20, r96_21, r96_22, r96_23, r96_24, r96_26, r96_29, r96_30, r96_33, r96_34, r96_35, r96_36, r96_37, r96_40, r96_43, r96_44, r96_47, r96_48, r96_51, r96_52, r96_53, r96_54, r96_57, r96_58, r96_61, r96_62, r96_65, r96_66, r96_67, r96_68, r96_69, r96_72, r96_73, r96_76, r96_77, r96_80, r96_81, r96_82, r96_83, r96_84, r96_85, r96_86, r96_89, r96_90, r96_93, r96_94, r96_97, r96_98, r96_99, r96_100, r96_101, r96_102, r96_103, r96_106, r96_107, r96_110, r96_111, r96_114, r96_115, r96_116, r96_117, r96_118, r96_119, r96_120, r96_121, r96_124, r96_125, r96_126, r96_129, r96_130, up_same, nI_1, nI_2, i1, t1, i2, t2, v1, v2, m83, mIn_1 p1 p2, q10, pT, true_or, or_true, cbI_some, reduceIte]
    by_cases p4 : 240 < sk
    · have pT := eq_true p4
      refine Or.inl ⟨fun M => ?_, fun X => ?_⟩
      · simp only [c18, r18_0, r18_1, r18_4, r18_5, r18_8, r18_9, r18_10, r18_11, r18_14, r18_17, r18_18, r18_19, r18_21, r18_24, r18_27, r18_29, r18_30, r18_33, r18_36, r18_39, r18_40, r18_41, r18_42, r18_45, r18_46, r18_49, r18_50, r18_51, r18_52, r18_53, r18_55, r18_58, r18_59, r18_60, r18_63, r18_64, r18_65, r18_68, r18_69, up_same, c4, l1, K67, true_or, or_true, cbI_some, reduceIte]
      · simp only [c96, r96_0, r96_1, r96_4, r96_5, r96_6, r96_7, r96_8, r96_9, r96_10, r96_13, r96_16, r96_17, r96_20, r96_21, r96_22, r96_23, r96_24, r96_26, r96_29, r96_30, r96_33, r96_34, r96_35, r96_36, r96_37, r96_40, r96_43, r96_44, r96_47, r96_48, r96_51, r96_52, r96_53, r96_54, r96_57, r96_58, r96_61, r96_62, r96_65, r96_66, r96_67, r96_68, r96_69, r96_72, r96_73, r96_76, r96_77, r96_80, r96_81, r96_82, r96_83, r96_84, r96_85, r96_86, r96_89, r96_90, r96_93, r96_94, r96_97, r96_98, r96_99, r96_100, r96_101, r96_102, r96_103, r96_106, r96_107, r96_110, r96_111, r96_114, r96_115, r96_116, r96_117, r96_118, r96_119, r96_120, r96_121, r96_124, r96_125, r96_126, r96_129, r96_130, up_same, nI_1, nI_2, nI_3, i1, t1, i2, t2, i3, t3, v1, v2, v3, m83, mIn_1 p1 p2, q10, p3, pT, true_or, or_true, cbI_some, reduceIte]
    refine Or.inl ⟨fun M => ?_, fun X => ?_⟩
    · simp only [c18, r18_0, r18_1, r18_4, r18_5, r18_8, r18_9, r18_10, r18_11, r18_14, r18_17, r18_18, r18_19, r18_21, r18_24, r18_27, r18_29, r18_30, r18_33, r18_36, r18_39, r18_40, r18_41, r18_42, r18_45, r18_46, r18_49, r18_50, r18_51, r18_52, r18_53, r18_55, r18_58, r18_59, r18_60, r18_63, r18_64, r18_65, r18_68, r18_69, up_same, c4, l1, K67, true_or, or_true, cbI_some, reduceIte]
    · simp only [c96, r96_0, r96_1, r96_4, r96_5, r96_6, r96_7, r96_8, r96_9, r96_10, r96_13, r96_16, r96_17, r96_20, r96_21, r96_22, r96_23, r96_24, r96_26, r96_29, r96_30, r96_33, r96_34, r96_35, r96_36, r96_37, r96_40, r96_43, r96_44, r96_47, r96_48, r96_51, r96_52, r96_53, r96_54, r96_57, r96_58, r96_61, r96_62, r96_65, r96_66, r96_67, r96_68, r96_69, r96_72, r96_73, r96_76, r96_77, r96_80, r96_81, r96_82, r96_83, r96_84, r96_85, r96_86, r96_89, r96_90, r96_93, r96_94, r96_97, r96_98, r96_99, r96_100, r96_101, r96_102, r96_103, r96_106, r96_107, r96_110, r96_111, r96_114, r96_115, r96_116, r96_117, r96_118, r96_119, r96_120, r96_121, r96_124, r96_125, r96_126, r96_129, r96_130, up_same, nI_1, nI_2, nI_3, i1, t1, i2, t2, i3, t3, v1, v2, v3, m83, mIn_1 p1 p2, q10, p3, p4, c5, l2, true_or, or_true, cbI_some, reduceIte]
  · have l1 : (nI L < 4) = True := by rw [← e4', nIlt (by omega) (by omega)]; exact eq_true (by omega)
    have l2 : (nI L = 4) = False := by rw [← e4', nIneq (by omega) (by omega)]; exact eq_false a0
    by_cases p1 : pc < 1
    · refine Or.inl ⟨fun M => ?_, fun X => ?_⟩
      · simp only [c18, r18_0, r18_1, r18_4, r18_5, r18_8, r18_9, r18_10, r18_11, r18_14, r18_17, r18_18, r18_19, r18_21, r18_24, r18_27, r18_29, r18_30, r18_33, r18_36, r18_39, r18_40, r18_41, r18_42, r18_45, r18_46, r18_49, r18_50, r18_51, r18_52, r18_53, r18_55, r18_58, r18_59, r18_60, r18_63, r18_64, r18_65, r18_68, r18_69, up_same, c4, l1, K67, mBo_a _ p1, nz4, true_or, or_true, cbI_some, reduceIte]
      · simp only [c96, r96_0, r96_1, r96_4, r96_5, r96_6, r96_7, r96_8, r96_9, r96_10, r96_13, r96_16, r96_17, r96_20, r96_21, r96_22, r96_23, r96_24, r96_26, r96_29, r96_30, r96_33, r96_34, r96_35, r96_36, r96_37, r96_40, r96_43, r96_44, r96_47, r96_48, r96_51, r96_52, r96_53, r96_54, r96_57, r96_58, r96_61, r96_62, r96_65, r96_66, r96_67, r96_68, r96_69, r96_72, r96_73, r96_76, r96_77, r96_80, r96_81, r96_82, r96_83, r96_84, r96_85, r96_86, r96_89, r96_90, r96_93, r96_94, r96_97, r96_98, r96_99, r96_100, r96_101, r96_102, r96_103, r96_106, r96_107, r96_110, r96_111, r96_114, r96_115, r96_116, r96_117, r96_118, r96_119, r96_120, r96_121, r96_124, r96_125, r96_126, r96_129, r96_130, up_same, nI_1, i1, t1, v1, m83, mIn_a _ p1, true_or, or_true, cbI_some, reduceIte]
    by_cases p2 : 4 < pc
    · refine Or.inl ⟨fun M => ?_, fun X => ?_⟩
      · simp only [c18, r18_0, r18_1, r18_4, r18_5, r18_8, r18_9, r18_10, r18_11, r18_14, r18_17, r18_18, r18_19, r18_21, r18_24, r18_27, r18_29, r18_30, r18_33, r18_36, r18_39, r18_40, r18_41, r18_42, r18_45, r18_46, r18_49, r18_50, r18_51, r18_52, r18_53, r18_55, r18_58, r18_59, r18_60, r18_63, r18_64, r18_65, r18_68, r18_69, up_same, c4, l1, K67, mBo_b p1 p2, nz6, true_or, or_true, cbI_some, reduceIte]
      · simp only [c96, r96_0, r96_1, r96_4, r96_5, r96_6, r96_7, r96_8, r96_9, r96_10, r96_13, r96_16, r96_17, r96_20, r96_21, r96_22, r96_23, r96_24, r96_26, r96_29, r96_30, r96_33, r96_34, r96_35, r96_36, r96_37, r96_40, r96_43, r96_44, r96_47, r96_48, r96_51, r96_52, r96_53, r96_54, r96_57, r96_58, r96_61, r96_62, r96_65, r96_66, r96_67, r96_68, r96_69, r96_72, r96_73, r96_76, r96_77, r96_80, r96_81, r96_82, r96_83, r96_84, r96_85, r96_86, r96_89, r96_90, r96_93, r96_94, r96_97, r96_98, r96_99, r96_100, r96_101, r96_102, r96_103, r96_106, r96_107, r96_110, r96_111, r96_114, r96_115, r96_116, r96_117, r96_118, r96_119, r96_120, r96_121, r96_124, r96_125, r96_126, r96_129, r96_130, up_same, nI_1, i1, t1, v1, m83, mIn_b p1 p2, true_or, or_true, cbI_some, reduceIte]
    by_cases p3 : 60 < bd
    · have pT := eq_true p3
      refine Or.inl ⟨fun M => ?_, fun X => ?_⟩
      · simp only [c18, r18_0, r18_1, r18_4, r18_5, r18_8, r18_9, r18_10, r18_11, r18_14, r18_17, r18_18, r18_19, r18_21, r18_24, r18_27, r18_29, r18_30, r18_33, r18_36, r18_39, r18_40, r18_41, r18_42, r18_45, r18_46, r18_49, r18_50, r18_51, r18_52, r18_53, r18_55, r18_58, r18_59, r18_60, r18_63, r18_64, r18_65, r18_68, r18_69, up_same, c4, l1, K67, mBo_0 p1 p2, mBo_b hbd p3, nz6, true_or, or_true, cbI_some, reduceIte]
      · simp only [c96, r96_0, r96_1, r96_4, r96_5, r96_6, r96_7, r96_8, r96_9, r96_10, r96_13, r96_16, r96_17, r96_20, r96_21, r96_22, r96_23, r96_24, r96_26, r96_29, r96_30, r96_33, r96_34, r96_35, r96_36, r96_37, r96_40, r96_43, r96_44, r96_47, r96_48, r96_51, r96_52, r96_53, r96_54, r96_57, r96_58, r96_61, r96_62, r96_65, r96_66, r96_67, r96_68, r96_69, r96_72, r96_73, r96_76, r96_77, r96_80, r96_81, r96_82, r96_83, r96_84, r96_85, r96_86, r96_89, r96_90, r96_93, r96_94, r96_97, r96_98, r96_99, r96_100, r96_101, r96_102, r96_103, r96_106, r96_107, r96_110, r96_111, r96_114, r96_115, r96_116, r96_117, r96_118, r96_119, r96_120, r96_121, r96_124, r96_125, r96_126, r96_129, r96_130, up_same, nI_1, nI_2, i1, t1, i2, t2, v1, v2, m83, mIn_1 p1 p2, q10, pT, true_or, or_true, cbI_some, reduceIte]
    by_cases p4 : 240 < sk
    · have pT := eq_true p4
      refine Or.inl ⟨fun M => ?_, fun X => ?_⟩
      · simp only [c18, r18_0, r18_1, r18_4, r18_5, r18_8, r18_9, r18_10, r18_11, r18_14, r18_17, r18_18, r18_19, r18_21, r18_24, r18_27, r18_29, r18_30, r18_33, r18_36, r18_39, r18_40, r18_41, r18_42, r18_45, r18_46, r18_49, r18_50, r18_51, r18_52, r18_53, r18_55, r18_58, r18_59, r18_60, r18_63, r18_64, r18_65, r18_68, r18_69, up_same, c4, l1, K67, mBo_0 p1 p2, mBo_0 hbd p3, mBo_b hsk p4, nz6, true_or, or_true, cbI_some, reduceIte]
      · simp only [c96, r96_0, r96_1, r96_4, r96_5, r96_6, r96_7, r96_8, r96_9, r96_10, r96_13, r96_16, r96_17, r96_20, r96_21, r96_22, r96_23, r96_24, r96_26, r96_29, r96_30, r96_33, r96_34, r96_35, r96_36, r96_37, r96_40, r96_43, r96_44, r96_47, r96_48, r96_51, r96_52, r96_53, r96_54, r96_57, r96_58, r96_61, r96_62, r96_65, r96_66, r96_67, r96_68, r96_69, r96_72, r96_73, r96_76, r96_77, r96_80, r96_81, r96_82, r96_83, r96_84, r96_85, r96_86, r96_89, r96_90, r96_93, r96_94, r96_97, r96_98, r96_99, r96_100, r96_101, r96_102, r96_103, r96_106, r96_107, r96_110, r96_111, r96_114, r96_115, r96_116, r96_117, r96_118, r96_119, r96_120, r96_121, r96_124, r96_125, r96_126, r96_129, r96_130, up_same, nI_1, nI_2, nI_3, i1, t1, i2, t2, i3, t3, v1, v2, v3, m83, mIn_1 p1 p2, q10, p3, pT, true_or, or_true, cbI_some, reduceIte]
    have hv : vpB (nI L) 4 = true := vp_t (by omega) (by decide)
    have htn : (nI L).toNatClampNeg = L := tn (n := 4) (by omega) (by decide)
    have s1 : cBe S L kd pc bd sk 0 0 1 = nI L := by simp only [cBe, wn_k, ne_eq, Nat.reduceEqDiff, not_false_eq_true]; exact c4
    refine Or.inr ⟨wrN (cBe S L kd pc bd sk) 0 0 1 (nI (L + 1)), wrN (mBe N L kd pc bd sk) 12 0 10 (nI (L + 1)), fun M => ?_, fun X => ?_, ⟨⟨L + 1, m, hR.ad (by omega) hlat kd pc bd sk (pc_of p1 p2)⟩, ?_, ?_, ?_, ?_, ?_, ?_⟩, ?_⟩
    · simp only [c18, r18_0, r18_1, r18_4, r18_5, r18_8, r18_9, r18_10, r18_11, r18_14, r18_17, r18_18, r18_19, r18_21, r18_24, r18_27, r18_29, r18_30, r18_33, r18_36, r18_39, r18_40, r18_41, r18_42, r18_45, r18_46, r18_49, r18_50, r18_51, r18_52, r18_53, r18_55, r18_58, r18_59, r18_60, r18_63, r18_64, r18_65, r18_68, r18_69, up_same, c4, l1, hv, htn, K67, mBo_0 p1 p2, mBo_0 hbd p3, mBo_0 hsk p4, k1, s1, wr_up, nI_1, true_or, or_true, cbI_some, cbV_some, reduceIte]
    · simp only [c96, r96_0, r96_1, r96_4, r96_5, r96_6, r96_7, r96_8, r96_9, r96_10, r96_13, r96_16, r96_17, r96_20, r96_21, r96_22, r96_23, r96_24, r96_26, r96_29, r96_30, r96_33, r96_34, r96_35, r96_36, r96_37, r96_40, r96_43, r96_44, r96_47, r96_48, r96_51, r96_52, r96_53, r96_54, r96_57, r96_58, r96_61, r96_62, r96_65, r96_66, r96_67, r96_68, r96_69, r96_72, r96_73, r96_76, r96_77, r96_80, r96_81, r96_82, r96_83, r96_84, r96_85, r96_86, r96_89, r96_90, r96_93, r96_94, r96_97, r96_98, r96_99, r96_100, r96_101, r96_102, r96_103, r96_106, r96_107, r96_110, r96_111, r96_114, r96_115, r96_116, r96_117, r96_118, r96_119, r96_120, r96_121, r96_124, r96_125, r96_126, r96_129, r96_130, up_same, nI_1, nI_2, nI_3, i0, t0, i1, t1, i2, t2, i3, t3, v0, v1, v2, v3, m83, mIn_1 p1 p2, q10, p3, p4, c5, l2, hv, htn, wr_up, wn_k, ne_eq, Nat.reduceEqDiff, not_false_eq_true, true_or, or_true, cbI_some, reduceIte, mBe]
    · simpa only [HodB, mBe, wn_k, ne_eq, Nat.reduceEqDiff, not_false_eq_true] using hhod
    · simpa only [cBe, mBe, wn_if, wn_k, ne_eq, Nat.reduceEqDiff, not_false_eq_true, reduceIte] using hlat
    · simpa only [cBe, wn_if, wn_k, ne_eq, Nat.reduceEqDiff, not_false_eq_true, reduceIte] using hw0
    · simpa only [cBe, wn_if, wn_k, ne_eq, Nat.reduceEqDiff, not_false_eq_true, reduceIte] using hdr
    · simpa only [mBe, wn_if, wn_k, ne_eq, Nat.reduceEqDiff, not_false_eq_true, reduceIte] using hwN
    · simpa only [mBe, wn_if, wn_k, ne_eq, Nat.reduceEqDiff, not_false_eq_true, reduceIte] using hdN
    · exact ((((FrQ.wr _ _ (by decide)).tr (FrQ.wr _ _ (by decide))).tr (FrQ.wr _ _ (by decide))).tr (FrQ.wr _ _ (by decide))).tr (FrQ.wr12 _ _ (by decide))
