/-! answers: keeps -/
def bfM : Nat → Nat → Nm → Nm
  | _, 0, D => D
  | i, n + 1, D => bfM (i + 1) n (cBg D i 0 0)
def mfM : Nat → Nat → Nm → Nm
  | _, 0, D => D
  | i, n + 1, D => mfM (i + 1) n (wrN D 19 0 i 0)
theorem v_3' : nI 3 = 3 := by decide +kernel
theorem k15L (M : Mm) (g : Nat) : ∀ (n i : Nat) (D : Nm), i + n = 3 → run 15 2 [aR g 0 0, aI (nI i)] [] (va_up M g D) = some (none, va_up M g (bfM i n D)) := by
  intro n
  induction n with
  | zero =>
    intro i D hi
    have : i = 3 := by omega
    subst this
    have hF : (nI 3 < 3) = False := by decide +kernel
    rw [r15_2]
    simp only [r15_0, r15_1, r15_3, r15_4, r15_7, r15_8, r15_11, r15_12, r15_13, r15_14, r15_15, r15_18, r15_21, r15_24, hF, reduceIte, bfM]
  | succ n ih =>
    intro i D hi
    have hT : (nI i < 3) = True := by rw [← v_3']; exact eq_true (nI_lt (by omega) (by omega))
    have hv : vpB (nI i) 3 = true := vp_t (by omega) (by decide)
    have htn : (nI i).toNatClampNeg = i := tn (n := 3) (by omega) (by decide)
    rw [r15_2]
    simp only [r15_0, r15_1, r15_3, r15_4, r15_7, r15_8, r15_11, r15_12, r15_13, r15_14, r15_15, r15_18, r15_21, r15_24, hT, hv, htn, k9, cbV_some, nI_1, ih (i + 1) _ (by omega), reduceIte, bfM]
theorem k15 (M : Mm) (g : Nat) (D : Nm) : call 15 [aR g 0 0] (va_up M g D) = some (none, va_up M g (bfM 0 3 D)) := by
  have h := k15L M g 3 0 D (by omega)
  rw [nI_0] at h
  simp only [c15, r15_0, r15_1, h]
theorem bf_facts (D : Nm) : (∀ k, k ≠ 4 → bfM 0 3 D k = D k) ∧ ∀ j, j < 3 → bfM 0 3 D 4 j 0 = 0 ∧ bfM 0 3 D 4 j 1 = 0 ∧ bfM 0 3 D 4 j 2 = -9 ∧ bfM 0 3 D 4 j 3 = 0 := by
  constructor
  · intro k hk
    simp only [bfM, cBg, wn_k, hk, ne_eq, not_false_eq_true]
  · intro j hj
    rcases (show j = 0 ∨ j = 1 ∨ j = 2 by omega) with rfl | rfl | rfl
    all_goals simp only [bfM, cBg, wn_ap, Nat.reduceAdd, Nat.reduceEqDiff, true_and, and_true, and_false, false_and, and_self, if_true, if_false]
theorem mf_facts (D : Nm) : (∀ k, k ≠ 19 → mfM 0 3 D k = D k) ∧ ∀ j, j < 3 → mfM 0 3 D 19 0 j = 0 := by
  constructor
  · intro k hk
    simp only [mfM, wn_k, hk, ne_eq, not_false_eq_true]
  · intro j hj
    rcases (show j = 0 ∨ j = 1 ∨ j = 2 by omega) with rfl | rfl | rfl
    all_goals simp only [mfM, wn_ap, Nat.reduceAdd, Nat.reduceEqDiff, true_and, and_true, and_false, false_and, and_self, if_true, if_false]
theorem m148L (M : Mm) (l1 l2 : AV) : ∀ (n i : Nat) (D : Nm), i + n = 3 → run 148 34 [aR 4 12 0, l1, l2, aI (nI i)] [] (va_up M 4 D) = run 148 52 [aR 4 12 0, l1, l2, aI (nI 3)] [] (va_up M 4 (mfM i n D)) := by
  intro n
  induction n with
  | zero =>
    intro i D hi
    have : i = 3 := by omega
    subst this
    have hF : (nI 3 < 3) = False := by decide +kernel
    rw [r148_34]
    simp only [r148_35, r148_36, hF, reduceIte, mfM]
  | succ n ih =>
    intro i D hi
    have hT : (nI i < 3) = True := by rw [← v_3']; exact eq_true (nI_lt (by omega) (by omega))
    have hv : vpB (nI i) 3 = true := vp_t (by omega) (by decide)
    have htn : (nI i).toNatClampNeg = i := tn (n := 3) (by omega) (by decide)
    rw [r148_34]
    simp only [r148_35, r148_36, r148_39, r148_40, r148_43, r148_44, r148_45, r148_46, r148_49, hT, hv, htn, wr_up, nI_1, ih (i + 1) _ (by omega), reduceIte, mfM]
/-- fewer layers, all mates free -/
theorem R0.few {S N : Nm} {L m k : Nat} (h : R0 S N L m) (hk : k ≤ L) : R0 (bfM 0 3 (wrN S 0 0 1 (nI k))) (mfM 0 3 (wrN (wrN N 12 0 10 (nI k)) 12 0 12 (if N 12 0 12 < nI k then N 12 0 12 else -9))) k m := by
  obtain ⟨hC, hK, hM⟩ := h
  obtain ⟨c1, c2, c3, c4, c5, c6, c7, c8, c9, c10, c11, c12, c13, c14, c15, c16, c17, c18⟩ := hC
  obtain ⟨b1, b2⟩ := bf_facts (wrN S 0 0 1 (nI k))
  obtain ⟨m1, m2⟩ := mf_facts (wrN (wrN N 12 0 10 (nI k)) 12 0 12 (if N 12 0 12 < nI k then N 12 0 12 else -9))
  refine ⟨?_, fun i hi => ?_, fun j hj => ?_, fun j _ hj => m2 j hj⟩
  · simp only [RCf, b1, m1, wn_if, wn_k, ne_eq, Nat.reduceEqDiff, not_false_eq_true, reduceIte]
    refine ⟨by omega, c2, c3, trivial, trivial, c6, c7, c8, c9, c10, c11, c12, c13, c14, c15, ?_, c17, c18⟩
    rcases c16 with ⟨a1, a2⟩ | ⟨q, q1, q2, q3⟩
    · have e : N 12 0 12 < nI k := by rw [a1]; exact Int32.lt_of_lt_of_le m9lt (nI_pos' (by omega))
      rw [if_pos e]
      rcases a2 with a2 | ⟨q, q1, q2, q3⟩
      · exact Or.inl ⟨a1, Or.inl a2⟩
      · exact Or.inl ⟨a1, Or.inr ⟨q, by omega, q2, q3⟩⟩
    · by_cases hq : q < k
      · have e : N 12 0 12 < nI k := by rw [q2]; exact nI_lt hq (by omega)
        rw [if_pos e]
        exact Or.inr ⟨q, hq, q2, q3⟩
      · have e : ¬ N 12 0 12 < nI k := by rw [q2]; exact nI_nlt (by omega) (by omega)
        rw [if_neg e]
        exact Or.inl ⟨rfl, Or.inr ⟨q, by omega, by omega, q3⟩⟩
  · have hx := hK i (by omega)
    simpa only [b1, m1, wn_k, ne_eq, Nat.reduceEqDiff, not_false_eq_true] using hx
  · obtain ⟨d0, d1, d2, d3⟩ := b2 j hj
    unfold RMt
    rw [d0, d1, d2, d3, m2 j hj]
    exact ⟨rfl, Or.inl ⟨rfl, rfl, rfl, rfl⟩⟩
theorem FrQ.few (N : Nm) (a b : Int32) : FrQ N (mfM 0 3 (wrN (wrN N 12 0 10 a) 12 0 12 b)) := by
  obtain ⟨m1, m2⟩ := mf_facts (wrN (wrN N 12 0 10 a) 12 0 12 b)
  refine ((FrQ.wr12 N a (by decide)).tr (FrQ.wr12 _ b (by decide))).tr ⟨fun k hk => m1 k (by omega), fun j hj => by rw [m1 12 (by decide)]⟩
/-- how many minutes stand the first k layers: a number that hangs on the still site alone -/
theorem stands {S1 N : Nm} {L m n k : Nat} (h : R0 S1 N L m) (hwN : N 12 0 37 = 0) (hdN : N 12 0 38 = 100000) (hn : n ≤ 240) (hk : k ≤ L) : ∃ v : Int32, (∀ M : Mm, M 1 = S1 → ∃ Z : Nm, Z 5 0 2 = v ∧ call 20 [aR 2 0 0, aI (nI n)] (va_up M 2 (bfM 0 3 (wrN (cpS (M 2) S1) 0 0 1 (nI k)))) = some (none, va_up M 2 Z)) ∧ ∀ Nr : Nm, KpN N Nr → ∃ Nf : Nm, KpN N Nf ∧ ∀ X : Mm, call 148 [aR 4 12 0, aI (nI k), aI (nI n)] (va_up X 4 Nr) = some (some v, va_up X 4 Nf) := by
  have key : ∀ (D Nr : Nm), KpN N Nr → ∃ Z N' : Nm, Z 5 0 2 = mSum N' ∧ KpN Nr (rsP N' 1 39) ∧ (∀ M : Mm, call 20 [aR 2 0 0, aI (nI n)] (va_up M 2 (bfM 0 3 (wrN (cpS D S1) 0 0 1 (nI k)))) = some (none, va_up M 2 Z)) ∧ ∀ X : Mm, call 148 [aR 4 12 0, aI (nI k), aI (nI n)] (va_up X 4 Nr) = some (some (mSum N'), va_up X 4 (rsP N' 1 39)) := by
    intro D Nr hkp
    have hR := (((h.cf hkp.1).cf (sv_cf Nr 1)).cp D).few hk
    have g12 : svP Nr 1 39 12 0 12 = Nr 12 0 12 := svP_12 _ _ _ (by decide) (by decide)
    have b1 := (bf_facts (wrN (cpS D S1) 0 0 1 (nI k))).1 0 (by decide)
    have m1 := (mf_facts (wrN (wrN (svP Nr 1 39) 12 0 10 (nI k)) 12 0 12 (if svP Nr 1 39 12 0 12 < nI k then svP Nr 1 39 12 0 12 else -9))).1 12 (by decide)
    obtain ⟨Z, N', ho, -, hkp2, hs, hm, hre, -⟩ := passR (n := n) (N := Nr) hR (FrQ.few _ _ _) (by rw [b1, m1, wn_j _ _ _ _ (by decide), wn_j _ _ _ _ (by decide), wn_j _ _ _ _ (by decide), (sv_37 _).1, hkp.w12.1, hwN]; exact (cp_13 _ _).1) (fun q hq => by rw [b1, m1, wn_j _ _ _ _ (by decide), wn_j _ _ _ _ (by decide), wn_j _ _ _ _ (by decide), (sv_37 _).2, hkp.w12.2]; exact dryX hdN _ _ hn q hq) hn
    refine ⟨Z, N', ho.2.1, hkp2, fun M => hs M 2, fun X => ?_⟩
    have hl := fun D => m148L X (aI (nI k)) (aI (nI n)) 3 0 D (by omega)
    simp only [nI_0] at hl
    have hs125 : mSum (rsP N' 1 39) = mSum N' := by unfold mSum; rw [rs_k _ _ (by decide) (by decide)]
    by_cases c : Nr 12 0 12 < nI k
    · have cT := eq_true c
      rw [g12, if_pos c] at hm
      simp only [c148, r148_0, r148_1, r148_2, r148_3, r148_6, r148_7, r148_8, r148_11, r148_12, r148_13, r148_16, r148_17, r148_20, r148_21, r148_24, r148_27, r148_29, r148_32, r148_33, m103S, wr_up, up_same, wn_j _ _ _ _ (show (12 : Nat) ≠ 10 by decide), g12, cT, hl, r148_52, r148_53, r148_54, r148_57, r148_58, r148_59, r148_60, r148_63, r148_64, r148_67, hm, hre, m125, hs125, cbI_some, cbV_some, reduceIte]
    · rw [g12, if_neg c] at hm
      simp only [c148, r148_0, r148_1, r148_2, r148_3, r148_6, r148_7, r148_8, r148_11, r148_12, r148_13, r148_16, r148_17, r148_20, r148_21, r148_24, r148_27, r148_29, r148_32, r148_33, m103S, wr_up, up_same, wn_j _ _ _ _ (show (12 : Nat) ≠ 10 by decide), g12, c, hl, r148_52, r148_53, r148_54, r148_57, r148_58, r148_59, r148_60, r148_63, r148_64, r148_67, hm, hre, m125, hs125, cbI_some, cbV_some, reduceIte]
  obtain ⟨Z0, N0, a1, a2, a3, a4⟩ := key S1 N (KpN.rf N)
  refine ⟨mSum N0, fun M hM => ?_, fun Nr hkp => ?_⟩
  · obtain ⟨Z, N', b1, b2, b3, b4⟩ := key (M 2) N (KpN.rf N)
    have e := (det4 (a4 M) (b4 M)).1
    exact ⟨Z, b1.trans (Option.some.inj e).symm, b3 M⟩
  · obtain ⟨Z, N', b1, b2, b3, b4⟩ := key S1 Nr hkp
    have e := detG (a3 (fun _ => S1)) (b3 (fun _ => S1))
    subst e
    exact ⟨_, hkp.tr b2, fun X => by rw [b4 X, ← b1, a1]⟩
def dnV (V : Nat → Int32) : Nat → Int32
  | 0 => 0
  | k + 1 => if V (k + 1) = 0 then nI (k + 1) else dnV V k
def upV (V : Nat → Int32) : Nat → Nat → Int32 → Int32
  | _, 0, most => most
  | k, j + 1, most => upV V (k + 1) j (if V k = 0 then nI k else most)
theorem up_last (V : Nat → Int32) : ∀ (j k : Nat) (most : Int32), upV V k (j + 1) most = if V (k + j) = 0 then nI (k + j) else upV V k j most := by
  intro j
  induction j with
  | zero => intro k most; rfl
  | succ j ih =>
    intro k most
    rw [upV, ih (k + 1)]
    rw [show k + 1 + j = k + (j + 1) by omega]
    rfl
theorem up_dn (V : Nat → Int32) : ∀ L, upV V 1 L 0 = dnV V L := by
  intro L
  induction L with
  | zero => rfl
  | succ L ih => rw [up_last, ih, dnV, show 1 + L = L + 1 by omega]
theorem keeps_c {S1 : Nm} {n L m : Nat} {N : Nm} (V : Nat → Int32) (h : R0 S1 N L m) (hV : ∀ k, k ≤ L → ∀ M : Mm, M 1 = S1 → ∃ Z : Nm, Z 5 0 2 = V k ∧ call 20 [aR 2 0 0, aI (nI n)] (va_up M 2 (bfM 0 3 (wrN (cpS (M 2) S1) 0 0 1 (nI k)))) = some (none, va_up M 2 Z)) : ∀ (k : Nat) (M : Mm) (l2 : AV), k ≤ L → M 1 = S1 → ∃ Z : Nm, run 54 27 [aR 0 7 0, aI (nI n), l2, aI (nI k)] [] M = some (some (dnV V k), va_up M 2 Z) := by
  have hL4 := h.1.1
  intro k
  induction k with
  | zero =>
    intro M l2 hk hM
    have t : (0 < nI 0) = False := by decide +kernel
    refine ⟨M 2, ?_⟩
    rw [up_id, r54_27]
    simp only [r54_0, r54_1, r54_2, r54_5, r54_8, r54_9, r54_10, r54_13, r54_14, r54_15, r54_18, r54_19, r54_20, r54_23, r54_26, r54_28, r54_31, r54_32, r54_35, r54_36, r54_39, r54_42, r54_43, r54_46, r54_47, r54_50, r54_51, r54_54, r54_57, r54_58, r54_61, r54_62, r54_65, r54_66, r54_69, r54_72, r54_75, r54_78, r54_79, r54_80, r54_83, r54_86, r54_87, t, reduceIte, dnV]
  | succ k ih =>
    intro M l2 hk hM
    obtain ⟨Z, z1, z2⟩ := hV (k + 1) hk M hM
    have e1 := K11 (g := 2) (by decide) (show R0 (M 1) N L m by rw [hM]; exact h)
    rw [hM] at e1
    have t : (0 < nI (k + 1)) = True := by rw [← nI_0]; exact eq_true (nI_lt (by omega) (by omega))
    by_cases c : V (k + 1) = 0
    · refine ⟨Z, ?_⟩
      rw [r54_27]
      simp only [r54_0, r54_1, r54_2, r54_5, r54_8, r54_9, r54_10, r54_13, r54_14, r54_15, r54_18, r54_19, r54_20, r54_23, r54_26, r54_28, r54_31, r54_32, r54_35, r54_36, r54_39, r54_42, r54_43, r54_46, r54_47, r54_50, r54_51, r54_54, r54_57, r54_58, r54_61, r54_62, r54_65, r54_66, r54_69, r54_72, r54_75, r54_78, r54_79, r54_80, r54_83, r54_86, r54_87, t, e1, wr_up, k15, z2, up_same, z1, c, cbV_some, reduceIte, dnV]
    · obtain ⟨Z2, i1⟩ := ih (va_up M 2 Z) l2 (by omega) (by rw [up_ne _ _ (by decide)]; exact hM)
      rw [up_up] at i1
      have em : nI (k + 1) + (-1) = nI k := by rw [← nI_pred k]; grind
      refine ⟨Z2, ?_⟩
      rw [r54_27]
      simp only [r54_0, r54_1, r54_2, r54_5, r54_8, r54_9, r54_10, r54_13, r54_14, r54_15, r54_18, r54_19, r54_20, r54_23, r54_26, r54_28, r54_31, r54_32, r54_35, r54_36, r54_39, r54_42, r54_43, r54_46, r54_47, r54_50, r54_51, r54_54, r54_57, r54_58, r54_61, r54_62, r54_65, r54_66, r54_69, r54_72, r54_75, r54_78, r54_79, r54_80, r54_83, r54_86, r54_87, t, e1, wr_up, k15, z2, up_same, z1, c, em, i1, cbV_some, reduceIte, dnV]
theorem keeps_m {n L m : Nat} {S1 N : Nm} (V : Nat → Int32) (h : R0 S1 N L m) (hV : ∀ k, k ≤ L → ∀ Nr : Nm, KpN N Nr → ∃ Nf : Nm, KpN N Nf ∧ ∀ X : Mm, call 148 [aR 4 12 0, aI (nI k), aI (nI n)] (va_up X 4 Nr) = some (some (V k), va_up X 4 Nf)) : ∀ (j k : Nat) (Nr : Nm) (most : Int32) (l2 : AV), k + j = L + 1 → KpN N Nr → ∃ Nf : Nm, KpN N Nf ∧ ∀ X : Mm, run 149 24 [aR 4 12 0, aI (nI n), l2, aI most, aI (nI k)] [] (va_up X 4 Nr) = some (some (upV V k j most), va_up X 4 Nf) := by
  have hL4 := h.1.1
  have c5 : N 12 0 10 = nI L := h.1.2.2.2.2.1
  intro j
  induction j with
  | zero =>
    intro k Nr most l2 hk hkp
    have g : Nr 12 0 10 = nI L := (hkp.1 12 10 (by decide +kernel)).trans c5
    have t : (nI L < nI k) = True := by rw [nIlt (by omega) (by omega)]; exact eq_true (by omega)
    refine ⟨Nr, hkp, fun X => ?_⟩
    rw [r149_24]
    simp only [r149_0, r149_1, r149_2, r149_5, r149_8, r149_9, r149_10, r149_13, r149_14, r149_15, r149_18, r149_19, r149_20, r149_21, r149_22, r149_26, r149_27, r149_30, r149_33, r149_34, r149_36, r149_37, r149_40, r149_43, r149_45, r149_48, r149_49, r149_50, r149_53, r149_56, r149_57, up_same, g, t, reduceIte, upV]
  | succ j ih =>
    intro k Nr most l2 hk hkp
    have g : Nr 12 0 10 = nI L := (hkp.1 12 10 (by decide +kernel)).trans c5
    have t : (nI L < nI k) = False := by rw [nIlt (by omega) (by omega)]; exact eq_false (by omega)
    obtain ⟨N1, n1, n2⟩ := hV k (by omega) Nr hkp
    obtain ⟨Nf, f1, f2⟩ := ih (k + 1) N1 (if V k = 0 then nI k else most) l2 (by omega) n1
    refine ⟨Nf, f1, fun X => ?_⟩
    rw [r149_24]
    by_cases c : V k = 0
    · have cT := eq_true c
      rw [if_pos c] at f2
      simp only [r149_0, r149_1, r149_2, r149_5, r149_8, r149_9, r149_10, r149_13, r149_14, r149_15, r149_18, r149_19, r149_20, r149_21, r149_22, r149_26, r149_27, r149_30, r149_33, r149_34, r149_36, r149_37, r149_40, r149_43, r149_45, r149_48, r149_49, r149_50, r149_53, r149_56, r149_57, up_same, g, t, n2, cT, nI_1, f2, cbI_some, reduceIte, upV]
    · rw [if_neg c] at f2
      simp only [r149_0, r149_1, r149_2, r149_5, r149_8, r149_9, r149_10, r149_13, r149_14, r149_15, r149_18, r149_19, r149_20, r149_21, r149_22, r149_26, r149_27, r149_30, r149_33, r149_34, r149_36, r149_37, r149_40, r149_43, r149_45, r149_48, r149_49, r149_50, r149_53, r149_56, r149_57, up_same, g, t, n2, c, nI_1, f2, cbI_some, reduceIte, upV]
theorem ans_keeps (x : Int32) : Ans 54 149 [aI x] := by
  intro M h
  obtain ⟨⟨L, m, h0⟩, ⟨hhod, hlat⟩, ⟨hw0, hdr0, hwN, hdN⟩, him, htx, hrw, hrf⟩ := id h
  by_cases g1 : x < 0
  · have gb := mBo_a 240 g1
    refine Ans.no h rf4 ?_ (fun X => ?_)
    · simp only [c54, r54_0, r54_1, r54_2, r54_5, r54_8, r54_9, r54_10, r54_13, r54_14, r54_15, r54_18, r54_19, r54_20, r54_23, r54_26, r54_28, r54_31, r54_32, r54_35, r54_36, r54_39, r54_42, r54_43, r54_46, r54_47, r54_50, r54_51, r54_54, r54_57, r54_58, r54_61, r54_62, r54_65, r54_66, r54_69, r54_72, r54_75, r54_78, r54_79, r54_80, r54_83, r54_86, r54_87, up_same, cbI_some, cbV_some, reduceIte, gb, K67, nz4, K66_4]
    · simp only [c149, r149_0, r149_1, r149_2, r149_5, r149_8, r149_9, r149_10, r149_13, r149_14, r149_15, r149_18, r149_19, r149_20, r149_21, r149_22, r149_26, r149_27, r149_30, r149_33, r149_34, r149_36, r149_37, r149_40, r149_43, r149_45, r149_48, r149_49, r149_50, r149_53, r149_56, r149_57, up_same, cbI_some, cbV_some, reduceIte, gb, m84, nz4, m81_4]
  by_cases g2 : 240 < x
  · have gb := mBo_b g1 g2
    refine Ans.no h rf6 ?_ (fun X => ?_)
    · simp only [c54, r54_0, r54_1, r54_2, r54_5, r54_8, r54_9, r54_10, r54_13, r54_14, r54_15, r54_18, r54_19, r54_20, r54_23, r54_26, r54_28, r54_31, r54_32, r54_35, r54_36, r54_39, r54_42, r54_43, r54_46, r54_47, r54_50, r54_51, r54_54, r54_57, r54_58, r54_61, r54_62, r54_65, r54_66, r54_69, r54_72, r54_75, r54_78, r54_79, r54_80, r54_83, r54_86, r54_87, up_same, cbI_some, cbV_some, reduceIte, gb, K67, nz6, K66_6]
    · simp only [c149, r149_0, r149_1, r149_2, r149_5, r149_8, r149_9, r149_10, r149_13, r149_14, r149_15, r149_18, r149_19, r149_20, r149_21, r149_22, r149_26, r149_27, r149_30, r149_33, r149_34, r149_36, r149_37, r149_40, r149_43, r149_45, r149_48, r149_49, r149_50, r149_53, r149_56, r149_57, up_same, cbI_some, cbV_some, reduceIte, gb, m84, nz6, m81_6]
  have gb := mBo_0 g1 g2
  obtain ⟨n, hn, rfl⟩ := of_le (B := 240) (by decide) g1 g2
  have hc4 : M 1 0 0 1 = nI L := h0.1.2.2.2.1
  have sk : ∀ k : Nat, ∃ v : Int32, k ≤ L → (∀ M' : Mm, M' 1 = M 1 → ∃ Z : Nm, Z 5 0 2 = v ∧ call 20 [aR 2 0 0, aI (nI n)] (va_up M' 2 (bfM 0 3 (wrN (cpS (M' 2) (M 1)) 0 0 1 (nI k)))) = some (none, va_up M' 2 Z)) ∧ ∀ Nr : Nm, KpN (M 4) Nr → ∃ Nf : Nm, KpN (M 4) Nf ∧ ∀ X : Mm, call 148 [aR 4 12 0, aI (nI k), aI (nI n)] (va_up X 4 Nr) = some (some v, va_up X 4 Nf) := by
    intro k
    by_cases hk : k ≤ L
    · obtain ⟨v, hv⟩ := stands h0 hwN hdN hn hk
      exact ⟨v, fun _ => hv⟩
    · exact ⟨0, fun z => absurd z hk⟩
  obtain ⟨V, hV⟩ := Classical.axiomOfChoice sk
  obtain ⟨Z, z1⟩ := keeps_c (n := n) V h0 (fun k hk => (hV k hk).1) L M (aI 0) (Nat.le_refl _) rfl
  obtain ⟨Nf, f1, f2⟩ := keeps_m (n := n) V h0 (fun k hk => (hV k hk).2) L 1 (M 4) 0 (aI 0) (by omega) (KpN.rf _)
  simp only [n_1, up_dn] at f2
  refine Ans.th h (Z := Z) (v := dnV V L) f1 ?_ (fun X => ?_)
  · simp only [c54, r54_0, r54_1, r54_2, r54_5, r54_8, r54_9, r54_10, r54_13, r54_14, r54_15, r54_18, r54_19, r54_20, r54_23, r54_26, r54_28, r54_31, r54_32, r54_35, r54_36, r54_39, r54_42, r54_43, r54_46, r54_47, r54_50, r54_51, r54_54, r54_57, r54_58, r54_61, r54_62, r54_65, r54_66, r54_69, r54_72, r54_75, r54_78, r54_79, r54_80, r54_83, r54_86, r54_87, up_same, cbI_some, cbV_some, reduceIte, gb, K67, hc4, z1]
  · simp only [c149, r149_0, r149_1, r149_2, r149_5, r149_8, r149_9, r149_10, r149_13, r149_14, r149_15, r149_18, r149_19, r149_20, r149_21, r149_22, r149_26, r149_27, r149_30, r149_33, r149_34, r149_36, r149_37, r149_40, r149_43, r149_45, r149_48, r149_49, r149_50, r149_53, r149_56, r149_57, up_same, cbI_some, cbV_some, reduceIte, gb, m84, f2]
