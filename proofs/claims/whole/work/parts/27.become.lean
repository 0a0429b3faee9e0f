/-! a site becomes another; small methods of a site -/
def bc1 (S : Nm) (i : Nat) (D : Nm) : Nm := wrN (wrN (wrN (wrN (wrN (wrN D 2 i 0 (S 2 i 0)) 2 i 1 (S 2 i 1)) 2 i 2 (S 2 i 2)) 2 i 3 (S 2 i 3)) 2 i 4 (S 2 i 4)) 2 i 5 (S 2 i 5)
def bm1 (S : Nm) (i : Nat) (D : Nm) : Nm := wrN (wrN (wrN (wrN D 4 i 0 (S 4 i 0)) 4 i 1 (S 4 i 1)) 4 i 2 (S 4 i 2)) 4 i 3 (S 4 i 3)
def bcL (S : Nm) : Nat → Nat → Nm → Nm
  | _, 0, D => D
  | i, n + 1, D => bcL S (i + 1) n (bc1 S i D)
def bcM (S : Nm) : Nat → Nat → Nm → Nm
  | _, 0, D => D
  | i, n + 1, D => bcM S (i + 1) n (bm1 S i D)
def bcT (S D : Nm) : Nm := wrN (wrN (wrN (wrN (wrN (wrN (wrN (wrN (wrN (wrN (wrN D 0 0 4 (S 0 0 4)) 0 0 5 (S 0 0 5)) 0 0 6 (S 0 0 6)) 0 0 7 (S 0 0 7)) 0 0 8 (S 0 0 8)) 0 0 9 (S 0 0 9)) 0 0 10 (S 0 0 10)) 0 0 11 (S 0 0 11)) 0 0 12 (S 0 0 12)) 0 0 13 0) 0 0 14 1000000
def cpS (D S : Nm) : Nm := bcT S (bcM S 0 3 (wrN (bcL S 0 4 (wrN D 0 0 1 (S 0 0 1))) 0 0 3 (S 0 0 3)))
section Become
variable (M : Mm) (g h : Nat) (hgh : h ≠ g)
theorem k0 (i : Nat) (D : Nm) (hgh : h ≠ g) : call 0 [aR g 2 i, aR h 2 i] (va_up M g D) = some (none, va_up M g (bc1 (M h) i D)) := by
  have hr : ∀ X : Nm, va_up M g X h = M h := fun X => up_ne _ _ hgh
  simp only [c0, r0_0, r0_1, r0_2, r0_5, r0_8, r0_9, r0_10, r0_13, r0_16, r0_17, r0_18, r0_21, r0_24, r0_25, r0_26, r0_29, r0_32, r0_33, r0_34, r0_37, r0_40, r0_41, r0_42, r0_45, r0_48, hr, wr_up, bc1]
theorem k8 (i : Nat) (D : Nm) (hgh : h ≠ g) (hz : M h 4 i 3 = 0 ∨ M h 4 i 3 = 1) : call 8 [aR g 4 i, aR h 4 i] (va_up M g D) = some (none, va_up M g (bm1 (M h) i D)) := by
  have hr : ∀ X : Nm, va_up M g X h = M h := fun X => up_ne _ _ hgh
  simp only [c8, r8_0, r8_1, r8_2, r8_5, r8_8, r8_9, r8_10, r8_13, r8_16, r8_17, r8_18, r8_21, r8_24, r8_25, r8_26, r8_29, r8_32, hr, wr_up, bm1, hz, reduceIte]
theorem k11L (hgh : h ≠ g) : ∀ (n i : Nat) (D : Nm), i + n = 4 → run 11 10 [aR g 0 0, aR h 0 0, aI (nI i)] [] (va_up M g D) = run 11 36 [aR g 0 0, aR h 0 0, aI (nI 4)] [] (va_up M g (bcL (M h) i n D)) := by
  intro n
  induction n with
  | zero =>
    intro i D hi
    have : i = 4 := by omega
    subst this
    have hF : (nI 4 < 4) = False := by decide +kernel
    rw [r11_10]
    simp only [r11_11, r11_12, hF, reduceIte, bcL]
  | succ n ih =>
    intro i D hi
    have hT : (nI i < 4) = True := by rw [← e4]; exact eq_true (nI_lt (by omega) (by omega))
    have hv : vpB (nI i) 4 = true := vp_t (by omega) (by decide)
    have htn : (nI i).toNatClampNeg = i := tn (n := 4) (by omega) (by decide)
    rw [r11_10]
    simp only [r11_11, r11_12, r11_15, r11_16, r11_19, r11_20, r11_21, r11_22, r11_25, r11_26, r11_27, r11_30, r11_33, hT, hv, htn, k0 M g h i D hgh, cbV_some, nI_1, ih (i + 1) _ (by omega), reduceIte, bcL]
theorem k11M (hgh : h ≠ g) (hz : ∀ j, j < 3 → M h 4 j 3 = 0 ∨ M h 4 j 3 = 1) : ∀ (n i : Nat) (D : Nm), i + n = 3 → run 11 46 [aR g 0 0, aR h 0 0, aI (nI i)] [] (va_up M g D) = run 11 72 [aR g 0 0, aR h 0 0, aI (nI 3)] [] (va_up M g (bcM (M h) i n D)) := by
  have e3 : nI 3 = 3 := by decide +kernel
  intro n
  induction n with
  | zero =>
    intro i D hi
    have : i = 3 := by omega
    subst this
    have hF : (nI 3 < 3) = False := by decide +kernel
    rw [r11_46]
    simp only [r11_47, r11_48, hF, reduceIte, bcM]
  | succ n ih =>
    intro i D hi
    have hT : (nI i < 3) = True := by rw [← e3]; exact eq_true (nI_lt (by omega) (by omega))
    have hv : vpB (nI i) 3 = true := vp_t (by omega) (by decide)
    have htn : (nI i).toNatClampNeg = i := tn (n := 3) (by omega) (by decide)
    rw [r11_46]
    simp only [r11_47, r11_48, r11_51, r11_52, r11_55, r11_56, r11_57, r11_58, r11_61, r11_62, r11_63, r11_66, r11_69, hT, hv, htn, k8 M g h i D hgh (hz i (by omega)), cbV_some, nI_1, ih (i + 1) _ (by omega), reduceIte, bcM]
theorem k11 (hgh : h ≠ g) (hz : ∀ j, j < 3 → M h 4 j 3 = 0 ∨ M h 4 j 3 = 1) : call 11 [aR g 0 0, aR h 0 0] M = some (none, va_up M g (cpS (M g) (M h))) := by
  have hr : ∀ X : Nm, va_up M g X h = M h := fun X => up_ne _ _ hgh
  have e1 := k11L M g h hgh 4 0 (wrN (M g) 0 0 1 (M h 0 0 1)) (by omega)
  have e2 := k11M M g h hgh hz 3 0 (wrN (bcL (M h) 0 4 (wrN (M g) 0 0 1 (M h 0 0 1))) 0 0 3 (M h 0 0 3)) (by omega)
  rw [nI_0] at e1 e2
  have start : call 11 [aR g 0 0, aR h 0 0] M = call 11 [aR g 0 0, aR h 0 0] (va_up M g (M g)) := by rw [up_id]
  rw [start]
  simp only [c11, r11_0, r11_1, r11_2, r11_5, r11_8, r11_9, hr, wr_up, e1]
  simp only [r11_36, r11_37, r11_38, r11_41, r11_44, r11_45, hr, wr_up, e2]
  simp only [r11_72, r11_73, r11_74, r11_77, r11_80, r11_81, r11_82, r11_85, r11_88, r11_89, r11_90, r11_93, r11_96, r11_97, r11_98, r11_101, r11_104, r11_105, r11_106, r11_109, r11_112, r11_113, r11_114, r11_117, r11_120, r11_121, r11_122, r11_125, r11_128, r11_129, r11_130, r11_133, r11_136, r11_137, r11_138, r11_141, r11_144, r11_145, r11_146, r11_149, r11_150, r11_152, r11_155, hr, wr_up]
  rfl
end Become
theorem bcL_k (S : Nm) : ∀ (n i : Nat) (D : Nm) {k : Nat}, k ≠ 2 → bcL S i n D k = D k := by
  intro n
  induction n with
  | zero => intro i D k h; rfl
  | succ n ih =>
    intro i D k h
    rw [bcL, ih _ _ h]
    simp only [bc1, wn_k, h, ne_eq, not_false_eq_true]
theorem bcM_k (S : Nm) : ∀ (n i : Nat) (D : Nm) {k : Nat}, k ≠ 4 → bcM S i n D k = D k := by
  intro n
  induction n with
  | zero => intro i D k h; rfl
  | succ n ih =>
    intro i D k h
    rw [bcM, ih _ _ h]
    simp only [bm1, wn_k, h, ne_eq, not_false_eq_true]
theorem bcL_lo (S : Nm) : ∀ (n i : Nat) (D : Nm) {q : Nat}, q < i → bcL S i n D 2 q = D 2 q := by
  intro n
  induction n with
  | zero => intro i D q h; rfl
  | succ n ih =>
    intro i D q h
    have hq : q ≠ i := by omega
    rw [bcL, ih _ _ (by omega)]
    simp only [bc1, wn_i, hq, ne_eq, not_false_eq_true]
theorem bcM_lo (S : Nm) : ∀ (n i : Nat) (D : Nm) {q : Nat}, q < i → bcM S i n D 4 q = D 4 q := by
  intro n
  induction n with
  | zero => intro i D q h; rfl
  | succ n ih =>
    intro i D q h
    have hq : q ≠ i := by omega
    rw [bcM, ih _ _ (by omega)]
    simp only [bm1, wn_i, hq, ne_eq, not_false_eq_true]
theorem bcL_z (S : Nm) : ∀ (n i : Nat) (D : Nm) {q : Nat}, i ≤ q → q < i + n → ∀ j, j < 6 → bcL S i n D 2 q j = S 2 q j := by
  intro n
  induction n with
  | zero => intro i D q h1 h2; omega
  | succ n ih =>
    intro i D q h1 h2 j hj
    rw [bcL]
    by_cases hq : q = i
    · subst hq
      rw [bcL_lo S n (q + 1) _ (by omega)]
      rcases (show j = 0 ∨ j = 1 ∨ j = 2 ∨ j = 3 ∨ j = 4 ∨ j = 5 by omega) with rfl | rfl | rfl | rfl | rfl | rfl
      all_goals simp only [bc1, wn_if, Nat.reduceEqDiff, reduceIte]
    · exact ih (i + 1) _ (by omega) (by omega) j hj
theorem bcM_z (S : Nm) : ∀ (n i : Nat) (D : Nm) {q : Nat}, i ≤ q → q < i + n → ∀ j, j < 4 → bcM S i n D 4 q j = S 4 q j := by
  intro n
  induction n with
  | zero => intro i D q h1 h2; omega
  | succ n ih =>
    intro i D q h1 h2 j hj
    rw [bcM]
    by_cases hq : q = i
    · subst hq
      rw [bcM_lo S n (q + 1) _ (by omega)]
      rcases (show j = 0 ∨ j = 1 ∨ j = 2 ∨ j = 3 by omega) with rfl | rfl | rfl | rfl
      all_goals simp only [bm1, wn_if, Nat.reduceEqDiff, reduceIte]
    · exact ih (i + 1) _ (by omega) (by omega) j hj
theorem cp_2 (D S : Nm) {i j : Nat} (hi : i < 4) (hj : j < 6) : cpS D S 2 i j = S 2 i j := by
  unfold cpS bcT
  simp only [wn_k, ne_eq, Nat.reduceEqDiff, not_false_eq_true, bcM_k]
  exact bcL_z S 4 0 _ (by omega) (by omega) j hj
theorem cp_4 (D S : Nm) {i j : Nat} (hi : i < 3) (hj : j < 4) : cpS D S 4 i j = S 4 i j := by
  unfold cpS bcT
  simp only [wn_k, ne_eq, Nat.reduceEqDiff, not_false_eq_true]
  exact bcM_z S 3 0 _ (by omega) (by omega) j hj
theorem cp_0 (D S : Nm) {j : Nat} (hj : j = 1 ∨ (3 ≤ j ∧ j ≤ 12)) : cpS D S 0 0 j = S 0 0 j := by
  unfold cpS bcT
  rcases (show j = 1 ∨ j = 3 ∨ j = 4 ∨ j = 5 ∨ j = 6 ∨ j = 7 ∨ j = 8 ∨ j = 9 ∨ j = 10 ∨ j = 11 ∨ j = 12 by omega) with rfl | rfl | rfl | rfl | rfl | rfl | rfl | rfl | rfl | rfl | rfl
  all_goals simp only [wn_if, Nat.reduceEqDiff, reduceIte, bcM_k, bcL_k, ne_eq, not_false_eq_true]
theorem cp_13 (D S : Nm) : cpS D S 0 0 13 = 0 ∧ cpS D S 0 0 14 = 1000000 := by
  unfold cpS bcT
  simp only [wn_if, Nat.reduceEqDiff, reduceIte, and_self]
/-- a still site, but for water and drought -/
def R0 (S N : Nm) (L m : Nat) : Prop := RCf S N L m ∧ RLk S N L ∧ RMs S N L m
theorem R0.z3 {S N : Nm} {L m : Nat} (h : R0 S N L m) : ∀ j, j < 3 → S 4 j 3 = 0 ∨ S 4 j 3 = 1 := by
  intro j hj
  obtain ⟨-, hx⟩ := h.2.2.1 j hj
  rcases hx with ⟨-, -, -, e⟩ | ⟨-, -, -, e, -⟩ | ⟨-, -, -, e, e2, -⟩
  · exact Or.inl e
  · exact Or.inl e
  · rw [e]; exact e2
theorem R0.cp {S N : Nm} {L m : Nat} (h : R0 S N L m) (D : Nm) : R0 (cpS D S) N L m := by
  obtain ⟨hC, hK, hM⟩ := h
  have hL4 := hC.1
  refine ⟨?_, fun i hi => ?_, fun j hj => ?_, hM.2⟩
  · unfold RCf
    rw [cp_0 D S (j := 1) (by decide), cp_0 D S (j := 3) (by decide), cp_0 D S (j := 4) (by decide), cp_0 D S (j := 5) (by decide), cp_0 D S (j := 6) (by decide), cp_0 D S (j := 7) (by decide), cp_0 D S (j := 8) (by decide), cp_0 D S (j := 9) (by decide), cp_0 D S (j := 10) (by decide), cp_0 D S (j := 11) (by decide), cp_0 D S (j := 12) (by decide)]
    exact hC
  · have hx := hK i hi
    unfold RLc at hx ⊢
    rw [cp_2 D S (by omega) (by decide), cp_2 D S (by omega) (by decide), cp_2 D S (by omega) (by decide), cp_2 D S (by omega) (by decide), cp_2 D S (by omega) (by decide), cp_2 D S (by omega) (by decide)]
    exact hx
  · have hx := hM.1 j hj
    unfold RMt at hx ⊢
    rw [cp_4 D S hj (by decide), cp_4 D S hj (by decide), cp_4 D S hj (by decide), cp_4 D S hj (by decide)]
    exact hx
/-- the cells of the reference that passesAll keeps -/
def CfE (N N' : Nm) : Prop := ∀ k j, idx k 0 j < 39 → N' k 0 j = N k 0 j
theorem CfE.rf (N : Nm) : CfE N N := fun _ _ _ => rfl
theorem CfE.tr {A B C : Nm} (h1 : CfE A B) (h2 : CfE B C) : CfE A C := fun k j h => (h2 k j h).trans (h1 k j h)
theorem CfE.sy {A B : Nm} (h1 : CfE A B) : CfE B A := fun k j h => (h1 k j h).symm
theorem ix_lo : (∀ j, j < 7 → idx 14 0 j < 39) ∧ (∀ i, i < 4 → idx 15 0 i < 39) ∧ (∀ i, i < 4 → idx 16 0 i < 39) ∧ (∀ i, i < 4 → idx 17 0 i < 39) ∧ (∀ i, i < 4 → idx 18 0 i < 39) ∧ (∀ i, i < 3 → idx 19 0 i < 39) ∧ (∀ i, i < 3 → idx 20 0 i < 39) ∧ (∀ i, i < 3 → idx 21 0 i < 39) ∧ (∀ i, i < 3 → idx 22 0 i < 39) := by decide +kernel
theorem R0.cf {S A B : Nm} {L m : Nat} (h : R0 S A L m) (hc : CfE A B) : R0 S B L m := by
  obtain ⟨hC, hK, hM⟩ := h
  have hL4 := hC.1
  obtain ⟨x14, x15, x16, x17, x18, x19, x20, x21, x22⟩ := ix_lo
  refine ⟨?_, fun i hi => ?_, fun j hj => ?_, fun j h1 h2 => ?_⟩
  · unfold RCf
    rw [hc 12 10 (by decide +kernel), hc 12 11 (by decide +kernel), hc 12 12 (by decide +kernel), hc 12 13 (by decide +kernel), hc 14 0 (by decide +kernel), hc 14 1 (by decide +kernel), hc 14 2 (by decide +kernel), hc 14 3 (by decide +kernel), hc 14 4 (by decide +kernel), hc 14 5 (by decide +kernel), hc 14 6 (by decide +kernel)]
    exact hC
  · rw [hc 15 i (x15 i (by omega)), hc 16 i (x16 i (by omega)), hc 17 i (x17 i (by omega)), hc 18 i (x18 i (by omega))]
    exact hK i hi
  · rw [hc 19 j (x19 j hj), hc 20 j (x20 j hj), hc 21 j (x21 j hj), hc 22 j (x22 j hj)]
    exact hM.1 j hj
  · rw [hc 19 j (x19 j h2)]
    exact hM.2 j h1 h2
theorem Rg.of0 {T : Nat} {S N : Nm} {L m : Nat} (h : R0 S N L m) (hw : S 0 0 13 = N 12 0 37) (hd : ∀ q, q < T → ((nI q < S 0 0 14) = (nI q < N 12 0 38))) (hl : T = 241 → S 0 0 12 = N 12 0 12) : Rg T S N L m := ⟨h.1, h.2.1, h.2.2, hw, hd, hl⟩
