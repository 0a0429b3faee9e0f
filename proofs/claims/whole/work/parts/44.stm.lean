/-! all statements of a text: shape, and what the reference notes of them -/
def Gd (t : Nat → Int32) (p : Nat) : Prop := sL (t p) ≠ 0 ∧ ff t p (p + 1) (sL (t p) - 2) = p + (sL (t p) - 1) ∧ t (p + (sL (t p) - 1)) = 59
def flt (t : Nat → Int32) (p : Nat) : Nat := if sL (t p) = 0 then p else ff t p (p + 1) (sL (t p) - 2)
def Sto (N : Nm) (t : Nat → Int32) (p k : Nat) : Prop := N 24 0 k = t p ∧ N 25 0 k = nI p ∧ VAL t p (N 26 0 (4 * k)) (N 26 0 (4 * k + 1)) (N 26 0 (4 * k + 2)) (N 26 0 (4 * k + 3))
def FrS (k : Nat) (N N' : Nm) : Prop := (∀ q, q ≠ 12 → q ≠ 24 → q ≠ 25 → q ≠ 26 → N' q = N q) ∧ (∀ j, j ≠ 19 → N' 12 0 j = N 12 0 j) ∧ (∀ j, j < k → N' 24 0 j = N 24 0 j ∧ N' 25 0 j = N 25 0 j) ∧ ∀ j, j < 4 * k → N' 26 0 j = N 26 0 j
theorem sl_104 : sL 104 = 5 := by decide +kernel
theorem sl_109 : sL 109 = 3 := by decide +kernel
theorem sl_110 : sL 110 = 4 := by decide +kernel
theorem sl_114 : sL 114 = 3 := by decide +kernel
theorem sl_117 : sL 117 = 5 := by decide +kernel
theorem sl_120 : sL 120 = 7 := by decide +kernel
theorem sl_121 : sL 121 = 9 := by decide +kernel
theorem sl_n {b : Int32} (h : sL b = 0) : ¬ b = 121 ∧ ¬ b = 109 ∧ ¬ b = 104 ∧ ¬ b = 120 ∧ ¬ b = 117 ∧ ¬ b = 114 ∧ ¬ b = 110 := by
  refine ⟨?_, ?_, ?_, ?_, ?_, ?_, ?_⟩
  all_goals
    rintro rfl
    revert h
    decide +kernel
theorem sl_s {b : Int32} (h : ¬ sL b = 0) : b = 121 ∨ b = 109 ∨ b = 104 ∨ b = 120 ∨ b = 117 ∨ b = 114 ∨ b = 110 := by
  refine Decidable.byContradiction (fun z => h ?_)
  simp only [not_or] at z
  obtain ⟨a1, a2, a3, a4, a5, a6, a7⟩ := z
  unfold sL
  rw [if_neg a3, if_neg a2, if_neg a7, if_neg a6, if_neg a5, if_neg a4, if_neg a1]
section Stm
variable {r : Nat → Int32} {c p k : Nat} {N : Nm}
theorem rd_all (hc : c ≤ 96) (hp : p < 100) (hk : k < 40) (hr : N 23 0 = r) (h18 : N 12 0 18 = nI c) (h19 : N 12 0 19 = nI (p + 1)) (hb : byteO (tx r c (p + 1))) (hs : ¬ sL (tx r c p) = 0) : RdA r c p k N (sL (tx r c p) - 2) (sL (tx r c p) - 1) := by
  rcases sl_s hs with h | h | h | h | h | h | h
  · have e := rd_121 hc hp hk hr h18 h19 hb h
    rw [h, sl_121]
    exact e
  · have e := rd_109 hc hp hk hr h18 h19 hb h
    rw [h, sl_109]
    exact e
  · have e := rd_104 hc hp hk hr h18 h19 hb h
    rw [h, sl_104]
    exact e
  · have e := rd_120 hc hp hk hr h18 h19 hb h
    rw [h, sl_120]
    exact e
  · have e := rd_117 hc hp hk hr h18 h19 hb h
    rw [h, sl_117]
    exact e
  · have e := rd_114 hc hp hk hr h18 h19 hb h
    rw [h, sl_114]
    exact e
  · have e := rd_110 hc hp hk hr h18 h19 hb h
    rw [h, sl_110]
    exact e
theorem m95j (X : Mm) (b : Int32) (hs : ¬ sL b = 0) : run 95 5 [aR 4 12 0, aI b] [] X = run 95 49 [aR 4 12 0, aI b] [] X := by
  rcases sl_s hs with h | h | h | h | h | h | h
  · subst h
    simp only [r95_5, r95_6, r95_8, r95_11, r95_12, r95_14, r95_17, r95_18, r95_20, r95_23, r95_24, r95_26, r95_29, r95_30, r95_32, r95_35, r95_36, r95_38, r95_41, r95_42, r95_44, y121_104, y121_109, y121_110, y121_114, y121_117, y121_120, reduceIte]
  · subst h
    simp only [r95_5, r95_6, r95_8, r95_11, r95_12, r95_14, r95_17, r95_18, r95_20, r95_23, r95_24, r95_26, r95_29, r95_30, r95_32, r95_35, r95_36, r95_38, r95_41, r95_42, r95_44, y109_104, y109_110, y109_114, y109_117, y109_120, y109_121, reduceIte]
  · subst h
    simp only [r95_5, r95_6, r95_8, r95_11, r95_12, r95_14, r95_17, r95_18, r95_20, r95_23, r95_24, r95_26, r95_29, r95_30, r95_32, r95_35, r95_36, r95_38, r95_41, r95_42, r95_44, y104_109, y104_110, y104_114, y104_117, y104_120, y104_121, reduceIte]
  · subst h
    simp only [r95_5, r95_6, r95_8, r95_11, r95_12, r95_14, r95_17, r95_18, r95_20, r95_23, r95_24, r95_26, r95_29, r95_30, r95_32, r95_35, r95_36, r95_38, r95_41, r95_42, r95_44, y120_104, y120_109, y120_110, y120_114, y120_117, y120_121, reduceIte]
  · subst h
    simp only [r95_5, r95_6, r95_8, r95_11, r95_12, r95_14, r95_17, r95_18, r95_20, r95_23, r95_24, r95_26, r95_29, r95_30, r95_32, r95_35, r95_36, r95_38, r95_41, r95_42, r95_44, y117_104, y117_109, y117_110, y117_114, y117_120, y117_121, reduceIte]
  · subst h
    simp only [r95_5, r95_6, r95_8, r95_11, r95_12, r95_14, r95_17, r95_18, r95_20, r95_23, r95_24, r95_26, r95_29, r95_30, r95_32, r95_35, r95_36, r95_38, r95_41, r95_42, r95_44, y114_104, y114_109, y114_110, y114_117, y114_120, y114_121, reduceIte]
  · subst h
    simp only [r95_5, r95_6, r95_8, r95_11, r95_12, r95_14, r95_17, r95_18, r95_20, r95_23, r95_24, r95_26, r95_29, r95_30, r95_32, r95_35, r95_36, r95_38, r95_41, r95_42, r95_44, y110_104, y110_109, y110_114, y110_117, y110_120, y110_121, reduceIte]
theorem m95 (hc : c ≤ 96) (hp : p < 100) (hk : k < 40) (hr : N 23 0 = r) (h18 : N 12 0 18 = nI c) (h19 : N 12 0 19 = nI p) (h20 : N 12 0 20 = nI k) (hby : ∀ q, byteO (tx r c q)) : ∃ (N' : Nm) (v : Int32), (∀ X : Mm, call 95 [aR 4 12 0] (va_up X 4 N) = some (some v, va_up X 4 N')) ∧ FrS k N N' ∧ ((v = 1 ∧ Gd (tx r c) p ∧ N' 12 0 19 = nI (p + sL (tx r c p)) ∧ Sto N' (tx r c) p k) ∨ (v = 0 ∧ ¬ Gd (tx r c) p ∧ N' 12 0 19 = nI (flt (tx r c) p))) := by
  have n0 := fun X : Mm => m89 X N hc hr h18 (show p < 1000 by omega) h19
  by_cases s0 : sL (tx r c p) = 0
  · obtain ⟨a1, a2, a3, a4, a5, a6, a7⟩ := sl_n s0
    refine ⟨N, 0, fun X => ?_, ⟨fun _ _ _ _ _ => rfl, fun _ _ => rfl, fun _ _ => ⟨rfl, rfl⟩, fun _ _ => rfl⟩, Or.inr ⟨rfl, fun z => z.1 s0, ?_⟩⟩
    · simp only [c95, r95_0, r95_1, r95_4, r95_5, r95_6, r95_8, r95_11, r95_12, r95_14, r95_17, r95_18, r95_20, r95_23, r95_24, r95_26, r95_29, r95_30, r95_32, r95_35, r95_36, r95_38, r95_41, r95_42, r95_44, r95_47, r95_48, r95_49, r95_50, r95_53, r95_54, r95_57, r95_58, r95_59, r95_60, r95_63, r95_64, r95_67, r95_68, r95_71, r95_72, r95_73, r95_74, r95_77, r95_78, r95_79, r95_82, r95_83, r95_84, r95_85, r95_86, r95_89, r95_90, r95_93, r95_96, r95_97, r95_100, r95_102, r95_105, r95_106, r95_107, r95_108, r95_109, r95_112, r95_113, r95_114, r95_117, r95_118, n0, a1, a2, a3, a4, a5, a6, a7, cbI_some, true_or, or_true, reduceIte]
    · unfold flt
      rw [if_pos s0]
      exact h19
  · have hv : vpB (nI k) 48 = true := vp_t (by omega) (by decide)
    have htn : (nI k).toNatClampNeg = k := tn (n := 48) (by omega) (by decide)
    have w20 : ∀ v : Int32, wrN N 24 0 k v 12 0 20 = nI k := fun v => by rw [wn_k _ _ _ _ (by decide)]; exact h20
    have w19 : ∀ v : Int32, wrN N 24 0 k v 12 0 19 = nI p := fun v => by rw [wn_k _ _ _ _ (by decide)]; exact h19
    obtain ⟨N2, v2, e2, f2, p2, q2⟩ := rd_all (N := wrN (wrN (wrN N 24 0 k (tx r c p)) 25 0 k (nI p)) 12 0 19 (nI (p + 1))) hc hp hk (by simp only [wn_k, ne_eq, Nat.reduceEqDiff, not_false_eq_true]; exact hr) (by simp only [wn_if, wn_k, ne_eq, Nat.reduceEqDiff, not_false_eq_true, reduceIte]; exact h18) (wn_eq _ _ _ _ _) (hby _) s0
    have hfs : FrS k N N2 := by
      refine ⟨fun q a1 a2 a3 a4 => ?_, fun j hj => ?_, fun j hj => ⟨?_, ?_⟩, fun j hj => ?_⟩
      · rw [f2.1 q a1 a4, wn_k _ _ _ _ a1, wn_k _ _ _ _ a3, wn_k _ _ _ _ a2]
      · rw [f2.2.1 j hj, wn_j _ _ _ _ hj, wn_k _ _ _ _ (by decide), wn_k _ _ _ _ (by decide)]
      · rw [f2.1 24 (by decide) (by decide), wn_k _ _ _ _ (by decide), wn_k _ _ _ _ (by decide), wn_j _ _ _ _ (by omega)]
      · rw [f2.1 25 (by decide) (by decide), wn_k _ _ _ _ (by decide), wn_j _ _ _ _ (by omega), wn_k _ _ _ _ (by decide)]
      · rw [f2.2.2 j hj, wn_k _ _ _ _ (by decide), wn_k _ _ _ _ (by decide), wn_k _ _ _ _ (by decide)]
    have st24 : N2 24 0 k = tx r c p := by rw [f2.1 24 (by decide) (by decide), wn_k _ _ _ _ (by decide), wn_k _ _ _ _ (by decide), wn_eq]
    have st25 : N2 25 0 k = nI p := by rw [f2.1 25 (by decide) (by decide), wn_k _ _ _ _ (by decide), wn_eq]
    have e4 : (4 : Int32) * nI k = nI (4 * k) := by
      have : ∀ k, k < 40 → (4 : Int32) * nI k = nI (4 * k) := by decide +kernel
      exact this k hk
    have pre : ∀ X : Mm, call 95 [aR 4 12 0] (va_up X 4 N) = cbI (some (some v2, va_up X 4 N2)) (fun v M => run 95 93 [aR 4 12 0, aI (tx r c p)] [aI v] M) := by
      intro X
      simp only [c95, r95_0, r95_1, n0, cbI_some, r95_4]
      rw [m95j _ _ s0]
      have s20 : ∀ v w : Int32, wrN (wrN N 24 0 k v) 25 0 k w 12 0 19 = nI p := fun v w => by rw [wn_k _ _ _ _ (by decide)]; exact w19 v
      have t20 : ∀ v w x : Int32, wrN (wrN (wrN N 24 0 k v) 25 0 k w) 12 0 19 x 12 0 20 = nI k := fun v w x => by rw [wn_j _ _ _ _ (by decide), wn_k _ _ _ _ (by decide)]; exact w20 v
      simp only [r95_49, r95_50, r95_53, r95_54, r95_57, r95_58, r95_59, r95_60, r95_63, r95_64, r95_67, r95_68, r95_71, r95_72, r95_73, r95_74, r95_77, r95_78, r95_79, r95_82, r95_83, r95_84, r95_85, r95_86, r95_89, r95_90, up_same, h20, w20, w19, s20, t20, hv, htn, wr_up, nI_1, e4, e2, cbI_some, reduceIte]
    rcases q2 with ⟨rfl, g1, g2⟩ | ⟨rfl, g1⟩
    · have n1 := fun X : Mm => m89 X N2 hc (r := r) (by rw [f2.1 23 (by decide) (by decide)]; simp only [wn_k, ne_eq, Nat.reduceEqDiff, not_false_eq_true]; exact hr) (by rw [f2.2.1 18 (by decide)]; simp only [wn_if, wn_k, ne_eq, Nat.reduceEqDiff, not_false_eq_true, reduceIte]; exact h18) (p := p + (sL (tx r c p) - 1)) (by have := (sL_le (tx r c p)).1; omega) (by rw [p2, g1])
      by_cases h59 : tx r c (p + (sL (tx r c p) - 1)) = 59
      · refine ⟨wrN N2 12 0 19 (nI (p + sL (tx r c p))), 1, fun X => ?_, ⟨fun q a1 a2 a3 a4 => by rw [wn_k _ _ _ _ a1]; exact hfs.1 q a1 a2 a3 a4, fun j hj => by rw [wn_j _ _ _ _ hj]; exact hfs.2.1 j hj, fun j hj => by rw [wn_k _ _ _ _ (by decide), wn_k _ _ _ _ (by decide)]; exact hfs.2.2.1 j hj, fun j hj => by rw [wn_k _ _ _ _ (by decide)]; exact hfs.2.2.2 j hj⟩, Or.inl ⟨rfl, ⟨s0, g1, h59⟩, wn_eq _ _ _ _ _, ?_, ?_, ?_⟩⟩
        · have hT := eq_true h59
          have hsum : p + (sL (tx r c p) - 1) + 1 = p + sL (tx r c p) := by omega
          rw [g1] at p2
          rw [pre X]
          simp only [cbI_some, r95_93, r95_96, r95_97, n1, r95_100, r95_102, r95_107, r95_108, r95_109, r95_112, r95_113, r95_114, r95_117, r95_118, q10, hT, up_same, wr_up, p2, nI_1, hsum, true_or, or_true, reduceIte]
        · rw [wn_k _ _ _ _ (by decide)]; exact st24
        · rw [wn_k _ _ _ _ (by decide)]; exact st25
        · rw [wn_k _ _ _ _ (by decide)]; exact g2
      · refine ⟨N2, 0, fun X => ?_, hfs, Or.inr ⟨rfl, fun z => h59 z.2.2, ?_⟩⟩
        · rw [pre X]
          simp only [cbI_some, r95_93, r95_96, r95_97, n1, r95_100, r95_102, r95_105, r95_106, q10, h59, true_or, or_true, reduceIte]
        · unfold flt
          rw [if_neg s0]
          exact p2
    · refine ⟨N2, 0, fun X => ?_, hfs, Or.inr ⟨rfl, fun z => by have := z.2.1; omega, ?_⟩⟩
      · rw [pre X]
        simp only [cbI_some, r95_93, r95_105, r95_106, true_or, or_true, reduceIte]
      · unfold flt
        rw [if_neg s0]
        exact p2
end Stm
/-! the class's look at the shape -/
section Shape
variable (M : Mm) {c : Nat}
theorem flt_le (t : Nat → Int32) {p : Nat} (hp : p < 100) : flt t p ≤ 200 := by
  obtain ⟨s9, s03⟩ := sL_le (t p)
  unfold flt
  split
  · omega
  · have := (ff_ge t p (sL (t p) - 2) (p + 1)).2
    omega
theorem K161L (hc : c ≤ 96) (h8 : M 0 8 0 1 = nI c) (hby : ∀ q, byteO (tx (M 0 9 0) c q)) {p l : Nat} (hp : p < 200) (hl : 3 ≤ l) (hl9 : l ≤ 9) : ∀ (n i : Nat), i + n = p + (l - 1) → p < i → run 161 21 [aR 0 8 0, aI (nI p), aI (nI (p + (l - 1))), aI (nI i)] [] M = if ff (tx (M 0 9 0) c) p i n = p + (l - 1) then run 161 43 [aR 0 8 0, aI (nI p), aI (nI (p + (l - 1))), aI (nI (p + (l - 1)))] [] M else some (some (nI (ff (tx (M 0 9 0) c) p i n)), M) := by
  intro n
  induction n with
  | zero =>
    intro i hi hpi
    have : i = p + (l - 1) := by omega
    subst this
    have t : (nI (p + (l - 1)) < nI (p + (l - 1))) = False := eq_false (fun z => Int32.lt_irrefl z)
    rw [r161_21, ff, if_pos rfl]
    simp only [r161_22, r161_23, t, reduceIte]
  | succ n ih =>
    intro i hi hpi
    have t : (nI i < nI (p + (l - 1))) = True := by rw [nIlt (by omega) (by omega)]; exact eq_true (by omega)
    rw [r161_21, ff]
    by_cases g : fit (tx (M 0 9 0) c) p i = true
    · rw [if_pos g]
      simp only [r161_22, r161_23, r161_26, r161_27, r161_28, r161_29, r161_32, r161_37, r161_40, t, K36 M hc h8 (show p < 900 by omega) (show i < 1000 by omega) (hby i), g, q10, cbI_some, nI_1, ih (i + 1) (by omega) (by omega), reduceIte]
    · rw [if_neg g, if_neg (by omega)]
      simp only [r161_22, r161_23, r161_26, r161_27, r161_28, r161_29, r161_32, r161_35, r161_36, t, K36 M hc h8 (show p < 900 by omega) (show i < 1000 by omega) (hby i), g, cbI_some, reduceIte, Bool.false_eq_true]
theorem nI_below {p : Nat} (hp : p < 1000) : (nI p - 1 < nI p) = True := by
  rcases p with _ | p
  · exact eq_true (by decide +kernel)
  · rw [nI_pred, nIlt (by omega) (by omega)]
    exact eq_true (by omega)
theorem K161b (hc : c ≤ 96) (h8 : M 0 8 0 1 = nI c) (hby : ∀ q, byteO (tx (M 0 9 0) c q)) {p : Nat} (hp : p < 100) (hg : ¬ Gd (tx (M 0 9 0) c) p) : call 161 [aR 0 8 0, aI (nI p)] M = some (some (nI (flt (tx (M 0 9 0) c) p)), M) := by
  obtain ⟨s9, s03⟩ := sL_le (tx (M 0 9 0) c p)
  rw [c161]
  by_cases s0 : sL (tx (M 0 9 0) c p) = 0
  · unfold flt
    rw [if_pos s0]
    simp only [r161_0, r161_1, r161_2, r161_3, r161_6, r161_7, r161_8, r161_9, r161_10, r161_11, r161_12, r161_15, r161_16, K35 M hc h8 (show p < 1000 by omega), s0, nI_0, Int32.add_zero, nI_below (show p < 1000 by omega), cbI_some, reduceIte]
  · have hl : 3 ≤ sL (tx (M 0 9 0) c p) := by omega
    have t : (nI (p + (sL (tx (M 0 9 0) c p) - 1)) < nI p) = False := by rw [nIlt (by omega) (by omega)]; exact eq_false (by omega)
    have em : nI (p + sL (tx (M 0 9 0) c p)) - 1 = nI (p + (sL (tx (M 0 9 0) c p) - 1)) := by rw [show p + sL (tx (M 0 9 0) c p) = (p + (sL (tx (M 0 9 0) c p) - 1)) + 1 by omega, nI_pred]
    have hL := K161L M hc h8 hby (p := p) (l := sL (tx (M 0 9 0) c p)) (by omega) hl s9 (sL (tx (M 0 9 0) c p) - 2) (p + 1) (by omega) (by omega)
    unfold flt
    rw [if_neg s0]
    by_cases g1 : ff (tx (M 0 9 0) c) p (p + 1) (sL (tx (M 0 9 0) c p) - 2) = p + (sL (tx (M 0 9 0) c p) - 1)
    · have h59 : ¬ tx (M 0 9 0) c (p + (sL (tx (M 0 9 0) c p) - 1)) = 59 := fun z => hg ⟨s0, g1, z⟩
      rw [if_pos g1] at hL
      simp only [r161_0, r161_1, r161_2, r161_3, r161_6, r161_7, r161_8, r161_9, r161_10, r161_11, r161_12, r161_17, r161_18, r161_19, r161_20, K35 M hc h8 (show p < 1000 by omega), nI_add, em, t, nI_1, hL, r161_43, r161_44, r161_45, K32 M hc h8 (show p + (sL (tx (M 0 9 0) c p) - 1) < 1000 by omega), r161_48, r161_50, h59, r161_57, r161_58, g1, cbI_some, reduceIte]
    · rw [if_neg g1] at hL
      simp only [r161_0, r161_1, r161_2, r161_3, r161_6, r161_7, r161_8, r161_9, r161_10, r161_11, r161_12, r161_17, r161_18, r161_19, r161_20, K35 M hc h8 (show p < 1000 by omega), nI_add, em, t, nI_1, hL, cbI_some, reduceIte]
theorem K161g (hc : c ≤ 96) (h8 : M 0 8 0 1 = nI c) (hby : ∀ q, byteO (tx (M 0 9 0) c q)) {p : Nat} (hp : p < 100) (hg : Gd (tx (M 0 9 0) c) p) : call 161 [aR 0 8 0, aI (nI p)] M = some (some (-1), M) := by
  obtain ⟨s0, g1, h59⟩ := hg
  obtain ⟨s9, s03⟩ := sL_le (tx (M 0 9 0) c p)
  have hl : 3 ≤ sL (tx (M 0 9 0) c p) := by omega
  have t : (nI (p + (sL (tx (M 0 9 0) c p) - 1)) < nI p) = False := by rw [nIlt (by omega) (by omega)]; exact eq_false (by omega)
  have em : nI (p + sL (tx (M 0 9 0) c p)) - 1 = nI (p + (sL (tx (M 0 9 0) c p) - 1)) := by rw [show p + sL (tx (M 0 9 0) c p) = (p + (sL (tx (M 0 9 0) c p) - 1)) + 1 by omega, nI_pred]
  have hL := K161L M hc h8 hby (p := p) (l := sL (tx (M 0 9 0) c p)) (by omega) hl s9 (sL (tx (M 0 9 0) c p) - 2) (p + 1) (by omega) (by omega)
  have hT := eq_true h59
  rw [if_pos g1] at hL
  rw [c161]
  simp only [r161_0, r161_1, r161_2, r161_3, r161_6, r161_7, r161_8, r161_9, r161_10, r161_11, r161_12, r161_17, r161_18, r161_19, r161_20, K35 M hc h8 (show p < 1000 by omega), nI_add, em, t, nI_1, hL, r161_43, r161_44, r161_45, K32 M hc h8 (show p + (sL (tx (M 0 9 0) c p) - 1) < 1000 by omega), r161_48, r161_50, hT, r161_53, r161_54, r161_58, cbI_some, reduceIte]
theorem m1lt : ((-1 : Int32) < 0) = True := eq_true (by decide)
theorem k96 {k : Nat} (hk : k < 96) : (nI k < 96) = True := by
  have e96 : nI 96 = 96 := by decide +kernel
  rw [← e96, nIlt (by omega) (by omega)]
  exact eq_true (by omega)
theorem K34b (hc : c ≤ 96) (h8 : M 0 8 0 1 = nI c) (hby : ∀ q, byteO (tx (M 0 9 0) c q)) {p k : Nat} (hp : p < 100) (hk : k < 96) (hg : ¬ Gd (tx (M 0 9 0) c) p) (l3 : AV) : run 34 4 [aR 0 8 0, aI (nI p), aI (nI k), l3] [] M = some (some (nI (flt (tx (M 0 9 0) c) p)), M) := by
  have hfl := flt_le (tx (M 0 9 0) c) hp
  have t1 := k96 hk
  have t2 : (nI (flt (tx (M 0 9 0) c) p) < 0) = False := eq_false (nI_pos (by omega))
  rw [r34_4]
  simp only [r34_5, r34_7, r34_10, r34_11, r34_12, r34_15, r34_16, r34_17, r34_20, r34_21, t1, K161b M hc h8 hby hp hg, t2, cbI_some, reduceIte]
theorem K34g1 (hc : c ≤ 96) (h8 : M 0 8 0 1 = nI c) (hby : ∀ q, byteO (tx (M 0 9 0) c q)) {p k : Nat} (hp : p < 100) (hk : k < 96) (hg : Gd (tx (M 0 9 0) c) p) (l3 : AV) : run 34 4 [aR 0 8 0, aI (nI p), aI (nI k), l3] [] M = run 34 22 [aR 0 8 0, aI (nI p), aI (nI k), aI (-1)] [] M := by
  have t1 := k96 hk
  have t2 := m1lt
  rw [r34_4]
  simp only [r34_5, r34_7, r34_10, r34_11, r34_12, r34_15, r34_16, r34_17, t1, K161g M hc h8 hby hp hg, t2, cbI_some, reduceIte]
theorem K34g2 (hc : c ≤ 96) (h8 : M 0 8 0 1 = nI c) {p k : Nat} (hp : p < 100) (v : AV) : run 34 22 [aR 0 8 0, aI (nI p), aI (nI k), v] [] M = if nI (p + sL (tx (M 0 9 0) c p)) < nI c then run 34 4 [aR 0 8 0, aI (nI (p + sL (tx (M 0 9 0) c p))), aI (nI (k + 1)), v] [] M else some (some (-1), M) := by
  rw [r34_22]
  simp only [r34_23, r34_24, r34_25, r34_28, r34_29, r34_30, r34_31, r34_32, r34_35, r34_38, r34_39, r34_40, r34_43, K35 M hc h8 (show p < 1000 by omega), nI_add, nI_1, h8, cbI_some]
theorem K34g (hc : c ≤ 96) (h8 : M 0 8 0 1 = nI c) (hby : ∀ q, byteO (tx (M 0 9 0) c q)) {p k : Nat} (hp : p < 100) (hk : k < 96) (hg : Gd (tx (M 0 9 0) c) p) (l3 : AV) : run 34 4 [aR 0 8 0, aI (nI p), aI (nI k), l3] [] M = if p + sL (tx (M 0 9 0) c p) < c then run 34 4 [aR 0 8 0, aI (nI (p + sL (tx (M 0 9 0) c p))), aI (nI (k + 1)), aI (-1)] [] M else some (some (-1), M) := by
  obtain ⟨s9, s03⟩ := sL_le (tx (M 0 9 0) c p)
  rw [K34g1 M hc h8 hby hp hk hg l3, K34g2 M hc h8 hp]
  by_cases e : p + sL (tx (M 0 9 0) c p) < c
  · rw [if_pos e, if_pos ((nI_ltI (by omega) (by omega)).mpr e)]
  · rw [if_neg e, if_neg (fun z => e ((nI_ltI (by omega) (by omega)).mp z))]
end Shape
