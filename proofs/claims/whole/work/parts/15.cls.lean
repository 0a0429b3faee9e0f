/-! the class: a site's reads and small writes; S: the rows of the site g -/
def cUs (kd pc : Int32) : Int32 := if kd = 1 then (pc + 1) / 2 else if kd = 4 then pc + 1 else if kd = 5 then (pc + 1) / 2 + 1 else pc
def cMi (a b : Int32) : Int32 := if b < a then b else a
def cWn (S : Nm) (i : Nat) (t : Int32) : Int32 := if S 2 i 0 = 3 then (if t - t / 5 * 5 = 0 then 0 else S 2 i 2) else S 2 i 2
def cLs (S : Nm) (i : Nat) : Int32 := if S 2 i 2 < 1 then 0 else if S 2 i 3 < 1 then 0 else cMi (S 2 i 4 / (S 2 i 2 * S 2 i 3)) (S 2 i 5 / S 2 i 2)
def cNdL (S : Nm) (k : Int32) : Nat → Nat → Int32
  | _, 0 => 1
  | m, n + 1 => if S 4 m 2 = k then 0 else cNdL S k (m + 1) n
def cNd (S : Nm) (m k : Nat) : Int32 := if S 2 k 4 < S 0 0 4 then cNdL S (nI k) 0 m else if S 2 k 5 < S 0 0 4 then cNdL S (nI k) 0 m else 0
def cRk (S : Nm) (k : Nat) : Int32 := if S 0 0 9 = 1 then (if S 2 k 4 < S 2 k 5 then S 2 k 4 else S 2 k 5) else if S 0 0 9 = 2 then (if S 0 0 12 < nI k then nI k else nI k + 4) else if S 0 0 9 = 3 then -S 2 k 1 else if S 0 0 9 = 4 then cLs S k else if S 0 0 9 = 5 then -nI k else nI k
def cCh (S : Nm) (m : Nat) : Nat → Nat → Option Nat → Option Nat
  | _, 0, b => b
  | k, n + 1, b => cCh S m (k + 1) n (if cNd S m k = 0 then b else match b with | none => some k | some b' => if cRk S k < cRk S b' then some k else some b')
def cBd (S : Nm) (i : Nat) (v : Int32) : Nm := wrN S 2 i 4 (cMi (S 2 i 4 + v) 60)
def cBk (S : Nm) (i : Nat) (v : Int32) : Nm := wrN S 2 i 5 (cMi (S 2 i 5 + v) 240)
def cBg (S : Nm) (j : Nat) (w t : Int32) : Nm := wrN (wrN (wrN (wrN S 4 j 0 w) 4 j 1 t) 4 j 2 (-9)) 4 j 3 0
def cCl (S : Nm) (j : Nat) (k z t : Int32) : Nm := wrN (wrN (wrN (wrN S 4 j 0 2) 4 j 1 t) 4 j 2 k) 4 j 3 z
theorem q10 : ¬ (1 : Int32) = 0 := by decide +kernel
section Cls
variable (M : Mm) (S : Nm) (g : Nat)
theorem k2 (a b : Int32) : call 2 [aI a, aI b] M = some (some (cUs a b), M) := by
  simp only [c2, r2_0, r2_1, r2_36, r2_37, r2_38, r2_39, r2_40, r2_41, r2_42, r2_43, r2_44, r2_45, r2_46, r2_47, r2_48, r2_49, r2_50, r2_51, r2_52, r2_53, r2_54, r2_55, n20, reduceIte]
  unfold cUs
  repeat' split
  all_goals rfl
theorem k3 (i : Nat) (t : Int32) : call 3 [aR g 2 i, aI t] (va_up M g S) = some (some (cWn S i t), va_up M g S) := by
  simp only [c3, r3_0, r3_1, r3_4, r3_5, r3_8, r3_9, r3_10, r3_11, r3_14, r3_15, r3_18, r3_19, r3_22, up_same, n50, reduceIte]
  unfold cWn
  repeat' split
  all_goals rfl
theorem k4 (i : Nat) (h1 : ¬ S 2 i 2 = 0) (h2 : ¬ S 2 i 2 * S 2 i 3 = 0) : call 4 [aR g 2 i] (va_up M g S) = some (some (cLs S i), va_up M g S) := by
  simp only [c4, r4_0, r4_1, r4_4, r4_5, r4_8, r4_9, r4_12, r4_13, r4_16, r4_17, r4_18, r4_19, r4_22, r4_23, r4_26, r4_27, r4_30, r4_31, r4_32, r4_33, r4_36, r4_37, r4_40, r4_41, r4_44, up_same, h1, h2, reduceIte]
  unfold cLs cMi
  repeat' split
  all_goals rfl
theorem k6 (i : Nat) (v : Int32) : call 6 [aR g 2 i, aI v] (va_up M g S) = some (some (S 2 i 4 + v - cMi (S 2 i 4 + v) 60), va_up M g (cBd S i v)) := by
  simp only [c6, r6_0, r6_1, r6_4, r6_5, r6_6, r6_7, r6_8, r6_9, r6_11, r6_14, r6_17, r6_18, r6_19, r6_22, r6_23, up_same, wr_up, wn_eq]
  rfl
theorem k7 (i : Nat) (v : Int32) : call 7 [aR g 2 i, aI v] (va_up M g S) = some (some (S 2 i 5 + v - cMi (S 2 i 5 + v) 240), va_up M g (cBk S i v)) := by
  simp only [c7, r7_0, r7_1, r7_4, r7_5, r7_6, r7_7, r7_8, r7_9, r7_12, r7_15, r7_18, r7_19, r7_20, r7_23, r7_24, up_same, wr_up, wn_eq]
  rfl
theorem k9 (j : Nat) (w t : Int32) : call 9 [aR g 4 j, aI w, aI t] (va_up M g S) = some (none, va_up M g (cBg S j w t)) := by
  simp only [c9, r9_0, r9_1, r9_2, r9_5, r9_6, r9_7, r9_10, r9_11, r9_13, r9_16, r9_17, r9_18, r9_21, wr_up, true_or, reduceIte]
  rfl
theorem k10 (j : Nat) (k z t : Int32) (hz : z = 0 ∨ z = 1) : call 10 [aR g 4 j, aI k, aI z, aI t] (va_up M g S) = some (none, va_up M g (cCl S j k z t)) := by
  simp only [c10, r10_0, r10_1, r10_2, r10_5, r10_6, r10_7, r10_10, r10_11, r10_12, r10_15, r10_16, r10_17, r10_20, wr_up, hz, reduceIte]
  rfl
theorem k12 {L : Nat} (hL : S 0 0 1 = nI L) (x : Int32) : call 12 [aR g 0 0, aI x] (va_up M g S) = some (some (if x < 0 then 0 else if x < nI L then 1 else 0), va_up M g S) := by
  simp only [c12, r12_0, r12_1, r12_4, r12_5, r12_6, r12_9, r12_12, r12_13, r12_16, r12_17, up_same, hL, true_or, or_true, reduceIte]
  repeat' split
  all_goals rfl
theorem k23L {k m : Nat} (hk : k < 4) (hm : S 0 0 3 = nI m) (h3 : m ≤ 3) : ∀ n j : Nat, j + n = m → run 23 36 [aR g 0 0, aI (nI k), aI (nI j)] [] (va_up M g S) = some (some (cNdL S (nI k) j n), va_up M g S) := by
  intro n
  induction n with
  | zero =>
    intro j hj
    have hc : (nI j < nI m) = False := by rw [nIlt (by omega) (by omega)]; exact eq_false (by omega)
    rw [r23_36]
    simp only [r23_0, r23_1, r23_4, r23_5, r23_6, r23_9, r23_10, r23_13, r23_16, r23_17, r23_20, r23_21, r23_22, r23_25, r23_26, r23_29, r23_32, r23_33, r23_34, r23_35, r23_37, r23_38, r23_41, r23_44, r23_45, r23_48, r23_49, r23_50, r23_53, r23_54, r23_57, r23_58, r23_59, r23_62, r23_65, r23_66, up_same, reduceIte, hm, hc, or_true, cNdL]
  | succ n ih =>
    intro j hj
    have hc : (nI j < nI m) = True := by rw [nIlt (by omega) (by omega)]; exact eq_true (by omega)
    have hv : vpB (nI j) 3 = true := vp_t (by omega) (by decide)
    have ht : (nI j).toNatClampNeg = j := tn (n := 3) (by omega) (by decide)
    rw [r23_36]
    simp only [r23_0, r23_1, r23_4, r23_5, r23_6, r23_9, r23_10, r23_13, r23_16, r23_17, r23_20, r23_21, r23_22, r23_25, r23_26, r23_29, r23_32, r23_33, r23_34, r23_35, r23_37, r23_38, r23_41, r23_44, r23_45, r23_48, r23_49, r23_50, r23_53, r23_54, r23_57, r23_58, r23_59, r23_62, r23_65, r23_66, up_same, reduceIte, hm, hc, hv, ht, true_or, nI_1, ih (j + 1) (by omega), cNdL]
    repeat' split
    all_goals rfl
theorem k23 {k m : Nat} (hk : k < 4) (hm : S 0 0 3 = nI m) (h3 : m ≤ 3) : call 23 [aR g 0 0, aI (nI k)] (va_up M g S) = some (some (cNd S m k), va_up M g S) := by
  have hv := vp_t hk (by decide)
  have ht := tn hk (by decide)
  have hl := k23L M S g hk hm h3 m 0 (by omega)
  rw [nI_0] at hl
  simp only [c23, r23_0, r23_1, r23_4, r23_5, r23_6, r23_9, r23_10, r23_13, r23_16, r23_17, r23_20, r23_21, r23_22, r23_25, r23_26, r23_29, r23_32, r23_33, r23_34, r23_35, r23_37, r23_38, r23_41, r23_44, r23_45, r23_48, r23_49, r23_50, r23_53, r23_54, r23_57, r23_58, r23_59, r23_62, r23_65, r23_66, up_same, hv, ht, reduceIte, hl, true_or]
  unfold cNd
  repeat' split
  all_goals rfl
theorem k24 {k : Nat} (hk : k < 4) (h1 : ¬ S 2 k 2 = 0) (h2 : ¬ S 2 k 2 * S 2 k 3 = 0) : call 24 [aR g 0 0, aI (nI k)] (va_up M g S) = some (some (cRk S k), va_up M g S) := by
  have hv := vp_t hk (by decide)
  have ht := tn hk (by decide)
  simp only [c24, r24_0, r24_1, r24_4, r24_5, r24_6, r24_7, r24_8, r24_11, r24_44, r24_45, r24_48, r24_49, r24_52, r24_55, r24_56, r24_59, r24_62, r24_63, r24_66, r24_67, r24_68, r24_69, r24_72, r24_75, r24_76, r24_79, r24_80, r24_81, r24_82, r24_83, r24_84, r24_87, r24_88, r24_89, r24_90, r24_93, r24_94, r24_95, r24_96, r24_97, r24_98, up_same, hv, ht, reduceIte, k4 M S g k h1 h2, cbI_some]
  unfold cRk
  repeat' split
  all_goals rfl
def lsO (S : Nm) : Option Nat → Int32
  | none => 0
  | some c => cRk S c
theorem k22L {L m : Nat} (hL : S 0 0 1 = nI L) (hL4 : L ≤ 4) (hm : S 0 0 3 = nI m) (h3 : m ≤ 3) (h1 : ∀ k, k < L → ¬ S 2 k 2 = 0 ∧ ¬ S 2 k 2 * S 2 k 3 = 0) : ∀ (n k : Nat) (b : Option Nat) (z : AV), k + n = L → (∀ c, b = some c → c < k) → run 22 7 [aR g 0 0, aI (oI b), aI (lsO S b), aI (nI k), z] [] (va_up M g S) = some (some (oI (cCh S m k n b)), va_up M g S) := by
  intro n
  induction n with
  | zero =>
    intro k b z hk hb
    have hc : (nI k < nI L) = False := by rw [nIlt (by omega) (by omega)]; exact eq_false (by omega)
    rw [r22_7]
    simp only [r22_0, r22_2, r22_3, r22_4, r22_5, r22_6, r22_8, r22_9, r22_12, r22_15, r22_16, r22_17, r22_20, r22_23, r22_24, r22_25, r22_28, r22_30, r22_31, r22_33, r22_36, r22_38, r22_39, r22_42, r22_43, r22_44, r22_46, r22_47, r22_50, r22_53, r22_54, up_same, reduceIte, hL, hc, cCh]
  | succ n ih =>
    intro k b z hk hb
    have hc : (nI k < nI L) = True := by rw [nIlt (by omega) (by omega)]; exact eq_true (by omega)
    have hkk := h1 k (by omega)
    have hK := k24 M S g (show k < 4 by omega) hkk.1 hkk.2
    rw [r22_7]
    cases b with
    | none =>
      have ih1 := fun z => ih (k + 1) none z (by omega) (by intro c h; cases h)
      have ih2 := fun z => ih (k + 1) (some k) z (by omega) (by intro c h; cases h; omega)
      simp only [oI, lsO] at ih1 ih2 ⊢
      simp only [r22_0, r22_2, r22_3, r22_4, r22_5, r22_6, r22_8, r22_9, r22_12, r22_15, r22_16, r22_17, r22_20, r22_23, r22_24, r22_25, r22_28, r22_30, r22_31, r22_33, r22_36, r22_38, r22_39, r22_42, r22_43, r22_44, r22_46, r22_47, r22_50, r22_53, r22_54, up_same, reduceIte, hL, hc, k23 M S g (show k < 4 by omega) hm h3, hK, cbI_some, nI_1, ih1, ih2, cCh]
      split <;> rfl
    | some c =>
      have hcl := hb c rfl
      have ih1 := fun z => ih (k + 1) (some c) z (by omega) (by intro d h; cases h; omega)
      have ih2 := fun z => ih (k + 1) (some k) z (by omega) (by intro d h; cases h; omega)
      have hcp : (nI c = -9) = False := eq_false (fun e => m9ne c (by omega) e.symm)
      simp only [oI, lsO] at ih1 ih2 ⊢
      simp only [r22_0, r22_2, r22_3, r22_4, r22_5, r22_6, r22_8, r22_9, r22_12, r22_15, r22_16, r22_17, r22_20, r22_23, r22_24, r22_25, r22_28, r22_30, r22_31, r22_33, r22_36, r22_38, r22_39, r22_42, r22_43, r22_44, r22_46, r22_47, r22_50, r22_53, r22_54, up_same, reduceIte, hL, hc, k23 M S g (show k < 4 by omega) hm h3, hK, cbI_some, hcp, nI_1, ih1, ih2, cCh]
      repeat' split
      all_goals rfl
theorem k22 {L m : Nat} (hL : S 0 0 1 = nI L) (hL4 : L ≤ 4) (hm : S 0 0 3 = nI m) (h3 : m ≤ 3) (h1 : ∀ k, k < L → ¬ S 2 k 2 = 0 ∧ ¬ S 2 k 2 * S 2 k 3 = 0) : call 22 [aR g 0 0] (va_up M g S) = some (some (oI (cCh S m 0 L none)), va_up M g S) := by
  have hl := k22L M S g hL hL4 hm h3 h1 L 0 none none (by omega) (by intro c h; cases h)
  rw [nI_0] at hl
  simp only [c22, r22_0, r22_2, r22_3, r22_4, r22_5, r22_6, r22_8, r22_9, r22_12, r22_15, r22_16, r22_17, r22_20, r22_23, r22_24, r22_25, r22_28, r22_30, r22_31, r22_33, r22_36, r22_38, r22_39, r22_42, r22_43, r22_44, r22_46, r22_47, r22_50, r22_53, r22_54]
  exact hl
end Cls
