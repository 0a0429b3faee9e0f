/-! answers: badly -/
def gB (f1 f2 : Bool) : Int32 := (if f1 = true then 43 else 0) + (if f2 = true then 20 else 0)
/-- the pairs from i on fit units u -/
def cFt (A : Nat → Int32) (u : Int32) : Nat → Nat → Bool
  | _, 0 => true
  | i, n + 1 => decide (A (2 * i) * u = A (2 * i + 1)) && cFt A u (i + 1) n
theorem nI_2 (a : Nat) : nI a + 2 = nI (a + 2) := nI_add a 2
section Badly
variable (M : Mm)
theorem K75L (u : Int32) {p : Nat} (hp : p ≤ 10) (hd : M 0 7 0 6 = nI (2 * p)) : ∀ n i : Nat, i + n = p → run 75 2 [aR 0 7 0, aI u, aI (nI (2 * i))] [] M = some (some (if cFt (M 0 10 0) u i n = true then 1 else 0), M) := by
  intro n
  induction n with
  | zero =>
    intro i hi
    have : i = p := by omega
    subst this
    have hc : (nI (2 * i + 1) < nI (2 * i)) = False := by rw [nIlt (by omega) (by omega)]; exact eq_false (by omega)
    rw [r75_2]
    simp only [r75_0, r75_1, r75_3, r75_4, r75_5, r75_6, r75_9, r75_12, r75_13, r75_16, r75_17, r75_18, r75_19, r75_20, r75_21, r75_24, r75_25, r75_26, r75_27, r75_28, r75_31, r75_32, r75_33, r75_36, r75_39, r75_40, nI_1, hd, hc, or_true, true_or, reduceIte, cFt]
  | succ n ih =>
    intro i hi
    have hc : (nI (2 * i + 1) < nI (2 * p)) = True := by rw [nIlt (by omega) (by omega)]; exact eq_true (by omega)
    have hv : vpB (nI (2 * i)) 20 = true := vp_t (by omega) (by decide)
    have hv1 : vpB (nI (2 * i + 1)) 20 = true := vp_t (by omega) (by decide)
    have ht : (nI (2 * i)).toNatClampNeg = 2 * i := tn (n := 20) (by omega) (by decide)
    have ht1 : (nI (2 * i + 1)).toNatClampNeg = 2 * i + 1 := tn (n := 20) (by omega) (by decide)
    have ih' := ih (i + 1) (by omega)
    rw [show 2 * (i + 1) = 2 * i + 2 by omega] at ih'
    rw [r75_2]
    by_cases e : M 0 10 0 (2 * i) * u = M 0 10 0 (2 * i + 1)
    · have eT := eq_true e
      simp only [r75_0, r75_1, r75_3, r75_4, r75_5, r75_6, r75_9, r75_12, r75_13, r75_16, r75_17, r75_18, r75_19, r75_20, r75_21, r75_24, r75_25, r75_26, r75_27, r75_28, r75_31, r75_32, r75_33, r75_36, r75_39, r75_40, nI_1, nI_2, hd, hc, hv, hv1, ht, ht1, eT, ih', or_true, true_or, reduceIte, cFt, decide_true, Bool.true_and]
    · have eF : decide (M 0 10 0 (2 * i) * u = M 0 10 0 (2 * i + 1)) = false := decide_eq_false e
      simp only [r75_0, r75_1, r75_3, r75_4, r75_5, r75_6, r75_9, r75_12, r75_13, r75_16, r75_17, r75_18, r75_19, r75_20, r75_21, r75_24, r75_25, r75_26, r75_27, r75_28, r75_31, r75_32, r75_33, r75_36, r75_39, r75_40, nI_1, hd, hc, hv, hv1, ht, ht1, e, or_true, true_or, reduceIte, cFt, decide_false, Bool.false_and, Bool.false_eq_true]
theorem K75 (u : Int32) {p : Nat} (hp : p ≤ 10) (hd : M 0 7 0 6 = nI (2 * p)) : call 75 [aR 0 7 0, aI u] M = some (some (if cFt (M 0 10 0) u 0 p = true then 1 else 0), M) := by
  have h := K75L M u hp hd p 0 (by omega)
  rw [Nat.mul_zero, nI_0] at h
  simp only [c75, r75_0, r75_1, h]
theorem K78 (a : Int32) : call 78 [aI a] M = some (some (mUn a), M) := by
  simp only [c78, r78_0, r78_1, r78_2, r78_5, r78_6, r78_7, r78_10, r78_11, r78_14, r78_15]
  unfold mUn
  repeat' split
  all_goals rfl
theorem K59s {p : Nat} (hp : p ≤ 10) (hd : M 0 7 0 6 = nI (2 * p)) (s : Int32) {j : Nat} (hj : j < 6) (u : Int32) (hu : mUn (nI j) = u) : run 59 20 [aR 0 7 0, aI s, aI (nI j)] [] M = run 59 20 [aR 0 7 0, aI (if cFt (M 0 10 0) u 0 p = true then s ||| (1 <<< (nI j &&& 31)) else s), aI (nI (j + 1))] [] M := by
  have e6 : nI 6 = 6 := by decide +kernel
  have hc : (nI j < 6) = True := by rw [← e6]; exact eq_true (nI_lt (by omega) (by decide))
  rw [r59_20]
  by_cases e : cFt (M 0 10 0) u 0 p = true
  · simp only [r59_0, r59_1, r59_4, r59_5, r59_6, r59_9, r59_10, r59_12, r59_15, r59_16, r59_17, r59_18, r59_19, r59_21, r59_23, r59_26, r59_27, r59_28, r59_31, r59_34, r59_37, r59_38, r59_39, r59_40, r59_41, r59_42, r59_43, r59_46, r59_49, r59_50, hc, K78, hu, K75 M u hp hd, e, q10, cbI_some, nI_1, reduceIte]
  · simp only [r59_0, r59_1, r59_4, r59_5, r59_6, r59_9, r59_10, r59_12, r59_15, r59_16, r59_17, r59_18, r59_19, r59_21, r59_23, r59_26, r59_27, r59_28, r59_31, r59_34, r59_37, r59_38, r59_39, r59_40, r59_41, r59_42, r59_43, r59_46, r59_49, r59_50, hc, K78, hu, K75 M u hp hd, e, cbI_some, nI_1, reduceIte, Bool.false_eq_true]
theorem K59 {p : Nat} (hp : p ≤ 10) (hd : M 0 7 0 6 = nI (2 * p)) : run 59 20 [aR 0 7 0, aI 0, aI 0] [] M = some (some (gB (cFt (M 0 10 0) 1 0 p) (cFt (M 0 10 0) 2 0 p)), M) := by
  have s0 := K59s M hp hd 0 (j := 0) (by decide) 1 (by decide +kernel)
  rw [nI_0] at s0
  rw [s0, K59s M hp hd _ (j := 1) (by decide) 1 (by decide +kernel), K59s M hp hd _ (j := 1 + 1) (by decide) 2 (by decide +kernel), K59s M hp hd _ (j := 1 + 1 + 1) (by decide) 1 (by decide +kernel), K59s M hp hd _ (j := 1 + 1 + 1 + 1) (by decide) 2 (by decide +kernel), K59s M hp hd _ (j := 1 + 1 + 1 + 1 + 1) (by decide) 1 (by decide +kernel), r59_20]
  have hc : (nI (1 + 1 + 1 + 1 + 1 + 1) < 6) = False := by decide +kernel
  simp only [r59_0, r59_1, r59_4, r59_5, r59_6, r59_9, r59_10, r59_12, r59_15, r59_16, r59_17, r59_18, r59_19, r59_21, r59_23, r59_26, r59_27, r59_28, r59_31, r59_34, r59_37, r59_38, r59_39, r59_40, r59_41, r59_42, r59_43, r59_46, r59_49, r59_50, hc, reduceIte]
  generalize cFt (M 0 10 0) 1 0 p = f1
  generalize cFt (M 0 10 0) 2 0 p = f2
  congr 2
  congr 1
  revert f1 f2
  decide +kernel
variable (N : Nm)
theorem m155s {d k : Nat} (hk : k + 1 < 20) (s : Int32) (hd : N 12 0 42 = nI d) {j : Nat} (hj : j < 6) (u : Int32) (hu : mUn (nI j) = u) : run 155 32 [aR 4 12 0, aI s, aI (nI k), aI (nI j)] [] (va_up M 4 N) = run 155 32 [aR 4 12 0, aI (s &&& (if N 32 0 (k + 1) = N 32 0 k * u then (63 : Int32) else ((1 : Int32) <<< (nI j &&& 31)) ^^^ (-1 : Int32))), aI (nI k), aI (nI (j + 1))] [] (va_up M 4 N) := by
  have e6 : nI 6 = 6 := by decide +kernel
  have hc : (nI j < 6) = True := by rw [← e6]; exact eq_true (nI_lt (by omega) (by decide))
  have hv : vpB (nI k) 20 = true := vp_t (by omega) (by decide)
  have hv1 : vpB (nI (k + 1)) 20 = true := vp_t (by omega) (by decide)
  have ht : (nI k).toNatClampNeg = k := tn (n := 20) (by omega) (by decide)
  have ht1 : (nI (k + 1)).toNatClampNeg = k + 1 := tn (n := 20) (by omega) (by decide)
  rw [r155_32]
  by_cases e : N 32 0 (k + 1) = N 32 0 k * u
  · have eT := eq_true e
    simp only [r155_0, r155_1, r155_4, r155_5, r155_6, r155_7, r155_10, r155_11, r155_13, r155_16, r155_17, r155_19, r155_20, r155_21, r155_23, r155_24, r155_27, r155_30, r155_31, r155_33, r155_35, r155_38, r155_39, r155_40, r155_43, r155_44, r155_45, r155_46, r155_47, r155_48, r155_51, r155_52, r155_53, r155_54, r155_57, r155_58, r155_61, r155_63, r155_66, r155_67, r155_68, r155_69, r155_70, r155_71, r155_72, r155_73, r155_76, r155_79, r155_82, r155_85, r155_86, hc, up_same, nI_1, hv, hv1, ht, ht1, m107, hu, eT, cbI_some, reduceIte]
  · simp only [r155_0, r155_1, r155_4, r155_5, r155_6, r155_7, r155_10, r155_11, r155_13, r155_16, r155_17, r155_19, r155_20, r155_21, r155_23, r155_24, r155_27, r155_30, r155_31, r155_33, r155_35, r155_38, r155_39, r155_40, r155_43, r155_44, r155_45, r155_46, r155_47, r155_48, r155_51, r155_52, r155_53, r155_54, r155_57, r155_58, r155_61, r155_63, r155_66, r155_67, r155_68, r155_69, r155_70, r155_71, r155_72, r155_73, r155_76, r155_79, r155_82, r155_85, r155_86, hc, up_same, nI_1, hv, hv1, ht, ht1, m107, hu, e, cbI_some, reduceIte]
theorem m155i {d k : Nat} (hk : k + 1 < 20) (hd : N 12 0 42 = nI d) (f1 f2 : Bool) : run 155 32 [aR 4 12 0, aI (gB f1 f2), aI (nI k), aI 0] [] (va_up M 4 N) = run 155 22 [aR 4 12 0, aI (gB (f1 && decide (N 32 0 k * 1 = N 32 0 (k + 1))) (f2 && decide (N 32 0 k * 2 = N 32 0 (k + 1)))), aI (nI (k + 2)), aI (nI 6)] [] (va_up M 4 N) := by
  have s0 := m155s M N hk (gB f1 f2) hd (j := 0) (by decide) 1 (by decide +kernel)
  rw [nI_0] at s0
  rw [s0, m155s M N hk _ hd (j := 0 + 1) (by decide) 1 (by decide +kernel), m155s M N hk _ hd (j := 0 + 1 + 1) (by decide) 2 (by decide +kernel), m155s M N hk _ hd (j := 0 + 1 + 1 + 1) (by decide) 1 (by decide +kernel), m155s M N hk _ hd (j := 0 + 1 + 1 + 1 + 1) (by decide) 2 (by decide +kernel), m155s M N hk _ hd (j := 0 + 1 + 1 + 1 + 1 + 1) (by decide) 1 (by decide +kernel), r155_32]
  have hc : (nI (0 + 1 + 1 + 1 + 1 + 1 + 1) < 6) = False := by decide +kernel
  simp only [r155_33, r155_35, r155_79, r155_82, hc, nI_2, reduceIte]
  congr 3
  congr 2
  have x1 : decide (N 32 0 k * 1 = N 32 0 (k + 1)) = decide (N 32 0 (k + 1) = N 32 0 k * 1) := decide_eq_decide.mpr eq_comm
  have x2 : decide (N 32 0 k * 2 = N 32 0 (k + 1)) = decide (N 32 0 (k + 1) = N 32 0 k * 2) := decide_eq_decide.mpr eq_comm
  rw [x1, x2]
  by_cases e1 : N 32 0 (k + 1) = N 32 0 k * 1
  · by_cases e2 : N 32 0 (k + 1) = N 32 0 k * 2
    · simp only [if_pos e1, if_pos e2, decide_eq_true e1, decide_eq_true e2]
      clear s0
      revert f1 f2
      decide +kernel
    · simp only [if_pos e1, if_neg e2, decide_eq_true e1, decide_eq_false e2]
      clear s0
      revert f1 f2
      decide +kernel
  · by_cases e2 : N 32 0 (k + 1) = N 32 0 k * 2
    · simp only [if_neg e1, if_pos e2, decide_eq_false e1, decide_eq_true e2]
      clear s0
      revert f1 f2
      decide +kernel
    · simp only [if_neg e1, if_neg e2, decide_eq_false e1, decide_eq_false e2]
      clear s0
      revert f1 f2
      decide +kernel
theorem m155L {p : Nat} (hp : p ≤ 10) (hd : N 12 0 42 = nI (2 * p)) : ∀ (n i : Nat) (f1 f2 : Bool) (z : AV), i + n = p → run 155 22 [aR 4 12 0, aI (gB f1 f2), aI (nI (2 * i)), z] [] (va_up M 4 N) = some (some (gB (f1 && cFt (N 32 0) 1 i n) (f2 && cFt (N 32 0) 2 i n)), va_up M 4 N) := by
  intro n
  induction n with
  | zero =>
    intro i f1 f2 z hi
    have : i = p := by omega
    subst this
    have hc : (nI (2 * i) < nI (2 * i)) = False := eq_false (fun h => Int32.lt_irrefl h)
    rw [r155_22]
    simp only [r155_23, r155_24, r155_27, r155_85, r155_86, up_same, hd, hc, reduceIte, cFt, Bool.and_true]
  | succ n ih =>
    intro i f1 f2 z hi
    have hc : (nI (2 * i) < nI (2 * p)) = True := by rw [nIlt (by omega) (by omega)]; exact eq_true (by omega)
    have hs := m155i M N (k := 2 * i) (by omega) hd f1 f2
    have ih' := fun f1 f2 z => ih (i + 1) f1 f2 z (by omega)
    rw [show 2 * (i + 1) = 2 * i + 2 by omega] at ih'
    rw [r155_22]
    simp only [r155_23, r155_24, r155_27, r155_30, r155_31, up_same, hd, hc, reduceIte, hs, ih', cFt, Bool.and_assoc]
theorem cFt_eq {A B : Nat → Int32} (u : Int32) {p : Nat} (h : ∀ q, q < 2 * p → A q = B q) : ∀ n i, i + n = p → cFt A u i n = cFt B u i n := by
  intro n
  induction n with
  | zero => intro i _; rfl
  | succ n ih =>
    intro i hi
    rw [cFt, cFt, h _ (by omega), h _ (by omega), ih (i + 1) (by omega)]
end Badly
theorem par_f : ∀ d, d ≤ 20 → (d % 2 = 0 → nI d - nI d / 2 * 2 = 0) ∧ (d % 2 = 1 → nI d - nI d / 2 * 2 = 1) := by decide +kernel
theorem q01 : ((0 : Int32) = 1) = False := by decide +kernel
theorem ans_badly : Ans 59 155 [] := by
  intro M h
  obtain ⟨⟨L, m, h0⟩, ⟨hhod, hlat⟩, ⟨hw0, hdr0, hwN, hdN⟩, him, htx, ⟨d, rc1, rc2, rc3, rc4⟩, hrf⟩ := id h
  obtain ⟨p0, p1⟩ := par_f d rc1
  by_cases hd : d % 2 = 0
  · obtain ⟨p, rfl⟩ : ∃ p, d = 2 * p := ⟨d / 2, by omega⟩
    have e0 := p0 hd
    have k1 := K59 M (p := p) (by omega) rc2
    have m1 := fun X => m155L X (M 4) (p := p) (by omega) rc3 p 0 true true none (by omega)
    rw [Nat.mul_zero, nI_0] at m1
    have e63 : gB true true = 63 := by decide +kernel
    rw [e63] at m1
    refine Ans.id h (v := gB (cFt (M 0 10 0) 1 0 p) (cFt (M 0 10 0) 2 0 p)) ?_ (fun X => ?_)
    · simp only [c59, r59_0, r59_1, r59_4, r59_5, r59_6, r59_16, r59_17, r59_18, r59_19, rc2, n20, e0, reduceIte, k1]
    · simp only [c155, r155_0, r155_1, r155_4, r155_5, r155_6, r155_7, r155_17, r155_19, r155_20, r155_21, up_same, rc3, n20, e0, q01, reduceIte, m1, Bool.true_and, cFt_eq (A := M 0 10 0) (B := M 4 32 0) 1 rc4 p 0 (by omega), cFt_eq (A := M 0 10 0) (B := M 4 32 0) 2 rc4 p 0 (by omega)]
  · have e0 := p1 (by omega)
    refine Ans.no h rf3 ?_ (fun X => ?_)
    · simp only [c59, r59_0, r59_1, r59_4, r59_5, r59_6, r59_9, r59_10, r59_12, r59_15, rc2, n20, e0, q10, reduceIte, K66_3, cbI_some]
    · simp only [c155, r155_0, r155_1, r155_4, r155_5, r155_6, r155_7, r155_10, r155_11, r155_13, r155_16, up_same, rc3, n20, e0, reduceIte, m81_3, cbI_some]
