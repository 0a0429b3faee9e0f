abbrev Nm : Type := Nat → Nat → Nat → Int32
theorem wn_if (N : Nm) (k i j j' : Nat) (v : Int32) : wrN N k i j v k i j' = if j' = j then v else N k i j' := by
  unfold wrN
  rw [up_same, up_same]
  rfl
theorem wn_eq (N : Nm) (k i j : Nat) (v : Int32) : wrN N k i j v k i j = v := by rw [wn_if, if_pos rfl]
theorem wn_j (N : Nm) (k i : Nat) {j j' : Nat} (v : Int32) (h : j' ≠ j) : wrN N k i j v k i j' = N k i j' := by rw [wn_if, if_neg h]
theorem wn_k (N : Nm) {k k' : Nat} (i j : Nat) (v : Int32) (h : k' ≠ k) : wrN N k i j v k' = N k' := by
  unfold wrN
  exact up_ne _ _ h
theorem wn_i (N : Nm) (k : Nat) {i i' : Nat} (j : Nat) (v : Int32) (h : i' ≠ i) : wrN N k i j v k i' = N k i' := by
  unfold wrN
  rw [up_same]
  exact up_ne _ _ h
theorem vp_nI {i : Nat} (n : Nat) (h : i < 2147483648) : vpB (nI i) n = decide (i < n) := by
  unfold vpB
  have h1 : ¬ nI i < 0 := nI_pos h
  rw [nI_clamp h]
  by_cases hc : i < n
  · rw [decide_eq_true hc]
    exact decide_eq_true (fun z => z.elim h1 (fun z => Nat.not_le.mpr hc z))
  · rw [decide_eq_false hc]
    exact decide_eq_false (fun z => z (Or.inr (Nat.not_lt.mp hc)))
theorem vp_t {i n : Nat} (h : i < n) (hn : n < 2147483648) : vpB (nI i) n = true := by rw [vp_nI n (by omega)]; exact decide_eq_true h
theorem tn {i n : Nat} (h : i < n) (hn : n < 2147483648) : (nI i).toNatClampNeg = i := nI_clamp (by omega)
theorem tn0 : (0 : Int32).toNatClampNeg = 0 := by decide +kernel
theorem tn1 : (1 : Int32).toNatClampNeg = 1 := by decide +kernel
theorem tn2 : (2 : Int32).toNatClampNeg = 2 := by decide +kernel
theorem tn3 : (3 : Int32).toNatClampNeg = 3 := by decide +kernel
theorem tn4 : (4 : Int32).toNatClampNeg = 4 := by decide +kernel
theorem tn5 : (5 : Int32).toNatClampNeg = 5 := by decide +kernel
theorem tn6 : (6 : Int32).toNatClampNeg = 6 := by decide +kernel
theorem v7_0 : vpB 0 7 = true := by decide +kernel
theorem v7_1 : vpB 1 7 = true := by decide +kernel
theorem v7_2 : vpB 2 7 = true := by decide +kernel
theorem v7_3 : vpB 3 7 = true := by decide +kernel
theorem v7_4 : vpB 4 7 = true := by decide +kernel
theorem v7_5 : vpB 5 7 = true := by decide +kernel
theorem v7_6 : vpB 6 7 = true := by decide +kernel
theorem n20 : ¬ (2 : Int32) = 0 := by decide +kernel
theorem b10 : ¬ (1 : Int32) = 0 := by decide +kernel
theorem n50 : ¬ (5 : Int32) = 0 := by decide +kernel
theorem o01 : ((0 : Int32) = 0 ∨ (0 : Int32) = 1) = True := by decide +kernel
theorem o11 : ((1 : Int32) = 0 ∨ (1 : Int32) = 1) = True := by decide +kernel
/-! the reference: what it reads -/
def mBr (N : Nm) (k : Nat) : Int32 := if N 15 0 k = 1 then (N 16 0 k + 1) / 2 else if N 15 0 k = 4 then N 16 0 k + 1 else if N 15 0 k = 5 then (N 16 0 k + 1) / 2 + 1 else N 16 0 k
def mUn (a : Int32) : Int32 := if a = 2 then 2 else if a = 4 then 2 else 1
def mWo (N : Nm) (k : Nat) : Int32 := if N 15 0 k = 3 then (if N 12 0 11 - N 12 0 11 / 5 * 5 = 0 then 0 else mBr N k) else mBr N k
def mLe (a b : Int32) : Int32 := if a < b then a else b
def mLa (N : Nm) (k : Nat) : Int32 := mLe (mWo N k) (mLe (N 17 0 k / mUn (N 15 0 k)) (N 18 0 k))
section Ref
variable (M : Mm) (N : Nm)
theorem m106 {k : Nat} (hk : k < 4) : call 106 [aR 4 12 0, aI (nI k)] (va_up M 4 N) = some (some (mBr N k), va_up M 4 N) := by
  have hv := vp_t hk (by decide)
  have ht := tn hk (by decide)
  simp only [c106, r106_0, r106_1, r106_4, r106_5, r106_6, r106_7, r106_8, r106_9, r106_10, r106_11, r106_12, r106_15, r106_16, r106_17, r106_52, r106_53, r106_54, r106_55, r106_58, r106_59, r106_60, r106_61, r106_62, r106_63, r106_64, r106_65, r106_66, r106_67, r106_68, r106_71, r106_72, r106_73, up_same, hv, ht, n20, reduceIte]
  unfold mBr
  repeat' split
  all_goals rfl
theorem m107 (a : Int32) : call 107 [aI a] (va_up M 4 N) = some (some (mUn a), va_up M 4 N) := by
  simp only [c107, r107_0, r107_1, r107_2, r107_5, r107_6, r107_7, r107_10, r107_11, r107_14, r107_15]
  unfold mUn
  repeat' split
  all_goals rfl
theorem m108 {k : Nat} (hk : k < 4) : call 108 [aR 4 12 0, aI (nI k)] (va_up M 4 N) = some (some (mWo N k), va_up M 4 N) := by
  have hv := vp_t hk (by decide)
  have ht := tn hk (by decide)
  simp only [c108, r108_0, r108_1, r108_4, r108_5, r108_6, r108_7, r108_10, r108_11, r108_14, r108_15, r108_16, r108_19, r108_20, r108_23, r108_24, r108_25, r108_28, up_same, hv, ht, n50, reduceIte, m106 M N hk, cbI_some]
  unfold mWo
  repeat' split
  all_goals rfl
theorem m109 (a b : Int32) : call 109 [aI a, aI b] (va_up M 4 N) = some (some (mLe a b), va_up M 4 N) := by
  simp only [c109, r109_0, r109_1, r109_2, r109_5, r109_6, r109_9, r109_10]
  unfold mLe
  repeat' split
  all_goals rfl
theorem mUn0 (a : Int32) : ¬ mUn a = 0 := by
  unfold mUn
  repeat' split
  all_goals decide +kernel
theorem m110 {k : Nat} (hk : k < 4) : call 110 [aR 4 12 0, aI (nI k)] (va_up M 4 N) = some (some (mLa N k), va_up M 4 N) := by
  have hv := vp_t hk (by decide)
  have ht := tn hk (by decide)
  simp only [c110, r110_0, r110_1, r110_2, r110_5, r110_6, r110_9, r110_10, r110_11, r110_12, r110_15, r110_16, r110_17, r110_20, r110_21, r110_22, r110_25, r110_26, r110_27, r110_30, r110_33, up_same, hv, ht, reduceIte, m108 M N hk, m107, m109, mUn0, cbI_some]
  rfl
end Ref
