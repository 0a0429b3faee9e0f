/-! the reference, one method after the other -/
def mIn (v lo hi : Int32) : Int32 := if v < lo then 0 else if hi < v then 0 else 1
def mBo (v lo hi : Int32) : Int32 := if v < lo then -4 else if hi < v then -6 else 0
def mWaL (N : Nm) (k : Int32) : Nat → Nat → Int32
  | _, 0 => 1
  | m, n + 1 => if N 19 0 m = 2 then (if N 21 0 m = k then 0 else mWaL N k (m + 1) n) else mWaL N k (m + 1) n
def mWa (N : Nm) (m k : Nat) : Int32 := if N 17 0 k < N 14 0 1 then mWaL N (nI k) 0 m else if N 18 0 k < N 14 0 1 then mWaL N (nI k) 0 m else 0
def mKe (N : Nm) (k : Nat) : Int32 := if N 14 0 6 = 1 then mLe (N 17 0 k) (N 18 0 k) else if N 14 0 6 = 2 then (nI k - N 12 0 12 - 1 + 2 * N 12 0 10) - (nI k - N 12 0 12 - 1 + 2 * N 12 0 10) / N 12 0 10 * N 12 0 10 else if N 14 0 6 = 3 then -N 16 0 k else if N 14 0 6 = 4 then mLe (N 17 0 k / (mBr N k * mUn (N 15 0 k))) (N 18 0 k / mBr N k) else if N 14 0 6 = 5 then -nI k else nI k
def mKb (N : Nm) (k : Nat) : Int32 := if N 14 0 6 = 2 then (if N 12 0 12 < 0 then nI k else mKe N k) else mKe N k
def oI : Option Nat → Int32
  | none => -9
  | some b => nI b
def mSv (N : Nm) (m : Nat) : Nat → Nat → Option Nat → Option Nat
  | _, 0, b => b
  | k, n + 1, b => mSv N m (k + 1) n (if mWa N m k = 0 then b else match b with | none => some k | some b' => if mKb N k < mKb N b' then some k else some b')
def mBg (N : Nm) (j : Nat) (w t : Int32) : Nm := wrN (wrN N 19 0 j w) 20 0 j t
def mTe (N : Nm) (b : Nat) (v : Int32) : Nm := wrN (wrN N 31 0 b v) 12 0 33 (nI (b + 1))
def mHe (N : Nm) (v most : Int32) : Nm := wrN N 12 0 32 (N 12 0 32 + if most < v then v - most else 0)
theorem m9lt : (-9 : Int32) < 0 := by decide +kernel
theorem m9ne (k : Nat) (h : k < 2147483648) : ¬ (-9 : Int32) = nI k := fun e => nI_pos h (e ▸ m9lt)
theorem nIlt {a b : Nat} (ha : a < 2147483648) (hb : b < 2147483648) : (nI a < nI b) = (a < b) := propext (nI_ltI ha hb)
section Ref2
variable (M : Mm) (N : Nm)
theorem m83 (a b c : Int32) : call 83 [aI a, aI b, aI c] (va_up M 4 N) = some (some (mIn a b c), va_up M 4 N) := by
  simp only [c83, r83_0, r83_1, r83_2, r83_5, r83_6, r83_7, r83_10, r83_11, r83_14, r83_15, true_or, or_true, reduceIte]
  unfold mIn
  repeat' split
  all_goals rfl
theorem m84 (a b c : Int32) : call 84 [aI a, aI b, aI c] (va_up M 4 N) = some (some (mBo a b c), va_up M 4 N) := by
  simp only [c84, r84_0, r84_1, r84_2, r84_5, r84_7, r84_10, r84_11, r84_12, r84_15, r84_17, r84_20, r84_21]
  unfold mBo
  repeat' split
  all_goals rfl
theorem m112 {k : Nat} (hk : k < 4) : call 112 [aR 4 12 0, aI (nI k)] (va_up M 4 N) = some (some (mLe (N 17 0 k) (N 18 0 k)), va_up M 4 N) := by
  have hv := vp_t hk (by decide)
  have ht := tn hk (by decide)
  simp only [c112, r112_0, r112_1, r112_4, r112_5, r112_6, r112_7, r112_10, r112_11, r112_12, r112_15, up_same, hv, ht, reduceIte, m109, cbI_some]
theorem m113 {k : Nat} (hk : k < 4) (h1 : ¬ mBr N k = 0) (h2 : ¬ mBr N k * mUn (N 15 0 k) = 0) : call 113 [aR 4 12 0, aI (nI k)] (va_up M 4 N) = some (some (mLe (N 17 0 k / (mBr N k * mUn (N 15 0 k))) (N 18 0 k / mBr N k)), va_up M 4 N) := by
  have hv := vp_t hk (by decide)
  have ht := tn hk (by decide)
  simp only [c113, r113_0, r113_1, r113_4, r113_5, r113_6, r113_7, r113_8, r113_11, r113_12, r113_15, r113_16, r113_17, r113_20, r113_21, r113_22, r113_23, r113_26, r113_27, r113_28, r113_29, r113_30, r113_33, r113_34, r113_37, up_same, hv, ht, reduceIte, m106 M N hk, m107, m109, h1, h2, cbI_some]
theorem m114 {k : Nat} (hk : k < 4) (h0 : ¬ N 12 0 10 = 0) (h1 : ¬ mBr N k = 0) (h2 : ¬ mBr N k * mUn (N 15 0 k) = 0) : call 114 [aR 4 12 0, aI (nI k)] (va_up M 4 N) = some (some (mKe N k), va_up M 4 N) := by
  have hv := vp_t hk (by decide)
  have ht := tn hk (by decide)
  simp only [c114, r114_0, r114_1, r114_4, r114_6, r114_7, r114_40, r114_41, r114_42, r114_45, r114_46, r114_47, r114_48, r114_51, r114_52, r114_53, r114_54, r114_55, r114_56, r114_59, r114_60, r114_61, r114_62, r114_65, r114_66, r114_67, r114_68, r114_71, r114_72, r114_73, r114_74, r114_75, r114_76, r114_77, r114_80, r114_81, r114_82, r114_83, r114_84, r114_85, up_same, v7_6, tn6, hv, ht, reduceIte, m112 M N hk, m113 M N hk h1 h2, h0, cbI_some]
  unfold mKe
  repeat' split
  all_goals rfl
theorem m116 {k : Nat} (hk : k < 4) (h0 : ¬ N 12 0 10 = 0) (h1 : ¬ mBr N k = 0) (h2 : ¬ mBr N k * mUn (N 15 0 k) = 0) : call 116 [aR 4 12 0, aI (nI k)] (va_up M 4 N) = some (some (mKb N k), va_up M 4 N) := by
  simp only [c116, r116_0, r116_1, r116_4, r116_6, r116_7, r116_8, r116_11, r116_12, r116_15, r116_18, r116_19, r116_22, r116_23, r116_24, r116_27, up_same, v7_6, tn6, reduceIte, m114 M N hk h0 h1 h2, cbI_some]
  unfold mKb
  repeat' split
  all_goals rfl
theorem m111L {k m : Nat} (hk : k < 4) (hm : N 14 0 0 = nI m) (h3 : m ≤ 3) : ∀ n j : Nat, j + n = m → run 111 34 [aR 4 12 0, aI (nI k), aI (nI j)] [] (va_up M 4 N) = some (some (mWaL N (nI k) j n), va_up M 4 N) := by
  intro n
  induction n with
  | zero =>
    intro j hj
    have hc : (nI j < nI m) = False := by rw [nIlt (by omega) (by omega)]; exact eq_false (by omega)
    rw [r111_34]
    simp only [r111_0, r111_1, r111_4, r111_5, r111_6, r111_7, r111_10, r111_11, r111_12, r111_15, r111_16, r111_19, r111_20, r111_21, r111_22, r111_25, r111_26, r111_27, r111_30, r111_31, r111_32, r111_33, r111_35, r111_36, r111_39, r111_40, r111_41, r111_44, r111_45, r111_48, r111_49, r111_50, r111_51, r111_54, r111_55, r111_58, r111_59, r111_60, r111_61, r111_64, r111_65, r111_66, r111_69, r111_72, r111_73, up_same, v7_0, tn0, reduceIte, hm, hc, or_true, mWaL]
  | succ n ih =>
    intro j hj
    have hc : (nI j < nI m) = True := by rw [nIlt (by omega) (by omega)]; exact eq_true (by omega)
    have hv : vpB (nI j) 3 = true := vp_t (by omega) (by decide)
    have ht : (nI j).toNatClampNeg = j := tn (n := 3) (by omega) (by decide)
    rw [r111_34]
    simp only [r111_0, r111_1, r111_4, r111_5, r111_6, r111_7, r111_10, r111_11, r111_12, r111_15, r111_16, r111_19, r111_20, r111_21, r111_22, r111_25, r111_26, r111_27, r111_30, r111_31, r111_32, r111_33, r111_35, r111_36, r111_39, r111_40, r111_41, r111_44, r111_45, r111_48, r111_49, r111_50, r111_51, r111_54, r111_55, r111_58, r111_59, r111_60, r111_61, r111_64, r111_65, r111_66, r111_69, r111_72, r111_73, up_same, v7_0, tn0, reduceIte, hm, hc, hv, ht, true_or, nI_1, ih (j + 1) (by omega), mWaL]
    repeat' split
    all_goals rfl
theorem m111 {k m : Nat} (hk : k < 4) (hm : N 14 0 0 = nI m) (h3 : m ≤ 3) : call 111 [aR 4 12 0, aI (nI k)] (va_up M 4 N) = some (some (mWa N m k), va_up M 4 N) := by
  have hv := vp_t hk (by decide)
  have ht := tn hk (by decide)
  have hl := m111L M N hk hm h3 m 0 (by omega)
  rw [nI_0] at hl
  simp only [c111, r111_0, r111_1, r111_4, r111_5, r111_6, r111_7, r111_10, r111_11, r111_12, r111_15, r111_16, r111_19, r111_20, r111_21, r111_22, r111_25, r111_26, r111_27, r111_30, r111_31, r111_32, r111_33, r111_35, r111_36, r111_39, r111_40, r111_41, r111_44, r111_45, r111_48, r111_49, r111_50, r111_51, r111_54, r111_55, r111_58, r111_59, r111_60, r111_61, r111_64, r111_65, r111_66, r111_69, r111_72, r111_73, up_same, hv, ht, v7_1, tn1, reduceIte, hl, true_or]
  unfold mWa
  repeat' split
  all_goals rfl
theorem m115L {L m : Nat} (hL : N 12 0 10 = nI L) (hL4 : L ≤ 4) (hm : N 14 0 0 = nI m) (h3 : m ≤ 3) (h1 : ∀ k, k < L → ¬ mBr N k = 0 ∧ ¬ mBr N k * mUn (N 15 0 k) = 0) : ∀ (n k : Nat) (b : Option Nat), k + n = L → (∀ c, b = some c → c < k) → run 115 5 [aR 4 12 0, aI (oI b), aI (nI k)] [] (va_up M 4 N) = some (some (oI (mSv N m k n b)), va_up M 4 N) := by
  intro n
  induction n with
  | zero =>
    intro k b hk hb
    have hc : (nI k < nI L) = False := by rw [nIlt (by omega) (by omega)]; exact eq_false (by omega)
    rw [r115_5]
    simp only [r115_0, r115_2, r115_3, r115_4, r115_6, r115_7, r115_10, r115_13, r115_14, r115_15, r115_18, r115_21, r115_22, r115_25, r115_26, r115_27, r115_30, r115_31, r115_32, r115_35, r115_38, r115_39, r115_40, r115_43, r115_46, r115_47, up_same, reduceIte, hL, hc, mSv]
  | succ n ih =>
    intro k b hk hb
    have hc : (nI k < nI L) = True := by rw [nIlt (by omega) (by omega)]; exact eq_true (by omega)
    have h0 : ¬ N 12 0 10 = 0 := by rw [hL]; exact nI_ne0 (by omega) (by omega)
    have hkk := h1 k (by omega)
    rw [r115_5]
    cases b with
    | none =>
      have ih1 := ih (k + 1) none (by omega) (by intro c h; cases h)
      have ih2 := ih (k + 1) (some k) (by omega) (by intro c h; cases h; omega)
      simp only [oI] at ih1 ih2 ⊢
      simp only [r115_0, r115_2, r115_3, r115_4, r115_6, r115_7, r115_10, r115_13, r115_14, r115_15, r115_18, r115_21, r115_22, r115_25, r115_26, r115_27, r115_30, r115_31, r115_32, r115_35, r115_38, r115_39, r115_40, r115_43, r115_46, r115_47, up_same, reduceIte, hL, hc, m111 M N (show k < 4 by omega) hm h3, cbI_some, m9lt, nI_1, ih1, ih2, mSv]
      split <;> rfl
    | some c =>
      have hcl := hb c rfl
      have ih1 := ih (k + 1) (some c) (by omega) (by intro d h; cases h; omega)
      have ih2 := ih (k + 1) (some k) (by omega) (by intro d h; cases h; omega)
      have hcp : (nI c < 0) = False := eq_false (nI_pos (by omega))
      have hcc := h1 c (by omega)
      simp only [oI] at ih1 ih2 ⊢
      simp only [r115_0, r115_2, r115_3, r115_4, r115_6, r115_7, r115_10, r115_13, r115_14, r115_15, r115_18, r115_21, r115_22, r115_25, r115_26, r115_27, r115_30, r115_31, r115_32, r115_35, r115_38, r115_39, r115_40, r115_43, r115_46, r115_47, up_same, reduceIte, hL, hc, m111 M N (show k < 4 by omega) hm h3, cbI_some, hcp, nI_1, m116 M N (show k < 4 by omega) h0 hkk.1 hkk.2, m116 M N (show c < 4 by omega) h0 hcc.1 hcc.2, ih1, ih2, mSv]
      repeat' split
      all_goals rfl
theorem m115 {L m : Nat} (hL : N 12 0 10 = nI L) (hL4 : L ≤ 4) (hm : N 14 0 0 = nI m) (h3 : m ≤ 3) (h1 : ∀ k, k < L → ¬ mBr N k = 0 ∧ ¬ mBr N k * mUn (N 15 0 k) = 0) : call 115 [aR 4 12 0] (va_up M 4 N) = some (some (oI (mSv N m 0 L none)), va_up M 4 N) := by
  have hl := m115L M N hL hL4 hm h3 h1 L 0 none (by omega) (by intro c h; cases h)
  rw [nI_0] at hl
  simp only [c115, r115_0, r115_2, r115_3, r115_4, r115_6, r115_7, r115_10, r115_13, r115_14, r115_15, r115_18, r115_21, r115_22, r115_25, r115_26, r115_27, r115_30, r115_31, r115_32, r115_35, r115_38, r115_39, r115_40, r115_43, r115_46, r115_47]
  exact hl
theorem m117 {j : Nat} (hj : j < 3) (w t : Int32) : call 117 [aR 4 12 0, aI (nI j), aI w, aI t] (va_up M 4 N) = some (none, va_up M 4 (mBg N j w t)) := by
  have hv := vp_t hj (by decide)
  have ht := tn hj (by decide)
  simp only [c117, r117_0, r117_1, r117_4, r117_5, r117_6, r117_7, r117_8, r117_11, r117_12, r117_13, r117_14, hv, ht, reduceIte, wr_up]
  rfl
theorem m118 {b : Nat} (hb : N 12 0 33 = nI b) (h8 : b < 800) (v : Int32) : call 118 [aR 4 12 0, aI v] (va_up M 4 N) = some (none, va_up M 4 (mTe N b v)) := by
  have hv : vpB (nI b) 800 = true := vp_t h8 (by decide)
  have ht : (nI b).toNatClampNeg = b := tn h8 (by decide)
  have hc : (nI b < 800) = True := eq_true (nI_lt (a := b) (b := 800) h8 (by decide))
  simp only [c118, r118_0, r118_1, r118_4, r118_5, r118_8, r118_9, r118_12, r118_13, r118_16, r118_17, r118_20, r118_21, r118_22, r118_23, r118_24, r118_27, r118_28, r118_29, r118_32, up_same, hv, ht, hb, hc, reduceIte, wr_up, wn_k, nI_1, ne_eq, Nat.reduceEqDiff, not_false_eq_true]
  rfl
theorem m120 (v most : Int32) : call 120 [aR 4 12 0, aI v, aI most] (va_up M 4 N) = some (some (mLe v most), va_up M 4 (mHe N v most)) := by
  simp only [c120, r120_0, r120_1, r120_2, r120_5, r120_6, r120_7, r120_10, r120_11, r120_12, r120_13, r120_16, r120_17, r120_18, r120_21, r120_22, r120_23, r120_26, up_same, wr_up, m109, cbI_some]
  unfold mHe
  split <;> rfl
end Ref2
