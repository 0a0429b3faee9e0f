/-! letters: what both sides read -/
def tx (r : Nat → Int32) (c q : Nat) : Int32 := if q < c then r q else -1
def sL (b : Int32) : Nat := if b = 104 then 5 else if b = 109 then 3 else if b = 110 then 4 else if b = 114 then 3 else if b = 117 then 5 else if b = 120 then 7 else if b = 121 then 9 else 0
def lyO (a : Int32) : Int32 := if a = 98 then 4 else if a = 99 then 1 else if a = 108 then 0 else if a = 115 then 5 else if a = 116 then 3 else if a = 119 then 2 else -1
def ruO (a : Int32) : Int32 := if a = 101 then 1 else if a = 102 then 0 else if a = 108 then 5 else if a = 113 then 3 else if a = 114 then 2 else if a = 115 then 4 else -1
def dg (a : Int32) : Bool := if a < 48 then false else if 57 < a then false else true
def fit (t : Nat → Int32) (p i : Nat) : Bool := if t i < 0 then false else if i = p + 1 then (if t p = 121 then decide (¬ lyO (t i) < 0) else if t p = 114 then decide (¬ ruO (t i) < 0) else dg (t i)) else dg (t i)
def ff (t : Nat → Int32) (p : Nat) : Nat → Nat → Nat
  | q, 0 => q
  | q, n + 1 => if fit t p q = true then ff t p (q + 1) n else q
def df (t : Nat → Int32) : Nat → Nat → Nat
  | q, 0 => q
  | q, n + 1 => if dg (t q) = true then df t (q + 1) n else q
def numV (t : Nat → Int32) : Nat → Nat → Int32 → Int32
  | _, 0, v => v
  | q, n + 1, v => numV t (q + 1) n (v * 10 + t q - 48)
/-- a byte, or none -/
def byteO (a : Int32) : Prop := a = -1 ∨ ∃ z, z < 256 ∧ a = nI z
def i2 (a : Int32) : Int32 := (a.toUInt32 % 65536).toInt32
theorem ix_ly : ∀ z, z < 256 → ix 35 (i2 (nI z)) = lyO (nI z) ∧ ix 36 (i2 (nI z)) = ruO (nI z) := by decide +kernel
theorem ly_m1 : lyO (-1) = -1 ∧ ruO (-1) = -1 ∧ dg (-1) = false ∧ (-1 : Int32) < 0 ∧ sL (-1) = 0 ∧ ix 35 (i2 (-1)) = -1 ∧ ix 36 (i2 (-1)) = -1 := by decide +kernel
theorem ix_b {a : Int32} (h : byteO a) : ix 35 (i2 a) = lyO a ∧ ix 36 (i2 a) = ruO a := by
  rcases h with rfl | ⟨z, hz, rfl⟩
  · exact ⟨by decide +kernel, by decide +kernel⟩
  · exact ix_ly z hz
theorem by_pos {a : Int32} (h : byteO a) (h2 : ¬ a < 0) : ∃ z, z < 256 ∧ a = nI z := by
  rcases h with rfl | h
  · exact absurd ly_m1.2.2.2.1 h2
  · exact h
theorem sL_le (b : Int32) : sL b ≤ 9 ∧ (sL b = 0 ∨ 3 ≤ sL b) := by
  unfold sL
  repeat' split
  all_goals decide
theorem dg_pos {a : Int32} (h : dg a = true) : ¬ a < 0 := by
  intro h2
  unfold dg at h
  rw [if_pos (Int32.lt_trans h2 (by decide +kernel))] at h
  cases h
theorem df_ge (t : Nat → Int32) : ∀ n q, q ≤ df t q n ∧ df t q n ≤ q + n := by
  intro n
  induction n with
  | zero => intro q; exact ⟨Nat.le_refl _, Nat.le_refl _⟩
  | succ n ih =>
    intro q
    rw [df]
    have := ih (q + 1)
    split
    · omega
    · omega
theorem ff_ge (t : Nat → Int32) (p : Nat) : ∀ n q, q ≤ ff t p q n ∧ ff t p q n ≤ q + n := by
  intro n
  induction n with
  | zero => intro q; exact ⟨Nat.le_refl _, Nat.le_refl _⟩
  | succ n ih =>
    intro q
    rw [ff]
    have := ih (q + 1)
    split
    · omega
    · omega
theorem ff_df (t : Nat → Int32) {p : Nat} : ∀ n q, (p + 1 < q ∨ (¬ t p = 121 ∧ ¬ t p = 114)) → ff t p q n = df t q n := by
  intro n
  induction n with
  | zero => intro q _; rfl
  | succ n ih =>
    intro q hq
    rw [ff, df, ih (q + 1) (by rcases hq with h | h; exact Or.inl (by omega); exact Or.inr h)]
    have e : fit t p q = dg (t q) := by
      unfold fit
      by_cases h0 : t q < 0
      · rw [if_pos h0]
        have : ¬ dg (t q) = true := fun z => dg_pos z h0
        simpa using this
      · rw [if_neg h0]
        rcases hq with h | ⟨h1, h2⟩
        · rw [if_neg (by omega)]
        · rw [if_neg h1, if_neg h2, ite_self]
    rw [e]
theorem df_split (t : Nat → Int32) : ∀ (a b q : Nat), df t q (a + b) = if df t q a = q + a then df t (q + a) b else df t q a := by
  intro a
  induction a with
  | zero => intro b q; rw [if_pos (show df t q 0 = q + 0 from rfl), Nat.zero_add]; rfl
  | succ a ih =>
    intro b q
    rw [show a + 1 + b = (a + b) + 1 by omega, df, df, ih b (q + 1)]
    by_cases h : dg (t q) = true
    · rw [if_pos h, if_pos h, show q + 1 + a = q + (a + 1) by omega]
    · rw [if_neg h, if_neg h, if_neg (by omega)]
section Text
variable (M : Mm) {c : Nat}
theorem K32 (hc : c ≤ 96) (h8 : M 0 8 0 1 = nI c) {p : Nat} (hp : p < 1000) : call 32 [aR 0 8 0, aI (nI p)] M = some (some (tx (M 0 9 0) c p), M) := by
  have h0 : (nI p < 0) = False := eq_false (nI_pos (by omega))
  by_cases e : p < c
  · have eT : (nI p < nI c) = True := by rw [nIlt (by omega) (by omega)]; exact eq_true e
    have hv : vpB (nI p) 96 = true := vp_t (by omega) (by decide)
    have htn : (nI p).toNatClampNeg = p := tn (n := 96) (by omega) (by decide)
    simp only [c32, r32_0, r32_1, r32_4, r32_5, r32_6, r32_9, r32_12, r32_13, r32_16, r32_17, r32_18, r32_21, r32_22, h0, h8, eT, hv, htn, reduceIte, tx, e]
  · have eF : (nI p < nI c) = False := by rw [nIlt (by omega) (by omega)]; exact eq_false e
    simp only [c32, r32_0, r32_1, r32_4, r32_5, r32_6, r32_9, r32_12, r32_13, r32_16, r32_17, r32_18, r32_21, r32_22, h0, h8, eF, reduceIte, tx, e]
theorem m89 (N : Nm) (hc : c ≤ 96) {r : Nat → Int32} (hr : N 23 0 = r) (h18 : N 12 0 18 = nI c) {p : Nat} (hp : p < 1000) (h19 : N 12 0 19 = nI p) : call 89 [aR 4 12 0] (va_up M 4 N) = some (some (tx r c p), va_up M 4 N) := by
  by_cases e : p < c
  · have eT : (nI p < nI c) = True := by rw [nIlt (by omega) (by omega)]; exact eq_true e
    have hv : vpB (nI p) 96 = true := vp_t (by omega) (by decide)
    have htn : (nI p).toNatClampNeg = p := tn (n := 96) (by omega) (by decide)
    simp only [c89, r89_0, r89_1, r89_4, r89_5, r89_8, r89_11, r89_12, r89_15, r89_16, r89_19, r89_20, r89_23, r89_24, up_same, h18, h19, eT, hv, htn, reduceIte, tx, e, hr]
  · have eF : (nI p < nI c) = False := by rw [nIlt (by omega) (by omega)]; exact eq_false e
    simp only [c89, r89_0, r89_1, r89_4, r89_5, r89_8, r89_11, r89_12, r89_15, r89_16, r89_19, r89_20, r89_23, r89_24, up_same, h18, h19, eF, reduceIte, tx, e]
theorem K35 (hc : c ≤ 96) (h8 : M 0 8 0 1 = nI c) {p : Nat} (hp : p < 1000) : call 35 [aR 0 8 0, aI (nI p)] M = some (some (nI (sL (tx (M 0 9 0) c p))), M) := by
  simp only [c35, r35_0, r35_1, r35_2, r35_5, r35_92, r35_94, r35_95, r35_96, r35_97, r35_98, r35_99, r35_101, r35_102, r35_103, r35_104, r35_105, r35_106, r35_107, r35_108, r35_109, K32 M hc h8 hp, cbI_some]
  unfold sL
  repeat' split
  all_goals rfl
theorem m91 (N : Nm) (a : Int32) : call 91 [aI a] (va_up M 4 N) = some (some (lyO a), va_up M 4 N) := by
  simp only [c91, r91_0, r91_1, r91_60, r91_61, r91_62, r91_63, r91_64, r91_65, r91_66, r91_67, r91_68, r91_69, r91_70, r91_71, r91_72, r91_73]
  unfold lyO
  repeat' split
  all_goals rfl
theorem m92 (N : Nm) (a : Int32) : call 92 [aI a] (va_up M 4 N) = some (some (ruO a), va_up M 4 N) := by
  simp only [c92, r92_0, r92_1, r92_76, r92_77, r92_78, r92_79, r92_80, r92_81, r92_82, r92_83, r92_84, r92_85, r92_86, r92_87, r92_88, r92_89]
  unfold ruO
  repeat' split
  all_goals rfl
theorem K36 (hc : c ≤ 96) (h8 : M 0 8 0 1 = nI c) {p i : Nat} (hp : p < 900) (hi : i < 1000) (hb : byteO (tx (M 0 9 0) c i)) : call 36 [aR 0 8 0, aI (nI i), aI (nI p)] M = some (some (if fit (tx (M 0 9 0) c) p i = true then 1 else 0), M) := by
  obtain ⟨b1, b2⟩ := ix_b hb
  unfold i2 at b1 b2
  have e1 : (nI i = nI (p + 1)) = (i = p + 1) := nIneq (by omega) (by omega)
  unfold fit
  by_cases h0 : tx (M 0 9 0) c i < 0
  · have h0T := eq_true h0
    simp only [c36, r36_0, r36_1, r36_2, r36_5, r36_6, r36_7, r36_10, r36_11, r36_12, r36_13, r36_14, r36_15, r36_16, r36_19, r36_20, r36_21, r36_24, r36_26, r36_29, r36_31, r36_32, r36_33, r36_36, r36_39, r36_40, r36_43, r36_44, r36_45, r36_46, r36_47, r36_48, r36_49, r36_52, r36_53, r36_54, r36_57, r36_59, r36_62, r36_64, r36_65, r36_66, r36_69, r36_72, r36_73, r36_76, r36_77, r36_78, r36_79, r36_81, r36_84, r36_85, r36_87, r36_90, r36_91, r36_94, r36_95, K32 M hc h8 hi, h0T, true_or, or_true, reduceIte, cbI_some, Bool.false_eq_true]
  · by_cases h1 : i = p + 1
    · have h1T := eq_true h1
      by_cases h2 : tx (M 0 9 0) c p = 121
      · have h2T := eq_true h2
        by_cases h3 : lyO (tx (M 0 9 0) c i) < 0
        · have h3T := eq_true h3
          simp only [c36, r36_0, r36_1, r36_2, r36_5, r36_6, r36_7, r36_10, r36_11, r36_12, r36_13, r36_14, r36_15, r36_16, r36_19, r36_20, r36_21, r36_24, r36_26, r36_29, r36_31, r36_32, r36_33, r36_36, r36_39, r36_40, r36_43, r36_44, r36_45, r36_46, r36_47, r36_48, r36_49, r36_52, r36_53, r36_54, r36_57, r36_59, r36_62, r36_64, r36_65, r36_66, r36_69, r36_72, r36_73, r36_76, r36_77, r36_78, r36_79, r36_81, r36_84, r36_85, r36_87, r36_90, r36_91, r36_94, r36_95, K32 M hc h8 hi, K32 M hc h8 (show p < 1000 by omega), h0, nI_1, e1, h1T, h2T, b1, h3T, not_true_eq_false, decide_false, true_or, or_true, reduceIte, cbI_some, Bool.false_eq_true]
        · simp only [c36, r36_0, r36_1, r36_2, r36_5, r36_6, r36_7, r36_10, r36_11, r36_12, r36_13, r36_14, r36_15, r36_16, r36_19, r36_20, r36_21, r36_24, r36_26, r36_29, r36_31, r36_32, r36_33, r36_36, r36_39, r36_40, r36_43, r36_44, r36_45, r36_46, r36_47, r36_48, r36_49, r36_52, r36_53, r36_54, r36_57, r36_59, r36_62, r36_64, r36_65, r36_66, r36_69, r36_72, r36_73, r36_76, r36_77, r36_78, r36_79, r36_81, r36_84, r36_85, r36_87, r36_90, r36_91, r36_94, r36_95, K32 M hc h8 hi, K32 M hc h8 (show p < 1000 by omega), h0, nI_1, e1, h1T, h2T, b1, h3, not_false_eq_true, decide_true, true_or, or_true, reduceIte, cbI_some]
      · by_cases h4 : tx (M 0 9 0) c p = 114
        · have h4T := eq_true h4
          by_cases h3 : ruO (tx (M 0 9 0) c i) < 0
          · have h3T := eq_true h3
            simp only [c36, r36_0, r36_1, r36_2, r36_5, r36_6, r36_7, r36_10, r36_11, r36_12, r36_13, r36_14, r36_15, r36_16, r36_19, r36_20, r36_21, r36_24, r36_26, r36_29, r36_31, r36_32, r36_33, r36_36, r36_39, r36_40, r36_43, r36_44, r36_45, r36_46, r36_47, r36_48, r36_49, r36_52, r36_53, r36_54, r36_57, r36_59, r36_62, r36_64, r36_65, r36_66, r36_69, r36_72, r36_73, r36_76, r36_77, r36_78, r36_79, r36_81, r36_84, r36_85, r36_87, r36_90, r36_91, r36_94, r36_95, K32 M hc h8 hi, K32 M hc h8 (show p < 1000 by omega), h0, nI_1, e1, h1T, h2, h4T, b2, h3T, not_true_eq_false, decide_false, true_or, or_true, reduceIte, cbI_some, Bool.false_eq_true]
          · simp only [c36, r36_0, r36_1, r36_2, r36_5, r36_6, r36_7, r36_10, r36_11, r36_12, r36_13, r36_14, r36_15, r36_16, r36_19, r36_20, r36_21, r36_24, r36_26, r36_29, r36_31, r36_32, r36_33, r36_36, r36_39, r36_40, r36_43, r36_44, r36_45, r36_46, r36_47, r36_48, r36_49, r36_52, r36_53, r36_54, r36_57, r36_59, r36_62, r36_64, r36_65, r36_66, r36_69, r36_72, r36_73, r36_76, r36_77, r36_78, r36_79, r36_81, r36_84, r36_85, r36_87, r36_90, r36_91, r36_94, r36_95, K32 M hc h8 hi, K32 M hc h8 (show p < 1000 by omega), h0, nI_1, e1, h1T, h2, h4T, b2, h3, not_false_eq_true, decide_true, true_or, or_true, reduceIte, cbI_some]
        · simp only [c36, r36_0, r36_1, r36_2, r36_5, r36_6, r36_7, r36_10, r36_11, r36_12, r36_13, r36_14, r36_15, r36_16, r36_19, r36_20, r36_21, r36_24, r36_26, r36_29, r36_31, r36_32, r36_33, r36_36, r36_39, r36_40, r36_43, r36_44, r36_45, r36_46, r36_47, r36_48, r36_49, r36_52, r36_53, r36_54, r36_57, r36_59, r36_62, r36_64, r36_65, r36_66, r36_69, r36_72, r36_73, r36_76, r36_77, r36_78, r36_79, r36_81, r36_84, r36_85, r36_87, r36_90, r36_91, r36_94, r36_95, K32 M hc h8 hi, K32 M hc h8 (show p < 1000 by omega), h0, nI_1, e1, h1T, h2, h4, true_or, or_true, reduceIte, cbI_some]
          unfold dg
          repeat' split
          all_goals (first | rfl | simp_all)
    · simp only [c36, r36_0, r36_1, r36_2, r36_5, r36_6, r36_7, r36_10, r36_11, r36_12, r36_13, r36_14, r36_15, r36_16, r36_19, r36_20, r36_21, r36_24, r36_26, r36_29, r36_31, r36_32, r36_33, r36_36, r36_39, r36_40, r36_43, r36_44, r36_45, r36_46, r36_47, r36_48, r36_49, r36_52, r36_53, r36_54, r36_57, r36_59, r36_62, r36_64, r36_65, r36_66, r36_69, r36_72, r36_73, r36_76, r36_77, r36_78, r36_79, r36_81, r36_84, r36_85, r36_87, r36_90, r36_91, r36_94, r36_95, K32 M hc h8 hi, h0, nI_1, e1, h1, true_or, or_true, reduceIte, cbI_some]
      unfold dg
      repeat' split
      all_goals (first | rfl | simp_all)
theorem K33L (hc : c ≤ 96) (h8 : M 0 8 0 1 = nI c) {p d : Nat} (hp : p < 900) (hd : d ≤ 9) : ∀ (n i : Nat) (v : Int32), i + n = d → run 33 5 [aR 0 8 0, aI (nI p), aI (nI d), aI v, aI (nI i)] [] M = some (some (numV (tx (M 0 9 0) c) (p + i) n v), M) := by
  intro n
  induction n with
  | zero =>
    intro i v hi
    have t : (nI i < nI d) = False := by rw [nIlt (by omega) (by omega)]; exact eq_false (by omega)
    rw [r33_5]
    simp only [r33_0, r33_1, r33_2, r33_3, r33_7, r33_8, r33_11, r33_12, r33_14, r33_15, r33_16, r33_17, r33_19, r33_20, r33_23, r33_24, r33_26, r33_27, r33_28, r33_31, r33_34, r33_35, t, reduceIte, numV]
  | succ n ih =>
    intro i v hi
    have t : (nI i < nI d) = True := by rw [nIlt (by omega) (by omega)]; exact eq_true (by omega)
    rw [r33_5]
    simp only [r33_0, r33_1, r33_2, r33_3, r33_7, r33_8, r33_11, r33_12, r33_14, r33_15, r33_16, r33_17, r33_19, r33_20, r33_23, r33_24, r33_26, r33_27, r33_28, r33_31, r33_34, r33_35, t, nI_add, K32 M hc h8 (show p + i < 1000 by omega), cbI_some, ih (i + 1) _ (by omega), nI_1, reduceIte, numV, ← Nat.add_assoc]
theorem K33 (hc : c ≤ 96) (h8 : M 0 8 0 1 = nI c) {p d : Nat} (hp : p < 900) (hd : d ≤ 9) : call 33 [aR 0 8 0, aI (nI p), aI (nI d)] M = some (some (numV (tx (M 0 9 0) c) p d 0), M) := by
  have h := K33L M hc h8 hp hd d 0 0 (by omega)
  rw [nI_0] at h
  simp only [c33, r33_0, r33_1, r33_2, r33_3, h, Nat.add_zero]
theorem m93 (N : Nm) {w p : Nat} (hw : w < 192) (h19 : N 12 0 19 = nI p) (a : Int32) : call 93 [aR 4 12 0, aI (nI w), aI a] (va_up M 4 N) = if a < 0 then some (some 0, va_up M 4 N) else some (some 1, va_up M 4 (wrN (wrN N 26 0 w a) 12 0 19 (nI (p + 1)))) := by
  have hv : vpB (nI w) 192 = true := vp_t hw (by decide)
  have htn : (nI w).toNatClampNeg = w := tn hw (by decide)
  simp only [c93, r93_0, r93_1, r93_4, r93_5, r93_6, r93_7, r93_10, r93_11, r93_12, r93_13, r93_14, r93_15, r93_18, r93_19, r93_20, r93_23, r93_24, up_same, hv, htn, wr_up, wn_k _ _ _ _ (show (12 : Nat) ≠ 26 by decide), h19, nI_1, true_or, or_true, reduceIte]
theorem m90L {r : Nat → Int32} {w p d : Nat} (hc : c ≤ 96) (hw : w < 192) (hp : p < 900) (hd : d ≤ 3) : ∀ (n i : Nat) (v : Int32) (N : Nm), i + n = d → N 23 0 = r → N 12 0 18 = nI c → N 12 0 19 = nI (p + i) → run 90 5 [aR 4 12 0, aI (nI w), aI (nI d), aI v, aI (nI i)] [] (va_up M 4 N) = if df (tx r c) (p + i) n = p + d then some (some 1, va_up M 4 (wrN (wrN N 12 0 19 (nI (p + d))) 26 0 w (numV (tx r c) (p + i) n v))) else some (some 0, va_up M 4 (wrN N 12 0 19 (nI (df (tx r c) (p + i) n)))) := by
  have hv : vpB (nI w) 192 = true := vp_t hw (by decide)
  have htn : (nI w).toNatClampNeg = w := tn hw (by decide)
  intro n
  induction n with
  | zero =>
    intro i v N hi hr h18 h19
    have : i = d := by omega
    subst this
    have t : (nI i < nI i) = False := eq_false (fun z => Int32.lt_irrefl z)
    rw [r90_5, df, if_pos rfl, wn_id N 12 0 19 _ h19]
    simp only [r90_0, r90_1, r90_2, r90_3, r90_7, r90_8, r90_11, r90_12, r90_15, r90_17, r90_19, r90_22, r90_25, r90_26, r90_27, r90_29, r90_30, r90_31, r90_32, r90_35, r90_36, r90_38, r90_39, r90_40, r90_41, r90_42, r90_45, r90_46, r90_47, r90_50, r90_53, r90_56, r90_57, r90_60, r90_61, r90_62, r90_63, r90_64, t, hv, htn, wr_up, true_or, or_true, reduceIte, numV]
  | succ n ih =>
    intro i v N hi hr h18 h19
    have t : (nI i < nI d) = True := by rw [nIlt (by omega) (by omega)]; exact eq_true (by omega)
    have hn := m89 M N hc hr h18 (show p + i < 1000 by omega) h19
    have hv0 : 10 * v + tx r c (p + i) - 48 = v * 10 + tx r c (p + i) - 48 := by rw [Int32.mul_comm]
    have ih' := ih (i + 1) (v * 10 + tx r c (p + i) - 48) (wrN N 12 0 19 (nI (p + i + 1))) (by omega) (by rw [wn_k _ _ _ _ (by decide)]; exact hr) (by rw [wn_j _ _ _ _ (by decide)]; exact h18) (wn_eq _ _ _ _ _)
    rw [wn_wn, wn_wn] at ih'
    rw [r90_5, df, numV]
    by_cases g : dg (tx r c (p + i)) = true
    · have gi : mIn (tx r c (p + i)) 48 57 = 1 := by
        unfold dg at g
        unfold mIn
        split at g
        · cases g
        · rename_i g1
          split at g
          · cases g
          · rename_i g2
            rw [if_neg g1, if_neg g2]
      rw [if_pos g]
      simp only [r90_0, r90_1, r90_2, r90_3, r90_7, r90_8, r90_11, r90_12, r90_15, r90_17, r90_19, r90_22, r90_25, r90_26, r90_27, r90_29, r90_30, r90_31, r90_32, r90_35, r90_36, r90_38, r90_39, r90_40, r90_41, r90_42, r90_45, r90_46, r90_47, r90_50, r90_53, r90_56, r90_57, r90_60, r90_61, r90_62, r90_63, r90_64, t, hn, m83, gi, q10, hv0, cbI_some, up_same, wr_up, h19, nI_1, ih', ← Nat.add_assoc, reduceIte]
    · have gi : mIn (tx r c (p + i)) 48 57 = 0 := by
        unfold dg at g
        unfold mIn
        by_cases g1 : tx r c (p + i) < 48
        · rw [if_pos g1]
        · rw [if_neg g1] at g ⊢
          by_cases g2 : 57 < tx r c (p + i)
          · rw [if_pos g2]
          · rw [if_neg g2] at g
            exact absurd rfl g
      rw [if_neg g, if_neg (by omega), wn_id N 12 0 19 _ h19]
      simp only [r90_0, r90_1, r90_2, r90_3, r90_7, r90_8, r90_11, r90_12, r90_15, r90_17, r90_19, r90_22, r90_25, r90_26, r90_27, r90_29, r90_30, r90_31, r90_32, r90_35, r90_36, r90_38, r90_39, r90_40, r90_41, r90_42, r90_45, r90_46, r90_47, r90_50, r90_53, r90_56, r90_57, r90_60, r90_61, r90_62, r90_63, r90_64, t, hn, m83, gi, cbI_some, true_or, or_true, reduceIte]
theorem m90 (N : Nm) {r : Nat → Int32} {w p d : Nat} (hc : c ≤ 96) (hw : w < 192) (hp : p < 900) (hd : d ≤ 3) (hr : N 23 0 = r) (h18 : N 12 0 18 = nI c) (h19 : N 12 0 19 = nI p) : call 90 [aR 4 12 0, aI (nI w), aI (nI d)] (va_up M 4 N) = if df (tx r c) p d = p + d then some (some 1, va_up M 4 (wrN (wrN N 12 0 19 (nI (p + d))) 26 0 w (numV (tx r c) p d 0))) else some (some 0, va_up M 4 (wrN N 12 0 19 (nI (df (tx r c) p d)))) := by
  have h := m90L M (r := r) (w := w) (p := p) (d := d) hc hw hp hd d 0 0 N (by omega) hr h18 h19
  rw [nI_0] at h
  rw [c90]
  simp only [r90_0, r90_1, r90_2, r90_3]
  exact h
end Text
theorem y104_109 : ((104 : Int32) = 109) = False := by decide +kernel
theorem y104_110 : ((104 : Int32) = 110) = False := by decide +kernel
theorem y104_114 : ((104 : Int32) = 114) = False := by decide +kernel
theorem y104_117 : ((104 : Int32) = 117) = False := by decide +kernel
theorem y104_120 : ((104 : Int32) = 120) = False := by decide +kernel
theorem y104_121 : ((104 : Int32) = 121) = False := by decide +kernel
theorem y109_104 : ((109 : Int32) = 104) = False := by decide +kernel
theorem y109_110 : ((109 : Int32) = 110) = False := by decide +kernel
theorem y109_114 : ((109 : Int32) = 114) = False := by decide +kernel
theorem y109_117 : ((109 : Int32) = 117) = False := by decide +kernel
theorem y109_120 : ((109 : Int32) = 120) = False := by decide +kernel
theorem y109_121 : ((109 : Int32) = 121) = False := by decide +kernel
theorem y110_104 : ((110 : Int32) = 104) = False := by decide +kernel
theorem y110_109 : ((110 : Int32) = 109) = False := by decide +kernel
theorem y110_114 : ((110 : Int32) = 114) = False := by decide +kernel
theorem y110_117 : ((110 : Int32) = 117) = False := by decide +kernel
theorem y110_120 : ((110 : Int32) = 120) = False := by decide +kernel
theorem y110_121 : ((110 : Int32) = 121) = False := by decide +kernel
theorem y114_104 : ((114 : Int32) = 104) = False := by decide +kernel
theorem y114_109 : ((114 : Int32) = 109) = False := by decide +kernel
theorem y114_110 : ((114 : Int32) = 110) = False := by decide +kernel
theorem y114_117 : ((114 : Int32) = 117) = False := by decide +kernel
theorem y114_120 : ((114 : Int32) = 120) = False := by decide +kernel
theorem y114_121 : ((114 : Int32) = 121) = False := by decide +kernel
theorem y117_104 : ((117 : Int32) = 104) = False := by decide +kernel
theorem y117_109 : ((117 : Int32) = 109) = False := by decide +kernel
theorem y117_110 : ((117 : Int32) = 110) = False := by decide +kernel
theorem y117_114 : ((117 : Int32) = 114) = False := by decide +kernel
theorem y117_120 : ((117 : Int32) = 120) = False := by decide +kernel
theorem y117_121 : ((117 : Int32) = 121) = False := by decide +kernel
theorem y120_104 : ((120 : Int32) = 104) = False := by decide +kernel
theorem y120_109 : ((120 : Int32) = 109) = False := by decide +kernel
theorem y120_110 : ((120 : Int32) = 110) = False := by decide +kernel
theorem y120_114 : ((120 : Int32) = 114) = False := by decide +kernel
theorem y120_117 : ((120 : Int32) = 117) = False := by decide +kernel
theorem y120_121 : ((120 : Int32) = 121) = False := by decide +kernel
theorem y121_104 : ((121 : Int32) = 104) = False := by decide +kernel
theorem y121_109 : ((121 : Int32) = 109) = False := by decide +kernel
theorem y121_110 : ((121 : Int32) = 110) = False := by decide +kernel
theorem y121_114 : ((121 : Int32) = 114) = False := by decide +kernel
theorem y121_117 : ((121 : Int32) = 117) = False := by decide +kernel
theorem y121_120 : ((121 : Int32) = 120) = False := by decide +kernel
