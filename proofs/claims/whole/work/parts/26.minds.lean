/-! passesAll, both ways; allMuck, muckLeft; minds -/
theorem wn_comm (N : Nm) {k i j k' i' j' : Nat} (v v' : Int32) (h : ¬ (k = k' ∧ i = i' ∧ j = j')) : wrN (wrN N k i j v) k' i' j' v' = wrN (wrN N k' i' j' v') k i j v := by
  funext a b c
  rw [wn_ap, wn_ap, wn_ap, wn_ap]
  by_cases h1 : a = k ∧ b = i ∧ c = j
  · by_cases h2 : a = k' ∧ b = i' ∧ c = j'
    · exact absurd ⟨h1.1.symm.trans h2.1, h1.2.1.symm.trans h2.2.1, h1.2.2.symm.trans h2.2.2⟩ h
    · rw [if_neg h2, if_pos h1, if_pos h1]
  · by_cases h2 : a = k' ∧ b = i' ∧ c = j'
    · rw [if_pos h2, if_neg h1, if_pos h2]
    · rw [if_neg h2, if_neg h1, if_neg h1, if_neg h2]
theorem svP_12 (N : Nm) (w o : Nat) {j : Nat} (h1 : j ≠ 24) (h2 : j ≠ 23) : svP N w o 12 0 j = N 12 0 j := by
  unfold svP
  rw [if_neg (fun z => absurd z.1 (by decide)), if_neg (fun z => h1 z.2.2), if_neg (fun z => h2 z.2.2)]
theorem sv_zero (N : Nm) (w : Nat) : wrN (wrN N 12 0 24 (nI (50 * w))) 12 0 23 1 = svP N w 0 := by
  funext k i j
  rw [wn_ap, wn_ap]
  unfold svP
  have h0 : ¬ (k = 27 ∧ i = 0 ∧ 50 * w ≤ j ∧ j < 50 * w + 0) := fun z => by omega
  rw [if_neg h0]
  by_cases h1 : k = 12 ∧ i = 0 ∧ j = 24
  · have h2 : ¬ (k = 12 ∧ i = 0 ∧ j = 23) := fun z => by omega
    rw [if_neg h2, if_pos h1, if_pos h1]
    rfl
  · rw [if_neg h1, if_neg h1]
theorem rs_zero (N : Nm) (w : Nat) : wrN (wrN N 12 0 24 (nI (50 * w))) 12 0 23 0 = rsP N w 0 := by
  funext k i j
  rw [wn_ap, wn_ap]
  unfold rsP
  rw [if_neg (Nat.not_lt_zero _)]
  by_cases h1 : k = 12 ∧ i = 0 ∧ j = 24
  · have h2 : ¬ (k = 12 ∧ i = 0 ∧ j = 23) := fun z => by omega
    rw [if_neg h2, if_pos h1, if_pos h1]
    rfl
  · rw [if_neg h1, if_neg h1]
theorem w50 {w : Nat} (hw : w ≤ 1) : 50 * nI w = nI (50 * w) := by
  rcases (show w = 0 ∨ w = 1 by omega) with rfl | rfl <;> decide +kernel
theorem cf14 (N : Nm) {q : Nat} (hq : q < 7) : cfg N (0 + q) = N 14 0 q := by
  unfold cfg
  rw [if_pos (show 0 + q < 7 by omega), show 0 + q = q by omega]
theorem cf15 (N : Nm) {q : Nat} (hq : q < 4) : cfg N (7 + q) = N 15 0 q := by
  unfold cfg
  rw [if_neg (show ¬ 7 + q < 7 by omega), if_pos (show 7 + q < 11 by omega), show 7 + q - 7 = q by omega]
theorem cf16 (N : Nm) {q : Nat} (hq : q < 4) : cfg N (11 + q) = N 16 0 q := by
  unfold cfg
  rw [if_neg (show ¬ 11 + q < 7 by omega), if_neg (show ¬ 11 + q < 11 by omega), if_pos (show 11 + q < 15 by omega), show 11 + q - 11 = q by omega]
theorem cf17 (N : Nm) {q : Nat} (hq : q < 4) : cfg N (15 + q) = N 17 0 q := by
  unfold cfg
  rw [if_neg (show ¬ 15 + q < 7 by omega), if_neg (show ¬ 15 + q < 11 by omega), if_neg (show ¬ 15 + q < 15 by omega), if_pos (show 15 + q < 19 by omega), show 15 + q - 15 = q by omega]
theorem cf18 (N : Nm) {q : Nat} (hq : q < 4) : cfg N (19 + q) = N 18 0 q := by
  unfold cfg
  rw [if_neg (show ¬ 19 + q < 7 by omega), if_neg (show ¬ 19 + q < 11 by omega), if_neg (show ¬ 19 + q < 15 by omega), if_neg (show ¬ 19 + q < 19 by omega), if_pos (show 19 + q < 23 by omega), show 19 + q - 19 = q by omega]
theorem cf19 (N : Nm) {q : Nat} (hq : q < 3) : cfg N (23 + q) = N 19 0 q := by
  unfold cfg
  rw [if_neg (show ¬ 23 + q < 7 by omega), if_neg (show ¬ 23 + q < 11 by omega), if_neg (show ¬ 23 + q < 15 by omega), if_neg (show ¬ 23 + q < 19 by omega), if_neg (show ¬ 23 + q < 23 by omega), if_pos (show 23 + q < 26 by omega), show 23 + q - 23 = q by omega]
theorem cf20 (N : Nm) {q : Nat} (hq : q < 3) : cfg N (26 + q) = N 20 0 q := by
  unfold cfg
  rw [if_neg (show ¬ 26 + q < 7 by omega), if_neg (show ¬ 26 + q < 11 by omega), if_neg (show ¬ 26 + q < 15 by omega), if_neg (show ¬ 26 + q < 19 by omega), if_neg (show ¬ 26 + q < 23 by omega), if_neg (show ¬ 26 + q < 26 by omega), if_pos (show 26 + q < 29 by omega), show 26 + q - 26 = q by omega]
theorem cf21 (N : Nm) {q : Nat} (hq : q < 3) : cfg N (29 + q) = N 21 0 q := by
  unfold cfg
  rw [if_neg (show ¬ 29 + q < 7 by omega), if_neg (show ¬ 29 + q < 11 by omega), if_neg (show ¬ 29 + q < 15 by omega), if_neg (show ¬ 29 + q < 19 by omega), if_neg (show ¬ 29 + q < 23 by omega), if_neg (show ¬ 29 + q < 26 by omega), if_neg (show ¬ 29 + q < 29 by omega), if_pos (show 29 + q < 32 by omega), show 29 + q - 29 = q by omega]
theorem cf22 (N : Nm) {q : Nat} (hq : q < 3) : cfg N (32 + q) = N 22 0 q := by
  unfold cfg
  rw [if_neg (show ¬ 32 + q < 7 by omega), if_neg (show ¬ 32 + q < 11 by omega), if_neg (show ¬ 32 + q < 15 by omega), if_neg (show ¬ 32 + q < 19 by omega), if_neg (show ¬ 32 + q < 23 by omega), if_neg (show ¬ 32 + q < 26 by omega), if_neg (show ¬ 32 + q < 29 by omega), if_neg (show ¬ 32 + q < 32 by omega), if_pos (show 32 + q < 35 by omega), show 32 + q - 32 = q by omega]
section PassAll
variable (M : Mm) (N : Nm)
theorem m102s {w o : Nat} (hw : w ≤ 1) (ho : o < 39) {v : Int32} (hv : cfg N o = v) : call 102 [aR 4 12 0, aI v] (va_up M 4 (svP N w o)) = some (some v, va_up M 4 (svP N w (o + 1))) := by
  have hvc : vpB (nI (50 * w + o)) 100 = true := vp_t (by omega) (by decide)
  have htc : (nI (50 * w + o)).toNatClampNeg = 50 * w + o := tn (n := 100) (by omega) (by decide)
  have hs := sv_step N w o
  rw [hv] at hs
  have e24 : wrN (svP N w o) 27 0 (50 * w + o) v 12 0 24 = nI (50 * w + o) := by
    rw [wn_k _ _ _ _ (by decide), svP_24]
  simp only [c102, r102_0, r102_1, r102_4, r102_7, r102_8, r102_11, r102_12, r102_15, r102_16, r102_19, r102_20, r102_21, r102_22, r102_25, r102_28, r102_29, r102_32, r102_33, r102_36, r102_37, r102_38, r102_39, r102_40, r102_43, r102_44, r102_45, r102_48, r102_49, up_same, svP_23, svP_24, b10, hvc, htc, wr_up, e24, nI_1, hs, reduceIte]
theorem m102r {w o : Nat} (hw : w ≤ 1) (ho : o < 39) (z : Int32) : call 102 [aR 4 12 0, aI z] (va_up M 4 (rsP N w o)) = some (some (N 27 0 (50 * w + o)), va_up M 4 (wrN (rsP N w o) 12 0 24 (nI (50 * w + o + 1)))) := by
  have hvc : vpB (nI (50 * w + o)) 100 = true := vp_t (by omega) (by decide)
  have htc : (nI (50 * w + o)).toNatClampNeg = 50 * w + o := tn (n := 100) (by omega) (by decide)
  have e27 := rsP_27 N w o (50 * w + o) (by omega)
  simp only [c102, r102_0, r102_1, r102_4, r102_7, r102_8, r102_11, r102_12, r102_15, r102_16, r102_19, r102_20, r102_21, r102_22, r102_25, r102_28, r102_29, r102_32, r102_33, r102_36, r102_37, r102_38, r102_39, r102_40, r102_43, r102_44, r102_45, r102_48, r102_49, up_same, rsP_23, rsP_24, hvc, htc, e27, wr_up, nI_1, reduceIte]
theorem m101S {w o kd n : Nat} (hw : w ≤ 1) (hon : o + n ≤ 39) (hk : kd < 23) (hk1 : 13 < kd) (hn : alen kd = n) (hn0 : 0 < n) (hn7 : n ≤ 7) (hc : ∀ q, q < n → cfg N (o + q) = N kd 0 q) : call 101 [aR 4 12 0, aR 4 kd 0] (va_up M 4 (svP N w o)) = some (none, va_up M 4 (svP N w (o + n))) := by
  have h := m101s M N hw hon hk hk1 hn hn0 hn7 hc n 0 (by omega)
  rw [nI_0] at h
  rw [c101]
  simp only [r101_0, r101_1]
  exact h
theorem m101R {w o kd n : Nat} (hw : w ≤ 1) (hon : o + n ≤ 39) (hk : kd < 23) (hk1 : 13 < kd) (hn : alen kd = n) (hn0 : 0 < n) (hn7 : n ≤ 7) (hc : ∀ q, q < n → idx kd 0 q = o + q) : call 101 [aR 4 12 0, aR 4 kd 0] (va_up M 4 (rsP N w o)) = some (none, va_up M 4 (rsP N w (o + n))) := by
  have h := m101r M N hw hon hk hk1 hn hn0 hn7 hc n 0 (by omega)
  rw [nI_0] at h
  rw [c101]
  simp only [r101_0, r101_1]
  exact h
theorem m103s {w : Nat} (hw : w ≤ 1) : call 103 [aR 4 12 0, aI (nI w), aI 1] (va_up M 4 N) = some (none, va_up M 4 (svP N w 39)) := by
  have a1 := m101S M N (w := w) (o := 0) (kd := 14) (n := 7) hw (by decide) (by decide) (by decide) rfl (by decide) (by decide) (fun q hq => cf14 N hq)
  have a2 := m101S M N (w := w) (o := 7) (kd := 15) (n := 4) hw (by decide) (by decide) (by decide) rfl (by decide) (by decide) (fun q hq => cf15 N hq)
  have a3 := m101S M N (w := w) (o := 11) (kd := 16) (n := 4) hw (by decide) (by decide) (by decide) rfl (by decide) (by decide) (fun q hq => cf16 N hq)
  have a4 := m101S M N (w := w) (o := 15) (kd := 17) (n := 4) hw (by decide) (by decide) (by decide) rfl (by decide) (by decide) (fun q hq => cf17 N hq)
  have a5 := m101S M N (w := w) (o := 19) (kd := 18) (n := 4) hw (by decide) (by decide) (by decide) rfl (by decide) (by decide) (fun q hq => cf18 N hq)
  have a6 := m101S M N (w := w) (o := 23) (kd := 19) (n := 3) hw (by decide) (by decide) (by decide) rfl (by decide) (by decide) (fun q hq => cf19 N hq)
  have a7 := m101S M N (w := w) (o := 26) (kd := 20) (n := 3) hw (by decide) (by decide) (by decide) rfl (by decide) (by decide) (fun q hq => cf20 N hq)
  have a8 := m101S M N (w := w) (o := 29) (kd := 21) (n := 3) hw (by decide) (by decide) (by decide) rfl (by decide) (by decide) (fun q hq => cf21 N hq)
  have a9 := m101S M N (w := w) (o := 32) (kd := 22) (n := 3) hw (by decide) (by decide) (by decide) rfl (by decide) (by decide) (fun q hq => cf22 N hq)
  have b1 := m102s M N (w := w) (o := 35) hw (by decide) (v := N 12 0 10) rfl
  have b2 := m102s M N (w := w) (o := 36) hw (by decide) (v := N 12 0 11) rfl
  have b3 := m102s M N (w := w) (o := 37) hw (by decide) (v := N 12 0 12) rfl
  have b4 := m102s M N (w := w) (o := 38) hw (by decide) (v := N 12 0 13) rfl
  have w1 := wn_id (svP N w 36) 12 0 10 (N 12 0 10) (svP_12 N w 36 (by decide) (by decide))
  have w2 := wn_id (svP N w 37) 12 0 11 (N 12 0 11) (svP_12 N w 37 (by decide) (by decide))
  have w3 := wn_id (svP N w 38) 12 0 12 (N 12 0 12) (svP_12 N w 38 (by decide) (by decide))
  have w4 := wn_id (svP N w 39) 12 0 13 (N 12 0 13) (svP_12 N w 39 (by decide) (by decide))
  have g1 := svP_12 N w 35 (j := 10) (by decide) (by decide)
  have g2 := svP_12 N w 36 (j := 11) (by decide) (by decide)
  have g3 := svP_12 N w 37 (j := 12) (by decide) (by decide)
  have g4 := svP_12 N w 38 (j := 13) (by decide) (by decide)
  simp only [Nat.reduceAdd] at a1 a2 a3 a4 a5 a6 a7 a8 a9 b1 b2 b3 b4
  simp only [c103, r103_0, r103_1, r103_3, r103_4, r103_5, r103_8, r103_9, r103_10, r103_13, r103_14, r103_15, r103_18, r103_21, r103_22, r103_23, r103_26, r103_29, r103_30, r103_31, r103_34, r103_37, r103_38, r103_39, r103_42, r103_45, r103_46, r103_47, r103_50, r103_53, r103_54, r103_55, r103_58, r103_61, r103_62, r103_63, r103_66, r103_69, r103_70, r103_71, r103_74, r103_77, r103_78, r103_79, r103_82, r103_85, r103_86, r103_87, r103_88, r103_91, r103_94, r103_97, r103_98, r103_99, r103_100, r103_103, r103_106, r103_109, r103_110, r103_111, r103_112, r103_115, r103_118, r103_121, r103_122, r103_123, r103_124, r103_127, r103_130, r103_133, up_same, wr_up, w50 hw, or_true, reduceIte, sv_zero, a1, a2, a3, a4, a5, a6, a7, a8, a9, b1, b2, b3, b4, w1, w2, w3, w4, g1, g2, g3, g4, cbI_some, cbV_some]
theorem rs_one {w o j0 : Nat} (hi : idx 12 0 j0 = o) (ho : o < 39) (hj : j0 ≠ 24) : wrN (wrN (rsP N w o) 12 0 24 (nI (50 * w + o + 1))) 12 0 j0 (N 27 0 (50 * w + o)) = rsP N w (o + 1) := by
  rw [wn_comm _ _ _ (fun z => hj z.2.2.symm)]
  exact rs_step N hi (by omega) (fun k i j e => idx_u (e.trans hi.symm) (by omega))
theorem m103r {w : Nat} (hw : w ≤ 1) : call 103 [aR 4 12 0, aI (nI w), aI 0] (va_up M 4 N) = some (none, va_up M 4 (rsP N w 39)) := by
  have a1 := m101R M N (w := w) (o := 0) (kd := 14) (n := 7) hw (by decide) (by decide) (by decide) rfl (by decide) (by decide) (by decide +kernel)
  have a2 := m101R M N (w := w) (o := 7) (kd := 15) (n := 4) hw (by decide) (by decide) (by decide) rfl (by decide) (by decide) (by decide +kernel)
  have a3 := m101R M N (w := w) (o := 11) (kd := 16) (n := 4) hw (by decide) (by decide) (by decide) rfl (by decide) (by decide) (by decide +kernel)
  have a4 := m101R M N (w := w) (o := 15) (kd := 17) (n := 4) hw (by decide) (by decide) (by decide) rfl (by decide) (by decide) (by decide +kernel)
  have a5 := m101R M N (w := w) (o := 19) (kd := 18) (n := 4) hw (by decide) (by decide) (by decide) rfl (by decide) (by decide) (by decide +kernel)
  have a6 := m101R M N (w := w) (o := 23) (kd := 19) (n := 3) hw (by decide) (by decide) (by decide) rfl (by decide) (by decide) (by decide +kernel)
  have a7 := m101R M N (w := w) (o := 26) (kd := 20) (n := 3) hw (by decide) (by decide) (by decide) rfl (by decide) (by decide) (by decide +kernel)
  have a8 := m101R M N (w := w) (o := 29) (kd := 21) (n := 3) hw (by decide) (by decide) (by decide) rfl (by decide) (by decide) (by decide +kernel)
  have a9 := m101R M N (w := w) (o := 32) (kd := 22) (n := 3) hw (by decide) (by decide) (by decide) rfl (by decide) (by decide) (by decide +kernel)
  have b1 := m102r M N (w := w) (o := 35) hw (by decide)
  have b2 := m102r M N (w := w) (o := 36) hw (by decide)
  have b3 := m102r M N (w := w) (o := 37) hw (by decide)
  have b4 := m102r M N (w := w) (o := 38) hw (by decide)
  have w1 := rs_one N (w := w) (o := 35) (j0 := 10) (by decide +kernel) (by decide) (by decide)
  have w2 := rs_one N (w := w) (o := 36) (j0 := 11) (by decide +kernel) (by decide) (by decide)
  have w3 := rs_one N (w := w) (o := 37) (j0 := 12) (by decide +kernel) (by decide) (by decide)
  have w4 := rs_one N (w := w) (o := 38) (j0 := 13) (by decide +kernel) (by decide) (by decide)
  simp only [Nat.reduceAdd] at a1 a2 a3 a4 a5 a6 a7 a8 a9 w1 w2 w3 w4
  simp only [c103, r103_0, r103_1, r103_3, r103_4, r103_5, r103_8, r103_9, r103_10, r103_13, r103_14, r103_15, r103_18, r103_21, r103_22, r103_23, r103_26, r103_29, r103_30, r103_31, r103_34, r103_37, r103_38, r103_39, r103_42, r103_45, r103_46, r103_47, r103_50, r103_53, r103_54, r103_55, r103_58, r103_61, r103_62, r103_63, r103_66, r103_69, r103_70, r103_71, r103_74, r103_77, r103_78, r103_79, r103_82, r103_85, r103_86, r103_87, r103_88, r103_91, r103_94, r103_97, r103_98, r103_99, r103_100, r103_103, r103_106, r103_109, r103_110, r103_111, r103_112, r103_115, r103_118, r103_121, r103_122, r103_123, r103_124, r103_127, r103_130, r103_133, up_same, wr_up, w50 hw, true_or, reduceIte, rs_zero, a1, a2, a3, a4, a5, a6, a7, a8, a9, b1, b2, b3, b4, w1, w2, w3, w4, cbI_some, cbV_some]
end PassAll
def mAm (N : Nm) : Nat → Nat → Int32 → Int32
  | _, 0, a => a
  | k, n + 1, a => mAm N (k + 1) n (a + N 17 0 k)
def cAm (S : Nm) : Nat → Nat → Int32 → Int32
  | _, 0, a => a
  | k, n + 1, a => cAm S (k + 1) n (a + S 2 k 4)
section Muck
variable (M : Mm) (N : Nm)
theorem m129L {L : Nat} (hL : N 12 0 10 = nI L) (hL4 : L ≤ 4) : ∀ (n k : Nat) (a : Int32), k + n = L → run 129 9 [aR 4 12 0, aI a, aI (nI k)] [] (va_up M 4 N) = some (some (mAm N k n a), va_up M 4 N) := by
  intro n
  induction n with
  | zero =>
    intro k a hk
    have hc : (nI k < nI L) = False := by rw [nIlt (by omega) (by omega)]; exact eq_false (by omega)
    rw [r129_9]
    simp only [r129_0, r129_1, r129_4, r129_5, r129_6, r129_7, r129_8, r129_10, r129_11, r129_14, r129_17, r129_18, r129_19, r129_22, r129_23, r129_24, r129_25, r129_26, r129_29, r129_32, r129_33, up_same, hL, hc, reduceIte, mAm]
  | succ n ih =>
    intro k a hk
    have hc : (nI k < nI L) = True := by rw [nIlt (by omega) (by omega)]; exact eq_true (by omega)
    have hv : vpB (nI k) 4 = true := vp_t (by omega) (by decide)
    have ht : (nI k).toNatClampNeg = k := tn (n := 4) (by omega) (by decide)
    rw [r129_9]
    simp only [r129_0, r129_1, r129_4, r129_5, r129_6, r129_7, r129_8, r129_10, r129_11, r129_14, r129_17, r129_18, r129_19, r129_22, r129_23, r129_24, r129_25, r129_26, r129_29, r129_32, r129_33, up_same, hL, hc, hv, ht, nI_1, ih (k + 1) _ (by omega), reduceIte, mAm]
theorem m129 {L : Nat} (hL : N 12 0 10 = nI L) (hL4 : L ≤ 4) : call 129 [aR 4 12 0] (va_up M 4 N) = some (some (mAm N 0 L (N 14 0 5)), va_up M 4 N) := by
  have h := m129L M N hL hL4 L 0 (N 14 0 5) (by omega)
  rw [nI_0] at h
  simp only [c129, r129_0, r129_1, r129_4, r129_5, r129_6, r129_7, r129_8, r129_10, r129_11, r129_14, r129_17, r129_18, r129_19, r129_22, r129_23, r129_24, r129_25, r129_26, r129_29, r129_32, r129_33, up_same, v7_5, tn5, reduceIte, h]
theorem k19L (g : Nat) {L : Nat} (hL : N 0 0 1 = nI L) (hL4 : L ≤ 4) : ∀ (n k : Nat) (a : Int32), k + n = L → run 19 7 [aR g 0 0, aI a, aI (nI k)] [] (va_up M g N) = some (some (cAm N k n a), va_up M g N) := by
  intro n
  induction n with
  | zero =>
    intro k a hk
    have hc : (nI k < nI L) = False := by rw [nIlt (by omega) (by omega)]; exact eq_false (by omega)
    rw [r19_7]
    simp only [r19_0, r19_1, r19_4, r19_5, r19_6, r19_8, r19_9, r19_12, r19_15, r19_16, r19_17, r19_20, r19_21, r19_22, r19_25, r19_26, r19_27, r19_30, r19_33, r19_34, up_same, hL, hc, reduceIte, cAm]
  | succ n ih =>
    intro k a hk
    have hc : (nI k < nI L) = True := by rw [nIlt (by omega) (by omega)]; exact eq_true (by omega)
    have hv : vpB (nI k) 4 = true := vp_t (by omega) (by decide)
    have ht : (nI k).toNatClampNeg = k := tn (n := 4) (by omega) (by decide)
    rw [r19_7]
    simp only [r19_0, r19_1, r19_4, r19_5, r19_6, r19_8, r19_9, r19_12, r19_15, r19_16, r19_17, r19_20, r19_21, r19_22, r19_25, r19_26, r19_27, r19_30, r19_33, r19_34, up_same, hL, hc, hv, ht, nI_1, ih (k + 1) _ (by omega), reduceIte, cAm]
theorem k19 (g : Nat) {L : Nat} (hL : N 0 0 1 = nI L) (hL4 : L ≤ 4) : call 19 [aR g 0 0] (va_up M g N) = some (some (cAm N 0 L (N 0 0 8)), va_up M g N) := by
  have h := k19L M N g hL hL4 L 0 (N 0 0 8) (by omega)
  rw [nI_0] at h
  simp only [c19, r19_0, r19_1, r19_4, r19_5, r19_6, r19_8, r19_9, r19_12, r19_15, r19_16, r19_17, r19_20, r19_21, r19_22, r19_25, r19_26, r19_27, r19_30, r19_33, r19_34, up_same, reduceIte, h]
end Muck
theorem am_eq {S N : Nm} {L : Nat} (h : ∀ i, i < L → S 2 i 4 = N 17 0 i) : ∀ n k a, k + n = L → cAm S k n a = mAm N k n a := by
  intro n
  induction n with
  | zero => intro k a _; rfl
  | succ n ih =>
    intro k a hk
    rw [cAm, mAm, h k (by omega)]
    exact ih (k + 1) _ (by omega)
