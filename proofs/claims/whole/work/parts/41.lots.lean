/-! answers: judge, lots -/
def jd (f g : Nat → Int32) (b : Nat) : Nat → Nat → Int32
  | _, 0 => -9
  | i, n + 1 => if i < b then (if f i = g i then jd f g b (i + 1) n else nI i) else nI i
theorem jd_eq {f g f' g' : Nat → Int32} {b c : Nat} (hc : c ≤ 20) (hg : ∀ q, q < c → g q = g' q) (hf : ∀ q, q < b → q < 20 → f q = f' q) : ∀ n i, i + n = c → jd f g (min b 20) i n = jd f' g' b i n := by
  intro n
  induction n with
  | zero => intro i _; rfl
  | succ n ih =>
    intro i hi
    rw [jd, jd, ih (i + 1) (by omega), hg i (by omega)]
    by_cases h : i < b
    · rw [if_pos (by omega), if_pos h, hf i h (by omega)]
    · rw [if_neg (by omega), if_neg h]
theorem K61L {M : Mm} {Z : Nm} {c b : Nat} (hb : b ≤ 20) (hc : c ≤ 20) (hc7 : M 0 7 0 6 = nI c) (hz : Z 5 0 10 = nI b) : ∀ (n i : Nat), i + n = c → run 61 12 [aR 0 7 0, aI (-9), aI (nI i)] [] (va_up M 2 Z) = some (some (jd (Z 6 0) (M 0 10 0) b i n), va_up (va_up M 2 Z) 0 (wrN (M 0) 7 0 6 0)) := by
  have r0 : va_up M 2 Z 0 = M 0 := up_ne _ _ (by decide)
  have hend : ∀ (v : Int32) (l2 : AV), run 61 69 [aR 0 7 0, aI v, l2] [] (va_up M 2 Z) = some (some v, va_up (va_up M 2 Z) 0 (wrN (M 0) 7 0 6 0)) := by
    intro v l2
    have start : va_up M 2 Z = va_up (va_up M 2 Z) 0 (M 0) := by rw [← r0, up_id]
    rw [start]
    simp only [r61_69, r61_70, r61_71, r61_74, r61_75, wr_up, up_up]
  intro n
  induction n with
  | zero =>
    intro i hi
    have : i = c := by omega
    subst this
    have t : (nI i < nI i) = False := eq_false (fun z => Int32.lt_irrefl z)
    rw [r61_12]
    simp only [r61_13, r61_14, r61_17, r0, hc7, t, hend, reduceIte, jd]
  | succ n ih =>
    intro i hi
    have t : (nI i < nI c) = True := by rw [nIlt (by omega) (by omega)]; exact eq_true (by omega)
    have hv : vpB (nI i) 20 = true := vp_t (by omega) (by decide)
    have htn : (nI i).toNatClampNeg = i := tn (n := 20) (by omega) (by decide)
    have t9 : (nI i = -9) = False := eq_false (fun z => m9ne i (by omega) z.symm)
    have stop : run 61 12 [aR 0 7 0, aI (nI i), aI (nI (i + 1))] [] (va_up M 2 Z) = some (some (nI i), va_up (va_up M 2 Z) 0 (wrN (M 0) 7 0 6 0)) := by
      rw [r61_12]
      by_cases e : nI (i + 1) < nI c
      · have eT := eq_true e
        simp only [r61_13, r61_14, r61_17, r61_20, r61_21, r61_23, r0, hc7, eT, t9, hend, reduceIte]
      · simp only [r61_13, r61_14, r61_17, r0, hc7, e, hend, reduceIte]
    rw [r61_12]
    by_cases e : i < b
    · have eT : (nI i < nI b) = True := by rw [nIlt (by omega) (by omega)]; exact eq_true e
      by_cases e2 : Z 6 0 i = M 0 10 0 i
      · have e2T := eq_true e2
        simp only [r61_0, r61_1, r61_4, r61_7, r61_9, r61_10, r61_11, r61_13, r61_14, r61_17, r61_20, r61_21, r61_23, r61_26, r61_27, r61_28, r61_31, r61_34, r61_37, r61_40, r61_41, r61_44, r61_47, r61_50, r61_51, r61_52, r61_53, r61_56, r61_57, r61_58, r61_61, r61_62, r61_63, r61_66, r61_69, r61_70, r61_71, r61_74, r61_75, r0, hc7, t, up_same, hz, eT, hv, htn, e2T, nI_1, ih (i + 1) (by omega), reduceIte, jd, e]
      · simp only [r61_0, r61_1, r61_4, r61_7, r61_9, r61_10, r61_11, r61_13, r61_14, r61_17, r61_20, r61_21, r61_23, r61_26, r61_27, r61_28, r61_31, r61_34, r61_37, r61_40, r61_41, r61_44, r61_47, r61_50, r61_51, r61_52, r61_53, r61_56, r61_57, r61_58, r61_61, r61_62, r61_63, r61_66, r61_69, r61_70, r61_71, r61_74, r61_75, r0, hc7, t, up_same, hz, eT, hv, htn, e2, nI_1, stop, reduceIte, jd, e]
    · have eF : (nI i < nI b) = False := by rw [nIlt (by omega) (by omega)]; exact eq_false e
      simp only [r61_0, r61_1, r61_4, r61_7, r61_9, r61_10, r61_11, r61_13, r61_14, r61_17, r61_20, r61_21, r61_23, r61_26, r61_27, r61_28, r61_31, r61_34, r61_37, r61_40, r61_41, r61_44, r61_47, r61_50, r61_51, r61_52, r61_53, r61_56, r61_57, r61_58, r61_61, r61_62, r61_63, r61_66, r61_69, r61_70, r61_71, r61_74, r61_75, r0, hc7, t, up_same, hz, eF, nI_1, stop, reduceIte, jd, e]
theorem m157L {X : Mm} {Ne : Nm} {c b : Nat} (hb : b ≤ 720) (hc : c ≤ 20) (hz : Ne 12 0 33 = nI b) : ∀ (n i : Nat), i + n = c → run 157 19 [aR 4 12 0, aI (nI c), aI (nI i)] [] (va_up X 4 Ne) = some (some (jd (Ne 31 0) (Ne 32 0) b i n), va_up X 4 Ne) := by
  intro n
  induction n with
  | zero =>
    intro i hi
    have : i = c := by omega
    subst this
    have t : (nI i < nI i) = False := eq_false (fun z => Int32.lt_irrefl z)
    rw [r157_19]
    simp only [r157_0, r157_1, r157_4, r157_5, r157_6, r157_7, r157_10, r157_11, r157_14, r157_17, r157_18, r157_20, r157_21, r157_24, r157_25, r157_26, r157_29, r157_32, r157_33, r157_36, r157_37, r157_38, r157_39, r157_42, r157_43, r157_44, r157_47, r157_48, r157_49, r157_52, r157_55, r157_57, t, reduceIte, jd]
  | succ n ih =>
    intro i hi
    have t : (nI i < nI c) = True := by rw [nIlt (by omega) (by omega)]; exact eq_true (by omega)
    have hv : vpB (nI i) 20 = true := vp_t (by omega) (by decide)
    have hv8 : vpB (nI i) 800 = true := vp_t (by omega) (by decide)
    have htn : (nI i).toNatClampNeg = i := tn (n := 20) (by omega) (by decide)
    rw [r157_19]
    by_cases e : i < b
    · have eT : (nI i < nI b) = True := by rw [nIlt (by omega) (by omega)]; exact eq_true e
      by_cases e2 : Ne 31 0 i = Ne 32 0 i
      · have e2T := eq_true e2
        simp only [r157_0, r157_1, r157_4, r157_5, r157_6, r157_7, r157_10, r157_11, r157_14, r157_17, r157_18, r157_20, r157_21, r157_24, r157_25, r157_26, r157_29, r157_32, r157_33, r157_36, r157_37, r157_38, r157_39, r157_42, r157_43, r157_44, r157_47, r157_48, r157_49, r157_52, r157_55, r157_57, t, up_same, hz, eT, hv, hv8, htn, e2T, nI_1, ih (i + 1) (by omega), reduceIte, jd, e]
      · simp only [r157_0, r157_1, r157_4, r157_5, r157_6, r157_7, r157_10, r157_11, r157_14, r157_17, r157_18, r157_20, r157_21, r157_24, r157_25, r157_26, r157_29, r157_32, r157_33, r157_36, r157_37, r157_38, r157_39, r157_42, r157_43, r157_44, r157_47, r157_48, r157_49, r157_52, r157_55, r157_57, t, up_same, hz, eT, hv, hv8, htn, e2, reduceIte, jd, e]
    · have eF : (nI i < nI b) = False := by rw [nIlt (by omega) (by omega)]; exact eq_false e
      simp only [r157_0, r157_1, r157_4, r157_5, r157_6, r157_7, r157_10, r157_11, r157_14, r157_17, r157_18, r157_20, r157_21, r157_24, r157_25, r157_26, r157_29, r157_32, r157_33, r157_36, r157_37, r157_38, r157_39, r157_42, r157_43, r157_44, r157_47, r157_48, r157_49, r157_52, r157_55, r157_57, t, up_same, hz, eF, reduceIte, jd, e]
theorem ans_judge : Ans 61 157 [] := by
  intro M h
  obtain ⟨⟨L, m, h0⟩, ⟨hhod, hlat⟩, ⟨hw0, hdr0, hwN, hdN⟩, him, ⟨c, tc1, tc2, tc3, tc4⟩, ⟨d, rc1, rc2, rc3, rc4⟩, hrf⟩ := id h
  have e240 : nI 240 = 240 := by decide +kernel
  have hcf : CfE (M 4) (wrN (M 4) 12 0 42 0) := cf_12 _ _ (by decide)
  obtain ⟨Z, Ne, ho, hs, hm⟩ := think (M := M) (N := wrN (M 4) 12 0 42 0) (n := 240) (h0.cf hcf) (by rw [wn_j _ _ _ _ (by decide)]; exact hwN) (by rw [wn_j _ _ _ _ (by decide)]; exact hdN) (Nat.le_refl _)
  obtain ⟨⟨-, -, -, -, -, -, -, -, -, -, b, b1, b2, b3, b4⟩, hk, -⟩ := id ho
  rw [e240] at hs hm
  have k1 := K61L (M := M) (Z := Z) (b := min b 20) (by omega) rc1 rc2 b3 d 0 (by omega)
  have m1 := fun X => m157L (X := X) b1 rc1 b2 d 0 (by omega)
  have e32 : Ne 32 = M 4 32 := by rw [hk.2.2.2.2.1, wn_k _ _ _ _ (by decide)]
  have ej := jd_eq (f := Z 6 0) (f' := Ne 31 0) (g := M 0 10 0) (g' := Ne 32 0) (b := b) rc1 (fun q hq => by rw [e32]; exact rc4 q hq) b4 d 0 (by omega)
  rw [nI_0] at k1
  simp only [nI_0] at m1
  refine Ans.mk (v := jd (Ne 31 0) (Ne 32 0) b 0 d) (M1 := va_up (va_up M 2 Z) 0 (wrN (M 0) 7 0 6 0)) (N' := Ne) ?_ (by rw [up_ne _ _ (by decide), up_ne _ _ (by decide)]) (fun X => ?_) ?_
  · simp only [c61, r61_0, r61_1, r61_4, r61_7, r61_9, r61_10, r61_11, hs, cbV_some, k1, ej]
  · simp only [c157, r157_0, r157_1, r157_4, r157_5, r157_6, r157_7, r157_10, r157_11, r157_14, r157_17, r157_18, up_same, wr_up, hm, cbV_some, rc3, m1]
  · rw [up_same, up_ne _ _ (by decide), up_ne _ _ (by decide), up_ne _ _ (by decide), up_ne _ _ (by decide)]
    refine TI.kp (TI.ch h hcf (wn_j _ _ _ _ (by decide)) (wn_j _ _ _ _ (by decide)) (wn_j _ _ _ _ (by decide)) (wn_k _ _ _ _ (by decide)) (wn_j _ _ _ _ (by decide)) ⟨c, tc1, ?_, ?_, fun q hq => ?_⟩ ⟨0, by omega, (wn_eq _ _ _ _ _).trans nI_0.symm, (wn_eq _ _ _ _ _).trans nI_0.symm, fun q hq => by omega⟩ (fun q hq => ?_)) hk
    · rw [wn_k _ _ _ _ (by decide)]; exact tc2
    · rw [wn_j _ _ _ _ (by decide)]; exact tc3
    · rw [wn_k _ _ _ _ (by decide), wn_k _ _ _ _ (by decide)]; exact tc4 q hq
    · rw [wn_k _ _ _ _ (by decide), wn_k _ _ _ _ (by decide)]; exact hrf q hq
/-! lots -/
def nxS (s : Int32) : Int32 := s * 1664525 + 1013904223
def dwS (s b : Int32) : Int32 := (s &&& 2147483647) / 256 - (s &&& 2147483647) / 256 / b * b
theorem K76 (M : Mm) (s : Int32) : call 76 [aI s] M = some (some (nxS s), M) := by
  simp only [c76, r76_0, r76_1, r76_4, r76_5, r76_8, r76_9]
  rfl
theorem n256 : ¬ (256 : Int32) = 0 := by decide +kernel
theorem b61 : (0 < (61 : Int32)) = True ∧ ¬ (61 : Int32) = 0 ∧ (0 < (100 : Int32)) = True ∧ ¬ (100 : Int32) = 0 := by decide +kernel
theorem K77 (M : Mm) (s b : Int32) (h1 : (0 < b) = True) (h2 : ¬ b = 0) : call 77 [aI s, aI b] M = some (some (dwS s b), M) := by
  simp only [c77, r77_0, r77_1, r77_4, r77_5, r77_8, r77_9, r77_12, r77_13, r77_14, r77_15, r77_18, r77_19, h1, h2, n256, reduceIte]
  rfl
theorem m158 (M : Mm) (N : Nm) (b : Int32) (h2 : ¬ b = 0) : call 158 [aR 4 12 0, aI b] (va_up M 4 N) = some (some (dwS (nxS (N 12 0 43)) b), va_up M 4 (wrN N 12 0 43 (nxS (N 12 0 43)))) := by
  simp only [c158, r158_0, r158_1, r158_2, r158_5, r158_8, r158_9, r158_12, r158_13, r158_16, r158_17, r158_20, r158_23, r158_24, r158_27, r158_28, r158_29, r158_30, h2, n256, up_same, wr_up, wn_eq, reduceIte]
  rfl
theorem R0.w43 {S N : Nm} {L m : Nat} (h : R0 S N L m) (v : Int32) : R0 S (wrN N 12 0 43 v) L m := h.cf (cf_12 _ _ (by decide))
theorem lt_both {L m : Nat} : ∀ (n i : Nat) (S N : Nm) (s : Int32), i + n = L → R0 S N L m → N 12 0 43 = s → ∃ (S' N' : Nm) (s' : Int32), R0 S' N' L m ∧ FrQ N N' ∧ N' 12 0 43 = s' ∧ S' 0 0 13 = S 0 0 13 ∧ S' 0 0 14 = S 0 0 14 ∧ (∀ (M : Mm) (l1 l2 l3 l5 l6 : AV), run 62 47 [aR 0 7 0, l1, l2, l3, aI s, l5, l6, aI (nI i)] [] (va_up M 2 S) = run 62 47 [aR 0 7 0, l1, l2, l3, aI s', l5, l6, aI (nI L)] [] (va_up M 2 S')) ∧ (∀ (M : Mm) (l1 l2 l3 l4 l5 : AV), run 159 44 [aR 4 12 0, l1, l2, l3, l4, l5, aI (nI i)] [] (va_up M 4 N) = run 159 44 [aR 4 12 0, l1, l2, l3, l4, l5, aI (nI L)] [] (va_up M 4 N')) := by
  intro n
  induction n with
  | zero =>
    intro i S N s hi h hs
    have : i = L := by omega
    subst this
    exact ⟨S, N, s, h, FrQ.rf N, hs, rfl, rfl, fun _ _ _ _ _ _ => rfl, fun _ _ _ _ _ _ => rfl⟩
  | succ n ih =>
    intro i S N s hi h hs
    obtain ⟨hC, hK, hM⟩ := id h
    have c1 := hC.1
    have c4 : S 0 0 1 = nI L := hC.2.2.2.1
    have c5 : N 12 0 10 = nI L := hC.2.2.2.2.1
    obtain ⟨d1, d2, d3, d4⟩ := b61
    have hv : vpB (nI i) 4 = true := vp_t (by omega) (by decide)
    have htn : (nI i).toNatClampNeg = i := tn (n := 4) (by omega) (by decide)
    have hcT : (nI i < nI L) = True := eq_true (nI_lt (by omega) (by omega))
    have hR := ((((h.w43 (nxS s)).pb i (dwS (nxS s) 61)).w43 (nxS (nxS s))).pk i (dwS (nxS (nxS s)) 100))
    obtain ⟨S', N', s', h1, h2, h3, h4, h5, h6, h7⟩ := ih (i + 1) _ _ (nxS (nxS s)) (by omega) hR (by simp only [wn_if, wn_k, ne_eq, Nat.reduceEqDiff, not_false_eq_true, reduceIte])
    refine ⟨S', N', s', h1, ((((FrQ.wr12 _ _ (by decide)).tr (FrQ.wr _ _ (by decide))).tr (FrQ.wr12 _ _ (by decide))).tr (FrQ.wr _ _ (by decide))).tr h2, h3, by rw [h4, wn_k _ _ _ _ (by decide), wn_k _ _ _ _ (by decide)], by rw [h5, wn_k _ _ _ _ (by decide), wn_k _ _ _ _ (by decide)], fun M l1 l2 l3 l5 l6 => ?_, fun M l1 l2 l3 l4 l5 => ?_⟩
    · rw [r62_47]
      simp only [r62_0, r62_1, r62_2, r62_4, r62_7, r62_8, r62_9, r62_12, r62_13, r62_14, r62_17, r62_18, r62_19, r62_21, r62_22, r62_24, r62_25, r62_29, r62_30, r62_33, r62_34, r62_37, r62_38, r62_41, r62_44, r62_45, r62_49, r62_50, r62_53, r62_56, r62_59, r62_61, r62_64, r62_66, r62_67, r62_70, r62_73, r62_75, r62_76, r62_78, r62_80, r62_83, r62_86, r62_88, r62_91, r62_93, r62_94, r62_97, r62_100, r62_102, r62_103, r62_105, r62_107, r62_110, r62_113, r62_116, r62_119, r62_120, r62_123, r62_125, r62_128, r62_130, r62_131, r62_134, r62_137, r62_140, r62_141, r62_143, r62_146, r62_149, r62_151, up_same, c4, hcT, hv, htn, K76, K77 _ _ _ d1 d2, K77 _ _ _ d3 d4, wr_up, wn_k, cbI_some, nI_1, h6, ne_eq, Nat.reduceEqDiff, not_false_eq_true, reduceIte]
    · rw [r159_44]
      simp only [r159_0, r159_1, r159_2, r159_4, r159_7, r159_8, r159_9, r159_12, r159_13, r159_14, r159_17, r159_18, r159_19, r159_20, r159_23, r159_24, r159_26, r159_27, r159_31, r159_32, r159_35, r159_36, r159_37, r159_38, r159_41, r159_42, r159_46, r159_47, r159_50, r159_53, r159_54, r159_57, r159_59, r159_60, r159_62, r159_65, r159_66, r159_67, r159_70, r159_72, r159_73, r159_75, r159_78, r159_79, r159_82, r159_85, r159_86, r159_88, r159_91, r159_93, r159_94, r159_97, r159_98, r159_100, r159_101, r159_102, r159_103, r159_106, r159_109, r159_112, r159_114, up_same, c5, hcT, hv, htn, m158 _ _ _ d2, m158 _ _ _ d4, hs, wr_up, wn_if, wn_k, cbI_some, nI_1, h7, ne_eq, Nat.reduceEqDiff, not_false_eq_true, reduceIte]
theorem KpN.w43 {N Ne : Nm} (h : KpN N Ne) (v : Int32) : KpN N (wrN Ne 12 0 43 v) := h.tr ⟨cf_12 _ _ (by decide), wn_k _ _ _ _ (by decide), fun k _ _ => wn_k _ _ _ _ (by omega), fun j _ => by rw [wn_k _ _ _ _ (by decide)], wn_k _ _ _ _ (by decide), fun j hj => wn_j _ _ _ _ (by omega)⟩
theorem lots_loop {S1 N : Nm} {L m n : Nat} (h0 : R0 S1 N L m) (hwN : N 12 0 37 = 0) (hdN : N 12 0 38 = 100000) (hn : n ≤ 20) : ∀ (k r : Nat) (M : Mm) (Nr : Nm) (s acc : Int32) (l2 l3 l7 k2 k3 k6 : AV), r + k = n → M 1 = S1 → KpN N Nr → Nr 12 0 43 = s → ∃ (v : Int32) (Z Nf : Nm), run 62 27 [aR 0 7 0, aI (nI n), l2, l3, aI s, aI acc, aI (nI r), l7] [] M = some (some v, va_up M 2 Z) ∧ KpN N Nf ∧ ∀ X : Mm, run 159 29 [aR 4 12 0, aI (nI n), k2, k3, aI acc, aI (nI r), k6] [] (va_up X 4 Nr) = some (some v, va_up X 4 Nf) := by
  have e60 : nI 60 = 60 := by decide +kernel
  intro k
  induction k with
  | zero =>
    intro r M Nr s acc l2 l3 l7 k2 k3 k6 hr hM hk hs
    have t : (nI r < nI n) = False := by rw [nIlt (by omega) (by omega)]; exact eq_false (by omega)
    refine ⟨acc, M 2, Nr, ?_, hk, fun X => ?_⟩
    · rw [up_id, r62_27]
      simp only [r62_0, r62_1, r62_2, r62_4, r62_7, r62_8, r62_9, r62_12, r62_13, r62_14, r62_17, r62_18, r62_19, r62_21, r62_22, r62_24, r62_25, r62_29, r62_30, r62_33, r62_34, r62_37, r62_38, r62_41, r62_44, r62_45, r62_49, r62_50, r62_53, r62_56, r62_59, r62_61, r62_64, r62_66, r62_67, r62_70, r62_73, r62_75, r62_76, r62_78, r62_80, r62_83, r62_86, r62_88, r62_91, r62_93, r62_94, r62_97, r62_100, r62_102, r62_103, r62_105, r62_107, r62_110, r62_113, r62_116, r62_119, r62_120, r62_123, r62_125, r62_128, r62_130, r62_131, r62_134, r62_137, r62_140, r62_141, r62_143, r62_146, r62_149, r62_151, t, reduceIte]
    · rw [r159_29]
      simp only [r159_0, r159_1, r159_2, r159_4, r159_7, r159_8, r159_9, r159_12, r159_13, r159_14, r159_17, r159_18, r159_19, r159_20, r159_23, r159_24, r159_26, r159_27, r159_31, r159_32, r159_35, r159_36, r159_37, r159_38, r159_41, r159_42, r159_46, r159_47, r159_50, r159_53, r159_54, r159_57, r159_59, r159_60, r159_62, r159_65, r159_66, r159_67, r159_70, r159_72, r159_73, r159_75, r159_78, r159_79, r159_82, r159_85, r159_86, r159_88, r159_91, r159_93, r159_94, r159_97, r159_98, r159_100, r159_101, r159_102, r159_103, r159_106, r159_109, r159_112, r159_114, t, reduceIte]
  | succ k ih =>
    intro r M Nr s acc l2 l3 l7 k2 k3 k6 hr hM hk hs
    have t : (nI r < nI n) = True := by rw [nIlt (by omega) (by omega)]; exact eq_true (by omega)
    have hR : R0 (M 1) Nr L m := by rw [hM]; exact h0.cf hk.1
    obtain ⟨S', N', s', h1, h2, h3, h4, h5, h6, h7⟩ := lt_both (L := L) (m := m) L 0 (cpS (M 2) (M 1)) (svP Nr 1 39) s (by omega) ((hR.cf (sv_cf _ 1)).cp (M 2)) ((svP_12 _ _ _ (by decide) (by decide)).trans hs)
    obtain ⟨Z, N2, ho, -, hkp, hs2, hm, hre, h43⟩ := passR (n := 60) (N := Nr) h1 h2 (by rw [h4, h2.2 37 (by decide), (sv_37 _).1, hk.w12.1, hwN]; exact (cp_13 _ _).1) (fun q hq => by rw [h5, h2.2 38 (by decide), (sv_37 _).2, hk.w12.2]; exact dryX hdN _ _ (by decide) q hq) (by decide)
    rw [e60] at hs2 hm
    have e1 := K11 (g := 2) (by decide) hR
    have o2 := ho.2.1
    have c4 : S' 0 0 1 = nI L := h1.1.2.2.2.1
    have c5 : N' 12 0 10 = nI L := h1.1.2.2.2.2.1
    have hF : (nI L < nI L) = False := eq_false (fun z => Int32.lt_irrefl z)
    rw [nI_0] at h6 h7
    obtain ⟨v, Zf, Nf, i1, i2, i3⟩ := ih (r + 1) (va_up M 2 Z) (rsP N2 1 39) s' (acc + mSum N2) l2 l3 (aI (nI L)) k2 k3 (aI (nI L)) (by omega) (by rw [up_ne _ _ (by decide)]; exact hM) (hk.tr hkp) (h43.trans h3)
    rw [up_up] at i1
    refine ⟨v, Zf, Nf, ?_, i2, fun X => ?_⟩
    · rw [r62_27]
      simp only [r62_29, r62_30, r62_33, r62_34, r62_37, r62_38, r62_41, r62_44, r62_45, t, e1, cbV_some, h6, reduceIte]
      rw [r62_47]
      simp only [r62_0, r62_1, r62_2, r62_4, r62_7, r62_8, r62_9, r62_12, r62_13, r62_14, r62_17, r62_18, r62_19, r62_21, r62_22, r62_24, r62_25, r62_29, r62_30, r62_33, r62_34, r62_37, r62_38, r62_41, r62_44, r62_45, r62_49, r62_50, r62_53, r62_56, r62_59, r62_61, r62_64, r62_66, r62_67, r62_70, r62_73, r62_75, r62_76, r62_78, r62_80, r62_83, r62_86, r62_88, r62_91, r62_93, r62_94, r62_97, r62_100, r62_102, r62_103, r62_105, r62_107, r62_110, r62_113, r62_116, r62_119, r62_120, r62_123, r62_125, r62_128, r62_130, r62_131, r62_134, r62_137, r62_140, r62_141, r62_143, r62_146, r62_149, r62_151, up_same, c4, hF, hs2, o2, nI_1, i1, cbV_some, reduceIte]
    · rw [r159_29]
      simp only [r159_31, r159_32, r159_35, r159_36, r159_37, r159_38, r159_41, r159_42, t, m103S, cbV_some, h7, reduceIte]
      rw [r159_44]
      simp only [r159_0, r159_1, r159_2, r159_4, r159_7, r159_8, r159_9, r159_12, r159_13, r159_14, r159_17, r159_18, r159_19, r159_20, r159_23, r159_24, r159_26, r159_27, r159_31, r159_32, r159_35, r159_36, r159_37, r159_38, r159_41, r159_42, r159_46, r159_47, r159_50, r159_53, r159_54, r159_57, r159_59, r159_60, r159_62, r159_65, r159_66, r159_67, r159_70, r159_72, r159_73, r159_75, r159_78, r159_79, r159_82, r159_85, r159_86, r159_88, r159_91, r159_93, r159_94, r159_97, r159_98, r159_100, r159_101, r159_102, r159_103, r159_106, r159_109, r159_112, r159_114, up_same, c5, hF, hm, m125, hre, nI_1, i3, cbI_some, cbV_some, reduceIte]
theorem ans_lots (x s : Int32) : Ans 62 159 [aI x, aI s] := by
  intro M h
  obtain ⟨⟨L, m, h0⟩, ⟨hhod, hlat⟩, ⟨hw0, hdr0, hwN, hdN⟩, him, htx, hrw, hrf⟩ := id h
  by_cases g1 : x < 1
  · have gb := mBo_a 20 g1
    refine Ans.no h rf4 ?_ (fun X => ?_)
    · simp only [c62, r62_0, r62_1, r62_2, r62_4, r62_7, r62_8, r62_9, r62_12, r62_13, r62_14, r62_17, r62_18, r62_19, r62_21, r62_22, r62_24, r62_25, r62_29, r62_30, r62_33, r62_34, r62_37, r62_38, r62_41, r62_44, r62_45, r62_49, r62_50, r62_53, r62_56, r62_59, r62_61, r62_64, r62_66, r62_67, r62_70, r62_73, r62_75, r62_76, r62_78, r62_80, r62_83, r62_86, r62_88, r62_91, r62_93, r62_94, r62_97, r62_100, r62_102, r62_103, r62_105, r62_107, r62_110, r62_113, r62_116, r62_119, r62_120, r62_123, r62_125, r62_128, r62_130, r62_131, r62_134, r62_137, r62_140, r62_141, r62_143, r62_146, r62_149, r62_151, up_same, cbI_some, cbV_some, reduceIte, gb, K67, nz4, K66_4]
    · simp only [c159, r159_0, r159_1, r159_2, r159_4, r159_7, r159_8, r159_9, r159_12, r159_13, r159_14, r159_17, r159_18, r159_19, r159_20, r159_23, r159_24, r159_26, r159_27, r159_31, r159_32, r159_35, r159_36, r159_37, r159_38, r159_41, r159_42, r159_46, r159_47, r159_50, r159_53, r159_54, r159_57, r159_59, r159_60, r159_62, r159_65, r159_66, r159_67, r159_70, r159_72, r159_73, r159_75, r159_78, r159_79, r159_82, r159_85, r159_86, r159_88, r159_91, r159_93, r159_94, r159_97, r159_98, r159_100, r159_101, r159_102, r159_103, r159_106, r159_109, r159_112, r159_114, up_same, cbI_some, cbV_some, reduceIte, gb, m84, nz4, m81_4]
  by_cases g2 : 20 < x
  · have gb := mBo_b g1 g2
    refine Ans.no h rf6 ?_ (fun X => ?_)
    · simp only [c62, r62_0, r62_1, r62_2, r62_4, r62_7, r62_8, r62_9, r62_12, r62_13, r62_14, r62_17, r62_18, r62_19, r62_21, r62_22, r62_24, r62_25, r62_29, r62_30, r62_33, r62_34, r62_37, r62_38, r62_41, r62_44, r62_45, r62_49, r62_50, r62_53, r62_56, r62_59, r62_61, r62_64, r62_66, r62_67, r62_70, r62_73, r62_75, r62_76, r62_78, r62_80, r62_83, r62_86, r62_88, r62_91, r62_93, r62_94, r62_97, r62_100, r62_102, r62_103, r62_105, r62_107, r62_110, r62_113, r62_116, r62_119, r62_120, r62_123, r62_125, r62_128, r62_130, r62_131, r62_134, r62_137, r62_140, r62_141, r62_143, r62_146, r62_149, r62_151, up_same, cbI_some, cbV_some, reduceIte, gb, K67, nz6, K66_6]
    · simp only [c159, r159_0, r159_1, r159_2, r159_4, r159_7, r159_8, r159_9, r159_12, r159_13, r159_14, r159_17, r159_18, r159_19, r159_20, r159_23, r159_24, r159_26, r159_27, r159_31, r159_32, r159_35, r159_36, r159_37, r159_38, r159_41, r159_42, r159_46, r159_47, r159_50, r159_53, r159_54, r159_57, r159_59, r159_60, r159_62, r159_65, r159_66, r159_67, r159_70, r159_72, r159_73, r159_75, r159_78, r159_79, r159_82, r159_85, r159_86, r159_88, r159_91, r159_93, r159_94, r159_97, r159_98, r159_100, r159_101, r159_102, r159_103, r159_106, r159_109, r159_112, r159_114, up_same, cbI_some, cbV_some, reduceIte, gb, m84, nz6, m81_6]
  have gb := mBo_0 g1 g2
  obtain ⟨n, hn, rfl⟩ := of_le (B := 20) (by decide) (fun z => g1 (Int32.lt_trans z (by decide +kernel))) g2
  have hkp : KpN (M 4) (wrN (M 4) 12 0 43 s) := (KpN.rf _).w43 s
  obtain ⟨v, Z, Nf, i1, i2, i3⟩ := lots_loop (S1 := M 1) (N := M 4) h0 hwN hdN hn n 0 M (wrN (M 4) 12 0 43 s) s 0 (aI s) (aI 0) none (aI s) (aI 0) none (by omega) rfl hkp (wn_eq _ _ _ _ _)
  rw [nI_0] at i1
  simp only [nI_0] at i3
  refine Ans.th h (Z := Z) (v := v) i2 ?_ (fun X => ?_)
  · simp only [c62, r62_0, r62_1, r62_2, r62_4, r62_7, r62_8, r62_9, r62_12, r62_13, r62_14, r62_17, r62_18, r62_19, r62_21, r62_22, r62_24, r62_25, r62_29, r62_30, r62_33, r62_34, r62_37, r62_38, r62_41, r62_44, r62_45, r62_49, r62_50, r62_53, r62_56, r62_59, r62_61, r62_64, r62_66, r62_67, r62_70, r62_73, r62_75, r62_76, r62_78, r62_80, r62_83, r62_86, r62_88, r62_91, r62_93, r62_94, r62_97, r62_100, r62_102, r62_103, r62_105, r62_107, r62_110, r62_113, r62_116, r62_119, r62_120, r62_123, r62_125, r62_128, r62_130, r62_131, r62_134, r62_137, r62_140, r62_141, r62_143, r62_146, r62_149, r62_151, up_same, cbI_some, cbV_some, reduceIte, gb, K67, i1]
  · simp only [c159, r159_0, r159_1, r159_2, r159_4, r159_7, r159_8, r159_9, r159_12, r159_13, r159_14, r159_17, r159_18, r159_19, r159_20, r159_23, r159_24, r159_26, r159_27, r159_31, r159_32, r159_35, r159_36, r159_37, r159_38, r159_41, r159_42, r159_46, r159_47, r159_50, r159_53, r159_54, r159_57, r159_59, r159_60, r159_62, r159_65, r159_66, r159_67, r159_70, r159_72, r159_73, r159_75, r159_78, r159_79, r159_82, r159_85, r159_86, r159_88, r159_91, r159_93, r159_94, r159_97, r159_98, r159_100, r159_101, r159_102, r159_103, r159_106, r159_109, r159_112, r159_114, up_same, wr_up, cbI_some, cbV_some, reduceIte, gb, m84, i3]
