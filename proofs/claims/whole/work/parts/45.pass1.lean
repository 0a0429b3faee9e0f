/-! the whole text looked at, both sides -/
def pos (t : Nat → Int32) : Nat → Nat
  | 0 => 0
  | k + 1 => pos t k + sL (t (pos t k))
def FrP (N N' : Nm) : Prop := (∀ q, q ≠ 12 → q ≠ 24 → q ≠ 25 → q ≠ 26 → N' q = N q) ∧ ∀ j, j ≠ 18 → j ≠ 19 → j ≠ 20 → N' 12 0 j = N 12 0 j
theorem FrP.tr {A B C : Nm} (h1 : FrP A B) (h2 : FrP B C) : FrP A C := ⟨fun q a b c d => (h2.1 q a b c d).trans (h1.1 q a b c d), fun j a b c => (h2.2 j a b c).trans (h1.2 j a b c)⟩
theorem FrS.p {k : Nat} {N N' : Nm} (h : FrS k N N') : FrP N N' := ⟨h.1, fun j _ a _ => h.2.1 j a⟩
theorem FrP.wr (N : Nm) {j : Nat} (hj : j = 18 ∨ j = 20) (v : Int32) : FrP N (wrN N 12 0 j v) := ⟨fun q a _ _ _ => wn_k _ _ _ _ a, fun i a b c => by rw [wn_j _ _ _ _ (by omega)]⟩
def Chn (N : Nm) (t : Nat → Int32) (c K : Nat) : Prop := ∀ j, j < K → Sto N t (pos t j) j ∧ Gd t (pos t j) ∧ pos t j < c
theorem Chn.fr {N N' : Nm} {t : Nat → Int32} {c K : Nat} (h : Chn N t c K) (hf : FrS K N N') : Chn N' t c K := by
  intro j hj
  obtain ⟨⟨a1, a2, a3⟩, a4, a5⟩ := h j hj
  obtain ⟨b1, b2⟩ := hf.2.2.1 j hj
  refine ⟨⟨b1.trans a1, b2.trans a2, ?_⟩, a4, a5⟩
  rw [hf.2.2.2 (4 * j) (by omega), hf.2.2.2 (4 * j + 1) (by omega), hf.2.2.2 (4 * j + 2) (by omega), hf.2.2.2 (4 * j + 3) (by omega)]
  exact a3
theorem Chn.w12 {N : Nm} {t : Nat → Int32} {c K : Nat} (h : Chn N t c K) (j : Nat) (v : Int32) : Chn (wrN N 12 0 j v) t c K := by
  intro i hi
  have := h i hi
  simpa only [Sto, wn_k, ne_eq, Nat.reduceEqDiff, not_false_eq_true] using this
theorem Gd.in {r : Nat → Int32} {c p : Nat} (h : Gd (tx r c) p) : p + sL (tx r c p) ≤ c := by
  obtain ⟨s0, -, h59⟩ := h
  obtain ⟨s9, s03⟩ := sL_le (tx r c p)
  refine Decidable.byContradiction (fun z => ?_)
  have hx : ∀ l : Nat, 3 ≤ l → ¬ p + l ≤ c → tx r c (p + (l - 1)) = -1 := by
    intro l h1 h2
    unfold tx
    rw [if_neg (by omega)]
  rw [hx _ (by omega) z] at h59
  exact absurd h59 (by decide +kernel)
theorem pass1 {M : Mm} {r : Nat → Int32} {c : Nat} (hc : c ≤ 96) (h8 : M 0 8 0 1 = nI c) (htx : tx (M 0 9 0) c = tx r c) (hby : ∀ q, byteO (tx r c q)) : ∀ (f p k : Nat) (N : Nm) (l3 k2 : AV), 100 ≤ p + f → 3 * k ≤ p → p ≤ 96 → pos (tx r c) k = p → (p < c ∨ k = 0) → Chn N (tx r c) c k → N 23 0 = r → N 12 0 18 = nI c → N 12 0 19 = nI p → N 12 0 20 = nI k → (∃ (q : Nat) (N' : Nm), q ≤ 200 ∧ run 34 4 [aR 0 8 0, aI (nI p), aI (nI k), l3] [] M = some (some (nI q), M) ∧ (∀ X : Mm, run 100 12 [aR 4 12 0, aI 1, k2] [] (va_up X 4 N) = some (some (-1000 - nI q), va_up X 4 N')) ∧ FrP N N' ∧ N' 12 0 18 = 0) ∨ (∃ (K : Nat) (N' : Nm), run 34 4 [aR 0 8 0, aI (nI p), aI (nI k), l3] [] M = some (some (-1), M) ∧ (∀ X : Mm, run 100 12 [aR 4 12 0, aI 1, k2] [] (va_up X 4 N) = run 100 78 [aR 4 12 0, aI 1, k2] [] (va_up X 4 N')) ∧ FrP N N' ∧ N' 12 0 18 = 0 ∧ N' 12 0 20 = nI K ∧ 1 ≤ K ∧ K ≤ 40 ∧ pos (tx r c) K = c ∧ Chn N' (tx r c) c K) := by
  have q01' : ((1 : Int32) = 0) = False := by decide +kernel
  intro f
  induction f with
  | zero => intro p k N l3 k2 h1 h2 h3; omega
  | succ f ih =>
    intro p k N l3 k2 hf h3k hp hpos hpk hch hr h18 h19 h20
    obtain ⟨N1, v, e1, f1, q1⟩ := m95 (N := N) (r := r) (c := c) (p := p) (k := k) hc (by omega) (by omega) hr h18 h19 h20 hby
    obtain ⟨s9, s03⟩ := sL_le (tx r c p)
    have start : ∀ X : Mm, run 100 12 [aR 4 12 0, aI 1, k2] [] (va_up X 4 N) = cbI (some (some v, va_up X 4 N1)) (fun v M => run 100 38 [aR 4 12 0, aI 1, k2] [aI v] M) := by
      intro X
      rw [r100_12]
      rcases hpk with h | h
      · have eT : (nI p < nI c) = True := by rw [nIlt (by omega) (by omega)]; exact eq_true h
        simp only [r100_13, r100_16, r100_17, r100_20, r100_21, r100_24, r100_34, r100_35, q01', up_same, h18, h19, eT, e1, reduceIte]
      · subst h
        have e0 : nI 0 = 0 := nI_0
        by_cases h2 : nI p < nI c
        · have eT := eq_true h2
          simp only [r100_13, r100_16, r100_17, r100_20, r100_21, r100_24, r100_34, r100_35, q01', up_same, h18, h19, eT, e1, reduceIte]
        · simp only [r100_13, r100_16, r100_17, r100_20, r100_21, r100_24, r100_27, r100_28, r100_31, r100_34, r100_35, q01', up_same, h18, h19, h20, e0, h2, e1, reduceIte]
    have g20 : N1 12 0 20 = nI k := (f1.2.1 20 (by decide)).trans h20
    rcases q1 with ⟨rfl, hg, a19, hst⟩ | ⟨rfl, hg, a19⟩
    · have hin := hg.in
      have hL : 3 ≤ sL (tx r c p) := by have := hg.1; omega
      have hgM : Gd (tx (M 0 9 0) c) p := by rw [htx]; exact hg
      have kg := K34g M hc h8 (by rw [htx]; exact hby) (show p < 100 by omega) (show k < 96 by omega) hgM l3
      rw [htx] at kg
      have hgo : ∀ X : Mm, run 100 12 [aR 4 12 0, aI 1, k2] [] (va_up X 4 N) = run 100 12 [aR 4 12 0, aI 1, k2] [] (va_up X 4 (wrN N1 12 0 20 (nI (k + 1)))) := by
        intro X
        rw [start X]
        simp only [cbI_some, r100_38, r100_39, r100_40, r100_41, r100_44, r100_45, r100_48, r100_49, r100_53, r100_54, r100_57, q01', up_same, wr_up, g20, nI_1, reduceIte]
      have hpos' : pos (tx r c) (k + 1) = p + sL (tx r c p) := by rw [pos, hpos]
      have hpc : p < c := by omega
      have hch' : Chn (wrN N1 12 0 20 (nI (k + 1))) (tx r c) c (k + 1) := by
        apply Chn.w12
        intro j hj
        by_cases e : j = k
        · subst e
          rw [hpos]
          exact ⟨hst, hg, hpc⟩
        · exact hch.fr f1 j (by omega)
      by_cases e : p + sL (tx r c p) < c
      · rw [if_pos e] at kg
        rcases ih (p + sL (tx r c p)) (k + 1) (wrN N1 12 0 20 (nI (k + 1))) (aI (-1)) k2 (by omega) (by omega) (by omega) hpos' (Or.inl e) hch' (by rw [wn_k _ _ _ _ (by decide), f1.1 23 (by decide) (by decide) (by decide) (by decide)]; exact hr) (by rw [wn_j _ _ _ _ (by decide), f1.2.1 18 (by decide)]; exact h18) (by rw [wn_j _ _ _ _ (by decide)]; exact a19) (wn_eq _ _ _ _ _) with ⟨q, N', b1, b2, b3, b4, b5⟩ | ⟨K, N', b2, b3, b4, b5, b6, b7, b8, b9, b10⟩
        · exact Or.inl ⟨q, N', b1, kg.trans b2, fun X => (hgo X).trans (b3 X), (f1.p.tr (FrP.wr _ (Or.inr rfl) _)).tr b4, b5⟩
        · exact Or.inr ⟨K, N', kg.trans b2, fun X => (hgo X).trans (b3 X), (f1.p.tr (FrP.wr _ (Or.inr rfl) _)).tr b4, b5, b6, b7, b8, b9, b10⟩
      · rw [if_neg e] at kg
        have hpc' : p + sL (tx r c p) = c := by omega
        have eF : (nI (p + sL (tx r c p)) < nI c) = False := by rw [nIlt (by omega) (by omega)]; exact eq_false e
        have ne0 : (nI (k + 1) = 0) = False := eq_false (nI_ne0 (by omega) (by omega))
        refine Or.inr ⟨k + 1, wrN (wrN N1 12 0 20 (nI (k + 1))) 12 0 18 0, kg, fun X => ?_, (f1.p.tr (FrP.wr _ (Or.inr rfl) _)).tr (FrP.wr _ (Or.inl rfl) _), wn_eq _ _ _ _ _, by rw [wn_j _ _ _ _ (by decide), wn_eq], by omega, by omega, hpos'.trans hpc', hch'.w12 18 0⟩
        have g19 : wrN N1 12 0 20 (nI (k + 1)) 12 0 19 = nI (p + sL (tx r c p)) := by rw [wn_j _ _ _ _ (by decide)]; exact a19
        have g18 : wrN N1 12 0 20 (nI (k + 1)) 12 0 18 = nI c := by rw [wn_j _ _ _ _ (by decide), f1.2.1 18 (by decide)]; exact h18
        have g20' : wrN N1 12 0 20 (nI (k + 1)) 12 0 20 = nI (k + 1) := wn_eq _ _ _ _ _
        rw [hgo X, r100_12]
        simp only [r100_13, r100_16, r100_17, r100_20, r100_21, r100_24, r100_27, r100_28, r100_31, r100_60, r100_61, r100_62, r100_65, r100_66, q01', up_same, wr_up, g19, g18, g20', eF, ne0, reduceIte]
    · have hgM : ¬ Gd (tx (M 0 9 0) c) p := by rw [htx]; exact hg
      have kb := K34b M hc h8 (by rw [htx]; exact hby) (show p < 100 by omega) (show k < 96 by omega) hgM l3
      rw [htx] at kb
      have hfl : flt (tx r c) p ≤ 200 := flt_le (tx r c) (show p < 100 by omega)
      refine Or.inl ⟨flt (tx r c) p, wrN N1 12 0 18 0, hfl, kb, fun X => ?_, f1.p.tr (FrP.wr _ (Or.inl rfl) _), wn_eq _ _ _ _ _⟩
      have hid : wrN N1 12 0 20 (nI k) = N1 := wn_id _ _ _ _ _ g20
      have g19 : wrN N1 12 0 18 0 12 0 19 = nI (flt (tx r c) p) := by rw [wn_j _ _ _ _ (by decide)]; exact a19
      rw [start X]
      simp only [cbI_some, r100_38, r100_39, r100_40, r100_41, r100_44, r100_45, r100_52, r100_53, r100_54, r100_57, up_same, wr_up, g20, Int32.add_zero, hid, reduceIte]
      rw [r100_12]
      simp only [r100_13, r100_60, r100_61, r100_62, r100_65, r100_66, r100_69, r100_72, r100_73, r100_76, r100_77, up_same, wr_up, g19, reduceIte]
