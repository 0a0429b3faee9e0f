/-! the reference keeps a state and puts it back -/
def cfg (N : Nm) (o : Nat) : Int32 := if o < 7 then N 14 0 o else if o < 11 then N 15 0 (o - 7) else if o < 15 then N 16 0 (o - 11) else if o < 19 then N 17 0 (o - 15) else if o < 23 then N 18 0 (o - 19) else if o < 26 then N 19 0 (o - 23) else if o < 29 then N 20 0 (o - 26) else if o < 32 then N 21 0 (o - 29) else if o < 35 then N 22 0 (o - 32) else N 12 0 (o - 25)
def svP (N : Nm) (w o : Nat) : Nm := fun k i j => if k = 27 ∧ i = 0 ∧ 50 * w ≤ j ∧ j < 50 * w + o then cfg N (j - 50 * w) else if k = 12 ∧ i = 0 ∧ j = 24 then nI (50 * w + o) else if k = 12 ∧ i = 0 ∧ j = 23 then 1 else N k i j
def idx (k i j : Nat) : Nat := if i = 0 then (if k = 14 then (if j < 7 then j else 99) else if k = 15 then (if j < 4 then 7 + j else 99) else if k = 16 then (if j < 4 then 11 + j else 99) else if k = 17 then (if j < 4 then 15 + j else 99) else if k = 18 then (if j < 4 then 19 + j else 99) else if k = 19 then (if j < 3 then 23 + j else 99) else if k = 20 then (if j < 3 then 26 + j else 99) else if k = 21 then (if j < 3 then 29 + j else 99) else if k = 22 then (if j < 3 then 32 + j else 99) else if k = 12 then (if 10 ≤ j ∧ j < 14 then 25 + j else 99) else 99) else 99
def rsP (N : Nm) (w o : Nat) : Nm := fun k i j => if k = 12 ∧ i = 0 ∧ j = 24 then nI (50 * w + o) else if k = 12 ∧ i = 0 ∧ j = 23 then 0 else if idx k i j < o then N 27 0 (50 * w + idx k i j) else N k i j
theorem wn_ap (N : Nm) (k i j k' i' j' : Nat) (v : Int32) : wrN N k i j v k' i' j' = if k' = k ∧ i' = i ∧ j' = j then v else N k' i' j' := by
  by_cases hk : k' = k
  · subst hk
    by_cases hi : i' = i
    · subst hi
      rw [wn_if]
      simp only [true_and]
    · rw [wn_i _ _ _ _ hi]
      simp only [hi, false_and, and_false, if_false]
  · rw [wn_k _ _ _ _ hk]
    simp only [hk, false_and, if_false]
theorem wn_id (N : Nm) (k i j : Nat) (v : Int32) (h : N k i j = v) : wrN N k i j v = N := by
  funext k' i' j'
  rw [wn_ap]
  split
  · rename_i hc
    obtain ⟨rfl, rfl, rfl⟩ := hc
    exact h.symm
  · rfl
theorem sv_step (N : Nm) (w o : Nat) : wrN (wrN (svP N w o) 27 0 (50 * w + o) (cfg N o)) 12 0 24 (nI (50 * w + o + 1)) = svP N w (o + 1) := by
  funext k i j
  rw [wn_ap, wn_ap]
  unfold svP
  by_cases h24 : k = 12 ∧ i = 0 ∧ j = 24
  · obtain ⟨rfl, rfl, rfl⟩ := h24
    simp
    rfl
  · rw [if_neg h24, if_neg h24, if_neg h24]
    by_cases h27 : k = 27 ∧ i = 0
    · obtain ⟨rfl, rfl⟩ := h27
      simp only [Nat.reduceEqDiff, false_and, if_false, true_and]
      by_cases hj : j = 50 * w + o
      · subst hj
        rw [if_pos rfl, if_pos ⟨by omega, by omega⟩]
        congr 1
        omega
      · rw [if_neg hj]
        by_cases hr : 50 * w ≤ j ∧ j < 50 * w + o
        · rw [if_pos hr, if_pos ⟨hr.1, by omega⟩]
        · rw [if_neg hr, if_neg (fun z => hr ⟨z.1, by omega⟩)]
    · have f1 : ∀ P : Prop, ¬ (k = 27 ∧ i = 0 ∧ P) := fun P z => h27 ⟨z.1, z.2.1⟩
      rw [if_neg (f1 _), if_neg (f1 _), if_neg (f1 _)]
theorem rs_step (N : Nm) {w o k0 j0 : Nat} (hi : idx k0 0 j0 = o) (ho : o < 99) (hu : ∀ k i j, idx k i j = o → k = k0 ∧ i = 0 ∧ j = j0) : wrN (wrN (rsP N w o) k0 0 j0 (N 27 0 (50 * w + o))) 12 0 24 (nI (50 * w + o + 1)) = rsP N w (o + 1) := by
  have h2423 : ∀ j, (j = 24 ∨ j = 23) → idx 12 0 j = 99 := by
    intro j hj
    rcases hj with rfl | rfl <;> rfl
  funext k i j
  rw [wn_ap, wn_ap]
  unfold rsP
  by_cases h24 : k = 12 ∧ i = 0 ∧ j = 24
  · rw [if_pos h24, if_pos h24]
    rfl
  · rw [if_neg h24, if_neg h24, if_neg h24]
    by_cases hk : k = k0 ∧ i = 0 ∧ j = j0
    · obtain ⟨rfl, rfl, rfl⟩ := hk
      have h23 : ¬ (k = 12 ∧ (0 : Nat) = 0 ∧ j = 23) := by
        rintro ⟨rfl, -, rfl⟩
        rw [h2423 23 (Or.inr rfl)] at hi
        omega
      rw [if_pos ⟨rfl, rfl, rfl⟩, if_neg h23, if_pos (by omega), hi]
    · rw [if_neg hk]
      by_cases h23 : k = 12 ∧ i = 0 ∧ j = 23
      · rw [if_pos h23, if_pos h23]
      · rw [if_neg h23, if_neg h23]
        have hne : idx k i j ≠ o := fun e => hk (hu k i j e)
        by_cases hlt : idx k i j < o
        · rw [if_pos hlt, if_pos (by omega)]
        · rw [if_neg hlt, if_neg (by omega)]
def decK (o : Nat) : Nat := if o < 7 then 14 else if o < 11 then 15 else if o < 15 then 16 else if o < 19 then 17 else if o < 23 then 18 else if o < 26 then 19 else if o < 29 then 20 else if o < 32 then 21 else if o < 35 then 22 else 12
def decJ (o : Nat) : Nat := if o < 7 then o else if o < 11 then o - 7 else if o < 15 then o - 11 else if o < 19 then o - 15 else if o < 23 then o - 19 else if o < 26 then o - 23 else if o < 29 then o - 26 else if o < 32 then o - 29 else if o < 35 then o - 32 else o - 25
theorem idx_dec {k i j v : Nat} (hv : idx k i j = v) (h9 : v < 99) : i = 0 ∧ decK v = k ∧ decJ v = j := by
  by_cases hi : i = 0
  · subst hi
    by_cases h14 : k = 14
    · subst h14
      by_cases hj : j < 7
      · have e : idx 14 0 j = 0 + j := by simp [idx, hj]
        rw [e] at hv
        subst hv
        refine ⟨rfl, ?_, ?_⟩
        · simp only [decK]
          repeat (first | rw [if_pos (by omega)] | rw [if_neg (by omega)])
        · simp only [decJ]
          repeat (first | rw [if_pos (by omega)] | rw [if_neg (by omega)])
          omega
      · have e : idx 14 0 j = 99 := by simp [idx, hj]
        omega
    by_cases h15 : k = 15
    · subst h15
      by_cases hj : j < 4
      · have e : idx 15 0 j = 7 + j := by simp [idx, hj]
        rw [e] at hv
        subst hv
        refine ⟨rfl, ?_, ?_⟩
        · simp only [decK]
          repeat (first | rw [if_pos (by omega)] | rw [if_neg (by omega)])
        · simp only [decJ]
          repeat (first | rw [if_pos (by omega)] | rw [if_neg (by omega)])
          omega
      · have e : idx 15 0 j = 99 := by simp [idx, hj]
        omega
    by_cases h16 : k = 16
    · subst h16
      by_cases hj : j < 4
      · have e : idx 16 0 j = 11 + j := by simp [idx, hj]
        rw [e] at hv
        subst hv
        refine ⟨rfl, ?_, ?_⟩
        · simp only [decK]
          repeat (first | rw [if_pos (by omega)] | rw [if_neg (by omega)])
        · simp only [decJ]
          repeat (first | rw [if_pos (by omega)] | rw [if_neg (by omega)])
          omega
      · have e : idx 16 0 j = 99 := by simp [idx, hj]
        omega
    by_cases h17 : k = 17
    · subst h17
      by_cases hj : j < 4
      · have e : idx 17 0 j = 15 + j := by simp [idx, hj]
        rw [e] at hv
        subst hv
        refine ⟨rfl, ?_, ?_⟩
        · simp only [decK]
          repeat (first | rw [if_pos (by omega)] | rw [if_neg (by omega)])
        · simp only [decJ]
          repeat (first | rw [if_pos (by omega)] | rw [if_neg (by omega)])
          omega
      · have e : idx 17 0 j = 99 := by simp [idx, hj]
        omega
    by_cases h18 : k = 18
    · subst h18
      by_cases hj : j < 4
      · have e : idx 18 0 j = 19 + j := by simp [idx, hj]
        rw [e] at hv
        subst hv
        refine ⟨rfl, ?_, ?_⟩
        · simp only [decK]
          repeat (first | rw [if_pos (by omega)] | rw [if_neg (by omega)])
        · simp only [decJ]
          repeat (first | rw [if_pos (by omega)] | rw [if_neg (by omega)])
          omega
      · have e : idx 18 0 j = 99 := by simp [idx, hj]
        omega
    by_cases h19 : k = 19
    · subst h19
      by_cases hj : j < 3
      · have e : idx 19 0 j = 23 + j := by simp [idx, hj]
        rw [e] at hv
        subst hv
        refine ⟨rfl, ?_, ?_⟩
        · simp only [decK]
          repeat (first | rw [if_pos (by omega)] | rw [if_neg (by omega)])
        · simp only [decJ]
          repeat (first | rw [if_pos (by omega)] | rw [if_neg (by omega)])
          omega
      · have e : idx 19 0 j = 99 := by simp [idx, hj]
        omega
    by_cases h20 : k = 20
    · subst h20
      by_cases hj : j < 3
      · have e : idx 20 0 j = 26 + j := by simp [idx, hj]
        rw [e] at hv
        subst hv
        refine ⟨rfl, ?_, ?_⟩
        · simp only [decK]
          repeat (first | rw [if_pos (by omega)] | rw [if_neg (by omega)])
        · simp only [decJ]
          repeat (first | rw [if_pos (by omega)] | rw [if_neg (by omega)])
          omega
      · have e : idx 20 0 j = 99 := by simp [idx, hj]
        omega
    by_cases h21 : k = 21
    · subst h21
      by_cases hj : j < 3
      · have e : idx 21 0 j = 29 + j := by simp [idx, hj]
        rw [e] at hv
        subst hv
        refine ⟨rfl, ?_, ?_⟩
        · simp only [decK]
          repeat (first | rw [if_pos (by omega)] | rw [if_neg (by omega)])
        · simp only [decJ]
          repeat (first | rw [if_pos (by omega)] | rw [if_neg (by omega)])
          omega
      · have e : idx 21 0 j = 99 := by simp [idx, hj]
        omega
    by_cases h22 : k = 22
    · subst h22
      by_cases hj : j < 3
      · have e : idx 22 0 j = 32 + j := by simp [idx, hj]
        rw [e] at hv
        subst hv
        refine ⟨rfl, ?_, ?_⟩
        · simp only [decK]
          repeat (first | rw [if_pos (by omega)] | rw [if_neg (by omega)])
        · simp only [decJ]
          repeat (first | rw [if_pos (by omega)] | rw [if_neg (by omega)])
          omega
      · have e : idx 22 0 j = 99 := by simp [idx, hj]
        omega
    by_cases h12 : k = 12
    · subst h12
      by_cases hj : 10 ≤ j ∧ j < 14
      · have e : idx 12 0 j = 25 + j := by simp [idx, hj]
        rw [e] at hv
        subst hv
        refine ⟨rfl, ?_, ?_⟩
        · simp only [decK]
          repeat (first | rw [if_pos (by omega)] | rw [if_neg (by omega)])
        · simp only [decJ]
          repeat (first | rw [if_pos (by omega)] | rw [if_neg (by omega)])
          omega
      · have e : idx 12 0 j = 99 := by
          simp only [idx, if_true, Nat.reduceEqDiff, if_false, if_neg hj]
        omega
    have e : idx k 0 j = 99 := by simp only [idx, if_true, h14, h15, h16, h17, h18, h19, h20, h21, h22, h12, if_false]
    omega
  · have e : idx k i j = 99 := by simp only [idx, hi, if_false]
    omega
theorem idx_u {k i j k0 j0 : Nat} (h : idx k i j = idx k0 0 j0) (h9 : idx k0 0 j0 < 99) : k = k0 ∧ i = 0 ∧ j = j0 := by
  obtain ⟨a1, a2, a3⟩ := idx_dec h h9
  obtain ⟨-, b2, b3⟩ := idx_dec (rfl : idx k0 0 j0 = idx k0 0 j0) h9
  exact ⟨a2.symm.trans b2, a1, a3.symm.trans b3⟩
section Keep
variable (M : Mm) (N : Nm)
theorem svP_kd (w o : Nat) {kd : Nat} (h1 : kd ≠ 12) (h2 : kd ≠ 27) : svP N w o kd = N kd := by
  funext i j
  unfold svP
  rw [if_neg (fun z => h2 z.1), if_neg (fun z => h1 z.1), if_neg (fun z => h1 z.1)]
theorem svP_24 (w o : Nat) : svP N w o 12 0 24 = nI (50 * w + o) := by
  unfold svP
  simp
theorem svP_23 (w o : Nat) : svP N w o 12 0 23 = 1 := by
  unfold svP
  simp
theorem rsP_24 (w o : Nat) : rsP N w o 12 0 24 = nI (50 * w + o) := by
  unfold rsP
  simp
theorem rsP_23 (w o : Nat) : rsP N w o 12 0 23 = 0 := by
  unfold rsP
  simp
theorem rsP_27 (w o : Nat) (j : Nat) (ho : o < 99) : rsP N w o 27 0 j = N 27 0 j := by
  unfold rsP
  have : idx 27 0 j = 99 := rfl
  rw [if_neg (fun z => absurd z.1 (by decide)), if_neg (fun z => absurd z.1 (by decide)), this, if_neg (by omega)]
theorem m101s {w o kd n : Nat} (hw : w ≤ 1) (hon : o + n ≤ 39) (hk : kd < 23) (hk1 : 13 < kd) (hn : alen kd = n) (hn0 : 0 < n) (hn7 : n ≤ 7) (hc : ∀ q, q < n → cfg N (o + q) = N kd 0 q) : ∀ r q, q + r = n → run 101 2 [aR 4 12 0, aR 4 kd 0, aI (nI q)] [] (va_up M 4 (svP N w (o + q))) = some (none, va_up M 4 (svP N w (o + n))) := by
  have h33 : (0 < alen kd ∧ kd < 33) = True := eq_true ⟨by omega, by omega⟩
  have h33' : ¬ 33 ≤ kd := by omega
  intro r
  induction r with
  | zero =>
    intro q hq
    have : q = n := by omega
    subst this
    have hF : (nI q < Int32.ofNat (alen kd)) = False := by
      rw [hn]; exact eq_false (fun h => Int32.lt_irrefl h)
    rw [r101_2]
    simp only [r101_3, r101_4, r101_5, r101_58, h33, hF, reduceIte]
  | succ r ih =>
    intro q hq
    have hT : (nI q < Int32.ofNat (alen kd)) = True := by
      rw [hn]; exact eq_true (nI_lt (by omega) (by omega))
    have hv : vpB (nI q) (alen kd) = true := by rw [hn]; exact vp_t (by omega) (by omega)
    have htn : (nI q).toNatClampNeg = q := tn (n := 7) (by omega) (by decide)
    have hvc : vpB (nI (50 * w + (o + q))) 100 = true := vp_t (by omega) (by decide)
    have htc : (nI (50 * w + (o + q))).toNatClampNeg = 50 * w + (o + q) := tn (n := 100) (by omega) (by decide)
    have hr : rdA (va_up M 4 (svP N w (o + q))) 4 kd 0 q = cfg N (o + q) := by
      unfold rdA
      rw [if_neg h33', up_same, svP_kd N w (o + q) (by omega) (by omega), hc q (by omega)]
    have hs := sv_step N w (o + q)
    have e24 : wrN (svP N w (o + q)) 27 0 (50 * w + (o + q)) (cfg N (o + q)) 12 0 24 = nI (50 * w + (o + q)) := by
      rw [wn_k _ _ _ _ (by decide), svP_24]
    have ih' := ih (q + 1) (by omega)
    rw [← Nat.add_assoc] at ih'
    rw [r101_2]
    simp only [r101_3, r101_4, r101_5, r101_8, r101_9, r101_12, r101_15, r101_16, r101_19, r101_20, r101_23, r101_24, r101_25, r101_26, r101_27, r101_42, r101_43, r101_44, r101_47, r101_48, r101_49, r101_52, r101_55, up_same, h33, hT, svP_23, svP_24, b10, hv, htn, hvc, htc, hr, wr_up, e24, nI_1, hs, ih', reduceIte]
theorem m101r {w o kd n : Nat} (hw : w ≤ 1) (hon : o + n ≤ 39) (hk : kd < 23) (hk1 : 13 < kd) (hn : alen kd = n) (hn0 : 0 < n) (hn7 : n ≤ 7) (hc : ∀ q, q < n → idx kd 0 q = o + q) : ∀ r q, q + r = n → run 101 2 [aR 4 12 0, aR 4 kd 0, aI (nI q)] [] (va_up M 4 (rsP N w (o + q))) = some (none, va_up M 4 (rsP N w (o + n))) := by
  have h33 : (0 < alen kd ∧ kd < 33) = True := eq_true ⟨by omega, by omega⟩
  have h33' : kd < 33 := by omega
  have h00 : 0 < alen kd := by omega
  intro r
  induction r with
  | zero =>
    intro q hq
    have : q = n := by omega
    subst this
    have hF : (nI q < Int32.ofNat (alen kd)) = False := by
      rw [hn]; exact eq_false (fun h => Int32.lt_irrefl h)
    rw [r101_2]
    simp only [r101_3, r101_4, r101_5, r101_58, h33, hF, reduceIte]
  | succ r ih =>
    intro q hq
    have hT : (nI q < Int32.ofNat (alen kd)) = True := by
      rw [hn]; exact eq_true (nI_lt (by omega) (by omega))
    have hv : vpB (nI q) (alen kd) = true := by rw [hn]; exact vp_t (by omega) (by omega)
    have htn : (nI q).toNatClampNeg = q := tn (n := 7) (by omega) (by decide)
    have hvc : vpB (nI (50 * w + (o + q))) 100 = true := vp_t (by omega) (by decide)
    have htc : (nI (50 * w + (o + q))).toNatClampNeg = 50 * w + (o + q) := tn (n := 100) (by omega) (by decide)
    have hx := hc q (by omega)
    have hs := rs_step N (w := w) (o := o + q) (k0 := kd) (j0 := q) hx (by omega) (fun k i j e => idx_u (e.trans hx.symm) (by omega))
    have e24 : wrN (rsP N w (o + q)) kd 0 q (N 27 0 (50 * w + (o + q))) 12 0 24 = nI (50 * w + (o + q)) := by
      rw [wn_k _ _ _ _ (by omega), rsP_24]
    have e27 := rsP_27 N w (o + q) (50 * w + (o + q)) (by omega)
    have ih' := ih (q + 1) (by omega)
    rw [← Nat.add_assoc] at ih'
    rw [r101_2]
    simp only [r101_3, r101_4, r101_5, r101_8, r101_9, r101_12, r101_30, r101_31, r101_32, r101_33, r101_36, r101_37, r101_40, r101_41, r101_42, r101_43, r101_44, r101_47, r101_48, r101_49, r101_52, r101_55, up_same, h00, h33', and_self, hT, rsP_23, rsP_24, hv, htn, hvc, htc, e27, wr_up, e24, nI_1, hs, ih', reduceIte]
end Keep
