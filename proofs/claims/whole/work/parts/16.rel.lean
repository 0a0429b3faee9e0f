/-! THE RELATION between a site's rows S and the reference's rows N -/
def RLy (r : Nat → Int32) (kd pc bd sk so nm nb : Int32) (t : Nat) : Prop := r 0 = kd ∧ r 1 = pc ∧ r 2 = cUs kd pc ∧ r 3 = mUn kd ∧ r 4 = bd ∧ r 5 = sk ∧ r 6 = so ∧ r 7 = nm ∧ so - nm = nb ∧ (pc = 1 ∨ pc = 2 ∨ pc = 3 ∨ pc = 4) ∧ ∃ c, c ≤ t ∧ so = nI c
def RMt (r : Nat → Int32) (dd lf wh br : Int32) (L : Nat) : Prop := r 0 = dd ∧ ((dd = 0 ∧ r 1 = 0 ∧ r 2 = -9 ∧ r 3 = 0) ∨ ((dd = 1 ∨ dd = 3) ∧ r 1 = lf ∧ r 2 = -9 ∧ r 3 = 0 ∧ ∃ c, 1 ≤ c ∧ c ≤ 20 ∧ lf = nI c) ∨ (dd = 2 ∧ r 1 = lf ∧ r 2 = wh ∧ r 3 = br ∧ (br = 0 ∨ br = 1) ∧ (∃ k, k < L ∧ wh = nI k) ∧ ∃ c, 1 ≤ c ∧ c ≤ 20 ∧ lf = nI c))
def RLat (a b : Int32) (L : Nat) : Prop := (b = -9 ∧ (a = -9 ∨ ∃ q, L ≤ q ∧ q < 4 ∧ a = nI q)) ∨ (∃ k, k < L ∧ b = nI k ∧ a = nI k)
def RCf (S N : Nm) (L m : Nat) : Prop := L ≤ 4 ∧ 1 ≤ m ∧ m ≤ 3 ∧ S 0 0 1 = nI L ∧ N 12 0 10 = nI L ∧ S 0 0 3 = nI m ∧ N 14 0 0 = nI m ∧ S 0 0 4 = N 14 0 1 ∧ S 0 0 5 = N 14 0 2 ∧ S 0 0 6 = N 14 0 3 ∧ S 0 0 7 = N 14 0 4 ∧ S 0 0 8 = N 14 0 5 ∧ S 0 0 9 = N 14 0 6 ∧ S 0 0 10 = N 12 0 11 ∧ S 0 0 11 = N 12 0 13 ∧ RLat (S 0 0 12) (N 12 0 12) L ∧ (∃ a, 1 ≤ a ∧ a ≤ 20 ∧ N 14 0 2 = nI a) ∧ (∃ a, 1 ≤ a ∧ a ≤ 20 ∧ N 14 0 3 = nI a)
def RLs (S N : Nm) (L : Nat) (u : Nat → Nat) : Prop := ∀ i, i < L → RLy (S 2 i) (N 15 0 i) (N 16 0 i) (N 17 0 i) (N 18 0 i) (N 28 0 i) (N 29 0 i) (N 30 0 i) (u i)
def RMs (S N : Nm) (L m : Nat) : Prop := (∀ j, j < 3 → RMt (S 4 j) (N 19 0 j) (N 20 0 j) (N 21 0 j) (N 22 0 j) L) ∧ ∀ j, m ≤ j → j < 3 → N 19 0 j = 0
theorem mLe_eq (a b : Int32) : cMi a b = mLe a b := by
  unfold cMi mLe
  by_cases h1 : a < b
  · rw [if_pos h1, if_neg (fun h2 => Int32.lt_irrefl (Int32.lt_trans h1 h2))]
  · rw [if_neg h1]
    by_cases h2 : b < a
    · rw [if_pos h2]
    · rw [if_neg h2]
      exact Int32.le_antisymm (Int32.not_lt.mp h2) (Int32.not_lt.mp h1)
theorem us_ok : ∀ pc : Int32, (pc = 1 ∨ pc = 2 ∨ pc = 3 ∨ pc = 4) → ∀ kd, ¬ cUs kd pc = 0 ∧ ¬ cUs kd pc * mUn kd = 0 ∧ ¬ cUs kd pc < 1 ∧ ¬ mUn kd < 1 := by
  intro pc h kd
  unfold cUs mUn
  rcases h with rfl | rfl | rfl | rfl
  all_goals
    by_cases h1 : kd = 1
    · subst h1; decide +kernel
    by_cases h4 : kd = 4
    · subst h4; decide +kernel
    by_cases h5 : kd = 5
    · subst h5; decide +kernel
    by_cases h2 : kd = 2
    · subst h2; decide +kernel
    simp only [h1, h4, h5, h2, if_false]
    decide +kernel
theorem RLs.ok {S N : Nm} {L : Nat} {u : Nat → Nat} (h : RLs S N L u) : ∀ k, k < L → ¬ S 2 k 2 = 0 ∧ ¬ S 2 k 2 * S 2 k 3 = 0 := by
  intro k hk
  obtain ⟨-, -, h2, h3, -, -, -, -, -, hp, -⟩ := h k hk
  rw [h2, h3]
  exact ⟨(us_ok _ hp _).1, (us_ok _ hp _).2.1⟩
theorem RLs.okN {S N : Nm} {L : Nat} {u : Nat → Nat} (h : RLs S N L u) : ∀ k, k < L → ¬ mBr N k = 0 ∧ ¬ mBr N k * mUn (N 15 0 k) = 0 := by
  intro k hk
  obtain ⟨-, -, -, -, -, -, -, -, -, hp, -⟩ := h k hk
  exact ⟨(us_ok _ hp _).1, (us_ok _ hp _).2.1⟩
theorem nd_eqL {S N : Nm} {L m k : Nat} (hM : RMs S N L m) (hk : k < 4) : ∀ n j, j + n ≤ 3 → cNdL S (nI k) j n = mWaL N (nI k) j n := by
  intro n
  induction n with
  | zero => intro j _; rfl
  | succ n ih =>
    intro j hj
    obtain ⟨-, h⟩ := hM.1 j (by omega)
    rw [cNdL, mWaL, ih (j + 1) (by omega)]
    have h9 : ¬ (-9 : Int32) = nI k := m9ne k (by omega)
    rcases h with ⟨e, -, e2, -⟩ | ⟨e, -, e2, -⟩ | ⟨e, -, e2, -⟩
    · rw [e2, if_neg h9, e, if_neg (by decide +kernel)]
    · rw [e2, if_neg h9]
      rcases e with e | e
      · rw [e, if_neg (by decide +kernel)]
      · rw [e, if_neg (by decide +kernel)]
    · rw [e2, e, if_pos rfl]
theorem nd_eq {S N : Nm} {L m k : Nat} {u : Nat → Nat} (hC : RCf S N L m) (hS : RLs S N L u) (hM : RMs S N L m) (hk : k < L) : cNd S m k = mWa N m k := by
  obtain ⟨hL, -, hm, -, -, -, -, hh, -⟩ := hC
  obtain ⟨-, -, -, -, h4, h5, -⟩ := hS k hk
  unfold cNd mWa
  rw [h4, h5, hh, nd_eqL hM (by omega) m 0 (by omega)]
theorem round_ok : ∀ L, L < 5 → ∀ q, q < L → ∀ k, k < L → ∀ c, c < k → ((if nI q < nI k then nI k else nI k + 4) < (if nI q < nI c then nI c else nI c + 4) ↔ (nI k - nI q - 1 + 2 * nI L) - (nI k - nI q - 1 + 2 * nI L) / nI L * nI L < (nI c - nI q - 1 + 2 * nI L) - (nI c - nI q - 1 + 2 * nI L) / nI L * nI L) := by decide +kernel
theorem round_hi : ∀ q, q < 4 → ∀ k, k < 4 → k ≤ q → ∀ c, c < k → ((if nI q < nI k then nI k else nI k + 4) < (if nI q < nI c then nI c else nI c + 4) ↔ nI k < nI c) := by decide +kernel
theorem rk_eq {S N : Nm} {L m k c : Nat} {u : Nat → Nat} (hC : RCf S N L m) (hS : RLs S N L u) (hk : k < L) (hc : c < k) : (cRk S k < cRk S c) = (mKb N k < mKb N c) := by
  obtain ⟨hL, -, hm, -, hLN, -, -, hh, -, -, -, -, h9, -, -, hlat, -⟩ := hC
  by_cases h2 : N 14 0 6 = 2
  · have e21 : ¬ (2 : Int32) = 1 := by decide +kernel
    have key : ∀ k, cRk S k = if S 0 0 12 < nI k then nI k else nI k + 4 := by
      intro k
      unfold cRk
      rw [h9, h2, if_neg e21, if_pos rfl]
    rw [key, key]
    unfold mKb mKe
    rw [h2]
    simp only [e21, if_true, if_false]
    rcases hlat with ⟨hb, ha | ⟨q, hq1, hq2, ha⟩⟩ | ⟨q, hq, hb, ha⟩
    · rw [hb, ha, if_pos m9lt, if_pos m9lt]
      have p : ∀ z, z < 4 → (-9 : Int32) < nI z := by decide +kernel
      rw [if_pos (p k (by omega)), if_pos (p c (by omega))]
    · rw [hb, ha, if_pos m9lt, if_pos m9lt]
      exact propext (round_hi q hq2 k (by omega) (by omega) c hc)
    · rw [hb, ha, hLN, if_neg (nI_pos (by omega)), if_neg (nI_pos (by omega))]
      exact propext (round_ok L (by omega) q hq k hk c hc)
  · have key : ∀ k, k < L → cRk S k = mKb N k := by
      intro k hk
      obtain ⟨-, h1, h2', h3, h4, h5, -, -, -, hp, -⟩ := hS k hk
      obtain ⟨-, -, u3, u4⟩ := us_ok _ hp (N 15 0 k)
      unfold cRk mKb mKe cLs
      rw [h9, if_neg h2, h1, h2', h3, h4, h5, if_neg u3, if_neg u4, mLe_eq]
      simp only [h2, if_false]
      rfl
    rw [key k hk, key c (by omega)]
theorem cCh_s (S : Nm) (m k n : Nat) (b : Option Nat) : cCh S m k (n + 1) b = cCh S m (k + 1) n (if cNd S m k = 0 then b else match b with | none => some k | some b' => if cRk S k < cRk S b' then some k else some b') := rfl
theorem mSv_s (N : Nm) (m k n : Nat) (b : Option Nat) : mSv N m k (n + 1) b = mSv N m (k + 1) n (if mWa N m k = 0 then b else match b with | none => some k | some b' => if mKb N k < mKb N b' then some k else some b') := rfl
theorem ch_eq {S N : Nm} {L m : Nat} {u : Nat → Nat} (hC : RCf S N L m) (hS : RLs S N L u) (hM : RMs S N L m) : ∀ n k b, k + n = L → (∀ c, b = some c → c < k) → cCh S m k n b = mSv N m k n b := by
  intro n
  induction n with
  | zero => intro k b _ _; rfl
  | succ n ih =>
    intro k b hk hb
    rw [cCh_s, mSv_s, nd_eq hC hS hM (show k < L by omega)]
    cases b with
    | none =>
      refine ih (k + 1) _ (by omega) (fun c hc => ?_)
      split at hc
      · cases hc
      · cases hc; omega
    | some d =>
      have hd := hb d rfl
      simp only [rk_eq hC hS (show k < L by omega) hd]
      refine ih (k + 1) _ (by omega) (fun c hc => ?_)
      repeat' split at hc
      all_goals cases hc; omega
theorem sv_lt {N : Nm} {m : Nat} : ∀ n k b, (∀ c, b = some c → c < k) → ∀ c, mSv N m k n b = some c → c < k + n := by
  intro n
  induction n with
  | zero => intro k b hb c h; exact hb c h
  | succ n ih =>
    intro k b hb c h
    rw [mSv_s] at h
    have hq : ∀ c, (if mWa N m k = 0 then b else match b with | none => some k | some b' => if mKb N k < mKb N b' then some k else some b') = some c → c < k + 1 := by
      intro c hc
      cases b with
      | none =>
        split at hc
        · cases hc
        · cases hc; omega
      | some z =>
        have := hb z rfl
        dsimp only at hc
        repeat' split at hc
        all_goals cases hc; omega
    have := ih (k + 1) _ hq c h
    omega
