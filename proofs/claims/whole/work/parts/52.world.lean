/-! the first world: behind the two constructors -/
def posC (c : Cd) : List Cd → Nat → Nat
  | [], _ => 99
  | d :: r, n => if d = c then n else posC c r (n + 1)
def adL (h5 h6 : Nat) (u5 u6 : Nat → Nat) : List Nat := [h5, (u5 36), (u5 37), (u5 38), (u5 39), (u5 0), (u5 1), (u5 5), (u5 6), (u5 7), (u5 8), (u5 2), (u5 9), (u5 10), (u5 11), (u5 3), (u5 4), (u5 12), (u5 13), (u5 17), (u5 18), (u5 19), (u5 20), (u5 14), (u5 21), (u5 22), (u5 23), (u5 15), (u5 16), (u5 24), (u5 25), (u5 29), (u5 30), (u5 31), (u5 32), (u5 26), (u5 33), (u5 34), (u5 35), (u5 27), (u5 28), h6, (u6 0), (u6 1), (u6 2), (u6 3), (u6 4), (u6 5), (u6 6), (u6 7), (u6 8), (u6 9), (u6 10), (u6 11), (u6 12), (u6 13), (u6 14), (u6 15), (u6 16), (u6 17), (u6 18), (u6 19)]
def adO (h5 h6 : Nat) (u5 u6 x : Nat → Nat) : Cd → Nat := fun c => if c.1 = 9 then x c.2.1 else (adL h5 h6 u5 u6).getD (posC c cellsL 0) 0
theorem posC_all : ∀ k, k < 62 → ∀ c, cellsL[k]? = some c → posC c cellsL 0 = k ∧ ¬ c.1 = 9 := by
  intro k hk c hc
  have h : ∀ k, k < 62 → (cellsL[k]?).elim false (fun c => decide (posC c cellsL 0 = k) && decide (¬ c.1 = 9)) = true := by decide +kernel
  have h1 := h k hk
  rw [hc] at h1
  simp only [Option.elim_some, Bool.and_eq_true, decide_eq_true_eq] at h1
  exact h1
theorem cellsL_len : cellsL.length = 62 := by decide +kernel
theorem ad_at {h5 h6 : Nat} {u5 u6 x : Nat → Nat} {k : Nat} {c : Cd} (hc : cellsL[k]? = some c) : adO h5 h6 u5 u6 x c = (adL h5 h6 u5 u6).getD k 0 := by
  obtain ⟨h1, h2⟩ := posC_all k (by have := (List.getElem?_eq_some_iff.mp hc).1; rw [cellsL_len] at this; exact this) c hc
  unfold adO
  rw [if_neg h2, h1]
def M0 : Mm := fun g k i j => if k = 0 then ([0, 0, 0, 1, 20, 3, 9, 60, 0, 0, 0, 0, -9, 0, 1000000, 0] : List Int32).getD j 0 else if k = 2 then ([0, 1, 1, 1, 0, 0, 0, 0] : List Int32).getD j 0 else if k = 4 then ([0, 0, -9, 0] : List Int32).getD j 0 else if k = 14 then ([1, 20, 3, 9, 60, 0, 0] : List Int32).getD j 0 else if k = 12 then (if j = 12 then -9 else if j = 38 then 100000 else 0) else 0
def pm (k : Nat) : Nat := ([0, 37, 38, 39, 40, 1, 2, 6, 7, 8, 9, 3, 10, 11, 12, 4, 5, 13, 14, 18, 19, 20, 21, 15, 22, 23, 24, 16, 17, 25, 26, 30, 31, 32, 33, 27, 34, 35, 36, 28, 29, 41, 42, 43, 44, 45, 46, 47, 48, 49, 50, 51, 52, 53, 54, 55, 56, 57, 58, 59, 60, 61] : List Nat).getD k 0
theorem pm_inj : ∀ i, i < 62 → ∀ j, j < 62 → pm i = pm j → i = j := by decide +kernel
theorem arrV_congr' {c : ClassId} {n : Nat} {f g : Nat → Value} (h : ∀ j, j < n → f j = g j) : arrV c n f = arrV c n g := by
  unfold arrV
  congr 1
  apply Array.ext
  · simp
  · intro i h1 h2
    simp only [Array.size_ofFn] at h1
    simp only [Array.getElem_ofFn]
    exact h i h1
theorem at_i {D : va_G} {H : Heap} {a n : Nat} {c : ClassId} {f f' : Nat → Int32} (he : ∀ j, j < n → f j = f' j) (h : va_at D vwCl (a, .inl (c, n, .inl f)) H) : va_at D vwCl (a, .inl (c, n, .inl f')) H := by
  have e : arrV c n (fun j => Value.int (f j)) = arrV c n (fun j => Value.int (f' j)) := arrV_congr' (fun j hj => by rw [he j hj])
  have h1 : H[a]? = some (arrV c n (fun j => Value.int (f j))) := h
  rw [e] at h1
  exact h1
theorem at_q {D : va_G} {H : Heap} {a n : Nat} {c : ClassId} {f f' : Nat → Option Nat} (he : ∀ j, j < n → f j = f' j) (h : va_at D vwCl (a, .inl (c, n, .inr (.inr (.inr (.inr f))))) H) : va_at D vwCl (a, .inl (c, n, .inr (.inr (.inr (.inr f'))))) H := by
  have e : arrV c n (fun j => va_rf (f j)) = arrV c n (fun j => va_rf (f' j)) := arrV_congr' (fun j hj => by rw [he j hj])
  have h1 : H[a]? = some (arrV c n (fun j => va_rf (f j))) := h
  rw [e] at h1
  exact h1
def KP (D : va_G) (cI cL cM : ClassId) (h5 h6 : Nat) (u5 u6 x : Nat → Nat) (H : Heap) (k : Nat) (c : Cd) : Prop := ∃ q : Nat × va_E, (fX5 cI cL cM h5 u5 ++ fX6 cI cL cM h6 u6)[pm k]? = some q ∧ q.1 = adO h5 h6 u5 u6 x c ∧ (va_at D vwCl q H → va_at D vwCl (adO h5 h6 u5 u6 x c, ent cI cL cM (adO h5 h6 u5 u6 x) M0 c) H)
theorem kq_0 (D : va_G) (cI cL cM : ClassId) (h5 h6 : Nat) (u5 u6 x : Nat → Nat) (H : Heap) : KP D cI cL cM h5 h6 u5 u6 x H 0 (0, 7, 0) := by
  refine ⟨_, rfl, (ad_at (k := 0) (c := (0, 7, 0)) rfl).symm, fun h => ?_⟩
  rw [ad_at (k := 0) (c := (0, 7, 0)) rfl]
  rw [show ent cI cL cM (adO h5 h6 u5 u6 x) M0 (0, 7, 0) = .inr (5, [.ref (adO h5 h6 u5 u6 x (1, 0, 0)), .ref (adO h5 h6 u5 u6 x (2, 0, 0)), .ref (adO h5 h6 u5 u6 x (3, 0, 0)), .int 0, .ref (adO h5 h6 u5 u6 x (0, 8, 0)), .ref (adO h5 h6 u5 u6 x (0, 10, 0)), .int 0, .ref (adO h5 h6 u5 u6 x (0, 11, 0))]) from rfl, (ad_at (k := 5) (c := (1, 0, 0)) rfl : adO h5 h6 u5 u6 x (1, 0, 0) = (u5 0)), (ad_at (k := 17) (c := (2, 0, 0)) rfl : adO h5 h6 u5 u6 x (2, 0, 0) = (u5 12)), (ad_at (k := 29) (c := (3, 0, 0)) rfl : adO h5 h6 u5 u6 x (3, 0, 0) = (u5 24)), (ad_at (k := 1) (c := (0, 8, 0)) rfl : adO h5 h6 u5 u6 x (0, 8, 0) = (u5 36)), (ad_at (k := 3) (c := (0, 10, 0)) rfl : adO h5 h6 u5 u6 x (0, 10, 0) = (u5 38)), (ad_at (k := 4) (c := (0, 11, 0)) rfl : adO h5 h6 u5 u6 x (0, 11, 0) = (u5 39))]
  exact h
theorem kq_1 (D : va_G) (cI cL cM : ClassId) (h5 h6 : Nat) (u5 u6 x : Nat → Nat) (H : Heap) : KP D cI cL cM h5 h6 u5 u6 x H 1 (0, 8, 0) := by
  refine ⟨_, rfl, (ad_at (k := 1) (c := (0, 8, 0)) rfl).symm, fun h => ?_⟩
  rw [ad_at (k := 1) (c := (0, 8, 0)) rfl]
  rw [show ent cI cL cM (adO h5 h6 u5 u6 x) M0 (0, 8, 0) = .inr (4, [.ref (adO h5 h6 u5 u6 x (0, 9, 0)), .int 0]) from rfl, (ad_at (k := 2) (c := (0, 9, 0)) rfl : adO h5 h6 u5 u6 x (0, 9, 0) = (u5 37))]
  exact h
theorem kq_2 (D : va_G) (cI cL cM : ClassId) (h5 h6 : Nat) (u5 u6 x : Nat → Nat) (H : Heap) : KP D cI cL cM h5 h6 u5 u6 x H 2 (0, 9, 0) := by
  refine ⟨_, rfl, (ad_at (k := 2) (c := (0, 9, 0)) rfl).symm, fun h => ?_⟩
  rw [ad_at (k := 2) (c := (0, 9, 0)) rfl]
  refine at_i (f := (fun _ => 0)) (f' := M0 0 9 0) (fun j _ => rfl) h
theorem kq_3 (D : va_G) (cI cL cM : ClassId) (h5 h6 : Nat) (u5 u6 x : Nat → Nat) (H : Heap) : KP D cI cL cM h5 h6 u5 u6 x H 3 (0, 10, 0) := by
  refine ⟨_, rfl, (ad_at (k := 3) (c := (0, 10, 0)) rfl).symm, fun h => ?_⟩
  rw [ad_at (k := 3) (c := (0, 10, 0)) rfl]
  refine at_i (f := (fun _ => 0)) (f' := M0 0 10 0) (fun j _ => rfl) h
theorem kq_4 (D : va_G) (cI cL cM : ClassId) (h5 h6 : Nat) (u5 u6 x : Nat → Nat) (H : Heap) : KP D cI cL cM h5 h6 u5 u6 x H 4 (0, 11, 0) := by
  refine ⟨_, rfl, (ad_at (k := 4) (c := (0, 11, 0)) rfl).symm, fun h => ?_⟩
  rw [ad_at (k := 4) (c := (0, 11, 0)) rfl]
  refine at_i (f := (fun _ => 0)) (f' := M0 0 11 0) (fun j _ => rfl) h
theorem kq_5 (D : va_G) (cI cL cM : ClassId) (h5 h6 : Nat) (u5 u6 x : Nat → Nat) (H : Heap) : KP D cI cL cM h5 h6 u5 u6 x H 5 (1, 0, 0) := by
  refine ⟨_, rfl, (ad_at (k := 5) (c := (1, 0, 0)) rfl).symm, fun h => ?_⟩
  rw [ad_at (k := 5) (c := (1, 0, 0)) rfl]
  rw [show ent cI cL cM (adO h5 h6 u5 u6 x) M0 (1, 0, 0) = .inr (2, [.ref (adO h5 h6 u5 u6 x (1, 1, 0)), .int 0, .ref (adO h5 h6 u5 u6 x (1, 3, 0)), .int 1, .int 20, .int 3, .int 9, .int 60, .int 0, .int 0, .int 0, .int 0, .int (-9), .int 0, .int 1000000, .ref (adO h5 h6 u5 u6 x (1, 5, 0))]) from rfl, (ad_at (k := 6) (c := (1, 1, 0)) rfl : adO h5 h6 u5 u6 x (1, 1, 0) = (u5 1)), (ad_at (k := 11) (c := (1, 3, 0)) rfl : adO h5 h6 u5 u6 x (1, 3, 0) = (u5 2)), (ad_at (k := 15) (c := (1, 5, 0)) rfl : adO h5 h6 u5 u6 x (1, 5, 0) = (u5 3))]
  exact h
theorem kq_6 (D : va_G) (cI cL cM : ClassId) (h5 h6 : Nat) (u5 u6 x : Nat → Nat) (H : Heap) : KP D cI cL cM h5 h6 u5 u6 x H 6 (1, 1, 0) := by
  refine ⟨_, rfl, (ad_at (k := 6) (c := (1, 1, 0)) rfl).symm, fun h => ?_⟩
  rw [ad_at (k := 6) (c := (1, 1, 0)) rfl]
  refine at_q (f := (va_up (va_up (va_up (va_up (fun _ => none) 0 (some (u5 5))) 1 (some (u5 6))) 2 (some (u5 7))) 3 (some (u5 8)))) (f' := fun j => some (adO h5 h6 u5 u6 x (1, 2, j))) (fun j hj => ?_) h
  rcases (show j = 0 ∨ j = 1 ∨ j = 2 ∨ j = 3 by omega) with rfl | rfl | rfl | rfl
  · show some _ = some (adO h5 h6 u5 u6 x (1, 2, 0))
    rw [ad_at (k := 7) (c := (1, 2, 0)) rfl]
    rfl
  · show some _ = some (adO h5 h6 u5 u6 x (1, 2, 1))
    rw [ad_at (k := 8) (c := (1, 2, 1)) rfl]
    rfl
  · show some _ = some (adO h5 h6 u5 u6 x (1, 2, 2))
    rw [ad_at (k := 9) (c := (1, 2, 2)) rfl]
    rfl
  · show some _ = some (adO h5 h6 u5 u6 x (1, 2, 3))
    rw [ad_at (k := 10) (c := (1, 2, 3)) rfl]
    rfl
theorem kq_7 (D : va_G) (cI cL cM : ClassId) (h5 h6 : Nat) (u5 u6 x : Nat → Nat) (H : Heap) : KP D cI cL cM h5 h6 u5 u6 x H 7 (1, 2, 0) := by
  refine ⟨_, rfl, (ad_at (k := 7) (c := (1, 2, 0)) rfl).symm, fun h => ?_⟩
  rw [ad_at (k := 7) (c := (1, 2, 0)) rfl]
  exact h
theorem kq_8 (D : va_G) (cI cL cM : ClassId) (h5 h6 : Nat) (u5 u6 x : Nat → Nat) (H : Heap) : KP D cI cL cM h5 h6 u5 u6 x H 8 (1, 2, 1) := by
  refine ⟨_, rfl, (ad_at (k := 8) (c := (1, 2, 1)) rfl).symm, fun h => ?_⟩
  rw [ad_at (k := 8) (c := (1, 2, 1)) rfl]
  exact h
theorem kq_9 (D : va_G) (cI cL cM : ClassId) (h5 h6 : Nat) (u5 u6 x : Nat → Nat) (H : Heap) : KP D cI cL cM h5 h6 u5 u6 x H 9 (1, 2, 2) := by
  refine ⟨_, rfl, (ad_at (k := 9) (c := (1, 2, 2)) rfl).symm, fun h => ?_⟩
  rw [ad_at (k := 9) (c := (1, 2, 2)) rfl]
  exact h
theorem kq_10 (D : va_G) (cI cL cM : ClassId) (h5 h6 : Nat) (u5 u6 x : Nat → Nat) (H : Heap) : KP D cI cL cM h5 h6 u5 u6 x H 10 (1, 2, 3) := by
  refine ⟨_, rfl, (ad_at (k := 10) (c := (1, 2, 3)) rfl).symm, fun h => ?_⟩
  rw [ad_at (k := 10) (c := (1, 2, 3)) rfl]
  exact h
theorem kq_11 (D : va_G) (cI cL cM : ClassId) (h5 h6 : Nat) (u5 u6 x : Nat → Nat) (H : Heap) : KP D cI cL cM h5 h6 u5 u6 x H 11 (1, 3, 0) := by
  refine ⟨_, rfl, (ad_at (k := 11) (c := (1, 3, 0)) rfl).symm, fun h => ?_⟩
  rw [ad_at (k := 11) (c := (1, 3, 0)) rfl]
  refine at_q (f := (va_up (va_up (va_up (fun _ => none) 0 (some (u5 9))) 1 (some (u5 10))) 2 (some (u5 11)))) (f' := fun j => some (adO h5 h6 u5 u6 x (1, 4, j))) (fun j hj => ?_) h
  rcases (show j = 0 ∨ j = 1 ∨ j = 2 by omega) with rfl | rfl | rfl
  · show some _ = some (adO h5 h6 u5 u6 x (1, 4, 0))
    rw [ad_at (k := 12) (c := (1, 4, 0)) rfl]
    rfl
  · show some _ = some (adO h5 h6 u5 u6 x (1, 4, 1))
    rw [ad_at (k := 13) (c := (1, 4, 1)) rfl]
    rfl
  · show some _ = some (adO h5 h6 u5 u6 x (1, 4, 2))
    rw [ad_at (k := 14) (c := (1, 4, 2)) rfl]
    rfl
theorem kq_12 (D : va_G) (cI cL cM : ClassId) (h5 h6 : Nat) (u5 u6 x : Nat → Nat) (H : Heap) : KP D cI cL cM h5 h6 u5 u6 x H 12 (1, 4, 0) := by
  refine ⟨_, rfl, (ad_at (k := 12) (c := (1, 4, 0)) rfl).symm, fun h => ?_⟩
  rw [ad_at (k := 12) (c := (1, 4, 0)) rfl]
  exact h
theorem kq_13 (D : va_G) (cI cL cM : ClassId) (h5 h6 : Nat) (u5 u6 x : Nat → Nat) (H : Heap) : KP D cI cL cM h5 h6 u5 u6 x H 13 (1, 4, 1) := by
  refine ⟨_, rfl, (ad_at (k := 13) (c := (1, 4, 1)) rfl).symm, fun h => ?_⟩
  rw [ad_at (k := 13) (c := (1, 4, 1)) rfl]
  exact h
theorem kq_14 (D : va_G) (cI cL cM : ClassId) (h5 h6 : Nat) (u5 u6 x : Nat → Nat) (H : Heap) : KP D cI cL cM h5 h6 u5 u6 x H 14 (1, 4, 2) := by
  refine ⟨_, rfl, (ad_at (k := 14) (c := (1, 4, 2)) rfl).symm, fun h => ?_⟩
  rw [ad_at (k := 14) (c := (1, 4, 2)) rfl]
  exact h
theorem kq_15 (D : va_G) (cI cL cM : ClassId) (h5 h6 : Nat) (u5 u6 x : Nat → Nat) (H : Heap) : KP D cI cL cM h5 h6 u5 u6 x H 15 (1, 5, 0) := by
  refine ⟨_, rfl, (ad_at (k := 15) (c := (1, 5, 0)) rfl).symm, fun h => ?_⟩
  rw [ad_at (k := 15) (c := (1, 5, 0)) rfl]
  rw [show ent cI cL cM (adO h5 h6 u5 u6 x) M0 (1, 5, 0) = .inr (3, [.int 0, .int 0, .int 0, .int 0, .int 0, .int 0, .int 0, .int 0, .int 0, .ref (adO h5 h6 u5 u6 x (1, 6, 0)), .int 0]) from rfl, (ad_at (k := 16) (c := (1, 6, 0)) rfl : adO h5 h6 u5 u6 x (1, 6, 0) = (u5 4))]
  exact h
theorem kq_16 (D : va_G) (cI cL cM : ClassId) (h5 h6 : Nat) (u5 u6 x : Nat → Nat) (H : Heap) : KP D cI cL cM h5 h6 u5 u6 x H 16 (1, 6, 0) := by
  refine ⟨_, rfl, (ad_at (k := 16) (c := (1, 6, 0)) rfl).symm, fun h => ?_⟩
  rw [ad_at (k := 16) (c := (1, 6, 0)) rfl]
  refine at_i (f := (fun _ => 0)) (f' := M0 1 6 0) (fun j _ => rfl) h
theorem kq_17 (D : va_G) (cI cL cM : ClassId) (h5 h6 : Nat) (u5 u6 x : Nat → Nat) (H : Heap) : KP D cI cL cM h5 h6 u5 u6 x H 17 (2, 0, 0) := by
  refine ⟨_, rfl, (ad_at (k := 17) (c := (2, 0, 0)) rfl).symm, fun h => ?_⟩
  rw [ad_at (k := 17) (c := (2, 0, 0)) rfl]
  rw [show ent cI cL cM (adO h5 h6 u5 u6 x) M0 (2, 0, 0) = .inr (2, [.ref (adO h5 h6 u5 u6 x (2, 1, 0)), .int 0, .ref (adO h5 h6 u5 u6 x (2, 3, 0)), .int 1, .int 20, .int 3, .int 9, .int 60, .int 0, .int 0, .int 0, .int 0, .int (-9), .int 0, .int 1000000, .ref (adO h5 h6 u5 u6 x (2, 5, 0))]) from rfl, (ad_at (k := 18) (c := (2, 1, 0)) rfl : adO h5 h6 u5 u6 x (2, 1, 0) = (u5 13)), (ad_at (k := 23) (c := (2, 3, 0)) rfl : adO h5 h6 u5 u6 x (2, 3, 0) = (u5 14)), (ad_at (k := 27) (c := (2, 5, 0)) rfl : adO h5 h6 u5 u6 x (2, 5, 0) = (u5 15))]
  exact h
theorem kq_18 (D : va_G) (cI cL cM : ClassId) (h5 h6 : Nat) (u5 u6 x : Nat → Nat) (H : Heap) : KP D cI cL cM h5 h6 u5 u6 x H 18 (2, 1, 0) := by
  refine ⟨_, rfl, (ad_at (k := 18) (c := (2, 1, 0)) rfl).symm, fun h => ?_⟩
  rw [ad_at (k := 18) (c := (2, 1, 0)) rfl]
  refine at_q (f := (va_up (va_up (va_up (va_up (fun _ => none) 0 (some (u5 17))) 1 (some (u5 18))) 2 (some (u5 19))) 3 (some (u5 20)))) (f' := fun j => some (adO h5 h6 u5 u6 x (2, 2, j))) (fun j hj => ?_) h
  rcases (show j = 0 ∨ j = 1 ∨ j = 2 ∨ j = 3 by omega) with rfl | rfl | rfl | rfl
  · show some _ = some (adO h5 h6 u5 u6 x (2, 2, 0))
    rw [ad_at (k := 19) (c := (2, 2, 0)) rfl]
    rfl
  · show some _ = some (adO h5 h6 u5 u6 x (2, 2, 1))
    rw [ad_at (k := 20) (c := (2, 2, 1)) rfl]
    rfl
  · show some _ = some (adO h5 h6 u5 u6 x (2, 2, 2))
    rw [ad_at (k := 21) (c := (2, 2, 2)) rfl]
    rfl
  · show some _ = some (adO h5 h6 u5 u6 x (2, 2, 3))
    rw [ad_at (k := 22) (c := (2, 2, 3)) rfl]
    rfl
theorem kq_19 (D : va_G) (cI cL cM : ClassId) (h5 h6 : Nat) (u5 u6 x : Nat → Nat) (H : Heap) : KP D cI cL cM h5 h6 u5 u6 x H 19 (2, 2, 0) := by
  refine ⟨_, rfl, (ad_at (k := 19) (c := (2, 2, 0)) rfl).symm, fun h => ?_⟩
  rw [ad_at (k := 19) (c := (2, 2, 0)) rfl]
  exact h
theorem kq_20 (D : va_G) (cI cL cM : ClassId) (h5 h6 : Nat) (u5 u6 x : Nat → Nat) (H : Heap) : KP D cI cL cM h5 h6 u5 u6 x H 20 (2, 2, 1) := by
  refine ⟨_, rfl, (ad_at (k := 20) (c := (2, 2, 1)) rfl).symm, fun h => ?_⟩
  rw [ad_at (k := 20) (c := (2, 2, 1)) rfl]
  exact h
theorem kq_21 (D : va_G) (cI cL cM : ClassId) (h5 h6 : Nat) (u5 u6 x : Nat → Nat) (H : Heap) : KP D cI cL cM h5 h6 u5 u6 x H 21 (2, 2, 2) := by
  refine ⟨_, rfl, (ad_at (k := 21) (c := (2, 2, 2)) rfl).symm, fun h => ?_⟩
  rw [ad_at (k := 21) (c := (2, 2, 2)) rfl]
  exact h
theorem kq_22 (D : va_G) (cI cL cM : ClassId) (h5 h6 : Nat) (u5 u6 x : Nat → Nat) (H : Heap) : KP D cI cL cM h5 h6 u5 u6 x H 22 (2, 2, 3) := by
  refine ⟨_, rfl, (ad_at (k := 22) (c := (2, 2, 3)) rfl).symm, fun h => ?_⟩
  rw [ad_at (k := 22) (c := (2, 2, 3)) rfl]
  exact h
theorem kq_23 (D : va_G) (cI cL cM : ClassId) (h5 h6 : Nat) (u5 u6 x : Nat → Nat) (H : Heap) : KP D cI cL cM h5 h6 u5 u6 x H 23 (2, 3, 0) := by
  refine ⟨_, rfl, (ad_at (k := 23) (c := (2, 3, 0)) rfl).symm, fun h => ?_⟩
  rw [ad_at (k := 23) (c := (2, 3, 0)) rfl]
  refine at_q (f := (va_up (va_up (va_up (fun _ => none) 0 (some (u5 21))) 1 (some (u5 22))) 2 (some (u5 23)))) (f' := fun j => some (adO h5 h6 u5 u6 x (2, 4, j))) (fun j hj => ?_) h
  rcases (show j = 0 ∨ j = 1 ∨ j = 2 by omega) with rfl | rfl | rfl
  · show some _ = some (adO h5 h6 u5 u6 x (2, 4, 0))
    rw [ad_at (k := 24) (c := (2, 4, 0)) rfl]
    rfl
  · show some _ = some (adO h5 h6 u5 u6 x (2, 4, 1))
    rw [ad_at (k := 25) (c := (2, 4, 1)) rfl]
    rfl
  · show some _ = some (adO h5 h6 u5 u6 x (2, 4, 2))
    rw [ad_at (k := 26) (c := (2, 4, 2)) rfl]
    rfl
theorem kq_24 (D : va_G) (cI cL cM : ClassId) (h5 h6 : Nat) (u5 u6 x : Nat → Nat) (H : Heap) : KP D cI cL cM h5 h6 u5 u6 x H 24 (2, 4, 0) := by
  refine ⟨_, rfl, (ad_at (k := 24) (c := (2, 4, 0)) rfl).symm, fun h => ?_⟩
  rw [ad_at (k := 24) (c := (2, 4, 0)) rfl]
  exact h
theorem kq_25 (D : va_G) (cI cL cM : ClassId) (h5 h6 : Nat) (u5 u6 x : Nat → Nat) (H : Heap) : KP D cI cL cM h5 h6 u5 u6 x H 25 (2, 4, 1) := by
  refine ⟨_, rfl, (ad_at (k := 25) (c := (2, 4, 1)) rfl).symm, fun h => ?_⟩
  rw [ad_at (k := 25) (c := (2, 4, 1)) rfl]
  exact h
theorem kq_26 (D : va_G) (cI cL cM : ClassId) (h5 h6 : Nat) (u5 u6 x : Nat → Nat) (H : Heap) : KP D cI cL cM h5 h6 u5 u6 x H 26 (2, 4, 2) := by
  refine ⟨_, rfl, (ad_at (k := 26) (c := (2, 4, 2)) rfl).symm, fun h => ?_⟩
  rw [ad_at (k := 26) (c := (2, 4, 2)) rfl]
  exact h
theorem kq_27 (D : va_G) (cI cL cM : ClassId) (h5 h6 : Nat) (u5 u6 x : Nat → Nat) (H : Heap) : KP D cI cL cM h5 h6 u5 u6 x H 27 (2, 5, 0) := by
  refine ⟨_, rfl, (ad_at (k := 27) (c := (2, 5, 0)) rfl).symm, fun h => ?_⟩
  rw [ad_at (k := 27) (c := (2, 5, 0)) rfl]
  rw [show ent cI cL cM (adO h5 h6 u5 u6 x) M0 (2, 5, 0) = .inr (3, [.int 0, .int 0, .int 0, .int 0, .int 0, .int 0, .int 0, .int 0, .int 0, .ref (adO h5 h6 u5 u6 x (2, 6, 0)), .int 0]) from rfl, (ad_at (k := 28) (c := (2, 6, 0)) rfl : adO h5 h6 u5 u6 x (2, 6, 0) = (u5 16))]
  exact h
theorem kq_28 (D : va_G) (cI cL cM : ClassId) (h5 h6 : Nat) (u5 u6 x : Nat → Nat) (H : Heap) : KP D cI cL cM h5 h6 u5 u6 x H 28 (2, 6, 0) := by
  refine ⟨_, rfl, (ad_at (k := 28) (c := (2, 6, 0)) rfl).symm, fun h => ?_⟩
  rw [ad_at (k := 28) (c := (2, 6, 0)) rfl]
  refine at_i (f := (fun _ => 0)) (f' := M0 2 6 0) (fun j _ => rfl) h
theorem kq_29 (D : va_G) (cI cL cM : ClassId) (h5 h6 : Nat) (u5 u6 x : Nat → Nat) (H : Heap) : KP D cI cL cM h5 h6 u5 u6 x H 29 (3, 0, 0) := by
  refine ⟨_, rfl, (ad_at (k := 29) (c := (3, 0, 0)) rfl).symm, fun h => ?_⟩
  rw [ad_at (k := 29) (c := (3, 0, 0)) rfl]
  rw [show ent cI cL cM (adO h5 h6 u5 u6 x) M0 (3, 0, 0) = .inr (2, [.ref (adO h5 h6 u5 u6 x (3, 1, 0)), .int 0, .ref (adO h5 h6 u5 u6 x (3, 3, 0)), .int 1, .int 20, .int 3, .int 9, .int 60, .int 0, .int 0, .int 0, .int 0, .int (-9), .int 0, .int 1000000, .ref (adO h5 h6 u5 u6 x (3, 5, 0))]) from rfl, (ad_at (k := 30) (c := (3, 1, 0)) rfl : adO h5 h6 u5 u6 x (3, 1, 0) = (u5 25)), (ad_at (k := 35) (c := (3, 3, 0)) rfl : adO h5 h6 u5 u6 x (3, 3, 0) = (u5 26)), (ad_at (k := 39) (c := (3, 5, 0)) rfl : adO h5 h6 u5 u6 x (3, 5, 0) = (u5 27))]
  exact h
theorem kq_30 (D : va_G) (cI cL cM : ClassId) (h5 h6 : Nat) (u5 u6 x : Nat → Nat) (H : Heap) : KP D cI cL cM h5 h6 u5 u6 x H 30 (3, 1, 0) := by
  refine ⟨_, rfl, (ad_at (k := 30) (c := (3, 1, 0)) rfl).symm, fun h => ?_⟩
  rw [ad_at (k := 30) (c := (3, 1, 0)) rfl]
  refine at_q (f := (va_up (va_up (va_up (va_up (fun _ => none) 0 (some (u5 29))) 1 (some (u5 30))) 2 (some (u5 31))) 3 (some (u5 32)))) (f' := fun j => some (adO h5 h6 u5 u6 x (3, 2, j))) (fun j hj => ?_) h
  rcases (show j = 0 ∨ j = 1 ∨ j = 2 ∨ j = 3 by omega) with rfl | rfl | rfl | rfl
  · show some _ = some (adO h5 h6 u5 u6 x (3, 2, 0))
    rw [ad_at (k := 31) (c := (3, 2, 0)) rfl]
    rfl
  · show some _ = some (adO h5 h6 u5 u6 x (3, 2, 1))
    rw [ad_at (k := 32) (c := (3, 2, 1)) rfl]
    rfl
  · show some _ = some (adO h5 h6 u5 u6 x (3, 2, 2))
    rw [ad_at (k := 33) (c := (3, 2, 2)) rfl]
    rfl
  · show some _ = some (adO h5 h6 u5 u6 x (3, 2, 3))
    rw [ad_at (k := 34) (c := (3, 2, 3)) rfl]
    rfl
theorem kq_31 (D : va_G) (cI cL cM : ClassId) (h5 h6 : Nat) (u5 u6 x : Nat → Nat) (H : Heap) : KP D cI cL cM h5 h6 u5 u6 x H 31 (3, 2, 0) := by
  refine ⟨_, rfl, (ad_at (k := 31) (c := (3, 2, 0)) rfl).symm, fun h => ?_⟩
  rw [ad_at (k := 31) (c := (3, 2, 0)) rfl]
  exact h
theorem kq_32 (D : va_G) (cI cL cM : ClassId) (h5 h6 : Nat) (u5 u6 x : Nat → Nat) (H : Heap) : KP D cI cL cM h5 h6 u5 u6 x H 32 (3, 2, 1) := by
  refine ⟨_, rfl, (ad_at (k := 32) (c := (3, 2, 1)) rfl).symm, fun h => ?_⟩
  rw [ad_at (k := 32) (c := (3, 2, 1)) rfl]
  exact h
theorem kq_33 (D : va_G) (cI cL cM : ClassId) (h5 h6 : Nat) (u5 u6 x : Nat → Nat) (H : Heap) : KP D cI cL cM h5 h6 u5 u6 x H 33 (3, 2, 2) := by
  refine ⟨_, rfl, (ad_at (k := 33) (c := (3, 2, 2)) rfl).symm, fun h => ?_⟩
  rw [ad_at (k := 33) (c := (3, 2, 2)) rfl]
  exact h
theorem kq_34 (D : va_G) (cI cL cM : ClassId) (h5 h6 : Nat) (u5 u6 x : Nat → Nat) (H : Heap) : KP D cI cL cM h5 h6 u5 u6 x H 34 (3, 2, 3) := by
  refine ⟨_, rfl, (ad_at (k := 34) (c := (3, 2, 3)) rfl).symm, fun h => ?_⟩
  rw [ad_at (k := 34) (c := (3, 2, 3)) rfl]
  exact h
theorem kq_35 (D : va_G) (cI cL cM : ClassId) (h5 h6 : Nat) (u5 u6 x : Nat → Nat) (H : Heap) : KP D cI cL cM h5 h6 u5 u6 x H 35 (3, 3, 0) := by
  refine ⟨_, rfl, (ad_at (k := 35) (c := (3, 3, 0)) rfl).symm, fun h => ?_⟩
  rw [ad_at (k := 35) (c := (3, 3, 0)) rfl]
  refine at_q (f := (va_up (va_up (va_up (fun _ => none) 0 (some (u5 33))) 1 (some (u5 34))) 2 (some (u5 35)))) (f' := fun j => some (adO h5 h6 u5 u6 x (3, 4, j))) (fun j hj => ?_) h
  rcases (show j = 0 ∨ j = 1 ∨ j = 2 by omega) with rfl | rfl | rfl
  · show some _ = some (adO h5 h6 u5 u6 x (3, 4, 0))
    rw [ad_at (k := 36) (c := (3, 4, 0)) rfl]
    rfl
  · show some _ = some (adO h5 h6 u5 u6 x (3, 4, 1))
    rw [ad_at (k := 37) (c := (3, 4, 1)) rfl]
    rfl
  · show some _ = some (adO h5 h6 u5 u6 x (3, 4, 2))
    rw [ad_at (k := 38) (c := (3, 4, 2)) rfl]
    rfl
theorem kq_36 (D : va_G) (cI cL cM : ClassId) (h5 h6 : Nat) (u5 u6 x : Nat → Nat) (H : Heap) : KP D cI cL cM h5 h6 u5 u6 x H 36 (3, 4, 0) := by
  refine ⟨_, rfl, (ad_at (k := 36) (c := (3, 4, 0)) rfl).symm, fun h => ?_⟩
  rw [ad_at (k := 36) (c := (3, 4, 0)) rfl]
  exact h
theorem kq_37 (D : va_G) (cI cL cM : ClassId) (h5 h6 : Nat) (u5 u6 x : Nat → Nat) (H : Heap) : KP D cI cL cM h5 h6 u5 u6 x H 37 (3, 4, 1) := by
  refine ⟨_, rfl, (ad_at (k := 37) (c := (3, 4, 1)) rfl).symm, fun h => ?_⟩
  rw [ad_at (k := 37) (c := (3, 4, 1)) rfl]
  exact h
theorem kq_38 (D : va_G) (cI cL cM : ClassId) (h5 h6 : Nat) (u5 u6 x : Nat → Nat) (H : Heap) : KP D cI cL cM h5 h6 u5 u6 x H 38 (3, 4, 2) := by
  refine ⟨_, rfl, (ad_at (k := 38) (c := (3, 4, 2)) rfl).symm, fun h => ?_⟩
  rw [ad_at (k := 38) (c := (3, 4, 2)) rfl]
  exact h
theorem kq_39 (D : va_G) (cI cL cM : ClassId) (h5 h6 : Nat) (u5 u6 x : Nat → Nat) (H : Heap) : KP D cI cL cM h5 h6 u5 u6 x H 39 (3, 5, 0) := by
  refine ⟨_, rfl, (ad_at (k := 39) (c := (3, 5, 0)) rfl).symm, fun h => ?_⟩
  rw [ad_at (k := 39) (c := (3, 5, 0)) rfl]
  rw [show ent cI cL cM (adO h5 h6 u5 u6 x) M0 (3, 5, 0) = .inr (3, [.int 0, .int 0, .int 0, .int 0, .int 0, .int 0, .int 0, .int 0, .int 0, .ref (adO h5 h6 u5 u6 x (3, 6, 0)), .int 0]) from rfl, (ad_at (k := 40) (c := (3, 6, 0)) rfl : adO h5 h6 u5 u6 x (3, 6, 0) = (u5 28))]
  exact h
theorem kq_40 (D : va_G) (cI cL cM : ClassId) (h5 h6 : Nat) (u5 u6 x : Nat → Nat) (H : Heap) : KP D cI cL cM h5 h6 u5 u6 x H 40 (3, 6, 0) := by
  refine ⟨_, rfl, (ad_at (k := 40) (c := (3, 6, 0)) rfl).symm, fun h => ?_⟩
  rw [ad_at (k := 40) (c := (3, 6, 0)) rfl]
  refine at_i (f := (fun _ => 0)) (f' := M0 3 6 0) (fun j _ => rfl) h
theorem kq_41 (D : va_G) (cI cL cM : ClassId) (h5 h6 : Nat) (u5 u6 x : Nat → Nat) (H : Heap) : KP D cI cL cM h5 h6 u5 u6 x H 41 (4, 12, 0) := by
  refine ⟨_, rfl, (ad_at (k := 41) (c := (4, 12, 0)) rfl).symm, fun h => ?_⟩
  rw [ad_at (k := 41) (c := (4, 12, 0)) rfl]
  rw [show ent cI cL cM (adO h5 h6 u5 u6 x) M0 (4, 12, 0) = .inr (6, [.ref (adO h5 h6 u5 u6 x (4, 13, 0)), .ref (adO h5 h6 u5 u6 x (4, 14, 0)), .ref (adO h5 h6 u5 u6 x (4, 15, 0)), .ref (adO h5 h6 u5 u6 x (4, 16, 0)), .ref (adO h5 h6 u5 u6 x (4, 17, 0)), .ref (adO h5 h6 u5 u6 x (4, 18, 0)), .ref (adO h5 h6 u5 u6 x (4, 19, 0)), .ref (adO h5 h6 u5 u6 x (4, 20, 0)), .ref (adO h5 h6 u5 u6 x (4, 21, 0)), .ref (adO h5 h6 u5 u6 x (4, 22, 0)), .int 0, .int 0, .int (-9), .int 0, .ref (adO h5 h6 u5 u6 x (4, 23, 0)), .ref (adO h5 h6 u5 u6 x (4, 24, 0)), .ref (adO h5 h6 u5 u6 x (4, 25, 0)), .ref (adO h5 h6 u5 u6 x (4, 26, 0)), .int 0, .int 0, .int 0, .ref (adO h5 h6 u5 u6 x (4, 27, 0)), .int 0, .int 0, .int 0, .ref (adO h5 h6 u5 u6 x (4, 28, 0)), .ref (adO h5 h6 u5 u6 x (4, 29, 0)), .ref (adO h5 h6 u5 u6 x (4, 30, 0)), .ref (adO h5 h6 u5 u6 x (4, 31, 0)), .int 0, .int 0, .int 0, .int 0, .int 0, .int 0, .int 0, .int 0, .int 0, .int 100000, .int 0, .int 0, .ref (adO h5 h6 u5 u6 x (4, 32, 0)), .int 0, .int 0]) from rfl, (ad_at (k := 42) (c := (4, 13, 0)) rfl : adO h5 h6 u5 u6 x (4, 13, 0) = (u6 0)), (ad_at (k := 43) (c := (4, 14, 0)) rfl : adO h5 h6 u5 u6 x (4, 14, 0) = (u6 1)), (ad_at (k := 44) (c := (4, 15, 0)) rfl : adO h5 h6 u5 u6 x (4, 15, 0) = (u6 2)), (ad_at (k := 45) (c := (4, 16, 0)) rfl : adO h5 h6 u5 u6 x (4, 16, 0) = (u6 3)), (ad_at (k := 46) (c := (4, 17, 0)) rfl : adO h5 h6 u5 u6 x (4, 17, 0) = (u6 4)), (ad_at (k := 47) (c := (4, 18, 0)) rfl : adO h5 h6 u5 u6 x (4, 18, 0) = (u6 5)), (ad_at (k := 48) (c := (4, 19, 0)) rfl : adO h5 h6 u5 u6 x (4, 19, 0) = (u6 6)), (ad_at (k := 49) (c := (4, 20, 0)) rfl : adO h5 h6 u5 u6 x (4, 20, 0) = (u6 7)), (ad_at (k := 50) (c := (4, 21, 0)) rfl : adO h5 h6 u5 u6 x (4, 21, 0) = (u6 8)), (ad_at (k := 51) (c := (4, 22, 0)) rfl : adO h5 h6 u5 u6 x (4, 22, 0) = (u6 9)), (ad_at (k := 52) (c := (4, 23, 0)) rfl : adO h5 h6 u5 u6 x (4, 23, 0) = (u6 10)), (ad_at (k := 53) (c := (4, 24, 0)) rfl : adO h5 h6 u5 u6 x (4, 24, 0) = (u6 11)), (ad_at (k := 54) (c := (4, 25, 0)) rfl : adO h5 h6 u5 u6 x (4, 25, 0) = (u6 12)), (ad_at (k := 55) (c := (4, 26, 0)) rfl : adO h5 h6 u5 u6 x (4, 26, 0) = (u6 13)), (ad_at (k := 56) (c := (4, 27, 0)) rfl : adO h5 h6 u5 u6 x (4, 27, 0) = (u6 14)), (ad_at (k := 57) (c := (4, 28, 0)) rfl : adO h5 h6 u5 u6 x (4, 28, 0) = (u6 15)), (ad_at (k := 58) (c := (4, 29, 0)) rfl : adO h5 h6 u5 u6 x (4, 29, 0) = (u6 16)), (ad_at (k := 59) (c := (4, 30, 0)) rfl : adO h5 h6 u5 u6 x (4, 30, 0) = (u6 17)), (ad_at (k := 60) (c := (4, 31, 0)) rfl : adO h5 h6 u5 u6 x (4, 31, 0) = (u6 18)), (ad_at (k := 61) (c := (4, 32, 0)) rfl : adO h5 h6 u5 u6 x (4, 32, 0) = (u6 19))]
  exact h
theorem kq_42 (D : va_G) (cI cL cM : ClassId) (h5 h6 : Nat) (u5 u6 x : Nat → Nat) (H : Heap) : KP D cI cL cM h5 h6 u5 u6 x H 42 (4, 13, 0) := by
  refine ⟨_, rfl, (ad_at (k := 42) (c := (4, 13, 0)) rfl).symm, fun h => ?_⟩
  rw [ad_at (k := 42) (c := (4, 13, 0)) rfl]
  refine at_i (f := (fun _ => 0)) (f' := M0 4 13 0) (fun j _ => rfl) h
theorem kq_43 (D : va_G) (cI cL cM : ClassId) (h5 h6 : Nat) (u5 u6 x : Nat → Nat) (H : Heap) : KP D cI cL cM h5 h6 u5 u6 x H 43 (4, 14, 0) := by
  refine ⟨_, rfl, (ad_at (k := 43) (c := (4, 14, 0)) rfl).symm, fun h => ?_⟩
  rw [ad_at (k := 43) (c := (4, 14, 0)) rfl]
  refine at_i (f := (va_up (va_up (va_up (va_up (va_up (fun _ => 0) 0 1) 1 20) 2 3) 3 9) 4 60)) (f' := M0 4 14 0) (by decide +kernel) h
theorem kq_44 (D : va_G) (cI cL cM : ClassId) (h5 h6 : Nat) (u5 u6 x : Nat → Nat) (H : Heap) : KP D cI cL cM h5 h6 u5 u6 x H 44 (4, 15, 0) := by
  refine ⟨_, rfl, (ad_at (k := 44) (c := (4, 15, 0)) rfl).symm, fun h => ?_⟩
  rw [ad_at (k := 44) (c := (4, 15, 0)) rfl]
  refine at_i (f := (fun _ => 0)) (f' := M0 4 15 0) (fun j _ => rfl) h
theorem kq_45 (D : va_G) (cI cL cM : ClassId) (h5 h6 : Nat) (u5 u6 x : Nat → Nat) (H : Heap) : KP D cI cL cM h5 h6 u5 u6 x H 45 (4, 16, 0) := by
  refine ⟨_, rfl, (ad_at (k := 45) (c := (4, 16, 0)) rfl).symm, fun h => ?_⟩
  rw [ad_at (k := 45) (c := (4, 16, 0)) rfl]
  refine at_i (f := (fun _ => 0)) (f' := M0 4 16 0) (fun j _ => rfl) h
theorem kq_46 (D : va_G) (cI cL cM : ClassId) (h5 h6 : Nat) (u5 u6 x : Nat → Nat) (H : Heap) : KP D cI cL cM h5 h6 u5 u6 x H 46 (4, 17, 0) := by
  refine ⟨_, rfl, (ad_at (k := 46) (c := (4, 17, 0)) rfl).symm, fun h => ?_⟩
  rw [ad_at (k := 46) (c := (4, 17, 0)) rfl]
  refine at_i (f := (fun _ => 0)) (f' := M0 4 17 0) (fun j _ => rfl) h
theorem kq_47 (D : va_G) (cI cL cM : ClassId) (h5 h6 : Nat) (u5 u6 x : Nat → Nat) (H : Heap) : KP D cI cL cM h5 h6 u5 u6 x H 47 (4, 18, 0) := by
  refine ⟨_, rfl, (ad_at (k := 47) (c := (4, 18, 0)) rfl).symm, fun h => ?_⟩
  rw [ad_at (k := 47) (c := (4, 18, 0)) rfl]
  refine at_i (f := (fun _ => 0)) (f' := M0 4 18 0) (fun j _ => rfl) h
theorem kq_48 (D : va_G) (cI cL cM : ClassId) (h5 h6 : Nat) (u5 u6 x : Nat → Nat) (H : Heap) : KP D cI cL cM h5 h6 u5 u6 x H 48 (4, 19, 0) := by
  refine ⟨_, rfl, (ad_at (k := 48) (c := (4, 19, 0)) rfl).symm, fun h => ?_⟩
  rw [ad_at (k := 48) (c := (4, 19, 0)) rfl]
  refine at_i (f := (fun _ => 0)) (f' := M0 4 19 0) (fun j _ => rfl) h
theorem kq_49 (D : va_G) (cI cL cM : ClassId) (h5 h6 : Nat) (u5 u6 x : Nat → Nat) (H : Heap) : KP D cI cL cM h5 h6 u5 u6 x H 49 (4, 20, 0) := by
  refine ⟨_, rfl, (ad_at (k := 49) (c := (4, 20, 0)) rfl).symm, fun h => ?_⟩
  rw [ad_at (k := 49) (c := (4, 20, 0)) rfl]
  refine at_i (f := (fun _ => 0)) (f' := M0 4 20 0) (fun j _ => rfl) h
theorem kq_50 (D : va_G) (cI cL cM : ClassId) (h5 h6 : Nat) (u5 u6 x : Nat → Nat) (H : Heap) : KP D cI cL cM h5 h6 u5 u6 x H 50 (4, 21, 0) := by
  refine ⟨_, rfl, (ad_at (k := 50) (c := (4, 21, 0)) rfl).symm, fun h => ?_⟩
  rw [ad_at (k := 50) (c := (4, 21, 0)) rfl]
  refine at_i (f := (fun _ => 0)) (f' := M0 4 21 0) (fun j _ => rfl) h
theorem kq_51 (D : va_G) (cI cL cM : ClassId) (h5 h6 : Nat) (u5 u6 x : Nat → Nat) (H : Heap) : KP D cI cL cM h5 h6 u5 u6 x H 51 (4, 22, 0) := by
  refine ⟨_, rfl, (ad_at (k := 51) (c := (4, 22, 0)) rfl).symm, fun h => ?_⟩
  rw [ad_at (k := 51) (c := (4, 22, 0)) rfl]
  refine at_i (f := (fun _ => 0)) (f' := M0 4 22 0) (fun j _ => rfl) h
theorem kq_52 (D : va_G) (cI cL cM : ClassId) (h5 h6 : Nat) (u5 u6 x : Nat → Nat) (H : Heap) : KP D cI cL cM h5 h6 u5 u6 x H 52 (4, 23, 0) := by
  refine ⟨_, rfl, (ad_at (k := 52) (c := (4, 23, 0)) rfl).symm, fun h => ?_⟩
  rw [ad_at (k := 52) (c := (4, 23, 0)) rfl]
  refine at_i (f := (fun _ => 0)) (f' := M0 4 23 0) (fun j _ => rfl) h
theorem kq_53 (D : va_G) (cI cL cM : ClassId) (h5 h6 : Nat) (u5 u6 x : Nat → Nat) (H : Heap) : KP D cI cL cM h5 h6 u5 u6 x H 53 (4, 24, 0) := by
  refine ⟨_, rfl, (ad_at (k := 53) (c := (4, 24, 0)) rfl).symm, fun h => ?_⟩
  rw [ad_at (k := 53) (c := (4, 24, 0)) rfl]
  refine at_i (f := (fun _ => 0)) (f' := M0 4 24 0) (fun j _ => rfl) h
theorem kq_54 (D : va_G) (cI cL cM : ClassId) (h5 h6 : Nat) (u5 u6 x : Nat → Nat) (H : Heap) : KP D cI cL cM h5 h6 u5 u6 x H 54 (4, 25, 0) := by
  refine ⟨_, rfl, (ad_at (k := 54) (c := (4, 25, 0)) rfl).symm, fun h => ?_⟩
  rw [ad_at (k := 54) (c := (4, 25, 0)) rfl]
  refine at_i (f := (fun _ => 0)) (f' := M0 4 25 0) (fun j _ => rfl) h
theorem kq_55 (D : va_G) (cI cL cM : ClassId) (h5 h6 : Nat) (u5 u6 x : Nat → Nat) (H : Heap) : KP D cI cL cM h5 h6 u5 u6 x H 55 (4, 26, 0) := by
  refine ⟨_, rfl, (ad_at (k := 55) (c := (4, 26, 0)) rfl).symm, fun h => ?_⟩
  rw [ad_at (k := 55) (c := (4, 26, 0)) rfl]
  refine at_i (f := (fun _ => 0)) (f' := M0 4 26 0) (fun j _ => rfl) h
theorem kq_56 (D : va_G) (cI cL cM : ClassId) (h5 h6 : Nat) (u5 u6 x : Nat → Nat) (H : Heap) : KP D cI cL cM h5 h6 u5 u6 x H 56 (4, 27, 0) := by
  refine ⟨_, rfl, (ad_at (k := 56) (c := (4, 27, 0)) rfl).symm, fun h => ?_⟩
  rw [ad_at (k := 56) (c := (4, 27, 0)) rfl]
  refine at_i (f := (fun _ => 0)) (f' := M0 4 27 0) (fun j _ => rfl) h
theorem kq_57 (D : va_G) (cI cL cM : ClassId) (h5 h6 : Nat) (u5 u6 x : Nat → Nat) (H : Heap) : KP D cI cL cM h5 h6 u5 u6 x H 57 (4, 28, 0) := by
  refine ⟨_, rfl, (ad_at (k := 57) (c := (4, 28, 0)) rfl).symm, fun h => ?_⟩
  rw [ad_at (k := 57) (c := (4, 28, 0)) rfl]
  refine at_i (f := (fun _ => 0)) (f' := M0 4 28 0) (fun j _ => rfl) h
theorem kq_58 (D : va_G) (cI cL cM : ClassId) (h5 h6 : Nat) (u5 u6 x : Nat → Nat) (H : Heap) : KP D cI cL cM h5 h6 u5 u6 x H 58 (4, 29, 0) := by
  refine ⟨_, rfl, (ad_at (k := 58) (c := (4, 29, 0)) rfl).symm, fun h => ?_⟩
  rw [ad_at (k := 58) (c := (4, 29, 0)) rfl]
  refine at_i (f := (fun _ => 0)) (f' := M0 4 29 0) (fun j _ => rfl) h
theorem kq_59 (D : va_G) (cI cL cM : ClassId) (h5 h6 : Nat) (u5 u6 x : Nat → Nat) (H : Heap) : KP D cI cL cM h5 h6 u5 u6 x H 59 (4, 30, 0) := by
  refine ⟨_, rfl, (ad_at (k := 59) (c := (4, 30, 0)) rfl).symm, fun h => ?_⟩
  rw [ad_at (k := 59) (c := (4, 30, 0)) rfl]
  refine at_i (f := (fun _ => 0)) (f' := M0 4 30 0) (fun j _ => rfl) h
theorem kq_60 (D : va_G) (cI cL cM : ClassId) (h5 h6 : Nat) (u5 u6 x : Nat → Nat) (H : Heap) : KP D cI cL cM h5 h6 u5 u6 x H 60 (4, 31, 0) := by
  refine ⟨_, rfl, (ad_at (k := 60) (c := (4, 31, 0)) rfl).symm, fun h => ?_⟩
  rw [ad_at (k := 60) (c := (4, 31, 0)) rfl]
  refine at_i (f := (fun _ => 0)) (f' := M0 4 31 0) (fun j _ => rfl) h
theorem kq_61 (D : va_G) (cI cL cM : ClassId) (h5 h6 : Nat) (u5 u6 x : Nat → Nat) (H : Heap) : KP D cI cL cM h5 h6 u5 u6 x H 61 (4, 32, 0) := by
  refine ⟨_, rfl, (ad_at (k := 61) (c := (4, 32, 0)) rfl).symm, fun h => ?_⟩
  rw [ad_at (k := 61) (c := (4, 32, 0)) rfl]
  refine at_i (f := (fun _ => 0)) (f' := M0 4 32 0) (fun j _ => rfl) h
def AllP (P : Nat → Cd → Prop) : List Cd → Nat → Prop
  | [], _ => True
  | d :: r, n => P n d ∧ AllP P r (n + 1)
theorem all_get {P : Nat → Cd → Prop} : ∀ (l : List Cd) (n : Nat), AllP P l n → ∀ (k : Nat) (c : Cd), l[k]? = some c → P (n + k) c
  | [], _, _, _, _, h => by cases h
  | d :: r, n, ⟨h1, h2⟩, 0, c, h => by cases h; exact h1
  | d :: r, n, ⟨h1, h2⟩, k + 1, c, h => by
    have := all_get r (n + 1) h2 k c h
    rw [show n + (k + 1) = n + 1 + k by omega]
    exact this
theorem kq_all (D : va_G) (cI cL cM : ClassId) (h5 h6 : Nat) (u5 u6 x : Nat → Nat) (H : Heap) (k : Nat) (c : Cd) (hc : cellsL[k]? = some c) : KP D cI cL cM h5 h6 u5 u6 x H k c := by
  have h := all_get (P := KP D cI cL cM h5 h6 u5 u6 x H) cellsL 0 ⟨kq_0 D cI cL cM h5 h6 u5 u6 x H, kq_1 D cI cL cM h5 h6 u5 u6 x H, kq_2 D cI cL cM h5 h6 u5 u6 x H, kq_3 D cI cL cM h5 h6 u5 u6 x H, kq_4 D cI cL cM h5 h6 u5 u6 x H, kq_5 D cI cL cM h5 h6 u5 u6 x H, kq_6 D cI cL cM h5 h6 u5 u6 x H, kq_7 D cI cL cM h5 h6 u5 u6 x H, kq_8 D cI cL cM h5 h6 u5 u6 x H, kq_9 D cI cL cM h5 h6 u5 u6 x H, kq_10 D cI cL cM h5 h6 u5 u6 x H, kq_11 D cI cL cM h5 h6 u5 u6 x H, kq_12 D cI cL cM h5 h6 u5 u6 x H, kq_13 D cI cL cM h5 h6 u5 u6 x H, kq_14 D cI cL cM h5 h6 u5 u6 x H, kq_15 D cI cL cM h5 h6 u5 u6 x H, kq_16 D cI cL cM h5 h6 u5 u6 x H, kq_17 D cI cL cM h5 h6 u5 u6 x H, kq_18 D cI cL cM h5 h6 u5 u6 x H, kq_19 D cI cL cM h5 h6 u5 u6 x H, kq_20 D cI cL cM h5 h6 u5 u6 x H, kq_21 D cI cL cM h5 h6 u5 u6 x H, kq_22 D cI cL cM h5 h6 u5 u6 x H, kq_23 D cI cL cM h5 h6 u5 u6 x H, kq_24 D cI cL cM h5 h6 u5 u6 x H, kq_25 D cI cL cM h5 h6 u5 u6 x H, kq_26 D cI cL cM h5 h6 u5 u6 x H, kq_27 D cI cL cM h5 h6 u5 u6 x H, kq_28 D cI cL cM h5 h6 u5 u6 x H, kq_29 D cI cL cM h5 h6 u5 u6 x H, kq_30 D cI cL cM h5 h6 u5 u6 x H, kq_31 D cI cL cM h5 h6 u5 u6 x H, kq_32 D cI cL cM h5 h6 u5 u6 x H, kq_33 D cI cL cM h5 h6 u5 u6 x H, kq_34 D cI cL cM h5 h6 u5 u6 x H, kq_35 D cI cL cM h5 h6 u5 u6 x H, kq_36 D cI cL cM h5 h6 u5 u6 x H, kq_37 D cI cL cM h5 h6 u5 u6 x H, kq_38 D cI cL cM h5 h6 u5 u6 x H, kq_39 D cI cL cM h5 h6 u5 u6 x H, kq_40 D cI cL cM h5 h6 u5 u6 x H, kq_41 D cI cL cM h5 h6 u5 u6 x H, kq_42 D cI cL cM h5 h6 u5 u6 x H, kq_43 D cI cL cM h5 h6 u5 u6 x H, kq_44 D cI cL cM h5 h6 u5 u6 x H, kq_45 D cI cL cM h5 h6 u5 u6 x H, kq_46 D cI cL cM h5 h6 u5 u6 x H, kq_47 D cI cL cM h5 h6 u5 u6 x H, kq_48 D cI cL cM h5 h6 u5 u6 x H, kq_49 D cI cL cM h5 h6 u5 u6 x H, kq_50 D cI cL cM h5 h6 u5 u6 x H, kq_51 D cI cL cM h5 h6 u5 u6 x H, kq_52 D cI cL cM h5 h6 u5 u6 x H, kq_53 D cI cL cM h5 h6 u5 u6 x H, kq_54 D cI cL cM h5 h6 u5 u6 x H, kq_55 D cI cL cM h5 h6 u5 u6 x H, kq_56 D cI cL cM h5 h6 u5 u6 x H, kq_57 D cI cL cM h5 h6 u5 u6 x H, kq_58 D cI cL cM h5 h6 u5 u6 x H, kq_59 D cI cL cM h5 h6 u5 u6 x H, kq_60 D cI cL cM h5 h6 u5 u6 x H, kq_61 D cI cL cM h5 h6 u5 u6 x H, trivial⟩ k c hc
  rw [Nat.zero_add] at h
  exact h
theorem P_init {D : va_G} {cI cL cM : ClassId} {h5 h6 : Nat} {u5 u6 x : Nat → Nat} {H : Heap} (hP : va_P D vwCl (fX5 cI cL cM h5 u5 ++ fX6 cI cL cM h6 u6) H) : va_P D vwCl (wsO cI cL cM (adO h5 h6 u5 u6 x) M0) H := by
  intro k q hq
  obtain ⟨c, hc, rfl⟩ := ws_of hq
  obtain ⟨q, h1, h2, h3⟩ := kq_all D cI cL cM h5 h6 u5 u6 x H k c hc
  exact h3 (hP _ q h1)
theorem D_init (D : va_G) {cI cL cM : ClassId} {h5 h6 : Nat} {u5 u6 x : Nat → Nat} (H : Heap) {A : Nat → Prop} (hD : va_D A (fX5 cI cL cM h5 u5 ++ fX6 cI cL cM h6 u6)) : va_D A (wsO cI cL cM (adO h5 h6 u5 u6 x) M0) := by
  refine ⟨fun i j p q hp hq e => ?_, fun k q hq => ?_⟩
  · obtain ⟨c, hc, rfl⟩ := ws_of hp
    obtain ⟨c', hc', rfl⟩ := ws_of hq
    obtain ⟨q1, h1, h2, -⟩ := kq_all D cI cL cM h5 h6 u5 u6 x H i c hc
    obtain ⟨q2, h3, h4, -⟩ := kq_all D cI cL cM h5 h6 u5 u6 x H j c' hc'
    refine pm_inj i ?_ j ?_ (hD.1 _ _ _ _ h1 h3 (h2.trans (e.trans h4.symm)))
    · have := (List.getElem?_eq_some_iff.mp hc).1; rw [cellsL_len] at this; exact this
    · have := (List.getElem?_eq_some_iff.mp hc').1; rw [cellsL_len] at this; exact this
  · obtain ⟨c, hc, rfl⟩ := ws_of hq
    obtain ⟨q1, h1, h2, -⟩ := kq_all D cI cL cM h5 h6 u5 u6 x H k c hc
    have h5 := hD.2 _ _ h1
    rw [h2] at h5
    exact h5
