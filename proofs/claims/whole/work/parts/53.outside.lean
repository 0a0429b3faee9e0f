/-! what the law is entered with: what lies outside the worlds, the classes -/
theorem TS_M0 : TS M0 := by
  refine ⟨⟨0, 1, ⟨by decide, by decide, by decide, rfl, rfl, rfl, rfl, rfl, rfl, rfl, rfl, rfl, rfl, rfl, rfl, Or.inl ⟨rfl, Or.inl rfl⟩, ⟨3, by decide, by decide, rfl⟩, ⟨9, by decide, by decide, rfl⟩⟩, fun i h => absurd h (Nat.not_lt_zero i), fun j hj => ⟨rfl, Or.inl ⟨rfl, rfl, rfl, rfl⟩⟩, fun j _ _ => rfl⟩, ⟨⟨20, by decide, by decide, rfl⟩, rfl⟩, ⟨rfl, fun q hq => ?_, rfl, rfl⟩, Or.inl ⟨rfl, rfl⟩, ⟨0, by decide, rfl, rfl, fun q h => absurd h (Nat.not_lt_zero q)⟩, ⟨0, by decide, rfl, rfl, fun q h => absurd h (Nat.not_lt_zero q)⟩, fun q _ => rfl⟩
  show nI q < 1000000
  rw [show (1000000 : Int32) = nI 1000000 by decide +kernel]
  exact nI_lt (by omega) (by decide)
theorem lw_inst : ∀ k, k < 7 → Cond.instantiable (clR k) (clN k) ∈ lw_tbl := by decide +kernel
theorem lw_ao0 : Cond.arrayOver (.object RX0) ∈ lw_tbl := List.mem_of_getElem? (i := 91) (by decide +kernel)
theorem lw_ao1 : Cond.arrayOver (.object RX1) ∈ lw_tbl := List.mem_of_getElem? (i := 93) (by decide +kernel)
theorem lw_aI : Cond.arrayClass .int ∈ lw_tbl := List.mem_of_getElem? (i := 148) (by decide +kernel)
def tmS (i : Nat) : Term := ([.string RX4 33, .string RX4 40] : List Term).getD i (.string RX4 40)
section Out
variable {s : State} {b : Nat}
theorem k_of (hts : ∀ w ∈ lw_tbl, w.before #[Value.ref b] s = true) : ∃ (D : va_G) (cI cL cM : ClassId), va_K D vwCl (tysO cI cL cM) s := by
  have h0 : ∀ k : Nat, ∃ z : ClassId × (Nat → Nat), ∀ q : vw_C, vwCl[k]? = some q → u_Kn s q.1 q.2.1 q.2.2 z.1 z.2 := by
    intro k
    by_cases hk : k < 7
    · obtain ⟨cC, iS, h⟩ := u_known (C := clR k) (T := clT k) (N := clN k) (n := clN k) (fun w hw => hts w (List.mem_filter.mp hw).1) (lay_gt k hk) (hts _ (lw_inst k hk))
      refine ⟨(cC, iS), fun q hq => ?_⟩
      rw [vwCl_at k hk] at hq
      cases hq
      exact h
    · refine ⟨(0, fun _ => 0), fun q hq => ?_⟩
      have h1 := (List.getElem?_eq_some_iff.mp hq).1
      have h2 : vwCl.length = 7 := rfl
      omega
  obtain ⟨f, hf⟩ := Classical.axiomOfChoice h0
  obtain ⟨cI, kI, compI, f1, f2, f3⟩ := Cond.arrayClass_spec (hts _ lw_aI)
  obtain ⟨compL, cL, kL, g1, g2, g3, g4, g5⟩ := Cond.arrayOver_spec (hts _ lw_ao0)
  obtain ⟨compM, cM, kM, m1, m2, m3, m4, m5⟩ := Cond.arrayOver_spec (hts _ lw_ao1)
  refine ⟨(fun k => (f k).1, fun k => (f k).2), cI, cL, cM, fun k q hq => hf k q hq, fun k q hk => ?_⟩
  have a1 : ArrOfT s cI .int := fun N z => ⟨fun k h => (by cases h), kI, f2, compI, f3⟩
  have a2 : ArrOfT s cL (.object RX0) := fun N z => ⟨fun k h => (by cases h), kL, g3, compL, g4⟩
  have a3 : ArrOfT s cM (.object RX1) := fun N z => ⟨fun k h => (by cases h), kM, m3, compM, m4⟩
  match k, hk with
  | 0, hk => cases hk; exact ⟨a1, f1⟩
  | 1, hk => cases hk; exact ⟨a2, kL, compL, g3, g4, g1, g5⟩
  | 2, hk => cases hk; exact ⟨a3, kM, compM, m3, m4, m1, m5⟩
  | k + 3, hk => simp [tysO] at hk
theorem nw_of (hts : ∀ w ∈ lw_tbl, w.before #[Value.ref b] s = true) : ∀ w ∈ lw_tbl, isNest w = true → va_Nw w s := by
  intro w hw hn
  have h := hts w hw
  unfold isNest at hn
  split at hn
  · exact va_Nw.of rfl h
  · exact va_Nw.of rfl h
  · cases hn
theorem x_of (hts : ∀ w ∈ lw_tbl, w.before #[Value.ref b] s = true) (hg : (Jvm.Cond.and given_1 narrow_1).before #[Value.ref b] s = true) : ∃ x : Nat → Nat, ∀ ad : Cd → Nat, (∀ k, ad (9, k, 0) = x k) → Ext ad (fun q : Nat => s.heap.size ≤ q) s s.heap := by
  have hs := flat_of_before _ hg
  have hA : ∀ a : Nat, a < s.heap.size → ¬ (fun q : Nat => s.heap.size ≤ q) a := fun a h => Nat.not_le.mpr h
  obtain ⟨t1, e1, T1⟩ := va_Tof (args := #[Value.ref b]) (s := s) (tm := .static RX5 "SETTING_LEAST" "[I") (ty := .int) (N := 7) (f := fun j => .int (stV 33 j)) (A := fun q : Nat => s.heap.size ≤ q) (by decide) (hs _ (by decide +kernel)) (va_eqt (hs _ (by decide +kernel))) (fun j hj => by
    rcases (show j = 0 ∨ j = 1 ∨ j = 2 ∨ j = 3 ∨ j = 4 ∨ j = 5 ∨ j = 6 by omega) with rfl | rfl | rfl | rfl | rfl | rfl | rfl <;> exact va_eqt (hs _ (by decide +kernel))) hA
  obtain ⟨t2, e2, T2⟩ := va_Tof (args := #[Value.ref b]) (s := s) (tm := .static RX5 "SETTING_GREATEST" "[I") (ty := .int) (N := 7) (f := fun j => .int (stV 34 j)) (A := fun q : Nat => s.heap.size ≤ q) (by decide) (hs _ (by decide +kernel)) (va_eqt (hs _ (by decide +kernel))) (fun j hj => by
    rcases (show j = 0 ∨ j = 1 ∨ j = 2 ∨ j = 3 ∨ j = 4 ∨ j = 5 ∨ j = 6 by omega) with rfl | rfl | rfl | rfl | rfl | rfl | rfl <;> exact va_eqt (hs _ (by decide +kernel))) hA
  have Z1 := va_Zof (args := #[Value.ref b]) (s := s) (C := RX5) (n := "SETTING_LEAST") (d := "[I") (A := fun q : Nat => s.heap.size ≤ q) (hts _ (by decide +kernel)) (hts _ (by decide +kernel)) e1 hA
  have Z2 := va_Zof (args := #[Value.ref b]) (s := s) (C := RX5) (n := "SETTING_GREATEST") (d := "[I") (A := fun q : Nat => s.heap.size ≤ q) (hts _ (by decide +kernel)) (hts _ (by decide +kernel)) e2 hA
  have Z3 := va_Zof (args := #[Value.ref b]) (s := s) (C := "java/lang/String") (n := "COMPACT_STRINGS") (d := "Z") (v := .int 1) (A := fun q : Nat => s.heap.size ≤ q) (hts _ (by decide +kernel)) (hts _ (by decide +kernel)) (va_eqt (hs _ (by decide +kernel))) hA
  obtain ⟨adK, adV, S1, eS⟩ := vk_Sof (args := #[Value.ref b]) (s := s) (N := 2) (tm := tmS) (len := [6, 6]) (byt := [ixB 35, ixB 36]) (A := fun q : Nat => s.heap.size ≤ q)
    (fun i hi => by rcases (show i = 0 ∨ i = 1 by omega) with rfl | rfl <;> decide)
    (fun i hi => by rcases (show i = 0 ∨ i = 1 by omega) with rfl | rfl <;> exact hs _ (by decide +kernel))
    (fun i hi => by rcases (show i = 0 ∨ i = 1 by omega) with rfl | rfl <;> exact hs _ (by decide +kernel))
    (fun i hi => by rcases (show i = 0 ∨ i = 1 by omega) with rfl | rfl <;> exact hs _ (by decide +kernel))
    (fun i hi => by rcases (show i = 0 ∨ i = 1 by omega) with rfl | rfl <;> exact hs _ (by decide +kernel))
    (fun i hi j hj => by
      rcases (show i = 0 ∨ i = 1 by omega) with rfl | rfl
      · have hj : j < 6 := hj
        rcases (show j = 0 ∨ j = 1 ∨ j = 2 ∨ j = 3 ∨ j = 4 ∨ j = 5 by omega) with rfl | rfl | rfl | rfl | rfl | rfl <;> exact hs _ (by decide +kernel)
      · have hj : j < 6 := hj
        rcases (show j = 0 ∨ j = 1 ∨ j = 2 ∨ j = 3 ∨ j = 4 ∨ j = 5 by omega) with rfl | rfl | rfl | rfl | rfl | rfl <;> exact hs _ (by decide +kernel))
    (fun i j hi hj hij => by
      rcases (show (i = 0 ∧ j = 1) ∨ (i = 1 ∧ j = 0) by omega) with ⟨rfl, rfl⟩ | ⟨rfl, rfl⟩
      · exact Or.inl (hs _ (by decide +kernel))
      · exact Or.inr (hs _ (by decide +kernel))) hA
  have r1 : vk_R RX4 33 "lcwtbs" (adK 0) s := vk_R.of (hts _ (by decide +kernel)) (eS 0 (by decide))
  have r2 : vk_R RX4 40 "ferqsl" (adK 1) s := vk_R.of (hts _ (by decide +kernel)) (eS 1 (by decide))
  have r3 : vk_R RX5 262 "lcwtbs" (adK 0) s := vk_R.of (hts _ (by decide +kernel)) (va_eqR (t := .string RX4 33) (hs _ (by decide +kernel)) (eS 0 (by decide)))
  have r4 : vk_R RX5 280 "ferqsl" (adK 1) s := vk_R.of (hts _ (by decide +kernel)) (va_eqR (t := .string RX4 40) (hs _ (by decide +kernel)) (eS 1 (by decide)))
  refine ⟨fun k => if k = 33 then t1 else if k = 34 then t2 else adK (k - 35), fun ad had => ?_⟩
  have a33 : ad (9, 33, 0) = t1 := had 33
  have a34 : ad (9, 34, 0) = t2 := had 34
  have a35 : ad (9, 35, 0) = adK 0 := had 35
  have a36 : ad (9, 36, 0) = adK 1 := had 36
  have aK : (fun i => ad (9, 35 + i, 0)) = adK := by
    funext i
    rw [had]
    dsimp only
    rw [if_neg (by omega), if_neg (by omega)]
    congr 1
    omega
  unfold Ext
  rw [a33, a34, a35, a36, aK]
  exact ⟨⟨Z1, T1⟩, ⟨Z2, T2⟩, ⟨adV, S1⟩, Z3, ⟨r1, r2, r3, r4⟩, nw_of hts⟩
end Out
