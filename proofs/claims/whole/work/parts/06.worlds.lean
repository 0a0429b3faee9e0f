def siteC (g : Nat) : List Cd := [(g, 0, 0), (g, 1, 0), (g, 2, 0), (g, 2, 1), (g, 2, 2), (g, 2, 3), (g, 3, 0), (g, 4, 0), (g, 4, 1), (g, 4, 2), (g, 5, 0), (g, 6, 0)]
def cellsL : List Cd := [(0, 7, 0), (0, 8, 0), (0, 9, 0), (0, 10, 0), (0, 11, 0)] ++ (siteC 1 ++ (siteC 2 ++ (siteC 3 ++ (List.range 21).map (fun k => (4, 12 + k, 0)))))
theorem cells_nd : cellsL.Nodup := by decide +kernel
theorem cells_k : ∀ c ∈ cellsL, c.2.1 < 33 ∧ c.1 ≠ 9 := by decide +kernel
theorem tg_ok : ∀ c ∈ cellsL, ∀ r ∈ tgs, r.1 = c.2.1 → r.2.2 c.1 ∈ cellsL := by decide +kernel
theorem aa_ok1 : ∀ c ∈ cellsL, c.2.1 = 1 → ∀ n, n < 4 → (c.1, 2, n) ∈ cellsL := by decide +kernel
theorem aa_ok3 : ∀ c ∈ cellsL, c.2.1 = 3 → ∀ n, n < 3 → (c.1, 4, n) ∈ cellsL := by decide +kernel
theorem tgf_ok {c : Cd} {j : Nat} {f : Nat → Cd} (hc : c ∈ cellsL) (h : tgf c.2.1 j = some f) : f c.1 ∈ cellsL := by
  unfold tgf at h
  cases e : tgs.find? (fun r => r.1 == c.2.1 && r.2.1 == j) with
  | none => rw [e] at h; cases h
  | some r =>
    rw [e] at h
    cases h
    have h1 := List.find?_some e
    simp only [Bool.and_eq_true, beq_iff_eq] at h1
    exact tg_ok c hc r (List.mem_of_find?_eq_some e) h1.1
def okC (c : Cd) : Prop := c ∈ cellsL ∨ (c.1 = 9 ∧ 33 ≤ c.2.1 ∧ c.2.1 ≤ 36 ∧ c.2.2 = 0)
def okV (v : AV) : Prop := ∃ w, v = some w ∧ ∀ c, w = .inr c → okC c
def okS (st : List AV) : Prop := ∀ v ∈ st, okV v
def okL (ls : List AV) : Prop := ∀ v ∈ ls, v = none ∨ okV v
theorem okV_i (x : Int32) : okV (aI x) := ⟨_, rfl, fun _ h => by cases h⟩
theorem okV_r {c : Cd} (h : okC c) : okV (some (.inr c)) := ⟨_, rfl, fun _ e => by cases e; exact h⟩
theorem okV_c {c : Cd} (h : okV (some (.inr c))) : okC c := by
  obtain ⟨w, e, h⟩ := h
  cases e
  exact h c rfl
theorem okS_cons {v : AV} {st : List AV} (h : okV v) (hs : okS st) : okS (v :: st) := fun w hw => (List.mem_cons.mp hw).elim (fun e => e ▸ h) (hs w)
theorem okS_tl {v : AV} {st : List AV} (h : okS (v :: st)) : okS st := fun w hw => h w (List.mem_cons_of_mem _ hw)
theorem okS_hd {v : AV} {st : List AV} (h : okS (v :: st)) : okV v := h v List.mem_cons_self
theorem okL_set {ls : List AV} {i : Nat} {v : AV} (h : okL ls) (hv : okV v) : okL (ls.set i v) := fun w hw => (List.mem_or_eq_of_mem_set hw).elim (h w) (fun e => Or.inr (e ▸ hv))
theorem okL_get {ls : List AV} {i : Nat} {w : Int32 ⊕ Cd} (h : okL ls) (hi : ls[i]? = some (some w)) : okV (some w) := by
  rcases h _ (List.mem_of_getElem? hi) with e | e
  · cases e
  · exact e
def kCls : List (Option Nat) := [some 2, none, some 0, none, some 1, some 3, none, some 5, some 4, none, none, none, some 6]
def kCl (k : Nat) : Option Nat := kCls.getD k none
theorem kCl_ok : ∀ ci, ci < 7 → kCl (cKi ci) = some ci ∧ cKi ci < 33 := by decide +kernel
def entF (ad : Cd → Nat) (M : Mm) (g k i n : Nat) : List Value := (List.range n).map (fun j => match tgf k j with
  | some f => Value.ref (ad (f g))
  | none => .int (M g k i j))
def ent (cI cL cM : ClassId) (ad : Cd → Nat) (M : Mm) (c : Cd) : va_E := match kCl c.2.1 with
  | some ci => .inr (ci, entF ad M c.1 c.2.1 c.2.2 (clN ci))
  | none => if c.2.1 = 1 then .inl (cL, 4, .inr (.inr (.inr (.inr (fun j => some (ad (c.1, 2, j))))))) else if c.2.1 = 3 then .inl (cM, 3, .inr (.inr (.inr (.inr (fun j => some (ad (c.1, 4, j))))))) else .inl (cI, alen c.2.1, .inl (M c.1 c.2.1 c.2.2))
def wsO (cI cL cM : ClassId) (ad : Cd → Nat) (M : Mm) : va_W := cellsL.map (fun c => (ad c, ent cI cL cM ad M c))
def tysO (cI cL cM : ClassId) : List (ClassId × FieldType) := [(cI, .int), (cL, .object RX0), (cM, .object RX1)]
theorem nd_inj {α : Type} : ∀ {l : List α}, l.Nodup → ∀ {i j : Nat} {x : α}, l[i]? = some x → l[j]? = some x → i = j := by
  intro l
  induction l with
  | nil => intro _ i j x h; simp at h
  | cons a l ih =>
    intro hn i j x h1 h2
    obtain ⟨ha, hl⟩ := List.nodup_cons.mp hn
    cases i with
    | zero =>
      cases j with
      | zero => rfl
      | succ j =>
        simp only [List.getElem?_cons_zero, Option.some.injEq] at h1
        simp only [List.getElem?_cons_succ] at h2
        exact absurd (List.mem_of_getElem? h2) (h1 ▸ ha)
    | succ i =>
      cases j with
      | zero =>
        simp only [List.getElem?_cons_zero, Option.some.injEq] at h2
        simp only [List.getElem?_cons_succ] at h1
        exact absurd (List.mem_of_getElem? h1) (h2 ▸ ha)
      | succ j =>
        simp only [List.getElem?_cons_succ] at h1 h2
        exact congrArg _ (ih hl h1 h2)
section Worlds
variable {cI cL cM : ClassId} {ad : Cd → Nat} {M M' : Mm}
theorem ws_at {q : Nat} {c : Cd} (h : cellsL[q]? = some c) : (wsO cI cL cM ad M)[q]? = some (ad c, ent cI cL cM ad M c) := by
  unfold wsO
  rw [List.getElem?_map, h]
  rfl
theorem ws_of {q : Nat} {x : Nat × va_E} (h : (wsO cI cL cM ad M)[q]? = some x) : ∃ c, cellsL[q]? = some c ∧ x = (ad c, ent cI cL cM ad M c) := by
  unfold wsO at h
  rw [List.getElem?_map] at h
  cases e : cellsL[q]? with
  | none => rw [e] at h; cases h
  | some c =>
    rw [e] at h
    cases h
    exact ⟨c, rfl, rfl⟩
theorem ws_in {c : Cd} (h : c ∈ cellsL) : ∃ q : Nat, cellsL[q]? = some c ∧ (wsO cI cL cM ad M)[q]? = some (ad c, ent cI cL cM ad M c) := by
  obtain ⟨q, hq⟩ := List.mem_iff_getElem?.mp h
  exact ⟨q, hq, ws_at hq⟩
theorem ws_set {q : Nat} {c : Cd} {x : va_E} (h : cellsL[q]? = some c) (hx : ent cI cL cM ad M' c = x) (ho : ∀ c', c' ≠ c → ent cI cL cM ad M' c' = ent cI cL cM ad M c') : (wsO cI cL cM ad M).set q (ad c, x) = wsO cI cL cM ad M' := by
  apply List.ext_getElem?
  intro i
  rw [List.getElem?_set]
  by_cases e : q = i
  · subst e
    have hl : q < (wsO cI cL cM ad M).length := (List.getElem?_eq_some_iff.mp (ws_at (cI := cI) (cL := cL) (cM := cM) (ad := ad) (M := M) h)).1
    rw [if_pos rfl, if_pos hl, ws_at h, hx]
  · rw [if_neg e]
    cases e2 : cellsL[i]? with
    | none =>
      unfold wsO
      rw [List.getElem?_map, List.getElem?_map, e2]
      rfl
    | some c' =>
      have hne : c' ≠ c := by
        intro ec
        subst ec
        exact e (nd_inj cells_nd h e2)
      rw [ws_at e2, ws_at e2, ho c' hne]
theorem D_to {A : Nat → Prop} (h : va_D A (wsO cI cL cM ad M)) (M' : Mm) : va_D A (wsO cI cL cM ad M') := by
  refine ⟨fun i j p q hp hq e => ?_, fun k q hq => ?_⟩
  · obtain ⟨c, h1, rfl⟩ := ws_of hp
    obtain ⟨d, h2, rfl⟩ := ws_of hq
    exact h.1 i j _ _ (ws_at h1) (ws_at h2) e
  · obtain ⟨c, h1, rfl⟩ := ws_of hq
    exact h.2 k (ad c, ent cI cL cM ad M c) (ws_at h1)
theorem up_same {α : Type} (f : Nat → α) (k : Nat) (v : α) : va_up f k v k = v := by simp [va_up]
theorem up_ne {α : Type} (f : Nat → α) {k j : Nat} (v : α) (h : j ≠ k) : va_up f k v j = f j := by simp [va_up, h]
theorem up_up {α : Type} (f : Nat → α) (k : Nat) (v w : α) : va_up (va_up f k v) k w = va_up f k w := by
  funext j
  by_cases h : j = k
  · subst h; simp [va_up]
  · simp [va_up, h]
theorem up_id {α : Type} (f : Nat → α) (k : Nat) : va_up f k (f k) = f := by
  funext j
  by_cases h : j = k
  · subst h; simp [va_up]
  · simp [va_up, h]
theorem wr_same (M : Mm) (g k i j : Nat) (v : Int32) : wr M g k i j v g k i = va_up (M g k i) j v := by simp only [wr, up_same]
theorem wr_ne (M : Mm) {g k i g' k' i' : Nat} (j : Nat) (v : Int32) (h : (g', k', i') ≠ (g, k, i)) : wr M g k i j v g' k' i' = M g' k' i' := by
  unfold wr
  by_cases hg : g' = g
  · subst hg
    rw [up_same]
    by_cases hk : k' = k
    · subst hk
      rw [up_same]
      exact up_ne _ _ (fun e => h (by rw [e]))
    · rw [up_ne _ _ hk]
  · rw [up_ne _ _ hg]
theorem ent_ne {g k i j : Nat} {v : Int32} {c : Cd} (h : c ≠ (g, k, i)) : ent cI cL cM ad (wr M g k i j v) c = ent cI cL cM ad M c := by
  obtain ⟨g', k', i'⟩ := c
  unfold ent entF
  simp only [wr_ne M j v h]
theorem entF_wr {g k i j n : Nat} {v : Int32} (h : tgf k j = none) : entF ad (wr M g k i j v) g k i n = (entF ad M g k i n).set j (.int v) := by
  apply List.ext_getElem?
  intro q
  unfold entF
  rw [List.getElem?_set, List.getElem?_map, List.getElem?_map, wr_same, List.length_map, List.length_range]
  by_cases e : j = q
  · subst e
    rw [if_pos rfl]
    by_cases hl : j < n
    · rw [if_pos hl, List.getElem?_range hl]
      show some _ = some _
      simp only [h, up_same]
    · rw [if_neg hl]
      rw [List.getElem?_eq_none (by simpa using hl)]
      rfl
  · rw [if_neg e]
    cases e2 : (List.range n)[q]? with
    | none => rfl
    | some z =>
      have hz : z = q := by
        have := List.getElem?_eq_some_iff.mp e2
        obtain ⟨h1, h2⟩ := this
        rw [List.getElem_range] at h2
        exact h2.symm
      subst hz
      have hx : va_up (M g k i) j v z = M g k i z := up_ne _ _ (Ne.symm e)
      show some _ = some _
      simp only [hx]
theorem entF_at {g k i j n : Nat} (hj : j < n) : (entF ad M g k i n)[j]? = some (match tgf k j with
  | some f => Value.ref (ad (f g))
  | none => .int (M g k i j)) := by
  unfold entF
  rw [List.getElem?_map, List.getElem?_range hj]
  rfl
end Worlds
/-- a value of the little machine, in the machine -/
def cv (ad : Cd → Nat) : AV → Value
  | some (.inl x) => .int x
  | some (.inr c) => .ref (ad c)
  | none => .null
theorem cv_cat (ad : Cd → Nat) (v : AV) : (cv ad v).category = 1 := by
  match v with
  | some (.inl x) => rfl
  | some (.inr c) => rfl
  | none => rfl
def lvO (ad : Cd → Nat) (ls : List AV) : List (Nat × Value) := (ls.zipIdx).filterMap (fun q => match q.1 with
  | some w => some (q.2, cv ad (some w))
  | none => none)
theorem lvO_mem {ad : Cd → Nat} {ls : List AV} {i : Nat} {x : Value} : (i, x) ∈ lvO ad ls ↔ ∃ w, ls[i]? = some (some w) ∧ x = cv ad (some w) := by
  unfold lvO
  rw [List.mem_filterMap]
  constructor
  · rintro ⟨⟨v, k⟩, hm, he⟩
    have hk := List.mem_zipIdx_iff_getElem?.mp hm
    cases v with
    | none => cases he
    | some w =>
      cases he
      exact ⟨w, hk, rfl⟩
  · rintro ⟨w, hw, rfl⟩
    exact ⟨(some w, i), List.mem_zipIdx_iff_getElem?.mpr hw, rfl⟩
def Lr (ad : Cd → Nat) (sl : Array Slot) (ls : List AV) : Prop := lv_has sl ls.length (lvO ad ls)
theorem Lr.at {ad : Cd → Nat} {sl : Array Slot} {ls : List AV} (h : Lr ad sl ls) {i : Nat} {w : Int32 ⊕ Cd} (hi : ls[i]? = some (some w)) : sl[i]? = some (.val (cv ad (some w))) := h.2.2 (i, _) (lvO_mem.mpr ⟨w, hi, rfl⟩)
theorem Lr.st {ad : Cd → Nat} {sl' : Array Slot} {ls : List AV} {i : Nat} {w : Int32 ⊕ Cd} (hi : i < ls.length) (h : lv_has sl' ls.length ((i, cv ad (some w)) :: (lvO ad ls).filter (fun q => !(q.1 == i) && !(q.1 + 1 == i && q.2.category == 2)))) : Lr ad sl' (ls.set i (some w)) := by
  refine ⟨by rw [List.length_set]; exact h.1, h.2.1, fun q hq => ?_⟩
  obtain ⟨j, x⟩ := q
  obtain ⟨w', hw', rfl⟩ := lvO_mem.mp hq
  rw [List.getElem?_set] at hw'
  by_cases e : i = j
  · subst e
    rw [if_pos rfl, if_pos hi] at hw'
    cases hw'
    exact h.2.2 _ List.mem_cons_self
  · rw [if_neg e] at hw'
    refine h.2.2 _ (List.mem_cons_of_mem _ (List.mem_filter.mpr ⟨lvO_mem.mpr ⟨w', hw', rfl⟩, ?_⟩))
    have := cv_cat ad (some w')
    simp [this, Ne.symm e]
