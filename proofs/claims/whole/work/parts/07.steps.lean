def isNest : Cond → Bool
  | .fieldLinkNest .. => true
  | .methodLinkNest .. => true
  | _ => false
theorem nest_warm {w : Cond} {s U : State} (hn : isNest w = true) (hW : s.WarmedH U.vm) (h : va_Nw w s) : va_Nw w U := by
  unfold isNest at hn
  split at hn
  · exact va_Nw.warmF hW h
  · exact va_Nw.warmM hW h
  · cases hn
theorem nest_same {w : Cond} {s U : State} (hn : isNest w = true) (hv : U.vm = s.vm) (h : va_Nw w s) : va_Nw w U := by
  unfold isNest at hn
  split at hn
  · exact va_Nw.same rfl hv.symm h
  · exact va_Nw.same rfl hv.symm h
  · cases hn
/-- what lies outside the worlds: two constant rows, two constant texts -/
def Ext (ad : Cd → Nat) (A : Nat → Prop) (U : State) (H : Heap) : Prop :=
  (va_Z RX5 "SETTING_LEAST" "[I" (.ref (ad (9, 33, 0))) A U H ∧ va_T .int (ad (9, 33, 0)) 7 (fun j => .int (stV 33 j)) A U H) ∧ (va_Z RX5 "SETTING_GREATEST" "[I" (.ref (ad (9, 34, 0))) A U H ∧ va_T .int (ad (9, 34, 0)) 7 (fun j => .int (stV 34 j)) A U H) ∧ (∃ adV : Nat → Nat, vk_S 2 [6, 6] [ixB 35, ixB 36] (fun i => ad (9, 35 + i, 0)) adV A U H) ∧ va_Z "java/lang/String" "COMPACT_STRINGS" "Z" (.int 1) A U H ∧ (vk_R RX4 33 "lcwtbs" (ad (9, 35, 0)) U ∧ vk_R RX4 40 "ferqsl" (ad (9, 36, 0)) U ∧ vk_R RX5 262 "lcwtbs" (ad (9, 35, 0)) U ∧ vk_R RX5 280 "ferqsl" (ad (9, 36, 0)) U) ∧ ∀ w ∈ lw_tbl, isNest w = true → va_Nw w U
theorem Ext.to {ad : Cd → Nat} {A B : Nat → Prop} {s U : State} {H H1 : Heap} (h : Ext ad A s H) (hW : s.WarmedH U.vm) (hq : ∀ a : Nat, a < H.size → ¬ A a → H1[a]? = H[a]?) (hAB : ∀ q, B q → A q) : Ext ad B U H1 := by
  obtain ⟨⟨a1, a2⟩, ⟨b1, b2⟩, ⟨adV, c1⟩, d1, ⟨e1, e2, e3, e4⟩, n1⟩ := h
  exact ⟨⟨((a1.moved hW.alike).kept hq).narrow hAB, ((a2.moved hW.alike).kept hq).narrow hAB⟩, ⟨((b1.moved hW.alike).kept hq).narrow hAB, ((b2.moved hW.alike).kept hq).narrow hAB⟩, ⟨adV, ((c1.moved hW.alike).kept hq).narrow hAB⟩, ((d1.moved hW.alike).kept hq).narrow hAB, ⟨e1.warm hW, e2.warm hW, e3.warm hW, e4.warm hW⟩, fun w hw hn => nest_warm hn hW (n1 w hw hn)⟩
theorem Ext.same {ad : Cd → Nat} {A : Nat → Prop} {s U : State} {H : Heap} (h : Ext ad A s H) (hv : U.vm = s.vm) : Ext ad A U H := by
  obtain ⟨⟨a1, a2⟩, ⟨b1, b2⟩, ⟨adV, c1⟩, d1, ⟨e1, e2, e3, e4⟩, n1⟩ := h
  have ha : s.vm.Alike U.vm := by rw [hv]; exact Vm.Alike.refl s.vm
  exact ⟨⟨a1.moved ha, a2.moved ha⟩, ⟨b1.moved ha, b2.moved ha⟩, ⟨adV, c1.moved ha⟩, d1.moved ha, ⟨e1.same hv, e2.same hv, e3.same hv, e4.same hv⟩, fun w hw hn => nest_same hn hv (n1 w hw hn)⟩
/-- at a frame of the little machine: the machine, there, comes to Q -/
def Wd (p : Program) (l : Launch) (e : Env) (R : Room) (s : State) (m : MethodId) (args : Array Value) (below : List Frame) (meth : Method) (c : Code) (D : va_G) (cI cL cM : ClassId) (ad : Cd → Nat) (A : Nat → Prop) (nL : Nat) (Q : State → Prop) (q : Ss) : Prop :=
  ∀ (sl : Array Slot) (H : Heap) (locs : List Loc), okL q.2.1 → okS q.2.2.1 → q.2.1.length = nL → Lr ad sl q.2.1 → va_P D vwCl (wsO cI cL cM ad q.2.2.2) H → va_D A (wsO cI cL cM ad q.2.2.2) → va_S A s.heap H locs → W p l e R s m args below meth c H locs 0 0 Q (F0 m q.1 sl (q.2.2.1.map (cv ad)))
theorem fre_in {own idx ci j nst pl : Nat} (h : fre own idx = some (ci, j, nst, pl)) : fOk (own, idx, ci, j, nst, pl) = true := by
  unfold fre at h
  cases e : fls.find? (fun r => r.1 == own && r.2.1 == idx) with
  | none => rw [e] at h; cases h
  | some r =>
    rw [e] at h
    have h1 := List.find?_some e
    simp only [Bool.and_eq_true, beq_iff_eq] at h1
    have h2 := List.all_eq_true.mp fOk_all r (List.mem_of_find?_eq_some e)
    obtain ⟨a, b, c⟩ := r
    obtain ⟨rfl, rfl⟩ := h1
    cases h
    exact h2
theorem cre_in {own idx y nst pl : Nat} (h : cre own idx = some (y, nst, pl)) : cOk (own, idx, y, nst, pl) = true := by
  unfold cre at h
  cases e : cls_.find? (fun r => r.1 == own && r.2.1 == idx) with
  | none => rw [e] at h; cases h
  | some r =>
    rw [e] at h
    have h1 := List.find?_some e
    simp only [Bool.and_eq_true, beq_iff_eq] at h1
    have h2 := List.all_eq_true.mp cOk_all r (List.mem_of_find?_eq_some e)
    obtain ⟨a, b, c⟩ := r
    obtain ⟨rfl, rfl⟩ := h1
    cases h
    exact h2
theorem kre_in {own idx pl : Nat} {v : Int32} (h : kre own idx = some (v, pl)) : kOk (own, idx, v, pl) = true := by
  unfold kre at h
  cases e : kos.find? (fun r => r.1 == own && r.2.1 == idx) with
  | none => rw [e] at h; cases h
  | some r =>
    rw [e] at h
    have h1 := List.find?_some e
    simp only [Bool.and_eq_true, beq_iff_eq] at h1
    have h2 := List.all_eq_true.mp kOk_all r (List.mem_of_find?_eq_some e)
    obtain ⟨a, b, c⟩ := r
    obtain ⟨rfl, rfl⟩ := h1
    cases h
    exact h2
theorem nx_inj {pc : Nat} {ls st : List AV} {M : Mm} {q : Ss} (h : nx pc ls st M = some (.inr q)) : q = (pc, ls, st, M) := by
  unfold nx at h
  cases h
  rfl
theorem jmp_inj {pc : Nat} {off : Int} {ls st : List AV} {M : Mm} {q : Ss} (h : jmp pc off ls st M = some (.inr q)) : ∃ tgt : Nat, (pc : Int) + off = (tgt : Int) ∧ q = (tgt, ls, st, M) := by
  unfold jmp at h
  split at h
  · rename_i h0
    exact ⟨((pc : Int) + off).toNat, (Int.toNat_of_nonneg h0).symm, nx_inj h⟩
  · cases h
section Steps
variable {p : Program} {l : Launch} {e : Env} {R : Room} {s : State} {m : MethodId} {args : Array Value} {below : List Frame} {meth : Method} {c : Code} {D : va_G} {cI cL cM : ClassId} {ad : Cd → Nat} {A : Nat → Prop} {nL : Nat} {Q : State → Prop} {cc : ByteArray} {pc : Nat} {ls st : List AV} {M : Mm} {q : Ss}
theorem s_bin {f : Int32 → Int32 → Option Int32} {k : Nat} (row : ∀ (H : Heap) (locs : List Loc) (sl : Array Slot) (rest : List Value) (x y z : Int32), f x y = some z → W p l e R s m args below meth c H locs 0 0 Q (F0 m (pc + k + 1) sl (.int z :: rest)) → W p l e R s m args below meth c H locs 0 0 Q (F0 m pc sl (.int y :: .int x :: rest)))
    (h : bin f (pc + k) ls st M = some (.inr q)) (kk : Wd p l e R s m args below meth c D cI cL cM ad A nL Q q) : Wd p l e R s m args below meth c D cI cL cM ad A nL Q (pc, ls, st, M) := by
  intro sl H locs hL hS hn hl hP hD hs
  unfold bin at h
  split at h
  · rename_i b a r
    split at h
    · rename_i z hz
      have := nx_inj h
      subst this
      exact row H locs sl (r.map (cv ad)) a b z hz (kk sl H locs hL (okS_cons (okV_i z) (okS_tl (okS_tl hS))) hn hl hP hD hs)
    · cases h
  · cases h
theorem s_una {f : Int32 → Int32} (row : ∀ (H : Heap) (locs : List Loc) (sl : Array Slot) (rest : List Value) (x : Int32), W p l e R s m args below meth c H locs 0 0 Q (F0 m (pc + 1) sl (.int (f x) :: rest)) → W p l e R s m args below meth c H locs 0 0 Q (F0 m pc sl (.int x :: rest)))
    (h : una f pc ls st M = some (.inr q)) (kk : Wd p l e R s m args below meth c D cI cL cM ad A nL Q q) : Wd p l e R s m args below meth c D cI cL cM ad A nL Q (pc, ls, st, M) := by
  intro sl H locs hL hS hn hl hP hD hs
  unfold una at h
  split at h
  · rename_i a r
    have := nx_inj h
    subst this
    exact row H locs sl (r.map (cv ad)) a (kk sl H locs hL (okS_cons (okV_i (f a)) (okS_tl hS)) hn hl hP hD hs)
  · cases h
theorem s_psh {v : Int32} {k : Nat} (row : ∀ (H : Heap) (locs : List Loc) (sl : Array Slot) (rest : List Value), W p l e R s m args below meth c H locs 0 0 Q (F0 m (pc + k) sl (.int v :: rest)) → W p l e R s m args below meth c H locs 0 0 Q (F0 m pc sl rest))
    (h : nx (pc + k) ls (aI v :: st) M = some (.inr q)) (kk : Wd p l e R s m args below meth c D cI cL cM ad A nL Q q) : Wd p l e R s m args below meth c D cI cL cM ad A nL Q (pc, ls, st, M) := by
  intro sl H locs hL hS hn hl hP hD hs
  have := nx_inj h
  subst this
  exact row H locs sl (st.map (cv ad)) (kk sl H locs hL (okS_cons (okV_i v) hS) hn hl hP hD hs)
theorem s_ldi {i k : Nat} (row : ∀ (H : Heap) (locs : List Loc) (sl : Array Slot) (rest : List Value) (x : Int32), sl[i]? = some (.val (.int x)) → W p l e R s m args below meth c H locs 0 0 Q (F0 m (pc + k) sl (.int x :: rest)) → W p l e R s m args below meth c H locs 0 0 Q (F0 m pc sl rest))
    (h : ldi i k pc ls st M = some (.inr q)) (kk : Wd p l e R s m args below meth c D cI cL cM ad A nL Q q) : Wd p l e R s m args below meth c D cI cL cM ad A nL Q (pc, ls, st, M) := by
  intro sl H locs hL hS hn hl hP hD hs
  unfold ldi at h
  split at h
  · rename_i x hx
    have := nx_inj h
    subst this
    exact row H locs sl (st.map (cv ad)) x (hl.at hx) (kk sl H locs hL (okS_cons (okV_i x) hS) hn hl hP hD hs)
  · cases h
theorem s_lda {i k : Nat} (row : ∀ (H : Heap) (locs : List Loc) (sl : Array Slot) (rest : List Value) (x : Nat), sl[i]? = some (.val (.ref x)) → W p l e R s m args below meth c H locs 0 0 Q (F0 m (pc + k) sl (.ref x :: rest)) → W p l e R s m args below meth c H locs 0 0 Q (F0 m pc sl rest))
    (h : lda i k pc ls st M = some (.inr q)) (kk : Wd p l e R s m args below meth c D cI cL cM ad A nL Q q) : Wd p l e R s m args below meth c D cI cL cM ad A nL Q (pc, ls, st, M) := by
  intro sl H locs hL hS hn hl hP hD hs
  unfold lda at h
  split at h
  · rename_i x hx
    have := nx_inj h
    subst this
    exact row H locs sl (st.map (cv ad)) (ad x) (hl.at hx) (kk sl H locs hL (okS_cons (okL_get hL hx) hS) hn hl hP hD hs)
  · cases h
theorem s_sti {i k : Nat} (row : ∀ (H : Heap) (locs : List Loc) (sl : Array Slot) (rest : List Value) (x : Int32) (lv : List (Nat × Value)), i < nL → lv_has sl nL lv → (∀ sl' : Array Slot, lv_has sl' nL ((i, Value.int x) :: lv.filter (fun q => !(q.1 == i) && !(q.1 + 1 == i && q.2.category == 2))) → W p l e R s m args below meth c H locs 0 0 Q (F0 m (pc + k) sl' rest)) → W p l e R s m args below meth c H locs 0 0 Q (F0 m pc sl (.int x :: rest)))
    (h : sti i k pc ls st M = some (.inr q)) (kk : Wd p l e R s m args below meth c D cI cL cM ad A nL Q q) : Wd p l e R s m args below meth c D cI cL cM ad A nL Q (pc, ls, st, M) := by
  intro sl H locs hL hS hn hl hP hD hs
  unfold sti at h
  split at h
  · rename_i x r
    split at h
    · rename_i hi
      have := nx_inj h
      subst this
      have hn' : ls.length = nL := hn
      subst hn'
      exact row H locs sl (r.map (cv ad)) x (lvO ad ls) hi hl (fun sl' hl' => kk sl' H locs (okL_set hL (okV_i x)) (okS_tl hS) (by show (ls.set i (aI x)).length = _; rw [List.length_set]) (Lr.st (w := .inl x) hi hl') hP hD hs)
    · cases h
  · cases h
theorem s_sta {i k : Nat} (row : ∀ (H : Heap) (locs : List Loc) (sl : Array Slot) (rest : List Value) (x : Nat) (lv : List (Nat × Value)), i < nL → lv_has sl nL lv → (∀ sl' : Array Slot, lv_has sl' nL ((i, Value.ref x) :: lv.filter (fun q => !(q.1 == i) && !(q.1 + 1 == i && q.2.category == 2))) → W p l e R s m args below meth c H locs 0 0 Q (F0 m (pc + k) sl' rest)) → W p l e R s m args below meth c H locs 0 0 Q (F0 m pc sl (.ref x :: rest)))
    (h : sta i k pc ls st M = some (.inr q)) (kk : Wd p l e R s m args below meth c D cI cL cM ad A nL Q q) : Wd p l e R s m args below meth c D cI cL cM ad A nL Q (pc, ls, st, M) := by
  intro sl H locs hL hS hn hl hP hD hs
  unfold sta at h
  split at h
  · rename_i x r
    split at h
    · rename_i hi
      have := nx_inj h
      subst this
      have hn' : ls.length = nL := hn
      subst hn'
      exact row H locs sl (r.map (cv ad)) (ad x) (lvO ad ls) hi hl (fun sl' hl' => kk sl' H locs (okL_set hL (okS_hd hS)) (okS_tl hS) (by show (ls.set i (some (.inr x))).length = _; rw [List.length_set]) (Lr.st (w := .inr x) hi hl') hP hD hs)
    · cases h
  · cases h
theorem s_inc {i : Nat} {k : Int} (hx : p.tables.exec = Jvm.exec) (hb : c.code = cc) (hd : decode cc pc = .ok (.iinc i k, 3)) (h : inc i k pc ls st M = some (.inr q)) (kk : Wd p l e R s m args below meth c D cI cL cM ad A nL Q q) : Wd p l e R s m args below meth c D cI cL cM ad A nL Q (pc, ls, st, M) := by
  intro sl H locs hL hS hn hl hP hD hs
  unfold inc at h
  split at h
  · rename_i x hx0
    have := nx_inj h
    subst this
    have hn' : ls.length = nL := hn
    subst hn'
    have hi : i < ls.length := (List.getElem?_eq_some_iff.mp hx0).1
    obtain ⟨z, hz⟩ := List.mem_iff_getElem?.mp (lvO_mem.mpr ⟨_, hx0, rfl⟩ : (i, cv ad (some (.inl x))) ∈ lvO ad ls)
    exact lv_iinc (v := x + Int32.ofInt k) hx hb hd hl (k := z) hz rfl hi rfl (fun sl' hl' => kk sl' H locs (okL_set hL (okV_i _)) hS (by show (ls.set i _).length = _; rw [List.length_set]) (Lr.st (w := .inl (x + Int32.ofInt k)) hi hl') hP hD hs)
  · cases h
theorem s_if1 {cd : _root_.Jvm.ClassFile.Cond} {off : Int} (hx : p.tables.exec = Jvm.exec) (hb : c.code = cc) (hd : decode cc pc = .ok (.ifCond cd off, 3)) (h : if1 cd off pc ls st M = some (.inr q)) (kk : Wd p l e R s m args below meth c D cI cL cM ad A nL Q q) : Wd p l e R s m args below meth c D cI cL cM ad A nL Q (pc, ls, st, M) := by
  intro sl H locs hL hS hn hl hP hD hs
  unfold if1 at h
  split at h
  · rename_i a r
    by_cases h0 : 0 ≤ (pc : Int) + off
    · rw [if_pos h0] at h
      have ht0 : (pc : Int) + off = (((pc : Int) + off).toNat : Int) := (Int.toNat_of_nonneg h0).symm
      by_cases hc : cnB cd a 0 = true
      · rw [if_pos hc] at h
        obtain ⟨tgt, ht, rfl⟩ := jmp_inj h
        have K := kk sl H locs hL (okS_tl hS) hn hl hP hD hs
        cases cd
        · exact lv_if_eq hx hb hd ht (fun _ => K) (fun n => absurd (of_decide_eq_true hc) n)
        · exact lv_if_ne hx hb hd ht (fun _ => K) (fun n => absurd n (of_decide_eq_true hc))
        · exact lv_if_lt hx hb hd ht (fun _ => K) (fun n => absurd (of_decide_eq_true hc) n)
        · exact lv_if_ge hx hb hd ht (fun _ => K) (fun n => absurd (of_decide_eq_true hc) n)
        · exact lv_if_gt hx hb hd ht (fun _ => K) (fun n => absurd (of_decide_eq_true hc) n)
        · exact lv_if_le hx hb hd ht (fun _ => K) (fun n => absurd (of_decide_eq_true hc) n)
      · rw [if_neg hc] at h
        have := nx_inj h
        subst this
        have K := kk sl H locs hL (okS_tl hS) hn hl hP hD hs
        cases cd
        · exact lv_if_eq hx hb hd ht0 (fun y => absurd (decide_eq_true y) hc) (fun _ => K)
        · exact lv_if_ne hx hb hd ht0 (fun y => absurd (decide_eq_true y) hc) (fun _ => K)
        · exact lv_if_lt hx hb hd ht0 (fun y => absurd (decide_eq_true y) hc) (fun _ => K)
        · exact lv_if_ge hx hb hd ht0 (fun y => absurd (decide_eq_true y) hc) (fun _ => K)
        · exact lv_if_gt hx hb hd ht0 (fun y => absurd (decide_eq_true y) hc) (fun _ => K)
        · exact lv_if_le hx hb hd ht0 (fun y => absurd (decide_eq_true y) hc) (fun _ => K)
    · rw [if_neg h0] at h
      cases h
  · cases h
theorem s_if2 {cd : _root_.Jvm.ClassFile.Cond} {off : Int} (hx : p.tables.exec = Jvm.exec) (hb : c.code = cc) (hd : decode cc pc = .ok (.if_icmp cd off, 3)) (h : if2 cd off pc ls st M = some (.inr q)) (kk : Wd p l e R s m args below meth c D cI cL cM ad A nL Q q) : Wd p l e R s m args below meth c D cI cL cM ad A nL Q (pc, ls, st, M) := by
  intro sl H locs hL hS hn hl hP hD hs
  unfold if2 at h
  split at h
  · rename_i b a r
    by_cases h0 : 0 ≤ (pc : Int) + off
    · rw [if_pos h0] at h
      have ht0 : (pc : Int) + off = (((pc : Int) + off).toNat : Int) := (Int.toNat_of_nonneg h0).symm
      by_cases hc : cnB cd a b = true
      · rw [if_pos hc] at h
        obtain ⟨tgt, ht, rfl⟩ := jmp_inj h
        have K := kk sl H locs hL (okS_tl (okS_tl hS)) hn hl hP hD hs
        cases cd
        · exact lv_icmp_eq hx hb hd ht (fun _ => K) (fun n => absurd (of_decide_eq_true hc) n)
        · exact lv_icmp_ne hx hb hd ht (fun _ => K) (fun n => absurd n (of_decide_eq_true hc))
        · exact lv_icmp_lt hx hb hd ht (fun _ => K) (fun n => absurd (of_decide_eq_true hc) n)
        · exact lv_icmp_ge hx hb hd ht (fun _ => K) (fun n => absurd (of_decide_eq_true hc) n)
        · exact lv_icmp_gt hx hb hd ht (fun _ => K) (fun n => absurd (of_decide_eq_true hc) n)
        · exact lv_icmp_le hx hb hd ht (fun _ => K) (fun n => absurd (of_decide_eq_true hc) n)
      · rw [if_neg hc] at h
        have := nx_inj h
        subst this
        have K := kk sl H locs hL (okS_tl (okS_tl hS)) hn hl hP hD hs
        cases cd
        · exact lv_icmp_eq hx hb hd ht0 (fun y => absurd (decide_eq_true y) hc) (fun _ => K)
        · exact lv_icmp_ne hx hb hd ht0 (fun y => absurd (decide_eq_true y) hc) (fun _ => K)
        · exact lv_icmp_lt hx hb hd ht0 (fun y => absurd (decide_eq_true y) hc) (fun _ => K)
        · exact lv_icmp_ge hx hb hd ht0 (fun y => absurd (decide_eq_true y) hc) (fun _ => K)
        · exact lv_icmp_gt hx hb hd ht0 (fun y => absurd (decide_eq_true y) hc) (fun _ => K)
        · exact lv_icmp_le hx hb hd ht0 (fun y => absurd (decide_eq_true y) hc) (fun _ => K)
    · rw [if_neg h0] at h
      cases h
  · cases h
theorem s_jmp {off : Int} (hx : p.tables.exec = Jvm.exec) (hb : c.code = cc) (hd : decode cc pc = .ok (.goto off, 3)) (h : jmp pc off ls st M = some (.inr q)) (kk : Wd p l e R s m args below meth c D cI cL cM ad A nL Q q) : Wd p l e R s m args below meth c D cI cL cM ad A nL Q (pc, ls, st, M) := by
  intro sl H locs hL hS hn hl hP hD hs
  obtain ⟨tgt, ht, rfl⟩ := jmp_inj h
  exact lv_goto hx hb hd ht (kk sl H locs hL hS hn hl hP hD hs)
theorem s_tsw {d lo hi : Int} {offs : Array Int} {len : Nat} (hx : p.tables.exec = Jvm.exec) (hb : c.code = cc) (hd : decode cc pc = .ok (.tableswitch d lo hi offs, len)) (h : tsw d lo hi offs pc ls st M = some (.inr q)) (kk : Wd p l e R s m args below meth c D cI cL cM ad A nL Q q) : Wd p l e R s m args below meth c D cI cL cM ad A nL Q (pc, ls, st, M) := by
  intro sl H locs hL hS hn hl hP hD hs
  unfold tsw at h
  split at h
  · rename_i x r
    by_cases hc : x.toInt < lo ∨ hi < x.toInt
    · rw [if_pos hc] at h
      obtain ⟨tgt, ht, rfl⟩ := jmp_inj h
      exact lv_tableOut hx hb hd hc ht (kk sl H locs hL (okS_tl hS) hn hl hP hD hs)
    · rw [if_neg hc] at h
      split at h
      · rename_i off ho
        obtain ⟨tgt, ht, rfl⟩ := jmp_inj h
        exact lv_tableIn hx hb hd (fun z => hc (Or.inl z)) (fun z => hc (Or.inr z)) ho ht (kk sl H locs hL (okS_tl hS) hn hl hP hD hs)
      · cases h
  · cases h
theorem s_lsw {d : Int} {ps : Array (Int × Int)} {len : Nat} (hx : p.tables.exec = Jvm.exec) (hb : c.code = cc) (hd : decode cc pc = .ok (.lookupswitch d ps, len)) (h : lsw d ps pc ls st M = some (.inr q)) (kk : Wd p l e R s m args below meth c D cI cL cM ad A nL Q q) : Wd p l e R s m args below meth c D cI cL cM ad A nL Q (pc, ls, st, M) := by
  intro sl H locs hL hS hn hl hP hD hs
  unfold lsw at h
  split at h
  · rename_i x r
    split at h
    · rename_i hc
      obtain ⟨tgt, ht, rfl⟩ := jmp_inj h
      exact lv_lookup hx hb hd hc rfl ht (kk sl H locs hL (okS_tl hS) hn hl hP hD hs)
    · cases h
  · cases h
theorem s_dp1 (hx : p.tables.exec = Jvm.exec) (hb : c.code = cc) (hd : decode cc pc = .ok (.dup, 1)) (h : dp1 pc ls st M = some (.inr q)) (kk : Wd p l e R s m args below meth c D cI cL cM ad A nL Q q) : Wd p l e R s m args below meth c D cI cL cM ad A nL Q (pc, ls, st, M) := by
  intro sl H locs hL hS hn hl hP hD hs
  unfold dp1 at h
  split at h
  · rename_i a r
    have := nx_inj h
    subst this
    exact lv_dup hx hb hd (cv_cat ad (some a)) (kk sl H locs hL (okS_cons (okS_hd hS) hS) hn hl hP hD hs)
  · cases h
theorem s_dp2 (hx : p.tables.exec = Jvm.exec) (hb : c.code = cc) (hd : decode cc pc = .ok (.dup2, 1)) (h : dp2 pc ls st M = some (.inr q)) (kk : Wd p l e R s m args below meth c D cI cL cM ad A nL Q q) : Wd p l e R s m args below meth c D cI cL cM ad A nL Q (pc, ls, st, M) := by
  intro sl H locs hL hS hn hl hP hD hs
  unfold dp2 at h
  split at h
  · rename_i a b r
    have := nx_inj h
    subst this
    exact lv_dup2_11 hx hb hd (cv_cat ad (some a)) (cv_cat ad (some b)) (kk sl H locs hL (okS_cons (okS_hd hS) (okS_cons (okS_hd (okS_tl hS)) hS)) hn hl hP hD hs)
  · cases h
theorem s_pp1 (hx : p.tables.exec = Jvm.exec) (hb : c.code = cc) (hd : decode cc pc = .ok (.pop, 1)) (h : pp1 pc ls st M = some (.inr q)) (kk : Wd p l e R s m args below meth c D cI cL cM ad A nL Q q) : Wd p l e R s m args below meth c D cI cL cM ad A nL Q (pc, ls, st, M) := by
  intro sl H locs hL hS hn hl hP hD hs
  unfold pp1 at h
  split at h
  · rename_i a r
    have := nx_inj h
    subst this
    exact lv_pop hx hb hd (cv_cat ad (some a)) (kk sl H locs hL (okS_tl hS) hn hl hP hD hs)
  · cases h
end Steps
