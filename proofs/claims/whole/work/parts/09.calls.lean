def rmL (n : Nat) : Room := { frames := n + 2, cells := 0, slots := 0, locals := 32 * n + 64 }
def wsM (y : Nat) : List Cond := Cond.code (mN y) (cod y) (mxL y) (rtT y) :: gt
def Pre (D : va_G) (cI cL cM : ClassId) (ad : Cd → Nat) (M : Mm) (sz : Nat) : State → Prop := fun U => U.heap.size = sz ∧ va_P D vwCl (wsO cI cL cM ad M) U.heap ∧ va_K D vwCl (tysO cI cL cM) U ∧ va_D (fun _ => True) (wsO cI cL cM ad M) ∧ Ext ad (va_A (wsO cI cL cM ad M) sz) U U.heap
def Bk (D : va_G) (cI cL cM : ClassId) (ad : Cd → Nat) (u : Mm) (t : State) : Prop := va_P D vwCl (wsO cI cL cM ad u) t.heap
def QcM (v : Option Int32) (M' : Mm) (D : va_G) (cI cL cM : ClassId) (ad : Cd → Nat) (A : Nat → Prop) : Array Value → State → Outcome → State → Prop := match v with
  | none => va_Qv (fun u : Mm => u = M') (Bk D cI cL cM ad) A
  | some x => va_Qi (fun (r : Int32) (u : Mm) => r = x ∧ u = M') (Bk D cI cL cM ad) A
/-- the machine does what the little machine does: method y -/
def SndY (l : Launch) (y : Nat) : Prop := ∀ (D : va_G) (cI cL cM : ClassId) (ad : Cd → Nat) (as : List AV) (M M' : Mm) (v : Option Int32) (sz : Nat), call y as M = some (v, M') → okS as → as.length = mnp y + (if mst y = true then 0 else 1) → Met l (mN y) (wsM y) (rmL (lvl y)) (va_Pc (as.map (cv ad)) (Pre D cI cL cM ad M sz)) (QcM v M' D cI cL cM ad (va_A (wsO cI cL cM ad M) sz)) 0 0 (va_A (wsO cI cL cM ad M) sz)
theorem Pre.blind {D : va_G} {cI cL cM : ClassId} {ad : Cd → Nat} {M : Mm} {sz : Nat} {av : List Value} : FrameBlind (va_Pc av (Pre D cI cL cM ad M sz)) := by
  intro a U g mk h
  obtain ⟨q0, q1, qP, qK, qD, qE⟩ := h
  exact ⟨q0, q1, qP, va_K.moved (u := U) (U := U.calling g mk a) (Vm.Alike.refl U.vm) qK, qD, Ext.same qE rfl⟩
theorem mFacts {y : Nat} (h : y < 163) : mOk y = true ∧ mOd y = true ∧ mOn y = true := ⟨List.all_eq_true.mp mOk_all y (List.mem_range.mpr h), List.all_eq_true.mp mOd_all y (List.mem_range.mpr h), List.all_eq_true.mp mOn_all y (List.mem_range.mpr h)⟩
theorem code_gt {y : Nat} (h : y < 163) : Cond.code (mN y) (cod y) (mxL y) (rtT y) ∈ gt := by
  have h1 := mC_all _ (mTy_in h)
  have h2 := (mFacts h).2.2
  simp only [mOn, Bool.and_eq_true, decide_eq_true_eq] at h2
  rw [h2.1.2] at h1
  exact List.mem_filter.mpr ⟨h1, rfl⟩
theorem good_M {y : Nat} (h : y < 163) : GoodIn gt (wsM y) := by
  intro w hw
  rcases List.mem_cons.mp hw with rfl | hw
  · exact ⟨code_gt h, good_of_word rfl⟩
  · exact ⟨hw, good_of_word (gt_good w hw)⟩
theorem sum_cat (ad : Cd → Nat) : ∀ st : List AV, ((st.map (cv ad)).map fun v => v.category).sum = st.length
  | [] => rfl
  | v :: st => by
    show (cv ad v).category + ((st.map (cv ad)).map fun v => v.category).sum = st.length + 1
    rw [sum_cat ad st, cv_cat]
    omega
section Calls
variable {p : Program} {l : Launch} {e : Env} {R : Room} {s : State} {m : MethodId} {args : Array Value} {below : List Frame} {meth : Method} {c : Code} {D : va_G} {cI cL cM : ClassId} {ad : Cd → Nat} {A : Nat → Prop} {nL : Nat} {Q : State → Prop} {cc : ByteArray} {pc : Nat} {ls st : List AV} {M : Mm} {q : Ss}
theorem pre_of (hK : va_K D vwCl (tysO cI cL cM) s) (hA : ∀ q, s.heap.size ≤ q → A q) (hE : Ext ad A s s.heap) {H : Heap} {locs : List Loc} (hP : va_P D vwCl (wsO cI cL cM ad M) H) (hD : va_D A (wsO cI cL cM ad M)) (hS : va_S A s.heap H locs) : ∀ U : State, U.heap = H → s.WarmedH U.vm → Pre D cI cL cM ad M H.size U := by
  intro U hU hW
  refine ⟨by rw [hU], by rw [hU]; exact hP, va_K.moved hW.alike hK, hD.weaken (fun _ _ _ _ => trivial), ?_⟩
  rw [hU]
  refine hE.to hW hS.2.1 (fun z hz => ?_)
  rcases hz with ⟨k, x, hk⟩ | hz
  · exact hD.2 k _ hk
  · exact hA z (Nat.le_trans hS.1 hz)
theorem free_of (hA : ∀ q, s.heap.size ≤ q → A q) {H : Heap} {locs : List Loc} (hD : va_D A (wsO cI cL cM ad M)) (hS : va_S A s.heap H locs) : ∀ z, va_A (wsO cI cL cM ad M) H.size z → A z := by
  intro z hz
  rcases hz with ⟨k, x, hk⟩ | hz
  · exact hD.2 k _ hk
  · exact hA z (Nat.le_trans hS.1 hz)
/-- behind a call -/
theorem aft {v : Option Int32} {M' : Mm} {free : Addr → Prop} {H : Heap} {locs : List Loc} {sl : Array Slot} {rest : List AV} {st0 : List Value} {a : Array Value} (hA : ∀ q, s.heap.size ≤ q → A q) (hD : va_D A (wsO cI cL cM ad M)) (hS : va_S A s.heap H locs) (hfr : free = va_A (wsO cI cL cM ad M) H.size)
    (hr : va_Run p l e R s m args below meth c H locs 0 0 0 0 (F0 m pc sl st0) (rest.map (cv ad)) (QcM v M' D cI cL cM ad (va_A (wsO cI cL cM ad M) H.size) a) free)
    (kk : ∀ (H1 : Heap) (locs1 : List Loc), va_P D vwCl (wsO cI cL cM ad M') H1 → va_D A (wsO cI cL cM ad M') → va_S A s.heap H1 locs1 → W p l e R s m args below meth c H1 locs1 0 0 Q (F0 m (pc + 3) sl ((v.toList.map aI ++ rest).map (cv ad)))) : W p l e R s m args below meth c H locs 0 0 Q (F0 m pc sl st0) := by
  have hF := free_of hA hD hS
  subst hfr
  cases v with
  | none =>
    refine va_callv (S := Mm) (a := a) hr hS (fun z _ hz => hF z hz) hF (fun u t H1 locs1 ht hvm hw hB _ _ hS1 => ?_)
    subst hw
    subst ht
    exact kk _ locs1 hB (D_to hD _) hS1
  | some x =>
    refine va_calli (S := Mm) (a := a) hr hS (fun z _ hz => hF z hz) hF (fun r u t H1 locs1 ht hvm hw hB _ _ hS1 => ?_)
    obtain ⟨rfl, rfl⟩ := hw
    subst ht
    exact kk _ locs1 hB (D_to hD _) hS1
theorem min_link : lw_tbl[386]? = some (Cond.static Lib.Math.min.name) ∧ lw_tbl[72]? = some (Cond.initialized "java/lang/Math") := by decide +kernel
theorem min_code : Cond.code Lib.Math.min.name Lib.Math.min.code 2 (some .int) ∈ lw_tbl := List.mem_of_getElem? (i := 387) rfl
/-- String.indexOf(int) on the two constant texts -/
def IxMet (l : Launch) : Prop := ∀ (D : va_G) (cI cL cM : ClassId) (ad : Cd → Nat) (M : Mm) (sz k : Nat) (c : Int32), k = 35 ∨ k = 36 → Met l ⟨"java/lang/String", "indexOf", "(I)I"⟩ (Cond.code ⟨"java/lang/String", "indexOf", "(I)I"⟩ prog_11_method_79_code 2 (some .int) :: gt) (rmL 3) (va_Pc [.ref (ad (9, k, 0)), .int c] (Pre D cI cL cM ad M sz)) (QcM (some (ix k c)) M D cI cL cM ad (va_A (wsO cI cL cM ad M) sz)) 0 0 (va_A (wsO cI cL cM ad M) sz)
theorem s_ivS {y idx : Nat} (hy : y < 163) (hx : p.tables.exec = Jvm.exec) (hb : c.code = cc) (hml : c.maxLocals = nL) (hts : ∀ w ∈ gt, w.before args s = true) (hown : s.vm.findClass (clR (mcl y)) = some m.cls) (hK : va_K D vwCl (tysO cI cL cM) s) (hA : ∀ q, s.heap.size ≤ q → A q) (hE : Ext ad A s s.heap) (hR : R = rmL (lvl y)) (IH : ∀ y', y' < 163 → lvl y' < lvl y → SndY l y') (hd : decode cc pc = .ok (.invokestatic idx, 3)) (h : ivk (gd call y) (lvl y) (mcl y) idx true pc ls st M = some (.inr q)) (kk : Wd p l e R s m args below meth c D cI cL cM ad A nL Q q) : Wd p l e R s m args below meth c D cI cL cM ad A nL Q (pc, ls, st, M) := by
  intro sl H locs hL hS hn hl hP hD hs
  have hsz : sl.size = nL := hl.1.trans hn
  unfold ivk at h
  cases e1 : cre (mcl y) idx with
  | none => rw [e1] at h; cases h
  | some r =>
    obtain ⟨y', nst, pl⟩ := r
    rw [e1] at h
    have hf := cre_in e1
    dsimp only at h
    by_cases h0 : y' = 1000
    · subst h0
      simp only [cOk, if_true, decide_eq_true_eq] at hf
      rw [if_pos rfl] at h
      split at h
      · rename_i hlen
        unfold bin at h
        split at h
        · rename_i b a r
          dsimp only at h
          have := nx_inj h
          subst this
          have K := kk sl H locs hL (okS_cons (okV_i _) (okS_tl (okS_tl hS))) hn hl hP hD hs
          refine va_mmin hx hb (hml.trans hsz.symm) hown (hts _ (gt_of hf rfl)) (hts _ (gt_of min_link.1 rfl)) (hts _ (gt_of min_link.2 rfl)) (hts _ (List.mem_filter.mpr ⟨min_code, rfl⟩)) (by rw [hR]; show 1 ≤ lvl y + 2; omega) ?_ (Nat.zero_le _) (Nat.zero_le _) hd K
          rw [hR]
          show ((r.map (cv ad)).map fun v => v.category).sum + 13 ≤ 32 * lvl y + 64
          rw [sum_cat]
          have := hlen.1
          simp only [List.length_cons] at this
          omega
        · cases h
      · cases h
    · rw [if_neg h0] at h
      by_cases h01 : y' = 1001
      · rw [if_pos h01] at h
        split at h
        · split at h
          · rename_i hq
            exact absurd hq.2.2.1 (by decide)
          · cases h
        · cases h
      · rw [if_neg h01] at h
        simp only [if_true] at h
        split at h
        · rename_i hg
          obtain ⟨hy', hst, hle, h8, -⟩ := hg
          simp only [cOk, if_neg h0, if_neg h01, Bool.and_eq_true, decide_eq_true_eq] at hf
          obtain ⟨⟨hw, -⟩, -⟩ := hf
          obtain ⟨m1, m2, m3⟩ := mFacts hy'
          simp only [mOk, hst, if_true, Bool.and_eq_true, decide_eq_true_eq] at m1
          simp only [mOd, Bool.and_eq_true, decide_eq_true_eq] at m2
          simp only [mOn, hst, if_true, Bool.and_eq_true, decide_eq_true_eq] at m3
          cases ec : gd call y y' (st.take (mnp y')).reverse M with
          | none => rw [ec] at h; cases h
          | some r =>
            obtain ⟨v, M'⟩ := r
            rw [ec] at h
            dsimp only at h
            split at h
            · have := nx_inj h
              subst this
              unfold gd at ec
              by_cases hlv : lvl y' < lvl y
              · rw [if_pos hlv] at ec
                have hoS : okS (st.take (mnp y')).reverse := fun w hw => hS w (List.mem_of_mem_take (List.mem_reverse.mp hw))
                have hlen : (st.take (mnp y')).reverse.length = mnp y' := by rw [List.length_reverse, List.length_take]; omega
                have hM := IH y' hy' hlv D cI cL cM ad _ M M' v H.size ec hoS (by rw [hlen, hst]; rfl)
                have hstk : st.map (cv ad) = ((st.take (mnp y')).reverse.map (cv ad)).reverse ++ (st.drop (mnp y')).map (cv ad) := by
                  rw [← List.map_reverse, List.reverse_reverse, ← List.map_append, List.take_append_drop]
                have hroom : (rmL (lvl y')).frames + 1 ≤ R.frames ∧ 8 + (mxL y' + 11) + (rmL (lvl y')).locals ≤ R.locals := by
                  rw [hR]
                  have := m3.1.1.1.1.1.1
                  constructor
                  · show lvl y' + 2 + 1 ≤ lvl y + 2; omega
                  · show 8 + (mxL y' + 11) + (32 * lvl y' + 64) ≤ 32 * lvl y + 64; omega
                have hini : (Cond.initialized (mN y').cls).before args s = true := hts _ (gt_of m1.2 rfl)
                have hdd : (mN y').cls ≠ "java/lang/invoke/MethodHandle" ∧ (mN y').cls ≠ "java/lang/invoke/VarHandle" ∧ (parseMethodDescriptor (mN y').desc).map (fun d => d.parameters.length) = some (mnp y') := ⟨m2.1.2, m2.2, m2.1.1.1.2⟩
                have hpS : PreS s H (va_Pc ((st.take (mnp y')).reverse.map (cv ad)) (Pre D cI cL cM ad M H.size)) ((st.take (mnp y')).reverse.map (cv ad)) := ⟨Pre.blind, fun U hU hW => ⟨rfl, pre_of hK hA hE hP hD hs U hU hW⟩⟩
                have hWr : 2 * (F0 m pc sl (st.map (cv ad))).monitorRoom + (((st.drop (mnp y')).map (cv ad)).map fun v => v.category).sum ≤ 8 := lv_room (by rw [sum_cat]; exact h8)
                refine aft (v := v) (M' := M') (a := ((st.take (mnp y')).reverse.map (cv ad)).toArray) (rest := st.drop (mnp y')) hA hD hs rfl ?_ (fun H1 locs1 hP1 hD1 hS1 => kk sl H1 locs1 hL ?_ hn hl hP1 hD1 hS1)
                · by_cases hn1 : nst = 1
                  · rw [if_pos hn1] at hw
                    exact va_runSN (Ts := gt) (nL := nL) ⟨hx, hb, hml, hown, hts⟩ hM ⟨va_cnB (mnp y') hts (good_M hy') rfl rfl rfl (hE.2.2.2.2.2 _ (List.mem_of_getElem? hw) rfl) hini hdd hroom, hts _ (gt_of m1.1.1 rfl), trivial⟩ hpS rfl (by rw [List.length_map]; exact hlen) hsz hstk hWr hd ⟨Nat.zero_le _, Nat.zero_le _⟩
                  · rw [if_neg hn1] at hw
                    have hG : GoodIn gt (va_wsS (clR (mcl y)) idx (mN y') (wsM y')) := by
                      intro w hw2
                      unfold va_wsS at hw2
                      rcases List.mem_append.mp hw2 with h9 | h9
                      · have h8' : w ∈ gt := by
                          rcases List.mem_cons.mp h9 with rfl | h9
                          · exact gt_of hw rfl
                          · rcases List.mem_cons.mp h9 with rfl | h9
                            · exact gt_of m1.1.1 rfl
                            · rcases List.mem_cons.mp h9 with rfl | h9
                              · exact gt_of m1.2 rfl
                              · cases h9
                        exact ⟨h8', good_of_word (gt_good w h8')⟩
                      · exact good_M hy' w h9
                    exact va_runS (Ts := gt) (nL := nL) ⟨hx, hb, hml, hown, hts⟩ hM (va_cwS (mnp y') hts hG rfl rfl rfl hdd hroom) hpS rfl (by rw [List.length_map]; exact hlen) hsz hstk hWr hd ⟨Nat.zero_le _, Nat.zero_le _⟩
                · intro w hw2
                  rcases List.mem_append.mp hw2 with h9 | h9
                  · obtain ⟨x, -, rfl⟩ := List.mem_map.mp h9
                    exact okV_i x
                  · exact hS w (List.mem_of_mem_drop h9)
              · rw [if_neg hlv] at ec
                cases ec
            · cases h
        · cases h
theorem ix_link : lw_tbl[355]? = some (Cond.instanceMethod ⟨"java/lang/String", "indexOf", "(I)I"⟩) ∧ lw_tbl[356]? = some (Cond.selects "java/lang/String" ⟨"java/lang/String", "indexOf", "(I)I"⟩ ⟨"java/lang/String", "indexOf", "(I)I"⟩) ∧ lw_tbl[70]? = some (Cond.initialized "java/lang/String") := by decide +kernel
theorem ix_code : Cond.code ⟨"java/lang/String", "indexOf", "(I)I"⟩ prog_11_method_79_code 2 (some .int) ∈ lw_tbl := List.mem_of_getElem? (i := 357) rfl
theorem s_ivV {y idx : Nat} (hy : y < 163) (hx : p.tables.exec = Jvm.exec) (hb : c.code = cc) (hml : c.maxLocals = nL) (hts : ∀ w ∈ gt, w.before args s = true) (hown : s.vm.findClass (clR (mcl y)) = some m.cls) (hK : va_K D vwCl (tysO cI cL cM) s) (hA : ∀ q, s.heap.size ≤ q → A q) (hE : Ext ad A s s.heap) (hR : R = rmL (lvl y)) (IH : ∀ y', y' < 163 → lvl y' < lvl y → SndY l y') (IX : IxMet l) (hd : decode cc pc = .ok (.invokevirtual idx, 3)) (h : ivk (gd call y) (lvl y) (mcl y) idx false pc ls st M = some (.inr q)) (kk : Wd p l e R s m args below meth c D cI cL cM ad A nL Q q) : Wd p l e R s m args below meth c D cI cL cM ad A nL Q (pc, ls, st, M) := by
  intro sl H locs hL hS hn hl hP hD hs
  have hsz : sl.size = nL := hl.1.trans hn
  unfold ivk at h
  cases e1 : cre (mcl y) idx with
  | none => rw [e1] at h; cases h
  | some r =>
    obtain ⟨y', nst, pl⟩ := r
    rw [e1] at h
    have hf := cre_in e1
    dsimp only at h
    by_cases h0 : y' = 1000
    · subst h0
      simp only [cOk, if_true, decide_eq_true_eq] at hf
      rw [if_pos rfl] at h
      split at h
      · rename_i hlen
        exact absurd hlen.2 (by decide)
      · cases h
    · rw [if_neg h0] at h
      by_cases h01 : y' = 1001
      · subst h01
        rw [if_pos rfl] at h
        simp only [cOk, if_neg h0, if_true, decide_eq_true_eq] at hf
        split at h
        · rename_i ch g k i r
          split at h
          · rename_i hq
            obtain ⟨hk, hr8, -, hl4⟩ := hq
            have := nx_inj h
            subst this
            have hc := okV_c (okS_hd (okS_tl hS))
            have he := ok_high hc (by show 33 ≤ k; omega)
            dsimp only at he
            cases he
            have hM := IX D cI cL cM ad M H.size k ch hk
            refine aft (v := some (ix k ch)) (M' := M) (a := [Value.ref (ad (9, k, 0)), .int ch].toArray) (rest := r) hA hD hs rfl ?_ (fun H1 locs1 hP1 hD1 hS1 => kk sl H1 locs1 hL (okS_cons (okV_i _) (okS_tl (okS_tl hS))) hn hl hP1 hD1 hS1)
            obtain ⟨adV, hvS⟩ := hE.2.2.1
            have hrc : ∃ cell : Cell, H[ad (9, k, 0)]? = some cell ∧ cell.vm.isStatics = false ∧ s.vm.findClass "java/lang/String" = some cell.cls := by
              rcases hk with rfl | rfl
              · exact vk_recv (i := 0) hvS (by decide) hs
              · exact vk_recv (i := 1) hvS (by decide) hs
            have hG : GoodIn gt (wsV (clR (mcl y)) idx "java/lang/String" ⟨"java/lang/String", "indexOf", "(I)I"⟩ (Cond.code ⟨"java/lang/String", "indexOf", "(I)I"⟩ prog_11_method_79_code 2 (some .int) :: gt)) := by
              intro w hw2
              have h8' : w ∈ gt := by
                unfold wsV at hw2
                rcases List.mem_append.mp hw2 with h9 | h9
                · rcases List.mem_cons.mp h9 with rfl | h9
                  · exact gt_of hf rfl
                  · rcases List.mem_cons.mp h9 with rfl | h9
                    · exact gt_of ix_link.1 rfl
                    · rcases List.mem_cons.mp h9 with rfl | h9
                      · exact gt_of ix_link.2.1 rfl
                      · rcases List.mem_cons.mp h9 with rfl | h9
                        · exact gt_of ix_link.2.2 rfl
                        · cases h9
                · rcases List.mem_cons.mp h9 with rfl | h9
                  · exact List.mem_filter.mpr ⟨ix_code, rfl⟩
                  · exact h9
              exact ⟨h8', good_of_word (gt_good w h8')⟩
            exact va_runV (Ts := gt) (nL := nL) (As := [.int ch]) ⟨hx, hb, hml, hown, hts⟩ hM (cwV 1 hts hG rfl rfl rfl (by decide +kernel) (by rw [hR]; constructor; (show 3 + 2 + 1 ≤ lvl y + 2; omega); (show 8 + (2 + 11) + (32 * 3 + 64) ≤ 32 * lvl y + 64; omega))) ⟨Pre.blind, hrc, fun U hU hW => ⟨rfl, pre_of hK hA hE hP hD hs U hU hW⟩⟩ rfl rfl hsz rfl (lv_room (by rw [sum_cat]; exact hr8)) hd ⟨Nat.zero_le _, Nat.zero_le _⟩
          · cases h
        · cases h
      · rw [if_neg h01] at h
        simp only [Bool.false_eq_true, if_false, false_or] at h
        split at h
        · rename_i hg
          obtain ⟨hy', hst, hle, h8, hrv⟩ := hg
          simp only [cOk, if_neg h0, if_neg h01, Bool.and_eq_true, decide_eq_true_eq] at hf
          obtain ⟨⟨hw, -⟩, hnn⟩ := hf
          have hnst : ¬ nst = 1 := fun z => by have := hnn z; rw [hst] at this; cases this
          rw [if_neg hnst] at hw
          obtain ⟨m1, m2, m3⟩ := mFacts hy'
          simp only [mOk, hst, Bool.false_eq_true, if_false, Bool.false_or, Bool.and_eq_true, decide_eq_true_eq] at m1
          simp only [mOd, Bool.and_eq_true, decide_eq_true_eq] at m2
          simp only [mOn, hst, Bool.false_eq_true, if_false, Bool.and_eq_true, decide_eq_true_eq] at m3
          cases ec : gd call y y' (st.take (mnp y' + 1)).reverse M with
          | none => rw [ec] at h; cases h
          | some r =>
            obtain ⟨v, M'⟩ := r
            rw [ec] at h
            dsimp only at h
            split at h
            · have := nx_inj h
              subst this
              unfold gd at ec
              by_cases hlv : lvl y' < lvl y
              · rw [if_pos hlv] at ec
                have hoS : okS (st.take (mnp y' + 1)).reverse := fun w hw => hS w (List.mem_of_mem_take (List.mem_reverse.mp hw))
                have hlen : (st.take (mnp y' + 1)).reverse.length = mnp y' + 1 := by rw [List.length_reverse, List.length_take]; omega
                have hM := IH y' hy' hlv D cI cL cM ad _ M M' v H.size ec hoS (by rw [hlen, hst]; rfl)
                have hstk : st.map (cv ad) = ((st.take (mnp y' + 1)).reverse.map (cv ad)).reverse ++ (st.drop (mnp y' + 1)).map (cv ad) := by
                  rw [← List.map_reverse, List.reverse_reverse, ← List.map_append, List.take_append_drop]
                have hroom : (rmL (lvl y')).frames + 1 ≤ R.frames ∧ 8 + (mxL y' + 11) + (rmL (lvl y')).locals ≤ R.locals := by
                  rw [hR]
                  have := m3.1.1.1.1.1.1
                  constructor
                  · show lvl y' + 2 + 1 ≤ lvl y + 2; omega
                  · show 8 + (mxL y' + 11) + (32 * lvl y' + 64) ≤ 32 * lvl y + 64; omega
                have hini : (Cond.initialized (mN y').cls).before args s = true := hts _ (gt_of m1.2 rfl)
                have hdd : (mN y').cls ≠ "java/lang/invoke/MethodHandle" ∧ (mN y').cls ≠ "java/lang/invoke/VarHandle" ∧ (parseMethodDescriptor (mN y').desc).map (fun d => d.parameters.length) = some (mnp y') := ⟨m2.1.2, m2.2, m2.1.1.1.2⟩
                have hWr : 2 * (F0 m pc sl (st.map (cv ad))).monitorRoom + (((st.drop (mnp y' + 1)).map (cv ad)).map fun v => v.category).sum ≤ 8 := lv_room (by rw [sum_cat]; exact h8)
                refine aft (v := v) (M' := M') (a := ((st.take (mnp y' + 1)).reverse.map (cv ad)).toArray) (rest := st.drop (mnp y' + 1)) hA hD hs rfl ?_ (fun H1 locs1 hP1 hD1 hS1 => kk sl H1 locs1 hL ?_ hn hl hP1 hD1 hS1)
                · generalize hase : (st.take (mnp y' + 1)).reverse = as at hM hstk hlen hrv hoS
                  unfold rcv at hrv
                  split at hrv
                  · rename_i g k i As
                    have hk : k = cKi (mcl y') := beq_iff_eq.mp hrv
                    subst hk
                    have hci : mcl y' < 7 := m3.1.1.1.1.2
                    have hc : (g, cKi (mcl y'), i) ∈ cellsL := ok_low (okV_c (okS_hd hoS)) (kCl_ok _ hci).2
                    obtain ⟨q0, hq, hws⟩ := ws_in (cI := cI) (cL := cL) (cM := cM) (ad := ad) (M := M) hc
                    rw [ent_obj hci] at hws
                    have hcls : (mN y').cls = clR (mcl y') := m2.1.1.1.1
                    have hG : GoodIn gt (wsV (clR (mcl y)) idx (mN y').cls (mN y') (wsM y')) := by
                      intro w hw2
                      unfold wsV at hw2
                      rcases List.mem_append.mp hw2 with h9 | h9
                      · have h8' : w ∈ gt := by
                          rcases List.mem_cons.mp h9 with rfl | h9
                          · exact gt_of hw rfl
                          · rcases List.mem_cons.mp h9 with rfl | h9
                            · exact gt_of m1.1.1 rfl
                            · rcases List.mem_cons.mp h9 with rfl | h9
                              · exact gt_of m1.1.2 rfl
                              · rcases List.mem_cons.mp h9 with rfl | h9
                                · exact gt_of m1.2 rfl
                                · cases h9
                        exact ⟨h8', good_of_word (gt_good w h8')⟩
                      · exact good_M hy' w h9
                    have hrc := va_recv hK hP (vwCl_at _ hci) hws
                    rw [← hcls] at hrc
                    exact va_runV (Ts := gt) (nL := nL) (As := As.map (cv ad)) ⟨hx, hb, hml, hown, hts⟩ hM (cwV (mnp y') hts hG rfl rfl rfl ⟨rfl, hdd⟩ hroom) ⟨Pre.blind, hrc, fun U hU hW => ⟨rfl, pre_of hK hA hE hP hD hs U hU hW⟩⟩ rfl (by rw [List.length_map]; exact Nat.succ.inj hlen) hsz (hstk.trans (by rw [List.map_cons, List.reverse_cons, List.append_assoc]; rfl)) hWr hd ⟨Nat.zero_le _, Nat.zero_le _⟩
                  · cases hrv
                · intro w hw2
                  rcases List.mem_append.mp hw2 with h9 | h9
                  · obtain ⟨x, -, rfl⟩ := List.mem_map.mp h9
                    exact okV_i x
                  · exact hS w (List.mem_of_mem_drop h9)
              · rw [if_neg hlv] at ec
                cases ec
            · cases h
        · cases h
end Calls
