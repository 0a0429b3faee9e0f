theorem lay_gt : ∀ ci, ci < 7 → ∀ w ∈ u_ws (clR ci) (clT ci) (clN ci), w ∈ gt := by
  intro ci h w hw
  refine List.mem_filter.mpr ⟨lay_in ci h w hw, ?_⟩
  obtain ⟨k, -, rfl⟩ := List.mem_map.mp hw
  unfold u_lay
  split <;> rfl
theorem ok_low {c : Cd} (h : okC c) (hk : c.2.1 < 33) : c ∈ cellsL := by
  rcases h with h | ⟨-, h, -⟩
  · exact h
  · omega
theorem ok_high {c : Cd} (h : okC c) (hk : 33 ≤ c.2.1) : c = (9, c.2.1, 0) := by
  obtain ⟨g, k, i⟩ := c
  rcases h with h | ⟨h1, -, -, h2⟩
  · have := (cells_k _ h).1
    dsimp only at hk this
    omega
  · dsimp only at h1 h2 ⊢
    rw [h1, h2]
theorem vp_of {i : Int32} {n : Nat} (h : vpB i n = true) : vp_in i n := (of_decide_eq_true (p := ¬ (i < 0 ∨ n ≤ i.toNatClampNeg)) h)
theorem vp_lt {i : Int32} {n : Nat} (h : vp_in i n) : i.toNatClampNeg < n := Nat.not_le.mp fun q => h (Or.inr q)
theorem ent_obj {cI cL cM : ClassId} {ad : Cd → Nat} {M : Mm} {g i ci : Nat} (hci : ci < 7) : ent cI cL cM ad M (g, cKi ci, i) = .inr (ci, entF ad M g (cKi ci) i (clN ci)) := by
  unfold ent
  simp only [(kCl_ok ci hci).1]
theorem kCl_arr : ∀ k, k < 33 → 0 < alen k → kCl k = none ∧ k ≠ 1 ∧ k ≠ 3 := by decide +kernel
theorem ent_arr {cI cL cM : ClassId} {ad : Cd → Nat} {M : Mm} {g k i : Nat} (hk : k < 33) (h : 0 < alen k) : ent cI cL cM ad M (g, k, i) = .inl (cI, alen k, .inl (M g k i)) := by
  obtain ⟨h1, h2, h3⟩ := kCl_arr k hk h
  unfold ent
  simp only [h1, h2, h3, if_false]
section Mem
variable {p : Program} {l : Launch} {e : Env} {R : Room} {s : State} {m : MethodId} {args : Array Value} {below : List Frame} {meth : Method} {c : Code} {D : va_G} {cI cL cM : ClassId} {ad : Cd → Nat} {A : Nat → Prop} {nL : Nat} {Q : State → Prop} {cc : ByteArray} {pc : Nat} {ls st : List AV} {M : Mm} {q : Ss}
theorem row_get {own idx ci j nst pl : Nat} (hx : p.tables.exec = Jvm.exec) (hb : c.code = cc) (hE : Ext ad A s s.heap) (hts : ∀ w ∈ gt, w.before args s = true) (hown : s.vm.findClass (clR own) = some m.cls) (hK : va_K D vwCl (tysO cI cL cM) s) (hd : decode cc pc = .ok (.getfield idx, 3))
    (hw : lw_tbl[pl]? = some (if nst = 1 then Cond.fieldLinkNest (clR own) idx (clT ci j).1 (clT ci j).2.1 (clT ci j).2.2.1 RX5 else Cond.fieldLink (clR own) idx (clT ci j).1 (clT ci j).2.1 (clT ci j).2.2.1)) (hci : ci < 7) (hj : j < clN ci)
    {ws : va_W} {H : Heap} {locs : List Loc} {a q0 : Nat} {fs : List Value} {v : Value} {sl : Array Slot} {rest : List Value} (hP : va_P D vwCl ws H) (he : ws[q0]? = some (a, .inr (ci, fs))) (hv : fs[j]? = some v) (k : W p l e R s m args below meth c H locs 0 0 Q (F0 m (pc + 3) sl (v :: rest))) : W p l e R s m args below meth c H locs 0 0 Q (F0 m pc sl (.ref a :: rest)) := by
  by_cases hn : nst = 1
  · rw [if_pos hn] at hw
    exact va_getN (D := D) (ci := ci) (v := v) (C := clR ci) (T := clT ci) (N := clN ci) hx hb hts (lay_gt ci hci) hown hK hP q0 he (vwCl_at ci hci) j hj (va_Nw.use rfl (hE.2.2.2.2.2 _ (List.mem_of_getElem? hw) rfl)) (fun _ h9 => h9) hv hd k
  · rw [if_neg hn] at hw
    exact va_get (D := D) (ci := ci) (v := v) (C := clR ci) (T := clT ci) (N := clN ci) hx hb hts (lay_gt ci hci) hown hK hP q0 he (vwCl_at ci hci) j hj (hts _ (gt_of hw rfl)) (fun _ h9 => h9) hv hd k
theorem row_put {own idx ci j nst pl : Nat} (hx : p.tables.exec = Jvm.exec) (hb : c.code = cc) (hE : Ext ad A s s.heap) (hts : ∀ w ∈ gt, w.before args s = true) (hown : s.vm.findClass (clR own) = some m.cls) (hK : va_K D vwCl (tysO cI cL cM) s) (hd : decode cc pc = .ok (.putfield idx, 3))
    (hw : lw_tbl[pl]? = some (if nst = 1 then Cond.fieldLinkNest (clR own) idx (clT ci j).1 (clT ci j).2.1 (clT ci j).2.2.1 RX5 else Cond.fieldLink (clR own) idx (clT ci j).1 (clT ci j).2.1 (clT ci j).2.2.1)) (hci : ci < 7) (hj : j < clN ci)
    {ws : va_W} {H : Heap} {locs : List Loc} {a q0 : Nat} {fs : List Value} {v : Value} {sl : Array Slot} {rest : List Value} (hP : va_P D vwCl ws H) (hD : va_D A ws) (hS : va_S A s.heap H locs) (he : ws[q0]? = some (a, .inr (ci, fs))) (hfin : (clT ci j).2.2.2 = false) (hn : narrow (clTy ci j) v = v) (hfit : fits (clTy ci j) v = true) (hl : j < fs.length)
    (k : ∀ (H1 : Heap) (locs1 : List Loc), va_P D vwCl (ws.set q0 (a, .inr (ci, fs.set j v))) H1 → va_D A (ws.set q0 (a, .inr (ci, fs.set j v))) → va_S A s.heap H1 locs1 → W p l e R s m args below meth c H1 locs1 0 0 Q (F0 m (pc + 3) sl rest)) : W p l e R s m args below meth c H locs 0 0 Q (F0 m pc sl (v :: .ref a :: rest)) := by
  by_cases hn1 : nst = 1
  · rw [if_pos hn1] at hw
    exact va_putN (D := D) (ci := ci) (v := v) (C := clR ci) (T := clT ci) (N := clN ci) hx hb hts (lay_gt ci hci) (clTy ci) (clTy_ok ci hci) (clNm_ok ci hci) hown hK hP hD hS q0 he (vwCl_at ci hci) j hj (va_Nw.use rfl (hE.2.2.2.2.2 _ (List.mem_of_getElem? hw) rfl)) (fun _ h9 => h9) hfin (clTy_ok ci hci j hj) hn hfit hl hd k
  · rw [if_neg hn1] at hw
    exact va_put (D := D) (ci := ci) (v := v) (C := clR ci) (T := clT ci) (N := clN ci) hx hb hts (lay_gt ci hci) (clTy ci) (clTy_ok ci hci) (clNm_ok ci hci) hown hK hP hD hS q0 he (vwCl_at ci hci) j hj (hts _ (gt_of hw rfl)) (fun _ h9 => h9) hfin (clTy_ok ci hci j hj) hn hfit hl hd k
theorem s_gfd {own idx : Nat} (hx : p.tables.exec = Jvm.exec) (hb : c.code = cc) (hE : Ext ad A s s.heap) (hts : ∀ w ∈ gt, w.before args s = true) (hown : s.vm.findClass (clR own) = some m.cls) (hK : va_K D vwCl (tysO cI cL cM) s) (hd : decode cc pc = .ok (.getfield idx, 3)) (h : gfd own idx pc ls st M = some (.inr q)) (kk : Wd p l e R s m args below meth c D cI cL cM ad A nL Q q) : Wd p l e R s m args below meth c D cI cL cM ad A nL Q (pc, ls, st, M) := by
  intro sl H locs hL hS hn hl hP hD hs
  unfold gfd at h
  cases e1 : fre own idx with
  | none => rw [e1] at h; cases h
  | some r =>
    obtain ⟨ci, j, nst, pl⟩ := r
    rw [e1] at h
    have hf := fre_in e1
    simp only [fOk, Bool.and_eq_true, decide_eq_true_eq] at hf
    obtain ⟨⟨⟨hw, hci⟩, hj⟩, -⟩ := hf
    dsimp only at h
    split at h
    · rename_i g k i r
      split at h
      · rename_i hk
        subst hk
        have hc : (g, cKi ci, i) ∈ cellsL := ok_low (okV_c (okS_hd hS)) (kCl_ok ci hci).2
        obtain ⟨q0, hq, hws⟩ := ws_in (cI := cI) (cL := cL) (cM := cM) (ad := ad) (M := M) hc
        rw [ent_obj hci] at hws
        have hv := entF_at (ad := ad) (M := M) (g := g) (k := cKi ci) (i := i) hj
        split at h
        · rename_i f hf
          have := nx_inj h
          subst this
          simp only [hf] at hv
          exact row_get hx hb hE hts hown hK hd hw hci hj hP hws hv (kk sl H locs hL (okS_cons (okV_r (Or.inl (tgf_ok hc hf))) (okS_tl hS)) hn hl hP hD hs)
        · rename_i hf
          have := nx_inj h
          subst this
          simp only [hf] at hv
          exact row_get hx hb hE hts hown hK hd hw hci hj hP hws hv (kk sl H locs hL (okS_cons (okV_i _) (okS_tl hS)) hn hl hP hD hs)
      · cases h
    · cases h
theorem s_pfd {own idx : Nat} (hx : p.tables.exec = Jvm.exec) (hb : c.code = cc) (hE : Ext ad A s s.heap) (hts : ∀ w ∈ gt, w.before args s = true) (hown : s.vm.findClass (clR own) = some m.cls) (hK : va_K D vwCl (tysO cI cL cM) s) (hd : decode cc pc = .ok (.putfield idx, 3)) (h : pfd own idx pc ls st M = some (.inr q)) (kk : Wd p l e R s m args below meth c D cI cL cM ad A nL Q q) : Wd p l e R s m args below meth c D cI cL cM ad A nL Q (pc, ls, st, M) := by
  intro sl H locs hL hS hn hl hP hD hs
  unfold pfd at h
  cases e1 : fre own idx with
  | none => rw [e1] at h; cases h
  | some r =>
    obtain ⟨ci, j, nst, pl⟩ := r
    rw [e1] at h
    have hf := fre_in e1
    simp only [fOk, Bool.and_eq_true, decide_eq_true_eq, Bool.or_eq_true] at hf
    obtain ⟨⟨⟨hw, hci⟩, hj⟩, hz⟩ := hf
    dsimp only at h
    split at h
    · rename_i v g k i r
      split at h
      · rename_i hk
        obtain ⟨hk, ht, hb1⟩ := hk
        subst hk
        have := nx_inj h
        subst this
        have ht' : tgf (cKi ci) j = none := Option.isNone_iff_eq_none.mp ht
        have hz' : (clT ci j).2.2.2 = false ∧ clTy ci j = if isZ (cKi ci) j = true then FieldType.boolean else FieldType.int := by
          rcases hz with h9 | h9
          · rw [ht'] at h9; cases h9
          · exact h9
        have hc : (g, cKi ci, i) ∈ cellsL := ok_low (okV_c (okS_hd (okS_tl hS))) (kCl_ok ci hci).2
        obtain ⟨q0, hq, hws⟩ := ws_in (cI := cI) (cL := cL) (cM := cM) (ad := ad) (M := M) hc
        rw [ent_obj hci] at hws
        have hnf : narrow (clTy ci j) (.int v) = .int v ∧ fits (clTy ci j) (.int v) = true := by
          rw [hz'.2]
          by_cases hb2 : isZ (cKi ci) j = true
          · rw [if_pos hb2]
            rcases hb1 hb2 with rfl | rfl
            · exact ⟨by decide +kernel, by decide +kernel⟩
            · exact ⟨by decide +kernel, by decide +kernel⟩
          · rw [if_neg hb2]
            exact ⟨rfl, rfl⟩
        have hset : (wsO cI cL cM ad M).set q0 (ad (g, cKi ci, i), .inr (ci, (entF ad M g (cKi ci) i (clN ci)).set j (.int v))) = wsO cI cL cM ad (wr M g (cKi ci) i j v) := ws_set hq (by rw [ent_obj hci, entF_wr ht']) (fun c' hc' => ent_ne hc')
        refine row_put hx hb hE hts hown hK hd hw hci hj hP hD hs hws hz'.1 hnf.1 hnf.2 (by unfold entF; rw [List.length_map, List.length_range]; exact hj) (fun H1 locs1 hP1 hD1 hS1 => ?_)
        exact kk sl H1 locs1 hL (okS_tl (okS_tl hS)) hn hl (by rw [← hset]; exact hP1) (by rw [← hset]; exact hD1) hS1
      · cases h
    · cases h
theorem s_ial (hx : p.tables.exec = Jvm.exec) (hb : c.code = cc) (hK : va_K D vwCl (tysO cI cL cM) s) (hE : Ext ad A s s.heap) (hd : decode cc pc = .ok (.iaload, 1)) (h : ial pc ls st M = some (.inr q)) (kk : Wd p l e R s m args below meth c D cI cL cM ad A nL Q q) : Wd p l e R s m args below meth c D cI cL cM ad A nL Q (pc, ls, st, M) := by
  intro sl H locs hL hS hn hl hP hD hs
  unfold ial at h
  split at h
  · rename_i i g k j r
    split at h
    · rename_i hv
      have hv := vp_of hv
      have hlt := vp_lt hv
      have := nx_inj h
      subst this
      have hc := okV_c (okS_hd (okS_tl hS))
      have K := kk sl H locs hL (okS_cons (okV_i _) (okS_tl (okS_tl hS))) hn hl hP hD hs
      by_cases hk : k < 33
      · have hin : (g, k, j) ∈ cellsL := ok_low hc hk
        obtain ⟨q0, hq, hws⟩ := ws_in (cI := cI) (cL := cL) (cM := cM) (ad := ad) (M := M) hin
        rw [ent_arr hk (by omega)] at hws
        have er : rdA M g k j i.toNatClampNeg = M g k j i.toNatClampNeg := by unfold rdA; rw [if_neg (by omega)]
        dsimp only at K
        rw [er] at K
        exact va_iald hx hb hK hP q0 0 hws rfl hv hd K
      · have he := ok_high hc (by show 33 ≤ k; omega)
        dsimp only at he
        cases he
        have er : rdA M 9 k 0 i.toNatClampNeg = stV k i.toNatClampNeg := by unfold rdA; rw [if_pos (by omega)]
        dsimp only at K
        rw [er] at K
        have h34 : k = 33 ∨ k = 34 := by
          have h4 : k ≤ 36 := by
            rcases hc with h9 | ⟨-, -, h9, -⟩
            · exact absurd rfl (cells_k _ h9).2
            · exact h9
          rcases (show k = 33 ∨ k = 34 ∨ k = 35 ∨ k = 36 by omega) with rfl | rfl | rfl | rfl
          · exact Or.inl rfl
          · exact Or.inr rfl
          · exact absurd hlt (Nat.not_lt_zero _)
          · exact absurd hlt (Nat.not_lt_zero _)
        rcases h34 with rfl | rfl
        · exact va_ti hx hb hE.1.2 hs hv rfl hd K
        · exact va_ti hx hb hE.2.1.2 hs hv rfl hd K
    · cases h
  · cases h
theorem s_ias (hx : p.tables.exec = Jvm.exec) (hb : c.code = cc) (hK : va_K D vwCl (tysO cI cL cM) s) (hd : decode cc pc = .ok (.iastore, 1)) (h : ias pc ls st M = some (.inr q)) (kk : Wd p l e R s m args below meth c D cI cL cM ad A nL Q q) : Wd p l e R s m args below meth c D cI cL cM ad A nL Q (pc, ls, st, M) := by
  intro sl H locs hL hS hn hl hP hD hs
  unfold ias at h
  split at h
  · rename_i v i g k j r
    split at h
    · rename_i hv
      obtain ⟨hv, hk⟩ := hv
      have hv := vp_of hv
      have hlt := vp_lt hv
      have := nx_inj h
      subst this
      have hin : (g, k, j) ∈ cellsL := ok_low (okV_c (okS_hd (okS_tl (okS_tl hS)))) hk
      obtain ⟨q0, hq, hws⟩ := ws_in (cI := cI) (cL := cL) (cM := cM) (ad := ad) (M := M) hin
      rw [ent_arr hk (by omega)] at hws
      have hset : (wsO cI cL cM ad M).set q0 (ad (g, k, j), .inl (cI, alen k, .inl (upd (M g k j) i.toNatClampNeg v))) = wsO cI cL cM ad (wr M g k j i.toNatClampNeg v) := by
        refine ws_set hq ?_ (fun c' hc' => ent_ne hc')
        rw [ent_arr hk (by omega), wr_same]
        rfl
      refine va_iast hx hb hK hP hD hs q0 0 hws rfl hv hd (fun H1 locs1 hP1 hD1 hS1 => ?_)
      exact kk sl H1 locs1 hL (okS_tl (okS_tl (okS_tl hS))) hn hl (by rw [← hset]; exact hP1) (by rw [← hset]; exact hD1) hS1
    · cases h
  · cases h
theorem s_aal (hx : p.tables.exec = Jvm.exec) (hb : c.code = cc) (hK : va_K D vwCl (tysO cI cL cM) s) (hd : decode cc pc = .ok (.aaload, 1)) (h : aal pc ls st M = some (.inr q)) (kk : Wd p l e R s m args below meth c D cI cL cM ad A nL Q q) : Wd p l e R s m args below meth c D cI cL cM ad A nL Q (pc, ls, st, M) := by
  intro sl H locs hL hS hn hl hP hD hs
  unfold aal at h
  split at h
  · rename_i i g k j r
    have hc := okV_c (okS_hd (okS_tl hS))
    split at h
    · rename_i hv
      obtain ⟨rfl, hv⟩ := hv
      have hv := vp_of hv
      have hlt := vp_lt hv
      have := nx_inj h
      subst this
      have hin : (g, 1, j) ∈ cellsL := ok_low hc (show 1 < 33 by decide)
      obtain ⟨q0, hq, hws⟩ := ws_in (cI := cI) (cL := cL) (cM := cM) (ad := ad) (M := M) hin
      exact va_aldq (C := RX0) (f := fun j => some (ad (g, 2, j))) hx hb hK hP q0 1 hws rfl hv hd (kk sl H locs hL (okS_cons (okV_r (Or.inl (aa_ok1 _ hin rfl _ hlt))) (okS_tl (okS_tl hS))) hn hl hP hD hs)
    · split at h
      · rename_i hv
        obtain ⟨rfl, hv⟩ := hv
        have hv := vp_of hv
        have hlt := vp_lt hv
        have := nx_inj h
        subst this
        have hin : (g, 3, j) ∈ cellsL := ok_low hc (show 3 < 33 by decide)
        obtain ⟨q0, hq, hws⟩ := ws_in (cI := cI) (cL := cL) (cM := cM) (ad := ad) (M := M) hin
        exact va_aldq (C := RX1) (f := fun j => some (ad (g, 4, j))) hx hb hK hP q0 2 hws rfl hv hd (kk sl H locs hL (okS_cons (okV_r (Or.inl (aa_ok3 _ hin rfl _ hlt))) (okS_tl (okS_tl hS))) hn hl hP hD hs)
      · cases h
  · cases h
theorem s_aln (hx : p.tables.exec = Jvm.exec) (hb : c.code = cc) (hK : va_K D vwCl (tysO cI cL cM) s) (hd : decode cc pc = .ok (.arraylength, 1)) (h : aln pc ls st M = some (.inr q)) (kk : Wd p l e R s m args below meth c D cI cL cM ad A nL Q q) : Wd p l e R s m args below meth c D cI cL cM ad A nL Q (pc, ls, st, M) := by
  intro sl H locs hL hS hn hl hP hD hs
  unfold aln at h
  split at h
  · rename_i g k j r
    split at h
    · rename_i hv
      obtain ⟨h0, hk⟩ := hv
      have := nx_inj h
      subst this
      have hin : (g, k, j) ∈ cellsL := ok_low (okV_c (okS_hd hS)) hk
      obtain ⟨q0, hq, hws⟩ := ws_in (cI := cI) (cL := cL) (cM := cM) (ad := ad) (M := M) hin
      rw [ent_arr hk h0] at hws
      exact va_alen hx hb hK hP q0 0 hws rfl rfl hd (kk sl H locs hL (okS_cons (okV_i _) (okS_tl hS)) hn hl hP hD hs)
    · cases h
  · cases h
theorem s_gst {own idx : Nat} (hx : p.tables.exec = Jvm.exec) (hb : c.code = cc) (hts : ∀ w ∈ gt, w.before args s = true) (hown : s.vm.findClass (clR own) = some m.cls) (hE : Ext ad A s s.heap) (hd : decode cc pc = .ok (.getstatic idx, 3)) (h : gst own idx pc ls st M = some (.inr q)) (kk : Wd p l e R s m args below meth c D cI cL cM ad A nL Q q) : Wd p l e R s m args below meth c D cI cL cM ad A nL Q (pc, ls, st, M) := by
  intro sl H locs hL hS hn hl hP hD hs
  unfold gst gre at h
  by_cases h1 : own = 5 ∧ idx = 108
  · rw [if_pos h1] at h
    obtain ⟨rfl, rfl⟩ := h1
    have := nx_inj h
    subst this
    exact va_gets (C := RX5) (own := clR 5) (ref := RX5) (v := .ref (ad (9, 33, 0))) hx hb hE.1.1 hs hown (hts _ (gt_of gOk_33 rfl)) (fun _ h9 => h9) hd (kk sl H locs hL (okS_cons (okV_r (Or.inr ⟨rfl, Nat.le_refl _, by decide, rfl⟩)) hS) hn hl hP hD hs)
  · rw [if_neg h1] at h
    by_cases h2 : own = 5 ∧ idx = 111
    · rw [if_pos h2] at h
      obtain ⟨rfl, rfl⟩ := h2
      have := nx_inj h
      subst this
      exact va_gets (C := RX5) (own := clR 5) (ref := RX5) (v := .ref (ad (9, 34, 0))) hx hb hE.2.1.1 hs hown (hts _ (gt_of gOk_34 rfl)) (fun _ h9 => h9) hd (kk sl H locs hL (okS_cons (okV_r (Or.inr ⟨rfl, by decide, by decide, rfl⟩)) hS) hn hl hP hD hs)
    · rw [if_neg h2] at h
      cases h
theorem va_ldcwS {H : Heap} {locs : List Loc} {sl : Array Slot} {rest : List Value} (hexec : p.tables.exec = Jvm.exec) (hb : c.code = cc) {own tx : String} {index z : Nat} (hown : s.vm.findClass own = some m.cls) (hZ : vk_R own index tx z s) (hdg : decode cc pc = .ok (.ldc_w index, 3))
    (k : W p l e R s m args below meth c H locs 0 0 Q (F0 m (pc + 3) sl (.ref z :: rest))) : W p l e R s m args below meth c H locs 0 0 Q (F0 m pc sl rest) := by
  intro T hT X
  obtain ⟨t, a1, b1⟩ := k T hT X
  refine ⟨t, ?_, b1⟩
  obtain ⟨kc, cf, i, a', hk, hcf, hcp, -, hr, hev'⟩ := Cond.stringRef_spec hown hZ.1
  cases hZ.2.symm.trans hev'
  obtain ⟨k', hk', he⟩ := X.warmed.alike.2.2 _ _ hk
  have hr' : k'.resolved[index]? = some (some (.string z)) := by
    rcases X.warmed.entry hk hk' index with h | ⟨h, -⟩
    · rw [h]; exact hr
    · rw [hr] at h; cases h
  have hdg' : decode c.code (F0 m pc sl rest).pc = .ok (.ldc_w index, 3) := by rw [hb]; exact hdg
  jvm_step X.here [hexec, hdg', ldc_w.wp_string (e := e) (s := T) (f := F0 m pc sl rest) X.here.top hk' (by rw [he]; exact hcf) hcp hr']
  exact a1
theorem s_ldk {own idx n : Nat} (hx : p.tables.exec = Jvm.exec) (hb : c.code = cc) (hts : ∀ w ∈ gt, w.before args s = true) (hown : s.vm.findClass (clR own) = some m.cls) (hE : Ext ad A s s.heap) (hd : (n = 2 ∧ decode cc pc = .ok (.ldc idx, 2)) ∨ (n = 3 ∧ decode cc pc = .ok (.ldc_w idx, 3))) (h : ldk own idx n pc ls st M = some (.inr q)) (kk : Wd p l e R s m args below meth c D cI cL cM ad A nL Q q) : Wd p l e R s m args below meth c D cI cL cM ad A nL Q (pc, ls, st, M) := by
  intro sl H locs hL hS hn hl hP hD hs
  unfold ldk at h
  cases e1 : kre own idx with
  | some r =>
    obtain ⟨v, pl⟩ := r
    rw [e1] at h
    have hk := kre_in e1
    simp only [kOk, decide_eq_true_eq] at hk
    have := nx_inj h
    subst this
    have K := kk sl H locs hL (okS_cons (okV_i _) hS) hn hl hP hD hs
    rcases hd with ⟨rfl, hd⟩ | ⟨rfl, hd⟩
    · exact lv_ldc hx hb hown (hts _ (gt_of hk rfl)) hd K
    · exact lv_ldcw hx hb hown (hts _ (gt_of hk rfl)) hd K
  | none =>
    rw [e1] at h
    dsimp only at h
    have key : ∀ (k : Nat) (tx : String), 35 ≤ k → k ≤ 36 → vk_R (clR own) idx tx (ad (9, k, 0)) s → nx (pc + n) ls (aR 9 k 0 :: st) M = some (.inr q) → W p l e R s m args below meth c H locs 0 0 Q (F0 m pc sl (st.map (cv ad))) := by
      intro k tx hk1 hk2 hZ h
      have := nx_inj h
      subst this
      have K := kk sl H locs hL (okS_cons (okV_r (Or.inr ⟨rfl, by show 33 ≤ k; omega, hk2, rfl⟩)) hS) hn hl hP hD hs
      rcases hd with ⟨rfl, hd⟩ | ⟨rfl, hd⟩
      · exact va_ldcS hx hb hown hZ hd K
      · exact va_ldcwS hx hb hown hZ hd K
    obtain ⟨z1, z2, z3, z4⟩ := hE.2.2.2.2.1
    unfold sre at h
    by_cases h1 : own = 4 ∧ idx = 33
    · rw [if_pos h1] at h
      obtain ⟨rfl, rfl⟩ := h1
      exact key 35 _ (by decide) (by decide) z1 h
    · rw [if_neg h1] at h
      by_cases h2 : own = 4 ∧ idx = 40
      · rw [if_pos h2] at h
        obtain ⟨rfl, rfl⟩ := h2
        exact key 36 _ (by decide) (by decide) z2 h
      · rw [if_neg h2] at h
        by_cases h3 : own = 5 ∧ idx = 262
        · rw [if_pos h3] at h
          obtain ⟨rfl, rfl⟩ := h3
          exact key 35 _ (by decide) (by decide) z3 h
        · rw [if_neg h3] at h
          by_cases h4 : own = 5 ∧ idx = 280
          · rw [if_pos h4] at h
            obtain ⟨rfl, rfl⟩ := h4
            exact key 36 _ (by decide) (by decide) z4 h
          · rw [if_neg h4] at h
            cases h
end Mem
