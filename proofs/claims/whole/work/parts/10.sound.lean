section Main
variable {p : Program} {l : Launch} {e : Env} {R : Room} {s : State} {m : MethodId} {args : Array Value} {below : List Frame} {meth : Method} {c : Code} {D : va_G} {cI cL cM : ClassId} {ad : Cd → Nat} {A : Nat → Prop} {nL : Nat} {Q : State → Prop} {pc : Nat} {ls st : List AV} {M : Mm} {q : Ss} {r : Rs}
theorem stp_sound {y : Nat} (hy : y < 163) (hx : p.tables.exec = Jvm.exec) (hb : c.code = cod y) (hml : c.maxLocals = nL) (hts : ∀ w ∈ gt, w.before args s = true) (hown : s.vm.findClass (clR (mcl y)) = some m.cls) (hK : va_K D vwCl (tysO cI cL cM) s) (hA : ∀ q, s.heap.size ≤ q → A q) (hE : Ext ad A s s.heap) (hR : R = rmL (lvl y)) (IX : IxMet l) (IH : ∀ y', y' < 163 → lvl y' < lvl y → SndY l y') (h : stp (gd call y) y (pc, ls, st, M) = some (.inr q)) (kk : Wd p l e R s m args below meth c D cI cL cM ad A nL Q q) : Wd p l e R s m args below meth c D cI cL cM ad A nL Q (pc, ls, st, M) := by
  unfold stp at h
  cases hd : decode (cod y) pc with
  | error z => simp only [hd] at h; cases h
  | ok z =>
    obtain ⟨ins, n⟩ := z
    simp only [hd] at h
    by_cases hlen : lenOk ins n = true
    · rw [if_pos hlen] at h
      cases ins with
      | iadd => have hn1 : n = 1 := beq_iff_eq.mp hlen; subst hn1; exact s_bin (f := fun a b => some (a + b)) (k := 0) (fun H locs sl rest x z w hz K => by cases hz; exact lv_iadd hx hb hd K) h kk
      | isub => have hn1 : n = 1 := beq_iff_eq.mp hlen; subst hn1; exact s_bin (f := fun a b => some (a - b)) (k := 0) (fun H locs sl rest x z w hz K => by cases hz; exact lv_isub hx hb hd K) h kk
      | imul => have hn1 : n = 1 := beq_iff_eq.mp hlen; subst hn1; exact s_bin (f := fun a b => some (a * b)) (k := 0) (fun H locs sl rest x z w hz K => by cases hz; exact lv_imul hx hb hd K) h kk
      | iand => have hn1 : n = 1 := beq_iff_eq.mp hlen; subst hn1; exact s_bin (f := fun a b => some (a &&& b)) (k := 0) (fun H locs sl rest x z w hz K => by cases hz; exact lv_iand hx hb hd K) h kk
      | ior => have hn1 : n = 1 := beq_iff_eq.mp hlen; subst hn1; exact s_bin (f := fun a b => some (a ||| b)) (k := 0) (fun H locs sl rest x z w hz K => by cases hz; exact lv_ior hx hb hd K) h kk
      | ixor => have hn1 : n = 1 := beq_iff_eq.mp hlen; subst hn1; exact s_bin (f := fun a b => some (a ^^^ b)) (k := 0) (fun H locs sl rest x z w hz K => by cases hz; exact lv_ixor hx hb hd K) h kk
      | ishl => have hn1 : n = 1 := beq_iff_eq.mp hlen; subst hn1; exact s_bin (f := fun a b => some (a <<< (b &&& 31))) (k := 0) (fun H locs sl rest x z w hz K => by cases hz; exact lv_ishl hx hb hd K) h kk
      | idiv => have hn1 : n = 1 := beq_iff_eq.mp hlen; subst hn1; exact s_bin (k := 0) (fun H locs sl rest x z w hz K => by (by_cases h0 : z = 0); (rw [if_pos h0] at hz; cases hz); (rw [if_neg h0] at hz; cases hz; exact lv_idiv hx hb hd h0 K)) h kk
      | irem => have hn1 : n = 1 := beq_iff_eq.mp hlen; subst hn1; exact s_bin (k := 0) (fun H locs sl rest x z w hz K => by (by_cases h0 : z = 0); (rw [if_pos h0] at hz; cases hz); (rw [if_neg h0] at hz; cases hz; exact lv_irem hx hb hd h0 K)) h kk
      | ineg => have hn1 : n = 1 := beq_iff_eq.mp hlen; subst hn1; exact s_una (fun H locs sl rest x K => lv_ineg hx hb hd K) h kk
      | i2c => have hn1 : n = 1 := beq_iff_eq.mp hlen; subst hn1; exact s_una (fun H locs sl rest x K => lv_i2c hx hb hd rfl K) h kk
      | iconst k => have hn1 : n = 1 := beq_iff_eq.mp hlen; subst hn1; exact s_psh (k := 1) (fun H locs sl rest K => lv_iconst hx hb hd rfl K) h kk
      | bipush k => have hn1 : n = 2 := beq_iff_eq.mp hlen; subst hn1; exact s_psh (k := 2) (fun H locs sl rest K => lv_bipush hx hb hd rfl K) h kk
      | sipush k => have hn1 : n = 3 := beq_iff_eq.mp hlen; subst hn1; exact s_psh (k := 3) (fun H locs sl rest K => lv_sipush hx hb hd rfl K) h kk
      | iload_n k => have hn1 : n = 1 := beq_iff_eq.mp hlen; subst hn1; exact s_ldi (fun H locs sl rest x hl K => lv_iload_n hx hb hd rfl hl K) h kk
      | iload i => have hn1 : n = 2 := beq_iff_eq.mp hlen; subst hn1; exact s_ldi (fun H locs sl rest x hl K => lv_iload hx hb hd hl K) h kk
      | aload_n k => have hn1 : n = 1 := beq_iff_eq.mp hlen; subst hn1; exact s_lda (fun H locs sl rest x hl K => lv_aload_n hx hb hd rfl hl K) h kk
      | aload i => have hn1 : n = 2 := beq_iff_eq.mp hlen; subst hn1; exact s_lda (fun H locs sl rest x hl K => lv_aload hx hb hd hl K) h kk
      | istore_n k => have hn1 : n = 1 := beq_iff_eq.mp hlen; subst hn1; exact s_sti (fun H locs sl rest x lv hi hl K => lv_istore_n hx hb hd rfl hl hi rfl K) h kk
      | istore i => have hn1 : n = 2 := beq_iff_eq.mp hlen; subst hn1; exact s_sti (fun H locs sl rest x lv hi hl K => lv_istore hx hb hd hl hi rfl K) h kk
      | astore_n k => have hn1 : n = 1 := beq_iff_eq.mp hlen; subst hn1; exact s_sta (fun H locs sl rest x lv hi hl K => lv_astore_n hx hb hd rfl hl hi rfl K) h kk
      | astore i => have hn1 : n = 2 := beq_iff_eq.mp hlen; subst hn1; exact s_sta (fun H locs sl rest x lv hi hl K => lv_astore hx hb hd hl hi rfl K) h kk
      | iinc i k => have hn1 : n = 3 := beq_iff_eq.mp hlen; subst hn1; exact s_inc hx hb hd h kk
      | ifCond cd off => have hn1 : n = 3 := beq_iff_eq.mp hlen; subst hn1; exact s_if1 hx hb hd h kk
      | if_icmp cd off => have hn1 : n = 3 := beq_iff_eq.mp hlen; subst hn1; exact s_if2 hx hb hd h kk
      | goto off => have hn1 : n = 3 := beq_iff_eq.mp hlen; subst hn1; exact s_jmp hx hb hd h kk
      | tableswitch d lo hi offs => exact s_tsw hx hb hd h kk
      | lookupswitch d ps => exact s_lsw hx hb hd h kk
      | dup => have hn1 : n = 1 := beq_iff_eq.mp hlen; subst hn1; exact s_dp1 hx hb hd h kk
      | dup2 => have hn1 : n = 1 := beq_iff_eq.mp hlen; subst hn1; exact s_dp2 hx hb hd h kk
      | pop => have hn1 : n = 1 := beq_iff_eq.mp hlen; subst hn1; exact s_pp1 hx hb hd h kk
      | getfield idx => have hn1 : n = 3 := beq_iff_eq.mp hlen; subst hn1; exact s_gfd hx hb hE hts hown hK hd h kk
      | putfield idx => have hn1 : n = 3 := beq_iff_eq.mp hlen; subst hn1; exact s_pfd hx hb hE hts hown hK hd h kk
      | getstatic idx => have hn1 : n = 3 := beq_iff_eq.mp hlen; subst hn1; exact s_gst hx hb hts hown hE hd h kk
      | ldc idx => have hn1 : n = 2 := beq_iff_eq.mp hlen; subst hn1; exact s_ldk hx hb hts hown hE (Or.inl ⟨rfl, hd⟩) h kk
      | ldc_w idx => have hn1 : n = 3 := beq_iff_eq.mp hlen; subst hn1; exact s_ldk hx hb hts hown hE (Or.inr ⟨rfl, hd⟩) h kk
      | iaload => have hn1 : n = 1 := beq_iff_eq.mp hlen; subst hn1; exact s_ial hx hb hK hE hd h kk
      | iastore => have hn1 : n = 1 := beq_iff_eq.mp hlen; subst hn1; exact s_ias hx hb hK hd h kk
      | aaload => have hn1 : n = 1 := beq_iff_eq.mp hlen; subst hn1; exact s_aal hx hb hK hd h kk
      | arraylength => have hn1 : n = 1 := beq_iff_eq.mp hlen; subst hn1; exact s_aln hx hb hK hd h kk
      | invokevirtual idx => have hn1 : n = 3 := beq_iff_eq.mp hlen; subst hn1; exact s_ivV hy hx hb hml hts hown hK hA hE hR IH IX hd h kk
      | invokestatic idx => have hn1 : n = 3 := beq_iff_eq.mp hlen; subst hn1; exact s_ivS hy hx hb hml hts hown hK hA hE hR IH hd h kk
      | ireturn =>
        exfalso
        have h : irt y st M = some (.inr q) := h
        unfold irt at h
        split at h
        · split at h <;> cases h
        · cases h
      | return_ =>
        exfalso
        have h : (if mrt y = 0 ∧ st = [] then some (.inl (none, M)) else none : Oc) = some (.inr q) := h
        split at h <;> cases h
      | _ => exact absurd h (by intro z; cases z)
    · rw [if_neg hlen] at h
      cases h
theorem run_sound {y : Nat} (hy : y < 163) (hx : p.tables.exec = Jvm.exec) (hb : c.code = cod y) (hml : c.maxLocals = nL) (hts : ∀ w ∈ gt, w.before args s = true) (hown : s.vm.findClass (clR (mcl y)) = some m.cls) (hK : va_K D vwCl (tysO cI cL cM) s) (hA : ∀ q, s.heap.size ≤ q → A q) (hE : Ext ad A s s.heap) (hR : R = rmL (lvl y)) (IX : IxMet l) (IH : ∀ y', y' < 163 → lvl y' < lvl y → SndY l y') (fin : ∀ q' : Ss, stp (gd call y) y q' = some (.inl r) → Wd p l e R s m args below meth c D cI cL cM ad A nL Q q') : ∀ (k : Nat) (q : Ss), runN (stp (gd call y) y) k q = some r → Wd p l e R s m args below meth c D cI cL cM ad A nL Q q := by
  intro k
  induction k with
  | zero => intro q h; cases h
  | succ k ih =>
    intro q h
    rw [runN] at h
    cases e1 : stp (gd call y) y q with
    | none => rw [e1] at h; cases h
    | some z =>
      rw [e1] at h
      cases z with
      | inl r' =>
        have : r' = r := Option.some.inj h
        subst this
        exact fin q e1
      | inr q' =>
        obtain ⟨pc, ls, st, M⟩ := q
        exact stp_sound hy hx hb hml hts hown hK hA hE hR IX IH e1 (ih q' h)
end Main
theorem no_nx {pc : Nat} {ls st : List AV} {M : Mm} {r : Rs} (h : nx pc ls st M = some (.inl r)) : False := by unfold nx at h; cases h
theorem no_jmp {pc : Nat} {off : Int} {ls st : List AV} {M : Mm} {r : Rs} (h : jmp pc off ls st M = some (.inl r)) : False := by unfold jmp at h; split at h; exact no_nx h; cases h
theorem no_bin (f : Int32 → Int32 → Option Int32) (pc : Nat) (ls st : List AV) (M : Mm) {r : Rs} (h : bin f pc ls st M = some (.inl r)) : False := by
  unfold bin at h
  repeat' split at h
  all_goals first | exact no_nx h | exact no_jmp h | cases h
theorem no_una (f : Int32 → Int32) (pc : Nat) (ls st : List AV) (M : Mm) {r : Rs} (h : una f pc ls st M = some (.inl r)) : False := by
  unfold una at h
  repeat' split at h
  all_goals first | exact no_nx h | exact no_jmp h | cases h
theorem no_ldi (i n pc : Nat) (ls st : List AV) (M : Mm) {r : Rs} (h : ldi i n pc ls st M = some (.inl r)) : False := by
  unfold ldi at h
  repeat' split at h
  all_goals first | exact no_nx h | exact no_jmp h | cases h
theorem no_lda (i n pc : Nat) (ls st : List AV) (M : Mm) {r : Rs} (h : lda i n pc ls st M = some (.inl r)) : False := by
  unfold lda at h
  repeat' split at h
  all_goals first | exact no_nx h | exact no_jmp h | cases h
theorem no_sti (i n pc : Nat) (ls st : List AV) (M : Mm) {r : Rs} (h : sti i n pc ls st M = some (.inl r)) : False := by
  unfold sti at h
  repeat' split at h
  all_goals first | exact no_nx h | exact no_jmp h | cases h
theorem no_sta (i n pc : Nat) (ls st : List AV) (M : Mm) {r : Rs} (h : sta i n pc ls st M = some (.inl r)) : False := by
  unfold sta at h
  repeat' split at h
  all_goals first | exact no_nx h | exact no_jmp h | cases h
theorem no_inc (i : Nat) (k : Int) (pc : Nat) (ls st : List AV) (M : Mm) {r : Rs} (h : inc i k pc ls st M = some (.inl r)) : False := by
  unfold inc at h
  repeat' split at h
  all_goals first | exact no_nx h | exact no_jmp h | cases h
theorem no_if1 (cd : _root_.Jvm.ClassFile.Cond) (off : Int) (pc : Nat) (ls st : List AV) (M : Mm) {r : Rs} (h : if1 cd off pc ls st M = some (.inl r)) : False := by
  unfold if1 at h
  repeat' split at h
  all_goals first | exact no_nx h | exact no_jmp h | cases h
theorem no_if2 (cd : _root_.Jvm.ClassFile.Cond) (off : Int) (pc : Nat) (ls st : List AV) (M : Mm) {r : Rs} (h : if2 cd off pc ls st M = some (.inl r)) : False := by
  unfold if2 at h
  repeat' split at h
  all_goals first | exact no_nx h | exact no_jmp h | cases h
theorem no_tsw (d lo hi : Int) (offs : Array Int) (pc : Nat) (ls st : List AV) (M : Mm) {r : Rs} (h : tsw d lo hi offs pc ls st M = some (.inl r)) : False := by
  unfold tsw at h
  repeat' split at h
  all_goals first | exact no_nx h | exact no_jmp h | cases h
theorem no_lsw (d : Int) (ps : Array (Int × Int)) (pc : Nat) (ls st : List AV) (M : Mm) {r : Rs} (h : lsw d ps pc ls st M = some (.inl r)) : False := by
  unfold lsw at h
  repeat' split at h
  all_goals first | exact no_nx h | exact no_jmp h | cases h
theorem no_dp1 (pc : Nat) (ls st : List AV) (M : Mm) {r : Rs} (h : dp1 pc ls st M = some (.inl r)) : False := by
  unfold dp1 at h
  repeat' split at h
  all_goals first | exact no_nx h | exact no_jmp h | cases h
theorem no_dp2 (pc : Nat) (ls st : List AV) (M : Mm) {r : Rs} (h : dp2 pc ls st M = some (.inl r)) : False := by
  unfold dp2 at h
  repeat' split at h
  all_goals first | exact no_nx h | exact no_jmp h | cases h
theorem no_pp1 (pc : Nat) (ls st : List AV) (M : Mm) {r : Rs} (h : pp1 pc ls st M = some (.inl r)) : False := by
  unfold pp1 at h
  repeat' split at h
  all_goals first | exact no_nx h | exact no_jmp h | cases h
theorem no_gfd (own idx pc : Nat) (ls st : List AV) (M : Mm) {r : Rs} (h : gfd own idx pc ls st M = some (.inl r)) : False := by
  unfold gfd at h
  repeat' split at h
  all_goals first | exact no_nx h | exact no_jmp h | cases h
theorem no_pfd (own idx pc : Nat) (ls st : List AV) (M : Mm) {r : Rs} (h : pfd own idx pc ls st M = some (.inl r)) : False := by
  unfold pfd at h
  repeat' split at h
  all_goals first | exact no_nx h | exact no_jmp h | cases h
theorem no_gst (own idx pc : Nat) (ls st : List AV) (M : Mm) {r : Rs} (h : gst own idx pc ls st M = some (.inl r)) : False := by
  unfold gst at h
  repeat' split at h
  all_goals first | exact no_nx h | exact no_jmp h | cases h
theorem no_ldk (own idx n pc : Nat) (ls st : List AV) (M : Mm) {r : Rs} (h : ldk own idx n pc ls st M = some (.inl r)) : False := by
  unfold ldk at h
  repeat' split at h
  all_goals first | exact no_nx h | exact no_jmp h | cases h
theorem no_ial (pc : Nat) (ls st : List AV) (M : Mm) {r : Rs} (h : ial pc ls st M = some (.inl r)) : False := by
  unfold ial at h
  repeat' split at h
  all_goals first | exact no_nx h | exact no_jmp h | cases h
theorem no_ias (pc : Nat) (ls st : List AV) (M : Mm) {r : Rs} (h : ias pc ls st M = some (.inl r)) : False := by
  unfold ias at h
  repeat' split at h
  all_goals first | exact no_nx h | exact no_jmp h | cases h
theorem no_aal (pc : Nat) (ls st : List AV) (M : Mm) {r : Rs} (h : aal pc ls st M = some (.inl r)) : False := by
  unfold aal at h
  repeat' split at h
  all_goals first | exact no_nx h | exact no_jmp h | cases h
theorem no_aln (pc : Nat) (ls st : List AV) (M : Mm) {r : Rs} (h : aln pc ls st M = some (.inl r)) : False := by
  unfold aln at h
  repeat' split at h
  all_goals first | exact no_nx h | exact no_jmp h | cases h
theorem no_ivk (cal : Nat → List AV → Mm → Option Rs) (lv own idx : Nat) (stc : Bool) (pc : Nat) (ls st : List AV) (M : Mm) {r : Rs} (h : ivk cal lv own idx stc pc ls st M = some (.inl r)) : False := by
  unfold ivk at h
  repeat' (first | split at h | dsimp only at h)
  all_goals first | exact no_nx h | exact no_bin _ _ _ _ _ h | cases h
theorem stp_ret {y : Nat} {q : Ss} {v : Option Int32} {M' : Mm} (h : stp (gd call y) y q = some (.inl (v, M'))) : (v = none ∧ mrt y = 0 ∧ q.2.2.1 = [] ∧ q.2.2.2 = M' ∧ decode (cod y) q.1 = .ok (.return_, 1)) ∨ (∃ x, v = some x ∧ (mrt y = 1 ∨ (mrt y = 2 ∧ (x = 0 ∨ x = 1))) ∧ q.2.2.1 = [some (.inl x)] ∧ q.2.2.2 = M' ∧ decode (cod y) q.1 = .ok (.ireturn, 1)) := by
  obtain ⟨pc, ls, st, M⟩ := q
  unfold stp at h
  dsimp only at h ⊢
  cases hd : decode (cod y) pc with
  | error z => simp only [hd] at h; cases h
  | ok z =>
    obtain ⟨ins, n⟩ := z
    simp only [hd] at h
    by_cases hlen : lenOk ins n = true
    · rw [if_pos hlen] at h
      cases ins with
      | iadd => exact (no_bin (fun a b => some (a + b)) pc ls st M h).elim
      | isub => exact (no_bin (fun a b => some (a - b)) pc ls st M h).elim
      | imul => exact (no_bin (fun a b => some (a * b)) pc ls st M h).elim
      | iand => exact (no_bin (fun a b => some (a &&& b)) pc ls st M h).elim
      | ior => exact (no_bin (fun a b => some (a ||| b)) pc ls st M h).elim
      | ixor => exact (no_bin (fun a b => some (a ^^^ b)) pc ls st M h).elim
      | ishl => exact (no_bin (fun a b => some (a <<< (b &&& 31))) pc ls st M h).elim
      | idiv => exact (no_bin _ _ _ _ _ h).elim
      | irem => exact (no_bin _ _ _ _ _ h).elim
      | ineg => exact (no_una _ _ _ _ _ h).elim
      | i2c => exact (no_una _ _ _ _ _ h).elim
      | iload_n k => exact (no_ldi _ _ _ _ _ _ h).elim
      | iload i => exact (no_ldi _ _ _ _ _ _ h).elim
      | aload_n k => exact (no_lda _ _ _ _ _ _ h).elim
      | aload i => exact (no_lda _ _ _ _ _ _ h).elim
      | istore_n k => exact (no_sti _ _ _ _ _ _ h).elim
      | istore i => exact (no_sti _ _ _ _ _ _ h).elim
      | astore_n k => exact (no_sta _ _ _ _ _ _ h).elim
      | astore i => exact (no_sta _ _ _ _ _ _ h).elim
      | iinc i k => exact (no_inc _ _ _ _ _ _ h).elim
      | ifCond cd off => exact (no_if1 _ _ _ _ _ _ h).elim
      | if_icmp cd off => exact (no_if2 _ _ _ _ _ _ h).elim
      | tableswitch d lo hi offs => exact (no_tsw _ _ _ _ _ _ _ _ h).elim
      | lookupswitch d ps => exact (no_lsw _ _ _ _ _ _ h).elim
      | dup => exact (no_dp1 _ _ _ _ h).elim
      | dup2 => exact (no_dp2 _ _ _ _ h).elim
      | pop => exact (no_pp1 _ _ _ _ h).elim
      | getfield idx => exact (no_gfd _ _ _ _ _ _ h).elim
      | putfield idx => exact (no_pfd _ _ _ _ _ _ h).elim
      | getstatic idx => exact (no_gst _ _ _ _ _ _ h).elim
      | ldc idx => exact (no_ldk _ _ _ _ _ _ _ h).elim
      | ldc_w idx => exact (no_ldk _ _ _ _ _ _ _ h).elim
      | iaload => exact (no_ial _ _ _ _ h).elim
      | iastore => exact (no_ias _ _ _ _ h).elim
      | aaload => exact (no_aal _ _ _ _ h).elim
      | arraylength => exact (no_aln _ _ _ _ h).elim
      | invokevirtual idx => exact (no_ivk _ _ _ _ _ _ _ _ _ h).elim
      | invokestatic idx => exact (no_ivk _ _ _ _ _ _ _ _ _ h).elim
      | goto off => exact (no_jmp h).elim
      | iconst k => exact (no_nx h).elim
      | bipush k => exact (no_nx h).elim
      | sipush k => exact (no_nx h).elim
      | ireturn =>
        have hn1 : n = 1 := beq_iff_eq.mp hlen
        subst hn1
        have h : irt y st M = some (.inl (v, M')) := h
        unfold irt at h
        split at h
        · rename_i x
          split at h
          · rename_i hc
            cases h
            exact Or.inr ⟨_, rfl, hc, rfl, rfl, rfl⟩
          · cases h
        · cases h
      | return_ =>
        have hn1 : n = 1 := beq_iff_eq.mp hlen
        subst hn1
        have h : (if mrt y = 0 ∧ st = [] then some (.inl (none, M)) else none : Oc) = some (.inl (v, M')) := h
        split at h
        · rename_i hc
          cases h
          exact Or.inl ⟨rfl, hc.1, hc.2, rfl, rfl⟩
        · cases h
      | _ => exact absurd h (by intro z; cases z)
    · rw [if_neg hlen] at h
      cases h
theorem lr_ini {ad : Cd → Nat} {as : List AV} {n : Nat} (hs : okS as) (hn : as.length ≤ n) : Lr ad ((lg_sl (as.map (cv ad)) ++ List.replicate (n - (lg_sl (as.map (cv ad))).length) Slot.unset).toArray) (as ++ List.replicate (n - as.length) none) := by
  have hsl : ∀ as : List AV, lg_sl (as.map (cv ad)) = as.map (fun v => Slot.val (cv ad v)) := by
    intro as
    induction as with
    | nil => rfl
    | cons v as ih =>
      show (if (cv ad v).category = 2 then [Slot.val (cv ad v), Slot.second] else [Slot.val (cv ad v)]) ++ lg_sl (as.map (cv ad)) = _
      rw [cv_cat, ih]
      rfl
  have hlen : (lg_sl (as.map (cv ad))).length = as.length := by rw [hsl, List.length_map]
  have h0 := lv_entry (as.map (cv ad)) (n := n) (by rw [hlen]; exact hn)
  refine ⟨?_, h0.2.1, fun q hq => ?_⟩
  · rw [h0.1, List.length_append, List.length_replicate]; omega
  · obtain ⟨i, x⟩ := q
    obtain ⟨w, hw, rfl⟩ := lvO_mem.mp hq
    have hi : as[i]? = some (some w) := by
      rw [List.getElem?_append] at hw
      split at hw
      · exact hw
      · rw [List.getElem?_replicate] at hw
        split at hw <;> cases hw
    show (lg_sl (as.map (cv ad)) ++ _).toArray[i]? = _
    rw [List.getElem?_toArray, List.getElem?_append, hlen, if_pos (List.getElem?_eq_some_iff.mp hi).1, hsl, List.getElem?_map, hi]
    rfl
theorem snd_one {l : Launch} (IX : IxMet l) {y : Nat} (hy : y < 163) (IH : ∀ y', y' < 163 → lvl y' < lvl y → SndY l y') : SndY l y := by
  intro D cI cL cM ad as M M' v sz hc hok hlen
  obtain ⟨m1, m2, m3⟩ := mFacts hy
  simp only [mOd, Bool.and_eq_true, decide_eq_true_eq] at m2
  simp only [mOn, Bool.and_eq_true, decide_eq_true_eq] at m3
  have hle : as.length ≤ mxL y := by rw [hlen]; exact m3.1.1.1.1.1.2
  refine Met.ofW (cc := cod y) (maxL := mxL y) (ret := rtT y) m2.1.1.2 rfl ?_
  intro p e s m args below meth c s₁ B hml hv
  obtain ⟨rfl, hsz, hP, hK, hD0, hE⟩ := hv
  have hx := B.exec
  have hb := B.bytes
  have hr := B.returns
  have hts0 := atoms_spec (ws := wsM y) B.pre
  have hts : ∀ w ∈ gt, w.before (as.map (cv ad)).toArray s = true := fun w hw => hts0 w (List.mem_cons_of_mem _ hw)
  have hown : s.vm.findClass (mN y).cls = some m.cls := findClass_of_methodNamed B.named
  rw [m2.1.1.1.1] at hown
  have hlocks := B.notSynchronized
  subst hsz
  have hD := hD0.self (sz := s.heap.size)
  have hA : ∀ q : Nat, s.heap.size ≤ q → va_A (wsO cI cL cM ad M) s.heap.size q := fun q h => Or.inr h
  rw [lg_entry_eq]
  rw [call_run] at hc
  obtain ⟨k, hk⟩ := runF_some hc
  have hrt := m3.2
  refine run_sound (p := p) (e := e) (R := rmL (lvl y)) (below := below) (meth := meth) (c := c) (D := D) (cI := cI) (cL := cL) (cM := cM) (ad := ad) (A := va_A (wsO cI cL cM ad M) s.heap.size) (nL := mxL y) (r := (v, M')) hy hx hb hml hts hown hK hA hE rfl IX IH ?_ k _ hk _ _ _ ?_ ?_ ?_ (lr_ini hok hle) hP hD va_S.rf
  · intro q hq sl H locs hL hS hn hl hP hD hs
    obtain ⟨pc, ls, st, Mq⟩ := q
    have hF : va_F (va_A (wsO cI cL cM ad M) s.heap.size) s = va_F (va_A (wsO cI cL cM ad M) s.heap.size) s := rfl
    rcases stp_ret hq with ⟨rfl, h0, hst, hM, hd⟩ | ⟨x, rfl, h0, hst, hM, hd⟩
    · dsimp only at hst hM hd
      subst hst
      subst hM
      have hr' : meth.sig.returnType = none := by rw [hr, hrt, h0]; rfl
      exact W.vret hx hb hr' (fun t ht hW => ⟨⟨Mq, rfl, rfl, by show va_P _ _ _ t.heap; rw [ht]; exact hP⟩, hs.F ht⟩) hs.2.2 hd
    · dsimp only at hst hM hd
      subst hst
      subst hM
      rcases h0 with h0 | ⟨h0, hx01⟩
      · have hr' : meth.sig.returnType = some .int := by rw [hr, hrt, h0]; rfl
        exact W.iret (v := x) hx hb hr' (fun t ht hW => ⟨⟨x, Mq, rfl, ⟨rfl, rfl⟩, by show va_P _ _ _ t.heap; rw [ht]; exact hP⟩, hs.F ht⟩) hs.2.2 hd
      · have hr' : meth.sig.returnType = some .boolean := by rw [hr, hrt, h0]; rfl
        exact W.zret (v := x) hx hb hr' (by rcases hx01 with rfl | rfl <;> decide +kernel) (fun t ht hW => ⟨⟨x, Mq, rfl, ⟨rfl, rfl⟩, by show va_P _ _ _ t.heap; rw [ht]; exact hP⟩, hs.F ht⟩) hs.2.2 hd
  · intro w hw
    rcases List.mem_append.mp hw with h | h
    · exact Or.inr (hok w h)
    · exact Or.inl (List.eq_of_mem_replicate h)
  · intro w hw
    cases hw
  · show (as ++ List.replicate (mxL y - as.length) none).length = mxL y
    rw [List.length_append, List.length_replicate]
    omega
theorem snd_all {l : Launch} (IX : IxMet l) : ∀ (n y : Nat), y < 163 → lvl y < n → SndY l y := by
  intro n
  induction n with
  | zero => intro y _ h; exact absurd h (Nat.not_lt_zero _)
  | succ n ih => intro y hy h; exact snd_one IX hy (fun y' hy' hl => ih y' hy' (by omega))
