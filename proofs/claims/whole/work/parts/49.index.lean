/-! String.indexOf(int) on the two constant texts, by the kit's rows -/
theorem ja_0 : decode prog_11_method_79_code 0 = .ok (.aload_n 0, 1) := by decide +kernel
theorem ja_1 : decode prog_11_method_79_code 1 = .ok (.iload_n 1, 1) := by decide +kernel
theorem ja_2 : decode prog_11_method_79_code 2 = .ok (.iconst 0, 1) := by decide +kernel
theorem ja_3 : decode prog_11_method_79_code 3 = .ok (.invokevirtual 633, 3) := by decide +kernel
theorem ja_6 : decode prog_11_method_79_code 6 = .ok (.ireturn, 1) := by decide +kernel
theorem jb_0 : decode prog_11_method_80_code 0 = .ok (.aload_n 0, 1) := by decide +kernel
theorem jb_1 : decode prog_11_method_80_code 1 = .ok (.invokevirtual 492, 3) := by decide +kernel
theorem jb_4 : decode prog_11_method_80_code 4 = .ok (.ifCond .eq 19, 3) := by decide +kernel
theorem jb_7 : decode prog_11_method_80_code 7 = .ok (.aload_n 0, 1) := by decide +kernel
theorem jb_8 : decode prog_11_method_80_code 8 = .ok (.getfield 9, 3) := by decide +kernel
theorem jb_11 : decode prog_11_method_80_code 11 = .ok (.iload_n 1, 1) := by decide +kernel
theorem jb_12 : decode prog_11_method_80_code 12 = .ok (.iload_n 2, 1) := by decide +kernel
theorem jb_13 : decode prog_11_method_80_code 13 = .ok (.aload_n 0, 1) := by decide +kernel
theorem jb_14 : decode prog_11_method_80_code 14 = .ok (.invokevirtual 505, 3) := by decide +kernel
theorem jb_17 : decode prog_11_method_80_code 17 = .ok (.invokestatic 637, 3) := by decide +kernel
theorem jb_20 : decode prog_11_method_80_code 20 = .ok (.goto 16, 3) := by decide +kernel
theorem jb_36 : decode prog_11_method_80_code 36 = .ok (.ireturn, 1) := by decide +kernel
theorem ji_0 : decode prog_11_method_154_code 0 = .ok (.getstatic 38, 3) := by decide +kernel
theorem ji_3 : decode prog_11_method_154_code 3 = .ok (.ifCond .eq 14, 3) := by decide +kernel
theorem ji_6 : decode prog_11_method_154_code 6 = .ok (.aload_n 0, 1) := by decide +kernel
theorem ji_7 : decode prog_11_method_154_code 7 = .ok (.getfield 15, 3) := by decide +kernel
theorem ji_10 : decode prog_11_method_154_code 10 = .ok (.ifCond .ne 7, 3) := by decide +kernel
theorem ji_13 : decode prog_11_method_154_code 13 = .ok (.iconst 1, 1) := by decide +kernel
theorem ji_14 : decode prog_11_method_154_code 14 = .ok (.goto 4, 3) := by decide +kernel
theorem ji_18 : decode prog_11_method_154_code 18 = .ok (.ireturn, 1) := by decide +kernel
theorem jl_0 : decode prog_11_method_54_code 0 = .ok (.aload_n 0, 1) := by decide +kernel
theorem jl_1 : decode prog_11_method_54_code 1 = .ok (.getfield 9, 3) := by decide +kernel
theorem jl_4 : decode prog_11_method_54_code 4 = .ok (.arraylength, 1) := by decide +kernel
theorem jl_5 : decode prog_11_method_54_code 5 = .ok (.aload_n 0, 1) := by decide +kernel
theorem jl_6 : decode prog_11_method_54_code 6 = .ok (.invokevirtual 335, 3) := by decide +kernel
theorem jl_9 : decode prog_11_method_54_code 9 = .ok (.ishr, 1) := by decide +kernel
theorem jl_10 : decode prog_11_method_54_code 10 = .ok (.ireturn, 1) := by decide +kernel
theorem jc_0 : decode prog_11_method_152_code 0 = .ok (.getstatic 38, 3) := by decide +kernel
theorem jc_3 : decode prog_11_method_152_code 3 = .ok (.ifCond .eq 10, 3) := by decide +kernel
theorem jc_6 : decode prog_11_method_152_code 6 = .ok (.aload_n 0, 1) := by decide +kernel
theorem jc_7 : decode prog_11_method_152_code 7 = .ok (.getfield 15, 3) := by decide +kernel
theorem jc_10 : decode prog_11_method_152_code 10 = .ok (.goto 4, 3) := by decide +kernel
theorem jc_14 : decode prog_11_method_152_code 14 = .ok (.ireturn, 1) := by decide +kernel
theorem js_0 : decode prog_12_method_22_code 0 = .ok (.iload_n 1, 1) := by decide +kernel
theorem js_1 : decode prog_12_method_22_code 1 = .ok (.invokestatic 88, 3) := by decide +kernel
theorem js_4 : decode prog_12_method_22_code 4 = .ok (.ifCond .ne 5, 3) := by decide +kernel
theorem js_7 : decode prog_12_method_22_code 7 = .ok (.iconst (-1), 1) := by decide +kernel
theorem js_8 : decode prog_12_method_22_code 8 = .ok (.ireturn, 1) := by decide +kernel
theorem js_9 : decode prog_12_method_22_code 9 = .ok (.iload_n 2, 1) := by decide +kernel
theorem js_10 : decode prog_12_method_22_code 10 = .ok (.iconst 0, 1) := by decide +kernel
theorem js_11 : decode prog_12_method_22_code 11 = .ok (.invokestatic 92, 3) := by decide +kernel
theorem js_14 : decode prog_12_method_22_code 14 = .ok (.istore_n 2, 1) := by decide +kernel
theorem js_15 : decode prog_12_method_22_code 15 = .ok (.iload_n 3, 1) := by decide +kernel
theorem js_16 : decode prog_12_method_22_code 16 = .ok (.aload_n 0, 1) := by decide +kernel
theorem js_17 : decode prog_12_method_22_code 17 = .ok (.arraylength, 1) := by decide +kernel
theorem js_18 : decode prog_12_method_22_code 18 = .ok (.invokestatic 38, 3) := by decide +kernel
theorem js_21 : decode prog_12_method_22_code 21 = .ok (.istore_n 3, 1) := by decide +kernel
theorem js_22 : decode prog_12_method_22_code 22 = .ok (.iload_n 2, 1) := by decide +kernel
theorem js_23 : decode prog_12_method_22_code 23 = .ok (.iload_n 3, 1) := by decide +kernel
theorem js_24 : decode prog_12_method_22_code 24 = .ok (.if_icmp .lt 5, 3) := by decide +kernel
theorem js_27 : decode prog_12_method_22_code 27 = .ok (.iconst (-1), 1) := by decide +kernel
theorem js_28 : decode prog_12_method_22_code 28 = .ok (.ireturn, 1) := by decide +kernel
theorem js_29 : decode prog_12_method_22_code 29 = .ok (.aload_n 0, 1) := by decide +kernel
theorem js_30 : decode prog_12_method_22_code 30 = .ok (.iload_n 1, 1) := by decide +kernel
theorem js_31 : decode prog_12_method_22_code 31 = .ok (.iload_n 2, 1) := by decide +kernel
theorem js_32 : decode prog_12_method_22_code 32 = .ok (.iload_n 3, 1) := by decide +kernel
theorem js_33 : decode prog_12_method_22_code 33 = .ok (.invokestatic 95, 3) := by decide +kernel
theorem js_36 : decode prog_12_method_22_code 36 = .ok (.ireturn, 1) := by decide +kernel
theorem je_0 : decode prog_12_method_4_code 0 = .ok (.iload_n 0, 1) := by decide +kernel
theorem je_1 : decode prog_12_method_4_code 1 = .ok (.ifCond .lt 14, 3) := by decide +kernel
theorem je_4 : decode prog_12_method_4_code 4 = .ok (.iload_n 0, 1) := by decide +kernel
theorem je_5 : decode prog_12_method_4_code 5 = .ok (.sipush 255, 3) := by decide +kernel
theorem je_8 : decode prog_12_method_4_code 8 = .ok (.if_icmp .gt 7, 3) := by decide +kernel
theorem je_11 : decode prog_12_method_4_code 11 = .ok (.iconst 1, 1) := by decide +kernel
theorem je_12 : decode prog_12_method_4_code 12 = .ok (.goto 4, 3) := by decide +kernel
theorem je_15 : decode prog_12_method_4_code 15 = .ok (.iconst 0, 1) := by decide +kernel
theorem je_16 : decode prog_12_method_4_code 16 = .ok (.ireturn, 1) := by decide +kernel
theorem jh_0 : decode prog_12_method_23_code 0 = .ok (.iload_n 1, 1) := by decide +kernel
theorem jh_1 : decode prog_12_method_23_code 1 = .ok (.i2b, 1) := by decide +kernel
theorem jh_2 : decode prog_12_method_23_code 2 = .ok (.istore 4, 2) := by decide +kernel
theorem jh_4 : decode prog_12_method_23_code 4 = .ok (.iload_n 2, 1) := by decide +kernel
theorem jh_5 : decode prog_12_method_23_code 5 = .ok (.istore 5, 2) := by decide +kernel
theorem jh_7 : decode prog_12_method_23_code 7 = .ok (.iload 5, 2) := by decide +kernel
theorem jh_9 : decode prog_12_method_23_code 9 = .ok (.iload_n 3, 1) := by decide +kernel
theorem jh_10 : decode prog_12_method_23_code 10 = .ok (.if_icmp .ge 21, 3) := by decide +kernel
theorem jh_13 : decode prog_12_method_23_code 13 = .ok (.aload_n 0, 1) := by decide +kernel
theorem jh_14 : decode prog_12_method_23_code 14 = .ok (.iload 5, 2) := by decide +kernel
theorem jh_16 : decode prog_12_method_23_code 16 = .ok (.baload, 1) := by decide +kernel
theorem jh_17 : decode prog_12_method_23_code 17 = .ok (.iload 4, 2) := by decide +kernel
theorem jh_19 : decode prog_12_method_23_code 19 = .ok (.if_icmp .ne 6, 3) := by decide +kernel
theorem jh_22 : decode prog_12_method_23_code 22 = .ok (.iload 5, 2) := by decide +kernel
theorem jh_24 : decode prog_12_method_23_code 24 = .ok (.ireturn, 1) := by decide +kernel
theorem jh_25 : decode prog_12_method_23_code 25 = .ok (.iinc 5 1, 3) := by decide +kernel
theorem jh_28 : decode prog_12_method_23_code 28 = .ok (.goto (-21), 3) := by decide +kernel
theorem jh_31 : decode prog_12_method_23_code 31 = .ok (.iconst (-1), 1) := by decide +kernel
theorem jh_32 : decode prog_12_method_23_code 32 = .ok (.ireturn, 1) := by decide +kernel
abbrev Ja : MethodName := ⟨"java/lang/String", "indexOf", "(I)I"⟩
abbrev Wa : List Cond := Cond.code Ja prog_11_method_79_code 2 (some .int) :: gt
abbrev Jb : MethodName := ⟨"java/lang/String", "indexOf", "(II)I"⟩
abbrev Wb : List Cond := Cond.code Jb prog_11_method_80_code 3 (some .int) :: gt
abbrev Ji : MethodName := ⟨"java/lang/String", "isLatin1", "()Z"⟩
abbrev Wi : List Cond := Cond.code Ji prog_11_method_154_code 1 (some .boolean) :: gt
abbrev Jl : MethodName := ⟨"java/lang/String", "length", "()I"⟩
abbrev Wl : List Cond := Cond.code Jl prog_11_method_54_code 1 (some .int) :: gt
abbrev Jc : MethodName := ⟨"java/lang/String", "coder", "()B"⟩
abbrev Wc : List Cond := Cond.code Jc prog_11_method_152_code 1 (some .byte) :: gt
abbrev Js : MethodName := ⟨"java/lang/StringLatin1", "indexOf", "([BIII)I"⟩
abbrev Ws : List Cond := Cond.code Js prog_12_method_22_code 4 (some .int) :: gt
abbrev Je : MethodName := ⟨"java/lang/StringLatin1", "canEncode", "(I)Z"⟩
abbrev We : List Cond := Cond.code Je prog_12_method_4_code 1 (some .boolean) :: gt
abbrev Jh : MethodName := ⟨"java/lang/StringLatin1", "indexOfChar", "([BIII)I"⟩
abbrev Wh : List Cond := Cond.code Jh prog_12_method_23_code 6 (some .int) :: gt
theorem jc_a : Cond.code Ja prog_11_method_79_code 2 (some .int) ∈ gt := List.mem_filter.mpr ⟨List.mem_of_getElem? (i := 357) rfl, rfl⟩
theorem jc_b : Cond.code Jb prog_11_method_80_code 3 (some .int) ∈ gt := List.mem_filter.mpr ⟨List.mem_of_getElem? (i := 361) rfl, rfl⟩
theorem jc_i : Cond.code Ji prog_11_method_154_code 1 (some .boolean) ∈ gt := List.mem_filter.mpr ⟨List.mem_of_getElem? (i := 365) rfl, rfl⟩
theorem jc_l : Cond.code Jl prog_11_method_54_code 1 (some .int) ∈ gt := List.mem_filter.mpr ⟨List.mem_of_getElem? (i := 371) rfl, rfl⟩
theorem jc_c : Cond.code Jc prog_11_method_152_code 1 (some .byte) ∈ gt := List.mem_filter.mpr ⟨List.mem_of_getElem? (i := 375) rfl, rfl⟩
theorem jc_s : Cond.code Js prog_12_method_22_code 4 (some .int) ∈ gt := List.mem_filter.mpr ⟨List.mem_of_getElem? (i := 378) rfl, rfl⟩
theorem jc_e : Cond.code Je prog_12_method_4_code 1 (some .boolean) ∈ gt := List.mem_filter.mpr ⟨List.mem_of_getElem? (i := 381) rfl, rfl⟩
theorem jc_h : Cond.code Jh prog_12_method_23_code 6 (some .int) ∈ gt := List.mem_filter.mpr ⟨List.mem_of_getElem? (i := 390) rfl, rfl⟩
theorem jw_b_l : Cond.methodLink "java/lang/String" 633 Jb ∈ gt := gt_of (k := 358) (by decide +kernel) rfl
theorem jw_b_m : Cond.instanceMethod Jb ∈ gt := gt_of (k := 359) (by decide +kernel) rfl
theorem jw_b_s : Cond.selects "java/lang/String" Jb Jb ∈ gt := gt_of (k := 360) (by decide +kernel) rfl
theorem jw_i_l : Cond.methodLink "java/lang/String" 492 Ji ∈ gt := gt_of (k := 362) (by decide +kernel) rfl
theorem jw_i_m : Cond.instanceMethod Ji ∈ gt := gt_of (k := 363) (by decide +kernel) rfl
theorem jw_i_s : Cond.selects "java/lang/String" Ji Ji ∈ gt := gt_of (k := 364) (by decide +kernel) rfl
theorem jw_cs : Cond.fieldLink "java/lang/String" 38 "java/lang/String" "COMPACT_STRINGS" "Z" ∈ gt := gt_of (k := 366) (by decide +kernel) rfl
theorem jw_l_l : Cond.methodLink "java/lang/String" 505 Jl ∈ gt := gt_of (k := 368) (by decide +kernel) rfl
theorem jw_l_m : Cond.instanceMethod Jl ∈ gt := gt_of (k := 369) (by decide +kernel) rfl
theorem jw_l_s : Cond.selects "java/lang/String" Jl Jl ∈ gt := gt_of (k := 370) (by decide +kernel) rfl
theorem jw_c_l : Cond.methodLink "java/lang/String" 335 Jc ∈ gt := gt_of (k := 372) (by decide +kernel) rfl
theorem jw_c_m : Cond.instanceMethod Jc ∈ gt := gt_of (k := 373) (by decide +kernel) rfl
theorem jw_c_s : Cond.selects "java/lang/String" Jc Jc ∈ gt := gt_of (k := 374) (by decide +kernel) rfl
theorem jw_s_l : Cond.methodLink "java/lang/String" 637 Js ∈ gt := gt_of (k := 376) (by decide +kernel) rfl
theorem jw_s_m : Cond.static Js ∈ gt := gt_of (k := 377) (by decide +kernel) rfl
theorem jw_e_l : Cond.methodLink "java/lang/StringLatin1" 88 Je ∈ gt := gt_of (k := 379) (by decide +kernel) rfl
theorem jw_e_m : Cond.static Je ∈ gt := gt_of (k := 380) (by decide +kernel) rfl
theorem jw_mx_l : Cond.methodLink "java/lang/StringLatin1" 92 Lib.Math.max.name ∈ gt := gt_of (k := 382) (by decide +kernel) rfl
theorem jw_mx_m : Cond.static Lib.Math.max.name ∈ gt := gt_of (k := 383) (by decide +kernel) rfl
theorem jw_mn_l : Cond.methodLink "java/lang/StringLatin1" 38 Lib.Math.min.name ∈ gt := gt_of (k := 385) (by decide +kernel) rfl
theorem jw_mn_m : Cond.static Lib.Math.min.name ∈ gt := gt_of (k := 386) (by decide +kernel) rfl
theorem jw_h_l : Cond.methodLink "java/lang/StringLatin1" 95 Jh ∈ gt := gt_of (k := 388) (by decide +kernel) rfl
theorem jw_h_m : Cond.static Jh ∈ gt := gt_of (k := 389) (by decide +kernel) rfl
theorem jw_fc : Cond.fieldLink "java/lang/String" 15 "java/lang/String" "coder" "B" ∈ gt := gt_of (k := 1207) (by decide +kernel) rfl
theorem jw_fv : Cond.fieldLink "java/lang/String" 9 "java/lang/String" "value" "[B" ∈ gt := gt_of (k := 1208) (by decide +kernel) rfl
theorem jw_in_s : Cond.initialized "java/lang/String" ∈ gt := gt_of (k := 70) (by decide +kernel) rfl
theorem jw_in_l : Cond.initialized "java/lang/StringLatin1" ∈ gt := gt_of (k := 71) (by decide +kernel) rfl
theorem jw_in_m : Cond.initialized "java/lang/Math" ∈ gt := gt_of (k := 72) (by decide +kernel) rfl
theorem jc_mx : Cond.code Lib.Math.max.name Lib.Math.max.code 2 (some .int) ∈ gt := List.mem_filter.mpr ⟨List.mem_of_getElem? (i := 384) rfl, rfl⟩
theorem jc_mn : Cond.code Lib.Math.min.name Lib.Math.min.code 2 (some .int) ∈ gt := List.mem_filter.mpr ⟨min_code, rfl⟩
theorem gt_in {Ts : List Cond} (h : ∀ w ∈ Ts, w ∈ gt) : GoodIn gt Ts := fun w hw => ⟨h w hw, good_of_word (gt_good w (h w hw))⟩
/-- the constant text at its place, and its bytes -/
def JS (D : va_G) (cI cL cM : ClassId) (ad : Cd → Nat) (M : Mm) (sz k t : Nat) (U : State) : Prop := Pre D cI cL cM ad M sz U ∧ va_O "java/lang/String" (ad (9, k, 0)) (va_A (wsO cI cL cM ad M) sz) U U.heap ∧ va_OF "java/lang/String" "coder" "B" (.int 0) (ad (9, k, 0)) (va_A (wsO cI cL cM ad M) sz) U U.heap ∧ va_OF "java/lang/String" "value" "[B" (.ref t) (ad (9, k, 0)) (va_A (wsO cI cL cM ad M) sz) U U.heap ∧ va_T .byte t 6 (fun j => .int ((ixB k).getD j 0)) (va_A (wsO cI cL cM ad M) sz) U U.heap
theorem JS.blind {D : va_G} {cI cL cM : ClassId} {ad : Cd → Nat} {M : Mm} {sz k t : Nat} {av : List Value} : FrameBlind (va_Pc av (JS D cI cL cM ad M sz k t)) := by
  intro a U g mk h
  obtain ⟨q0, ⟨q1, qP, qK, qD, qE⟩, o1, o2, o3, o4⟩ := h
  exact ⟨q0, ⟨q1, qP, va_K.moved (u := U) (U := U.calling g mk a) (Vm.Alike.refl U.vm) qK, qD, Ext.same qE rfl⟩, va_O.moved (u := U) (U := U.calling g mk a) (Vm.Alike.refl U.vm) o1, va_OF.moved (u := U) (U := U.calling g mk a) (Vm.Alike.refl U.vm) o2, va_OF.moved (u := U) (U := U.calling g mk a) (Vm.Alike.refl U.vm) o3, va_T.moved (u := U) (U := U.calling g mk a) (Vm.Alike.refl U.vm) o4⟩
theorem ixF_out {c : Int32} : ∀ (l : List Int32) (n : Nat), (∀ b ∈ l, ¬ b = c) → ixF c l n = -1 := by
  intro l
  induction l with
  | nil => intro n _; rfl
  | cons b l ih =>
    intro n h
    rw [ixF, if_neg (h b List.mem_cons_self)]
    exact ih _ (fun x hx => h x (List.mem_cons_of_mem _ hx))
theorem ixB_rng : ∀ b ∈ ixB 35 ++ ixB 36, ¬ b < 0 ∧ ¬ 255 < b := by decide +kernel
theorem ixB_8 : ∀ z, z < 256 → ixF (nI z).toInt8.toInt32 (ixB 35) 0 = ixF (nI z) (ixB 35) 0 ∧ ixF (nI z).toInt8.toInt32 (ixB 36) 0 = ixF (nI z) (ixB 36) 0 := by decide +kernel
theorem ixB_len {k : Nat} : (ixB k).length = 6 := by
  unfold ixB
  split <;> rfl
theorem ix_far {k : Nat} (hk : k = 35 ∨ k = 36) {x : Int32} (h : x < 0 ∨ 255 < x) : ix k x = -1 := by
  refine ixF_out _ _ (fun b hb e => ?_)
  subst e
  have hb' : b ∈ ixB 35 ++ ixB 36 := by
    rcases hk with rfl | rfl
    · exact List.mem_append_left _ hb
    · exact List.mem_append_right _ hb
  obtain ⟨a1, a2⟩ := ixB_rng b hb'
  rcases h with h | h
  · exact a1 h
  · exact a2 h
theorem ix_near {k : Nat} (hk : k = 35 ∨ k = 36) {x : Int32} (h1 : ¬ x < 0) (h2 : ¬ 255 < x) : ixF x.toInt8.toInt32 (ixB k) 0 = ix k x := by
  obtain ⟨z, hz, rfl⟩ := of_le (B := 255) (by decide) h1 h2
  obtain ⟨a, b⟩ := ixB_8 z (by omega)
  rcases hk with rfl | rfl
  · exact a
  · exact b
section Jdk
variable {l : Launch} {D : va_G} {cI cL cM : ClassId} {ad : Cd → Nat} {M : Mm} {sz k t : Nat}
theorem js_of {p : Program} {s : State} {A : Nat → Prop} {H : Heap} {locs : List Loc} (hK : va_K D vwCl (tysO cI cL cM) s) (hA : ∀ q, s.heap.size ≤ q → A q) (hE : Ext ad A s s.heap) (o1 : va_O "java/lang/String" (ad (9, k, 0)) A s s.heap) (o2 : va_OF "java/lang/String" "coder" "B" (.int 0) (ad (9, k, 0)) A s s.heap) (o3 : va_OF "java/lang/String" "value" "[B" (.ref t) (ad (9, k, 0)) A s s.heap) (o4 : va_T .byte t 6 (fun j => .int ((ixB k).getD j 0)) A s s.heap) (hP : va_P D vwCl (wsO cI cL cM ad M) H) (hD : va_D A (wsO cI cL cM ad M)) (hS : va_S A s.heap H locs) : ∀ U : State, U.heap = H → s.WarmedH U.vm → JS D cI cL cM ad M H.size k t U := by
  intro U hU hW
  have hn : ∀ z, va_A (wsO cI cL cM ad M) H.size z → A z := free_of hA hD hS
  refine ⟨pre_of hK hA hE hP hD hS U hU hW, ?_, ?_, ?_, ?_⟩
  · rw [hU]; exact ((o1.moved hW.alike).kept hS.2.1).narrow hn
  · rw [hU]; exact ((o2.moved hW.alike).kept hS.2.1).narrow hn
  · rw [hU]; exact ((o3.moved hW.alike).kept hS.2.1).narrow hn
  · rw [hU]; exact ((o4.moved hW.alike).kept hS.2.1).narrow hn
theorem jm_e (x : Int32) : Met l Je We (rmL 0) (va_Pc [.int x] (JS D cI cL cM ad M sz k t)) (QcM (some (if x < 0 then 0 else if 255 < x then 0 else 1)) M D cI cL cM ad (va_A (wsO cI cL cM ad M) sz)) 0 0 (va_A (wsO cI cL cM ad M) sz) := by
  refine Met.ofW (cc := prog_12_method_4_code) (maxL := 1) (ret := some .boolean) (by decide) rfl ?_
  intro p e s m args below meth c s₁ B hml hv
  obtain ⟨rfl, ⟨hsz, hP, hK, hD0, hE⟩, o1, o2, o3, o4⟩ := hv
  have hx := B.exec
  have hb := B.bytes
  have hr := B.returns
  have hts0 := atoms_spec (ws := We) B.pre
  have hts : ∀ w ∈ gt, w.before ([.int x] : List Value).toArray s = true := fun w hw => hts0 w (List.mem_cons_of_mem _ hw)
  have hown : s.vm.findClass "java/lang/StringLatin1" = some m.cls := findClass_of_methodNamed B.named
  have hlocks := B.notSynchronized
  subst hsz
  have hD := hD0.self (sz := s.heap.size)
  have hA : ∀ q : Nat, s.heap.size ≤ q → va_A (wsO cI cL cM ad M) s.heap.size q := fun q h => Or.inr h
  have hS : va_S (va_A (wsO cI cL cM ad M) s.heap.size) s.heap s.heap [] := va_S.rf
  have hl := lv_entry ([.int x]) (n := 1) (Nat.le_of_ble_eq_true rfl)
  rw [lg_entry_eq]
  generalize (lg_sl ([.int x]) ++ List.replicate (1 - (lg_sl ([.int x])).length) Slot.unset).toArray = ls at hl ⊢
  have hl : lv_has ls 1 [(0, .int x)] := hl
  refine lv_iload_n hx hb je_0 rfl (lv_at hl 0 rfl) ?_
  refine lv_if_lt (tgt := 15) hx hb je_1 (by decide) (fun h0 => ?_) (fun h0 => ?_)
  · refine lv_iconst (v := 0) hx hb je_15 (by decide +kernel) ?_
    exact W.zret (v := 0) hx hb hr (by decide +kernel) (fun t ht hW => ⟨⟨_, M, rfl, ⟨(if_pos h0).symm, rfl⟩, by show va_P _ _ _ t.heap; rw [ht]; exact hP⟩, hS.F ht⟩) hS.2.2 je_16
  refine lv_iload_n hx hb je_4 rfl (lv_at hl 0 rfl) ?_
  refine lv_sipush (v := 255) hx hb je_5 (by decide +kernel) ?_
  refine lv_icmp_gt (tgt := 15) hx hb je_8 (by decide) (fun h1 => ?_) (fun h1 => ?_)
  · refine lv_iconst (v := 0) hx hb je_15 (by decide +kernel) ?_
    exact W.zret (v := 0) hx hb hr (by decide +kernel) (fun t ht hW => ⟨⟨_, M, rfl, ⟨by rw [if_neg h0, if_pos h1], rfl⟩, by show va_P _ _ _ t.heap; rw [ht]; exact hP⟩, hS.F ht⟩) hS.2.2 je_16
  refine lv_iconst (v := 1) hx hb je_11 (by decide +kernel) ?_
  refine lv_goto (tgt := 16) hx hb je_12 (by decide) ?_
  exact W.zret (v := 1) hx hb hr (by decide +kernel) (fun t ht hW => ⟨⟨_, M, rfl, ⟨by rw [if_neg h0, if_neg h1], rfl⟩, by show va_P _ _ _ t.heap; rw [ht]; exact hP⟩, hS.F ht⟩) hS.2.2 je_16
theorem jm_c : Met l Jc Wc (rmL 0) (va_Pc [.ref (ad (9, k, 0))] (JS D cI cL cM ad M sz k t)) (QcM (some (0)) M D cI cL cM ad (va_A (wsO cI cL cM ad M) sz)) 0 0 (va_A (wsO cI cL cM ad M) sz) := by
  refine Met.ofW (cc := prog_11_method_152_code) (maxL := 1) (ret := some .byte) (by decide) rfl ?_
  intro p e s m args below meth c s₁ B hml hv
  obtain ⟨rfl, ⟨hsz, hP, hK, hD0, hE⟩, o1, o2, o3, o4⟩ := hv
  have hx := B.exec
  have hb := B.bytes
  have hr := B.returns
  have hts0 := atoms_spec (ws := Wc) B.pre
  have hts : ∀ w ∈ gt, w.before ([.ref (ad (9, k, 0))] : List Value).toArray s = true := fun w hw => hts0 w (List.mem_cons_of_mem _ hw)
  have hown : s.vm.findClass "java/lang/String" = some m.cls := findClass_of_methodNamed B.named
  have hlocks := B.notSynchronized
  subst hsz
  have hD := hD0.self (sz := s.heap.size)
  have hA : ∀ q : Nat, s.heap.size ≤ q → va_A (wsO cI cL cM ad M) s.heap.size q := fun q h => Or.inr h
  have hS : va_S (va_A (wsO cI cL cM ad M) s.heap.size) s.heap s.heap [] := va_S.rf
  have hl := lv_entry ([.ref (ad (9, k, 0))]) (n := 1) (Nat.le_of_ble_eq_true rfl)
  rw [lg_entry_eq]
  generalize (lg_sl ([.ref (ad (9, k, 0))]) ++ List.replicate (1 - (lg_sl ([.ref (ad (9, k, 0))])).length) Slot.unset).toArray = ls at hl ⊢
  have hl : lv_has ls 1 [(0, .ref (ad (9, k, 0)))] := hl
  refine va_gets hx hb hE.2.2.2.1 hS hown (hts _ jw_cs) (fun _ h => h) jc_0 ?_
  refine lv_if_eq (tgt := 13) hx hb jc_3 (by decide) (fun h0 => absurd h0 (by decide +kernel)) (fun _ => ?_)
  refine lv_aload_n hx hb jc_6 rfl (lv_at hl 0 rfl) ?_
  refine vk_getf hx hb o2 hS hown (hts _ jw_fc) (fun _ h => h) jc_7 ?_
  refine lv_goto (tgt := 14) hx hb jc_10 (by decide) ?_
  exact W.zret (v := 0) hx hb hr (by decide +kernel) (fun t ht hW => ⟨⟨_, M, rfl, ⟨rfl, rfl⟩, by show va_P _ _ _ t.heap; rw [ht]; exact hP⟩, hS.F ht⟩) hS.2.2 jc_14
theorem jm_i : Met l Ji Wi (rmL 0) (va_Pc [.ref (ad (9, k, 0))] (JS D cI cL cM ad M sz k t)) (QcM (some (1)) M D cI cL cM ad (va_A (wsO cI cL cM ad M) sz)) 0 0 (va_A (wsO cI cL cM ad M) sz) := by
  refine Met.ofW (cc := prog_11_method_154_code) (maxL := 1) (ret := some .boolean) (by decide) rfl ?_
  intro p e s m args below meth c s₁ B hml hv
  obtain ⟨rfl, ⟨hsz, hP, hK, hD0, hE⟩, o1, o2, o3, o4⟩ := hv
  have hx := B.exec
  have hb := B.bytes
  have hr := B.returns
  have hts0 := atoms_spec (ws := Wi) B.pre
  have hts : ∀ w ∈ gt, w.before ([.ref (ad (9, k, 0))] : List Value).toArray s = true := fun w hw => hts0 w (List.mem_cons_of_mem _ hw)
  have hown : s.vm.findClass "java/lang/String" = some m.cls := findClass_of_methodNamed B.named
  have hlocks := B.notSynchronized
  subst hsz
  have hD := hD0.self (sz := s.heap.size)
  have hA : ∀ q : Nat, s.heap.size ≤ q → va_A (wsO cI cL cM ad M) s.heap.size q := fun q h => Or.inr h
  have hS : va_S (va_A (wsO cI cL cM ad M) s.heap.size) s.heap s.heap [] := va_S.rf
  have hl := lv_entry ([.ref (ad (9, k, 0))]) (n := 1) (Nat.le_of_ble_eq_true rfl)
  rw [lg_entry_eq]
  generalize (lg_sl ([.ref (ad (9, k, 0))]) ++ List.replicate (1 - (lg_sl ([.ref (ad (9, k, 0))])).length) Slot.unset).toArray = ls at hl ⊢
  have hl : lv_has ls 1 [(0, .ref (ad (9, k, 0)))] := hl
  refine va_gets hx hb hE.2.2.2.1 hS hown (hts _ jw_cs) (fun _ h => h) ji_0 ?_
  refine lv_if_eq (tgt := 17) hx hb ji_3 (by decide) (fun h0 => absurd h0 (by decide +kernel)) (fun _ => ?_)
  refine lv_aload_n hx hb ji_6 rfl (lv_at hl 0 rfl) ?_
  refine vk_getf hx hb o2 hS hown (hts _ jw_fc) (fun _ h => h) ji_7 ?_
  refine lv_if_ne (tgt := 17) hx hb ji_10 (by decide) (fun h0 => absurd rfl h0) (fun _ => ?_)
  refine lv_iconst (v := 1) hx hb ji_13 (by decide +kernel) ?_
  refine lv_goto (tgt := 18) hx hb ji_14 (by decide) ?_
  exact W.zret (v := 1) hx hb hr (by decide +kernel) (fun t ht hW => ⟨⟨_, M, rfl, ⟨rfl, rfl⟩, by show va_P _ _ _ t.heap; rw [ht]; exact hP⟩, hS.F ht⟩) hS.2.2 ji_18
theorem jm_l : Met l Jl Wl (rmL 1) (va_Pc [.ref (ad (9, k, 0))] (JS D cI cL cM ad M sz k t)) (QcM (some (6)) M D cI cL cM ad (va_A (wsO cI cL cM ad M) sz)) 0 0 (va_A (wsO cI cL cM ad M) sz) := by
  refine Met.ofW (cc := prog_11_method_54_code) (maxL := 1) (ret := some .int) (by decide) rfl ?_
  intro p e s m args below meth c s₁ B hml hv
  obtain ⟨rfl, ⟨hsz, hP, hK, hD0, hE⟩, o1, o2, o3, o4⟩ := hv
  have hx := B.exec
  have hb := B.bytes
  have hr := B.returns
  have hts0 := atoms_spec (ws := Wl) B.pre
  have hts : ∀ w ∈ gt, w.before ([.ref (ad (9, k, 0))] : List Value).toArray s = true := fun w hw => hts0 w (List.mem_cons_of_mem _ hw)
  have hown : s.vm.findClass "java/lang/String" = some m.cls := findClass_of_methodNamed B.named
  have hlocks := B.notSynchronized
  subst hsz
  have hD := hD0.self (sz := s.heap.size)
  have hA : ∀ q : Nat, s.heap.size ≤ q → va_A (wsO cI cL cM ad M) s.heap.size q := fun q h => Or.inr h
  have hS : va_S (va_A (wsO cI cL cM ad M) s.heap.size) s.heap s.heap [] := va_S.rf
  have hl := lv_entry ([.ref (ad (9, k, 0))]) (n := 1) (Nat.le_of_ble_eq_true rfl)
  rw [lg_entry_eq]
  generalize (lg_sl ([.ref (ad (9, k, 0))]) ++ List.replicate (1 - (lg_sl ([.ref (ad (9, k, 0))])).length) Slot.unset).toArray = ls at hl ⊢
  have hl : lv_has ls 1 [(0, .ref (ad (9, k, 0)))] := hl
  refine lv_aload_n hx hb jl_0 rfl (lv_at hl 0 rfl) ?_
  refine vk_getf hx hb o3 hS hown (hts _ jw_fv) (fun _ h => h) jl_1 ?_
  refine va_tlen (v := 6) hx hb o4 hS (by decide +kernel) jl_4 ?_
  refine lv_aload_n hx hb jl_5 rfl (lv_at hl 0 rfl) ?_
  have hF := free_of (M := M) hA hD hS
  have hrc : ∃ cell : Cell, s.heap[ad (9, k, 0)]? = some cell ∧ cell.vm.isStatics = false ∧ s.vm.findClass "java/lang/String" = some cell.cls := by
    obtain ⟨cell, h1, h2, h3, -⟩ := o1.kept hS.2.1
    exact ⟨cell, h1, h2, h3⟩
  have hG : GoodIn gt (wsV "java/lang/String" 335 "java/lang/String" Jc Wc) := gt_in (fun w hw => by
    unfold wsV at hw
    simp only [List.cons_append, List.nil_append, List.mem_cons] at hw
    rcases hw with rfl | rfl | rfl | rfl | rfl | hw
    · exact jw_c_l
    · exact jw_c_m
    · exact jw_c_s
    · exact jw_in_s
    · exact jc_c
    · exact hw)
  refine va_calli (S := Mm) (a := [Value.ref (ad (9, k, 0))].toArray) (va_runV (Ts := gt) (nL := 1) (As := []) (rest := [.int 6]) ⟨hx, hb, hml, hown, hts⟩ (jm_c (l := l) (D := D) (cI := cI) (cL := cL) (cM := cM) (ad := ad) (M := M) (sz := s.heap.size) (k := k) (t := t)) (cwV 0 hts hG rfl rfl rfl (by decide +kernel) ⟨Nat.le_of_ble_eq_true rfl, Nat.le_of_ble_eq_true rfl⟩) ⟨JS.blind, hrc, fun U hU hW => ⟨rfl, js_of (p := p) hK hA hE o1 o2 o3 o4 hP hD hS U hU hW⟩⟩ rfl rfl hl.1 rfl (lv_room (Nat.le_of_ble_eq_true rfl)) jl_6 ⟨Nat.zero_le _, Nat.zero_le _⟩) hS (fun z _ hz => hF z hz) hF (fun rr uu tt H1 locs1 ht hvm hw hB _ _ hS1 => ?_)
  obtain ⟨hr1, hu1⟩ := hw
  subst hr1
  rw [hu1] at hB
  subst ht
  have hP := hB
  have hS := hS1
  refine lv_ishr hx hb jl_9 ?_
  exact W.iret (v := 6 >>> ((0 : Int32) &&& 31)) hx hb hr (fun t ht hW => ⟨⟨_, M, rfl, ⟨(by decide +kernel), rfl⟩, by show va_P _ _ _ t.heap; rw [ht]; exact hP⟩, hS.F ht⟩) hS.2.2 jl_10
theorem jm_h (x : Int32) : Met l Jh Wh (rmL 0) (va_Pc [.ref t, .int x, .int 0, .int 6] (JS D cI cL cM ad M sz k t)) (QcM (some (ixF x.toInt8.toInt32 (ixB k) 0)) M D cI cL cM ad (va_A (wsO cI cL cM ad M) sz)) 0 0 (va_A (wsO cI cL cM ad M) sz) := by
  refine Met.ofW (cc := prog_12_method_23_code) (maxL := 6) (ret := some .int) (by decide) rfl ?_
  intro p e s m args below meth c s₁ B hml hv
  obtain ⟨rfl, ⟨hsz, hP, hK, hD0, hE⟩, o1, o2, o3, o4⟩ := hv
  have hx := B.exec
  have hb := B.bytes
  have hr := B.returns
  have hts0 := atoms_spec (ws := Wh) B.pre
  have hts : ∀ w ∈ gt, w.before ([.ref t, .int x, .int 0, .int 6] : List Value).toArray s = true := fun w hw => hts0 w (List.mem_cons_of_mem _ hw)
  have hown : s.vm.findClass "java/lang/StringLatin1" = some m.cls := findClass_of_methodNamed B.named
  have hlocks := B.notSynchronized
  subst hsz
  have hD := hD0.self (sz := s.heap.size)
  have hA : ∀ q : Nat, s.heap.size ≤ q → va_A (wsO cI cL cM ad M) s.heap.size q := fun q h => Or.inr h
  have hS : va_S (va_A (wsO cI cL cM ad M) s.heap.size) s.heap s.heap [] := va_S.rf
  have hl := lv_entry ([.ref t, .int x, .int 0, .int 6]) (n := 6) (Nat.le_of_ble_eq_true rfl)
  rw [lg_entry_eq]
  generalize (lg_sl ([.ref t, .int x, .int 0, .int 6]) ++ List.replicate (6 - (lg_sl ([.ref t, .int x, .int 0, .int 6])).length) Slot.unset).toArray = ls at hl ⊢
  have hl : lv_has ls 6 [(0, .ref t), (1, .int x), (2, .int 0), (3, .int 6)] := hl
  refine lv_iload_n hx hb jh_0 rfl (lv_at hl 1 rfl) ?_
  refine lv_i2b (v := x.toInt8.toInt32) hx hb jh_1 rfl ?_
  refine lv_istore (lv' := [(4, .int x.toInt8.toInt32), (0, .ref t), (1, .int x), (2, .int 0), (3, .int 6)]) hx hb jh_2 hl (by decide) rfl (fun ls hl => ?_)
  refine lv_iload_n hx hb jh_4 rfl (lv_at hl 3 rfl) ?_
  refine lv_istore (lv' := [(5, .int (nI 0)), (4, .int x.toInt8.toInt32), (0, .ref t), (1, .int x), (2, .int 0), (3, .int 6)]) hx hb jh_5 hl (by decide) rfl (fun ls hl => ?_)
  have e6 : nI 6 = 6 := by decide +kernel
  refine (?_ : ∀ (n j : Nat) (ls : Array Slot), j + n = 6 → ixF x.toInt8.toInt32 ((ixB k).drop j) j = ixF x.toInt8.toInt32 (ixB k) 0 → lv_has ls 6 [(5, .int (nI j)), (4, .int x.toInt8.toInt32), (0, .ref t), (1, .int x), (2, .int 0), (3, .int 6)] → W p l e _ s m _ below meth c s.heap [] 0 0 _ (F0 m 7 ls [])) 6 0 ls rfl rfl hl
  clear hl ls
  intro n
  induction n with
  | zero =>
    intro j ls hj hix hl
    have hj6 : j = 6 := by omega
    subst hj6
    refine lv_iload hx hb jh_7 (lv_at hl 0 rfl) ?_
    refine lv_iload_n hx hb jh_9 rfl (lv_at hl 5 rfl) ?_
    refine lv_icmp_ge (tgt := 31) hx hb jh_10 (by decide) (fun _ => ?_) (fun h0 => absurd (by rw [e6]; exact Int32.le_refl 6) h0)
    refine lv_iconst (v := -1) hx hb jh_31 (by decide +kernel) ?_
    have hm : -1 = ixF x.toInt8.toInt32 (ixB k) 0 := by
      rw [← hix, List.drop_eq_nil_of_le (Nat.le_of_eq ixB_len)]
      rfl
    exact W.iret (v := -1) hx hb hr (fun t ht hW => ⟨⟨_, M, rfl, ⟨hm, rfl⟩, by show va_P _ _ _ t.heap; rw [ht]; exact hP⟩, hS.F ht⟩) hS.2.2 jh_32
  | succ n ih =>
    intro j ls hj hix hl
    have hlt : j < 6 := by omega
    have hd : (ixB k).drop j = (ixB k).getD j 0 :: (ixB k).drop (j + 1) := by
      have hl6 : j < (ixB k).length := by rw [ixB_len]; exact hlt
      rw [List.drop_eq_getElem_cons hl6]
      congr 1
      rw [List.getD_eq_getElem?_getD, List.getElem?_eq_getElem hl6]
      rfl
    rw [hd] at hix
    have tj : (nI j).toNatClampNeg = j := nI_clamp (by omega)
    refine lv_iload hx hb jh_7 (lv_at hl 0 rfl) ?_
    refine lv_iload_n hx hb jh_9 rfl (lv_at hl 5 rfl) ?_
    refine lv_icmp_ge (tgt := 31) hx hb jh_10 (by decide) (fun h0 => absurd h0 (by rw [← e6]; exact nI_ge hlt (by omega))) (fun _ => ?_)
    refine lv_aload_n hx hb jh_13 rfl (lv_at hl 2 rfl) ?_
    refine lv_iload hx hb jh_14 (lv_at hl 0 rfl) ?_
    refine va_tb (v := .int ((ixB k).getD j 0)) hx hb o4 hS (vp_in_nI hlt (by omega)) (by rw [tj]) jh_16 ?_
    refine lv_iload hx hb jh_17 (lv_at hl 1 rfl) ?_
    refine lv_icmp_ne (tgt := 25) hx hb jh_19 (by decide) (fun h0 => ?_) (fun h0 => ?_)
    · rw [ixF, if_neg h0] at hix
      refine lv_iinc (v := nI (j + 1)) (lv' := [(5, .int (nI (j + 1))), (4, .int x.toInt8.toInt32), (0, .ref t), (1, .int x), (2, .int 0), (3, .int 6)]) hx hb jh_25 hl (k := 0) rfl (nI_1 j) (by decide) rfl (fun ls hl => ?_)
      refine lv_goto (tgt := 7) hx hb jh_28 (by decide) ?_
      exact ih (j + 1) ls (by omega) hix hl
    · rw [ixF, if_pos h0] at hix
      refine lv_iload hx hb jh_22 (lv_at hl 0 rfl) ?_
      exact W.iret (v := nI j) hx hb hr (fun t ht hW => ⟨⟨_, M, rfl, ⟨hix, rfl⟩, by show va_P _ _ _ t.heap; rw [ht]; exact hP⟩, hS.F ht⟩) hS.2.2 jh_24
theorem jm_s (hk : k = 35 ∨ k = 36) (x : Int32) : Met l Js Ws (rmL 1) (va_Pc [.ref t, .int x, .int 0, .int 6] (JS D cI cL cM ad M sz k t)) (QcM (some (ix k x)) M D cI cL cM ad (va_A (wsO cI cL cM ad M) sz)) 0 0 (va_A (wsO cI cL cM ad M) sz) := by
  refine Met.ofW (cc := prog_12_method_22_code) (maxL := 4) (ret := some .int) (by decide) rfl ?_
  intro p e s m args below meth c s₁ B hml hv
  obtain ⟨rfl, ⟨hsz, hP, hK, hD0, hE⟩, o1, o2, o3, o4⟩ := hv
  have hx := B.exec
  have hb := B.bytes
  have hr := B.returns
  have hts0 := atoms_spec (ws := Ws) B.pre
  have hts : ∀ w ∈ gt, w.before ([.ref t, .int x, .int 0, .int 6] : List Value).toArray s = true := fun w hw => hts0 w (List.mem_cons_of_mem _ hw)
  have hown : s.vm.findClass "java/lang/StringLatin1" = some m.cls := findClass_of_methodNamed B.named
  have hlocks := B.notSynchronized
  subst hsz
  have hD := hD0.self (sz := s.heap.size)
  have hA : ∀ q : Nat, s.heap.size ≤ q → va_A (wsO cI cL cM ad M) s.heap.size q := fun q h => Or.inr h
  have hS : va_S (va_A (wsO cI cL cM ad M) s.heap.size) s.heap s.heap [] := va_S.rf
  have hl := lv_entry ([.ref t, .int x, .int 0, .int 6]) (n := 4) (Nat.le_of_ble_eq_true rfl)
  rw [lg_entry_eq]
  generalize (lg_sl ([.ref t, .int x, .int 0, .int 6]) ++ List.replicate (4 - (lg_sl ([.ref t, .int x, .int 0, .int 6])).length) Slot.unset).toArray = ls at hl ⊢
  have hl : lv_has ls 4 [(0, .ref t), (1, .int x), (2, .int 0), (3, .int 6)] := hl
  refine lv_iload_n hx hb js_0 rfl (lv_at hl 1 rfl) ?_
  have hF := free_of (M := M) hA hD hS
  have hG : GoodIn gt (va_wsS "java/lang/StringLatin1" 88 Je We) := gt_in (fun w hw => by
    unfold va_wsS at hw
    simp only [List.cons_append, List.nil_append, List.mem_cons] at hw
    rcases hw with rfl | rfl | rfl | rfl | hw
    · exact jw_e_l
    · exact jw_e_m
    · exact jw_in_l
    · exact jc_e
    · exact hw)
  refine va_calli (S := Mm) (a := ([.int x] : List Value).toArray) (va_runS (Ts := gt) (nL := 4) (As := [.int x]) (rest := []) ⟨hx, hb, hml, hown, hts⟩ (jm_e (l := l) (D := D) (cI := cI) (cL := cL) (cM := cM) (ad := ad) (M := M) (sz := s.heap.size) (k := k) (t := t) x) (va_cwS 1 hts hG rfl rfl rfl (by decide +kernel) ⟨Nat.le_of_ble_eq_true rfl, Nat.le_of_ble_eq_true rfl⟩) ⟨JS.blind, fun U hU hW => ⟨rfl, js_of (p := p) hK hA hE o1 o2 o3 o4 hP hD hS U hU hW⟩⟩ rfl rfl hl.1 rfl (lv_room (Nat.le_of_ble_eq_true rfl)) js_1 ⟨Nat.zero_le _, Nat.zero_le _⟩) hS (fun z _ hz => hF z hz) hF (fun rr uu tt H1 locs1 ht hvm hw hB _ _ hS1 => ?_)
  obtain ⟨hr1, hu1⟩ := hw
  subst hr1
  rw [hu1] at hB
  subst ht
  have hP := hB
  have hS := hS1
  by_cases hf : x < 0 ∨ 255 < x
  · have h0 : (if x < 0 then (0 : Int32) else if 255 < x then 0 else 1) = 0 := by
      by_cases g : x < 0
      · rw [if_pos g]
      · rw [if_neg g, if_pos (hf.resolve_left g)]
    rw [h0]
    refine lv_if_ne (tgt := 9) hx hb js_4 (by decide) (fun h1 => absurd rfl h1) (fun _ => ?_)
    refine lv_iconst (v := -1) hx hb js_7 (by decide +kernel) ?_
    exact W.iret (v := -1) hx hb hr (fun t ht hW => ⟨⟨_, M, rfl, ⟨(ix_far hk hf).symm, rfl⟩, by show va_P _ _ _ t.heap; rw [ht]; exact hP⟩, hS.F ht⟩) hS.2.2 js_8
  have hn0 : ¬ x < 0 := fun z => hf (Or.inl z)
  have hn1 : ¬ 255 < x := fun z => hf (Or.inr z)
  rw [if_neg hn0, if_neg hn1]
  refine lv_if_ne (tgt := 9) hx hb js_4 (by decide) (fun _ => ?_) (fun h1 => absurd h1 (by decide +kernel))
  refine lv_iload_n hx hb js_9 rfl (lv_at hl 2 rfl) ?_
  refine lv_iconst (v := 0) hx hb js_10 (by decide +kernel) ?_
  refine va_mmax hx hb (hml.trans hl.1.symm) hown (hts _ jw_mx_l) (hts _ jw_mx_m) (hts _ jw_in_m) (hts _ jc_mx) (Nat.le_of_ble_eq_true rfl) (Nat.le_of_ble_eq_true rfl) (Nat.zero_le _) (Nat.zero_le _) js_11 ?_
  rw [show (if (0 : Int32) < 0 then (0 : Int32) else 0) = 0 from by decide +kernel]
  refine lv_istore_n (lv' := [(2, .int 0), (0, .ref t), (1, .int x), (3, .int 6)]) hx hb js_14 rfl hl (by decide) rfl (fun ls hl => ?_)
  refine lv_iload_n hx hb js_15 rfl (lv_at hl 3 rfl) ?_
  refine lv_aload_n hx hb js_16 rfl (lv_at hl 1 rfl) ?_
  refine va_tlen (v := 6) hx hb o4 hS (by decide +kernel) js_17 ?_
  refine va_mmin hx hb (hml.trans hl.1.symm) hown (hts _ jw_mn_l) (hts _ jw_mn_m) (hts _ jw_in_m) (hts _ jc_mn) (Nat.le_of_ble_eq_true rfl) (Nat.le_of_ble_eq_true rfl) (Nat.zero_le _) (Nat.zero_le _) js_18 ?_
  rw [show (if (6 : Int32) < 6 then (6 : Int32) else 6) = 6 from by decide +kernel]
  refine lv_istore_n (lv' := [(3, .int 6), (2, .int 0), (0, .ref t), (1, .int x)]) hx hb js_21 rfl hl (by decide) rfl (fun ls hl => ?_)
  refine lv_iload_n hx hb js_22 rfl (lv_at hl 1 rfl) ?_
  refine lv_iload_n hx hb js_23 rfl (lv_at hl 0 rfl) ?_
  refine lv_icmp_lt (tgt := 29) hx hb js_24 (by decide) (fun _ => ?_) (fun h1 => absurd (by decide +kernel) h1)
  refine lv_aload_n hx hb js_29 rfl (lv_at hl 2 rfl) ?_
  refine lv_iload_n hx hb js_30 rfl (lv_at hl 3 rfl) ?_
  refine lv_iload_n hx hb js_31 rfl (lv_at hl 1 rfl) ?_
  refine lv_iload_n hx hb js_32 rfl (lv_at hl 0 rfl) ?_
  have hF := free_of (M := M) hA hD hS
  have hG : GoodIn gt (va_wsS "java/lang/StringLatin1" 95 Jh Wh) := gt_in (fun w hw => by
    unfold va_wsS at hw
    simp only [List.cons_append, List.nil_append, List.mem_cons] at hw
    rcases hw with rfl | rfl | rfl | rfl | hw
    · exact jw_h_l
    · exact jw_h_m
    · exact jw_in_l
    · exact jc_h
    · exact hw)
  refine va_calli (S := Mm) (a := ([.ref t, .int x, .int 0, .int 6] : List Value).toArray) (va_runS (Ts := gt) (nL := 4) (As := [.ref t, .int x, .int 0, .int 6]) (rest := []) ⟨hx, hb, hml, hown, hts⟩ (jm_h (l := l) (D := D) (cI := cI) (cL := cL) (cM := cM) (ad := ad) (M := M) (sz := _) (k := k) (t := t) x) (va_cwS 4 hts hG rfl rfl rfl (by decide +kernel) ⟨Nat.le_of_ble_eq_true rfl, Nat.le_of_ble_eq_true rfl⟩) ⟨JS.blind, fun U hU hW => ⟨rfl, js_of (p := p) hK hA hE o1 o2 o3 o4 hP hD hS U hU hW⟩⟩ rfl rfl hl.1 rfl (lv_room (Nat.le_of_ble_eq_true rfl)) js_33 ⟨Nat.zero_le _, Nat.zero_le _⟩) hS (fun z _ hz => hF z hz) hF (fun rr uu tt H1 locs1 ht hvm hw hB _ _ hS1 => ?_)
  obtain ⟨hr1, hu1⟩ := hw
  subst hr1
  rw [hu1] at hB
  subst ht
  have hP := hB
  have hS := hS1
  exact W.iret (v := ixF x.toInt8.toInt32 (ixB k) 0) hx hb hr (fun t ht hW => ⟨⟨_, M, rfl, ⟨ix_near hk hn0 hn1, rfl⟩, by show va_P _ _ _ t.heap; rw [ht]; exact hP⟩, hS.F ht⟩) hS.2.2 js_36
theorem jm_b (hk : k = 35 ∨ k = 36) (x : Int32) : Met l Jb Wb (rmL 2) (va_Pc [.ref (ad (9, k, 0)), .int x, .int 0] (JS D cI cL cM ad M sz k t)) (QcM (some (ix k x)) M D cI cL cM ad (va_A (wsO cI cL cM ad M) sz)) 0 0 (va_A (wsO cI cL cM ad M) sz) := by
  refine Met.ofW (cc := prog_11_method_80_code) (maxL := 3) (ret := some .int) (by decide) rfl ?_
  intro p e s m args below meth c s₁ B hml hv
  obtain ⟨rfl, ⟨hsz, hP, hK, hD0, hE⟩, o1, o2, o3, o4⟩ := hv
  have hx := B.exec
  have hb := B.bytes
  have hr := B.returns
  have hts0 := atoms_spec (ws := Wb) B.pre
  have hts : ∀ w ∈ gt, w.before ([.ref (ad (9, k, 0)), .int x, .int 0] : List Value).toArray s = true := fun w hw => hts0 w (List.mem_cons_of_mem _ hw)
  have hown : s.vm.findClass "java/lang/String" = some m.cls := findClass_of_methodNamed B.named
  have hlocks := B.notSynchronized
  subst hsz
  have hD := hD0.self (sz := s.heap.size)
  have hA : ∀ q : Nat, s.heap.size ≤ q → va_A (wsO cI cL cM ad M) s.heap.size q := fun q h => Or.inr h
  have hS : va_S (va_A (wsO cI cL cM ad M) s.heap.size) s.heap s.heap [] := va_S.rf
  have hl := lv_entry ([.ref (ad (9, k, 0)), .int x, .int 0]) (n := 3) (Nat.le_of_ble_eq_true rfl)
  rw [lg_entry_eq]
  generalize (lg_sl ([.ref (ad (9, k, 0)), .int x, .int 0]) ++ List.replicate (3 - (lg_sl ([.ref (ad (9, k, 0)), .int x, .int 0])).length) Slot.unset).toArray = ls at hl ⊢
  have hl : lv_has ls 3 [(0, .ref (ad (9, k, 0))), (1, .int x), (2, .int 0)] := hl
  refine lv_aload_n hx hb jb_0 rfl (lv_at hl 0 rfl) ?_
  have hF := free_of (M := M) hA hD hS
  have hrc : ∃ cell : Cell, s.heap[ad (9, k, 0)]? = some cell ∧ cell.vm.isStatics = false ∧ s.vm.findClass "java/lang/String" = some cell.cls := by
    obtain ⟨cell, h1, h2, h3, -⟩ := o1.kept hS.2.1
    exact ⟨cell, h1, h2, h3⟩
  have hG : GoodIn gt (wsV "java/lang/String" 492 "java/lang/String" Ji Wi) := gt_in (fun w hw => by
    unfold wsV at hw
    simp only [List.cons_append, List.nil_append, List.mem_cons] at hw
    rcases hw with rfl | rfl | rfl | rfl | rfl | hw
    · exact jw_i_l
    · exact jw_i_m
    · exact jw_i_s
    · exact jw_in_s
    · exact jc_i
    · exact hw)
  refine va_calli (S := Mm) (a := [Value.ref (ad (9, k, 0))].toArray) (va_runV (Ts := gt) (nL := 3) (As := []) (rest := []) ⟨hx, hb, hml, hown, hts⟩ (jm_i (l := l) (D := D) (cI := cI) (cL := cL) (cM := cM) (ad := ad) (M := M) (sz := s.heap.size) (k := k) (t := t)) (cwV 0 hts hG rfl rfl rfl (by decide +kernel) ⟨Nat.le_of_ble_eq_true rfl, Nat.le_of_ble_eq_true rfl⟩) ⟨JS.blind, hrc, fun U hU hW => ⟨rfl, js_of (p := p) hK hA hE o1 o2 o3 o4 hP hD hS U hU hW⟩⟩ rfl rfl hl.1 rfl (lv_room (Nat.le_of_ble_eq_true rfl)) jb_1 ⟨Nat.zero_le _, Nat.zero_le _⟩) hS (fun z _ hz => hF z hz) hF (fun rr uu tt H1 locs1 ht hvm hw hB _ _ hS1 => ?_)
  obtain ⟨hr1, hu1⟩ := hw
  subst hr1
  rw [hu1] at hB
  subst ht
  have hP := hB
  have hS := hS1
  refine lv_if_eq (tgt := 23) hx hb jb_4 (by decide) (fun h0 => absurd h0 (by decide +kernel)) (fun _ => ?_)
  refine lv_aload_n hx hb jb_7 rfl (lv_at hl 0 rfl) ?_
  refine vk_getf hx hb o3 hS hown (hts _ jw_fv) (fun _ h => h) jb_8 ?_
  refine lv_iload_n hx hb jb_11 rfl (lv_at hl 1 rfl) ?_
  refine lv_iload_n hx hb jb_12 rfl (lv_at hl 2 rfl) ?_
  refine lv_aload_n hx hb jb_13 rfl (lv_at hl 0 rfl) ?_
  have hF := free_of (M := M) hA hD hS
  have hrc : ∃ cell : Cell, tt.heap[ad (9, k, 0)]? = some cell ∧ cell.vm.isStatics = false ∧ s.vm.findClass "java/lang/String" = some cell.cls := by
    obtain ⟨cell, h1, h2, h3, -⟩ := o1.kept hS.2.1
    exact ⟨cell, h1, h2, h3⟩
  have hG : GoodIn gt (wsV "java/lang/String" 505 "java/lang/String" Jl Wl) := gt_in (fun w hw => by
    unfold wsV at hw
    simp only [List.cons_append, List.nil_append, List.mem_cons] at hw
    rcases hw with rfl | rfl | rfl | rfl | rfl | hw
    · exact jw_l_l
    · exact jw_l_m
    · exact jw_l_s
    · exact jw_in_s
    · exact jc_l
    · exact hw)
  refine va_calli (S := Mm) (a := [Value.ref (ad (9, k, 0))].toArray) (va_runV (Ts := gt) (nL := 3) (As := []) (rest := [.int 0, .int x, .ref t]) ⟨hx, hb, hml, hown, hts⟩ (jm_l (l := l) (D := D) (cI := cI) (cL := cL) (cM := cM) (ad := ad) (M := M) (sz := _) (k := k) (t := t)) (cwV 0 hts hG rfl rfl rfl (by decide +kernel) ⟨Nat.le_of_ble_eq_true rfl, Nat.le_of_ble_eq_true rfl⟩) ⟨JS.blind, hrc, fun U hU hW => ⟨rfl, js_of (p := p) hK hA hE o1 o2 o3 o4 hP hD hS U hU hW⟩⟩ rfl rfl hl.1 rfl (lv_room (Nat.le_of_ble_eq_true rfl)) jb_14 ⟨Nat.zero_le _, Nat.zero_le _⟩) hS (fun z _ hz => hF z hz) hF (fun rr uu tt H1 locs1 ht hvm hw hB _ _ hS1 => ?_)
  obtain ⟨hr1, hu1⟩ := hw
  subst hr1
  rw [hu1] at hB
  subst ht
  have hP := hB
  have hS := hS1
  have hown2 := hown
  have hF := free_of (M := M) hA hD hS
  have hG : GoodIn gt (va_wsS "java/lang/String" 637 Js Ws) := gt_in (fun w hw => by
    unfold va_wsS at hw
    simp only [List.cons_append, List.nil_append, List.mem_cons] at hw
    rcases hw with rfl | rfl | rfl | rfl | hw
    · exact jw_s_l
    · exact jw_s_m
    · exact jw_in_l
    · exact jc_s
    · exact hw)
  refine va_calli (S := Mm) (a := ([.ref t, .int x, .int 0, .int 6] : List Value).toArray) (va_runS (Ts := gt) (nL := 3) (As := [.ref t, .int x, .int 0, .int 6]) (rest := []) ⟨hx, hb, hml, hown, hts⟩ (jm_s (l := l) (D := D) (cI := cI) (cL := cL) (cM := cM) (ad := ad) (M := M) (sz := _) (k := k) (t := t) hk x) (va_cwS 4 hts hG rfl rfl rfl (by decide +kernel) ⟨Nat.le_of_ble_eq_true rfl, Nat.le_of_ble_eq_true rfl⟩) ⟨JS.blind, fun U hU hW => ⟨rfl, js_of (p := p) hK hA hE o1 o2 o3 o4 hP hD hS U hU hW⟩⟩ rfl rfl hl.1 rfl (lv_room (Nat.le_of_ble_eq_true rfl)) jb_17 ⟨Nat.zero_le _, Nat.zero_le _⟩) hS (fun z _ hz => hF z hz) hF (fun rr uu tt H1 locs1 ht hvm hw hB _ _ hS1 => ?_)
  obtain ⟨hr1, hu1⟩ := hw
  subst hr1
  rw [hu1] at hB
  subst ht
  have hP := hB
  have hS := hS1
  refine lv_goto (tgt := 36) hx hb jb_20 (by decide) ?_
  exact W.iret (v := ix k x) hx hb hr (fun t ht hW => ⟨⟨_, M, rfl, ⟨rfl, rfl⟩, by show va_P _ _ _ t.heap; rw [ht]; exact hP⟩, hS.F ht⟩) hS.2.2 jb_36
end Jdk
theorem ix_met (l : Launch) : IxMet l := by
  intro D cI cL cM ad M sz k x hk
  refine Met.ofW (cc := prog_11_method_79_code) (maxL := 2) (ret := some .int) (by decide) rfl ?_
  intro p e s m args below meth c s₁ B hml hv
  obtain ⟨rfl, hsz, hP, hK, hD0, hE⟩ := hv
  have hx := B.exec
  have hb := B.bytes
  have hr := B.returns
  have hts0 := atoms_spec (ws := Wa) B.pre
  have hts : ∀ w ∈ gt, w.before ([.ref (ad (9, k, 0)), .int x] : List Value).toArray s = true := fun w hw => hts0 w (List.mem_cons_of_mem _ hw)
  have hown : s.vm.findClass "java/lang/String" = some m.cls := findClass_of_methodNamed B.named
  have hlocks := B.notSynchronized
  subst hsz
  have hD := hD0.self (sz := s.heap.size)
  have hA : ∀ q : Nat, s.heap.size ≤ q → va_A (wsO cI cL cM ad M) s.heap.size q := fun q h => Or.inr h
  have hS : va_S (va_A (wsO cI cL cM ad M) s.heap.size) s.heap s.heap [] := va_S.rf
  obtain ⟨adV, hvS⟩ := hE.2.2.1
  obtain ⟨t, o1, o2, o3, o4⟩ : ∃ t, va_O "java/lang/String" (ad (9, k, 0)) (va_A (wsO cI cL cM ad M) s.heap.size) s s.heap ∧ va_OF "java/lang/String" "coder" "B" (.int 0) (ad (9, k, 0)) (va_A (wsO cI cL cM ad M) s.heap.size) s s.heap ∧ va_OF "java/lang/String" "value" "[B" (.ref t) (ad (9, k, 0)) (va_A (wsO cI cL cM ad M) s.heap.size) s s.heap ∧ va_T .byte t 6 (fun j => .int ((ixB k).getD j 0)) (va_A (wsO cI cL cM ad M) s.heap.size) s s.heap := by
    rcases hk with rfl | rfl
    · exact ⟨adV 0, hvS.1 0 (by decide)⟩
    · exact ⟨adV 1, hvS.1 1 (by decide)⟩
  have hl := lv_entry ([.ref (ad (9, k, 0)), .int x]) (n := 2) (Nat.le_of_ble_eq_true rfl)
  rw [lg_entry_eq]
  generalize (lg_sl ([.ref (ad (9, k, 0)), .int x]) ++ List.replicate (2 - (lg_sl ([.ref (ad (9, k, 0)), .int x])).length) Slot.unset).toArray = ls at hl ⊢
  have hl : lv_has ls 2 [(0, .ref (ad (9, k, 0))), (1, .int x)] := hl
  refine lv_aload_n hx hb ja_0 rfl (lv_at hl 0 rfl) ?_
  refine lv_iload_n hx hb ja_1 rfl (lv_at hl 1 rfl) ?_
  refine lv_iconst (v := 0) hx hb ja_2 (by decide +kernel) ?_
  have hF := free_of (M := M) hA hD hS
  have hrc : ∃ cell : Cell, s.heap[ad (9, k, 0)]? = some cell ∧ cell.vm.isStatics = false ∧ s.vm.findClass "java/lang/String" = some cell.cls := by
    obtain ⟨cell, h1, h2, h3, -⟩ := o1.kept hS.2.1
    exact ⟨cell, h1, h2, h3⟩
  have hG : GoodIn gt (wsV "java/lang/String" 633 "java/lang/String" Jb Wb) := gt_in (fun w hw => by
    unfold wsV at hw
    simp only [List.cons_append, List.nil_append, List.mem_cons] at hw
    rcases hw with rfl | rfl | rfl | rfl | rfl | hw
    · exact jw_b_l
    · exact jw_b_m
    · exact jw_b_s
    · exact jw_in_s
    · exact jc_b
    · exact hw)
  refine va_calli (S := Mm) (a := [Value.ref (ad (9, k, 0)), .int x, .int 0].toArray) (va_runV (Ts := gt) (nL := 2) (As := [.int x, .int 0]) (rest := []) ⟨hx, hb, hml, hown, hts⟩ (jm_b (l := l) (D := D) (cI := cI) (cL := cL) (cM := cM) (ad := ad) (M := M) (sz := s.heap.size) (k := k) (t := t) hk x) (cwV 2 hts hG rfl rfl rfl (by decide +kernel) ⟨Nat.le_of_ble_eq_true rfl, Nat.le_of_ble_eq_true rfl⟩) ⟨JS.blind, hrc, fun U hU hW => ⟨rfl, js_of (p := p) hK hA hE o1 o2 o3 o4 hP hD hS U hU hW⟩⟩ rfl rfl hl.1 rfl (lv_room (Nat.le_of_ble_eq_true rfl)) ja_3 ⟨Nat.zero_le _, Nat.zero_le _⟩) hS (fun z _ hz => hF z hz) hF (fun rr uu tt H1 locs1 ht hvm hw hB _ _ hS1 => ?_)
  obtain ⟨hr1, hu1⟩ := hw
  subst hr1
  rw [hu1] at hB
  subst ht
  have hP := hB
  have hS := hS1
  exact W.iret (v := ix k x) hx hb hr (fun t ht hW => ⟨⟨_, M, rfl, ⟨rfl, rfl⟩, by show va_P _ _ _ t.heap; rw [ht]; exact hP⟩, hS.F ht⟩) hS.2.2 ja_6
