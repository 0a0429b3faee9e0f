theorem c0 (g0 i0 : Nat) (g1 i1 : Nat) (M : Mm) : call 0 [aR g0 2 i0, aR g1 2 i1] M = run 0 0 [aR g0 2 i0, aR g1 2 i1] [] M := call_run 0 _ _
theorem d0_0 : decode (cod 0) 0 = .ok (.aload_n 0, 1) := by decide +kernel
theorem r0_0 (l1 : AV) (xg xi : Nat) (st : List AV) (M : Mm) : run 0 0 [aR xg 2 xi, l1] st M = run 0 1 [aR xg 2 xi, l1] (aR xg 2 xi :: st) M := e_aldn d0_0 rfl
theorem d0_1 : decode (cod 0) 1 = .ok (.aload_n 1, 1) := by decide +kernel
theorem r0_1 (l0 : AV) (xg xi : Nat) (st : List AV) (M : Mm) : run 0 1 [l0, aR xg 2 xi] st M = run 0 2 [l0, aR xg 2 xi] (aR xg 2 xi :: st) M := e_aldn d0_1 rfl
theorem d0_2 : decode (cod 0) 2 = .ok (.getfield 9, 3) := by decide +kernel
theorem r0_2 (l0 l1 : AV) (xg xi : Nat) (st : List AV) (M : Mm) : run 0 2 [l0, l1] (aR xg 2 xi :: st) M = run 0 5 [l0, l1] (aI (M xg 2 xi 0) :: st) M := e_gfi d0_2 rfl rfl rfl
theorem d0_5 : decode (cod 0) 5 = .ok (.putfield 9, 3) := by decide +kernel
theorem r0_5 (l0 l1 : AV) (v : Int32) (xg xi : Nat) (st : List AV) (M : Mm) : run 0 5 [l0, l1] (aI v :: aR xg 2 xi :: st) M = run 0 8 [l0, l1] st (wr M xg 2 xi 0 v) := e_pfi d0_5 rfl rfl rfl rfl
theorem d0_8 : decode (cod 0) 8 = .ok (.aload_n 0, 1) := by decide +kernel
theorem r0_8 (l1 : AV) (xg xi : Nat) (st : List AV) (M : Mm) : run 0 8 [aR xg 2 xi, l1] st M = run 0 9 [aR xg 2 xi, l1] (aR xg 2 xi :: st) M := e_aldn d0_8 rfl
theorem d0_9 : decode (cod 0) 9 = .ok (.aload_n 1, 1) := by decide +kernel
theorem r0_9 (l0 : AV) (xg xi : Nat) (st : List AV) (M : Mm) : run 0 9 [l0, aR xg 2 xi] st M = run 0 10 [l0, aR xg 2 xi] (aR xg 2 xi :: st) M := e_aldn d0_9 rfl
theorem d0_10 : decode (cod 0) 10 = .ok (.getfield 15, 3) := by decide +kernel
theorem r0_10 (l0 l1 : AV) (xg xi : Nat) (st : List AV) (M : Mm) : run 0 10 [l0, l1] (aR xg 2 xi :: st) M = run 0 13 [l0, l1] (aI (M xg 2 xi 1) :: st) M := e_gfi d0_10 rfl rfl rfl
theorem d0_13 : decode (cod 0) 13 = .ok (.putfield 15, 3) := by decide +kernel
theorem r0_13 (l0 l1 : AV) (v : Int32) (xg xi : Nat) (st : List AV) (M : Mm) : run 0 13 [l0, l1] (aI v :: aR xg 2 xi :: st) M = run 0 16 [l0, l1] st (wr M xg 2 xi 1 v) := e_pfi d0_13 rfl rfl rfl rfl
theorem d0_16 : decode (cod 0) 16 = .ok (.aload_n 0, 1) := by decide +kernel
theorem r0_16 (l1 : AV) (xg xi : Nat) (st : List AV) (M : Mm) : run 0 16 [aR xg 2 xi, l1] st M = run 0 17 [aR xg 2 xi, l1] (aR xg 2 xi :: st) M := e_aldn d0_16 rfl
theorem d0_17 : decode (cod 0) 17 = .ok (.aload_n 1, 1) := by decide +kernel
theorem r0_17 (l0 : AV) (xg xi : Nat) (st : List AV) (M : Mm) : run 0 17 [l0, aR xg 2 xi] st M = run 0 18 [l0, aR xg 2 xi] (aR xg 2 xi :: st) M := e_aldn d0_17 rfl
theorem d0_18 : decode (cod 0) 18 = .ok (.getfield 18, 3) := by decide +kernel
theorem r0_18 (l0 l1 : AV) (xg xi : Nat) (st : List AV) (M : Mm) : run 0 18 [l0, l1] (aR xg 2 xi :: st) M = run 0 21 [l0, l1] (aI (M xg 2 xi 2) :: st) M := e_gfi d0_18 rfl rfl rfl
theorem d0_21 : decode (cod 0) 21 = .ok (.putfield 18, 3) := by decide +kernel
theorem r0_21 (l0 l1 : AV) (v : Int32) (xg xi : Nat) (st : List AV) (M : Mm) : run 0 21 [l0, l1] (aI v :: aR xg 2 xi :: st) M = run 0 24 [l0, l1] st (wr M xg 2 xi 2 v) := e_pfi d0_21 rfl rfl rfl rfl
theorem d0_24 : decode (cod 0) 24 = .ok (.aload_n 0, 1) := by decide +kernel
theorem r0_24 (l1 : AV) (xg xi : Nat) (st : List AV) (M : Mm) : run 0 24 [aR xg 2 xi, l1] st M = run 0 25 [aR xg 2 xi, l1] (aR xg 2 xi :: st) M := e_aldn d0_24 rfl
theorem d0_25 : decode (cod 0) 25 = .ok (.aload_n 1, 1) := by decide +kernel
theorem r0_25 (l0 : AV) (xg xi : Nat) (st : List AV) (M : Mm) : run 0 25 [l0, aR xg 2 xi] st M = run 0 26 [l0, aR xg 2 xi] (aR xg 2 xi :: st) M := e_aldn d0_25 rfl
theorem d0_26 : decode (cod 0) 26 = .ok (.getfield 21, 3) := by decide +kernel
theorem r0_26 (l0 l1 : AV) (xg xi : Nat) (st : List AV) (M : Mm) : run 0 26 [l0, l1] (aR xg 2 xi :: st) M = run 0 29 [l0, l1] (aI (M xg 2 xi 3) :: st) M := e_gfi d0_26 rfl rfl rfl
theorem d0_29 : decode (cod 0) 29 = .ok (.putfield 21, 3) := by decide +kernel
theorem r0_29 (l0 l1 : AV) (v : Int32) (xg xi : Nat) (st : List AV) (M : Mm) : run 0 29 [l0, l1] (aI v :: aR xg 2 xi :: st) M = run 0 32 [l0, l1] st (wr M xg 2 xi 3 v) := e_pfi d0_29 rfl rfl rfl rfl
theorem d0_32 : decode (cod 0) 32 = .ok (.aload_n 0, 1) := by decide +kernel
theorem r0_32 (l1 : AV) (xg xi : Nat) (st : List AV) (M : Mm) : run 0 32 [aR xg 2 xi, l1] st M = run 0 33 [aR xg 2 xi, l1] (aR xg 2 xi :: st) M := e_aldn d0_32 rfl
theorem d0_33 : decode (cod 0) 33 = .ok (.aload_n 1, 1) := by decide +kernel
theorem r0_33 (l0 : AV) (xg xi : Nat) (st : List AV) (M : Mm) : run 0 33 [l0, aR xg 2 xi] st M = run 0 34 [l0, aR xg 2 xi] (aR xg 2 xi :: st) M := e_aldn d0_33 rfl
theorem d0_34 : decode (cod 0) 34 = .ok (.getfield 24, 3) := by decide +kernel
theorem r0_34 (l0 l1 : AV) (xg xi : Nat) (st : List AV) (M : Mm) : run 0 34 [l0, l1] (aR xg 2 xi :: st) M = run 0 37 [l0, l1] (aI (M xg 2 xi 4) :: st) M := e_gfi d0_34 rfl rfl rfl
theorem d0_37 : decode (cod 0) 37 = .ok (.putfield 24, 3) := by decide +kernel
theorem r0_37 (l0 l1 : AV) (v : Int32) (xg xi : Nat) (st : List AV) (M : Mm) : run 0 37 [l0, l1] (aI v :: aR xg 2 xi :: st) M = run 0 40 [l0, l1] st (wr M xg 2 xi 4 v) := e_pfi d0_37 rfl rfl rfl rfl
theorem d0_40 : decode (cod 0) 40 = .ok (.aload_n 0, 1) := by decide +kernel
theorem r0_40 (l1 : AV) (xg xi : Nat) (st : List AV) (M : Mm) : run 0 40 [aR xg 2 xi, l1] st M = run 0 41 [aR xg 2 xi, l1] (aR xg 2 xi :: st) M := e_aldn d0_40 rfl
theorem d0_41 : decode (cod 0) 41 = .ok (.aload_n 1, 1) := by decide +kernel
theorem r0_41 (l0 : AV) (xg xi : Nat) (st : List AV) (M : Mm) : run 0 41 [l0, aR xg 2 xi] st M = run 0 42 [l0, aR xg 2 xi] (aR xg 2 xi :: st) M := e_aldn d0_41 rfl
theorem d0_42 : decode (cod 0) 42 = .ok (.getfield 27, 3) := by decide +kernel
theorem r0_42 (l0 l1 : AV) (xg xi : Nat) (st : List AV) (M : Mm) : run 0 42 [l0, l1] (aR xg 2 xi :: st) M = run 0 45 [l0, l1] (aI (M xg 2 xi 5) :: st) M := e_gfi d0_42 rfl rfl rfl
theorem d0_45 : decode (cod 0) 45 = .ok (.putfield 27, 3) := by decide +kernel
theorem r0_45 (l0 l1 : AV) (v : Int32) (xg xi : Nat) (st : List AV) (M : Mm) : run 0 45 [l0, l1] (aI v :: aR xg 2 xi :: st) M = run 0 48 [l0, l1] st (wr M xg 2 xi 5 v) := e_pfi d0_45 rfl rfl rfl rfl
theorem d0_48 : decode (cod 0) 48 = .ok (.return_, 1) := by decide +kernel
theorem r0_48 (l0 l1 : AV) (M : Mm) : run 0 48 [l0, l1] [] M = some (none, M) := e_vret d0_48 rfl
theorem c1 (g0 i0 : Nat) (x1 : Int32) (x2 : Int32) (x3 : Int32) (x4 : Int32) (M : Mm) : call 1 [aR g0 2 i0, aI x1, aI x2, aI x3, aI x4] M = run 1 0 [aR g0 2 i0, aI x1, aI x2, aI x3, aI x4] [] M := call_run 1 _ _
theorem d1_0 : decode (cod 1) 0 = .ok (.aload_n 0, 1) := by decide +kernel
theorem r1_0 (l1 l2 l3 l4 : AV) (xg xi : Nat) (st : List AV) (M : Mm) : run 1 0 [aR xg 2 xi, l1, l2, l3, l4] st M = run 1 1 [aR xg 2 xi, l1, l2, l3, l4] (aR xg 2 xi :: st) M := e_aldn d1_0 rfl
theorem d1_1 : decode (cod 1) 1 = .ok (.iload_n 1, 1) := by decide +kernel
theorem r1_1 (l0 l2 l3 l4 : AV) (x : Int32) (st : List AV) (M : Mm) : run 1 1 [l0, aI x, l2, l3, l4] st M = run 1 2 [l0, aI x, l2, l3, l4] (aI x :: st) M := e_ildn d1_1 rfl
theorem d1_2 : decode (cod 1) 2 = .ok (.putfield 9, 3) := by decide +kernel
theorem r1_2 (l0 l1 l2 l3 l4 : AV) (v : Int32) (xg xi : Nat) (st : List AV) (M : Mm) : run 1 2 [l0, l1, l2, l3, l4] (aI v :: aR xg 2 xi :: st) M = run 1 5 [l0, l1, l2, l3, l4] st (wr M xg 2 xi 0 v) := e_pfi d1_2 rfl rfl rfl rfl
theorem d1_5 : decode (cod 1) 5 = .ok (.aload_n 0, 1) := by decide +kernel
theorem r1_5 (l1 l2 l3 l4 : AV) (xg xi : Nat) (st : List AV) (M : Mm) : run 1 5 [aR xg 2 xi, l1, l2, l3, l4] st M = run 1 6 [aR xg 2 xi, l1, l2, l3, l4] (aR xg 2 xi :: st) M := e_aldn d1_5 rfl
theorem d1_6 : decode (cod 1) 6 = .ok (.iload_n 2, 1) := by decide +kernel
theorem r1_6 (l0 l1 l3 l4 : AV) (x : Int32) (st : List AV) (M : Mm) : run 1 6 [l0, l1, aI x, l3, l4] st M = run 1 7 [l0, l1, aI x, l3, l4] (aI x :: st) M := e_ildn d1_6 rfl
theorem d1_7 : decode (cod 1) 7 = .ok (.putfield 15, 3) := by decide +kernel
theorem r1_7 (l0 l1 l2 l3 l4 : AV) (v : Int32) (xg xi : Nat) (st : List AV) (M : Mm) : run 1 7 [l0, l1, l2, l3, l4] (aI v :: aR xg 2 xi :: st) M = run 1 10 [l0, l1, l2, l3, l4] st (wr M xg 2 xi 1 v) := e_pfi d1_7 rfl rfl rfl rfl
theorem d1_10 : decode (cod 1) 10 = .ok (.aload_n 0, 1) := by decide +kernel
theorem r1_10 (l1 l2 l3 l4 : AV) (xg xi : Nat) (st : List AV) (M : Mm) : run 1 10 [aR xg 2 xi, l1, l2, l3, l4] st M = run 1 11 [aR xg 2 xi, l1, l2, l3, l4] (aR xg 2 xi :: st) M := e_aldn d1_10 rfl
theorem d1_11 : decode (cod 1) 11 = .ok (.iload_n 1, 1) := by decide +kernel
theorem r1_11 (l0 l2 l3 l4 : AV) (x : Int32) (st : List AV) (M : Mm) : run 1 11 [l0, aI x, l2, l3, l4] st M = run 1 12 [l0, aI x, l2, l3, l4] (aI x :: st) M := e_ildn d1_11 rfl
theorem d1_12 : decode (cod 1) 12 = .ok (.iload_n 2, 1) := by decide +kernel
theorem r1_12 (l0 l1 l3 l4 : AV) (x : Int32) (st : List AV) (M : Mm) : run 1 12 [l0, l1, aI x, l3, l4] st M = run 1 13 [l0, l1, aI x, l3, l4] (aI x :: st) M := e_ildn d1_12 rfl
theorem d1_13 : decode (cod 1) 13 = .ok (.invokestatic 36, 3) := by decide +kernel
theorem r1_13 (l0 l1 l2 l3 l4 : AV) (a0 : Int32) (a1 : Int32) (t0 : AV) (M : Mm) : run 1 13 [l0, l1, l2, l3, l4] [aI a1, aI a0, t0] M = cbI (call 2 [aI a0, aI a1] M) (fun v M => run 1 16 [l0, l1, l2, l3, l4] [aI v, t0] M) := call_I (n := 2) rfl true d1_13 rfl rfl rfl rfl rfl rfl rfl
theorem d1_16 : decode (cod 1) 16 = .ok (.putfield 18, 3) := by decide +kernel
theorem r1_16 (l0 l1 l2 l3 l4 : AV) (v : Int32) (xg xi : Nat) (st : List AV) (M : Mm) : run 1 16 [l0, l1, l2, l3, l4] (aI v :: aR xg 2 xi :: st) M = run 1 19 [l0, l1, l2, l3, l4] st (wr M xg 2 xi 2 v) := e_pfi d1_16 rfl rfl rfl rfl
theorem d1_19 : decode (cod 1) 19 = .ok (.aload_n 0, 1) := by decide +kernel
theorem r1_19 (l1 l2 l3 l4 : AV) (xg xi : Nat) (st : List AV) (M : Mm) : run 1 19 [aR xg 2 xi, l1, l2, l3, l4] st M = run 1 20 [aR xg 2 xi, l1, l2, l3, l4] (aR xg 2 xi :: st) M := e_aldn d1_19 rfl
theorem d1_20 : decode (cod 1) 20 = .ok (.iload_n 1, 1) := by decide +kernel
theorem r1_20 (l0 l2 l3 l4 : AV) (x : Int32) (st : List AV) (M : Mm) : run 1 20 [l0, aI x, l2, l3, l4] st M = run 1 21 [l0, aI x, l2, l3, l4] (aI x :: st) M := e_ildn d1_20 rfl
theorem d1_21 : decode (cod 1) 21 = .ok (.invokestatic 40, 3) := by decide +kernel
theorem r1_21 (l0 l1 l2 l3 l4 : AV) (a0 : Int32) (t0 : AV) (M : Mm) : run 1 21 [l0, l1, l2, l3, l4] [aI a0, t0] M = cbI (call 78 [aI a0] M) (fun v M => run 1 24 [l0, l1, l2, l3, l4] [aI v, t0] M) := call_I (n := 1) rfl true d1_21 rfl rfl rfl rfl rfl rfl rfl
theorem d1_24 : decode (cod 1) 24 = .ok (.putfield 21, 3) := by decide +kernel
theorem r1_24 (l0 l1 l2 l3 l4 : AV) (v : Int32) (xg xi : Nat) (st : List AV) (M : Mm) : run 1 24 [l0, l1, l2, l3, l4] (aI v :: aR xg 2 xi :: st) M = run 1 27 [l0, l1, l2, l3, l4] st (wr M xg 2 xi 3 v) := e_pfi d1_24 rfl rfl rfl rfl
theorem d1_27 : decode (cod 1) 27 = .ok (.aload_n 0, 1) := by decide +kernel
theorem r1_27 (l1 l2 l3 l4 : AV) (xg xi : Nat) (st : List AV) (M : Mm) : run 1 27 [aR xg 2 xi, l1, l2, l3, l4] st M = run 1 28 [aR xg 2 xi, l1, l2, l3, l4] (aR xg 2 xi :: st) M := e_aldn d1_27 rfl
theorem d1_28 : decode (cod 1) 28 = .ok (.iload_n 3, 1) := by decide +kernel
theorem r1_28 (l0 l1 l2 l4 : AV) (x : Int32) (st : List AV) (M : Mm) : run 1 28 [l0, l1, l2, aI x, l4] st M = run 1 29 [l0, l1, l2, aI x, l4] (aI x :: st) M := e_ildn d1_28 rfl
theorem d1_29 : decode (cod 1) 29 = .ok (.putfield 24, 3) := by decide +kernel
theorem r1_29 (l0 l1 l2 l3 l4 : AV) (v : Int32) (xg xi : Nat) (st : List AV) (M : Mm) : run 1 29 [l0, l1, l2, l3, l4] (aI v :: aR xg 2 xi :: st) M = run 1 32 [l0, l1, l2, l3, l4] st (wr M xg 2 xi 4 v) := e_pfi d1_29 rfl rfl rfl rfl
theorem d1_32 : decode (cod 1) 32 = .ok (.aload_n 0, 1) := by decide +kernel
theorem r1_32 (l1 l2 l3 l4 : AV) (xg xi : Nat) (st : List AV) (M : Mm) : run 1 32 [aR xg 2 xi, l1, l2, l3, l4] st M = run 1 33 [aR xg 2 xi, l1, l2, l3, l4] (aR xg 2 xi :: st) M := e_aldn d1_32 rfl
theorem d1_33 : decode (cod 1) 33 = .ok (.iload 4, 2) := by decide +kernel
theorem r1_33 (l0 l1 l2 l3 : AV) (x : Int32) (st : List AV) (M : Mm) : run 1 33 [l0, l1, l2, l3, aI x] st M = run 1 35 [l0, l1, l2, l3, aI x] (aI x :: st) M := e_ild d1_33 rfl
theorem d1_35 : decode (cod 1) 35 = .ok (.putfield 27, 3) := by decide +kernel
theorem r1_35 (l0 l1 l2 l3 l4 : AV) (v : Int32) (xg xi : Nat) (st : List AV) (M : Mm) : run 1 35 [l0, l1, l2, l3, l4] (aI v :: aR xg 2 xi :: st) M = run 1 38 [l0, l1, l2, l3, l4] st (wr M xg 2 xi 5 v) := e_pfi d1_35 rfl rfl rfl rfl
theorem d1_38 : decode (cod 1) 38 = .ok (.return_, 1) := by decide +kernel
theorem r1_38 (l0 l1 l2 l3 l4 : AV) (M : Mm) : run 1 38 [l0, l1, l2, l3, l4] [] M = some (none, M) := e_vret d1_38 rfl
theorem c2 (x0 : Int32) (x1 : Int32) (M : Mm) : call 2 [aI x0, aI x1] M = run 2 0 [aI x0, aI x1] [] M := call_run 2 _ _
theorem d2_0 : decode (cod 2) 0 = .ok (.iload_n 0, 1) := by decide +kernel
theorem r2_0 (l1 : AV) (x : Int32) (st : List AV) (M : Mm) : run 2 0 [aI x, l1] st M = run 2 1 [aI x, l1] (aI x :: st) M := e_ildn d2_0 rfl
theorem d2_1 : decode (cod 2) 1 = .ok (.tableswitch 53 1 5 #[35, 53, 53, 49, 41], 35) := by decide +kernel
theorem r2_1 (l0 l1 : AV) (x : Int32) (st : List AV) (M : Mm) : run 2 1 [l0, l1] (aI x :: st) M = if x = 1 then run 2 36 [l0, l1] st M else if x = 4 then run 2 50 [l0, l1] st M else if x = 5 then run 2 42 [l0, l1] st M else run 2 54 [l0, l1] st M := by
  rw [run_step d2_1 rfl]
  simp only [stpI, tsw]
  by_cases c0 : x = 1
  · subst c0
    rw [if_pos rfl]
    rfl
  rw [if_neg c0]
  by_cases c1 : x = 4
  · subst c1
    rw [if_pos rfl]
    rfl
  rw [if_neg c1]
  by_cases c2 : x = 5
  · subst c2
    rw [if_pos rfl]
    rfl
  rw [if_neg c2]
  by_cases e0 : x = 2
  · subst e0
    rfl
  by_cases e1 : x = 3
  · subst e1
    rfl
  have hx : x.toInt < 1 ∨ 5 < x.toInt := by
    have h : ∀ k : Int, ¬ x = Int32.ofInt k → -2147483648 ≤ k → k < 2147483648 → ¬ x.toInt = k := fun k hk hl hh e => hk (Int32.toInt_inj.mp (by rw [e, Int32.toInt_ofInt_of_le hl hh]))
    have fc0 := h 1 c0 (by decide) (by decide)
    have fc1 := h 4 c1 (by decide) (by decide)
    have fc2 := h 5 c2 (by decide) (by decide)
    have fe0 := h 2 e0 (by decide) (by decide)
    have fe1 := h 3 e1 (by decide) (by decide)
    omega
  rw [if_pos hx, jmp_run 54 (by decide)]
  rfl
theorem d2_36 : decode (cod 2) 36 = .ok (.iload_n 1, 1) := by decide +kernel
theorem r2_36 (l0 : AV) (x : Int32) (st : List AV) (M : Mm) : run 2 36 [l0, aI x] st M = run 2 37 [l0, aI x] (aI x :: st) M := e_ildn d2_36 rfl
theorem d2_37 : decode (cod 2) 37 = .ok (.iconst 1, 1) := by decide +kernel
theorem r2_37 (l0 l1 : AV) (st : List AV) (M : Mm) : run 2 37 [l0, l1] st M = run 2 38 [l0, l1] (aI 1 :: st) M := e_iconst 1 d2_37 (by decide +kernel)
theorem d2_38 : decode (cod 2) 38 = .ok (.iadd, 1) := by decide +kernel
theorem r2_38 (l0 l1 : AV) (a b : Int32) (st : List AV) (M : Mm) : run 2 38 [l0, l1] (aI b :: aI a :: st) M = run 2 39 [l0, l1] (aI (a + b) :: st) M := e_iadd d2_38
theorem d2_39 : decode (cod 2) 39 = .ok (.iconst 2, 1) := by decide +kernel
theorem r2_39 (l0 l1 : AV) (st : List AV) (M : Mm) : run 2 39 [l0, l1] st M = run 2 40 [l0, l1] (aI 2 :: st) M := e_iconst 2 d2_39 (by decide +kernel)
theorem d2_40 : decode (cod 2) 40 = .ok (.idiv, 1) := by decide +kernel
theorem r2_40 (l0 l1 : AV) (a b : Int32) (st : List AV) (M : Mm) : run 2 40 [l0, l1] (aI b :: aI a :: st) M = if b = 0 then none else run 2 41 [l0, l1] (aI (a / b) :: st) M := e_idiv d2_40
theorem d2_41 : decode (cod 2) 41 = .ok (.ireturn, 1) := by decide +kernel
theorem r2_41 (l0 l1 : AV) (v : Int32) (M : Mm) : run 2 41 [l0, l1] [aI v] M = some (some v, M) := e_iret d2_41 rfl
theorem d2_42 : decode (cod 2) 42 = .ok (.iload_n 1, 1) := by decide +kernel
theorem r2_42 (l0 : AV) (x : Int32) (st : List AV) (M : Mm) : run 2 42 [l0, aI x] st M = run 2 43 [l0, aI x] (aI x :: st) M := e_ildn d2_42 rfl
theorem d2_43 : decode (cod 2) 43 = .ok (.iconst 1, 1) := by decide +kernel
theorem r2_43 (l0 l1 : AV) (st : List AV) (M : Mm) : run 2 43 [l0, l1] st M = run 2 44 [l0, l1] (aI 1 :: st) M := e_iconst 1 d2_43 (by decide +kernel)
theorem d2_44 : decode (cod 2) 44 = .ok (.iadd, 1) := by decide +kernel
theorem r2_44 (l0 l1 : AV) (a b : Int32) (st : List AV) (M : Mm) : run 2 44 [l0, l1] (aI b :: aI a :: st) M = run 2 45 [l0, l1] (aI (a + b) :: st) M := e_iadd d2_44
theorem d2_45 : decode (cod 2) 45 = .ok (.iconst 2, 1) := by decide +kernel
theorem r2_45 (l0 l1 : AV) (st : List AV) (M : Mm) : run 2 45 [l0, l1] st M = run 2 46 [l0, l1] (aI 2 :: st) M := e_iconst 2 d2_45 (by decide +kernel)
theorem d2_46 : decode (cod 2) 46 = .ok (.idiv, 1) := by decide +kernel
theorem r2_46 (l0 l1 : AV) (a b : Int32) (st : List AV) (M : Mm) : run 2 46 [l0, l1] (aI b :: aI a :: st) M = if b = 0 then none else run 2 47 [l0, l1] (aI (a / b) :: st) M := e_idiv d2_46
theorem d2_47 : decode (cod 2) 47 = .ok (.iconst 1, 1) := by decide +kernel
theorem r2_47 (l0 l1 : AV) (st : List AV) (M : Mm) : run 2 47 [l0, l1] st M = run 2 48 [l0, l1] (aI 1 :: st) M := e_iconst 1 d2_47 (by decide +kernel)
theorem d2_48 : decode (cod 2) 48 = .ok (.iadd, 1) := by decide +kernel
theorem r2_48 (l0 l1 : AV) (a b : Int32) (st : List AV) (M : Mm) : run 2 48 [l0, l1] (aI b :: aI a :: st) M = run 2 49 [l0, l1] (aI (a + b) :: st) M := e_iadd d2_48
theorem d2_49 : decode (cod 2) 49 = .ok (.ireturn, 1) := by decide +kernel
theorem r2_49 (l0 l1 : AV) (v : Int32) (M : Mm) : run 2 49 [l0, l1] [aI v] M = some (some v, M) := e_iret d2_49 rfl
theorem d2_50 : decode (cod 2) 50 = .ok (.iload_n 1, 1) := by decide +kernel
theorem r2_50 (l0 : AV) (x : Int32) (st : List AV) (M : Mm) : run 2 50 [l0, aI x] st M = run 2 51 [l0, aI x] (aI x :: st) M := e_ildn d2_50 rfl
theorem d2_51 : decode (cod 2) 51 = .ok (.iconst 1, 1) := by decide +kernel
theorem r2_51 (l0 l1 : AV) (st : List AV) (M : Mm) : run 2 51 [l0, l1] st M = run 2 52 [l0, l1] (aI 1 :: st) M := e_iconst 1 d2_51 (by decide +kernel)
theorem d2_52 : decode (cod 2) 52 = .ok (.iadd, 1) := by decide +kernel
theorem r2_52 (l0 l1 : AV) (a b : Int32) (st : List AV) (M : Mm) : run 2 52 [l0, l1] (aI b :: aI a :: st) M = run 2 53 [l0, l1] (aI (a + b) :: st) M := e_iadd d2_52
theorem d2_53 : decode (cod 2) 53 = .ok (.ireturn, 1) := by decide +kernel
theorem r2_53 (l0 l1 : AV) (v : Int32) (M : Mm) : run 2 53 [l0, l1] [aI v] M = some (some v, M) := e_iret d2_53 rfl
theorem d2_54 : decode (cod 2) 54 = .ok (.iload_n 1, 1) := by decide +kernel
theorem r2_54 (l0 : AV) (x : Int32) (st : List AV) (M : Mm) : run 2 54 [l0, aI x] st M = run 2 55 [l0, aI x] (aI x :: st) M := e_ildn d2_54 rfl
theorem d2_55 : decode (cod 2) 55 = .ok (.ireturn, 1) := by decide +kernel
theorem r2_55 (l0 l1 : AV) (v : Int32) (M : Mm) : run 2 55 [l0, l1] [aI v] M = some (some v, M) := e_iret d2_55 rfl
theorem c3 (g0 i0 : Nat) (x1 : Int32) (M : Mm) : call 3 [aR g0 2 i0, aI x1] M = run 3 0 [aR g0 2 i0, aI x1] [] M := call_run 3 _ _
theorem d3_0 : decode (cod 3) 0 = .ok (.aload_n 0, 1) := by decide +kernel
theorem r3_0 (l1 : AV) (xg xi : Nat) (st : List AV) (M : Mm) : run 3 0 [aR xg 2 xi, l1] st M = run 3 1 [aR xg 2 xi, l1] (aR xg 2 xi :: st) M := e_aldn d3_0 rfl
theorem d3_1 : decode (cod 3) 1 = .ok (.getfield 9, 3) := by decide +kernel
theorem r3_1 (l0 l1 : AV) (xg xi : Nat) (st : List AV) (M : Mm) : run 3 1 [l0, l1] (aR xg 2 xi :: st) M = run 3 4 [l0, l1] (aI (M xg 2 xi 0) :: st) M := e_gfi d3_1 rfl rfl rfl
theorem d3_4 : decode (cod 3) 4 = .ok (.iconst 3, 1) := by decide +kernel
theorem r3_4 (l0 l1 : AV) (st : List AV) (M : Mm) : run 3 4 [l0, l1] st M = run 3 5 [l0, l1] (aI 3 :: st) M := e_iconst 3 d3_4 (by decide +kernel)
theorem d3_5 : decode (cod 3) 5 = .ok (.if_icmp .ne 13, 3) := by decide +kernel
theorem r3_5 (l0 l1 : AV) (a b : Int32) (st : List AV) (M : Mm) : run 3 5 [l0, l1] (aI b :: aI a :: st) M = if a = b then run 3 8 [l0, l1] st M else run 3 18 [l0, l1] st M := e_ne2 18 d3_5 (by decide)
theorem d3_8 : decode (cod 3) 8 = .ok (.iload_n 1, 1) := by decide +kernel
theorem r3_8 (l0 : AV) (x : Int32) (st : List AV) (M : Mm) : run 3 8 [l0, aI x] st M = run 3 9 [l0, aI x] (aI x :: st) M := e_ildn d3_8 rfl
theorem d3_9 : decode (cod 3) 9 = .ok (.iconst 5, 1) := by decide +kernel
theorem r3_9 (l0 l1 : AV) (st : List AV) (M : Mm) : run 3 9 [l0, l1] st M = run 3 10 [l0, l1] (aI 5 :: st) M := e_iconst 5 d3_9 (by decide +kernel)
theorem d3_10 : decode (cod 3) 10 = .ok (.irem, 1) := by decide +kernel
theorem r3_10 (l0 l1 : AV) (a b : Int32) (st : List AV) (M : Mm) : run 3 10 [l0, l1] (aI b :: aI a :: st) M = if b = 0 then none else run 3 11 [l0, l1] (aI (a - a / b * b) :: st) M := e_irem d3_10
theorem d3_11 : decode (cod 3) 11 = .ok (.ifCond .ne 7, 3) := by decide +kernel
theorem r3_11 (l0 l1 : AV) (a : Int32) (st : List AV) (M : Mm) : run 3 11 [l0, l1] (aI a :: st) M = if a = 0 then run 3 14 [l0, l1] st M else run 3 18 [l0, l1] st M := e_ne1 18 d3_11 (by decide)
theorem d3_14 : decode (cod 3) 14 = .ok (.iconst 0, 1) := by decide +kernel
theorem r3_14 (l0 l1 : AV) (st : List AV) (M : Mm) : run 3 14 [l0, l1] st M = run 3 15 [l0, l1] (aI 0 :: st) M := e_iconst 0 d3_14 (by decide +kernel)
theorem d3_15 : decode (cod 3) 15 = .ok (.goto 7, 3) := by decide +kernel
theorem r3_15 (l0 l1 : AV) (st : List AV) (M : Mm) : run 3 15 [l0, l1] st M = run 3 22 [l0, l1] st M := e_goto 22 d3_15 (by decide)
theorem d3_18 : decode (cod 3) 18 = .ok (.aload_n 0, 1) := by decide +kernel
theorem r3_18 (l1 : AV) (xg xi : Nat) (st : List AV) (M : Mm) : run 3 18 [aR xg 2 xi, l1] st M = run 3 19 [aR xg 2 xi, l1] (aR xg 2 xi :: st) M := e_aldn d3_18 rfl
theorem d3_19 : decode (cod 3) 19 = .ok (.getfield 18, 3) := by decide +kernel
theorem r3_19 (l0 l1 : AV) (xg xi : Nat) (st : List AV) (M : Mm) : run 3 19 [l0, l1] (aR xg 2 xi :: st) M = run 3 22 [l0, l1] (aI (M xg 2 xi 2) :: st) M := e_gfi d3_19 rfl rfl rfl
theorem d3_22 : decode (cod 3) 22 = .ok (.ireturn, 1) := by decide +kernel
theorem r3_22 (l0 l1 : AV) (v : Int32) (M : Mm) : run 3 22 [l0, l1] [aI v] M = some (some v, M) := e_iret d3_22 rfl
theorem c4 (g0 i0 : Nat) (M : Mm) : call 4 [aR g0 2 i0] M = run 4 0 [aR g0 2 i0] [] M := call_run 4 _ _
theorem d4_0 : decode (cod 4) 0 = .ok (.aload_n 0, 1) := by decide +kernel
theorem r4_0 (xg xi : Nat) (st : List AV) (M : Mm) : run 4 0 [aR xg 2 xi] st M = run 4 1 [aR xg 2 xi] (aR xg 2 xi :: st) M := e_aldn d4_0 rfl
theorem d4_1 : decode (cod 4) 1 = .ok (.getfield 18, 3) := by decide +kernel
theorem r4_1 (l0 : AV) (xg xi : Nat) (st : List AV) (M : Mm) : run 4 1 [l0] (aR xg 2 xi :: st) M = run 4 4 [l0] (aI (M xg 2 xi 2) :: st) M := e_gfi d4_1 rfl rfl rfl
theorem d4_4 : decode (cod 4) 4 = .ok (.iconst 1, 1) := by decide +kernel
theorem r4_4 (l0 : AV) (st : List AV) (M : Mm) : run 4 4 [l0] st M = run 4 5 [l0] (aI 1 :: st) M := e_iconst 1 d4_4 (by decide +kernel)
theorem d4_5 : decode (cod 4) 5 = .ok (.if_icmp .lt 11, 3) := by decide +kernel
theorem r4_5 (l0 : AV) (a b : Int32) (st : List AV) (M : Mm) : run 4 5 [l0] (aI b :: aI a :: st) M = if a < b then run 4 16 [l0] st M else run 4 8 [l0] st M := e_lt2 16 d4_5 (by decide)
theorem d4_8 : decode (cod 4) 8 = .ok (.aload_n 0, 1) := by decide +kernel
theorem r4_8 (xg xi : Nat) (st : List AV) (M : Mm) : run 4 8 [aR xg 2 xi] st M = run 4 9 [aR xg 2 xi] (aR xg 2 xi :: st) M := e_aldn d4_8 rfl
theorem d4_9 : decode (cod 4) 9 = .ok (.getfield 21, 3) := by decide +kernel
theorem r4_9 (l0 : AV) (xg xi : Nat) (st : List AV) (M : Mm) : run 4 9 [l0] (aR xg 2 xi :: st) M = run 4 12 [l0] (aI (M xg 2 xi 3) :: st) M := e_gfi d4_9 rfl rfl rfl
theorem d4_12 : decode (cod 4) 12 = .ok (.iconst 1, 1) := by decide +kernel
theorem r4_12 (l0 : AV) (st : List AV) (M : Mm) : run 4 12 [l0] st M = run 4 13 [l0] (aI 1 :: st) M := e_iconst 1 d4_12 (by decide +kernel)
theorem d4_13 : decode (cod 4) 13 = .ok (.if_icmp .ge 5, 3) := by decide +kernel
theorem r4_13 (l0 : AV) (a b : Int32) (st : List AV) (M : Mm) : run 4 13 [l0] (aI b :: aI a :: st) M = if a < b then run 4 16 [l0] st M else run 4 18 [l0] st M := e_ge2 18 d4_13 (by decide)
theorem d4_16 : decode (cod 4) 16 = .ok (.iconst 0, 1) := by decide +kernel
theorem r4_16 (l0 : AV) (st : List AV) (M : Mm) : run 4 16 [l0] st M = run 4 17 [l0] (aI 0 :: st) M := e_iconst 0 d4_16 (by decide +kernel)
theorem d4_17 : decode (cod 4) 17 = .ok (.ireturn, 1) := by decide +kernel
theorem r4_17 (l0 : AV) (v : Int32) (M : Mm) : run 4 17 [l0] [aI v] M = some (some v, M) := e_iret d4_17 rfl
theorem d4_18 : decode (cod 4) 18 = .ok (.aload_n 0, 1) := by decide +kernel
theorem r4_18 (xg xi : Nat) (st : List AV) (M : Mm) : run 4 18 [aR xg 2 xi] st M = run 4 19 [aR xg 2 xi] (aR xg 2 xi :: st) M := e_aldn d4_18 rfl
theorem d4_19 : decode (cod 4) 19 = .ok (.getfield 24, 3) := by decide +kernel
theorem r4_19 (l0 : AV) (xg xi : Nat) (st : List AV) (M : Mm) : run 4 19 [l0] (aR xg 2 xi :: st) M = run 4 22 [l0] (aI (M xg 2 xi 4) :: st) M := e_gfi d4_19 rfl rfl rfl
theorem d4_22 : decode (cod 4) 22 = .ok (.aload_n 0, 1) := by decide +kernel
theorem r4_22 (xg xi : Nat) (st : List AV) (M : Mm) : run 4 22 [aR xg 2 xi] st M = run 4 23 [aR xg 2 xi] (aR xg 2 xi :: st) M := e_aldn d4_22 rfl
theorem d4_23 : decode (cod 4) 23 = .ok (.getfield 18, 3) := by decide +kernel
theorem r4_23 (l0 : AV) (xg xi : Nat) (st : List AV) (M : Mm) : run 4 23 [l0] (aR xg 2 xi :: st) M = run 4 26 [l0] (aI (M xg 2 xi 2) :: st) M := e_gfi d4_23 rfl rfl rfl
theorem d4_26 : decode (cod 4) 26 = .ok (.aload_n 0, 1) := by decide +kernel
theorem r4_26 (xg xi : Nat) (st : List AV) (M : Mm) : run 4 26 [aR xg 2 xi] st M = run 4 27 [aR xg 2 xi] (aR xg 2 xi :: st) M := e_aldn d4_26 rfl
theorem d4_27 : decode (cod 4) 27 = .ok (.getfield 21, 3) := by decide +kernel
theorem r4_27 (l0 : AV) (xg xi : Nat) (st : List AV) (M : Mm) : run 4 27 [l0] (aR xg 2 xi :: st) M = run 4 30 [l0] (aI (M xg 2 xi 3) :: st) M := e_gfi d4_27 rfl rfl rfl
theorem d4_30 : decode (cod 4) 30 = .ok (.imul, 1) := by decide +kernel
theorem r4_30 (l0 : AV) (a b : Int32) (st : List AV) (M : Mm) : run 4 30 [l0] (aI b :: aI a :: st) M = run 4 31 [l0] (aI (a * b) :: st) M := e_imul d4_30
theorem d4_31 : decode (cod 4) 31 = .ok (.idiv, 1) := by decide +kernel
theorem r4_31 (l0 : AV) (a b : Int32) (st : List AV) (M : Mm) : run 4 31 [l0] (aI b :: aI a :: st) M = if b = 0 then none else run 4 32 [l0] (aI (a / b) :: st) M := e_idiv d4_31
theorem d4_32 : decode (cod 4) 32 = .ok (.aload_n 0, 1) := by decide +kernel
theorem r4_32 (xg xi : Nat) (st : List AV) (M : Mm) : run 4 32 [aR xg 2 xi] st M = run 4 33 [aR xg 2 xi] (aR xg 2 xi :: st) M := e_aldn d4_32 rfl
theorem d4_33 : decode (cod 4) 33 = .ok (.getfield 27, 3) := by decide +kernel
theorem r4_33 (l0 : AV) (xg xi : Nat) (st : List AV) (M : Mm) : run 4 33 [l0] (aR xg 2 xi :: st) M = run 4 36 [l0] (aI (M xg 2 xi 5) :: st) M := e_gfi d4_33 rfl rfl rfl
theorem d4_36 : decode (cod 4) 36 = .ok (.aload_n 0, 1) := by decide +kernel
theorem r4_36 (xg xi : Nat) (st : List AV) (M : Mm) : run 4 36 [aR xg 2 xi] st M = run 4 37 [aR xg 2 xi] (aR xg 2 xi :: st) M := e_aldn d4_36 rfl
theorem d4_37 : decode (cod 4) 37 = .ok (.getfield 18, 3) := by decide +kernel
theorem r4_37 (l0 : AV) (xg xi : Nat) (st : List AV) (M : Mm) : run 4 37 [l0] (aR xg 2 xi :: st) M = run 4 40 [l0] (aI (M xg 2 xi 2) :: st) M := e_gfi d4_37 rfl rfl rfl
theorem d4_40 : decode (cod 4) 40 = .ok (.idiv, 1) := by decide +kernel
theorem r4_40 (l0 : AV) (a b : Int32) (st : List AV) (M : Mm) : run 4 40 [l0] (aI b :: aI a :: st) M = if b = 0 then none else run 4 41 [l0] (aI (a / b) :: st) M := e_idiv d4_40
theorem d4_41 : decode (cod 4) 41 = .ok (.invokestatic 44, 3) := by decide +kernel
theorem r4_41 (l0 : AV) (a b : Int32) (M : Mm) : run 4 41 [l0] [aI b, aI a] M = run 4 44 [l0] [aI (if b < a then b else a)] M := e_min d4_41 rfl rfl
theorem d4_44 : decode (cod 4) 44 = .ok (.ireturn, 1) := by decide +kernel
theorem r4_44 (l0 : AV) (v : Int32) (M : Mm) : run 4 44 [l0] [aI v] M = some (some v, M) := e_iret d4_44 rfl
theorem c5 (g0 i0 : Nat) (x1 : Int32) (M : Mm) : call 5 [aR g0 2 i0, aI x1] M = run 5 0 [aR g0 2 i0, aI x1, none, none, none] [] M := call_run 5 _ _
theorem d5_0 : decode (cod 5) 0 = .ok (.aload_n 0, 1) := by decide +kernel
theorem r5_0 (l1 l2 l3 l4 : AV) (xg xi : Nat) (st : List AV) (M : Mm) : run 5 0 [aR xg 2 xi, l1, l2, l3, l4] st M = run 5 1 [aR xg 2 xi, l1, l2, l3, l4] (aR xg 2 xi :: st) M := e_aldn d5_0 rfl
theorem d5_1 : decode (cod 5) 1 = .ok (.iload_n 1, 1) := by decide +kernel
theorem r5_1 (l0 l2 l3 l4 : AV) (x : Int32) (st : List AV) (M : Mm) : run 5 1 [l0, aI x, l2, l3, l4] st M = run 5 2 [l0, aI x, l2, l3, l4] (aI x :: st) M := e_ildn d5_1 rfl
theorem d5_2 : decode (cod 5) 2 = .ok (.invokevirtual 49, 3) := by decide +kernel
theorem r5_2 (l0 l1 l2 l3 l4 : AV) (a0g a0i : Nat) (a1 : Int32) (M : Mm) : run 5 2 [l0, l1, l2, l3, l4] [aI a1, aR a0g 2 a0i] M = cbI (call 3 [aR a0g 2 a0i, aI a1] M) (fun v M => run 5 5 [l0, l1, l2, l3, l4] [aI v] M) := call_I (n := 2) rfl false d5_2 rfl rfl rfl rfl rfl rfl rfl
theorem d5_5 : decode (cod 5) 5 = .ok (.istore_n 2, 1) := by decide +kernel
theorem r5_5 (l0 l1 l2 l3 l4 : AV) (x : Int32) (st : List AV) (M : Mm) : run 5 5 [l0, l1, l2, l3, l4] (aI x :: st) M = run 5 6 [l0, l1, aI x, l3, l4] st M := e_istn [l0, l1, aI x, l3, l4] d5_5 rfl rfl
theorem d5_6 : decode (cod 5) 6 = .ok (.aload_n 0, 1) := by decide +kernel
theorem r5_6 (l1 l2 l3 l4 : AV) (xg xi : Nat) (st : List AV) (M : Mm) : run 5 6 [aR xg 2 xi, l1, l2, l3, l4] st M = run 5 7 [aR xg 2 xi, l1, l2, l3, l4] (aR xg 2 xi :: st) M := e_aldn d5_6 rfl
theorem d5_7 : decode (cod 5) 7 = .ok (.getfield 21, 3) := by decide +kernel
theorem r5_7 (l0 l1 l2 l3 l4 : AV) (xg xi : Nat) (st : List AV) (M : Mm) : run 5 7 [l0, l1, l2, l3, l4] (aR xg 2 xi :: st) M = run 5 10 [l0, l1, l2, l3, l4] (aI (M xg 2 xi 3) :: st) M := e_gfi d5_7 rfl rfl rfl
theorem d5_10 : decode (cod 5) 10 = .ok (.iconst 1, 1) := by decide +kernel
theorem r5_10 (l0 l1 l2 l3 l4 : AV) (st : List AV) (M : Mm) : run 5 10 [l0, l1, l2, l3, l4] st M = run 5 11 [l0, l1, l2, l3, l4] (aI 1 :: st) M := e_iconst 1 d5_10 (by decide +kernel)
theorem d5_11 : decode (cod 5) 11 = .ok (.if_icmp .ge 7, 3) := by decide +kernel
theorem r5_11 (l0 l1 l2 l3 l4 : AV) (a b : Int32) (st : List AV) (M : Mm) : run 5 11 [l0, l1, l2, l3, l4] (aI b :: aI a :: st) M = if a < b then run 5 14 [l0, l1, l2, l3, l4] st M else run 5 18 [l0, l1, l2, l3, l4] st M := e_ge2 18 d5_11 (by decide)
theorem d5_14 : decode (cod 5) 14 = .ok (.iconst 0, 1) := by decide +kernel
theorem r5_14 (l0 l1 l2 l3 l4 : AV) (st : List AV) (M : Mm) : run 5 14 [l0, l1, l2, l3, l4] st M = run 5 15 [l0, l1, l2, l3, l4] (aI 0 :: st) M := e_iconst 0 d5_14 (by decide +kernel)
theorem d5_15 : decode (cod 5) 15 = .ok (.goto 12, 3) := by decide +kernel
theorem r5_15 (l0 l1 l2 l3 l4 : AV) (st : List AV) (M : Mm) : run 5 15 [l0, l1, l2, l3, l4] st M = run 5 27 [l0, l1, l2, l3, l4] st M := e_goto 27 d5_15 (by decide)
theorem d5_18 : decode (cod 5) 18 = .ok (.aload_n 0, 1) := by decide +kernel
theorem r5_18 (l1 l2 l3 l4 : AV) (xg xi : Nat) (st : List AV) (M : Mm) : run 5 18 [aR xg 2 xi, l1, l2, l3, l4] st M = run 5 19 [aR xg 2 xi, l1, l2, l3, l4] (aR xg 2 xi :: st) M := e_aldn d5_18 rfl
theorem d5_19 : decode (cod 5) 19 = .ok (.getfield 24, 3) := by decide +kernel
theorem r5_19 (l0 l1 l2 l3 l4 : AV) (xg xi : Nat) (st : List AV) (M : Mm) : run 5 19 [l0, l1, l2, l3, l4] (aR xg 2 xi :: st) M = run 5 22 [l0, l1, l2, l3, l4] (aI (M xg 2 xi 4) :: st) M := e_gfi d5_19 rfl rfl rfl
theorem d5_22 : decode (cod 5) 22 = .ok (.aload_n 0, 1) := by decide +kernel
theorem r5_22 (l1 l2 l3 l4 : AV) (xg xi : Nat) (st : List AV) (M : Mm) : run 5 22 [aR xg 2 xi, l1, l2, l3, l4] st M = run 5 23 [aR xg 2 xi, l1, l2, l3, l4] (aR xg 2 xi :: st) M := e_aldn d5_22 rfl
theorem d5_23 : decode (cod 5) 23 = .ok (.getfield 21, 3) := by decide +kernel
theorem r5_23 (l0 l1 l2 l3 l4 : AV) (xg xi : Nat) (st : List AV) (M : Mm) : run 5 23 [l0, l1, l2, l3, l4] (aR xg 2 xi :: st) M = run 5 26 [l0, l1, l2, l3, l4] (aI (M xg 2 xi 3) :: st) M := e_gfi d5_23 rfl rfl rfl
theorem d5_26 : decode (cod 5) 26 = .ok (.idiv, 1) := by decide +kernel
theorem r5_26 (l0 l1 l2 l3 l4 : AV) (a b : Int32) (st : List AV) (M : Mm) : run 5 26 [l0, l1, l2, l3, l4] (aI b :: aI a :: st) M = if b = 0 then none else run 5 27 [l0, l1, l2, l3, l4] (aI (a / b) :: st) M := e_idiv d5_26
theorem d5_27 : decode (cod 5) 27 = .ok (.istore_n 3, 1) := by decide +kernel
theorem r5_27 (l0 l1 l2 l3 l4 : AV) (x : Int32) (st : List AV) (M : Mm) : run 5 27 [l0, l1, l2, l3, l4] (aI x :: st) M = run 5 28 [l0, l1, l2, aI x, l4] st M := e_istn [l0, l1, l2, aI x, l4] d5_27 rfl rfl
theorem d5_28 : decode (cod 5) 28 = .ok (.iload_n 2, 1) := by decide +kernel
theorem r5_28 (l0 l1 l3 l4 : AV) (x : Int32) (st : List AV) (M : Mm) : run 5 28 [l0, l1, aI x, l3, l4] st M = run 5 29 [l0, l1, aI x, l3, l4] (aI x :: st) M := e_ildn d5_28 rfl
theorem d5_29 : decode (cod 5) 29 = .ok (.iload_n 3, 1) := by decide +kernel
theorem r5_29 (l0 l1 l2 l4 : AV) (x : Int32) (st : List AV) (M : Mm) : run 5 29 [l0, l1, l2, aI x, l4] st M = run 5 30 [l0, l1, l2, aI x, l4] (aI x :: st) M := e_ildn d5_29 rfl
theorem d5_30 : decode (cod 5) 30 = .ok (.aload_n 0, 1) := by decide +kernel
theorem r5_30 (l1 l2 l3 l4 : AV) (xg xi : Nat) (st : List AV) (M : Mm) : run 5 30 [aR xg 2 xi, l1, l2, l3, l4] st M = run 5 31 [aR xg 2 xi, l1, l2, l3, l4] (aR xg 2 xi :: st) M := e_aldn d5_30 rfl
theorem d5_31 : decode (cod 5) 31 = .ok (.getfield 27, 3) := by decide +kernel
theorem r5_31 (l0 l1 l2 l3 l4 : AV) (xg xi : Nat) (st : List AV) (M : Mm) : run 5 31 [l0, l1, l2, l3, l4] (aR xg 2 xi :: st) M = run 5 34 [l0, l1, l2, l3, l4] (aI (M xg 2 xi 5) :: st) M := e_gfi d5_31 rfl rfl rfl
theorem d5_34 : decode (cod 5) 34 = .ok (.invokestatic 44, 3) := by decide +kernel
theorem r5_34 (l0 l1 l2 l3 l4 : AV) (a b : Int32) (t0 : AV) (M : Mm) : run 5 34 [l0, l1, l2, l3, l4] [aI b, aI a, t0] M = run 5 37 [l0, l1, l2, l3, l4] [aI (if b < a then b else a), t0] M := e_min d5_34 rfl rfl
theorem d5_37 : decode (cod 5) 37 = .ok (.invokestatic 44, 3) := by decide +kernel
theorem r5_37 (l0 l1 l2 l3 l4 : AV) (a b : Int32) (M : Mm) : run 5 37 [l0, l1, l2, l3, l4] [aI b, aI a] M = run 5 40 [l0, l1, l2, l3, l4] [aI (if b < a then b else a)] M := e_min d5_37 rfl rfl
theorem d5_40 : decode (cod 5) 40 = .ok (.istore 4, 2) := by decide +kernel
theorem r5_40 (l0 l1 l2 l3 l4 : AV) (x : Int32) (st : List AV) (M : Mm) : run 5 40 [l0, l1, l2, l3, l4] (aI x :: st) M = run 5 42 [l0, l1, l2, l3, aI x] st M := e_ist [l0, l1, l2, l3, aI x] d5_40 rfl rfl
theorem d5_42 : decode (cod 5) 42 = .ok (.iload 4, 2) := by decide +kernel
theorem r5_42 (l0 l1 l2 l3 : AV) (x : Int32) (st : List AV) (M : Mm) : run 5 42 [l0, l1, l2, l3, aI x] st M = run 5 44 [l0, l1, l2, l3, aI x] (aI x :: st) M := e_ild d5_42 rfl
theorem d5_44 : decode (cod 5) 44 = .ok (.iload_n 2, 1) := by decide +kernel
theorem r5_44 (l0 l1 l3 l4 : AV) (x : Int32) (st : List AV) (M : Mm) : run 5 44 [l0, l1, aI x, l3, l4] st M = run 5 45 [l0, l1, aI x, l3, l4] (aI x :: st) M := e_ildn d5_44 rfl
theorem d5_45 : decode (cod 5) 45 = .ok (.if_icmp .ge 13, 3) := by decide +kernel
theorem r5_45 (l0 l1 l2 l3 l4 : AV) (a b : Int32) (st : List AV) (M : Mm) : run 5 45 [l0, l1, l2, l3, l4] (aI b :: aI a :: st) M = if a < b then run 5 48 [l0, l1, l2, l3, l4] st M else run 5 58 [l0, l1, l2, l3, l4] st M := e_ge2 58 d5_45 (by decide)
theorem d5_48 : decode (cod 5) 48 = .ok (.aload_n 0, 1) := by decide +kernel
theorem r5_48 (l1 l2 l3 l4 : AV) (xg xi : Nat) (st : List AV) (M : Mm) : run 5 48 [aR xg 2 xi, l1, l2, l3, l4] st M = run 5 49 [aR xg 2 xi, l1, l2, l3, l4] (aR xg 2 xi :: st) M := e_aldn d5_48 rfl
theorem d5_49 : decode (cod 5) 49 = .ok (.dup, 1) := by decide +kernel
theorem r5_49 (l0 l1 l2 l3 l4 : AV) (xg xi : Nat) (st : List AV) (M : Mm) : run 5 49 [l0, l1, l2, l3, l4] (aR xg 2 xi :: st) M = run 5 50 [l0, l1, l2, l3, l4] (aR xg 2 xi :: aR xg 2 xi :: st) M := e_dup d5_49
theorem d5_50 : decode (cod 5) 50 = .ok (.getfield 30, 3) := by decide +kernel
theorem r5_50 (l0 l1 l2 l3 l4 : AV) (xg xi : Nat) (st : List AV) (M : Mm) : run 5 50 [l0, l1, l2, l3, l4] (aR xg 2 xi :: st) M = run 5 53 [l0, l1, l2, l3, l4] (aI (M xg 2 xi 6) :: st) M := e_gfi d5_50 rfl rfl rfl
theorem d5_53 : decode (cod 5) 53 = .ok (.iconst 1, 1) := by decide +kernel
theorem r5_53 (l0 l1 l2 l3 l4 : AV) (st : List AV) (M : Mm) : run 5 53 [l0, l1, l2, l3, l4] st M = run 5 54 [l0, l1, l2, l3, l4] (aI 1 :: st) M := e_iconst 1 d5_53 (by decide +kernel)
theorem d5_54 : decode (cod 5) 54 = .ok (.iadd, 1) := by decide +kernel
theorem r5_54 (l0 l1 l2 l3 l4 : AV) (a b : Int32) (st : List AV) (M : Mm) : run 5 54 [l0, l1, l2, l3, l4] (aI b :: aI a :: st) M = run 5 55 [l0, l1, l2, l3, l4] (aI (a + b) :: st) M := e_iadd d5_54
theorem d5_55 : decode (cod 5) 55 = .ok (.putfield 30, 3) := by decide +kernel
theorem r5_55 (l0 l1 l2 l3 l4 : AV) (v : Int32) (xg xi : Nat) (st : List AV) (M : Mm) : run 5 55 [l0, l1, l2, l3, l4] (aI v :: aR xg 2 xi :: st) M = run 5 58 [l0, l1, l2, l3, l4] st (wr M xg 2 xi 6 v) := e_pfi d5_55 rfl rfl rfl rfl
theorem d5_58 : decode (cod 5) 58 = .ok (.iload_n 3, 1) := by decide +kernel
theorem r5_58 (l0 l1 l2 l4 : AV) (x : Int32) (st : List AV) (M : Mm) : run 5 58 [l0, l1, l2, aI x, l4] st M = run 5 59 [l0, l1, l2, aI x, l4] (aI x :: st) M := e_ildn d5_58 rfl
theorem d5_59 : decode (cod 5) 59 = .ok (.iload_n 2, 1) := by decide +kernel
theorem r5_59 (l0 l1 l3 l4 : AV) (x : Int32) (st : List AV) (M : Mm) : run 5 59 [l0, l1, aI x, l3, l4] st M = run 5 60 [l0, l1, aI x, l3, l4] (aI x :: st) M := e_ildn d5_59 rfl
theorem d5_60 : decode (cod 5) 60 = .ok (.if_icmp .ge 13, 3) := by decide +kernel
theorem r5_60 (l0 l1 l2 l3 l4 : AV) (a b : Int32) (st : List AV) (M : Mm) : run 5 60 [l0, l1, l2, l3, l4] (aI b :: aI a :: st) M = if a < b then run 5 63 [l0, l1, l2, l3, l4] st M else run 5 73 [l0, l1, l2, l3, l4] st M := e_ge2 73 d5_60 (by decide)
theorem d5_63 : decode (cod 5) 63 = .ok (.aload_n 0, 1) := by decide +kernel
theorem r5_63 (l1 l2 l3 l4 : AV) (xg xi : Nat) (st : List AV) (M : Mm) : run 5 63 [aR xg 2 xi, l1, l2, l3, l4] st M = run 5 64 [aR xg 2 xi, l1, l2, l3, l4] (aR xg 2 xi :: st) M := e_aldn d5_63 rfl
theorem d5_64 : decode (cod 5) 64 = .ok (.dup, 1) := by decide +kernel
theorem r5_64 (l0 l1 l2 l3 l4 : AV) (xg xi : Nat) (st : List AV) (M : Mm) : run 5 64 [l0, l1, l2, l3, l4] (aR xg 2 xi :: st) M = run 5 65 [l0, l1, l2, l3, l4] (aR xg 2 xi :: aR xg 2 xi :: st) M := e_dup d5_64
theorem d5_65 : decode (cod 5) 65 = .ok (.getfield 33, 3) := by decide +kernel
theorem r5_65 (l0 l1 l2 l3 l4 : AV) (xg xi : Nat) (st : List AV) (M : Mm) : run 5 65 [l0, l1, l2, l3, l4] (aR xg 2 xi :: st) M = run 5 68 [l0, l1, l2, l3, l4] (aI (M xg 2 xi 7) :: st) M := e_gfi d5_65 rfl rfl rfl
theorem d5_68 : decode (cod 5) 68 = .ok (.iconst 1, 1) := by decide +kernel
theorem r5_68 (l0 l1 l2 l3 l4 : AV) (st : List AV) (M : Mm) : run 5 68 [l0, l1, l2, l3, l4] st M = run 5 69 [l0, l1, l2, l3, l4] (aI 1 :: st) M := e_iconst 1 d5_68 (by decide +kernel)
theorem d5_69 : decode (cod 5) 69 = .ok (.iadd, 1) := by decide +kernel
theorem r5_69 (l0 l1 l2 l3 l4 : AV) (a b : Int32) (st : List AV) (M : Mm) : run 5 69 [l0, l1, l2, l3, l4] (aI b :: aI a :: st) M = run 5 70 [l0, l1, l2, l3, l4] (aI (a + b) :: st) M := e_iadd d5_69
theorem d5_70 : decode (cod 5) 70 = .ok (.putfield 33, 3) := by decide +kernel
theorem r5_70 (l0 l1 l2 l3 l4 : AV) (v : Int32) (xg xi : Nat) (st : List AV) (M : Mm) : run 5 70 [l0, l1, l2, l3, l4] (aI v :: aR xg 2 xi :: st) M = run 5 73 [l0, l1, l2, l3, l4] st (wr M xg 2 xi 7 v) := e_pfi d5_70 rfl rfl rfl rfl
theorem d5_73 : decode (cod 5) 73 = .ok (.aload_n 0, 1) := by decide +kernel
theorem r5_73 (l1 l2 l3 l4 : AV) (xg xi : Nat) (st : List AV) (M : Mm) : run 5 73 [aR xg 2 xi, l1, l2, l3, l4] st M = run 5 74 [aR xg 2 xi, l1, l2, l3, l4] (aR xg 2 xi :: st) M := e_aldn d5_73 rfl
theorem d5_74 : decode (cod 5) 74 = .ok (.dup, 1) := by decide +kernel
theorem r5_74 (l0 l1 l2 l3 l4 : AV) (xg xi : Nat) (st : List AV) (M : Mm) : run 5 74 [l0, l1, l2, l3, l4] (aR xg 2 xi :: st) M = run 5 75 [l0, l1, l2, l3, l4] (aR xg 2 xi :: aR xg 2 xi :: st) M := e_dup d5_74
theorem d5_75 : decode (cod 5) 75 = .ok (.getfield 24, 3) := by decide +kernel
theorem r5_75 (l0 l1 l2 l3 l4 : AV) (xg xi : Nat) (st : List AV) (M : Mm) : run 5 75 [l0, l1, l2, l3, l4] (aR xg 2 xi :: st) M = run 5 78 [l0, l1, l2, l3, l4] (aI (M xg 2 xi 4) :: st) M := e_gfi d5_75 rfl rfl rfl
theorem d5_78 : decode (cod 5) 78 = .ok (.iload 4, 2) := by decide +kernel
theorem r5_78 (l0 l1 l2 l3 : AV) (x : Int32) (st : List AV) (M : Mm) : run 5 78 [l0, l1, l2, l3, aI x] st M = run 5 80 [l0, l1, l2, l3, aI x] (aI x :: st) M := e_ild d5_78 rfl
theorem d5_80 : decode (cod 5) 80 = .ok (.aload_n 0, 1) := by decide +kernel
theorem r5_80 (l1 l2 l3 l4 : AV) (xg xi : Nat) (st : List AV) (M : Mm) : run 5 80 [aR xg 2 xi, l1, l2, l3, l4] st M = run 5 81 [aR xg 2 xi, l1, l2, l3, l4] (aR xg 2 xi :: st) M := e_aldn d5_80 rfl
theorem d5_81 : decode (cod 5) 81 = .ok (.getfield 21, 3) := by decide +kernel
theorem r5_81 (l0 l1 l2 l3 l4 : AV) (xg xi : Nat) (st : List AV) (M : Mm) : run 5 81 [l0, l1, l2, l3, l4] (aR xg 2 xi :: st) M = run 5 84 [l0, l1, l2, l3, l4] (aI (M xg 2 xi 3) :: st) M := e_gfi d5_81 rfl rfl rfl
theorem d5_84 : decode (cod 5) 84 = .ok (.imul, 1) := by decide +kernel
theorem r5_84 (l0 l1 l2 l3 l4 : AV) (a b : Int32) (st : List AV) (M : Mm) : run 5 84 [l0, l1, l2, l3, l4] (aI b :: aI a :: st) M = run 5 85 [l0, l1, l2, l3, l4] (aI (a * b) :: st) M := e_imul d5_84
theorem d5_85 : decode (cod 5) 85 = .ok (.isub, 1) := by decide +kernel
theorem r5_85 (l0 l1 l2 l3 l4 : AV) (a b : Int32) (st : List AV) (M : Mm) : run 5 85 [l0, l1, l2, l3, l4] (aI b :: aI a :: st) M = run 5 86 [l0, l1, l2, l3, l4] (aI (a - b) :: st) M := e_isub d5_85
theorem d5_86 : decode (cod 5) 86 = .ok (.putfield 24, 3) := by decide +kernel
theorem r5_86 (l0 l1 l2 l3 l4 : AV) (v : Int32) (xg xi : Nat) (st : List AV) (M : Mm) : run 5 86 [l0, l1, l2, l3, l4] (aI v :: aR xg 2 xi :: st) M = run 5 89 [l0, l1, l2, l3, l4] st (wr M xg 2 xi 4 v) := e_pfi d5_86 rfl rfl rfl rfl
theorem d5_89 : decode (cod 5) 89 = .ok (.aload_n 0, 1) := by decide +kernel
theorem r5_89 (l1 l2 l3 l4 : AV) (xg xi : Nat) (st : List AV) (M : Mm) : run 5 89 [aR xg 2 xi, l1, l2, l3, l4] st M = run 5 90 [aR xg 2 xi, l1, l2, l3, l4] (aR xg 2 xi :: st) M := e_aldn d5_89 rfl
theorem d5_90 : decode (cod 5) 90 = .ok (.dup, 1) := by decide +kernel
theorem r5_90 (l0 l1 l2 l3 l4 : AV) (xg xi : Nat) (st : List AV) (M : Mm) : run 5 90 [l0, l1, l2, l3, l4] (aR xg 2 xi :: st) M = run 5 91 [l0, l1, l2, l3, l4] (aR xg 2 xi :: aR xg 2 xi :: st) M := e_dup d5_90
theorem d5_91 : decode (cod 5) 91 = .ok (.getfield 27, 3) := by decide +kernel
theorem r5_91 (l0 l1 l2 l3 l4 : AV) (xg xi : Nat) (st : List AV) (M : Mm) : run 5 91 [l0, l1, l2, l3, l4] (aR xg 2 xi :: st) M = run 5 94 [l0, l1, l2, l3, l4] (aI (M xg 2 xi 5) :: st) M := e_gfi d5_91 rfl rfl rfl
theorem d5_94 : decode (cod 5) 94 = .ok (.iload 4, 2) := by decide +kernel
theorem r5_94 (l0 l1 l2 l3 : AV) (x : Int32) (st : List AV) (M : Mm) : run 5 94 [l0, l1, l2, l3, aI x] st M = run 5 96 [l0, l1, l2, l3, aI x] (aI x :: st) M := e_ild d5_94 rfl
theorem d5_96 : decode (cod 5) 96 = .ok (.isub, 1) := by decide +kernel
theorem r5_96 (l0 l1 l2 l3 l4 : AV) (a b : Int32) (st : List AV) (M : Mm) : run 5 96 [l0, l1, l2, l3, l4] (aI b :: aI a :: st) M = run 5 97 [l0, l1, l2, l3, l4] (aI (a - b) :: st) M := e_isub d5_96
theorem d5_97 : decode (cod 5) 97 = .ok (.putfield 27, 3) := by decide +kernel
theorem r5_97 (l0 l1 l2 l3 l4 : AV) (v : Int32) (xg xi : Nat) (st : List AV) (M : Mm) : run 5 97 [l0, l1, l2, l3, l4] (aI v :: aR xg 2 xi :: st) M = run 5 100 [l0, l1, l2, l3, l4] st (wr M xg 2 xi 5 v) := e_pfi d5_97 rfl rfl rfl rfl
theorem d5_100 : decode (cod 5) 100 = .ok (.iload 4, 2) := by decide +kernel
theorem r5_100 (l0 l1 l2 l3 : AV) (x : Int32) (st : List AV) (M : Mm) : run 5 100 [l0, l1, l2, l3, aI x] st M = run 5 102 [l0, l1, l2, l3, aI x] (aI x :: st) M := e_ild d5_100 rfl
theorem d5_102 : decode (cod 5) 102 = .ok (.ireturn, 1) := by decide +kernel
theorem r5_102 (l0 l1 l2 l3 l4 : AV) (v : Int32) (M : Mm) : run 5 102 [l0, l1, l2, l3, l4] [aI v] M = some (some v, M) := e_iret d5_102 rfl
theorem c6 (g0 i0 : Nat) (x1 : Int32) (M : Mm) : call 6 [aR g0 2 i0, aI x1] M = run 6 0 [aR g0 2 i0, aI x1, none] [] M := call_run 6 _ _
theorem d6_0 : decode (cod 6) 0 = .ok (.aload_n 0, 1) := by decide +kernel
theorem r6_0 (l1 l2 : AV) (xg xi : Nat) (st : List AV) (M : Mm) : run 6 0 [aR xg 2 xi, l1, l2] st M = run 6 1 [aR xg 2 xi, l1, l2] (aR xg 2 xi :: st) M := e_aldn d6_0 rfl
theorem d6_1 : decode (cod 6) 1 = .ok (.getfield 24, 3) := by decide +kernel
theorem r6_1 (l0 l1 l2 : AV) (xg xi : Nat) (st : List AV) (M : Mm) : run 6 1 [l0, l1, l2] (aR xg 2 xi :: st) M = run 6 4 [l0, l1, l2] (aI (M xg 2 xi 4) :: st) M := e_gfi d6_1 rfl rfl rfl
theorem d6_4 : decode (cod 6) 4 = .ok (.iload_n 1, 1) := by decide +kernel
theorem r6_4 (l0 l2 : AV) (x : Int32) (st : List AV) (M : Mm) : run 6 4 [l0, aI x, l2] st M = run 6 5 [l0, aI x, l2] (aI x :: st) M := e_ildn d6_4 rfl
theorem d6_5 : decode (cod 6) 5 = .ok (.iadd, 1) := by decide +kernel
theorem r6_5 (l0 l1 l2 : AV) (a b : Int32) (st : List AV) (M : Mm) : run 6 5 [l0, l1, l2] (aI b :: aI a :: st) M = run 6 6 [l0, l1, l2] (aI (a + b) :: st) M := e_iadd d6_5
theorem d6_6 : decode (cod 6) 6 = .ok (.istore_n 2, 1) := by decide +kernel
theorem r6_6 (l0 l1 l2 : AV) (x : Int32) (st : List AV) (M : Mm) : run 6 6 [l0, l1, l2] (aI x :: st) M = run 6 7 [l0, l1, aI x] st M := e_istn [l0, l1, aI x] d6_6 rfl rfl
theorem d6_7 : decode (cod 6) 7 = .ok (.aload_n 0, 1) := by decide +kernel
theorem r6_7 (l1 l2 : AV) (xg xi : Nat) (st : List AV) (M : Mm) : run 6 7 [aR xg 2 xi, l1, l2] st M = run 6 8 [aR xg 2 xi, l1, l2] (aR xg 2 xi :: st) M := e_aldn d6_7 rfl
theorem d6_8 : decode (cod 6) 8 = .ok (.iload_n 2, 1) := by decide +kernel
theorem r6_8 (l0 l1 : AV) (x : Int32) (st : List AV) (M : Mm) : run 6 8 [l0, l1, aI x] st M = run 6 9 [l0, l1, aI x] (aI x :: st) M := e_ildn d6_8 rfl
theorem d6_9 : decode (cod 6) 9 = .ok (.bipush 60, 2) := by decide +kernel
theorem r6_9 (l0 l1 l2 : AV) (st : List AV) (M : Mm) : run 6 9 [l0, l1, l2] st M = run 6 11 [l0, l1, l2] (aI 60 :: st) M := e_bipush 60 d6_9 (by decide +kernel)
theorem d6_11 : decode (cod 6) 11 = .ok (.invokestatic 44, 3) := by decide +kernel
theorem r6_11 (l0 l1 l2 : AV) (a b : Int32) (t0 : AV) (M : Mm) : run 6 11 [l0, l1, l2] [aI b, aI a, t0] M = run 6 14 [l0, l1, l2] [aI (if b < a then b else a), t0] M := e_min d6_11 rfl rfl
theorem d6_14 : decode (cod 6) 14 = .ok (.putfield 24, 3) := by decide +kernel
theorem r6_14 (l0 l1 l2 : AV) (v : Int32) (xg xi : Nat) (st : List AV) (M : Mm) : run 6 14 [l0, l1, l2] (aI v :: aR xg 2 xi :: st) M = run 6 17 [l0, l1, l2] st (wr M xg 2 xi 4 v) := e_pfi d6_14 rfl rfl rfl rfl
theorem d6_17 : decode (cod 6) 17 = .ok (.iload_n 2, 1) := by decide +kernel
theorem r6_17 (l0 l1 : AV) (x : Int32) (st : List AV) (M : Mm) : run 6 17 [l0, l1, aI x] st M = run 6 18 [l0, l1, aI x] (aI x :: st) M := e_ildn d6_17 rfl
theorem d6_18 : decode (cod 6) 18 = .ok (.aload_n 0, 1) := by decide +kernel
theorem r6_18 (l1 l2 : AV) (xg xi : Nat) (st : List AV) (M : Mm) : run 6 18 [aR xg 2 xi, l1, l2] st M = run 6 19 [aR xg 2 xi, l1, l2] (aR xg 2 xi :: st) M := e_aldn d6_18 rfl
theorem d6_19 : decode (cod 6) 19 = .ok (.getfield 24, 3) := by decide +kernel
theorem r6_19 (l0 l1 l2 : AV) (xg xi : Nat) (st : List AV) (M : Mm) : run 6 19 [l0, l1, l2] (aR xg 2 xi :: st) M = run 6 22 [l0, l1, l2] (aI (M xg 2 xi 4) :: st) M := e_gfi d6_19 rfl rfl rfl
theorem d6_22 : decode (cod 6) 22 = .ok (.isub, 1) := by decide +kernel
theorem r6_22 (l0 l1 l2 : AV) (a b : Int32) (st : List AV) (M : Mm) : run 6 22 [l0, l1, l2] (aI b :: aI a :: st) M = run 6 23 [l0, l1, l2] (aI (a - b) :: st) M := e_isub d6_22
theorem d6_23 : decode (cod 6) 23 = .ok (.ireturn, 1) := by decide +kernel
theorem r6_23 (l0 l1 l2 : AV) (v : Int32) (M : Mm) : run 6 23 [l0, l1, l2] [aI v] M = some (some v, M) := e_iret d6_23 rfl
theorem c7 (g0 i0 : Nat) (x1 : Int32) (M : Mm) : call 7 [aR g0 2 i0, aI x1] M = run 7 0 [aR g0 2 i0, aI x1, none] [] M := call_run 7 _ _
theorem d7_0 : decode (cod 7) 0 = .ok (.aload_n 0, 1) := by decide +kernel
theorem r7_0 (l1 l2 : AV) (xg xi : Nat) (st : List AV) (M : Mm) : run 7 0 [aR xg 2 xi, l1, l2] st M = run 7 1 [aR xg 2 xi, l1, l2] (aR xg 2 xi :: st) M := e_aldn d7_0 rfl
theorem d7_1 : decode (cod 7) 1 = .ok (.getfield 27, 3) := by decide +kernel
theorem r7_1 (l0 l1 l2 : AV) (xg xi : Nat) (st : List AV) (M : Mm) : run 7 1 [l0, l1, l2] (aR xg 2 xi :: st) M = run 7 4 [l0, l1, l2] (aI (M xg 2 xi 5) :: st) M := e_gfi d7_1 rfl rfl rfl
theorem d7_4 : decode (cod 7) 4 = .ok (.iload_n 1, 1) := by decide +kernel
theorem r7_4 (l0 l2 : AV) (x : Int32) (st : List AV) (M : Mm) : run 7 4 [l0, aI x, l2] st M = run 7 5 [l0, aI x, l2] (aI x :: st) M := e_ildn d7_4 rfl
theorem d7_5 : decode (cod 7) 5 = .ok (.iadd, 1) := by decide +kernel
theorem r7_5 (l0 l1 l2 : AV) (a b : Int32) (st : List AV) (M : Mm) : run 7 5 [l0, l1, l2] (aI b :: aI a :: st) M = run 7 6 [l0, l1, l2] (aI (a + b) :: st) M := e_iadd d7_5
theorem d7_6 : decode (cod 7) 6 = .ok (.istore_n 2, 1) := by decide +kernel
theorem r7_6 (l0 l1 l2 : AV) (x : Int32) (st : List AV) (M : Mm) : run 7 6 [l0, l1, l2] (aI x :: st) M = run 7 7 [l0, l1, aI x] st M := e_istn [l0, l1, aI x] d7_6 rfl rfl
theorem d7_7 : decode (cod 7) 7 = .ok (.aload_n 0, 1) := by decide +kernel
theorem r7_7 (l1 l2 : AV) (xg xi : Nat) (st : List AV) (M : Mm) : run 7 7 [aR xg 2 xi, l1, l2] st M = run 7 8 [aR xg 2 xi, l1, l2] (aR xg 2 xi :: st) M := e_aldn d7_7 rfl
theorem d7_8 : decode (cod 7) 8 = .ok (.iload_n 2, 1) := by decide +kernel
theorem r7_8 (l0 l1 : AV) (x : Int32) (st : List AV) (M : Mm) : run 7 8 [l0, l1, aI x] st M = run 7 9 [l0, l1, aI x] (aI x :: st) M := e_ildn d7_8 rfl
theorem d7_9 : decode (cod 7) 9 = .ok (.sipush 240, 3) := by decide +kernel
theorem r7_9 (l0 l1 l2 : AV) (st : List AV) (M : Mm) : run 7 9 [l0, l1, l2] st M = run 7 12 [l0, l1, l2] (aI 240 :: st) M := e_sipush 240 d7_9 (by decide +kernel)
theorem d7_12 : decode (cod 7) 12 = .ok (.invokestatic 44, 3) := by decide +kernel
theorem r7_12 (l0 l1 l2 : AV) (a b : Int32) (t0 : AV) (M : Mm) : run 7 12 [l0, l1, l2] [aI b, aI a, t0] M = run 7 15 [l0, l1, l2] [aI (if b < a then b else a), t0] M := e_min d7_12 rfl rfl
theorem d7_15 : decode (cod 7) 15 = .ok (.putfield 27, 3) := by decide +kernel
theorem r7_15 (l0 l1 l2 : AV) (v : Int32) (xg xi : Nat) (st : List AV) (M : Mm) : run 7 15 [l0, l1, l2] (aI v :: aR xg 2 xi :: st) M = run 7 18 [l0, l1, l2] st (wr M xg 2 xi 5 v) := e_pfi d7_15 rfl rfl rfl rfl
theorem d7_18 : decode (cod 7) 18 = .ok (.iload_n 2, 1) := by decide +kernel
theorem r7_18 (l0 l1 : AV) (x : Int32) (st : List AV) (M : Mm) : run 7 18 [l0, l1, aI x] st M = run 7 19 [l0, l1, aI x] (aI x :: st) M := e_ildn d7_18 rfl
theorem d7_19 : decode (cod 7) 19 = .ok (.aload_n 0, 1) := by decide +kernel
theorem r7_19 (l1 l2 : AV) (xg xi : Nat) (st : List AV) (M : Mm) : run 7 19 [aR xg 2 xi, l1, l2] st M = run 7 20 [aR xg 2 xi, l1, l2] (aR xg 2 xi :: st) M := e_aldn d7_19 rfl
theorem d7_20 : decode (cod 7) 20 = .ok (.getfield 27, 3) := by decide +kernel
theorem r7_20 (l0 l1 l2 : AV) (xg xi : Nat) (st : List AV) (M : Mm) : run 7 20 [l0, l1, l2] (aR xg 2 xi :: st) M = run 7 23 [l0, l1, l2] (aI (M xg 2 xi 5) :: st) M := e_gfi d7_20 rfl rfl rfl
theorem d7_23 : decode (cod 7) 23 = .ok (.isub, 1) := by decide +kernel
theorem r7_23 (l0 l1 l2 : AV) (a b : Int32) (st : List AV) (M : Mm) : run 7 23 [l0, l1, l2] (aI b :: aI a :: st) M = run 7 24 [l0, l1, l2] (aI (a - b) :: st) M := e_isub d7_23
theorem d7_24 : decode (cod 7) 24 = .ok (.ireturn, 1) := by decide +kernel
theorem r7_24 (l0 l1 l2 : AV) (v : Int32) (M : Mm) : run 7 24 [l0, l1, l2] [aI v] M = some (some v, M) := e_iret d7_24 rfl
theorem c8 (g0 i0 : Nat) (g1 i1 : Nat) (M : Mm) : call 8 [aR g0 4 i0, aR g1 4 i1] M = run 8 0 [aR g0 4 i0, aR g1 4 i1] [] M := call_run 8 _ _
theorem d8_0 : decode (cod 8) 0 = .ok (.aload_n 0, 1) := by decide +kernel
theorem r8_0 (l1 : AV) (xg xi : Nat) (st : List AV) (M : Mm) : run 8 0 [aR xg 4 xi, l1] st M = run 8 1 [aR xg 4 xi, l1] (aR xg 4 xi :: st) M := e_aldn d8_0 rfl
theorem d8_1 : decode (cod 8) 1 = .ok (.aload_n 1, 1) := by decide +kernel
theorem r8_1 (l0 : AV) (xg xi : Nat) (st : List AV) (M : Mm) : run 8 1 [l0, aR xg 4 xi] st M = run 8 2 [l0, aR xg 4 xi] (aR xg 4 xi :: st) M := e_aldn d8_1 rfl
theorem d8_2 : decode (cod 8) 2 = .ok (.getfield 11, 3) := by decide +kernel
theorem r8_2 (l0 l1 : AV) (xg xi : Nat) (st : List AV) (M : Mm) : run 8 2 [l0, l1] (aR xg 4 xi :: st) M = run 8 5 [l0, l1] (aI (M xg 4 xi 0) :: st) M := e_gfi d8_2 rfl rfl rfl
theorem d8_5 : decode (cod 8) 5 = .ok (.putfield 11, 3) := by decide +kernel
theorem r8_5 (l0 l1 : AV) (v : Int32) (xg xi : Nat) (st : List AV) (M : Mm) : run 8 5 [l0, l1] (aI v :: aR xg 4 xi :: st) M = run 8 8 [l0, l1] st (wr M xg 4 xi 0 v) := e_pfi d8_5 rfl rfl rfl rfl
theorem d8_8 : decode (cod 8) 8 = .ok (.aload_n 0, 1) := by decide +kernel
theorem r8_8 (l1 : AV) (xg xi : Nat) (st : List AV) (M : Mm) : run 8 8 [aR xg 4 xi, l1] st M = run 8 9 [aR xg 4 xi, l1] (aR xg 4 xi :: st) M := e_aldn d8_8 rfl
theorem d8_9 : decode (cod 8) 9 = .ok (.aload_n 1, 1) := by decide +kernel
theorem r8_9 (l0 : AV) (xg xi : Nat) (st : List AV) (M : Mm) : run 8 9 [l0, aR xg 4 xi] st M = run 8 10 [l0, aR xg 4 xi] (aR xg 4 xi :: st) M := e_aldn d8_9 rfl
theorem d8_10 : decode (cod 8) 10 = .ok (.getfield 15, 3) := by decide +kernel
theorem r8_10 (l0 l1 : AV) (xg xi : Nat) (st : List AV) (M : Mm) : run 8 10 [l0, l1] (aR xg 4 xi :: st) M = run 8 13 [l0, l1] (aI (M xg 4 xi 1) :: st) M := e_gfi d8_10 rfl rfl rfl
theorem d8_13 : decode (cod 8) 13 = .ok (.putfield 15, 3) := by decide +kernel
theorem r8_13 (l0 l1 : AV) (v : Int32) (xg xi : Nat) (st : List AV) (M : Mm) : run 8 13 [l0, l1] (aI v :: aR xg 4 xi :: st) M = run 8 16 [l0, l1] st (wr M xg 4 xi 1 v) := e_pfi d8_13 rfl rfl rfl rfl
theorem d8_16 : decode (cod 8) 16 = .ok (.aload_n 0, 1) := by decide +kernel
theorem r8_16 (l1 : AV) (xg xi : Nat) (st : List AV) (M : Mm) : run 8 16 [aR xg 4 xi, l1] st M = run 8 17 [aR xg 4 xi, l1] (aR xg 4 xi :: st) M := e_aldn d8_16 rfl
theorem d8_17 : decode (cod 8) 17 = .ok (.aload_n 1, 1) := by decide +kernel
theorem r8_17 (l0 : AV) (xg xi : Nat) (st : List AV) (M : Mm) : run 8 17 [l0, aR xg 4 xi] st M = run 8 18 [l0, aR xg 4 xi] (aR xg 4 xi :: st) M := e_aldn d8_17 rfl
theorem d8_18 : decode (cod 8) 18 = .ok (.getfield 18, 3) := by decide +kernel
theorem r8_18 (l0 l1 : AV) (xg xi : Nat) (st : List AV) (M : Mm) : run 8 18 [l0, l1] (aR xg 4 xi :: st) M = run 8 21 [l0, l1] (aI (M xg 4 xi 2) :: st) M := e_gfi d8_18 rfl rfl rfl
theorem d8_21 : decode (cod 8) 21 = .ok (.putfield 18, 3) := by decide +kernel
theorem r8_21 (l0 l1 : AV) (v : Int32) (xg xi : Nat) (st : List AV) (M : Mm) : run 8 21 [l0, l1] (aI v :: aR xg 4 xi :: st) M = run 8 24 [l0, l1] st (wr M xg 4 xi 2 v) := e_pfi d8_21 rfl rfl rfl rfl
theorem d8_24 : decode (cod 8) 24 = .ok (.aload_n 0, 1) := by decide +kernel
theorem r8_24 (l1 : AV) (xg xi : Nat) (st : List AV) (M : Mm) : run 8 24 [aR xg 4 xi, l1] st M = run 8 25 [aR xg 4 xi, l1] (aR xg 4 xi :: st) M := e_aldn d8_24 rfl
theorem d8_25 : decode (cod 8) 25 = .ok (.aload_n 1, 1) := by decide +kernel
theorem r8_25 (l0 : AV) (xg xi : Nat) (st : List AV) (M : Mm) : run 8 25 [l0, aR xg 4 xi] st M = run 8 26 [l0, aR xg 4 xi] (aR xg 4 xi :: st) M := e_aldn d8_25 rfl
theorem d8_26 : decode (cod 8) 26 = .ok (.getfield 21, 3) := by decide +kernel
theorem r8_26 (l0 l1 : AV) (xg xi : Nat) (st : List AV) (M : Mm) : run 8 26 [l0, l1] (aR xg 4 xi :: st) M = run 8 29 [l0, l1] (aI (M xg 4 xi 3) :: st) M := e_gfi d8_26 rfl rfl rfl
theorem d8_29 : decode (cod 8) 29 = .ok (.putfield 21, 3) := by decide +kernel
theorem r8_29 (l0 l1 : AV) (v : Int32) (xg xi : Nat) (st : List AV) (M : Mm) : run 8 29 [l0, l1] (aI v :: aR xg 4 xi :: st) M = if v = 0 ∨ v = 1 then run 8 32 [l0, l1] st (wr M xg 4 xi 3 v) else none := e_pfz d8_29 rfl rfl rfl rfl
theorem d8_32 : decode (cod 8) 32 = .ok (.return_, 1) := by decide +kernel
theorem r8_32 (l0 l1 : AV) (M : Mm) : run 8 32 [l0, l1] [] M = some (none, M) := e_vret d8_32 rfl
theorem c9 (g0 i0 : Nat) (x1 : Int32) (x2 : Int32) (M : Mm) : call 9 [aR g0 4 i0, aI x1, aI x2] M = run 9 0 [aR g0 4 i0, aI x1, aI x2] [] M := call_run 9 _ _
theorem d9_0 : decode (cod 9) 0 = .ok (.aload_n 0, 1) := by decide +kernel
theorem r9_0 (l1 l2 : AV) (xg xi : Nat) (st : List AV) (M : Mm) : run 9 0 [aR xg 4 xi, l1, l2] st M = run 9 1 [aR xg 4 xi, l1, l2] (aR xg 4 xi :: st) M := e_aldn d9_0 rfl
theorem d9_1 : decode (cod 9) 1 = .ok (.iload_n 1, 1) := by decide +kernel
theorem r9_1 (l0 l2 : AV) (x : Int32) (st : List AV) (M : Mm) : run 9 1 [l0, aI x, l2] st M = run 9 2 [l0, aI x, l2] (aI x :: st) M := e_ildn d9_1 rfl
theorem d9_2 : decode (cod 9) 2 = .ok (.putfield 11, 3) := by decide +kernel
theorem r9_2 (l0 l1 l2 : AV) (v : Int32) (xg xi : Nat) (st : List AV) (M : Mm) : run 9 2 [l0, l1, l2] (aI v :: aR xg 4 xi :: st) M = run 9 5 [l0, l1, l2] st (wr M xg 4 xi 0 v) := e_pfi d9_2 rfl rfl rfl rfl
theorem d9_5 : decode (cod 9) 5 = .ok (.aload_n 0, 1) := by decide +kernel
theorem r9_5 (l1 l2 : AV) (xg xi : Nat) (st : List AV) (M : Mm) : run 9 5 [aR xg 4 xi, l1, l2] st M = run 9 6 [aR xg 4 xi, l1, l2] (aR xg 4 xi :: st) M := e_aldn d9_5 rfl
theorem d9_6 : decode (cod 9) 6 = .ok (.iload_n 2, 1) := by decide +kernel
theorem r9_6 (l0 l1 : AV) (x : Int32) (st : List AV) (M : Mm) : run 9 6 [l0, l1, aI x] st M = run 9 7 [l0, l1, aI x] (aI x :: st) M := e_ildn d9_6 rfl
theorem d9_7 : decode (cod 9) 7 = .ok (.putfield 15, 3) := by decide +kernel
theorem r9_7 (l0 l1 l2 : AV) (v : Int32) (xg xi : Nat) (st : List AV) (M : Mm) : run 9 7 [l0, l1, l2] (aI v :: aR xg 4 xi :: st) M = run 9 10 [l0, l1, l2] st (wr M xg 4 xi 1 v) := e_pfi d9_7 rfl rfl rfl rfl
theorem d9_10 : decode (cod 9) 10 = .ok (.aload_n 0, 1) := by decide +kernel
theorem r9_10 (l1 l2 : AV) (xg xi : Nat) (st : List AV) (M : Mm) : run 9 10 [aR xg 4 xi, l1, l2] st M = run 9 11 [aR xg 4 xi, l1, l2] (aR xg 4 xi :: st) M := e_aldn d9_10 rfl
theorem d9_11 : decode (cod 9) 11 = .ok (.bipush (-9), 2) := by decide +kernel
theorem r9_11 (l0 l1 l2 : AV) (st : List AV) (M : Mm) : run 9 11 [l0, l1, l2] st M = run 9 13 [l0, l1, l2] (aI (-9) :: st) M := e_bipush (-9) d9_11 (by decide +kernel)
theorem d9_13 : decode (cod 9) 13 = .ok (.putfield 18, 3) := by decide +kernel
theorem r9_13 (l0 l1 l2 : AV) (v : Int32) (xg xi : Nat) (st : List AV) (M : Mm) : run 9 13 [l0, l1, l2] (aI v :: aR xg 4 xi :: st) M = run 9 16 [l0, l1, l2] st (wr M xg 4 xi 2 v) := e_pfi d9_13 rfl rfl rfl rfl
theorem d9_16 : decode (cod 9) 16 = .ok (.aload_n 0, 1) := by decide +kernel
theorem r9_16 (l1 l2 : AV) (xg xi : Nat) (st : List AV) (M : Mm) : run 9 16 [aR xg 4 xi, l1, l2] st M = run 9 17 [aR xg 4 xi, l1, l2] (aR xg 4 xi :: st) M := e_aldn d9_16 rfl
theorem d9_17 : decode (cod 9) 17 = .ok (.iconst 0, 1) := by decide +kernel
theorem r9_17 (l0 l1 l2 : AV) (st : List AV) (M : Mm) : run 9 17 [l0, l1, l2] st M = run 9 18 [l0, l1, l2] (aI 0 :: st) M := e_iconst 0 d9_17 (by decide +kernel)
theorem d9_18 : decode (cod 9) 18 = .ok (.putfield 21, 3) := by decide +kernel
theorem r9_18 (l0 l1 l2 : AV) (v : Int32) (xg xi : Nat) (st : List AV) (M : Mm) : run 9 18 [l0, l1, l2] (aI v :: aR xg 4 xi :: st) M = if v = 0 ∨ v = 1 then run 9 21 [l0, l1, l2] st (wr M xg 4 xi 3 v) else none := e_pfz d9_18 rfl rfl rfl rfl
theorem d9_21 : decode (cod 9) 21 = .ok (.return_, 1) := by decide +kernel
theorem r9_21 (l0 l1 l2 : AV) (M : Mm) : run 9 21 [l0, l1, l2] [] M = some (none, M) := e_vret d9_21 rfl
theorem c10 (g0 i0 : Nat) (x1 : Int32) (x2 : Int32) (x3 : Int32) (M : Mm) : call 10 [aR g0 4 i0, aI x1, aI x2, aI x3] M = run 10 0 [aR g0 4 i0, aI x1, aI x2, aI x3] [] M := call_run 10 _ _
theorem d10_0 : decode (cod 10) 0 = .ok (.aload_n 0, 1) := by decide +kernel
theorem r10_0 (l1 l2 l3 : AV) (xg xi : Nat) (st : List AV) (M : Mm) : run 10 0 [aR xg 4 xi, l1, l2, l3] st M = run 10 1 [aR xg 4 xi, l1, l2, l3] (aR xg 4 xi :: st) M := e_aldn d10_0 rfl
theorem d10_1 : decode (cod 10) 1 = .ok (.iconst 2, 1) := by decide +kernel
theorem r10_1 (l0 l1 l2 l3 : AV) (st : List AV) (M : Mm) : run 10 1 [l0, l1, l2, l3] st M = run 10 2 [l0, l1, l2, l3] (aI 2 :: st) M := e_iconst 2 d10_1 (by decide +kernel)
theorem d10_2 : decode (cod 10) 2 = .ok (.putfield 11, 3) := by decide +kernel
theorem r10_2 (l0 l1 l2 l3 : AV) (v : Int32) (xg xi : Nat) (st : List AV) (M : Mm) : run 10 2 [l0, l1, l2, l3] (aI v :: aR xg 4 xi :: st) M = run 10 5 [l0, l1, l2, l3] st (wr M xg 4 xi 0 v) := e_pfi d10_2 rfl rfl rfl rfl
theorem d10_5 : decode (cod 10) 5 = .ok (.aload_n 0, 1) := by decide +kernel
theorem r10_5 (l1 l2 l3 : AV) (xg xi : Nat) (st : List AV) (M : Mm) : run 10 5 [aR xg 4 xi, l1, l2, l3] st M = run 10 6 [aR xg 4 xi, l1, l2, l3] (aR xg 4 xi :: st) M := e_aldn d10_5 rfl
theorem d10_6 : decode (cod 10) 6 = .ok (.iload_n 3, 1) := by decide +kernel
theorem r10_6 (l0 l1 l2 : AV) (x : Int32) (st : List AV) (M : Mm) : run 10 6 [l0, l1, l2, aI x] st M = run 10 7 [l0, l1, l2, aI x] (aI x :: st) M := e_ildn d10_6 rfl
theorem d10_7 : decode (cod 10) 7 = .ok (.putfield 15, 3) := by decide +kernel
theorem r10_7 (l0 l1 l2 l3 : AV) (v : Int32) (xg xi : Nat) (st : List AV) (M : Mm) : run 10 7 [l0, l1, l2, l3] (aI v :: aR xg 4 xi :: st) M = run 10 10 [l0, l1, l2, l3] st (wr M xg 4 xi 1 v) := e_pfi d10_7 rfl rfl rfl rfl
theorem d10_10 : decode (cod 10) 10 = .ok (.aload_n 0, 1) := by decide +kernel
theorem r10_10 (l1 l2 l3 : AV) (xg xi : Nat) (st : List AV) (M : Mm) : run 10 10 [aR xg 4 xi, l1, l2, l3] st M = run 10 11 [aR xg 4 xi, l1, l2, l3] (aR xg 4 xi :: st) M := e_aldn d10_10 rfl
theorem d10_11 : decode (cod 10) 11 = .ok (.iload_n 1, 1) := by decide +kernel
theorem r10_11 (l0 l2 l3 : AV) (x : Int32) (st : List AV) (M : Mm) : run 10 11 [l0, aI x, l2, l3] st M = run 10 12 [l0, aI x, l2, l3] (aI x :: st) M := e_ildn d10_11 rfl
theorem d10_12 : decode (cod 10) 12 = .ok (.putfield 18, 3) := by decide +kernel
theorem r10_12 (l0 l1 l2 l3 : AV) (v : Int32) (xg xi : Nat) (st : List AV) (M : Mm) : run 10 12 [l0, l1, l2, l3] (aI v :: aR xg 4 xi :: st) M = run 10 15 [l0, l1, l2, l3] st (wr M xg 4 xi 2 v) := e_pfi d10_12 rfl rfl rfl rfl
theorem d10_15 : decode (cod 10) 15 = .ok (.aload_n 0, 1) := by decide +kernel
theorem r10_15 (l1 l2 l3 : AV) (xg xi : Nat) (st : List AV) (M : Mm) : run 10 15 [aR xg 4 xi, l1, l2, l3] st M = run 10 16 [aR xg 4 xi, l1, l2, l3] (aR xg 4 xi :: st) M := e_aldn d10_15 rfl
theorem d10_16 : decode (cod 10) 16 = .ok (.iload_n 2, 1) := by decide +kernel
theorem r10_16 (l0 l1 l3 : AV) (x : Int32) (st : List AV) (M : Mm) : run 10 16 [l0, l1, aI x, l3] st M = run 10 17 [l0, l1, aI x, l3] (aI x :: st) M := e_ildn d10_16 rfl
theorem d10_17 : decode (cod 10) 17 = .ok (.putfield 21, 3) := by decide +kernel
theorem r10_17 (l0 l1 l2 l3 : AV) (v : Int32) (xg xi : Nat) (st : List AV) (M : Mm) : run 10 17 [l0, l1, l2, l3] (aI v :: aR xg 4 xi :: st) M = if v = 0 ∨ v = 1 then run 10 20 [l0, l1, l2, l3] st (wr M xg 4 xi 3 v) else none := e_pfz d10_17 rfl rfl rfl rfl
theorem d10_20 : decode (cod 10) 20 = .ok (.return_, 1) := by decide +kernel
theorem r10_20 (l0 l1 l2 l3 : AV) (M : Mm) : run 10 20 [l0, l1, l2, l3] [] M = some (none, M) := e_vret d10_20 rfl
theorem c11 (g0 i0 : Nat) (g1 i1 : Nat) (M : Mm) : call 11 [aR g0 0 i0, aR g1 0 i1] M = run 11 0 [aR g0 0 i0, aR g1 0 i1, none] [] M := call_run 11 _ _
theorem d11_0 : decode (cod 11) 0 = .ok (.aload_n 0, 1) := by decide +kernel
theorem r11_0 (l1 l2 : AV) (xg xi : Nat) (st : List AV) (M : Mm) : run 11 0 [aR xg 0 xi, l1, l2] st M = run 11 1 [aR xg 0 xi, l1, l2] (aR xg 0 xi :: st) M := e_aldn d11_0 rfl
theorem d11_1 : decode (cod 11) 1 = .ok (.aload_n 1, 1) := by decide +kernel
theorem r11_1 (l0 l2 : AV) (xg xi : Nat) (st : List AV) (M : Mm) : run 11 1 [l0, aR xg 0 xi, l2] st M = run 11 2 [l0, aR xg 0 xi, l2] (aR xg 0 xi :: st) M := e_aldn d11_1 rfl
theorem d11_2 : decode (cod 11) 2 = .ok (.getfield 17, 3) := by decide +kernel
theorem r11_2 (l0 l1 l2 : AV) (xg xi : Nat) (st : List AV) (M : Mm) : run 11 2 [l0, l1, l2] (aR xg 0 xi :: st) M = run 11 5 [l0, l1, l2] (aI (M xg 0 xi 1) :: st) M := e_gfi d11_2 rfl rfl rfl
theorem d11_5 : decode (cod 11) 5 = .ok (.putfield 17, 3) := by decide +kernel
theorem r11_5 (l0 l1 l2 : AV) (v : Int32) (xg xi : Nat) (st : List AV) (M : Mm) : run 11 5 [l0, l1, l2] (aI v :: aR xg 0 xi :: st) M = run 11 8 [l0, l1, l2] st (wr M xg 0 xi 1 v) := e_pfi d11_5 rfl rfl rfl rfl
theorem d11_8 : decode (cod 11) 8 = .ok (.iconst 0, 1) := by decide +kernel
theorem r11_8 (l0 l1 l2 : AV) (st : List AV) (M : Mm) : run 11 8 [l0, l1, l2] st M = run 11 9 [l0, l1, l2] (aI 0 :: st) M := e_iconst 0 d11_8 (by decide +kernel)
theorem d11_9 : decode (cod 11) 9 = .ok (.istore_n 2, 1) := by decide +kernel
theorem r11_9 (l0 l1 l2 : AV) (x : Int32) (st : List AV) (M : Mm) : run 11 9 [l0, l1, l2] (aI x :: st) M = run 11 10 [l0, l1, aI x] st M := e_istn [l0, l1, aI x] d11_9 rfl rfl
theorem d11_10 : decode (cod 11) 10 = .ok (.iload_n 2, 1) := by decide +kernel
theorem r11_10 (l0 l1 : AV) (x : Int32) (st : List AV) (M : Mm) : run 11 10 [l0, l1, aI x] st M = run 11 11 [l0, l1, aI x] (aI x :: st) M := e_ildn d11_10 rfl
theorem d11_11 : decode (cod 11) 11 = .ok (.iconst 4, 1) := by decide +kernel
theorem r11_11 (l0 l1 l2 : AV) (st : List AV) (M : Mm) : run 11 11 [l0, l1, l2] st M = run 11 12 [l0, l1, l2] (aI 4 :: st) M := e_iconst 4 d11_11 (by decide +kernel)
theorem d11_12 : decode (cod 11) 12 = .ok (.if_icmp .ge 24, 3) := by decide +kernel
theorem r11_12 (l0 l1 l2 : AV) (a b : Int32) (st : List AV) (M : Mm) : run 11 12 [l0, l1, l2] (aI b :: aI a :: st) M = if a < b then run 11 15 [l0, l1, l2] st M else run 11 36 [l0, l1, l2] st M := e_ge2 36 d11_12 (by decide)
theorem d11_15 : decode (cod 11) 15 = .ok (.aload_n 0, 1) := by decide +kernel
theorem r11_15 (l1 l2 : AV) (xg xi : Nat) (st : List AV) (M : Mm) : run 11 15 [aR xg 0 xi, l1, l2] st M = run 11 16 [aR xg 0 xi, l1, l2] (aR xg 0 xi :: st) M := e_aldn d11_15 rfl
theorem d11_16 : decode (cod 11) 16 = .ok (.getfield 11, 3) := by decide +kernel
theorem r11_16 (l0 l1 l2 : AV) (xg xi : Nat) (st : List AV) (M : Mm) : run 11 16 [l0, l1, l2] (aR xg 0 xi :: st) M = run 11 19 [l0, l1, l2] (aR xg 1 0 :: st) M := e_gfr (fun g => (g, 1, 0)) d11_16 rfl rfl rfl
theorem d11_19 : decode (cod 11) 19 = .ok (.iload_n 2, 1) := by decide +kernel
theorem r11_19 (l0 l1 : AV) (x : Int32) (st : List AV) (M : Mm) : run 11 19 [l0, l1, aI x] st M = run 11 20 [l0, l1, aI x] (aI x :: st) M := e_ildn d11_19 rfl
theorem d11_20 : decode (cod 11) 20 = .ok (.aaload, 1) := by decide +kernel
theorem r11_20 (l0 l1 l2 : AV) (i : Int32) (xg xi : Nat) (st : List AV) (M : Mm) : run 11 20 [l0, l1, l2] (aI i :: aR xg 1 xi :: st) M = if vpB i 4 = true then run 11 21 [l0, l1, l2] (aR xg 2 i.toNatClampNeg :: st) M else none := e_aal1 d11_20
theorem d11_21 : decode (cod 11) 21 = .ok (.aload_n 1, 1) := by decide +kernel
theorem r11_21 (l0 l2 : AV) (xg xi : Nat) (st : List AV) (M : Mm) : run 11 21 [l0, aR xg 0 xi, l2] st M = run 11 22 [l0, aR xg 0 xi, l2] (aR xg 0 xi :: st) M := e_aldn d11_21 rfl
theorem d11_22 : decode (cod 11) 22 = .ok (.getfield 11, 3) := by decide +kernel
theorem r11_22 (l0 l1 l2 : AV) (xg xi : Nat) (st : List AV) (M : Mm) : run 11 22 [l0, l1, l2] (aR xg 0 xi :: st) M = run 11 25 [l0, l1, l2] (aR xg 1 0 :: st) M := e_gfr (fun g => (g, 1, 0)) d11_22 rfl rfl rfl
theorem d11_25 : decode (cod 11) 25 = .ok (.iload_n 2, 1) := by decide +kernel
theorem r11_25 (l0 l1 : AV) (x : Int32) (st : List AV) (M : Mm) : run 11 25 [l0, l1, aI x] st M = run 11 26 [l0, l1, aI x] (aI x :: st) M := e_ildn d11_25 rfl
theorem d11_26 : decode (cod 11) 26 = .ok (.aaload, 1) := by decide +kernel
theorem r11_26 (l0 l1 l2 : AV) (i : Int32) (xg xi : Nat) (st : List AV) (M : Mm) : run 11 26 [l0, l1, l2] (aI i :: aR xg 1 xi :: st) M = if vpB i 4 = true then run 11 27 [l0, l1, l2] (aR xg 2 i.toNatClampNeg :: st) M else none := e_aal1 d11_26
theorem d11_27 : decode (cod 11) 27 = .ok (.invokevirtual 73, 3) := by decide +kernel
theorem r11_27 (l0 l1 l2 : AV) (a0g a0i : Nat) (a1g a1i : Nat) (M : Mm) : run 11 27 [l0, l1, l2] [aR a1g 2 a1i, aR a0g 2 a0i] M = cbV (call 0 [aR a0g 2 a0i, aR a1g 2 a1i] M) (fun M => run 11 30 [l0, l1, l2] [] M) := call_V (n := 2) rfl false d11_27 rfl rfl rfl rfl rfl rfl rfl
theorem d11_30 : decode (cod 11) 30 = .ok (.iinc 2 1, 3) := by decide +kernel
theorem r11_30 (l0 l1 : AV) (x : Int32) (st : List AV) (M : Mm) : run 11 30 [l0, l1, aI x] st M = run 11 33 [l0, l1, aI (x + 1)] st M := e_iinc 1 [l0, l1, aI (x + 1)] d11_30 (by decide +kernel) rfl rfl
theorem d11_33 : decode (cod 11) 33 = .ok (.goto (-23), 3) := by decide +kernel
theorem r11_33 (l0 l1 l2 : AV) (st : List AV) (M : Mm) : run 11 33 [l0, l1, l2] st M = run 11 10 [l0, l1, l2] st M := e_goto 10 d11_33 (by decide)
theorem d11_36 : decode (cod 11) 36 = .ok (.aload_n 0, 1) := by decide +kernel
theorem r11_36 (l1 l2 : AV) (xg xi : Nat) (st : List AV) (M : Mm) : run 11 36 [aR xg 0 xi, l1, l2] st M = run 11 37 [aR xg 0 xi, l1, l2] (aR xg 0 xi :: st) M := e_aldn d11_36 rfl
theorem d11_37 : decode (cod 11) 37 = .ok (.aload_n 1, 1) := by decide +kernel
theorem r11_37 (l0 l2 : AV) (xg xi : Nat) (st : List AV) (M : Mm) : run 11 37 [l0, aR xg 0 xi, l2] st M = run 11 38 [l0, aR xg 0 xi, l2] (aR xg 0 xi :: st) M := e_aldn d11_37 rfl
theorem d11_38 : decode (cod 11) 38 = .ok (.getfield 27, 3) := by decide +kernel
theorem r11_38 (l0 l1 l2 : AV) (xg xi : Nat) (st : List AV) (M : Mm) : run 11 38 [l0, l1, l2] (aR xg 0 xi :: st) M = run 11 41 [l0, l1, l2] (aI (M xg 0 xi 3) :: st) M := e_gfi d11_38 rfl rfl rfl
theorem d11_41 : decode (cod 11) 41 = .ok (.putfield 27, 3) := by decide +kernel
theorem r11_41 (l0 l1 l2 : AV) (v : Int32) (xg xi : Nat) (st : List AV) (M : Mm) : run 11 41 [l0, l1, l2] (aI v :: aR xg 0 xi :: st) M = run 11 44 [l0, l1, l2] st (wr M xg 0 xi 3 v) := e_pfi d11_41 rfl rfl rfl rfl
theorem d11_44 : decode (cod 11) 44 = .ok (.iconst 0, 1) := by decide +kernel
theorem r11_44 (l0 l1 l2 : AV) (st : List AV) (M : Mm) : run 11 44 [l0, l1, l2] st M = run 11 45 [l0, l1, l2] (aI 0 :: st) M := e_iconst 0 d11_44 (by decide +kernel)
theorem d11_45 : decode (cod 11) 45 = .ok (.istore_n 2, 1) := by decide +kernel
theorem r11_45 (l0 l1 l2 : AV) (x : Int32) (st : List AV) (M : Mm) : run 11 45 [l0, l1, l2] (aI x :: st) M = run 11 46 [l0, l1, aI x] st M := e_istn [l0, l1, aI x] d11_45 rfl rfl
theorem d11_46 : decode (cod 11) 46 = .ok (.iload_n 2, 1) := by decide +kernel
theorem r11_46 (l0 l1 : AV) (x : Int32) (st : List AV) (M : Mm) : run 11 46 [l0, l1, aI x] st M = run 11 47 [l0, l1, aI x] (aI x :: st) M := e_ildn d11_46 rfl
theorem d11_47 : decode (cod 11) 47 = .ok (.iconst 3, 1) := by decide +kernel
theorem r11_47 (l0 l1 l2 : AV) (st : List AV) (M : Mm) : run 11 47 [l0, l1, l2] st M = run 11 48 [l0, l1, l2] (aI 3 :: st) M := e_iconst 3 d11_47 (by decide +kernel)
theorem d11_48 : decode (cod 11) 48 = .ok (.if_icmp .ge 24, 3) := by decide +kernel
theorem r11_48 (l0 l1 l2 : AV) (a b : Int32) (st : List AV) (M : Mm) : run 11 48 [l0, l1, l2] (aI b :: aI a :: st) M = if a < b then run 11 51 [l0, l1, l2] st M else run 11 72 [l0, l1, l2] st M := e_ge2 72 d11_48 (by decide)
theorem d11_51 : decode (cod 11) 51 = .ok (.aload_n 0, 1) := by decide +kernel
theorem r11_51 (l1 l2 : AV) (xg xi : Nat) (st : List AV) (M : Mm) : run 11 51 [aR xg 0 xi, l1, l2] st M = run 11 52 [aR xg 0 xi, l1, l2] (aR xg 0 xi :: st) M := e_aldn d11_51 rfl
theorem d11_52 : decode (cod 11) 52 = .ok (.getfield 23, 3) := by decide +kernel
theorem r11_52 (l0 l1 l2 : AV) (xg xi : Nat) (st : List AV) (M : Mm) : run 11 52 [l0, l1, l2] (aR xg 0 xi :: st) M = run 11 55 [l0, l1, l2] (aR xg 3 0 :: st) M := e_gfr (fun g => (g, 3, 0)) d11_52 rfl rfl rfl
theorem d11_55 : decode (cod 11) 55 = .ok (.iload_n 2, 1) := by decide +kernel
theorem r11_55 (l0 l1 : AV) (x : Int32) (st : List AV) (M : Mm) : run 11 55 [l0, l1, aI x] st M = run 11 56 [l0, l1, aI x] (aI x :: st) M := e_ildn d11_55 rfl
theorem d11_56 : decode (cod 11) 56 = .ok (.aaload, 1) := by decide +kernel
theorem r11_56 (l0 l1 l2 : AV) (i : Int32) (xg xi : Nat) (st : List AV) (M : Mm) : run 11 56 [l0, l1, l2] (aI i :: aR xg 3 xi :: st) M = if vpB i 3 = true then run 11 57 [l0, l1, l2] (aR xg 4 i.toNatClampNeg :: st) M else none := e_aal3 d11_56
theorem d11_57 : decode (cod 11) 57 = .ok (.aload_n 1, 1) := by decide +kernel
theorem r11_57 (l0 l2 : AV) (xg xi : Nat) (st : List AV) (M : Mm) : run 11 57 [l0, aR xg 0 xi, l2] st M = run 11 58 [l0, aR xg 0 xi, l2] (aR xg 0 xi :: st) M := e_aldn d11_57 rfl
theorem d11_58 : decode (cod 11) 58 = .ok (.getfield 23, 3) := by decide +kernel
theorem r11_58 (l0 l1 l2 : AV) (xg xi : Nat) (st : List AV) (M : Mm) : run 11 58 [l0, l1, l2] (aR xg 0 xi :: st) M = run 11 61 [l0, l1, l2] (aR xg 3 0 :: st) M := e_gfr (fun g => (g, 3, 0)) d11_58 rfl rfl rfl
theorem d11_61 : decode (cod 11) 61 = .ok (.iload_n 2, 1) := by decide +kernel
theorem r11_61 (l0 l1 : AV) (x : Int32) (st : List AV) (M : Mm) : run 11 61 [l0, l1, aI x] st M = run 11 62 [l0, l1, aI x] (aI x :: st) M := e_ildn d11_61 rfl
theorem d11_62 : decode (cod 11) 62 = .ok (.aaload, 1) := by decide +kernel
theorem r11_62 (l0 l1 l2 : AV) (i : Int32) (xg xi : Nat) (st : List AV) (M : Mm) : run 11 62 [l0, l1, l2] (aI i :: aR xg 3 xi :: st) M = if vpB i 3 = true then run 11 63 [l0, l1, l2] (aR xg 4 i.toNatClampNeg :: st) M else none := e_aal3 d11_62
theorem d11_63 : decode (cod 11) 63 = .ok (.invokevirtual 77, 3) := by decide +kernel
theorem r11_63 (l0 l1 l2 : AV) (a0g a0i : Nat) (a1g a1i : Nat) (M : Mm) : run 11 63 [l0, l1, l2] [aR a1g 4 a1i, aR a0g 4 a0i] M = cbV (call 8 [aR a0g 4 a0i, aR a1g 4 a1i] M) (fun M => run 11 66 [l0, l1, l2] [] M) := call_V (n := 2) rfl false d11_63 rfl rfl rfl rfl rfl rfl rfl
theorem d11_66 : decode (cod 11) 66 = .ok (.iinc 2 1, 3) := by decide +kernel
theorem r11_66 (l0 l1 : AV) (x : Int32) (st : List AV) (M : Mm) : run 11 66 [l0, l1, aI x] st M = run 11 69 [l0, l1, aI (x + 1)] st M := e_iinc 1 [l0, l1, aI (x + 1)] d11_66 (by decide +kernel) rfl rfl
theorem d11_69 : decode (cod 11) 69 = .ok (.goto (-23), 3) := by decide +kernel
theorem r11_69 (l0 l1 l2 : AV) (st : List AV) (M : Mm) : run 11 69 [l0, l1, l2] st M = run 11 46 [l0, l1, l2] st M := e_goto 46 d11_69 (by decide)
theorem d11_72 : decode (cod 11) 72 = .ok (.aload_n 0, 1) := by decide +kernel
theorem r11_72 (l1 l2 : AV) (xg xi : Nat) (st : List AV) (M : Mm) : run 11 72 [aR xg 0 xi, l1, l2] st M = run 11 73 [aR xg 0 xi, l1, l2] (aR xg 0 xi :: st) M := e_aldn d11_72 rfl
theorem d11_73 : decode (cod 11) 73 = .ok (.aload_n 1, 1) := by decide +kernel
theorem r11_73 (l0 l2 : AV) (xg xi : Nat) (st : List AV) (M : Mm) : run 11 73 [l0, aR xg 0 xi, l2] st M = run 11 74 [l0, aR xg 0 xi, l2] (aR xg 0 xi :: st) M := e_aldn d11_73 rfl
theorem d11_74 : decode (cod 11) 74 = .ok (.getfield 30, 3) := by decide +kernel
theorem r11_74 (l0 l1 l2 : AV) (xg xi : Nat) (st : List AV) (M : Mm) : run 11 74 [l0, l1, l2] (aR xg 0 xi :: st) M = run 11 77 [l0, l1, l2] (aI (M xg 0 xi 4) :: st) M := e_gfi d11_74 rfl rfl rfl
theorem d11_77 : decode (cod 11) 77 = .ok (.putfield 30, 3) := by decide +kernel
theorem r11_77 (l0 l1 l2 : AV) (v : Int32) (xg xi : Nat) (st : List AV) (M : Mm) : run 11 77 [l0, l1, l2] (aI v :: aR xg 0 xi :: st) M = run 11 80 [l0, l1, l2] st (wr M xg 0 xi 4 v) := e_pfi d11_77 rfl rfl rfl rfl
theorem d11_80 : decode (cod 11) 80 = .ok (.aload_n 0, 1) := by decide +kernel
theorem r11_80 (l1 l2 : AV) (xg xi : Nat) (st : List AV) (M : Mm) : run 11 80 [aR xg 0 xi, l1, l2] st M = run 11 81 [aR xg 0 xi, l1, l2] (aR xg 0 xi :: st) M := e_aldn d11_80 rfl
theorem d11_81 : decode (cod 11) 81 = .ok (.aload_n 1, 1) := by decide +kernel
theorem r11_81 (l0 l2 : AV) (xg xi : Nat) (st : List AV) (M : Mm) : run 11 81 [l0, aR xg 0 xi, l2] st M = run 11 82 [l0, aR xg 0 xi, l2] (aR xg 0 xi :: st) M := e_aldn d11_81 rfl
theorem d11_82 : decode (cod 11) 82 = .ok (.getfield 33, 3) := by decide +kernel
theorem r11_82 (l0 l1 l2 : AV) (xg xi : Nat) (st : List AV) (M : Mm) : run 11 82 [l0, l1, l2] (aR xg 0 xi :: st) M = run 11 85 [l0, l1, l2] (aI (M xg 0 xi 5) :: st) M := e_gfi d11_82 rfl rfl rfl
theorem d11_85 : decode (cod 11) 85 = .ok (.putfield 33, 3) := by decide +kernel
theorem r11_85 (l0 l1 l2 : AV) (v : Int32) (xg xi : Nat) (st : List AV) (M : Mm) : run 11 85 [l0, l1, l2] (aI v :: aR xg 0 xi :: st) M = run 11 88 [l0, l1, l2] st (wr M xg 0 xi 5 v) := e_pfi d11_85 rfl rfl rfl rfl
theorem d11_88 : decode (cod 11) 88 = .ok (.aload_n 0, 1) := by decide +kernel
theorem r11_88 (l1 l2 : AV) (xg xi : Nat) (st : List AV) (M : Mm) : run 11 88 [aR xg 0 xi, l1, l2] st M = run 11 89 [aR xg 0 xi, l1, l2] (aR xg 0 xi :: st) M := e_aldn d11_88 rfl
theorem d11_89 : decode (cod 11) 89 = .ok (.aload_n 1, 1) := by decide +kernel
theorem r11_89 (l0 l2 : AV) (xg xi : Nat) (st : List AV) (M : Mm) : run 11 89 [l0, aR xg 0 xi, l2] st M = run 11 90 [l0, aR xg 0 xi, l2] (aR xg 0 xi :: st) M := e_aldn d11_89 rfl
theorem d11_90 : decode (cod 11) 90 = .ok (.getfield 36, 3) := by decide +kernel
theorem r11_90 (l0 l1 l2 : AV) (xg xi : Nat) (st : List AV) (M : Mm) : run 11 90 [l0, l1, l2] (aR xg 0 xi :: st) M = run 11 93 [l0, l1, l2] (aI (M xg 0 xi 6) :: st) M := e_gfi d11_90 rfl rfl rfl
theorem d11_93 : decode (cod 11) 93 = .ok (.putfield 36, 3) := by decide +kernel
theorem r11_93 (l0 l1 l2 : AV) (v : Int32) (xg xi : Nat) (st : List AV) (M : Mm) : run 11 93 [l0, l1, l2] (aI v :: aR xg 0 xi :: st) M = run 11 96 [l0, l1, l2] st (wr M xg 0 xi 6 v) := e_pfi d11_93 rfl rfl rfl rfl
theorem d11_96 : decode (cod 11) 96 = .ok (.aload_n 0, 1) := by decide +kernel
theorem r11_96 (l1 l2 : AV) (xg xi : Nat) (st : List AV) (M : Mm) : run 11 96 [aR xg 0 xi, l1, l2] st M = run 11 97 [aR xg 0 xi, l1, l2] (aR xg 0 xi :: st) M := e_aldn d11_96 rfl
theorem d11_97 : decode (cod 11) 97 = .ok (.aload_n 1, 1) := by decide +kernel
theorem r11_97 (l0 l2 : AV) (xg xi : Nat) (st : List AV) (M : Mm) : run 11 97 [l0, aR xg 0 xi, l2] st M = run 11 98 [l0, aR xg 0 xi, l2] (aR xg 0 xi :: st) M := e_aldn d11_97 rfl
theorem d11_98 : decode (cod 11) 98 = .ok (.getfield 39, 3) := by decide +kernel
theorem r11_98 (l0 l1 l2 : AV) (xg xi : Nat) (st : List AV) (M : Mm) : run 11 98 [l0, l1, l2] (aR xg 0 xi :: st) M = run 11 101 [l0, l1, l2] (aI (M xg 0 xi 7) :: st) M := e_gfi d11_98 rfl rfl rfl
theorem d11_101 : decode (cod 11) 101 = .ok (.putfield 39, 3) := by decide +kernel
theorem r11_101 (l0 l1 l2 : AV) (v : Int32) (xg xi : Nat) (st : List AV) (M : Mm) : run 11 101 [l0, l1, l2] (aI v :: aR xg 0 xi :: st) M = run 11 104 [l0, l1, l2] st (wr M xg 0 xi 7 v) := e_pfi d11_101 rfl rfl rfl rfl
theorem d11_104 : decode (cod 11) 104 = .ok (.aload_n 0, 1) := by decide +kernel
theorem r11_104 (l1 l2 : AV) (xg xi : Nat) (st : List AV) (M : Mm) : run 11 104 [aR xg 0 xi, l1, l2] st M = run 11 105 [aR xg 0 xi, l1, l2] (aR xg 0 xi :: st) M := e_aldn d11_104 rfl
theorem d11_105 : decode (cod 11) 105 = .ok (.aload_n 1, 1) := by decide +kernel
theorem r11_105 (l0 l2 : AV) (xg xi : Nat) (st : List AV) (M : Mm) : run 11 105 [l0, aR xg 0 xi, l2] st M = run 11 106 [l0, aR xg 0 xi, l2] (aR xg 0 xi :: st) M := e_aldn d11_105 rfl
theorem d11_106 : decode (cod 11) 106 = .ok (.getfield 42, 3) := by decide +kernel
theorem r11_106 (l0 l1 l2 : AV) (xg xi : Nat) (st : List AV) (M : Mm) : run 11 106 [l0, l1, l2] (aR xg 0 xi :: st) M = run 11 109 [l0, l1, l2] (aI (M xg 0 xi 8) :: st) M := e_gfi d11_106 rfl rfl rfl
theorem d11_109 : decode (cod 11) 109 = .ok (.putfield 42, 3) := by decide +kernel
theorem r11_109 (l0 l1 l2 : AV) (v : Int32) (xg xi : Nat) (st : List AV) (M : Mm) : run 11 109 [l0, l1, l2] (aI v :: aR xg 0 xi :: st) M = run 11 112 [l0, l1, l2] st (wr M xg 0 xi 8 v) := e_pfi d11_109 rfl rfl rfl rfl
theorem d11_112 : decode (cod 11) 112 = .ok (.aload_n 0, 1) := by decide +kernel
theorem r11_112 (l1 l2 : AV) (xg xi : Nat) (st : List AV) (M : Mm) : run 11 112 [aR xg 0 xi, l1, l2] st M = run 11 113 [aR xg 0 xi, l1, l2] (aR xg 0 xi :: st) M := e_aldn d11_112 rfl
theorem d11_113 : decode (cod 11) 113 = .ok (.aload_n 1, 1) := by decide +kernel
theorem r11_113 (l0 l2 : AV) (xg xi : Nat) (st : List AV) (M : Mm) : run 11 113 [l0, aR xg 0 xi, l2] st M = run 11 114 [l0, aR xg 0 xi, l2] (aR xg 0 xi :: st) M := e_aldn d11_113 rfl
theorem d11_114 : decode (cod 11) 114 = .ok (.getfield 45, 3) := by decide +kernel
theorem r11_114 (l0 l1 l2 : AV) (xg xi : Nat) (st : List AV) (M : Mm) : run 11 114 [l0, l1, l2] (aR xg 0 xi :: st) M = run 11 117 [l0, l1, l2] (aI (M xg 0 xi 9) :: st) M := e_gfi d11_114 rfl rfl rfl
theorem d11_117 : decode (cod 11) 117 = .ok (.putfield 45, 3) := by decide +kernel
theorem r11_117 (l0 l1 l2 : AV) (v : Int32) (xg xi : Nat) (st : List AV) (M : Mm) : run 11 117 [l0, l1, l2] (aI v :: aR xg 0 xi :: st) M = run 11 120 [l0, l1, l2] st (wr M xg 0 xi 9 v) := e_pfi d11_117 rfl rfl rfl rfl
theorem d11_120 : decode (cod 11) 120 = .ok (.aload_n 0, 1) := by decide +kernel
theorem r11_120 (l1 l2 : AV) (xg xi : Nat) (st : List AV) (M : Mm) : run 11 120 [aR xg 0 xi, l1, l2] st M = run 11 121 [aR xg 0 xi, l1, l2] (aR xg 0 xi :: st) M := e_aldn d11_120 rfl
theorem d11_121 : decode (cod 11) 121 = .ok (.aload_n 1, 1) := by decide +kernel
theorem r11_121 (l0 l2 : AV) (xg xi : Nat) (st : List AV) (M : Mm) : run 11 121 [l0, aR xg 0 xi, l2] st M = run 11 122 [l0, aR xg 0 xi, l2] (aR xg 0 xi :: st) M := e_aldn d11_121 rfl
theorem d11_122 : decode (cod 11) 122 = .ok (.getfield 48, 3) := by decide +kernel
theorem r11_122 (l0 l1 l2 : AV) (xg xi : Nat) (st : List AV) (M : Mm) : run 11 122 [l0, l1, l2] (aR xg 0 xi :: st) M = run 11 125 [l0, l1, l2] (aI (M xg 0 xi 10) :: st) M := e_gfi d11_122 rfl rfl rfl
theorem d11_125 : decode (cod 11) 125 = .ok (.putfield 48, 3) := by decide +kernel
theorem r11_125 (l0 l1 l2 : AV) (v : Int32) (xg xi : Nat) (st : List AV) (M : Mm) : run 11 125 [l0, l1, l2] (aI v :: aR xg 0 xi :: st) M = run 11 128 [l0, l1, l2] st (wr M xg 0 xi 10 v) := e_pfi d11_125 rfl rfl rfl rfl
theorem d11_128 : decode (cod 11) 128 = .ok (.aload_n 0, 1) := by decide +kernel
theorem r11_128 (l1 l2 : AV) (xg xi : Nat) (st : List AV) (M : Mm) : run 11 128 [aR xg 0 xi, l1, l2] st M = run 11 129 [aR xg 0 xi, l1, l2] (aR xg 0 xi :: st) M := e_aldn d11_128 rfl
theorem d11_129 : decode (cod 11) 129 = .ok (.aload_n 1, 1) := by decide +kernel
theorem r11_129 (l0 l2 : AV) (xg xi : Nat) (st : List AV) (M : Mm) : run 11 129 [l0, aR xg 0 xi, l2] st M = run 11 130 [l0, aR xg 0 xi, l2] (aR xg 0 xi :: st) M := e_aldn d11_129 rfl
theorem d11_130 : decode (cod 11) 130 = .ok (.getfield 51, 3) := by decide +kernel
theorem r11_130 (l0 l1 l2 : AV) (xg xi : Nat) (st : List AV) (M : Mm) : run 11 130 [l0, l1, l2] (aR xg 0 xi :: st) M = run 11 133 [l0, l1, l2] (aI (M xg 0 xi 11) :: st) M := e_gfi d11_130 rfl rfl rfl
theorem d11_133 : decode (cod 11) 133 = .ok (.putfield 51, 3) := by decide +kernel
theorem r11_133 (l0 l1 l2 : AV) (v : Int32) (xg xi : Nat) (st : List AV) (M : Mm) : run 11 133 [l0, l1, l2] (aI v :: aR xg 0 xi :: st) M = run 11 136 [l0, l1, l2] st (wr M xg 0 xi 11 v) := e_pfi d11_133 rfl rfl rfl rfl
theorem d11_136 : decode (cod 11) 136 = .ok (.aload_n 0, 1) := by decide +kernel
theorem r11_136 (l1 l2 : AV) (xg xi : Nat) (st : List AV) (M : Mm) : run 11 136 [aR xg 0 xi, l1, l2] st M = run 11 137 [aR xg 0 xi, l1, l2] (aR xg 0 xi :: st) M := e_aldn d11_136 rfl
theorem d11_137 : decode (cod 11) 137 = .ok (.aload_n 1, 1) := by decide +kernel
theorem r11_137 (l0 l2 : AV) (xg xi : Nat) (st : List AV) (M : Mm) : run 11 137 [l0, aR xg 0 xi, l2] st M = run 11 138 [l0, aR xg 0 xi, l2] (aR xg 0 xi :: st) M := e_aldn d11_137 rfl
theorem d11_138 : decode (cod 11) 138 = .ok (.getfield 54, 3) := by decide +kernel
theorem r11_138 (l0 l1 l2 : AV) (xg xi : Nat) (st : List AV) (M : Mm) : run 11 138 [l0, l1, l2] (aR xg 0 xi :: st) M = run 11 141 [l0, l1, l2] (aI (M xg 0 xi 12) :: st) M := e_gfi d11_138 rfl rfl rfl
theorem d11_141 : decode (cod 11) 141 = .ok (.putfield 54, 3) := by decide +kernel
theorem r11_141 (l0 l1 l2 : AV) (v : Int32) (xg xi : Nat) (st : List AV) (M : Mm) : run 11 141 [l0, l1, l2] (aI v :: aR xg 0 xi :: st) M = run 11 144 [l0, l1, l2] st (wr M xg 0 xi 12 v) := e_pfi d11_141 rfl rfl rfl rfl
theorem d11_144 : decode (cod 11) 144 = .ok (.aload_n 0, 1) := by decide +kernel
theorem r11_144 (l1 l2 : AV) (xg xi : Nat) (st : List AV) (M : Mm) : run 11 144 [aR xg 0 xi, l1, l2] st M = run 11 145 [aR xg 0 xi, l1, l2] (aR xg 0 xi :: st) M := e_aldn d11_144 rfl
theorem d11_145 : decode (cod 11) 145 = .ok (.iconst 0, 1) := by decide +kernel
theorem r11_145 (l0 l1 l2 : AV) (st : List AV) (M : Mm) : run 11 145 [l0, l1, l2] st M = run 11 146 [l0, l1, l2] (aI 0 :: st) M := e_iconst 0 d11_145 (by decide +kernel)
theorem d11_146 : decode (cod 11) 146 = .ok (.putfield 57, 3) := by decide +kernel
theorem r11_146 (l0 l1 l2 : AV) (v : Int32) (xg xi : Nat) (st : List AV) (M : Mm) : run 11 146 [l0, l1, l2] (aI v :: aR xg 0 xi :: st) M = run 11 149 [l0, l1, l2] st (wr M xg 0 xi 13 v) := e_pfi d11_146 rfl rfl rfl rfl
theorem d11_149 : decode (cod 11) 149 = .ok (.aload_n 0, 1) := by decide +kernel
theorem r11_149 (l1 l2 : AV) (xg xi : Nat) (st : List AV) (M : Mm) : run 11 149 [aR xg 0 xi, l1, l2] st M = run 11 150 [aR xg 0 xi, l1, l2] (aR xg 0 xi :: st) M := e_aldn d11_149 rfl
theorem d11_150 : decode (cod 11) 150 = .ok (.ldc 60, 2) := by decide +kernel
theorem r11_150 (l0 l1 l2 : AV) (st : List AV) (M : Mm) : run 11 150 [l0, l1, l2] st M = run 11 152 [l0, l1, l2] (aI 1000000 :: st) M := e_ldc d11_150 rfl
theorem d11_152 : decode (cod 11) 152 = .ok (.putfield 61, 3) := by decide +kernel
theorem r11_152 (l0 l1 l2 : AV) (v : Int32) (xg xi : Nat) (st : List AV) (M : Mm) : run 11 152 [l0, l1, l2] (aI v :: aR xg 0 xi :: st) M = run 11 155 [l0, l1, l2] st (wr M xg 0 xi 14 v) := e_pfi d11_152 rfl rfl rfl rfl
theorem d11_155 : decode (cod 11) 155 = .ok (.return_, 1) := by decide +kernel
theorem r11_155 (l0 l1 l2 : AV) (M : Mm) : run 11 155 [l0, l1, l2] [] M = some (none, M) := e_vret d11_155 rfl
theorem c12 (g0 i0 : Nat) (x1 : Int32) (M : Mm) : call 12 [aR g0 0 i0, aI x1] M = run 12 0 [aR g0 0 i0, aI x1] [] M := call_run 12 _ _
theorem d12_0 : decode (cod 12) 0 = .ok (.iload_n 1, 1) := by decide +kernel
theorem r12_0 (l0 : AV) (x : Int32) (st : List AV) (M : Mm) : run 12 0 [l0, aI x] st M = run 12 1 [l0, aI x] (aI x :: st) M := e_ildn d12_0 rfl
theorem d12_1 : decode (cod 12) 1 = .ok (.ifCond .lt 15, 3) := by decide +kernel
theorem r12_1 (l0 l1 : AV) (a : Int32) (st : List AV) (M : Mm) : run 12 1 [l0, l1] (aI a :: st) M = if a < 0 then run 12 16 [l0, l1] st M else run 12 4 [l0, l1] st M := e_lt1 16 d12_1 (by decide)
theorem d12_4 : decode (cod 12) 4 = .ok (.iload_n 1, 1) := by decide +kernel
theorem r12_4 (l0 : AV) (x : Int32) (st : List AV) (M : Mm) : run 12 4 [l0, aI x] st M = run 12 5 [l0, aI x] (aI x :: st) M := e_ildn d12_4 rfl
theorem d12_5 : decode (cod 12) 5 = .ok (.aload_n 0, 1) := by decide +kernel
theorem r12_5 (l1 : AV) (xg xi : Nat) (st : List AV) (M : Mm) : run 12 5 [aR xg 0 xi, l1] st M = run 12 6 [aR xg 0 xi, l1] (aR xg 0 xi :: st) M := e_aldn d12_5 rfl
theorem d12_6 : decode (cod 12) 6 = .ok (.getfield 17, 3) := by decide +kernel
theorem r12_6 (l0 l1 : AV) (xg xi : Nat) (st : List AV) (M : Mm) : run 12 6 [l0, l1] (aR xg 0 xi :: st) M = run 12 9 [l0, l1] (aI (M xg 0 xi 1) :: st) M := e_gfi d12_6 rfl rfl rfl
theorem d12_9 : decode (cod 12) 9 = .ok (.if_icmp .ge 7, 3) := by decide +kernel
theorem r12_9 (l0 l1 : AV) (a b : Int32) (st : List AV) (M : Mm) : run 12 9 [l0, l1] (aI b :: aI a :: st) M = if a < b then run 12 12 [l0, l1] st M else run 12 16 [l0, l1] st M := e_ge2 16 d12_9 (by decide)
theorem d12_12 : decode (cod 12) 12 = .ok (.iconst 1, 1) := by decide +kernel
theorem r12_12 (l0 l1 : AV) (st : List AV) (M : Mm) : run 12 12 [l0, l1] st M = run 12 13 [l0, l1] (aI 1 :: st) M := e_iconst 1 d12_12 (by decide +kernel)
theorem d12_13 : decode (cod 12) 13 = .ok (.goto 4, 3) := by decide +kernel
theorem r12_13 (l0 l1 : AV) (st : List AV) (M : Mm) : run 12 13 [l0, l1] st M = run 12 17 [l0, l1] st M := e_goto 17 d12_13 (by decide)
theorem d12_16 : decode (cod 12) 16 = .ok (.iconst 0, 1) := by decide +kernel
theorem r12_16 (l0 l1 : AV) (st : List AV) (M : Mm) : run 12 16 [l0, l1] st M = run 12 17 [l0, l1] (aI 0 :: st) M := e_iconst 0 d12_16 (by decide +kernel)
theorem d12_17 : decode (cod 12) 17 = .ok (.ireturn, 1) := by decide +kernel
theorem r12_17 (l0 l1 : AV) (v : Int32) (M : Mm) : run 12 17 [l0, l1] [aI v] M = if v = 0 ∨ v = 1 then some (some v, M) else none := e_zret d12_17 rfl
theorem c13 (g0 i0 : Nat) (x1 : Int32) (M : Mm) : call 13 [aR g0 0 i0, aI x1] M = run 13 0 [aR g0 0 i0, aI x1] [] M := call_run 13 _ _
theorem d13_0 : decode (cod 13) 0 = .ok (.iload_n 1, 1) := by decide +kernel
theorem r13_0 (l0 : AV) (x : Int32) (st : List AV) (M : Mm) : run 13 0 [l0, aI x] st M = run 13 1 [l0, aI x] (aI x :: st) M := e_ildn d13_0 rfl
theorem d13_1 : decode (cod 13) 1 = .ok (.iconst 1, 1) := by decide +kernel
theorem r13_1 (l0 l1 : AV) (st : List AV) (M : Mm) : run 13 1 [l0, l1] st M = run 13 2 [l0, l1] (aI 1 :: st) M := e_iconst 1 d13_1 (by decide +kernel)
theorem d13_2 : decode (cod 13) 2 = .ok (.if_icmp .lt 25, 3) := by decide +kernel
theorem r13_2 (l0 l1 : AV) (a b : Int32) (st : List AV) (M : Mm) : run 13 2 [l0, l1] (aI b :: aI a :: st) M = if a < b then run 13 27 [l0, l1] st M else run 13 5 [l0, l1] st M := e_lt2 27 d13_2 (by decide)
theorem d13_5 : decode (cod 13) 5 = .ok (.iload_n 1, 1) := by decide +kernel
theorem r13_5 (l0 : AV) (x : Int32) (st : List AV) (M : Mm) : run 13 5 [l0, aI x] st M = run 13 6 [l0, aI x] (aI x :: st) M := e_ildn d13_5 rfl
theorem d13_6 : decode (cod 13) 6 = .ok (.bipush 60, 2) := by decide +kernel
theorem r13_6 (l0 l1 : AV) (st : List AV) (M : Mm) : run 13 6 [l0, l1] st M = run 13 8 [l0, l1] (aI 60 :: st) M := e_bipush 60 d13_6 (by decide +kernel)
theorem d13_8 : decode (cod 13) 8 = .ok (.if_icmp .gt 19, 3) := by decide +kernel
theorem r13_8 (l0 l1 : AV) (a b : Int32) (st : List AV) (M : Mm) : run 13 8 [l0, l1] (aI b :: aI a :: st) M = if b < a then run 13 27 [l0, l1] st M else run 13 11 [l0, l1] st M := e_gt2 27 d13_8 (by decide)
theorem d13_11 : decode (cod 13) 11 = .ok (.aload_n 0, 1) := by decide +kernel
theorem r13_11 (l1 : AV) (xg xi : Nat) (st : List AV) (M : Mm) : run 13 11 [aR xg 0 xi, l1] st M = run 13 12 [aR xg 0 xi, l1] (aR xg 0 xi :: st) M := e_aldn d13_11 rfl
theorem d13_12 : decode (cod 13) 12 = .ok (.getfield 48, 3) := by decide +kernel
theorem r13_12 (l0 l1 : AV) (xg xi : Nat) (st : List AV) (M : Mm) : run 13 12 [l0, l1] (aR xg 0 xi :: st) M = run 13 15 [l0, l1] (aI (M xg 0 xi 10) :: st) M := e_gfi d13_12 rfl rfl rfl
theorem d13_15 : decode (cod 13) 15 = .ok (.iload_n 1, 1) := by decide +kernel
theorem r13_15 (l0 : AV) (x : Int32) (st : List AV) (M : Mm) : run 13 15 [l0, aI x] st M = run 13 16 [l0, aI x] (aI x :: st) M := e_ildn d13_15 rfl
theorem d13_16 : decode (cod 13) 16 = .ok (.iadd, 1) := by decide +kernel
theorem r13_16 (l0 l1 : AV) (a b : Int32) (st : List AV) (M : Mm) : run 13 16 [l0, l1] (aI b :: aI a :: st) M = run 13 17 [l0, l1] (aI (a + b) :: st) M := e_iadd d13_16
theorem d13_17 : decode (cod 13) 17 = .ok (.sipush 9999, 3) := by decide +kernel
theorem r13_17 (l0 l1 : AV) (st : List AV) (M : Mm) : run 13 17 [l0, l1] st M = run 13 20 [l0, l1] (aI 9999 :: st) M := e_sipush 9999 d13_17 (by decide +kernel)
theorem d13_20 : decode (cod 13) 20 = .ok (.if_icmp .gt 7, 3) := by decide +kernel
theorem r13_20 (l0 l1 : AV) (a b : Int32) (st : List AV) (M : Mm) : run 13 20 [l0, l1] (aI b :: aI a :: st) M = if b < a then run 13 27 [l0, l1] st M else run 13 23 [l0, l1] st M := e_gt2 27 d13_20 (by decide)
theorem d13_23 : decode (cod 13) 23 = .ok (.iconst 1, 1) := by decide +kernel
theorem r13_23 (l0 l1 : AV) (st : List AV) (M : Mm) : run 13 23 [l0, l1] st M = run 13 24 [l0, l1] (aI 1 :: st) M := e_iconst 1 d13_23 (by decide +kernel)
theorem d13_24 : decode (cod 13) 24 = .ok (.goto 4, 3) := by decide +kernel
theorem r13_24 (l0 l1 : AV) (st : List AV) (M : Mm) : run 13 24 [l0, l1] st M = run 13 28 [l0, l1] st M := e_goto 28 d13_24 (by decide)
theorem d13_27 : decode (cod 13) 27 = .ok (.iconst 0, 1) := by decide +kernel
theorem r13_27 (l0 l1 : AV) (st : List AV) (M : Mm) : run 13 27 [l0, l1] st M = run 13 28 [l0, l1] (aI 0 :: st) M := e_iconst 0 d13_27 (by decide +kernel)
theorem d13_28 : decode (cod 13) 28 = .ok (.ireturn, 1) := by decide +kernel
theorem r13_28 (l0 l1 : AV) (v : Int32) (M : Mm) : run 13 28 [l0, l1] [aI v] M = if v = 0 ∨ v = 1 then some (some v, M) else none := e_zret d13_28 rfl
theorem c14 (g0 i0 : Nat) (M : Mm) : call 14 [aR g0 0 i0] M = run 14 0 [aR g0 0 i0, none] [] M := call_run 14 _ _
theorem d14_0 : decode (cod 14) 0 = .ok (.iconst 0, 1) := by decide +kernel
theorem r14_0 (l0 l1 : AV) (st : List AV) (M : Mm) : run 14 0 [l0, l1] st M = run 14 1 [l0, l1] (aI 0 :: st) M := e_iconst 0 d14_0 (by decide +kernel)
theorem d14_1 : decode (cod 14) 1 = .ok (.istore_n 1, 1) := by decide +kernel
theorem r14_1 (l0 l1 : AV) (x : Int32) (st : List AV) (M : Mm) : run 14 1 [l0, l1] (aI x :: st) M = run 14 2 [l0, aI x] st M := e_istn [l0, aI x] d14_1 rfl rfl
theorem d14_2 : decode (cod 14) 2 = .ok (.iload_n 1, 1) := by decide +kernel
theorem r14_2 (l0 : AV) (x : Int32) (st : List AV) (M : Mm) : run 14 2 [l0, aI x] st M = run 14 3 [l0, aI x] (aI x :: st) M := e_ildn d14_2 rfl
theorem d14_3 : decode (cod 14) 3 = .ok (.aload_n 0, 1) := by decide +kernel
theorem r14_3 (l1 : AV) (xg xi : Nat) (st : List AV) (M : Mm) : run 14 3 [aR xg 0 xi, l1] st M = run 14 4 [aR xg 0 xi, l1] (aR xg 0 xi :: st) M := e_aldn d14_3 rfl
theorem d14_4 : decode (cod 14) 4 = .ok (.getfield 27, 3) := by decide +kernel
theorem r14_4 (l0 l1 : AV) (xg xi : Nat) (st : List AV) (M : Mm) : run 14 4 [l0, l1] (aR xg 0 xi :: st) M = run 14 7 [l0, l1] (aI (M xg 0 xi 3) :: st) M := e_gfi d14_4 rfl rfl rfl
theorem d14_7 : decode (cod 14) 7 = .ok (.if_icmp .ge 23, 3) := by decide +kernel
theorem r14_7 (l0 l1 : AV) (a b : Int32) (st : List AV) (M : Mm) : run 14 7 [l0, l1] (aI b :: aI a :: st) M = if a < b then run 14 10 [l0, l1] st M else run 14 30 [l0, l1] st M := e_ge2 30 d14_7 (by decide)
theorem d14_10 : decode (cod 14) 10 = .ok (.aload_n 0, 1) := by decide +kernel
theorem r14_10 (l1 : AV) (xg xi : Nat) (st : List AV) (M : Mm) : run 14 10 [aR xg 0 xi, l1] st M = run 14 11 [aR xg 0 xi, l1] (aR xg 0 xi :: st) M := e_aldn d14_10 rfl
theorem d14_11 : decode (cod 14) 11 = .ok (.getfield 23, 3) := by decide +kernel
theorem r14_11 (l0 l1 : AV) (xg xi : Nat) (st : List AV) (M : Mm) : run 14 11 [l0, l1] (aR xg 0 xi :: st) M = run 14 14 [l0, l1] (aR xg 3 0 :: st) M := e_gfr (fun g => (g, 3, 0)) d14_11 rfl rfl rfl
theorem d14_14 : decode (cod 14) 14 = .ok (.iload_n 1, 1) := by decide +kernel
theorem r14_14 (l0 : AV) (x : Int32) (st : List AV) (M : Mm) : run 14 14 [l0, aI x] st M = run 14 15 [l0, aI x] (aI x :: st) M := e_ildn d14_14 rfl
theorem d14_15 : decode (cod 14) 15 = .ok (.aaload, 1) := by decide +kernel
theorem r14_15 (l0 l1 : AV) (i : Int32) (xg xi : Nat) (st : List AV) (M : Mm) : run 14 15 [l0, l1] (aI i :: aR xg 3 xi :: st) M = if vpB i 3 = true then run 14 16 [l0, l1] (aR xg 4 i.toNatClampNeg :: st) M else none := e_aal3 d14_15
theorem d14_16 : decode (cod 14) 16 = .ok (.getfield 80, 3) := by decide +kernel
theorem r14_16 (l0 l1 : AV) (xg xi : Nat) (st : List AV) (M : Mm) : run 14 16 [l0, l1] (aR xg 4 xi :: st) M = run 14 19 [l0, l1] (aI (M xg 4 xi 0) :: st) M := e_gfi d14_16 rfl rfl rfl
theorem d14_19 : decode (cod 14) 19 = .ok (.ifCond .eq 5, 3) := by decide +kernel
theorem r14_19 (l0 l1 : AV) (a : Int32) (st : List AV) (M : Mm) : run 14 19 [l0, l1] (aI a :: st) M = if a = 0 then run 14 24 [l0, l1] st M else run 14 22 [l0, l1] st M := e_eq1 24 d14_19 (by decide)
theorem d14_22 : decode (cod 14) 22 = .ok (.iconst 1, 1) := by decide +kernel
theorem r14_22 (l0 l1 : AV) (st : List AV) (M : Mm) : run 14 22 [l0, l1] st M = run 14 23 [l0, l1] (aI 1 :: st) M := e_iconst 1 d14_22 (by decide +kernel)
theorem d14_23 : decode (cod 14) 23 = .ok (.ireturn, 1) := by decide +kernel
theorem r14_23 (l0 l1 : AV) (v : Int32) (M : Mm) : run 14 23 [l0, l1] [aI v] M = if v = 0 ∨ v = 1 then some (some v, M) else none := e_zret d14_23 rfl
theorem d14_24 : decode (cod 14) 24 = .ok (.iinc 1 1, 3) := by decide +kernel
theorem r14_24 (l0 : AV) (x : Int32) (st : List AV) (M : Mm) : run 14 24 [l0, aI x] st M = run 14 27 [l0, aI (x + 1)] st M := e_iinc 1 [l0, aI (x + 1)] d14_24 (by decide +kernel) rfl rfl
theorem d14_27 : decode (cod 14) 27 = .ok (.goto (-25), 3) := by decide +kernel
theorem r14_27 (l0 l1 : AV) (st : List AV) (M : Mm) : run 14 27 [l0, l1] st M = run 14 2 [l0, l1] st M := e_goto 2 d14_27 (by decide)
theorem d14_30 : decode (cod 14) 30 = .ok (.iconst 0, 1) := by decide +kernel
theorem r14_30 (l0 l1 : AV) (st : List AV) (M : Mm) : run 14 30 [l0, l1] st M = run 14 31 [l0, l1] (aI 0 :: st) M := e_iconst 0 d14_30 (by decide +kernel)
theorem d14_31 : decode (cod 14) 31 = .ok (.ireturn, 1) := by decide +kernel
theorem r14_31 (l0 l1 : AV) (v : Int32) (M : Mm) : run 14 31 [l0, l1] [aI v] M = if v = 0 ∨ v = 1 then some (some v, M) else none := e_zret d14_31 rfl
theorem c15 (g0 i0 : Nat) (M : Mm) : call 15 [aR g0 0 i0] M = run 15 0 [aR g0 0 i0, none] [] M := call_run 15 _ _
theorem d15_0 : decode (cod 15) 0 = .ok (.iconst 0, 1) := by decide +kernel
theorem r15_0 (l0 l1 : AV) (st : List AV) (M : Mm) : run 15 0 [l0, l1] st M = run 15 1 [l0, l1] (aI 0 :: st) M := e_iconst 0 d15_0 (by decide +kernel)
theorem d15_1 : decode (cod 15) 1 = .ok (.istore_n 1, 1) := by decide +kernel
theorem r15_1 (l0 l1 : AV) (x : Int32) (st : List AV) (M : Mm) : run 15 1 [l0, l1] (aI x :: st) M = run 15 2 [l0, aI x] st M := e_istn [l0, aI x] d15_1 rfl rfl
theorem d15_2 : decode (cod 15) 2 = .ok (.iload_n 1, 1) := by decide +kernel
theorem r15_2 (l0 : AV) (x : Int32) (st : List AV) (M : Mm) : run 15 2 [l0, aI x] st M = run 15 3 [l0, aI x] (aI x :: st) M := e_ildn d15_2 rfl
theorem d15_3 : decode (cod 15) 3 = .ok (.iconst 3, 1) := by decide +kernel
theorem r15_3 (l0 l1 : AV) (st : List AV) (M : Mm) : run 15 3 [l0, l1] st M = run 15 4 [l0, l1] (aI 3 :: st) M := e_iconst 3 d15_3 (by decide +kernel)
theorem d15_4 : decode (cod 15) 4 = .ok (.if_icmp .ge 20, 3) := by decide +kernel
theorem r15_4 (l0 l1 : AV) (a b : Int32) (st : List AV) (M : Mm) : run 15 4 [l0, l1] (aI b :: aI a :: st) M = if a < b then run 15 7 [l0, l1] st M else run 15 24 [l0, l1] st M := e_ge2 24 d15_4 (by decide)
theorem d15_7 : decode (cod 15) 7 = .ok (.aload_n 0, 1) := by decide +kernel
theorem r15_7 (l1 : AV) (xg xi : Nat) (st : List AV) (M : Mm) : run 15 7 [aR xg 0 xi, l1] st M = run 15 8 [aR xg 0 xi, l1] (aR xg 0 xi :: st) M := e_aldn d15_7 rfl
theorem d15_8 : decode (cod 15) 8 = .ok (.getfield 23, 3) := by decide +kernel
theorem r15_8 (l0 l1 : AV) (xg xi : Nat) (st : List AV) (M : Mm) : run 15 8 [l0, l1] (aR xg 0 xi :: st) M = run 15 11 [l0, l1] (aR xg 3 0 :: st) M := e_gfr (fun g => (g, 3, 0)) d15_8 rfl rfl rfl
theorem d15_11 : decode (cod 15) 11 = .ok (.iload_n 1, 1) := by decide +kernel
theorem r15_11 (l0 : AV) (x : Int32) (st : List AV) (M : Mm) : run 15 11 [l0, aI x] st M = run 15 12 [l0, aI x] (aI x :: st) M := e_ildn d15_11 rfl
theorem d15_12 : decode (cod 15) 12 = .ok (.aaload, 1) := by decide +kernel
theorem r15_12 (l0 l1 : AV) (i : Int32) (xg xi : Nat) (st : List AV) (M : Mm) : run 15 12 [l0, l1] (aI i :: aR xg 3 xi :: st) M = if vpB i 3 = true then run 15 13 [l0, l1] (aR xg 4 i.toNatClampNeg :: st) M else none := e_aal3 d15_12
theorem d15_13 : decode (cod 15) 13 = .ok (.iconst 0, 1) := by decide +kernel
theorem r15_13 (l0 l1 : AV) (st : List AV) (M : Mm) : run 15 13 [l0, l1] st M = run 15 14 [l0, l1] (aI 0 :: st) M := e_iconst 0 d15_13 (by decide +kernel)
theorem d15_14 : decode (cod 15) 14 = .ok (.iconst 0, 1) := by decide +kernel
theorem r15_14 (l0 l1 : AV) (st : List AV) (M : Mm) : run 15 14 [l0, l1] st M = run 15 15 [l0, l1] (aI 0 :: st) M := e_iconst 0 d15_14 (by decide +kernel)
theorem d15_15 : decode (cod 15) 15 = .ok (.invokevirtual 83, 3) := by decide +kernel
theorem r15_15 (l0 l1 : AV) (a0g a0i : Nat) (a1 : Int32) (a2 : Int32) (M : Mm) : run 15 15 [l0, l1] [aI a2, aI a1, aR a0g 4 a0i] M = cbV (call 9 [aR a0g 4 a0i, aI a1, aI a2] M) (fun M => run 15 18 [l0, l1] [] M) := call_V (n := 3) rfl false d15_15 rfl rfl rfl rfl rfl rfl rfl
theorem d15_18 : decode (cod 15) 18 = .ok (.iinc 1 1, 3) := by decide +kernel
theorem r15_18 (l0 : AV) (x : Int32) (st : List AV) (M : Mm) : run 15 18 [l0, aI x] st M = run 15 21 [l0, aI (x + 1)] st M := e_iinc 1 [l0, aI (x + 1)] d15_18 (by decide +kernel) rfl rfl
theorem d15_21 : decode (cod 15) 21 = .ok (.goto (-19), 3) := by decide +kernel
theorem r15_21 (l0 l1 : AV) (st : List AV) (M : Mm) : run 15 21 [l0, l1] st M = run 15 2 [l0, l1] st M := e_goto 2 d15_21 (by decide)
theorem d15_24 : decode (cod 15) 24 = .ok (.return_, 1) := by decide +kernel
theorem r15_24 (l0 l1 : AV) (M : Mm) : run 15 24 [l0, l1] [] M = some (none, M) := e_vret d15_24 rfl
theorem c16 (g0 i0 : Nat) (x1 : Int32) (M : Mm) : call 16 [aR g0 0 i0, aI x1] M = run 16 0 [aR g0 0 i0, aI x1] [] M := call_run 16 _ _
theorem d16_0 : decode (cod 16) 0 = .ok (.iload_n 1, 1) := by decide +kernel
theorem r16_0 (l0 : AV) (x : Int32) (st : List AV) (M : Mm) : run 16 0 [l0, aI x] st M = run 16 1 [l0, aI x] (aI x :: st) M := e_ildn d16_0 rfl
theorem d16_1 : decode (cod 16) 1 = .ok (.tableswitch 69 0 5 #[39, 44, 49, 54, 59, 64], 39) := by decide +kernel
theorem r16_1 (l0 l1 : AV) (x : Int32) (st : List AV) (M : Mm) : run 16 1 [l0, l1] (aI x :: st) M = if x = 0 then run 16 40 [l0, l1] st M else if x = 1 then run 16 45 [l0, l1] st M else if x = 2 then run 16 50 [l0, l1] st M else if x = 3 then run 16 55 [l0, l1] st M else if x = 4 then run 16 60 [l0, l1] st M else if x = 5 then run 16 65 [l0, l1] st M else run 16 70 [l0, l1] st M := by
  rw [run_step d16_1 rfl]
  simp only [stpI, tsw]
  by_cases c0 : x = 0
  · subst c0
    rw [if_pos rfl]
    rfl
  rw [if_neg c0]
  by_cases c1 : x = 1
  · subst c1
    rw [if_pos rfl]
    rfl
  rw [if_neg c1]
  by_cases c2 : x = 2
  · subst c2
    rw [if_pos rfl]
    rfl
  rw [if_neg c2]
  by_cases c3 : x = 3
  · subst c3
    rw [if_pos rfl]
    rfl
  rw [if_neg c3]
  by_cases c4 : x = 4
  · subst c4
    rw [if_pos rfl]
    rfl
  rw [if_neg c4]
  by_cases c5 : x = 5
  · subst c5
    rw [if_pos rfl]
    rfl
  rw [if_neg c5]
  have hx : x.toInt < 0 ∨ 5 < x.toInt := by
    have h : ∀ k : Int, ¬ x = Int32.ofInt k → -2147483648 ≤ k → k < 2147483648 → ¬ x.toInt = k := fun k hk hl hh e => hk (Int32.toInt_inj.mp (by rw [e, Int32.toInt_ofInt_of_le hl hh]))
    have fc0 := h 0 c0 (by decide) (by decide)
    have fc1 := h 1 c1 (by decide) (by decide)
    have fc2 := h 2 c2 (by decide) (by decide)
    have fc3 := h 3 c3 (by decide) (by decide)
    have fc4 := h 4 c4 (by decide) (by decide)
    have fc5 := h 5 c5 (by decide) (by decide)
    omega
  rw [if_pos hx, jmp_run 70 (by decide)]
  rfl
theorem d16_40 : decode (cod 16) 40 = .ok (.aload_n 0, 1) := by decide +kernel
theorem r16_40 (l1 : AV) (xg xi : Nat) (st : List AV) (M : Mm) : run 16 40 [aR xg 0 xi, l1] st M = run 16 41 [aR xg 0 xi, l1] (aR xg 0 xi :: st) M := e_aldn d16_40 rfl
theorem d16_41 : decode (cod 16) 41 = .ok (.getfield 27, 3) := by decide +kernel
theorem r16_41 (l0 l1 : AV) (xg xi : Nat) (st : List AV) (M : Mm) : run 16 41 [l0, l1] (aR xg 0 xi :: st) M = run 16 44 [l0, l1] (aI (M xg 0 xi 3) :: st) M := e_gfi d16_41 rfl rfl rfl
theorem d16_44 : decode (cod 16) 44 = .ok (.ireturn, 1) := by decide +kernel
theorem r16_44 (l0 l1 : AV) (v : Int32) (M : Mm) : run 16 44 [l0, l1] [aI v] M = some (some v, M) := e_iret d16_44 rfl
theorem d16_45 : decode (cod 16) 45 = .ok (.aload_n 0, 1) := by decide +kernel
theorem r16_45 (l1 : AV) (xg xi : Nat) (st : List AV) (M : Mm) : run 16 45 [aR xg 0 xi, l1] st M = run 16 46 [aR xg 0 xi, l1] (aR xg 0 xi :: st) M := e_aldn d16_45 rfl
theorem d16_46 : decode (cod 16) 46 = .ok (.getfield 30, 3) := by decide +kernel
theorem r16_46 (l0 l1 : AV) (xg xi : Nat) (st : List AV) (M : Mm) : run 16 46 [l0, l1] (aR xg 0 xi :: st) M = run 16 49 [l0, l1] (aI (M xg 0 xi 4) :: st) M := e_gfi d16_46 rfl rfl rfl
theorem d16_49 : decode (cod 16) 49 = .ok (.ireturn, 1) := by decide +kernel
theorem r16_49 (l0 l1 : AV) (v : Int32) (M : Mm) : run 16 49 [l0, l1] [aI v] M = some (some v, M) := e_iret d16_49 rfl
theorem d16_50 : decode (cod 16) 50 = .ok (.aload_n 0, 1) := by decide +kernel
theorem r16_50 (l1 : AV) (xg xi : Nat) (st : List AV) (M : Mm) : run 16 50 [aR xg 0 xi, l1] st M = run 16 51 [aR xg 0 xi, l1] (aR xg 0 xi :: st) M := e_aldn d16_50 rfl
theorem d16_51 : decode (cod 16) 51 = .ok (.getfield 33, 3) := by decide +kernel
theorem r16_51 (l0 l1 : AV) (xg xi : Nat) (st : List AV) (M : Mm) : run 16 51 [l0, l1] (aR xg 0 xi :: st) M = run 16 54 [l0, l1] (aI (M xg 0 xi 5) :: st) M := e_gfi d16_51 rfl rfl rfl
theorem d16_54 : decode (cod 16) 54 = .ok (.ireturn, 1) := by decide +kernel
theorem r16_54 (l0 l1 : AV) (v : Int32) (M : Mm) : run 16 54 [l0, l1] [aI v] M = some (some v, M) := e_iret d16_54 rfl
theorem d16_55 : decode (cod 16) 55 = .ok (.aload_n 0, 1) := by decide +kernel
theorem r16_55 (l1 : AV) (xg xi : Nat) (st : List AV) (M : Mm) : run 16 55 [aR xg 0 xi, l1] st M = run 16 56 [aR xg 0 xi, l1] (aR xg 0 xi :: st) M := e_aldn d16_55 rfl
theorem d16_56 : decode (cod 16) 56 = .ok (.getfield 36, 3) := by decide +kernel
theorem r16_56 (l0 l1 : AV) (xg xi : Nat) (st : List AV) (M : Mm) : run 16 56 [l0, l1] (aR xg 0 xi :: st) M = run 16 59 [l0, l1] (aI (M xg 0 xi 6) :: st) M := e_gfi d16_56 rfl rfl rfl
theorem d16_59 : decode (cod 16) 59 = .ok (.ireturn, 1) := by decide +kernel
theorem r16_59 (l0 l1 : AV) (v : Int32) (M : Mm) : run 16 59 [l0, l1] [aI v] M = some (some v, M) := e_iret d16_59 rfl
theorem d16_60 : decode (cod 16) 60 = .ok (.aload_n 0, 1) := by decide +kernel
theorem r16_60 (l1 : AV) (xg xi : Nat) (st : List AV) (M : Mm) : run 16 60 [aR xg 0 xi, l1] st M = run 16 61 [aR xg 0 xi, l1] (aR xg 0 xi :: st) M := e_aldn d16_60 rfl
theorem d16_61 : decode (cod 16) 61 = .ok (.getfield 39, 3) := by decide +kernel
theorem r16_61 (l0 l1 : AV) (xg xi : Nat) (st : List AV) (M : Mm) : run 16 61 [l0, l1] (aR xg 0 xi :: st) M = run 16 64 [l0, l1] (aI (M xg 0 xi 7) :: st) M := e_gfi d16_61 rfl rfl rfl
theorem d16_64 : decode (cod 16) 64 = .ok (.ireturn, 1) := by decide +kernel
theorem r16_64 (l0 l1 : AV) (v : Int32) (M : Mm) : run 16 64 [l0, l1] [aI v] M = some (some v, M) := e_iret d16_64 rfl
theorem d16_65 : decode (cod 16) 65 = .ok (.aload_n 0, 1) := by decide +kernel
theorem r16_65 (l1 : AV) (xg xi : Nat) (st : List AV) (M : Mm) : run 16 65 [aR xg 0 xi, l1] st M = run 16 66 [aR xg 0 xi, l1] (aR xg 0 xi :: st) M := e_aldn d16_65 rfl
theorem d16_66 : decode (cod 16) 66 = .ok (.getfield 42, 3) := by decide +kernel
theorem r16_66 (l0 l1 : AV) (xg xi : Nat) (st : List AV) (M : Mm) : run 16 66 [l0, l1] (aR xg 0 xi :: st) M = run 16 69 [l0, l1] (aI (M xg 0 xi 8) :: st) M := e_gfi d16_66 rfl rfl rfl
theorem d16_69 : decode (cod 16) 69 = .ok (.ireturn, 1) := by decide +kernel
theorem r16_69 (l0 l1 : AV) (v : Int32) (M : Mm) : run 16 69 [l0, l1] [aI v] M = some (some v, M) := e_iret d16_69 rfl
theorem d16_70 : decode (cod 16) 70 = .ok (.aload_n 0, 1) := by decide +kernel
theorem r16_70 (l1 : AV) (xg xi : Nat) (st : List AV) (M : Mm) : run 16 70 [aR xg 0 xi, l1] st M = run 16 71 [aR xg 0 xi, l1] (aR xg 0 xi :: st) M := e_aldn d16_70 rfl
theorem d16_71 : decode (cod 16) 71 = .ok (.getfield 45, 3) := by decide +kernel
theorem r16_71 (l0 l1 : AV) (xg xi : Nat) (st : List AV) (M : Mm) : run 16 71 [l0, l1] (aR xg 0 xi :: st) M = run 16 74 [l0, l1] (aI (M xg 0 xi 9) :: st) M := e_gfi d16_71 rfl rfl rfl
theorem d16_74 : decode (cod 16) 74 = .ok (.ireturn, 1) := by decide +kernel
theorem r16_74 (l0 l1 : AV) (v : Int32) (M : Mm) : run 16 74 [l0, l1] [aI v] M = some (some v, M) := e_iret d16_74 rfl
theorem c17 (g0 i0 : Nat) (x1 : Int32) (x2 : Int32) (M : Mm) : call 17 [aR g0 0 i0, aI x1, aI x2] M = run 17 0 [aR g0 0 i0, aI x1, aI x2] [] M := call_run 17 _ _
theorem d17_0 : decode (cod 17) 0 = .ok (.iload_n 1, 1) := by decide +kernel
theorem r17_0 (l0 l2 : AV) (x : Int32) (st : List AV) (M : Mm) : run 17 0 [l0, aI x, l2] st M = run 17 1 [l0, aI x, l2] (aI x :: st) M := e_ildn d17_0 rfl
theorem d17_1 : decode (cod 17) 1 = .ok (.tableswitch 87 0 5 #[39, 47, 55, 63, 71, 79], 39) := by decide +kernel
theorem r17_1 (l0 l1 l2 : AV) (x : Int32) (st : List AV) (M : Mm) : run 17 1 [l0, l1, l2] (aI x :: st) M = if x = 0 then run 17 40 [l0, l1, l2] st M else if x = 1 then run 17 48 [l0, l1, l2] st M else if x = 2 then run 17 56 [l0, l1, l2] st M else if x = 3 then run 17 64 [l0, l1, l2] st M else if x = 4 then run 17 72 [l0, l1, l2] st M else if x = 5 then run 17 80 [l0, l1, l2] st M else run 17 88 [l0, l1, l2] st M := by
  rw [run_step d17_1 rfl]
  simp only [stpI, tsw]
  by_cases c0 : x = 0
  · subst c0
    rw [if_pos rfl]
    rfl
  rw [if_neg c0]
  by_cases c1 : x = 1
  · subst c1
    rw [if_pos rfl]
    rfl
  rw [if_neg c1]
  by_cases c2 : x = 2
  · subst c2
    rw [if_pos rfl]
    rfl
  rw [if_neg c2]
  by_cases c3 : x = 3
  · subst c3
    rw [if_pos rfl]
    rfl
  rw [if_neg c3]
  by_cases c4 : x = 4
  · subst c4
    rw [if_pos rfl]
    rfl
  rw [if_neg c4]
  by_cases c5 : x = 5
  · subst c5
    rw [if_pos rfl]
    rfl
  rw [if_neg c5]
  have hx : x.toInt < 0 ∨ 5 < x.toInt := by
    have h : ∀ k : Int, ¬ x = Int32.ofInt k → -2147483648 ≤ k → k < 2147483648 → ¬ x.toInt = k := fun k hk hl hh e => hk (Int32.toInt_inj.mp (by rw [e, Int32.toInt_ofInt_of_le hl hh]))
    have fc0 := h 0 c0 (by decide) (by decide)
    have fc1 := h 1 c1 (by decide) (by decide)
    have fc2 := h 2 c2 (by decide) (by decide)
    have fc3 := h 3 c3 (by decide) (by decide)
    have fc4 := h 4 c4 (by decide) (by decide)
    have fc5 := h 5 c5 (by decide) (by decide)
    omega
  rw [if_pos hx, jmp_run 88 (by decide)]
  rfl
theorem d17_40 : decode (cod 17) 40 = .ok (.aload_n 0, 1) := by decide +kernel
theorem r17_40 (l1 l2 : AV) (xg xi : Nat) (st : List AV) (M : Mm) : run 17 40 [aR xg 0 xi, l1, l2] st M = run 17 41 [aR xg 0 xi, l1, l2] (aR xg 0 xi :: st) M := e_aldn d17_40 rfl
theorem d17_41 : decode (cod 17) 41 = .ok (.iload_n 2, 1) := by decide +kernel
theorem r17_41 (l0 l1 : AV) (x : Int32) (st : List AV) (M : Mm) : run 17 41 [l0, l1, aI x] st M = run 17 42 [l0, l1, aI x] (aI x :: st) M := e_ildn d17_41 rfl
theorem d17_42 : decode (cod 17) 42 = .ok (.putfield 27, 3) := by decide +kernel
theorem r17_42 (l0 l1 l2 : AV) (v : Int32) (xg xi : Nat) (st : List AV) (M : Mm) : run 17 42 [l0, l1, l2] (aI v :: aR xg 0 xi :: st) M = run 17 45 [l0, l1, l2] st (wr M xg 0 xi 3 v) := e_pfi d17_42 rfl rfl rfl rfl
theorem d17_45 : decode (cod 17) 45 = .ok (.goto 48, 3) := by decide +kernel
theorem r17_45 (l0 l1 l2 : AV) (st : List AV) (M : Mm) : run 17 45 [l0, l1, l2] st M = run 17 93 [l0, l1, l2] st M := e_goto 93 d17_45 (by decide)
theorem d17_48 : decode (cod 17) 48 = .ok (.aload_n 0, 1) := by decide +kernel
theorem r17_48 (l1 l2 : AV) (xg xi : Nat) (st : List AV) (M : Mm) : run 17 48 [aR xg 0 xi, l1, l2] st M = run 17 49 [aR xg 0 xi, l1, l2] (aR xg 0 xi :: st) M := e_aldn d17_48 rfl
theorem d17_49 : decode (cod 17) 49 = .ok (.iload_n 2, 1) := by decide +kernel
theorem r17_49 (l0 l1 : AV) (x : Int32) (st : List AV) (M : Mm) : run 17 49 [l0, l1, aI x] st M = run 17 50 [l0, l1, aI x] (aI x :: st) M := e_ildn d17_49 rfl
theorem d17_50 : decode (cod 17) 50 = .ok (.putfield 30, 3) := by decide +kernel
theorem r17_50 (l0 l1 l2 : AV) (v : Int32) (xg xi : Nat) (st : List AV) (M : Mm) : run 17 50 [l0, l1, l2] (aI v :: aR xg 0 xi :: st) M = run 17 53 [l0, l1, l2] st (wr M xg 0 xi 4 v) := e_pfi d17_50 rfl rfl rfl rfl
theorem d17_53 : decode (cod 17) 53 = .ok (.goto 40, 3) := by decide +kernel
theorem r17_53 (l0 l1 l2 : AV) (st : List AV) (M : Mm) : run 17 53 [l0, l1, l2] st M = run 17 93 [l0, l1, l2] st M := e_goto 93 d17_53 (by decide)
theorem d17_56 : decode (cod 17) 56 = .ok (.aload_n 0, 1) := by decide +kernel
theorem r17_56 (l1 l2 : AV) (xg xi : Nat) (st : List AV) (M : Mm) : run 17 56 [aR xg 0 xi, l1, l2] st M = run 17 57 [aR xg 0 xi, l1, l2] (aR xg 0 xi :: st) M := e_aldn d17_56 rfl
theorem d17_57 : decode (cod 17) 57 = .ok (.iload_n 2, 1) := by decide +kernel
theorem r17_57 (l0 l1 : AV) (x : Int32) (st : List AV) (M : Mm) : run 17 57 [l0, l1, aI x] st M = run 17 58 [l0, l1, aI x] (aI x :: st) M := e_ildn d17_57 rfl
theorem d17_58 : decode (cod 17) 58 = .ok (.putfield 33, 3) := by decide +kernel
theorem r17_58 (l0 l1 l2 : AV) (v : Int32) (xg xi : Nat) (st : List AV) (M : Mm) : run 17 58 [l0, l1, l2] (aI v :: aR xg 0 xi :: st) M = run 17 61 [l0, l1, l2] st (wr M xg 0 xi 5 v) := e_pfi d17_58 rfl rfl rfl rfl
theorem d17_61 : decode (cod 17) 61 = .ok (.goto 32, 3) := by decide +kernel
theorem r17_61 (l0 l1 l2 : AV) (st : List AV) (M : Mm) : run 17 61 [l0, l1, l2] st M = run 17 93 [l0, l1, l2] st M := e_goto 93 d17_61 (by decide)
theorem d17_64 : decode (cod 17) 64 = .ok (.aload_n 0, 1) := by decide +kernel
theorem r17_64 (l1 l2 : AV) (xg xi : Nat) (st : List AV) (M : Mm) : run 17 64 [aR xg 0 xi, l1, l2] st M = run 17 65 [aR xg 0 xi, l1, l2] (aR xg 0 xi :: st) M := e_aldn d17_64 rfl
theorem d17_65 : decode (cod 17) 65 = .ok (.iload_n 2, 1) := by decide +kernel
theorem r17_65 (l0 l1 : AV) (x : Int32) (st : List AV) (M : Mm) : run 17 65 [l0, l1, aI x] st M = run 17 66 [l0, l1, aI x] (aI x :: st) M := e_ildn d17_65 rfl
theorem d17_66 : decode (cod 17) 66 = .ok (.putfield 36, 3) := by decide +kernel
theorem r17_66 (l0 l1 l2 : AV) (v : Int32) (xg xi : Nat) (st : List AV) (M : Mm) : run 17 66 [l0, l1, l2] (aI v :: aR xg 0 xi :: st) M = run 17 69 [l0, l1, l2] st (wr M xg 0 xi 6 v) := e_pfi d17_66 rfl rfl rfl rfl
theorem d17_69 : decode (cod 17) 69 = .ok (.goto 24, 3) := by decide +kernel
theorem r17_69 (l0 l1 l2 : AV) (st : List AV) (M : Mm) : run 17 69 [l0, l1, l2] st M = run 17 93 [l0, l1, l2] st M := e_goto 93 d17_69 (by decide)
theorem d17_72 : decode (cod 17) 72 = .ok (.aload_n 0, 1) := by decide +kernel
theorem r17_72 (l1 l2 : AV) (xg xi : Nat) (st : List AV) (M : Mm) : run 17 72 [aR xg 0 xi, l1, l2] st M = run 17 73 [aR xg 0 xi, l1, l2] (aR xg 0 xi :: st) M := e_aldn d17_72 rfl
theorem d17_73 : decode (cod 17) 73 = .ok (.iload_n 2, 1) := by decide +kernel
theorem r17_73 (l0 l1 : AV) (x : Int32) (st : List AV) (M : Mm) : run 17 73 [l0, l1, aI x] st M = run 17 74 [l0, l1, aI x] (aI x :: st) M := e_ildn d17_73 rfl
theorem d17_74 : decode (cod 17) 74 = .ok (.putfield 39, 3) := by decide +kernel
theorem r17_74 (l0 l1 l2 : AV) (v : Int32) (xg xi : Nat) (st : List AV) (M : Mm) : run 17 74 [l0, l1, l2] (aI v :: aR xg 0 xi :: st) M = run 17 77 [l0, l1, l2] st (wr M xg 0 xi 7 v) := e_pfi d17_74 rfl rfl rfl rfl
theorem d17_77 : decode (cod 17) 77 = .ok (.goto 16, 3) := by decide +kernel
theorem r17_77 (l0 l1 l2 : AV) (st : List AV) (M : Mm) : run 17 77 [l0, l1, l2] st M = run 17 93 [l0, l1, l2] st M := e_goto 93 d17_77 (by decide)
theorem d17_80 : decode (cod 17) 80 = .ok (.aload_n 0, 1) := by decide +kernel
theorem r17_80 (l1 l2 : AV) (xg xi : Nat) (st : List AV) (M : Mm) : run 17 80 [aR xg 0 xi, l1, l2] st M = run 17 81 [aR xg 0 xi, l1, l2] (aR xg 0 xi :: st) M := e_aldn d17_80 rfl
theorem d17_81 : decode (cod 17) 81 = .ok (.iload_n 2, 1) := by decide +kernel
theorem r17_81 (l0 l1 : AV) (x : Int32) (st : List AV) (M : Mm) : run 17 81 [l0, l1, aI x] st M = run 17 82 [l0, l1, aI x] (aI x :: st) M := e_ildn d17_81 rfl
theorem d17_82 : decode (cod 17) 82 = .ok (.putfield 42, 3) := by decide +kernel
theorem r17_82 (l0 l1 l2 : AV) (v : Int32) (xg xi : Nat) (st : List AV) (M : Mm) : run 17 82 [l0, l1, l2] (aI v :: aR xg 0 xi :: st) M = run 17 85 [l0, l1, l2] st (wr M xg 0 xi 8 v) := e_pfi d17_82 rfl rfl rfl rfl
theorem d17_85 : decode (cod 17) 85 = .ok (.goto 8, 3) := by decide +kernel
theorem r17_85 (l0 l1 l2 : AV) (st : List AV) (M : Mm) : run 17 85 [l0, l1, l2] st M = run 17 93 [l0, l1, l2] st M := e_goto 93 d17_85 (by decide)
theorem d17_88 : decode (cod 17) 88 = .ok (.aload_n 0, 1) := by decide +kernel
theorem r17_88 (l1 l2 : AV) (xg xi : Nat) (st : List AV) (M : Mm) : run 17 88 [aR xg 0 xi, l1, l2] st M = run 17 89 [aR xg 0 xi, l1, l2] (aR xg 0 xi :: st) M := e_aldn d17_88 rfl
theorem d17_89 : decode (cod 17) 89 = .ok (.iload_n 2, 1) := by decide +kernel
theorem r17_89 (l0 l1 : AV) (x : Int32) (st : List AV) (M : Mm) : run 17 89 [l0, l1, aI x] st M = run 17 90 [l0, l1, aI x] (aI x :: st) M := e_ildn d17_89 rfl
theorem d17_90 : decode (cod 17) 90 = .ok (.putfield 45, 3) := by decide +kernel
theorem r17_90 (l0 l1 l2 : AV) (v : Int32) (xg xi : Nat) (st : List AV) (M : Mm) : run 17 90 [l0, l1, l2] (aI v :: aR xg 0 xi :: st) M = run 17 93 [l0, l1, l2] st (wr M xg 0 xi 9 v) := e_pfi d17_90 rfl rfl rfl rfl
theorem d17_93 : decode (cod 17) 93 = .ok (.return_, 1) := by decide +kernel
theorem r17_93 (l0 l1 l2 : AV) (M : Mm) : run 17 93 [l0, l1, l2] [] M = some (none, M) := e_vret d17_93 rfl
theorem c18 (g0 i0 : Nat) (x1 : Int32) (x2 : Int32) (x3 : Int32) (x4 : Int32) (M : Mm) : call 18 [aR g0 0 i0, aI x1, aI x2, aI x3, aI x4] M = run 18 0 [aR g0 0 i0, aI x1, aI x2, aI x3, aI x4] [] M := call_run 18 _ _
theorem d18_0 : decode (cod 18) 0 = .ok (.aload_n 0, 1) := by decide +kernel
theorem r18_0 (l1 l2 l3 l4 : AV) (xg xi : Nat) (st : List AV) (M : Mm) : run 18 0 [aR xg 0 xi, l1, l2, l3, l4] st M = run 18 1 [aR xg 0 xi, l1, l2, l3, l4] (aR xg 0 xi :: st) M := e_aldn d18_0 rfl
theorem d18_1 : decode (cod 18) 1 = .ok (.getfield 17, 3) := by decide +kernel
theorem r18_1 (l0 l1 l2 l3 l4 : AV) (xg xi : Nat) (st : List AV) (M : Mm) : run 18 1 [l0, l1, l2, l3, l4] (aR xg 0 xi :: st) M = run 18 4 [l0, l1, l2, l3, l4] (aI (M xg 0 xi 1) :: st) M := e_gfi d18_1 rfl rfl rfl
theorem d18_4 : decode (cod 18) 4 = .ok (.iconst 4, 1) := by decide +kernel
theorem r18_4 (l0 l1 l2 l3 l4 : AV) (st : List AV) (M : Mm) : run 18 4 [l0, l1, l2, l3, l4] st M = run 18 5 [l0, l1, l2, l3, l4] (aI 4 :: st) M := e_iconst 4 d18_4 (by decide +kernel)
theorem d18_5 : decode (cod 18) 5 = .ok (.if_icmp .ge 34, 3) := by decide +kernel
theorem r18_5 (l0 l1 l2 l3 l4 : AV) (a b : Int32) (st : List AV) (M : Mm) : run 18 5 [l0, l1, l2, l3, l4] (aI b :: aI a :: st) M = if a < b then run 18 8 [l0, l1, l2, l3, l4] st M else run 18 39 [l0, l1, l2, l3, l4] st M := e_ge2 39 d18_5 (by decide)
theorem d18_8 : decode (cod 18) 8 = .ok (.iload_n 2, 1) := by decide +kernel
theorem r18_8 (l0 l1 l3 l4 : AV) (x : Int32) (st : List AV) (M : Mm) : run 18 8 [l0, l1, aI x, l3, l4] st M = run 18 9 [l0, l1, aI x, l3, l4] (aI x :: st) M := e_ildn d18_8 rfl
theorem d18_9 : decode (cod 18) 9 = .ok (.iconst 1, 1) := by decide +kernel
theorem r18_9 (l0 l1 l2 l3 l4 : AV) (st : List AV) (M : Mm) : run 18 9 [l0, l1, l2, l3, l4] st M = run 18 10 [l0, l1, l2, l3, l4] (aI 1 :: st) M := e_iconst 1 d18_9 (by decide +kernel)
theorem d18_10 : decode (cod 18) 10 = .ok (.iconst 4, 1) := by decide +kernel
theorem r18_10 (l0 l1 l2 l3 l4 : AV) (st : List AV) (M : Mm) : run 18 10 [l0, l1, l2, l3, l4] st M = run 18 11 [l0, l1, l2, l3, l4] (aI 4 :: st) M := e_iconst 4 d18_10 (by decide +kernel)
theorem d18_11 : decode (cod 18) 11 = .ok (.invokestatic 87, 3) := by decide +kernel
theorem r18_11 (l0 l1 l2 l3 l4 : AV) (a0 : Int32) (a1 : Int32) (a2 : Int32) (M : Mm) : run 18 11 [l0, l1, l2, l3, l4] [aI a2, aI a1, aI a0] M = cbI (call 67 [aI a0, aI a1, aI a2] M) (fun v M => run 18 14 [l0, l1, l2, l3, l4] [aI v] M) := call_I (n := 3) rfl true d18_11 rfl rfl rfl rfl rfl rfl rfl
theorem d18_14 : decode (cod 18) 14 = .ok (.ifCond .ne 25, 3) := by decide +kernel
theorem r18_14 (l0 l1 l2 l3 l4 : AV) (a : Int32) (st : List AV) (M : Mm) : run 18 14 [l0, l1, l2, l3, l4] (aI a :: st) M = if a = 0 then run 18 17 [l0, l1, l2, l3, l4] st M else run 18 39 [l0, l1, l2, l3, l4] st M := e_ne1 39 d18_14 (by decide)
theorem d18_17 : decode (cod 18) 17 = .ok (.iload_n 3, 1) := by decide +kernel
theorem r18_17 (l0 l1 l2 l4 : AV) (x : Int32) (st : List AV) (M : Mm) : run 18 17 [l0, l1, l2, aI x, l4] st M = run 18 18 [l0, l1, l2, aI x, l4] (aI x :: st) M := e_ildn d18_17 rfl
theorem d18_18 : decode (cod 18) 18 = .ok (.iconst 0, 1) := by decide +kernel
theorem r18_18 (l0 l1 l2 l3 l4 : AV) (st : List AV) (M : Mm) : run 18 18 [l0, l1, l2, l3, l4] st M = run 18 19 [l0, l1, l2, l3, l4] (aI 0 :: st) M := e_iconst 0 d18_18 (by decide +kernel)
theorem d18_19 : decode (cod 18) 19 = .ok (.bipush 60, 2) := by decide +kernel
theorem r18_19 (l0 l1 l2 l3 l4 : AV) (st : List AV) (M : Mm) : run 18 19 [l0, l1, l2, l3, l4] st M = run 18 21 [l0, l1, l2, l3, l4] (aI 60 :: st) M := e_bipush 60 d18_19 (by decide +kernel)
theorem d18_21 : decode (cod 18) 21 = .ok (.invokestatic 87, 3) := by decide +kernel
theorem r18_21 (l0 l1 l2 l3 l4 : AV) (a0 : Int32) (a1 : Int32) (a2 : Int32) (M : Mm) : run 18 21 [l0, l1, l2, l3, l4] [aI a2, aI a1, aI a0] M = cbI (call 67 [aI a0, aI a1, aI a2] M) (fun v M => run 18 24 [l0, l1, l2, l3, l4] [aI v] M) := call_I (n := 3) rfl true d18_21 rfl rfl rfl rfl rfl rfl rfl
theorem d18_24 : decode (cod 18) 24 = .ok (.ifCond .ne 15, 3) := by decide +kernel
theorem r18_24 (l0 l1 l2 l3 l4 : AV) (a : Int32) (st : List AV) (M : Mm) : run 18 24 [l0, l1, l2, l3, l4] (aI a :: st) M = if a = 0 then run 18 27 [l0, l1, l2, l3, l4] st M else run 18 39 [l0, l1, l2, l3, l4] st M := e_ne1 39 d18_24 (by decide)
theorem d18_27 : decode (cod 18) 27 = .ok (.iload 4, 2) := by decide +kernel
theorem r18_27 (l0 l1 l2 l3 : AV) (x : Int32) (st : List AV) (M : Mm) : run 18 27 [l0, l1, l2, l3, aI x] st M = run 18 29 [l0, l1, l2, l3, aI x] (aI x :: st) M := e_ild d18_27 rfl
theorem d18_29 : decode (cod 18) 29 = .ok (.iconst 0, 1) := by decide +kernel
theorem r18_29 (l0 l1 l2 l3 l4 : AV) (st : List AV) (M : Mm) : run 18 29 [l0, l1, l2, l3, l4] st M = run 18 30 [l0, l1, l2, l3, l4] (aI 0 :: st) M := e_iconst 0 d18_29 (by decide +kernel)
theorem d18_30 : decode (cod 18) 30 = .ok (.sipush 240, 3) := by decide +kernel
theorem r18_30 (l0 l1 l2 l3 l4 : AV) (st : List AV) (M : Mm) : run 18 30 [l0, l1, l2, l3, l4] st M = run 18 33 [l0, l1, l2, l3, l4] (aI 240 :: st) M := e_sipush 240 d18_30 (by decide +kernel)
theorem d18_33 : decode (cod 18) 33 = .ok (.invokestatic 87, 3) := by decide +kernel
theorem r18_33 (l0 l1 l2 l3 l4 : AV) (a0 : Int32) (a1 : Int32) (a2 : Int32) (M : Mm) : run 18 33 [l0, l1, l2, l3, l4] [aI a2, aI a1, aI a0] M = cbI (call 67 [aI a0, aI a1, aI a2] M) (fun v M => run 18 36 [l0, l1, l2, l3, l4] [aI v] M) := call_I (n := 3) rfl true d18_33 rfl rfl rfl rfl rfl rfl rfl
theorem d18_36 : decode (cod 18) 36 = .ok (.ifCond .eq 5, 3) := by decide +kernel
theorem r18_36 (l0 l1 l2 l3 l4 : AV) (a : Int32) (st : List AV) (M : Mm) : run 18 36 [l0, l1, l2, l3, l4] (aI a :: st) M = if a = 0 then run 18 41 [l0, l1, l2, l3, l4] st M else run 18 39 [l0, l1, l2, l3, l4] st M := e_eq1 41 d18_36 (by decide)
theorem d18_39 : decode (cod 18) 39 = .ok (.iconst 0, 1) := by decide +kernel
theorem r18_39 (l0 l1 l2 l3 l4 : AV) (st : List AV) (M : Mm) : run 18 39 [l0, l1, l2, l3, l4] st M = run 18 40 [l0, l1, l2, l3, l4] (aI 0 :: st) M := e_iconst 0 d18_39 (by decide +kernel)
theorem d18_40 : decode (cod 18) 40 = .ok (.ireturn, 1) := by decide +kernel
theorem r18_40 (l0 l1 l2 l3 l4 : AV) (v : Int32) (M : Mm) : run 18 40 [l0, l1, l2, l3, l4] [aI v] M = if v = 0 ∨ v = 1 then some (some v, M) else none := e_zret d18_40 rfl
theorem d18_41 : decode (cod 18) 41 = .ok (.aload_n 0, 1) := by decide +kernel
theorem r18_41 (l1 l2 l3 l4 : AV) (xg xi : Nat) (st : List AV) (M : Mm) : run 18 41 [aR xg 0 xi, l1, l2, l3, l4] st M = run 18 42 [aR xg 0 xi, l1, l2, l3, l4] (aR xg 0 xi :: st) M := e_aldn d18_41 rfl
theorem d18_42 : decode (cod 18) 42 = .ok (.getfield 11, 3) := by decide +kernel
theorem r18_42 (l0 l1 l2 l3 l4 : AV) (xg xi : Nat) (st : List AV) (M : Mm) : run 18 42 [l0, l1, l2, l3, l4] (aR xg 0 xi :: st) M = run 18 45 [l0, l1, l2, l3, l4] (aR xg 1 0 :: st) M := e_gfr (fun g => (g, 1, 0)) d18_42 rfl rfl rfl
theorem d18_45 : decode (cod 18) 45 = .ok (.aload_n 0, 1) := by decide +kernel
theorem r18_45 (l1 l2 l3 l4 : AV) (xg xi : Nat) (st : List AV) (M : Mm) : run 18 45 [aR xg 0 xi, l1, l2, l3, l4] st M = run 18 46 [aR xg 0 xi, l1, l2, l3, l4] (aR xg 0 xi :: st) M := e_aldn d18_45 rfl
theorem d18_46 : decode (cod 18) 46 = .ok (.getfield 17, 3) := by decide +kernel
theorem r18_46 (l0 l1 l2 l3 l4 : AV) (xg xi : Nat) (st : List AV) (M : Mm) : run 18 46 [l0, l1, l2, l3, l4] (aR xg 0 xi :: st) M = run 18 49 [l0, l1, l2, l3, l4] (aI (M xg 0 xi 1) :: st) M := e_gfi d18_46 rfl rfl rfl
theorem d18_49 : decode (cod 18) 49 = .ok (.aaload, 1) := by decide +kernel
theorem r18_49 (l0 l1 l2 l3 l4 : AV) (i : Int32) (xg xi : Nat) (st : List AV) (M : Mm) : run 18 49 [l0, l1, l2, l3, l4] (aI i :: aR xg 1 xi :: st) M = if vpB i 4 = true then run 18 50 [l0, l1, l2, l3, l4] (aR xg 2 i.toNatClampNeg :: st) M else none := e_aal1 d18_49
theorem d18_50 : decode (cod 18) 50 = .ok (.iload_n 1, 1) := by decide +kernel
theorem r18_50 (l0 l2 l3 l4 : AV) (x : Int32) (st : List AV) (M : Mm) : run 18 50 [l0, aI x, l2, l3, l4] st M = run 18 51 [l0, aI x, l2, l3, l4] (aI x :: st) M := e_ildn d18_50 rfl
theorem d18_51 : decode (cod 18) 51 = .ok (.iload_n 2, 1) := by decide +kernel
theorem r18_51 (l0 l1 l3 l4 : AV) (x : Int32) (st : List AV) (M : Mm) : run 18 51 [l0, l1, aI x, l3, l4] st M = run 18 52 [l0, l1, aI x, l3, l4] (aI x :: st) M := e_ildn d18_51 rfl
theorem d18_52 : decode (cod 18) 52 = .ok (.iload_n 3, 1) := by decide +kernel
theorem r18_52 (l0 l1 l2 l4 : AV) (x : Int32) (st : List AV) (M : Mm) : run 18 52 [l0, l1, l2, aI x, l4] st M = run 18 53 [l0, l1, l2, aI x, l4] (aI x :: st) M := e_ildn d18_52 rfl
theorem d18_53 : decode (cod 18) 53 = .ok (.iload 4, 2) := by decide +kernel
theorem r18_53 (l0 l1 l2 l3 : AV) (x : Int32) (st : List AV) (M : Mm) : run 18 53 [l0, l1, l2, l3, aI x] st M = run 18 55 [l0, l1, l2, l3, aI x] (aI x :: st) M := e_ild d18_53 rfl
theorem d18_55 : decode (cod 18) 55 = .ok (.invokevirtual 91, 3) := by decide +kernel
theorem r18_55 (l0 l1 l2 l3 l4 : AV) (a0g a0i : Nat) (a1 : Int32) (a2 : Int32) (a3 : Int32) (a4 : Int32) (M : Mm) : run 18 55 [l0, l1, l2, l3, l4] [aI a4, aI a3, aI a2, aI a1, aR a0g 2 a0i] M = cbV (call 1 [aR a0g 2 a0i, aI a1, aI a2, aI a3, aI a4] M) (fun M => run 18 58 [l0, l1, l2, l3, l4] [] M) := call_V (n := 5) rfl false d18_55 rfl rfl rfl rfl rfl rfl rfl
theorem d18_58 : decode (cod 18) 58 = .ok (.aload_n 0, 1) := by decide +kernel
theorem r18_58 (l1 l2 l3 l4 : AV) (xg xi : Nat) (st : List AV) (M : Mm) : run 18 58 [aR xg 0 xi, l1, l2, l3, l4] st M = run 18 59 [aR xg 0 xi, l1, l2, l3, l4] (aR xg 0 xi :: st) M := e_aldn d18_58 rfl
theorem d18_59 : decode (cod 18) 59 = .ok (.dup, 1) := by decide +kernel
theorem r18_59 (l0 l1 l2 l3 l4 : AV) (xg xi : Nat) (st : List AV) (M : Mm) : run 18 59 [l0, l1, l2, l3, l4] (aR xg 0 xi :: st) M = run 18 60 [l0, l1, l2, l3, l4] (aR xg 0 xi :: aR xg 0 xi :: st) M := e_dup d18_59
theorem d18_60 : decode (cod 18) 60 = .ok (.getfield 17, 3) := by decide +kernel
theorem r18_60 (l0 l1 l2 l3 l4 : AV) (xg xi : Nat) (st : List AV) (M : Mm) : run 18 60 [l0, l1, l2, l3, l4] (aR xg 0 xi :: st) M = run 18 63 [l0, l1, l2, l3, l4] (aI (M xg 0 xi 1) :: st) M := e_gfi d18_60 rfl rfl rfl
theorem d18_63 : decode (cod 18) 63 = .ok (.iconst 1, 1) := by decide +kernel
theorem r18_63 (l0 l1 l2 l3 l4 : AV) (st : List AV) (M : Mm) : run 18 63 [l0, l1, l2, l3, l4] st M = run 18 64 [l0, l1, l2, l3, l4] (aI 1 :: st) M := e_iconst 1 d18_63 (by decide +kernel)
theorem d18_64 : decode (cod 18) 64 = .ok (.iadd, 1) := by decide +kernel
theorem r18_64 (l0 l1 l2 l3 l4 : AV) (a b : Int32) (st : List AV) (M : Mm) : run 18 64 [l0, l1, l2, l3, l4] (aI b :: aI a :: st) M = run 18 65 [l0, l1, l2, l3, l4] (aI (a + b) :: st) M := e_iadd d18_64
theorem d18_65 : decode (cod 18) 65 = .ok (.putfield 17, 3) := by decide +kernel
theorem r18_65 (l0 l1 l2 l3 l4 : AV) (v : Int32) (xg xi : Nat) (st : List AV) (M : Mm) : run 18 65 [l0, l1, l2, l3, l4] (aI v :: aR xg 0 xi :: st) M = run 18 68 [l0, l1, l2, l3, l4] st (wr M xg 0 xi 1 v) := e_pfi d18_65 rfl rfl rfl rfl
theorem d18_68 : decode (cod 18) 68 = .ok (.iconst 1, 1) := by decide +kernel
theorem r18_68 (l0 l1 l2 l3 l4 : AV) (st : List AV) (M : Mm) : run 18 68 [l0, l1, l2, l3, l4] st M = run 18 69 [l0, l1, l2, l3, l4] (aI 1 :: st) M := e_iconst 1 d18_68 (by decide +kernel)
theorem d18_69 : decode (cod 18) 69 = .ok (.ireturn, 1) := by decide +kernel
theorem r18_69 (l0 l1 l2 l3 l4 : AV) (v : Int32) (M : Mm) : run 18 69 [l0, l1, l2, l3, l4] [aI v] M = if v = 0 ∨ v = 1 then some (some v, M) else none := e_zret d18_69 rfl
theorem c19 (g0 i0 : Nat) (M : Mm) : call 19 [aR g0 0 i0] M = run 19 0 [aR g0 0 i0, none, none] [] M := call_run 19 _ _
theorem d19_0 : decode (cod 19) 0 = .ok (.aload_n 0, 1) := by decide +kernel
theorem r19_0 (l1 l2 : AV) (xg xi : Nat) (st : List AV) (M : Mm) : run 19 0 [aR xg 0 xi, l1, l2] st M = run 19 1 [aR xg 0 xi, l1, l2] (aR xg 0 xi :: st) M := e_aldn d19_0 rfl
theorem d19_1 : decode (cod 19) 1 = .ok (.getfield 42, 3) := by decide +kernel
theorem r19_1 (l0 l1 l2 : AV) (xg xi : Nat) (st : List AV) (M : Mm) : run 19 1 [l0, l1, l2] (aR xg 0 xi :: st) M = run 19 4 [l0, l1, l2] (aI (M xg 0 xi 8) :: st) M := e_gfi d19_1 rfl rfl rfl
theorem d19_4 : decode (cod 19) 4 = .ok (.istore_n 1, 1) := by decide +kernel
theorem r19_4 (l0 l1 l2 : AV) (x : Int32) (st : List AV) (M : Mm) : run 19 4 [l0, l1, l2] (aI x :: st) M = run 19 5 [l0, aI x, l2] st M := e_istn [l0, aI x, l2] d19_4 rfl rfl
theorem d19_5 : decode (cod 19) 5 = .ok (.iconst 0, 1) := by decide +kernel
theorem r19_5 (l0 l1 l2 : AV) (st : List AV) (M : Mm) : run 19 5 [l0, l1, l2] st M = run 19 6 [l0, l1, l2] (aI 0 :: st) M := e_iconst 0 d19_5 (by decide +kernel)
theorem d19_6 : decode (cod 19) 6 = .ok (.istore_n 2, 1) := by decide +kernel
theorem r19_6 (l0 l1 l2 : AV) (x : Int32) (st : List AV) (M : Mm) : run 19 6 [l0, l1, l2] (aI x :: st) M = run 19 7 [l0, l1, aI x] st M := e_istn [l0, l1, aI x] d19_6 rfl rfl
theorem d19_7 : decode (cod 19) 7 = .ok (.iload_n 2, 1) := by decide +kernel
theorem r19_7 (l0 l1 : AV) (x : Int32) (st : List AV) (M : Mm) : run 19 7 [l0, l1, aI x] st M = run 19 8 [l0, l1, aI x] (aI x :: st) M := e_ildn d19_7 rfl
theorem d19_8 : decode (cod 19) 8 = .ok (.aload_n 0, 1) := by decide +kernel
theorem r19_8 (l1 l2 : AV) (xg xi : Nat) (st : List AV) (M : Mm) : run 19 8 [aR xg 0 xi, l1, l2] st M = run 19 9 [aR xg 0 xi, l1, l2] (aR xg 0 xi :: st) M := e_aldn d19_8 rfl
theorem d19_9 : decode (cod 19) 9 = .ok (.getfield 17, 3) := by decide +kernel
theorem r19_9 (l0 l1 l2 : AV) (xg xi : Nat) (st : List AV) (M : Mm) : run 19 9 [l0, l1, l2] (aR xg 0 xi :: st) M = run 19 12 [l0, l1, l2] (aI (M xg 0 xi 1) :: st) M := e_gfi d19_9 rfl rfl rfl
theorem d19_12 : decode (cod 19) 12 = .ok (.if_icmp .ge 21, 3) := by decide +kernel
theorem r19_12 (l0 l1 l2 : AV) (a b : Int32) (st : List AV) (M : Mm) : run 19 12 [l0, l1, l2] (aI b :: aI a :: st) M = if a < b then run 19 15 [l0, l1, l2] st M else run 19 33 [l0, l1, l2] st M := e_ge2 33 d19_12 (by decide)
theorem d19_15 : decode (cod 19) 15 = .ok (.iload_n 1, 1) := by decide +kernel
theorem r19_15 (l0 l2 : AV) (x : Int32) (st : List AV) (M : Mm) : run 19 15 [l0, aI x, l2] st M = run 19 16 [l0, aI x, l2] (aI x :: st) M := e_ildn d19_15 rfl
theorem d19_16 : decode (cod 19) 16 = .ok (.aload_n 0, 1) := by decide +kernel
theorem r19_16 (l1 l2 : AV) (xg xi : Nat) (st : List AV) (M : Mm) : run 19 16 [aR xg 0 xi, l1, l2] st M = run 19 17 [aR xg 0 xi, l1, l2] (aR xg 0 xi :: st) M := e_aldn d19_16 rfl
theorem d19_17 : decode (cod 19) 17 = .ok (.getfield 11, 3) := by decide +kernel
theorem r19_17 (l0 l1 l2 : AV) (xg xi : Nat) (st : List AV) (M : Mm) : run 19 17 [l0, l1, l2] (aR xg 0 xi :: st) M = run 19 20 [l0, l1, l2] (aR xg 1 0 :: st) M := e_gfr (fun g => (g, 1, 0)) d19_17 rfl rfl rfl
theorem d19_20 : decode (cod 19) 20 = .ok (.iload_n 2, 1) := by decide +kernel
theorem r19_20 (l0 l1 : AV) (x : Int32) (st : List AV) (M : Mm) : run 19 20 [l0, l1, aI x] st M = run 19 21 [l0, l1, aI x] (aI x :: st) M := e_ildn d19_20 rfl
theorem d19_21 : decode (cod 19) 21 = .ok (.aaload, 1) := by decide +kernel
theorem r19_21 (l0 l1 l2 : AV) (i : Int32) (xg xi : Nat) (st : List AV) (M : Mm) : run 19 21 [l0, l1, l2] (aI i :: aR xg 1 xi :: st) M = if vpB i 4 = true then run 19 22 [l0, l1, l2] (aR xg 2 i.toNatClampNeg :: st) M else none := e_aal1 d19_21
theorem d19_22 : decode (cod 19) 22 = .ok (.getfield 94, 3) := by decide +kernel
theorem r19_22 (l0 l1 l2 : AV) (xg xi : Nat) (st : List AV) (M : Mm) : run 19 22 [l0, l1, l2] (aR xg 2 xi :: st) M = run 19 25 [l0, l1, l2] (aI (M xg 2 xi 4) :: st) M := e_gfi d19_22 rfl rfl rfl
theorem d19_25 : decode (cod 19) 25 = .ok (.iadd, 1) := by decide +kernel
theorem r19_25 (l0 l1 l2 : AV) (a b : Int32) (st : List AV) (M : Mm) : run 19 25 [l0, l1, l2] (aI b :: aI a :: st) M = run 19 26 [l0, l1, l2] (aI (a + b) :: st) M := e_iadd d19_25
theorem d19_26 : decode (cod 19) 26 = .ok (.istore_n 1, 1) := by decide +kernel
theorem r19_26 (l0 l1 l2 : AV) (x : Int32) (st : List AV) (M : Mm) : run 19 26 [l0, l1, l2] (aI x :: st) M = run 19 27 [l0, aI x, l2] st M := e_istn [l0, aI x, l2] d19_26 rfl rfl
theorem d19_27 : decode (cod 19) 27 = .ok (.iinc 2 1, 3) := by decide +kernel
theorem r19_27 (l0 l1 : AV) (x : Int32) (st : List AV) (M : Mm) : run 19 27 [l0, l1, aI x] st M = run 19 30 [l0, l1, aI (x + 1)] st M := e_iinc 1 [l0, l1, aI (x + 1)] d19_27 (by decide +kernel) rfl rfl
theorem d19_30 : decode (cod 19) 30 = .ok (.goto (-23), 3) := by decide +kernel
theorem r19_30 (l0 l1 l2 : AV) (st : List AV) (M : Mm) : run 19 30 [l0, l1, l2] st M = run 19 7 [l0, l1, l2] st M := e_goto 7 d19_30 (by decide)
theorem d19_33 : decode (cod 19) 33 = .ok (.iload_n 1, 1) := by decide +kernel
theorem r19_33 (l0 l2 : AV) (x : Int32) (st : List AV) (M : Mm) : run 19 33 [l0, aI x, l2] st M = run 19 34 [l0, aI x, l2] (aI x :: st) M := e_ildn d19_33 rfl
theorem d19_34 : decode (cod 19) 34 = .ok (.ireturn, 1) := by decide +kernel
theorem r19_34 (l0 l1 l2 : AV) (v : Int32) (M : Mm) : run 19 34 [l0, l1, l2] [aI v] M = some (some v, M) := e_iret d19_34 rfl
theorem c20 (g0 i0 : Nat) (x1 : Int32) (M : Mm) : call 20 [aR g0 0 i0, aI x1] M = run 20 0 [aR g0 0 i0, aI x1, none] [] M := call_run 20 _ _
theorem d20_0 : decode (cod 20) 0 = .ok (.aload_n 0, 1) := by decide +kernel
theorem r20_0 (l1 l2 : AV) (xg xi : Nat) (st : List AV) (M : Mm) : run 20 0 [aR xg 0 xi, l1, l2] st M = run 20 1 [aR xg 0 xi, l1, l2] (aR xg 0 xi :: st) M := e_aldn d20_0 rfl
theorem d20_1 : decode (cod 20) 1 = .ok (.getfield 67, 3) := by decide +kernel
theorem r20_1 (l0 l1 l2 : AV) (xg xi : Nat) (st : List AV) (M : Mm) : run 20 1 [l0, l1, l2] (aR xg 0 xi :: st) M = run 20 4 [l0, l1, l2] (aR xg 5 0 :: st) M := e_gfr (fun g => (g, 5, 0)) d20_1 rfl rfl rfl
theorem d20_4 : decode (cod 20) 4 = .ok (.invokevirtual 97, 3) := by decide +kernel
theorem r20_4 (l0 l1 l2 : AV) (a0g a0i : Nat) (M : Mm) : run 20 4 [l0, l1, l2] [aR a0g 5 a0i] M = cbV (call 28 [aR a0g 5 a0i] M) (fun M => run 20 7 [l0, l1, l2] [] M) := call_V (n := 1) rfl false d20_4 rfl rfl rfl rfl rfl rfl rfl
theorem d20_7 : decode (cod 20) 7 = .ok (.iconst 0, 1) := by decide +kernel
theorem r20_7 (l0 l1 l2 : AV) (st : List AV) (M : Mm) : run 20 7 [l0, l1, l2] st M = run 20 8 [l0, l1, l2] (aI 0 :: st) M := e_iconst 0 d20_7 (by decide +kernel)
theorem d20_8 : decode (cod 20) 8 = .ok (.istore_n 2, 1) := by decide +kernel
theorem r20_8 (l0 l1 l2 : AV) (x : Int32) (st : List AV) (M : Mm) : run 20 8 [l0, l1, l2] (aI x :: st) M = run 20 9 [l0, l1, aI x] st M := e_istn [l0, l1, aI x] d20_8 rfl rfl
theorem d20_9 : decode (cod 20) 9 = .ok (.iload_n 2, 1) := by decide +kernel
theorem r20_9 (l0 l1 : AV) (x : Int32) (st : List AV) (M : Mm) : run 20 9 [l0, l1, aI x] st M = run 20 10 [l0, l1, aI x] (aI x :: st) M := e_ildn d20_9 rfl
theorem d20_10 : decode (cod 20) 10 = .ok (.aload_n 0, 1) := by decide +kernel
theorem r20_10 (l1 l2 : AV) (xg xi : Nat) (st : List AV) (M : Mm) : run 20 10 [aR xg 0 xi, l1, l2] st M = run 20 11 [aR xg 0 xi, l1, l2] (aR xg 0 xi :: st) M := e_aldn d20_10 rfl
theorem d20_11 : decode (cod 20) 11 = .ok (.getfield 17, 3) := by decide +kernel
theorem r20_11 (l0 l1 l2 : AV) (xg xi : Nat) (st : List AV) (M : Mm) : run 20 11 [l0, l1, l2] (aR xg 0 xi :: st) M = run 20 14 [l0, l1, l2] (aI (M xg 0 xi 1) :: st) M := e_gfi d20_11 rfl rfl rfl
theorem d20_14 : decode (cod 20) 14 = .ok (.if_icmp .ge 29, 3) := by decide +kernel
theorem r20_14 (l0 l1 l2 : AV) (a b : Int32) (st : List AV) (M : Mm) : run 20 14 [l0, l1, l2] (aI b :: aI a :: st) M = if a < b then run 20 17 [l0, l1, l2] st M else run 20 43 [l0, l1, l2] st M := e_ge2 43 d20_14 (by decide)
theorem d20_17 : decode (cod 20) 17 = .ok (.aload_n 0, 1) := by decide +kernel
theorem r20_17 (l1 l2 : AV) (xg xi : Nat) (st : List AV) (M : Mm) : run 20 17 [aR xg 0 xi, l1, l2] st M = run 20 18 [aR xg 0 xi, l1, l2] (aR xg 0 xi :: st) M := e_aldn d20_17 rfl
theorem d20_18 : decode (cod 20) 18 = .ok (.getfield 11, 3) := by decide +kernel
theorem r20_18 (l0 l1 l2 : AV) (xg xi : Nat) (st : List AV) (M : Mm) : run 20 18 [l0, l1, l2] (aR xg 0 xi :: st) M = run 20 21 [l0, l1, l2] (aR xg 1 0 :: st) M := e_gfr (fun g => (g, 1, 0)) d20_18 rfl rfl rfl
theorem d20_21 : decode (cod 20) 21 = .ok (.iload_n 2, 1) := by decide +kernel
theorem r20_21 (l0 l1 : AV) (x : Int32) (st : List AV) (M : Mm) : run 20 21 [l0, l1, aI x] st M = run 20 22 [l0, l1, aI x] (aI x :: st) M := e_ildn d20_21 rfl
theorem d20_22 : decode (cod 20) 22 = .ok (.aaload, 1) := by decide +kernel
theorem r20_22 (l0 l1 l2 : AV) (i : Int32) (xg xi : Nat) (st : List AV) (M : Mm) : run 20 22 [l0, l1, l2] (aI i :: aR xg 1 xi :: st) M = if vpB i 4 = true then run 20 23 [l0, l1, l2] (aR xg 2 i.toNatClampNeg :: st) M else none := e_aal1 d20_22
theorem d20_23 : decode (cod 20) 23 = .ok (.iconst 0, 1) := by decide +kernel
theorem r20_23 (l0 l1 l2 : AV) (st : List AV) (M : Mm) : run 20 23 [l0, l1, l2] st M = run 20 24 [l0, l1, l2] (aI 0 :: st) M := e_iconst 0 d20_23 (by decide +kernel)
theorem d20_24 : decode (cod 20) 24 = .ok (.putfield 100, 3) := by decide +kernel
theorem r20_24 (l0 l1 l2 : AV) (v : Int32) (xg xi : Nat) (st : List AV) (M : Mm) : run 20 24 [l0, l1, l2] (aI v :: aR xg 2 xi :: st) M = run 20 27 [l0, l1, l2] st (wr M xg 2 xi 6 v) := e_pfi d20_24 rfl rfl rfl rfl
theorem d20_27 : decode (cod 20) 27 = .ok (.aload_n 0, 1) := by decide +kernel
theorem r20_27 (l1 l2 : AV) (xg xi : Nat) (st : List AV) (M : Mm) : run 20 27 [aR xg 0 xi, l1, l2] st M = run 20 28 [aR xg 0 xi, l1, l2] (aR xg 0 xi :: st) M := e_aldn d20_27 rfl
theorem d20_28 : decode (cod 20) 28 = .ok (.getfield 11, 3) := by decide +kernel
theorem r20_28 (l0 l1 l2 : AV) (xg xi : Nat) (st : List AV) (M : Mm) : run 20 28 [l0, l1, l2] (aR xg 0 xi :: st) M = run 20 31 [l0, l1, l2] (aR xg 1 0 :: st) M := e_gfr (fun g => (g, 1, 0)) d20_28 rfl rfl rfl
theorem d20_31 : decode (cod 20) 31 = .ok (.iload_n 2, 1) := by decide +kernel
theorem r20_31 (l0 l1 : AV) (x : Int32) (st : List AV) (M : Mm) : run 20 31 [l0, l1, aI x] st M = run 20 32 [l0, l1, aI x] (aI x :: st) M := e_ildn d20_31 rfl
theorem d20_32 : decode (cod 20) 32 = .ok (.aaload, 1) := by decide +kernel
theorem r20_32 (l0 l1 l2 : AV) (i : Int32) (xg xi : Nat) (st : List AV) (M : Mm) : run 20 32 [l0, l1, l2] (aI i :: aR xg 1 xi :: st) M = if vpB i 4 = true then run 20 33 [l0, l1, l2] (aR xg 2 i.toNatClampNeg :: st) M else none := e_aal1 d20_32
theorem d20_33 : decode (cod 20) 33 = .ok (.iconst 0, 1) := by decide +kernel
theorem r20_33 (l0 l1 l2 : AV) (st : List AV) (M : Mm) : run 20 33 [l0, l1, l2] st M = run 20 34 [l0, l1, l2] (aI 0 :: st) M := e_iconst 0 d20_33 (by decide +kernel)
theorem d20_34 : decode (cod 20) 34 = .ok (.putfield 103, 3) := by decide +kernel
theorem r20_34 (l0 l1 l2 : AV) (v : Int32) (xg xi : Nat) (st : List AV) (M : Mm) : run 20 34 [l0, l1, l2] (aI v :: aR xg 2 xi :: st) M = run 20 37 [l0, l1, l2] st (wr M xg 2 xi 7 v) := e_pfi d20_34 rfl rfl rfl rfl
theorem d20_37 : decode (cod 20) 37 = .ok (.iinc 2 1, 3) := by decide +kernel
theorem r20_37 (l0 l1 : AV) (x : Int32) (st : List AV) (M : Mm) : run 20 37 [l0, l1, aI x] st M = run 20 40 [l0, l1, aI (x + 1)] st M := e_iinc 1 [l0, l1, aI (x + 1)] d20_37 (by decide +kernel) rfl rfl
theorem d20_40 : decode (cod 20) 40 = .ok (.goto (-31), 3) := by decide +kernel
theorem r20_40 (l0 l1 l2 : AV) (st : List AV) (M : Mm) : run 20 40 [l0, l1, l2] st M = run 20 9 [l0, l1, l2] st M := e_goto 9 d20_40 (by decide)
theorem d20_43 : decode (cod 20) 43 = .ok (.aload_n 0, 1) := by decide +kernel
theorem r20_43 (l1 l2 : AV) (xg xi : Nat) (st : List AV) (M : Mm) : run 20 43 [aR xg 0 xi, l1, l2] st M = run 20 44 [aR xg 0 xi, l1, l2] (aR xg 0 xi :: st) M := e_aldn d20_43 rfl
theorem d20_44 : decode (cod 20) 44 = .ok (.getfield 67, 3) := by decide +kernel
theorem r20_44 (l0 l1 l2 : AV) (xg xi : Nat) (st : List AV) (M : Mm) : run 20 44 [l0, l1, l2] (aR xg 0 xi :: st) M = run 20 47 [l0, l1, l2] (aR xg 5 0 :: st) M := e_gfr (fun g => (g, 5, 0)) d20_44 rfl rfl rfl
theorem d20_47 : decode (cod 20) 47 = .ok (.getfield 106, 3) := by decide +kernel
theorem r20_47 (l0 l1 l2 : AV) (xg xi : Nat) (st : List AV) (M : Mm) : run 20 47 [l0, l1, l2] (aR xg 5 xi :: st) M = run 20 50 [l0, l1, l2] (aI (M xg 5 xi 0) :: st) M := e_gfi d20_47 rfl rfl rfl
theorem d20_50 : decode (cod 20) 50 = .ok (.iload_n 1, 1) := by decide +kernel
theorem r20_50 (l0 l2 : AV) (x : Int32) (st : List AV) (M : Mm) : run 20 50 [l0, aI x, l2] st M = run 20 51 [l0, aI x, l2] (aI x :: st) M := e_ildn d20_50 rfl
theorem d20_51 : decode (cod 20) 51 = .ok (.if_icmp .ge 113, 3) := by decide +kernel
theorem r20_51 (l0 l1 l2 : AV) (a b : Int32) (st : List AV) (M : Mm) : run 20 51 [l0, l1, l2] (aI b :: aI a :: st) M = if a < b then run 20 54 [l0, l1, l2] st M else run 20 164 [l0, l1, l2] st M := e_ge2 164 d20_51 (by decide)
theorem d20_54 : decode (cod 20) 54 = .ok (.iconst 0, 1) := by decide +kernel
theorem r20_54 (l0 l1 l2 : AV) (st : List AV) (M : Mm) : run 20 54 [l0, l1, l2] st M = run 20 55 [l0, l1, l2] (aI 0 :: st) M := e_iconst 0 d20_54 (by decide +kernel)
theorem d20_55 : decode (cod 20) 55 = .ok (.istore_n 2, 1) := by decide +kernel
theorem r20_55 (l0 l1 l2 : AV) (x : Int32) (st : List AV) (M : Mm) : run 20 55 [l0, l1, l2] (aI x :: st) M = run 20 56 [l0, l1, aI x] st M := e_istn [l0, l1, aI x] d20_55 rfl rfl
theorem d20_56 : decode (cod 20) 56 = .ok (.iload_n 2, 1) := by decide +kernel
theorem r20_56 (l0 l1 : AV) (x : Int32) (st : List AV) (M : Mm) : run 20 56 [l0, l1, aI x] st M = run 20 57 [l0, l1, aI x] (aI x :: st) M := e_ildn d20_56 rfl
theorem d20_57 : decode (cod 20) 57 = .ok (.aload_n 0, 1) := by decide +kernel
theorem r20_57 (l1 l2 : AV) (xg xi : Nat) (st : List AV) (M : Mm) : run 20 57 [aR xg 0 xi, l1, l2] st M = run 20 58 [aR xg 0 xi, l1, l2] (aR xg 0 xi :: st) M := e_aldn d20_57 rfl
theorem d20_58 : decode (cod 20) 58 = .ok (.getfield 27, 3) := by decide +kernel
theorem r20_58 (l0 l1 l2 : AV) (xg xi : Nat) (st : List AV) (M : Mm) : run 20 58 [l0, l1, l2] (aR xg 0 xi :: st) M = run 20 61 [l0, l1, l2] (aI (M xg 0 xi 3) :: st) M := e_gfi d20_58 rfl rfl rfl
theorem d20_61 : decode (cod 20) 61 = .ok (.if_icmp .ge 35, 3) := by decide +kernel
theorem r20_61 (l0 l1 l2 : AV) (a b : Int32) (st : List AV) (M : Mm) : run 20 61 [l0, l1, l2] (aI b :: aI a :: st) M = if a < b then run 20 64 [l0, l1, l2] st M else run 20 96 [l0, l1, l2] st M := e_ge2 96 d20_61 (by decide)
theorem d20_64 : decode (cod 20) 64 = .ok (.aload_n 0, 1) := by decide +kernel
theorem r20_64 (l1 l2 : AV) (xg xi : Nat) (st : List AV) (M : Mm) : run 20 64 [aR xg 0 xi, l1, l2] st M = run 20 65 [aR xg 0 xi, l1, l2] (aR xg 0 xi :: st) M := e_aldn d20_64 rfl
theorem d20_65 : decode (cod 20) 65 = .ok (.getfield 23, 3) := by decide +kernel
theorem r20_65 (l0 l1 l2 : AV) (xg xi : Nat) (st : List AV) (M : Mm) : run 20 65 [l0, l1, l2] (aR xg 0 xi :: st) M = run 20 68 [l0, l1, l2] (aR xg 3 0 :: st) M := e_gfr (fun g => (g, 3, 0)) d20_65 rfl rfl rfl
theorem d20_68 : decode (cod 20) 68 = .ok (.iload_n 2, 1) := by decide +kernel
theorem r20_68 (l0 l1 : AV) (x : Int32) (st : List AV) (M : Mm) : run 20 68 [l0, l1, aI x] st M = run 20 69 [l0, l1, aI x] (aI x :: st) M := e_ildn d20_68 rfl
theorem d20_69 : decode (cod 20) 69 = .ok (.aaload, 1) := by decide +kernel
theorem r20_69 (l0 l1 l2 : AV) (i : Int32) (xg xi : Nat) (st : List AV) (M : Mm) : run 20 69 [l0, l1, l2] (aI i :: aR xg 3 xi :: st) M = if vpB i 3 = true then run 20 70 [l0, l1, l2] (aR xg 4 i.toNatClampNeg :: st) M else none := e_aal3 d20_69
theorem d20_70 : decode (cod 20) 70 = .ok (.getfield 80, 3) := by decide +kernel
theorem r20_70 (l0 l1 l2 : AV) (xg xi : Nat) (st : List AV) (M : Mm) : run 20 70 [l0, l1, l2] (aR xg 4 xi :: st) M = run 20 73 [l0, l1, l2] (aI (M xg 4 xi 0) :: st) M := e_gfi d20_70 rfl rfl rfl
theorem d20_73 : decode (cod 20) 73 = .ok (.ifCond .ne 17, 3) := by decide +kernel
theorem r20_73 (l0 l1 l2 : AV) (a : Int32) (st : List AV) (M : Mm) : run 20 73 [l0, l1, l2] (aI a :: st) M = if a = 0 then run 20 76 [l0, l1, l2] st M else run 20 90 [l0, l1, l2] st M := e_ne1 90 d20_73 (by decide)
theorem d20_76 : decode (cod 20) 76 = .ok (.aload_n 0, 1) := by decide +kernel
theorem r20_76 (l1 l2 : AV) (xg xi : Nat) (st : List AV) (M : Mm) : run 20 76 [aR xg 0 xi, l1, l2] st M = run 20 77 [aR xg 0 xi, l1, l2] (aR xg 0 xi :: st) M := e_aldn d20_76 rfl
theorem d20_77 : decode (cod 20) 77 = .ok (.aload_n 0, 1) := by decide +kernel
theorem r20_77 (l1 l2 : AV) (xg xi : Nat) (st : List AV) (M : Mm) : run 20 77 [aR xg 0 xi, l1, l2] st M = run 20 78 [aR xg 0 xi, l1, l2] (aR xg 0 xi :: st) M := e_aldn d20_77 rfl
theorem d20_78 : decode (cod 20) 78 = .ok (.getfield 23, 3) := by decide +kernel
theorem r20_78 (l0 l1 l2 : AV) (xg xi : Nat) (st : List AV) (M : Mm) : run 20 78 [l0, l1, l2] (aR xg 0 xi :: st) M = run 20 81 [l0, l1, l2] (aR xg 3 0 :: st) M := e_gfr (fun g => (g, 3, 0)) d20_78 rfl rfl rfl
theorem d20_81 : decode (cod 20) 81 = .ok (.iload_n 2, 1) := by decide +kernel
theorem r20_81 (l0 l1 : AV) (x : Int32) (st : List AV) (M : Mm) : run 20 81 [l0, l1, aI x] st M = run 20 82 [l0, l1, aI x] (aI x :: st) M := e_ildn d20_81 rfl
theorem d20_82 : decode (cod 20) 82 = .ok (.aaload, 1) := by decide +kernel
theorem r20_82 (l0 l1 l2 : AV) (i : Int32) (xg xi : Nat) (st : List AV) (M : Mm) : run 20 82 [l0, l1, l2] (aI i :: aR xg 3 xi :: st) M = if vpB i 3 = true then run 20 83 [l0, l1, l2] (aR xg 4 i.toNatClampNeg :: st) M else none := e_aal3 d20_82
theorem d20_83 : decode (cod 20) 83 = .ok (.aload_n 0, 1) := by decide +kernel
theorem r20_83 (l1 l2 : AV) (xg xi : Nat) (st : List AV) (M : Mm) : run 20 83 [aR xg 0 xi, l1, l2] st M = run 20 84 [aR xg 0 xi, l1, l2] (aR xg 0 xi :: st) M := e_aldn d20_83 rfl
theorem d20_84 : decode (cod 20) 84 = .ok (.invokevirtual 109, 3) := by decide +kernel
theorem r20_84 (l0 l1 l2 : AV) (a0g a0i : Nat) (t0 t1 : AV) (M : Mm) : run 20 84 [l0, l1, l2] [aR a0g 0 a0i, t0, t1] M = cbI (call 22 [aR a0g 0 a0i] M) (fun v M => run 20 87 [l0, l1, l2] [aI v, t0, t1] M) := call_I (n := 1) rfl false d20_84 rfl rfl rfl rfl rfl rfl rfl
theorem d20_87 : decode (cod 20) 87 = .ok (.invokevirtual 113, 3) := by decide +kernel
theorem r20_87 (l0 l1 l2 : AV) (a0g a0i : Nat) (a1g a1i : Nat) (a2 : Int32) (M : Mm) : run 20 87 [l0, l1, l2] [aI a2, aR a1g 4 a1i, aR a0g 0 a0i] M = cbV (call 21 [aR a0g 0 a0i, aR a1g 4 a1i, aI a2] M) (fun M => run 20 90 [l0, l1, l2] [] M) := call_V (n := 3) rfl false d20_87 rfl rfl rfl rfl rfl rfl rfl
theorem d20_90 : decode (cod 20) 90 = .ok (.iinc 2 1, 3) := by decide +kernel
theorem r20_90 (l0 l1 : AV) (x : Int32) (st : List AV) (M : Mm) : run 20 90 [l0, l1, aI x] st M = run 20 93 [l0, l1, aI (x + 1)] st M := e_iinc 1 [l0, l1, aI (x + 1)] d20_90 (by decide +kernel) rfl rfl
theorem d20_93 : decode (cod 20) 93 = .ok (.goto (-37), 3) := by decide +kernel
theorem r20_93 (l0 l1 l2 : AV) (st : List AV) (M : Mm) : run 20 93 [l0, l1, l2] st M = run 20 56 [l0, l1, l2] st M := e_goto 56 d20_93 (by decide)
theorem d20_96 : decode (cod 20) 96 = .ok (.aload_n 0, 1) := by decide +kernel
theorem r20_96 (l1 l2 : AV) (xg xi : Nat) (st : List AV) (M : Mm) : run 20 96 [aR xg 0 xi, l1, l2] st M = run 20 97 [aR xg 0 xi, l1, l2] (aR xg 0 xi :: st) M := e_aldn d20_96 rfl
theorem d20_97 : decode (cod 20) 97 = .ok (.invokevirtual 117, 3) := by decide +kernel
theorem r20_97 (l0 l1 l2 : AV) (a0g a0i : Nat) (M : Mm) : run 20 97 [l0, l1, l2] [aR a0g 0 a0i] M = cbV (call 25 [aR a0g 0 a0i] M) (fun M => run 20 100 [l0, l1, l2] [] M) := call_V (n := 1) rfl false d20_97 rfl rfl rfl rfl rfl rfl rfl
theorem d20_100 : decode (cod 20) 100 = .ok (.iconst 0, 1) := by decide +kernel
theorem r20_100 (l0 l1 l2 : AV) (st : List AV) (M : Mm) : run 20 100 [l0, l1, l2] st M = run 20 101 [l0, l1, l2] (aI 0 :: st) M := e_iconst 0 d20_100 (by decide +kernel)
theorem d20_101 : decode (cod 20) 101 = .ok (.istore_n 2, 1) := by decide +kernel
theorem r20_101 (l0 l1 l2 : AV) (x : Int32) (st : List AV) (M : Mm) : run 20 101 [l0, l1, l2] (aI x :: st) M = run 20 102 [l0, l1, aI x] st M := e_istn [l0, l1, aI x] d20_101 rfl rfl
theorem d20_102 : decode (cod 20) 102 = .ok (.iload_n 2, 1) := by decide +kernel
theorem r20_102 (l0 l1 : AV) (x : Int32) (st : List AV) (M : Mm) : run 20 102 [l0, l1, aI x] st M = run 20 103 [l0, l1, aI x] (aI x :: st) M := e_ildn d20_102 rfl
theorem d20_103 : decode (cod 20) 103 = .ok (.aload_n 0, 1) := by decide +kernel
theorem r20_103 (l1 l2 : AV) (xg xi : Nat) (st : List AV) (M : Mm) : run 20 103 [aR xg 0 xi, l1, l2] st M = run 20 104 [aR xg 0 xi, l1, l2] (aR xg 0 xi :: st) M := e_aldn d20_103 rfl
theorem d20_104 : decode (cod 20) 104 = .ok (.getfield 27, 3) := by decide +kernel
theorem r20_104 (l0 l1 l2 : AV) (xg xi : Nat) (st : List AV) (M : Mm) : run 20 104 [l0, l1, l2] (aR xg 0 xi :: st) M = run 20 107 [l0, l1, l2] (aI (M xg 0 xi 3) :: st) M := e_gfi d20_104 rfl rfl rfl
theorem d20_107 : decode (cod 20) 107 = .ok (.if_icmp .ge 31, 3) := by decide +kernel
theorem r20_107 (l0 l1 l2 : AV) (a b : Int32) (st : List AV) (M : Mm) : run 20 107 [l0, l1, l2] (aI b :: aI a :: st) M = if a < b then run 20 110 [l0, l1, l2] st M else run 20 138 [l0, l1, l2] st M := e_ge2 138 d20_107 (by decide)
theorem d20_110 : decode (cod 20) 110 = .ok (.aload_n 0, 1) := by decide +kernel
theorem r20_110 (l1 l2 : AV) (xg xi : Nat) (st : List AV) (M : Mm) : run 20 110 [aR xg 0 xi, l1, l2] st M = run 20 111 [aR xg 0 xi, l1, l2] (aR xg 0 xi :: st) M := e_aldn d20_110 rfl
theorem d20_111 : decode (cod 20) 111 = .ok (.getfield 23, 3) := by decide +kernel
theorem r20_111 (l0 l1 l2 : AV) (xg xi : Nat) (st : List AV) (M : Mm) : run 20 111 [l0, l1, l2] (aR xg 0 xi :: st) M = run 20 114 [l0, l1, l2] (aR xg 3 0 :: st) M := e_gfr (fun g => (g, 3, 0)) d20_111 rfl rfl rfl
theorem d20_114 : decode (cod 20) 114 = .ok (.iload_n 2, 1) := by decide +kernel
theorem r20_114 (l0 l1 : AV) (x : Int32) (st : List AV) (M : Mm) : run 20 114 [l0, l1, aI x] st M = run 20 115 [l0, l1, aI x] (aI x :: st) M := e_ildn d20_114 rfl
theorem d20_115 : decode (cod 20) 115 = .ok (.aaload, 1) := by decide +kernel
theorem r20_115 (l0 l1 l2 : AV) (i : Int32) (xg xi : Nat) (st : List AV) (M : Mm) : run 20 115 [l0, l1, l2] (aI i :: aR xg 3 xi :: st) M = if vpB i 3 = true then run 20 116 [l0, l1, l2] (aR xg 4 i.toNatClampNeg :: st) M else none := e_aal3 d20_115
theorem d20_116 : decode (cod 20) 116 = .ok (.getfield 80, 3) := by decide +kernel
theorem r20_116 (l0 l1 l2 : AV) (xg xi : Nat) (st : List AV) (M : Mm) : run 20 116 [l0, l1, l2] (aR xg 4 xi :: st) M = run 20 119 [l0, l1, l2] (aI (M xg 4 xi 0) :: st) M := e_gfi d20_116 rfl rfl rfl
theorem d20_119 : decode (cod 20) 119 = .ok (.ifCond .eq 13, 3) := by decide +kernel
theorem r20_119 (l0 l1 l2 : AV) (a : Int32) (st : List AV) (M : Mm) : run 20 119 [l0, l1, l2] (aI a :: st) M = if a = 0 then run 20 132 [l0, l1, l2] st M else run 20 122 [l0, l1, l2] st M := e_eq1 132 d20_119 (by decide)
theorem d20_122 : decode (cod 20) 122 = .ok (.aload_n 0, 1) := by decide +kernel
theorem r20_122 (l1 l2 : AV) (xg xi : Nat) (st : List AV) (M : Mm) : run 20 122 [aR xg 0 xi, l1, l2] st M = run 20 123 [aR xg 0 xi, l1, l2] (aR xg 0 xi :: st) M := e_aldn d20_122 rfl
theorem d20_123 : decode (cod 20) 123 = .ok (.aload_n 0, 1) := by decide +kernel
theorem r20_123 (l1 l2 : AV) (xg xi : Nat) (st : List AV) (M : Mm) : run 20 123 [aR xg 0 xi, l1, l2] st M = run 20 124 [aR xg 0 xi, l1, l2] (aR xg 0 xi :: st) M := e_aldn d20_123 rfl
theorem d20_124 : decode (cod 20) 124 = .ok (.getfield 23, 3) := by decide +kernel
theorem r20_124 (l0 l1 l2 : AV) (xg xi : Nat) (st : List AV) (M : Mm) : run 20 124 [l0, l1, l2] (aR xg 0 xi :: st) M = run 20 127 [l0, l1, l2] (aR xg 3 0 :: st) M := e_gfr (fun g => (g, 3, 0)) d20_124 rfl rfl rfl
theorem d20_127 : decode (cod 20) 127 = .ok (.iload_n 2, 1) := by decide +kernel
theorem r20_127 (l0 l1 : AV) (x : Int32) (st : List AV) (M : Mm) : run 20 127 [l0, l1, aI x] st M = run 20 128 [l0, l1, aI x] (aI x :: st) M := e_ildn d20_127 rfl
theorem d20_128 : decode (cod 20) 128 = .ok (.aaload, 1) := by decide +kernel
theorem r20_128 (l0 l1 l2 : AV) (i : Int32) (xg xi : Nat) (st : List AV) (M : Mm) : run 20 128 [l0, l1, l2] (aI i :: aR xg 3 xi :: st) M = if vpB i 3 = true then run 20 129 [l0, l1, l2] (aR xg 4 i.toNatClampNeg :: st) M else none := e_aal3 d20_128
theorem d20_129 : decode (cod 20) 129 = .ok (.invokevirtual 120, 3) := by decide +kernel
theorem r20_129 (l0 l1 l2 : AV) (a0g a0i : Nat) (a1g a1i : Nat) (M : Mm) : run 20 129 [l0, l1, l2] [aR a1g 4 a1i, aR a0g 0 a0i] M = cbV (call 26 [aR a0g 0 a0i, aR a1g 4 a1i] M) (fun M => run 20 132 [l0, l1, l2] [] M) := call_V (n := 2) rfl false d20_129 rfl rfl rfl rfl rfl rfl rfl
theorem d20_132 : decode (cod 20) 132 = .ok (.iinc 2 1, 3) := by decide +kernel
theorem r20_132 (l0 l1 : AV) (x : Int32) (st : List AV) (M : Mm) : run 20 132 [l0, l1, aI x] st M = run 20 135 [l0, l1, aI (x + 1)] st M := e_iinc 1 [l0, l1, aI (x + 1)] d20_132 (by decide +kernel) rfl rfl
theorem d20_135 : decode (cod 20) 135 = .ok (.goto (-33), 3) := by decide +kernel
theorem r20_135 (l0 l1 l2 : AV) (st : List AV) (M : Mm) : run 20 135 [l0, l1, l2] st M = run 20 102 [l0, l1, l2] st M := e_goto 102 d20_135 (by decide)
theorem d20_138 : decode (cod 20) 138 = .ok (.aload_n 0, 1) := by decide +kernel
theorem r20_138 (l1 l2 : AV) (xg xi : Nat) (st : List AV) (M : Mm) : run 20 138 [aR xg 0 xi, l1, l2] st M = run 20 139 [aR xg 0 xi, l1, l2] (aR xg 0 xi :: st) M := e_aldn d20_138 rfl
theorem d20_139 : decode (cod 20) 139 = .ok (.dup, 1) := by decide +kernel
theorem r20_139 (l0 l1 l2 : AV) (xg xi : Nat) (st : List AV) (M : Mm) : run 20 139 [l0, l1, l2] (aR xg 0 xi :: st) M = run 20 140 [l0, l1, l2] (aR xg 0 xi :: aR xg 0 xi :: st) M := e_dup d20_139
theorem d20_140 : decode (cod 20) 140 = .ok (.getfield 48, 3) := by decide +kernel
theorem r20_140 (l0 l1 l2 : AV) (xg xi : Nat) (st : List AV) (M : Mm) : run 20 140 [l0, l1, l2] (aR xg 0 xi :: st) M = run 20 143 [l0, l1, l2] (aI (M xg 0 xi 10) :: st) M := e_gfi d20_140 rfl rfl rfl
theorem d20_143 : decode (cod 20) 143 = .ok (.iconst 1, 1) := by decide +kernel
theorem r20_143 (l0 l1 l2 : AV) (st : List AV) (M : Mm) : run 20 143 [l0, l1, l2] st M = run 20 144 [l0, l1, l2] (aI 1 :: st) M := e_iconst 1 d20_143 (by decide +kernel)
theorem d20_144 : decode (cod 20) 144 = .ok (.iadd, 1) := by decide +kernel
theorem r20_144 (l0 l1 l2 : AV) (a b : Int32) (st : List AV) (M : Mm) : run 20 144 [l0, l1, l2] (aI b :: aI a :: st) M = run 20 145 [l0, l1, l2] (aI (a + b) :: st) M := e_iadd d20_144
theorem d20_145 : decode (cod 20) 145 = .ok (.putfield 48, 3) := by decide +kernel
theorem r20_145 (l0 l1 l2 : AV) (v : Int32) (xg xi : Nat) (st : List AV) (M : Mm) : run 20 145 [l0, l1, l2] (aI v :: aR xg 0 xi :: st) M = run 20 148 [l0, l1, l2] st (wr M xg 0 xi 10 v) := e_pfi d20_145 rfl rfl rfl rfl
theorem d20_148 : decode (cod 20) 148 = .ok (.aload_n 0, 1) := by decide +kernel
theorem r20_148 (l1 l2 : AV) (xg xi : Nat) (st : List AV) (M : Mm) : run 20 148 [aR xg 0 xi, l1, l2] st M = run 20 149 [aR xg 0 xi, l1, l2] (aR xg 0 xi :: st) M := e_aldn d20_148 rfl
theorem d20_149 : decode (cod 20) 149 = .ok (.getfield 67, 3) := by decide +kernel
theorem r20_149 (l0 l1 l2 : AV) (xg xi : Nat) (st : List AV) (M : Mm) : run 20 149 [l0, l1, l2] (aR xg 0 xi :: st) M = run 20 152 [l0, l1, l2] (aR xg 5 0 :: st) M := e_gfr (fun g => (g, 5, 0)) d20_149 rfl rfl rfl
theorem d20_152 : decode (cod 20) 152 = .ok (.dup, 1) := by decide +kernel
theorem r20_152 (l0 l1 l2 : AV) (xg xi : Nat) (st : List AV) (M : Mm) : run 20 152 [l0, l1, l2] (aR xg 5 xi :: st) M = run 20 153 [l0, l1, l2] (aR xg 5 xi :: aR xg 5 xi :: st) M := e_dup d20_152
theorem d20_153 : decode (cod 20) 153 = .ok (.getfield 106, 3) := by decide +kernel
theorem r20_153 (l0 l1 l2 : AV) (xg xi : Nat) (st : List AV) (M : Mm) : run 20 153 [l0, l1, l2] (aR xg 5 xi :: st) M = run 20 156 [l0, l1, l2] (aI (M xg 5 xi 0) :: st) M := e_gfi d20_153 rfl rfl rfl
theorem d20_156 : decode (cod 20) 156 = .ok (.iconst 1, 1) := by decide +kernel
theorem r20_156 (l0 l1 l2 : AV) (st : List AV) (M : Mm) : run 20 156 [l0, l1, l2] st M = run 20 157 [l0, l1, l2] (aI 1 :: st) M := e_iconst 1 d20_156 (by decide +kernel)
theorem d20_157 : decode (cod 20) 157 = .ok (.iadd, 1) := by decide +kernel
theorem r20_157 (l0 l1 l2 : AV) (a b : Int32) (st : List AV) (M : Mm) : run 20 157 [l0, l1, l2] (aI b :: aI a :: st) M = run 20 158 [l0, l1, l2] (aI (a + b) :: st) M := e_iadd d20_157
theorem d20_158 : decode (cod 20) 158 = .ok (.putfield 106, 3) := by decide +kernel
theorem r20_158 (l0 l1 l2 : AV) (v : Int32) (xg xi : Nat) (st : List AV) (M : Mm) : run 20 158 [l0, l1, l2] (aI v :: aR xg 5 xi :: st) M = run 20 161 [l0, l1, l2] st (wr M xg 5 xi 0 v) := e_pfi d20_158 rfl rfl rfl rfl
theorem d20_161 : decode (cod 20) 161 = .ok (.goto (-118), 3) := by decide +kernel
theorem r20_161 (l0 l1 l2 : AV) (st : List AV) (M : Mm) : run 20 161 [l0, l1, l2] st M = run 20 43 [l0, l1, l2] st M := e_goto 43 d20_161 (by decide)
theorem d20_164 : decode (cod 20) 164 = .ok (.aload_n 0, 1) := by decide +kernel
theorem r20_164 (l1 l2 : AV) (xg xi : Nat) (st : List AV) (M : Mm) : run 20 164 [aR xg 0 xi, l1, l2] st M = run 20 165 [aR xg 0 xi, l1, l2] (aR xg 0 xi :: st) M := e_aldn d20_164 rfl
theorem d20_165 : decode (cod 20) 165 = .ok (.dup, 1) := by decide +kernel
theorem r20_165 (l0 l1 l2 : AV) (xg xi : Nat) (st : List AV) (M : Mm) : run 20 165 [l0, l1, l2] (aR xg 0 xi :: st) M = run 20 166 [l0, l1, l2] (aR xg 0 xi :: aR xg 0 xi :: st) M := e_dup d20_165
theorem d20_166 : decode (cod 20) 166 = .ok (.getfield 51, 3) := by decide +kernel
theorem r20_166 (l0 l1 l2 : AV) (xg xi : Nat) (st : List AV) (M : Mm) : run 20 166 [l0, l1, l2] (aR xg 0 xi :: st) M = run 20 169 [l0, l1, l2] (aI (M xg 0 xi 11) :: st) M := e_gfi d20_166 rfl rfl rfl
theorem d20_169 : decode (cod 20) 169 = .ok (.aload_n 0, 1) := by decide +kernel
theorem r20_169 (l1 l2 : AV) (xg xi : Nat) (st : List AV) (M : Mm) : run 20 169 [aR xg 0 xi, l1, l2] st M = run 20 170 [aR xg 0 xi, l1, l2] (aR xg 0 xi :: st) M := e_aldn d20_169 rfl
theorem d20_170 : decode (cod 20) 170 = .ok (.getfield 67, 3) := by decide +kernel
theorem r20_170 (l0 l1 l2 : AV) (xg xi : Nat) (st : List AV) (M : Mm) : run 20 170 [l0, l1, l2] (aR xg 0 xi :: st) M = run 20 173 [l0, l1, l2] (aR xg 5 0 :: st) M := e_gfr (fun g => (g, 5, 0)) d20_170 rfl rfl rfl
theorem d20_173 : decode (cod 20) 173 = .ok (.getfield 123, 3) := by decide +kernel
theorem r20_173 (l0 l1 l2 : AV) (xg xi : Nat) (st : List AV) (M : Mm) : run 20 173 [l0, l1, l2] (aR xg 5 xi :: st) M = run 20 176 [l0, l1, l2] (aI (M xg 5 xi 1) :: st) M := e_gfi d20_173 rfl rfl rfl
theorem d20_176 : decode (cod 20) 176 = .ok (.iadd, 1) := by decide +kernel
theorem r20_176 (l0 l1 l2 : AV) (a b : Int32) (st : List AV) (M : Mm) : run 20 176 [l0, l1, l2] (aI b :: aI a :: st) M = run 20 177 [l0, l1, l2] (aI (a + b) :: st) M := e_iadd d20_176
theorem d20_177 : decode (cod 20) 177 = .ok (.putfield 51, 3) := by decide +kernel
theorem r20_177 (l0 l1 l2 : AV) (v : Int32) (xg xi : Nat) (st : List AV) (M : Mm) : run 20 177 [l0, l1, l2] (aI v :: aR xg 0 xi :: st) M = run 20 180 [l0, l1, l2] st (wr M xg 0 xi 11 v) := e_pfi d20_177 rfl rfl rfl rfl
theorem d20_180 : decode (cod 20) 180 = .ok (.return_, 1) := by decide +kernel
theorem r20_180 (l0 l1 l2 : AV) (M : Mm) : run 20 180 [l0, l1, l2] [] M = some (none, M) := e_vret d20_180 rfl
theorem c21 (g0 i0 : Nat) (g1 i1 : Nat) (x2 : Int32) (M : Mm) : call 21 [aR g0 0 i0, aR g1 4 i1, aI x2] M = run 21 0 [aR g0 0 i0, aR g1 4 i1, aI x2, none] [] M := call_run 21 _ _
theorem d21_0 : decode (cod 21) 0 = .ok (.aload_n 0, 1) := by decide +kernel
theorem r21_0 (l1 l2 l3 : AV) (xg xi : Nat) (st : List AV) (M : Mm) : run 21 0 [aR xg 0 xi, l1, l2, l3] st M = run 21 1 [aR xg 0 xi, l1, l2, l3] (aR xg 0 xi :: st) M := e_aldn d21_0 rfl
theorem d21_1 : decode (cod 21) 1 = .ok (.iload_n 2, 1) := by decide +kernel
theorem r21_1 (l0 l1 l3 : AV) (x : Int32) (st : List AV) (M : Mm) : run 21 1 [l0, l1, aI x, l3] st M = run 21 2 [l0, l1, aI x, l3] (aI x :: st) M := e_ildn d21_1 rfl
theorem d21_2 : decode (cod 21) 2 = .ok (.invokevirtual 126, 3) := by decide +kernel
theorem r21_2 (l0 l1 l2 l3 : AV) (a0g a0i : Nat) (a1 : Int32) (M : Mm) : run 21 2 [l0, l1, l2, l3] [aI a1, aR a0g 0 a0i] M = cbI (call 12 [aR a0g 0 a0i, aI a1] M) (fun v M => run 21 5 [l0, l1, l2, l3] [aI v] M) := call_I (n := 2) rfl false d21_2 rfl rfl rfl rfl rfl rfl rfl
theorem d21_5 : decode (cod 21) 5 = .ok (.ifCond .ne 4, 3) := by decide +kernel
theorem r21_5 (l0 l1 l2 l3 : AV) (a : Int32) (st : List AV) (M : Mm) : run 21 5 [l0, l1, l2, l3] (aI a :: st) M = if a = 0 then run 21 8 [l0, l1, l2, l3] st M else run 21 9 [l0, l1, l2, l3] st M := e_ne1 9 d21_5 (by decide)
theorem d21_8 : decode (cod 21) 8 = .ok (.return_, 1) := by decide +kernel
theorem r21_8 (l0 l1 l2 l3 : AV) (M : Mm) : run 21 8 [l0, l1, l2, l3] [] M = some (none, M) := e_vret d21_8 rfl
theorem d21_9 : decode (cod 21) 9 = .ok (.aload_n 0, 1) := by decide +kernel
theorem r21_9 (l1 l2 l3 : AV) (xg xi : Nat) (st : List AV) (M : Mm) : run 21 9 [aR xg 0 xi, l1, l2, l3] st M = run 21 10 [aR xg 0 xi, l1, l2, l3] (aR xg 0 xi :: st) M := e_aldn d21_9 rfl
theorem d21_10 : decode (cod 21) 10 = .ok (.getfield 11, 3) := by decide +kernel
theorem r21_10 (l0 l1 l2 l3 : AV) (xg xi : Nat) (st : List AV) (M : Mm) : run 21 10 [l0, l1, l2, l3] (aR xg 0 xi :: st) M = run 21 13 [l0, l1, l2, l3] (aR xg 1 0 :: st) M := e_gfr (fun g => (g, 1, 0)) d21_10 rfl rfl rfl
theorem d21_13 : decode (cod 21) 13 = .ok (.iload_n 2, 1) := by decide +kernel
theorem r21_13 (l0 l1 l3 : AV) (x : Int32) (st : List AV) (M : Mm) : run 21 13 [l0, l1, aI x, l3] st M = run 21 14 [l0, l1, aI x, l3] (aI x :: st) M := e_ildn d21_13 rfl
theorem d21_14 : decode (cod 21) 14 = .ok (.aaload, 1) := by decide +kernel
theorem r21_14 (l0 l1 l2 l3 : AV) (i : Int32) (xg xi : Nat) (st : List AV) (M : Mm) : run 21 14 [l0, l1, l2, l3] (aI i :: aR xg 1 xi :: st) M = if vpB i 4 = true then run 21 15 [l0, l1, l2, l3] (aR xg 2 i.toNatClampNeg :: st) M else none := e_aal1 d21_14
theorem d21_15 : decode (cod 21) 15 = .ok (.getfield 94, 3) := by decide +kernel
theorem r21_15 (l0 l1 l2 l3 : AV) (xg xi : Nat) (st : List AV) (M : Mm) : run 21 15 [l0, l1, l2, l3] (aR xg 2 xi :: st) M = run 21 18 [l0, l1, l2, l3] (aI (M xg 2 xi 4) :: st) M := e_gfi d21_15 rfl rfl rfl
theorem d21_18 : decode (cod 21) 18 = .ok (.aload_n 0, 1) := by decide +kernel
theorem r21_18 (l1 l2 l3 : AV) (xg xi : Nat) (st : List AV) (M : Mm) : run 21 18 [aR xg 0 xi, l1, l2, l3] st M = run 21 19 [aR xg 0 xi, l1, l2, l3] (aR xg 0 xi :: st) M := e_aldn d21_18 rfl
theorem d21_19 : decode (cod 21) 19 = .ok (.getfield 11, 3) := by decide +kernel
theorem r21_19 (l0 l1 l2 l3 : AV) (xg xi : Nat) (st : List AV) (M : Mm) : run 21 19 [l0, l1, l2, l3] (aR xg 0 xi :: st) M = run 21 22 [l0, l1, l2, l3] (aR xg 1 0 :: st) M := e_gfr (fun g => (g, 1, 0)) d21_19 rfl rfl rfl
theorem d21_22 : decode (cod 21) 22 = .ok (.iload_n 2, 1) := by decide +kernel
theorem r21_22 (l0 l1 l3 : AV) (x : Int32) (st : List AV) (M : Mm) : run 21 22 [l0, l1, aI x, l3] st M = run 21 23 [l0, l1, aI x, l3] (aI x :: st) M := e_ildn d21_22 rfl
theorem d21_23 : decode (cod 21) 23 = .ok (.aaload, 1) := by decide +kernel
theorem r21_23 (l0 l1 l2 l3 : AV) (i : Int32) (xg xi : Nat) (st : List AV) (M : Mm) : run 21 23 [l0, l1, l2, l3] (aI i :: aR xg 1 xi :: st) M = if vpB i 4 = true then run 21 24 [l0, l1, l2, l3] (aR xg 2 i.toNatClampNeg :: st) M else none := e_aal1 d21_23
theorem d21_24 : decode (cod 21) 24 = .ok (.getfield 130, 3) := by decide +kernel
theorem r21_24 (l0 l1 l2 l3 : AV) (xg xi : Nat) (st : List AV) (M : Mm) : run 21 24 [l0, l1, l2, l3] (aR xg 2 xi :: st) M = run 21 27 [l0, l1, l2, l3] (aI (M xg 2 xi 5) :: st) M := e_gfi d21_24 rfl rfl rfl
theorem d21_27 : decode (cod 21) 27 = .ok (.if_icmp .gt 7, 3) := by decide +kernel
theorem r21_27 (l0 l1 l2 l3 : AV) (a b : Int32) (st : List AV) (M : Mm) : run 21 27 [l0, l1, l2, l3] (aI b :: aI a :: st) M = if b < a then run 21 34 [l0, l1, l2, l3] st M else run 21 30 [l0, l1, l2, l3] st M := e_gt2 34 d21_27 (by decide)
theorem d21_30 : decode (cod 21) 30 = .ok (.iconst 1, 1) := by decide +kernel
theorem r21_30 (l0 l1 l2 l3 : AV) (st : List AV) (M : Mm) : run 21 30 [l0, l1, l2, l3] st M = run 21 31 [l0, l1, l2, l3] (aI 1 :: st) M := e_iconst 1 d21_30 (by decide +kernel)
theorem d21_31 : decode (cod 21) 31 = .ok (.goto 4, 3) := by decide +kernel
theorem r21_31 (l0 l1 l2 l3 : AV) (st : List AV) (M : Mm) : run 21 31 [l0, l1, l2, l3] st M = run 21 35 [l0, l1, l2, l3] st M := e_goto 35 d21_31 (by decide)
theorem d21_34 : decode (cod 21) 34 = .ok (.iconst 0, 1) := by decide +kernel
theorem r21_34 (l0 l1 l2 l3 : AV) (st : List AV) (M : Mm) : run 21 34 [l0, l1, l2, l3] st M = run 21 35 [l0, l1, l2, l3] (aI 0 :: st) M := e_iconst 0 d21_34 (by decide +kernel)
theorem d21_35 : decode (cod 21) 35 = .ok (.istore_n 3, 1) := by decide +kernel
theorem r21_35 (l0 l1 l2 l3 : AV) (x : Int32) (st : List AV) (M : Mm) : run 21 35 [l0, l1, l2, l3] (aI x :: st) M = run 21 36 [l0, l1, l2, aI x] st M := e_istn [l0, l1, l2, aI x] d21_35 rfl rfl
theorem d21_36 : decode (cod 21) 36 = .ok (.iload_n 3, 1) := by decide +kernel
theorem r21_36 (l0 l1 l2 : AV) (x : Int32) (st : List AV) (M : Mm) : run 21 36 [l0, l1, l2, aI x] st M = run 21 37 [l0, l1, l2, aI x] (aI x :: st) M := e_ildn d21_36 rfl
theorem d21_37 : decode (cod 21) 37 = .ok (.ifCond .eq 47, 3) := by decide +kernel
theorem r21_37 (l0 l1 l2 l3 : AV) (a : Int32) (st : List AV) (M : Mm) : run 21 37 [l0, l1, l2, l3] (aI a :: st) M = if a = 0 then run 21 84 [l0, l1, l2, l3] st M else run 21 40 [l0, l1, l2, l3] st M := e_eq1 84 d21_37 (by decide)
theorem d21_40 : decode (cod 21) 40 = .ok (.aload_n 0, 1) := by decide +kernel
theorem r21_40 (l1 l2 l3 : AV) (xg xi : Nat) (st : List AV) (M : Mm) : run 21 40 [aR xg 0 xi, l1, l2, l3] st M = run 21 41 [aR xg 0 xi, l1, l2, l3] (aR xg 0 xi :: st) M := e_aldn d21_40 rfl
theorem d21_41 : decode (cod 21) 41 = .ok (.getfield 42, 3) := by decide +kernel
theorem r21_41 (l0 l1 l2 l3 : AV) (xg xi : Nat) (st : List AV) (M : Mm) : run 21 41 [l0, l1, l2, l3] (aR xg 0 xi :: st) M = run 21 44 [l0, l1, l2, l3] (aI (M xg 0 xi 8) :: st) M := e_gfi d21_41 rfl rfl rfl
theorem d21_44 : decode (cod 21) 44 = .ok (.aload_n 0, 1) := by decide +kernel
theorem r21_44 (l1 l2 l3 : AV) (xg xi : Nat) (st : List AV) (M : Mm) : run 21 44 [aR xg 0 xi, l1, l2, l3] st M = run 21 45 [aR xg 0 xi, l1, l2, l3] (aR xg 0 xi :: st) M := e_aldn d21_44 rfl
theorem d21_45 : decode (cod 21) 45 = .ok (.getfield 30, 3) := by decide +kernel
theorem r21_45 (l0 l1 l2 l3 : AV) (xg xi : Nat) (st : List AV) (M : Mm) : run 21 45 [l0, l1, l2, l3] (aR xg 0 xi :: st) M = run 21 48 [l0, l1, l2, l3] (aI (M xg 0 xi 4) :: st) M := e_gfi d21_45 rfl rfl rfl
theorem d21_48 : decode (cod 21) 48 = .ok (.if_icmp .ge 36, 3) := by decide +kernel
theorem r21_48 (l0 l1 l2 l3 : AV) (a b : Int32) (st : List AV) (M : Mm) : run 21 48 [l0, l1, l2, l3] (aI b :: aI a :: st) M = if a < b then run 21 51 [l0, l1, l2, l3] st M else run 21 84 [l0, l1, l2, l3] st M := e_ge2 84 d21_48 (by decide)
theorem d21_51 : decode (cod 21) 51 = .ok (.aload_n 0, 1) := by decide +kernel
theorem r21_51 (l1 l2 l3 : AV) (xg xi : Nat) (st : List AV) (M : Mm) : run 21 51 [aR xg 0 xi, l1, l2, l3] st M = run 21 52 [aR xg 0 xi, l1, l2, l3] (aR xg 0 xi :: st) M := e_aldn d21_51 rfl
theorem d21_52 : decode (cod 21) 52 = .ok (.getfield 67, 3) := by decide +kernel
theorem r21_52 (l0 l1 l2 l3 : AV) (xg xi : Nat) (st : List AV) (M : Mm) : run 21 52 [l0, l1, l2, l3] (aR xg 0 xi :: st) M = run 21 55 [l0, l1, l2, l3] (aR xg 5 0 :: st) M := e_gfr (fun g => (g, 5, 0)) d21_52 rfl rfl rfl
theorem d21_55 : decode (cod 21) 55 = .ok (.getfield 106, 3) := by decide +kernel
theorem r21_55 (l0 l1 l2 l3 : AV) (xg xi : Nat) (st : List AV) (M : Mm) : run 21 55 [l0, l1, l2, l3] (aR xg 5 xi :: st) M = run 21 58 [l0, l1, l2, l3] (aI (M xg 5 xi 0) :: st) M := e_gfi d21_55 rfl rfl rfl
theorem d21_58 : decode (cod 21) 58 = .ok (.aload_n 0, 1) := by decide +kernel
theorem r21_58 (l1 l2 l3 : AV) (xg xi : Nat) (st : List AV) (M : Mm) : run 21 58 [aR xg 0 xi, l1, l2, l3] st M = run 21 59 [aR xg 0 xi, l1, l2, l3] (aR xg 0 xi :: st) M := e_aldn d21_58 rfl
theorem d21_59 : decode (cod 21) 59 = .ok (.getfield 61, 3) := by decide +kernel
theorem r21_59 (l0 l1 l2 l3 : AV) (xg xi : Nat) (st : List AV) (M : Mm) : run 21 59 [l0, l1, l2, l3] (aR xg 0 xi :: st) M = run 21 62 [l0, l1, l2, l3] (aI (M xg 0 xi 14) :: st) M := e_gfi d21_59 rfl rfl rfl
theorem d21_62 : decode (cod 21) 62 = .ok (.if_icmp .ge 21, 3) := by decide +kernel
theorem r21_62 (l0 l1 l2 l3 : AV) (a b : Int32) (st : List AV) (M : Mm) : run 21 62 [l0, l1, l2, l3] (aI b :: aI a :: st) M = if a < b then run 21 65 [l0, l1, l2, l3] st M else run 21 83 [l0, l1, l2, l3] st M := e_ge2 83 d21_62 (by decide)
theorem d21_65 : decode (cod 21) 65 = .ok (.aload_n 1, 1) := by decide +kernel
theorem r21_65 (l0 l2 l3 : AV) (xg xi : Nat) (st : List AV) (M : Mm) : run 21 65 [l0, aR xg 4 xi, l2, l3] st M = run 21 66 [l0, aR xg 4 xi, l2, l3] (aR xg 4 xi :: st) M := e_aldn d21_65 rfl
theorem d21_66 : decode (cod 21) 66 = .ok (.iconst 1, 1) := by decide +kernel
theorem r21_66 (l0 l1 l2 l3 : AV) (st : List AV) (M : Mm) : run 21 66 [l0, l1, l2, l3] st M = run 21 67 [l0, l1, l2, l3] (aI 1 :: st) M := e_iconst 1 d21_66 (by decide +kernel)
theorem d21_67 : decode (cod 21) 67 = .ok (.aload_n 0, 1) := by decide +kernel
theorem r21_67 (l1 l2 l3 : AV) (xg xi : Nat) (st : List AV) (M : Mm) : run 21 67 [aR xg 0 xi, l1, l2, l3] st M = run 21 68 [aR xg 0 xi, l1, l2, l3] (aR xg 0 xi :: st) M := e_aldn d21_67 rfl
theorem d21_68 : decode (cod 21) 68 = .ok (.getfield 36, 3) := by decide +kernel
theorem r21_68 (l0 l1 l2 l3 : AV) (xg xi : Nat) (st : List AV) (M : Mm) : run 21 68 [l0, l1, l2, l3] (aR xg 0 xi :: st) M = run 21 71 [l0, l1, l2, l3] (aI (M xg 0 xi 6) :: st) M := e_gfi d21_68 rfl rfl rfl
theorem d21_71 : decode (cod 21) 71 = .ok (.invokevirtual 83, 3) := by decide +kernel
theorem r21_71 (l0 l1 l2 l3 : AV) (a0g a0i : Nat) (a1 : Int32) (a2 : Int32) (M : Mm) : run 21 71 [l0, l1, l2, l3] [aI a2, aI a1, aR a0g 4 a0i] M = cbV (call 9 [aR a0g 4 a0i, aI a1, aI a2] M) (fun M => run 21 74 [l0, l1, l2, l3] [] M) := call_V (n := 3) rfl false d21_71 rfl rfl rfl rfl rfl rfl rfl
theorem d21_74 : decode (cod 21) 74 = .ok (.aload_n 0, 1) := by decide +kernel
theorem r21_74 (l1 l2 l3 : AV) (xg xi : Nat) (st : List AV) (M : Mm) : run 21 74 [aR xg 0 xi, l1, l2, l3] st M = run 21 75 [aR xg 0 xi, l1, l2, l3] (aR xg 0 xi :: st) M := e_aldn d21_74 rfl
theorem d21_75 : decode (cod 21) 75 = .ok (.getfield 67, 3) := by decide +kernel
theorem r21_75 (l0 l1 l2 l3 : AV) (xg xi : Nat) (st : List AV) (M : Mm) : run 21 75 [l0, l1, l2, l3] (aR xg 0 xi :: st) M = run 21 78 [l0, l1, l2, l3] (aR xg 5 0 :: st) M := e_gfr (fun g => (g, 5, 0)) d21_75 rfl rfl rfl
theorem d21_78 : decode (cod 21) 78 = .ok (.bipush 9, 2) := by decide +kernel
theorem r21_78 (l0 l1 l2 l3 : AV) (st : List AV) (M : Mm) : run 21 78 [l0, l1, l2, l3] st M = run 21 80 [l0, l1, l2, l3] (aI 9 :: st) M := e_bipush 9 d21_78 (by decide +kernel)
theorem d21_80 : decode (cod 21) 80 = .ok (.invokevirtual 133, 3) := by decide +kernel
theorem r21_80 (l0 l1 l2 l3 : AV) (a0g a0i : Nat) (a1 : Int32) (M : Mm) : run 21 80 [l0, l1, l2, l3] [aI a1, aR a0g 5 a0i] M = cbV (call 29 [aR a0g 5 a0i, aI a1] M) (fun M => run 21 83 [l0, l1, l2, l3] [] M) := call_V (n := 2) rfl false d21_80 rfl rfl rfl rfl rfl rfl rfl
theorem d21_83 : decode (cod 21) 83 = .ok (.return_, 1) := by decide +kernel
theorem r21_83 (l0 l1 l2 l3 : AV) (M : Mm) : run 21 83 [l0, l1, l2, l3] [] M = some (none, M) := e_vret d21_83 rfl
theorem d21_84 : decode (cod 21) 84 = .ok (.iload_n 3, 1) := by decide +kernel
theorem r21_84 (l0 l1 l2 : AV) (x : Int32) (st : List AV) (M : Mm) : run 21 84 [l0, l1, l2, aI x] st M = run 21 85 [l0, l1, l2, aI x] (aI x :: st) M := e_ildn d21_84 rfl
theorem d21_85 : decode (cod 21) 85 = .ok (.ifCond .eq 16, 3) := by decide +kernel
theorem r21_85 (l0 l1 l2 l3 : AV) (a : Int32) (st : List AV) (M : Mm) : run 21 85 [l0, l1, l2, l3] (aI a :: st) M = if a = 0 then run 21 101 [l0, l1, l2, l3] st M else run 21 88 [l0, l1, l2, l3] st M := e_eq1 101 d21_85 (by decide)
theorem d21_88 : decode (cod 21) 88 = .ok (.aload_n 0, 1) := by decide +kernel
theorem r21_88 (l1 l2 l3 : AV) (xg xi : Nat) (st : List AV) (M : Mm) : run 21 88 [aR xg 0 xi, l1, l2, l3] st M = run 21 89 [aR xg 0 xi, l1, l2, l3] (aR xg 0 xi :: st) M := e_aldn d21_88 rfl
theorem d21_89 : decode (cod 21) 89 = .ok (.dup, 1) := by decide +kernel
theorem r21_89 (l0 l1 l2 l3 : AV) (xg xi : Nat) (st : List AV) (M : Mm) : run 21 89 [l0, l1, l2, l3] (aR xg 0 xi :: st) M = run 21 90 [l0, l1, l2, l3] (aR xg 0 xi :: aR xg 0 xi :: st) M := e_dup d21_89
theorem d21_90 : decode (cod 21) 90 = .ok (.getfield 42, 3) := by decide +kernel
theorem r21_90 (l0 l1 l2 l3 : AV) (xg xi : Nat) (st : List AV) (M : Mm) : run 21 90 [l0, l1, l2, l3] (aR xg 0 xi :: st) M = run 21 93 [l0, l1, l2, l3] (aI (M xg 0 xi 8) :: st) M := e_gfi d21_90 rfl rfl rfl
theorem d21_93 : decode (cod 21) 93 = .ok (.aload_n 0, 1) := by decide +kernel
theorem r21_93 (l1 l2 l3 : AV) (xg xi : Nat) (st : List AV) (M : Mm) : run 21 93 [aR xg 0 xi, l1, l2, l3] st M = run 21 94 [aR xg 0 xi, l1, l2, l3] (aR xg 0 xi :: st) M := e_aldn d21_93 rfl
theorem d21_94 : decode (cod 21) 94 = .ok (.getfield 30, 3) := by decide +kernel
theorem r21_94 (l0 l1 l2 l3 : AV) (xg xi : Nat) (st : List AV) (M : Mm) : run 21 94 [l0, l1, l2, l3] (aR xg 0 xi :: st) M = run 21 97 [l0, l1, l2, l3] (aI (M xg 0 xi 4) :: st) M := e_gfi d21_94 rfl rfl rfl
theorem d21_97 : decode (cod 21) 97 = .ok (.isub, 1) := by decide +kernel
theorem r21_97 (l0 l1 l2 l3 : AV) (a b : Int32) (st : List AV) (M : Mm) : run 21 97 [l0, l1, l2, l3] (aI b :: aI a :: st) M = run 21 98 [l0, l1, l2, l3] (aI (a - b) :: st) M := e_isub d21_97
theorem d21_98 : decode (cod 21) 98 = .ok (.putfield 42, 3) := by decide +kernel
theorem r21_98 (l0 l1 l2 l3 : AV) (v : Int32) (xg xi : Nat) (st : List AV) (M : Mm) : run 21 98 [l0, l1, l2, l3] (aI v :: aR xg 0 xi :: st) M = run 21 101 [l0, l1, l2, l3] st (wr M xg 0 xi 8 v) := e_pfi d21_98 rfl rfl rfl rfl
theorem d21_101 : decode (cod 21) 101 = .ok (.aload_n 1, 1) := by decide +kernel
theorem r21_101 (l0 l2 l3 : AV) (xg xi : Nat) (st : List AV) (M : Mm) : run 21 101 [l0, aR xg 4 xi, l2, l3] st M = run 21 102 [l0, aR xg 4 xi, l2, l3] (aR xg 4 xi :: st) M := e_aldn d21_101 rfl
theorem d21_102 : decode (cod 21) 102 = .ok (.iload_n 2, 1) := by decide +kernel
theorem r21_102 (l0 l1 l3 : AV) (x : Int32) (st : List AV) (M : Mm) : run 21 102 [l0, l1, aI x, l3] st M = run 21 103 [l0, l1, aI x, l3] (aI x :: st) M := e_ildn d21_102 rfl
theorem d21_103 : decode (cod 21) 103 = .ok (.iload_n 3, 1) := by decide +kernel
theorem r21_103 (l0 l1 l2 : AV) (x : Int32) (st : List AV) (M : Mm) : run 21 103 [l0, l1, l2, aI x] st M = run 21 104 [l0, l1, l2, aI x] (aI x :: st) M := e_ildn d21_103 rfl
theorem d21_104 : decode (cod 21) 104 = .ok (.aload_n 0, 1) := by decide +kernel
theorem r21_104 (l1 l2 l3 : AV) (xg xi : Nat) (st : List AV) (M : Mm) : run 21 104 [aR xg 0 xi, l1, l2, l3] st M = run 21 105 [aR xg 0 xi, l1, l2, l3] (aR xg 0 xi :: st) M := e_aldn d21_104 rfl
theorem d21_105 : decode (cod 21) 105 = .ok (.getfield 33, 3) := by decide +kernel
theorem r21_105 (l0 l1 l2 l3 : AV) (xg xi : Nat) (st : List AV) (M : Mm) : run 21 105 [l0, l1, l2, l3] (aR xg 0 xi :: st) M = run 21 108 [l0, l1, l2, l3] (aI (M xg 0 xi 5) :: st) M := e_gfi d21_105 rfl rfl rfl
theorem d21_108 : decode (cod 21) 108 = .ok (.invokevirtual 137, 3) := by decide +kernel
theorem r21_108 (l0 l1 l2 l3 : AV) (a0g a0i : Nat) (a1 : Int32) (a2 : Int32) (a3 : Int32) (M : Mm) : run 21 108 [l0, l1, l2, l3] [aI a3, aI a2, aI a1, aR a0g 4 a0i] M = cbV (call 10 [aR a0g 4 a0i, aI a1, aI a2, aI a3] M) (fun M => run 21 111 [l0, l1, l2, l3] [] M) := call_V (n := 4) rfl false d21_108 rfl rfl rfl rfl rfl rfl rfl
theorem d21_111 : decode (cod 21) 111 = .ok (.aload_n 0, 1) := by decide +kernel
theorem r21_111 (l1 l2 l3 : AV) (xg xi : Nat) (st : List AV) (M : Mm) : run 21 111 [aR xg 0 xi, l1, l2, l3] st M = run 21 112 [aR xg 0 xi, l1, l2, l3] (aR xg 0 xi :: st) M := e_aldn d21_111 rfl
theorem d21_112 : decode (cod 21) 112 = .ok (.iload_n 2, 1) := by decide +kernel
theorem r21_112 (l0 l1 l3 : AV) (x : Int32) (st : List AV) (M : Mm) : run 21 112 [l0, l1, aI x, l3] st M = run 21 113 [l0, l1, aI x, l3] (aI x :: st) M := e_ildn d21_112 rfl
theorem d21_113 : decode (cod 21) 113 = .ok (.putfield 54, 3) := by decide +kernel
theorem r21_113 (l0 l1 l2 l3 : AV) (v : Int32) (xg xi : Nat) (st : List AV) (M : Mm) : run 21 113 [l0, l1, l2, l3] (aI v :: aR xg 0 xi :: st) M = run 21 116 [l0, l1, l2, l3] st (wr M xg 0 xi 12 v) := e_pfi d21_113 rfl rfl rfl rfl
theorem d21_116 : decode (cod 21) 116 = .ok (.aload_n 0, 1) := by decide +kernel
theorem r21_116 (l1 l2 l3 : AV) (xg xi : Nat) (st : List AV) (M : Mm) : run 21 116 [aR xg 0 xi, l1, l2, l3] st M = run 21 117 [aR xg 0 xi, l1, l2, l3] (aR xg 0 xi :: st) M := e_aldn d21_116 rfl
theorem d21_117 : decode (cod 21) 117 = .ok (.getfield 67, 3) := by decide +kernel
theorem r21_117 (l0 l1 l2 l3 : AV) (xg xi : Nat) (st : List AV) (M : Mm) : run 21 117 [l0, l1, l2, l3] (aR xg 0 xi :: st) M = run 21 120 [l0, l1, l2, l3] (aR xg 5 0 :: st) M := e_gfr (fun g => (g, 5, 0)) d21_117 rfl rfl rfl
theorem d21_120 : decode (cod 21) 120 = .ok (.iload_n 2, 1) := by decide +kernel
theorem r21_120 (l0 l1 l3 : AV) (x : Int32) (st : List AV) (M : Mm) : run 21 120 [l0, l1, aI x, l3] st M = run 21 121 [l0, l1, aI x, l3] (aI x :: st) M := e_ildn d21_120 rfl
theorem d21_121 : decode (cod 21) 121 = .ok (.invokevirtual 133, 3) := by decide +kernel
theorem r21_121 (l0 l1 l2 l3 : AV) (a0g a0i : Nat) (a1 : Int32) (M : Mm) : run 21 121 [l0, l1, l2, l3] [aI a1, aR a0g 5 a0i] M = cbV (call 29 [aR a0g 5 a0i, aI a1] M) (fun M => run 21 124 [l0, l1, l2, l3] [] M) := call_V (n := 2) rfl false d21_121 rfl rfl rfl rfl rfl rfl rfl
theorem d21_124 : decode (cod 21) 124 = .ok (.return_, 1) := by decide +kernel
theorem r21_124 (l0 l1 l2 l3 : AV) (M : Mm) : run 21 124 [l0, l1, l2, l3] [] M = some (none, M) := e_vret d21_124 rfl
