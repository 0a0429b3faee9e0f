theorem c101 (g0 i0 : Nat) (g1 k1 i1 : Nat) (M : Mm) : call 101 [aR g0 12 i0, aR g1 k1 i1] M = run 101 0 [aR g0 12 i0, aR g1 k1 i1, none] [] M := call_run 101 _ _
theorem d101_0 : decode (cod 101) 0 = .ok (.iconst 0, 1) := by decide +kernel
theorem r101_0 (l0 l1 l2 : AV) (st : List AV) (M : Mm) : run 101 0 [l0, l1, l2] st M = run 101 1 [l0, l1, l2] (aI 0 :: st) M := e_iconst 0 d101_0 (by decide +kernel)
theorem d101_1 : decode (cod 101) 1 = .ok (.istore_n 2, 1) := by decide +kernel
theorem r101_1 (l0 l1 l2 : AV) (x : Int32) (st : List AV) (M : Mm) : run 101 1 [l0, l1, l2] (aI x :: st) M = run 101 2 [l0, l1, aI x] st M := e_istn [l0, l1, aI x] d101_1 rfl rfl
theorem d101_2 : decode (cod 101) 2 = .ok (.iload_n 2, 1) := by decide +kernel
theorem r101_2 (l0 l1 : AV) (x : Int32) (st : List AV) (M : Mm) : run 101 2 [l0, l1, aI x] st M = run 101 3 [l0, l1, aI x] (aI x :: st) M := e_ildn d101_2 rfl
theorem d101_3 : decode (cod 101) 3 = .ok (.aload_n 1, 1) := by decide +kernel
theorem r101_3 (l0 l2 : AV) (xg xk xi : Nat) (st : List AV) (M : Mm) : run 101 3 [l0, aR xg xk xi, l2] st M = run 101 4 [l0, aR xg xk xi, l2] (aR xg xk xi :: st) M := e_aldn d101_3 rfl
theorem d101_4 : decode (cod 101) 4 = .ok (.arraylength, 1) := by decide +kernel
theorem r101_4 (l0 l1 l2 : AV) (xg xk xi : Nat) (st : List AV) (M : Mm) : run 101 4 [l0, l1, l2] (aR xg xk xi :: st) M = if 0 < alen xk ∧ xk < 33 then run 101 5 [l0, l1, l2] (aI (Int32.ofNat (alen xk)) :: st) M else none := e_alnk d101_4
theorem d101_5 : decode (cod 101) 5 = .ok (.if_icmp .ge 53, 3) := by decide +kernel
theorem r101_5 (l0 l1 l2 : AV) (a b : Int32) (st : List AV) (M : Mm) : run 101 5 [l0, l1, l2] (aI b :: aI a :: st) M = if a < b then run 101 8 [l0, l1, l2] st M else run 101 58 [l0, l1, l2] st M := e_ge2 58 d101_5 (by decide)
theorem d101_8 : decode (cod 101) 8 = .ok (.aload_n 0, 1) := by decide +kernel
theorem r101_8 (l1 l2 : AV) (xg xi : Nat) (st : List AV) (M : Mm) : run 101 8 [aR xg 12 xi, l1, l2] st M = run 101 9 [aR xg 12 xi, l1, l2] (aR xg 12 xi :: st) M := e_aldn d101_8 rfl
theorem d101_9 : decode (cod 101) 9 = .ok (.getfield 157, 3) := by decide +kernel
theorem r101_9 (l0 l1 l2 : AV) (xg xi : Nat) (st : List AV) (M : Mm) : run 101 9 [l0, l1, l2] (aR xg 12 xi :: st) M = run 101 12 [l0, l1, l2] (aI (M xg 12 xi 23) :: st) M := e_gfi d101_9 rfl rfl rfl
theorem d101_12 : decode (cod 101) 12 = .ok (.ifCond .eq 18, 3) := by decide +kernel
theorem r101_12 (l0 l1 l2 : AV) (a : Int32) (st : List AV) (M : Mm) : run 101 12 [l0, l1, l2] (aI a :: st) M = if a = 0 then run 101 30 [l0, l1, l2] st M else run 101 15 [l0, l1, l2] st M := e_eq1 30 d101_12 (by decide)
theorem d101_15 : decode (cod 101) 15 = .ok (.aload_n 0, 1) := by decide +kernel
theorem r101_15 (l1 l2 : AV) (xg xi : Nat) (st : List AV) (M : Mm) : run 101 15 [aR xg 12 xi, l1, l2] st M = run 101 16 [aR xg 12 xi, l1, l2] (aR xg 12 xi :: st) M := e_aldn d101_15 rfl
theorem d101_16 : decode (cod 101) 16 = .ok (.getfield 52, 3) := by decide +kernel
theorem r101_16 (l0 l1 l2 : AV) (xg xi : Nat) (st : List AV) (M : Mm) : run 101 16 [l0, l1, l2] (aR xg 12 xi :: st) M = run 101 19 [l0, l1, l2] (aR 4 27 0 :: st) M := e_gfr (fun g => (4, 27, 0)) d101_16 rfl rfl rfl
theorem d101_19 : decode (cod 101) 19 = .ok (.aload_n 0, 1) := by decide +kernel
theorem r101_19 (l1 l2 : AV) (xg xi : Nat) (st : List AV) (M : Mm) : run 101 19 [aR xg 12 xi, l1, l2] st M = run 101 20 [aR xg 12 xi, l1, l2] (aR xg 12 xi :: st) M := e_aldn d101_19 rfl
theorem d101_20 : decode (cod 101) 20 = .ok (.getfield 161, 3) := by decide +kernel
theorem r101_20 (l0 l1 l2 : AV) (xg xi : Nat) (st : List AV) (M : Mm) : run 101 20 [l0, l1, l2] (aR xg 12 xi :: st) M = run 101 23 [l0, l1, l2] (aI (M xg 12 xi 24) :: st) M := e_gfi d101_20 rfl rfl rfl
theorem d101_23 : decode (cod 101) 23 = .ok (.aload_n 1, 1) := by decide +kernel
theorem r101_23 (l0 l2 : AV) (xg xk xi : Nat) (st : List AV) (M : Mm) : run 101 23 [l0, aR xg xk xi, l2] st M = run 101 24 [l0, aR xg xk xi, l2] (aR xg xk xi :: st) M := e_aldn d101_23 rfl
theorem d101_24 : decode (cod 101) 24 = .ok (.iload_n 2, 1) := by decide +kernel
theorem r101_24 (l0 l1 : AV) (x : Int32) (st : List AV) (M : Mm) : run 101 24 [l0, l1, aI x] st M = run 101 25 [l0, l1, aI x] (aI x :: st) M := e_ildn d101_24 rfl
theorem d101_25 : decode (cod 101) 25 = .ok (.iaload, 1) := by decide +kernel
theorem r101_25 (l0 l1 l2 : AV) (i : Int32) (xg xk xi : Nat) (st : List AV) (M : Mm) : run 101 25 [l0, l1, l2] (aI i :: aR xg xk xi :: st) M = if vpB i (alen xk) = true then run 101 26 [l0, l1, l2] (aI (rdA M xg xk xi i.toNatClampNeg) :: st) M else none := e_ialk d101_25
theorem d101_26 : decode (cod 101) 26 = .ok (.iastore, 1) := by decide +kernel
theorem r101_26 (l0 l1 l2 : AV) (v i : Int32) (xg xi : Nat) (st : List AV) (M : Mm) : run 101 26 [l0, l1, l2] (aI v :: aI i :: aR xg 27 xi :: st) M = if vpB i 100 = true then run 101 27 [l0, l1, l2] st (wr M xg 27 xi i.toNatClampNeg v) else none := e_ias d101_26 rfl rfl
theorem d101_27 : decode (cod 101) 27 = .ok (.goto 15, 3) := by decide +kernel
theorem r101_27 (l0 l1 l2 : AV) (st : List AV) (M : Mm) : run 101 27 [l0, l1, l2] st M = run 101 42 [l0, l1, l2] st M := e_goto 42 d101_27 (by decide)
theorem d101_30 : decode (cod 101) 30 = .ok (.aload_n 1, 1) := by decide +kernel
theorem r101_30 (l0 l2 : AV) (xg xk xi : Nat) (st : List AV) (M : Mm) : run 101 30 [l0, aR xg xk xi, l2] st M = run 101 31 [l0, aR xg xk xi, l2] (aR xg xk xi :: st) M := e_aldn d101_30 rfl
theorem d101_31 : decode (cod 101) 31 = .ok (.iload_n 2, 1) := by decide +kernel
theorem r101_31 (l0 l1 : AV) (x : Int32) (st : List AV) (M : Mm) : run 101 31 [l0, l1, aI x] st M = run 101 32 [l0, l1, aI x] (aI x :: st) M := e_ildn d101_31 rfl
theorem d101_32 : decode (cod 101) 32 = .ok (.aload_n 0, 1) := by decide +kernel
theorem r101_32 (l1 l2 : AV) (xg xi : Nat) (st : List AV) (M : Mm) : run 101 32 [aR xg 12 xi, l1, l2] st M = run 101 33 [aR xg 12 xi, l1, l2] (aR xg 12 xi :: st) M := e_aldn d101_32 rfl
theorem d101_33 : decode (cod 101) 33 = .ok (.getfield 52, 3) := by decide +kernel
theorem r101_33 (l0 l1 l2 : AV) (xg xi : Nat) (st : List AV) (M : Mm) : run 101 33 [l0, l1, l2] (aR xg 12 xi :: st) M = run 101 36 [l0, l1, l2] (aR 4 27 0 :: st) M := e_gfr (fun g => (4, 27, 0)) d101_33 rfl rfl rfl
theorem d101_36 : decode (cod 101) 36 = .ok (.aload_n 0, 1) := by decide +kernel
theorem r101_36 (l1 l2 : AV) (xg xi : Nat) (st : List AV) (M : Mm) : run 101 36 [aR xg 12 xi, l1, l2] st M = run 101 37 [aR xg 12 xi, l1, l2] (aR xg 12 xi :: st) M := e_aldn d101_36 rfl
theorem d101_37 : decode (cod 101) 37 = .ok (.getfield 161, 3) := by decide +kernel
theorem r101_37 (l0 l1 l2 : AV) (xg xi : Nat) (st : List AV) (M : Mm) : run 101 37 [l0, l1, l2] (aR xg 12 xi :: st) M = run 101 40 [l0, l1, l2] (aI (M xg 12 xi 24) :: st) M := e_gfi d101_37 rfl rfl rfl
theorem d101_40 : decode (cod 101) 40 = .ok (.iaload, 1) := by decide +kernel
theorem r101_40 (l0 l1 l2 : AV) (i : Int32) (xg xi : Nat) (st : List AV) (M : Mm) : run 101 40 [l0, l1, l2] (aI i :: aR xg 27 xi :: st) M = if vpB i 100 = true then run 101 41 [l0, l1, l2] (aI (M xg 27 xi i.toNatClampNeg) :: st) M else none := e_ial d101_40 rfl rfl
theorem d101_41 : decode (cod 101) 41 = .ok (.iastore, 1) := by decide +kernel
theorem r101_41 (l0 l1 l2 : AV) (v i : Int32) (xg xk xi : Nat) (st : List AV) (M : Mm) : run 101 41 [l0, l1, l2] (aI v :: aI i :: aR xg xk xi :: st) M = if vpB i (alen xk) = true ∧ xk < 33 then run 101 42 [l0, l1, l2] st (wr M xg xk xi i.toNatClampNeg v) else none := e_iask d101_41
theorem d101_42 : decode (cod 101) 42 = .ok (.aload_n 0, 1) := by decide +kernel
theorem r101_42 (l1 l2 : AV) (xg xi : Nat) (st : List AV) (M : Mm) : run 101 42 [aR xg 12 xi, l1, l2] st M = run 101 43 [aR xg 12 xi, l1, l2] (aR xg 12 xi :: st) M := e_aldn d101_42 rfl
theorem d101_43 : decode (cod 101) 43 = .ok (.dup, 1) := by decide +kernel
theorem r101_43 (l0 l1 l2 : AV) (xg xi : Nat) (st : List AV) (M : Mm) : run 101 43 [l0, l1, l2] (aR xg 12 xi :: st) M = run 101 44 [l0, l1, l2] (aR xg 12 xi :: aR xg 12 xi :: st) M := e_dup d101_43
theorem d101_44 : decode (cod 101) 44 = .ok (.getfield 161, 3) := by decide +kernel
theorem r101_44 (l0 l1 l2 : AV) (xg xi : Nat) (st : List AV) (M : Mm) : run 101 44 [l0, l1, l2] (aR xg 12 xi :: st) M = run 101 47 [l0, l1, l2] (aI (M xg 12 xi 24) :: st) M := e_gfi d101_44 rfl rfl rfl
theorem d101_47 : decode (cod 101) 47 = .ok (.iconst 1, 1) := by decide +kernel
theorem r101_47 (l0 l1 l2 : AV) (st : List AV) (M : Mm) : run 101 47 [l0, l1, l2] st M = run 101 48 [l0, l1, l2] (aI 1 :: st) M := e_iconst 1 d101_47 (by decide +kernel)
theorem d101_48 : decode (cod 101) 48 = .ok (.iadd, 1) := by decide +kernel
theorem r101_48 (l0 l1 l2 : AV) (a b : Int32) (st : List AV) (M : Mm) : run 101 48 [l0, l1, l2] (aI b :: aI a :: st) M = run 101 49 [l0, l1, l2] (aI (a + b) :: st) M := e_iadd d101_48
theorem d101_49 : decode (cod 101) 49 = .ok (.putfield 161, 3) := by decide +kernel
theorem r101_49 (l0 l1 l2 : AV) (v : Int32) (xg xi : Nat) (st : List AV) (M : Mm) : run 101 49 [l0, l1, l2] (aI v :: aR xg 12 xi :: st) M = run 101 52 [l0, l1, l2] st (wr M xg 12 xi 24 v) := e_pfi d101_49 rfl rfl rfl rfl
theorem d101_52 : decode (cod 101) 52 = .ok (.iinc 2 1, 3) := by decide +kernel
theorem r101_52 (l0 l1 : AV) (x : Int32) (st : List AV) (M : Mm) : run 101 52 [l0, l1, aI x] st M = run 101 55 [l0, l1, aI (x + 1)] st M := e_iinc 1 [l0, l1, aI (x + 1)] d101_52 (by decide +kernel) rfl rfl
theorem d101_55 : decode (cod 101) 55 = .ok (.goto (-53), 3) := by decide +kernel
theorem r101_55 (l0 l1 l2 : AV) (st : List AV) (M : Mm) : run 101 55 [l0, l1, l2] st M = run 101 2 [l0, l1, l2] st M := e_goto 2 d101_55 (by decide)
theorem d101_58 : decode (cod 101) 58 = .ok (.return_, 1) := by decide +kernel
theorem r101_58 (l0 l1 l2 : AV) (M : Mm) : run 101 58 [l0, l1, l2] [] M = some (none, M) := e_vret d101_58 rfl
theorem c102 (g0 i0 : Nat) (x1 : Int32) (M : Mm) : call 102 [aR g0 12 i0, aI x1] M = run 102 0 [aR g0 12 i0, aI x1, none] [] M := call_run 102 _ _
theorem d102_0 : decode (cod 102) 0 = .ok (.aload_n 0, 1) := by decide +kernel
theorem r102_0 (l1 l2 : AV) (xg xi : Nat) (st : List AV) (M : Mm) : run 102 0 [aR xg 12 xi, l1, l2] st M = run 102 1 [aR xg 12 xi, l1, l2] (aR xg 12 xi :: st) M := e_aldn d102_0 rfl
theorem d102_1 : decode (cod 102) 1 = .ok (.getfield 157, 3) := by decide +kernel
theorem r102_1 (l0 l1 l2 : AV) (xg xi : Nat) (st : List AV) (M : Mm) : run 102 1 [l0, l1, l2] (aR xg 12 xi :: st) M = run 102 4 [l0, l1, l2] (aI (M xg 12 xi 23) :: st) M := e_gfi d102_1 rfl rfl rfl
theorem d102_4 : decode (cod 102) 4 = .ok (.ifCond .eq 7, 3) := by decide +kernel
theorem r102_4 (l0 l1 l2 : AV) (a : Int32) (st : List AV) (M : Mm) : run 102 4 [l0, l1, l2] (aI a :: st) M = if a = 0 then run 102 11 [l0, l1, l2] st M else run 102 7 [l0, l1, l2] st M := e_eq1 11 d102_4 (by decide)
theorem d102_7 : decode (cod 102) 7 = .ok (.iload_n 1, 1) := by decide +kernel
theorem r102_7 (l0 l2 : AV) (x : Int32) (st : List AV) (M : Mm) : run 102 7 [l0, aI x, l2] st M = run 102 8 [l0, aI x, l2] (aI x :: st) M := e_ildn d102_7 rfl
theorem d102_8 : decode (cod 102) 8 = .ok (.goto 12, 3) := by decide +kernel
theorem r102_8 (l0 l1 l2 : AV) (st : List AV) (M : Mm) : run 102 8 [l0, l1, l2] st M = run 102 20 [l0, l1, l2] st M := e_goto 20 d102_8 (by decide)
theorem d102_11 : decode (cod 102) 11 = .ok (.aload_n 0, 1) := by decide +kernel
theorem r102_11 (l1 l2 : AV) (xg xi : Nat) (st : List AV) (M : Mm) : run 102 11 [aR xg 12 xi, l1, l2] st M = run 102 12 [aR xg 12 xi, l1, l2] (aR xg 12 xi :: st) M := e_aldn d102_11 rfl
theorem d102_12 : decode (cod 102) 12 = .ok (.getfield 52, 3) := by decide +kernel
theorem r102_12 (l0 l1 l2 : AV) (xg xi : Nat) (st : List AV) (M : Mm) : run 102 12 [l0, l1, l2] (aR xg 12 xi :: st) M = run 102 15 [l0, l1, l2] (aR 4 27 0 :: st) M := e_gfr (fun g => (4, 27, 0)) d102_12 rfl rfl rfl
theorem d102_15 : decode (cod 102) 15 = .ok (.aload_n 0, 1) := by decide +kernel
theorem r102_15 (l1 l2 : AV) (xg xi : Nat) (st : List AV) (M : Mm) : run 102 15 [aR xg 12 xi, l1, l2] st M = run 102 16 [aR xg 12 xi, l1, l2] (aR xg 12 xi :: st) M := e_aldn d102_15 rfl
theorem d102_16 : decode (cod 102) 16 = .ok (.getfield 161, 3) := by decide +kernel
theorem r102_16 (l0 l1 l2 : AV) (xg xi : Nat) (st : List AV) (M : Mm) : run 102 16 [l0, l1, l2] (aR xg 12 xi :: st) M = run 102 19 [l0, l1, l2] (aI (M xg 12 xi 24) :: st) M := e_gfi d102_16 rfl rfl rfl
theorem d102_19 : decode (cod 102) 19 = .ok (.iaload, 1) := by decide +kernel
theorem r102_19 (l0 l1 l2 : AV) (i : Int32) (xg xi : Nat) (st : List AV) (M : Mm) : run 102 19 [l0, l1, l2] (aI i :: aR xg 27 xi :: st) M = if vpB i 100 = true then run 102 20 [l0, l1, l2] (aI (M xg 27 xi i.toNatClampNeg) :: st) M else none := e_ial d102_19 rfl rfl
theorem d102_20 : decode (cod 102) 20 = .ok (.istore_n 2, 1) := by decide +kernel
theorem r102_20 (l0 l1 l2 : AV) (x : Int32) (st : List AV) (M : Mm) : run 102 20 [l0, l1, l2] (aI x :: st) M = run 102 21 [l0, l1, aI x] st M := e_istn [l0, l1, aI x] d102_20 rfl rfl
theorem d102_21 : decode (cod 102) 21 = .ok (.aload_n 0, 1) := by decide +kernel
theorem r102_21 (l1 l2 : AV) (xg xi : Nat) (st : List AV) (M : Mm) : run 102 21 [aR xg 12 xi, l1, l2] st M = run 102 22 [aR xg 12 xi, l1, l2] (aR xg 12 xi :: st) M := e_aldn d102_21 rfl
theorem d102_22 : decode (cod 102) 22 = .ok (.getfield 157, 3) := by decide +kernel
theorem r102_22 (l0 l1 l2 : AV) (xg xi : Nat) (st : List AV) (M : Mm) : run 102 22 [l0, l1, l2] (aR xg 12 xi :: st) M = run 102 25 [l0, l1, l2] (aI (M xg 12 xi 23) :: st) M := e_gfi d102_22 rfl rfl rfl
theorem d102_25 : decode (cod 102) 25 = .ok (.ifCond .eq 13, 3) := by decide +kernel
theorem r102_25 (l0 l1 l2 : AV) (a : Int32) (st : List AV) (M : Mm) : run 102 25 [l0, l1, l2] (aI a :: st) M = if a = 0 then run 102 38 [l0, l1, l2] st M else run 102 28 [l0, l1, l2] st M := e_eq1 38 d102_25 (by decide)
theorem d102_28 : decode (cod 102) 28 = .ok (.aload_n 0, 1) := by decide +kernel
theorem r102_28 (l1 l2 : AV) (xg xi : Nat) (st : List AV) (M : Mm) : run 102 28 [aR xg 12 xi, l1, l2] st M = run 102 29 [aR xg 12 xi, l1, l2] (aR xg 12 xi :: st) M := e_aldn d102_28 rfl
theorem d102_29 : decode (cod 102) 29 = .ok (.getfield 52, 3) := by decide +kernel
theorem r102_29 (l0 l1 l2 : AV) (xg xi : Nat) (st : List AV) (M : Mm) : run 102 29 [l0, l1, l2] (aR xg 12 xi :: st) M = run 102 32 [l0, l1, l2] (aR 4 27 0 :: st) M := e_gfr (fun g => (4, 27, 0)) d102_29 rfl rfl rfl
theorem d102_32 : decode (cod 102) 32 = .ok (.aload_n 0, 1) := by decide +kernel
theorem r102_32 (l1 l2 : AV) (xg xi : Nat) (st : List AV) (M : Mm) : run 102 32 [aR xg 12 xi, l1, l2] st M = run 102 33 [aR xg 12 xi, l1, l2] (aR xg 12 xi :: st) M := e_aldn d102_32 rfl
theorem d102_33 : decode (cod 102) 33 = .ok (.getfield 161, 3) := by decide +kernel
theorem r102_33 (l0 l1 l2 : AV) (xg xi : Nat) (st : List AV) (M : Mm) : run 102 33 [l0, l1, l2] (aR xg 12 xi :: st) M = run 102 36 [l0, l1, l2] (aI (M xg 12 xi 24) :: st) M := e_gfi d102_33 rfl rfl rfl
theorem d102_36 : decode (cod 102) 36 = .ok (.iload_n 1, 1) := by decide +kernel
theorem r102_36 (l0 l2 : AV) (x : Int32) (st : List AV) (M : Mm) : run 102 36 [l0, aI x, l2] st M = run 102 37 [l0, aI x, l2] (aI x :: st) M := e_ildn d102_36 rfl
theorem d102_37 : decode (cod 102) 37 = .ok (.iastore, 1) := by decide +kernel
theorem r102_37 (l0 l1 l2 : AV) (v i : Int32) (xg xi : Nat) (st : List AV) (M : Mm) : run 102 37 [l0, l1, l2] (aI v :: aI i :: aR xg 27 xi :: st) M = if vpB i 100 = true then run 102 38 [l0, l1, l2] st (wr M xg 27 xi i.toNatClampNeg v) else none := e_ias d102_37 rfl rfl
theorem d102_38 : decode (cod 102) 38 = .ok (.aload_n 0, 1) := by decide +kernel
theorem r102_38 (l1 l2 : AV) (xg xi : Nat) (st : List AV) (M : Mm) : run 102 38 [aR xg 12 xi, l1, l2] st M = run 102 39 [aR xg 12 xi, l1, l2] (aR xg 12 xi :: st) M := e_aldn d102_38 rfl
theorem d102_39 : decode (cod 102) 39 = .ok (.dup, 1) := by decide +kernel
theorem r102_39 (l0 l1 l2 : AV) (xg xi : Nat) (st : List AV) (M : Mm) : run 102 39 [l0, l1, l2] (aR xg 12 xi :: st) M = run 102 40 [l0, l1, l2] (aR xg 12 xi :: aR xg 12 xi :: st) M := e_dup d102_39
theorem d102_40 : decode (cod 102) 40 = .ok (.getfield 161, 3) := by decide +kernel
theorem r102_40 (l0 l1 l2 : AV) (xg xi : Nat) (st : List AV) (M : Mm) : run 102 40 [l0, l1, l2] (aR xg 12 xi :: st) M = run 102 43 [l0, l1, l2] (aI (M xg 12 xi 24) :: st) M := e_gfi d102_40 rfl rfl rfl
theorem d102_43 : decode (cod 102) 43 = .ok (.iconst 1, 1) := by decide +kernel
theorem r102_43 (l0 l1 l2 : AV) (st : List AV) (M : Mm) : run 102 43 [l0, l1, l2] st M = run 102 44 [l0, l1, l2] (aI 1 :: st) M := e_iconst 1 d102_43 (by decide +kernel)
theorem d102_44 : decode (cod 102) 44 = .ok (.iadd, 1) := by decide +kernel
theorem r102_44 (l0 l1 l2 : AV) (a b : Int32) (st : List AV) (M : Mm) : run 102 44 [l0, l1, l2] (aI b :: aI a :: st) M = run 102 45 [l0, l1, l2] (aI (a + b) :: st) M := e_iadd d102_44
theorem d102_45 : decode (cod 102) 45 = .ok (.putfield 161, 3) := by decide +kernel
theorem r102_45 (l0 l1 l2 : AV) (v : Int32) (xg xi : Nat) (st : List AV) (M : Mm) : run 102 45 [l0, l1, l2] (aI v :: aR xg 12 xi :: st) M = run 102 48 [l0, l1, l2] st (wr M xg 12 xi 24 v) := e_pfi d102_45 rfl rfl rfl rfl
theorem d102_48 : decode (cod 102) 48 = .ok (.iload_n 2, 1) := by decide +kernel
theorem r102_48 (l0 l1 : AV) (x : Int32) (st : List AV) (M : Mm) : run 102 48 [l0, l1, aI x] st M = run 102 49 [l0, l1, aI x] (aI x :: st) M := e_ildn d102_48 rfl
theorem d102_49 : decode (cod 102) 49 = .ok (.ireturn, 1) := by decide +kernel
theorem r102_49 (l0 l1 l2 : AV) (v : Int32) (M : Mm) : run 102 49 [l0, l1, l2] [aI v] M = some (some v, M) := e_iret d102_49 rfl
theorem c103 (g0 i0 : Nat) (x1 : Int32) (x2 : Int32) (M : Mm) : call 103 [aR g0 12 i0, aI x1, aI x2] M = run 103 0 [aR g0 12 i0, aI x1, aI x2] [] M := call_run 103 _ _
theorem d103_0 : decode (cod 103) 0 = .ok (.aload_n 0, 1) := by decide +kernel
theorem r103_0 (l1 l2 : AV) (xg xi : Nat) (st : List AV) (M : Mm) : run 103 0 [aR xg 12 xi, l1, l2] st M = run 103 1 [aR xg 12 xi, l1, l2] (aR xg 12 xi :: st) M := e_aldn d103_0 rfl
theorem d103_1 : decode (cod 103) 1 = .ok (.bipush 50, 2) := by decide +kernel
theorem r103_1 (l0 l1 l2 : AV) (st : List AV) (M : Mm) : run 103 1 [l0, l1, l2] st M = run 103 3 [l0, l1, l2] (aI 50 :: st) M := e_bipush 50 d103_1 (by decide +kernel)
theorem d103_3 : decode (cod 103) 3 = .ok (.iload_n 1, 1) := by decide +kernel
theorem r103_3 (l0 l2 : AV) (x : Int32) (st : List AV) (M : Mm) : run 103 3 [l0, aI x, l2] st M = run 103 4 [l0, aI x, l2] (aI x :: st) M := e_ildn d103_3 rfl
theorem d103_4 : decode (cod 103) 4 = .ok (.imul, 1) := by decide +kernel
theorem r103_4 (l0 l1 l2 : AV) (a b : Int32) (st : List AV) (M : Mm) : run 103 4 [l0, l1, l2] (aI b :: aI a :: st) M = run 103 5 [l0, l1, l2] (aI (a * b) :: st) M := e_imul d103_4
theorem d103_5 : decode (cod 103) 5 = .ok (.putfield 161, 3) := by decide +kernel
theorem r103_5 (l0 l1 l2 : AV) (v : Int32) (xg xi : Nat) (st : List AV) (M : Mm) : run 103 5 [l0, l1, l2] (aI v :: aR xg 12 xi :: st) M = run 103 8 [l0, l1, l2] st (wr M xg 12 xi 24 v) := e_pfi d103_5 rfl rfl rfl rfl
theorem d103_8 : decode (cod 103) 8 = .ok (.aload_n 0, 1) := by decide +kernel
theorem r103_8 (l1 l2 : AV) (xg xi : Nat) (st : List AV) (M : Mm) : run 103 8 [aR xg 12 xi, l1, l2] st M = run 103 9 [aR xg 12 xi, l1, l2] (aR xg 12 xi :: st) M := e_aldn d103_8 rfl
theorem d103_9 : decode (cod 103) 9 = .ok (.iload_n 2, 1) := by decide +kernel
theorem r103_9 (l0 l1 : AV) (x : Int32) (st : List AV) (M : Mm) : run 103 9 [l0, l1, aI x] st M = run 103 10 [l0, l1, aI x] (aI x :: st) M := e_ildn d103_9 rfl
theorem d103_10 : decode (cod 103) 10 = .ok (.putfield 157, 3) := by decide +kernel
theorem r103_10 (l0 l1 l2 : AV) (v : Int32) (xg xi : Nat) (st : List AV) (M : Mm) : run 103 10 [l0, l1, l2] (aI v :: aR xg 12 xi :: st) M = if v = 0 ∨ v = 1 then run 103 13 [l0, l1, l2] st (wr M xg 12 xi 23 v) else none := e_pfz d103_10 rfl rfl rfl rfl
theorem d103_13 : decode (cod 103) 13 = .ok (.aload_n 0, 1) := by decide +kernel
theorem r103_13 (l1 l2 : AV) (xg xi : Nat) (st : List AV) (M : Mm) : run 103 13 [aR xg 12 xi, l1, l2] st M = run 103 14 [aR xg 12 xi, l1, l2] (aR xg 12 xi :: st) M := e_aldn d103_13 rfl
theorem d103_14 : decode (cod 103) 14 = .ok (.aload_n 0, 1) := by decide +kernel
theorem r103_14 (l1 l2 : AV) (xg xi : Nat) (st : List AV) (M : Mm) : run 103 14 [aR xg 12 xi, l1, l2] st M = run 103 15 [aR xg 12 xi, l1, l2] (aR xg 12 xi :: st) M := e_aldn d103_14 rfl
theorem d103_15 : decode (cod 103) 15 = .ok (.getfield 13, 3) := by decide +kernel
theorem r103_15 (l0 l1 l2 : AV) (xg xi : Nat) (st : List AV) (M : Mm) : run 103 15 [l0, l1, l2] (aR xg 12 xi :: st) M = run 103 18 [l0, l1, l2] (aR 4 14 0 :: st) M := e_gfr (fun g => (4, 14, 0)) d103_15 rfl rfl rfl
theorem d103_18 : decode (cod 103) 18 = .ok (.invokevirtual 164, 3) := by decide +kernel
theorem r103_18 (l0 l1 l2 : AV) (a0g a0i : Nat) (a1g a1i : Nat) (M : Mm) : run 103 18 [l0, l1, l2] [aR a1g 14 a1i, aR a0g 12 a0i] M = cbV (call 101 [aR a0g 12 a0i, aR a1g 14 a1i] M) (fun M => run 103 21 [l0, l1, l2] [] M) := call_V (n := 2) rfl false d103_18 rfl rfl rfl rfl rfl rfl rfl
theorem d103_21 : decode (cod 103) 21 = .ok (.aload_n 0, 1) := by decide +kernel
theorem r103_21 (l1 l2 : AV) (xg xi : Nat) (st : List AV) (M : Mm) : run 103 21 [aR xg 12 xi, l1, l2] st M = run 103 22 [aR xg 12 xi, l1, l2] (aR xg 12 xi :: st) M := e_aldn d103_21 rfl
theorem d103_22 : decode (cod 103) 22 = .ok (.aload_n 0, 1) := by decide +kernel
theorem r103_22 (l1 l2 : AV) (xg xi : Nat) (st : List AV) (M : Mm) : run 103 22 [aR xg 12 xi, l1, l2] st M = run 103 23 [aR xg 12 xi, l1, l2] (aR xg 12 xi :: st) M := e_aldn d103_22 rfl
theorem d103_23 : decode (cod 103) 23 = .ok (.getfield 16, 3) := by decide +kernel
theorem r103_23 (l0 l1 l2 : AV) (xg xi : Nat) (st : List AV) (M : Mm) : run 103 23 [l0, l1, l2] (aR xg 12 xi :: st) M = run 103 26 [l0, l1, l2] (aR 4 15 0 :: st) M := e_gfr (fun g => (4, 15, 0)) d103_23 rfl rfl rfl
theorem d103_26 : decode (cod 103) 26 = .ok (.invokevirtual 164, 3) := by decide +kernel
theorem r103_26 (l0 l1 l2 : AV) (a0g a0i : Nat) (a1g a1i : Nat) (M : Mm) : run 103 26 [l0, l1, l2] [aR a1g 15 a1i, aR a0g 12 a0i] M = cbV (call 101 [aR a0g 12 a0i, aR a1g 15 a1i] M) (fun M => run 103 29 [l0, l1, l2] [] M) := call_V (n := 2) rfl false d103_26 rfl rfl rfl rfl rfl rfl rfl
theorem d103_29 : decode (cod 103) 29 = .ok (.aload_n 0, 1) := by decide +kernel
theorem r103_29 (l1 l2 : AV) (xg xi : Nat) (st : List AV) (M : Mm) : run 103 29 [aR xg 12 xi, l1, l2] st M = run 103 30 [aR xg 12 xi, l1, l2] (aR xg 12 xi :: st) M := e_aldn d103_29 rfl
theorem d103_30 : decode (cod 103) 30 = .ok (.aload_n 0, 1) := by decide +kernel
theorem r103_30 (l1 l2 : AV) (xg xi : Nat) (st : List AV) (M : Mm) : run 103 30 [aR xg 12 xi, l1, l2] st M = run 103 31 [aR xg 12 xi, l1, l2] (aR xg 12 xi :: st) M := e_aldn d103_30 rfl
theorem d103_31 : decode (cod 103) 31 = .ok (.getfield 19, 3) := by decide +kernel
theorem r103_31 (l0 l1 l2 : AV) (xg xi : Nat) (st : List AV) (M : Mm) : run 103 31 [l0, l1, l2] (aR xg 12 xi :: st) M = run 103 34 [l0, l1, l2] (aR 4 16 0 :: st) M := e_gfr (fun g => (4, 16, 0)) d103_31 rfl rfl rfl
theorem d103_34 : decode (cod 103) 34 = .ok (.invokevirtual 164, 3) := by decide +kernel
theorem r103_34 (l0 l1 l2 : AV) (a0g a0i : Nat) (a1g a1i : Nat) (M : Mm) : run 103 34 [l0, l1, l2] [aR a1g 16 a1i, aR a0g 12 a0i] M = cbV (call 101 [aR a0g 12 a0i, aR a1g 16 a1i] M) (fun M => run 103 37 [l0, l1, l2] [] M) := call_V (n := 2) rfl false d103_34 rfl rfl rfl rfl rfl rfl rfl
theorem d103_37 : decode (cod 103) 37 = .ok (.aload_n 0, 1) := by decide +kernel
theorem r103_37 (l1 l2 : AV) (xg xi : Nat) (st : List AV) (M : Mm) : run 103 37 [aR xg 12 xi, l1, l2] st M = run 103 38 [aR xg 12 xi, l1, l2] (aR xg 12 xi :: st) M := e_aldn d103_37 rfl
theorem d103_38 : decode (cod 103) 38 = .ok (.aload_n 0, 1) := by decide +kernel
theorem r103_38 (l1 l2 : AV) (xg xi : Nat) (st : List AV) (M : Mm) : run 103 38 [aR xg 12 xi, l1, l2] st M = run 103 39 [aR xg 12 xi, l1, l2] (aR xg 12 xi :: st) M := e_aldn d103_38 rfl
theorem d103_39 : decode (cod 103) 39 = .ok (.getfield 22, 3) := by decide +kernel
theorem r103_39 (l0 l1 l2 : AV) (xg xi : Nat) (st : List AV) (M : Mm) : run 103 39 [l0, l1, l2] (aR xg 12 xi :: st) M = run 103 42 [l0, l1, l2] (aR 4 17 0 :: st) M := e_gfr (fun g => (4, 17, 0)) d103_39 rfl rfl rfl
theorem d103_42 : decode (cod 103) 42 = .ok (.invokevirtual 164, 3) := by decide +kernel
theorem r103_42 (l0 l1 l2 : AV) (a0g a0i : Nat) (a1g a1i : Nat) (M : Mm) : run 103 42 [l0, l1, l2] [aR a1g 17 a1i, aR a0g 12 a0i] M = cbV (call 101 [aR a0g 12 a0i, aR a1g 17 a1i] M) (fun M => run 103 45 [l0, l1, l2] [] M) := call_V (n := 2) rfl false d103_42 rfl rfl rfl rfl rfl rfl rfl
theorem d103_45 : decode (cod 103) 45 = .ok (.aload_n 0, 1) := by decide +kernel
theorem r103_45 (l1 l2 : AV) (xg xi : Nat) (st : List AV) (M : Mm) : run 103 45 [aR xg 12 xi, l1, l2] st M = run 103 46 [aR xg 12 xi, l1, l2] (aR xg 12 xi :: st) M := e_aldn d103_45 rfl
theorem d103_46 : decode (cod 103) 46 = .ok (.aload_n 0, 1) := by decide +kernel
theorem r103_46 (l1 l2 : AV) (xg xi : Nat) (st : List AV) (M : Mm) : run 103 46 [aR xg 12 xi, l1, l2] st M = run 103 47 [aR xg 12 xi, l1, l2] (aR xg 12 xi :: st) M := e_aldn d103_46 rfl
theorem d103_47 : decode (cod 103) 47 = .ok (.getfield 25, 3) := by decide +kernel
theorem r103_47 (l0 l1 l2 : AV) (xg xi : Nat) (st : List AV) (M : Mm) : run 103 47 [l0, l1, l2] (aR xg 12 xi :: st) M = run 103 50 [l0, l1, l2] (aR 4 18 0 :: st) M := e_gfr (fun g => (4, 18, 0)) d103_47 rfl rfl rfl
theorem d103_50 : decode (cod 103) 50 = .ok (.invokevirtual 164, 3) := by decide +kernel
theorem r103_50 (l0 l1 l2 : AV) (a0g a0i : Nat) (a1g a1i : Nat) (M : Mm) : run 103 50 [l0, l1, l2] [aR a1g 18 a1i, aR a0g 12 a0i] M = cbV (call 101 [aR a0g 12 a0i, aR a1g 18 a1i] M) (fun M => run 103 53 [l0, l1, l2] [] M) := call_V (n := 2) rfl false d103_50 rfl rfl rfl rfl rfl rfl rfl
theorem d103_53 : decode (cod 103) 53 = .ok (.aload_n 0, 1) := by decide +kernel
theorem r103_53 (l1 l2 : AV) (xg xi : Nat) (st : List AV) (M : Mm) : run 103 53 [aR xg 12 xi, l1, l2] st M = run 103 54 [aR xg 12 xi, l1, l2] (aR xg 12 xi :: st) M := e_aldn d103_53 rfl
theorem d103_54 : decode (cod 103) 54 = .ok (.aload_n 0, 1) := by decide +kernel
theorem r103_54 (l1 l2 : AV) (xg xi : Nat) (st : List AV) (M : Mm) : run 103 54 [aR xg 12 xi, l1, l2] st M = run 103 55 [aR xg 12 xi, l1, l2] (aR xg 12 xi :: st) M := e_aldn d103_54 rfl
theorem d103_55 : decode (cod 103) 55 = .ok (.getfield 28, 3) := by decide +kernel
theorem r103_55 (l0 l1 l2 : AV) (xg xi : Nat) (st : List AV) (M : Mm) : run 103 55 [l0, l1, l2] (aR xg 12 xi :: st) M = run 103 58 [l0, l1, l2] (aR 4 19 0 :: st) M := e_gfr (fun g => (4, 19, 0)) d103_55 rfl rfl rfl
theorem d103_58 : decode (cod 103) 58 = .ok (.invokevirtual 164, 3) := by decide +kernel
theorem r103_58 (l0 l1 l2 : AV) (a0g a0i : Nat) (a1g a1i : Nat) (M : Mm) : run 103 58 [l0, l1, l2] [aR a1g 19 a1i, aR a0g 12 a0i] M = cbV (call 101 [aR a0g 12 a0i, aR a1g 19 a1i] M) (fun M => run 103 61 [l0, l1, l2] [] M) := call_V (n := 2) rfl false d103_58 rfl rfl rfl rfl rfl rfl rfl
theorem d103_61 : decode (cod 103) 61 = .ok (.aload_n 0, 1) := by decide +kernel
theorem r103_61 (l1 l2 : AV) (xg xi : Nat) (st : List AV) (M : Mm) : run 103 61 [aR xg 12 xi, l1, l2] st M = run 103 62 [aR xg 12 xi, l1, l2] (aR xg 12 xi :: st) M := e_aldn d103_61 rfl
theorem d103_62 : decode (cod 103) 62 = .ok (.aload_n 0, 1) := by decide +kernel
theorem r103_62 (l1 l2 : AV) (xg xi : Nat) (st : List AV) (M : Mm) : run 103 62 [aR xg 12 xi, l1, l2] st M = run 103 63 [aR xg 12 xi, l1, l2] (aR xg 12 xi :: st) M := e_aldn d103_62 rfl
theorem d103_63 : decode (cod 103) 63 = .ok (.getfield 31, 3) := by decide +kernel
theorem r103_63 (l0 l1 l2 : AV) (xg xi : Nat) (st : List AV) (M : Mm) : run 103 63 [l0, l1, l2] (aR xg 12 xi :: st) M = run 103 66 [l0, l1, l2] (aR 4 20 0 :: st) M := e_gfr (fun g => (4, 20, 0)) d103_63 rfl rfl rfl
theorem d103_66 : decode (cod 103) 66 = .ok (.invokevirtual 164, 3) := by decide +kernel
theorem r103_66 (l0 l1 l2 : AV) (a0g a0i : Nat) (a1g a1i : Nat) (M : Mm) : run 103 66 [l0, l1, l2] [aR a1g 20 a1i, aR a0g 12 a0i] M = cbV (call 101 [aR a0g 12 a0i, aR a1g 20 a1i] M) (fun M => run 103 69 [l0, l1, l2] [] M) := call_V (n := 2) rfl false d103_66 rfl rfl rfl rfl rfl rfl rfl
theorem d103_69 : decode (cod 103) 69 = .ok (.aload_n 0, 1) := by decide +kernel
theorem r103_69 (l1 l2 : AV) (xg xi : Nat) (st : List AV) (M : Mm) : run 103 69 [aR xg 12 xi, l1, l2] st M = run 103 70 [aR xg 12 xi, l1, l2] (aR xg 12 xi :: st) M := e_aldn d103_69 rfl
theorem d103_70 : decode (cod 103) 70 = .ok (.aload_n 0, 1) := by decide +kernel
theorem r103_70 (l1 l2 : AV) (xg xi : Nat) (st : List AV) (M : Mm) : run 103 70 [aR xg 12 xi, l1, l2] st M = run 103 71 [aR xg 12 xi, l1, l2] (aR xg 12 xi :: st) M := e_aldn d103_70 rfl
theorem d103_71 : decode (cod 103) 71 = .ok (.getfield 34, 3) := by decide +kernel
theorem r103_71 (l0 l1 l2 : AV) (xg xi : Nat) (st : List AV) (M : Mm) : run 103 71 [l0, l1, l2] (aR xg 12 xi :: st) M = run 103 74 [l0, l1, l2] (aR 4 21 0 :: st) M := e_gfr (fun g => (4, 21, 0)) d103_71 rfl rfl rfl
theorem d103_74 : decode (cod 103) 74 = .ok (.invokevirtual 164, 3) := by decide +kernel
theorem r103_74 (l0 l1 l2 : AV) (a0g a0i : Nat) (a1g a1i : Nat) (M : Mm) : run 103 74 [l0, l1, l2] [aR a1g 21 a1i, aR a0g 12 a0i] M = cbV (call 101 [aR a0g 12 a0i, aR a1g 21 a1i] M) (fun M => run 103 77 [l0, l1, l2] [] M) := call_V (n := 2) rfl false d103_74 rfl rfl rfl rfl rfl rfl rfl
theorem d103_77 : decode (cod 103) 77 = .ok (.aload_n 0, 1) := by decide +kernel
theorem r103_77 (l1 l2 : AV) (xg xi : Nat) (st : List AV) (M : Mm) : run 103 77 [aR xg 12 xi, l1, l2] st M = run 103 78 [aR xg 12 xi, l1, l2] (aR xg 12 xi :: st) M := e_aldn d103_77 rfl
theorem d103_78 : decode (cod 103) 78 = .ok (.aload_n 0, 1) := by decide +kernel
theorem r103_78 (l1 l2 : AV) (xg xi : Nat) (st : List AV) (M : Mm) : run 103 78 [aR xg 12 xi, l1, l2] st M = run 103 79 [aR xg 12 xi, l1, l2] (aR xg 12 xi :: st) M := e_aldn d103_78 rfl
theorem d103_79 : decode (cod 103) 79 = .ok (.getfield 37, 3) := by decide +kernel
theorem r103_79 (l0 l1 l2 : AV) (xg xi : Nat) (st : List AV) (M : Mm) : run 103 79 [l0, l1, l2] (aR xg 12 xi :: st) M = run 103 82 [l0, l1, l2] (aR 4 22 0 :: st) M := e_gfr (fun g => (4, 22, 0)) d103_79 rfl rfl rfl
theorem d103_82 : decode (cod 103) 82 = .ok (.invokevirtual 164, 3) := by decide +kernel
theorem r103_82 (l0 l1 l2 : AV) (a0g a0i : Nat) (a1g a1i : Nat) (M : Mm) : run 103 82 [l0, l1, l2] [aR a1g 22 a1i, aR a0g 12 a0i] M = cbV (call 101 [aR a0g 12 a0i, aR a1g 22 a1i] M) (fun M => run 103 85 [l0, l1, l2] [] M) := call_V (n := 2) rfl false d103_82 rfl rfl rfl rfl rfl rfl rfl
theorem d103_85 : decode (cod 103) 85 = .ok (.aload_n 0, 1) := by decide +kernel
theorem r103_85 (l1 l2 : AV) (xg xi : Nat) (st : List AV) (M : Mm) : run 103 85 [aR xg 12 xi, l1, l2] st M = run 103 86 [aR xg 12 xi, l1, l2] (aR xg 12 xi :: st) M := e_aldn d103_85 rfl
theorem d103_86 : decode (cod 103) 86 = .ok (.aload_n 0, 1) := by decide +kernel
theorem r103_86 (l1 l2 : AV) (xg xi : Nat) (st : List AV) (M : Mm) : run 103 86 [aR xg 12 xi, l1, l2] st M = run 103 87 [aR xg 12 xi, l1, l2] (aR xg 12 xi :: st) M := e_aldn d103_86 rfl
theorem d103_87 : decode (cod 103) 87 = .ok (.aload_n 0, 1) := by decide +kernel
theorem r103_87 (l1 l2 : AV) (xg xi : Nat) (st : List AV) (M : Mm) : run 103 87 [aR xg 12 xi, l1, l2] st M = run 103 88 [aR xg 12 xi, l1, l2] (aR xg 12 xi :: st) M := e_aldn d103_87 rfl
theorem d103_88 : decode (cod 103) 88 = .ok (.getfield 79, 3) := by decide +kernel
theorem r103_88 (l0 l1 l2 : AV) (xg xi : Nat) (st : List AV) (M : Mm) : run 103 88 [l0, l1, l2] (aR xg 12 xi :: st) M = run 103 91 [l0, l1, l2] (aI (M xg 12 xi 10) :: st) M := e_gfi d103_88 rfl rfl rfl
theorem d103_91 : decode (cod 103) 91 = .ok (.invokevirtual 168, 3) := by decide +kernel
theorem r103_91 (l0 l1 l2 : AV) (a0g a0i : Nat) (a1 : Int32) (t0 : AV) (M : Mm) : run 103 91 [l0, l1, l2] [aI a1, aR a0g 12 a0i, t0] M = cbI (call 102 [aR a0g 12 a0i, aI a1] M) (fun v M => run 103 94 [l0, l1, l2] [aI v, t0] M) := call_I (n := 2) rfl false d103_91 rfl rfl rfl rfl rfl rfl rfl
theorem d103_94 : decode (cod 103) 94 = .ok (.putfield 79, 3) := by decide +kernel
theorem r103_94 (l0 l1 l2 : AV) (v : Int32) (xg xi : Nat) (st : List AV) (M : Mm) : run 103 94 [l0, l1, l2] (aI v :: aR xg 12 xi :: st) M = run 103 97 [l0, l1, l2] st (wr M xg 12 xi 10 v) := e_pfi d103_94 rfl rfl rfl rfl
theorem d103_97 : decode (cod 103) 97 = .ok (.aload_n 0, 1) := by decide +kernel
theorem r103_97 (l1 l2 : AV) (xg xi : Nat) (st : List AV) (M : Mm) : run 103 97 [aR xg 12 xi, l1, l2] st M = run 103 98 [aR xg 12 xi, l1, l2] (aR xg 12 xi :: st) M := e_aldn d103_97 rfl
theorem d103_98 : decode (cod 103) 98 = .ok (.aload_n 0, 1) := by decide +kernel
theorem r103_98 (l1 l2 : AV) (xg xi : Nat) (st : List AV) (M : Mm) : run 103 98 [aR xg 12 xi, l1, l2] st M = run 103 99 [aR xg 12 xi, l1, l2] (aR xg 12 xi :: st) M := e_aldn d103_98 rfl
theorem d103_99 : decode (cod 103) 99 = .ok (.aload_n 0, 1) := by decide +kernel
theorem r103_99 (l1 l2 : AV) (xg xi : Nat) (st : List AV) (M : Mm) : run 103 99 [aR xg 12 xi, l1, l2] st M = run 103 100 [aR xg 12 xi, l1, l2] (aR xg 12 xi :: st) M := e_aldn d103_99 rfl
theorem d103_100 : decode (cod 103) 100 = .ok (.getfield 140, 3) := by decide +kernel
theorem r103_100 (l0 l1 l2 : AV) (xg xi : Nat) (st : List AV) (M : Mm) : run 103 100 [l0, l1, l2] (aR xg 12 xi :: st) M = run 103 103 [l0, l1, l2] (aI (M xg 12 xi 11) :: st) M := e_gfi d103_100 rfl rfl rfl
theorem d103_103 : decode (cod 103) 103 = .ok (.invokevirtual 168, 3) := by decide +kernel
theorem r103_103 (l0 l1 l2 : AV) (a0g a0i : Nat) (a1 : Int32) (t0 : AV) (M : Mm) : run 103 103 [l0, l1, l2] [aI a1, aR a0g 12 a0i, t0] M = cbI (call 102 [aR a0g 12 a0i, aI a1] M) (fun v M => run 103 106 [l0, l1, l2] [aI v, t0] M) := call_I (n := 2) rfl false d103_103 rfl rfl rfl rfl rfl rfl rfl
theorem d103_106 : decode (cod 103) 106 = .ok (.putfield 140, 3) := by decide +kernel
theorem r103_106 (l0 l1 l2 : AV) (v : Int32) (xg xi : Nat) (st : List AV) (M : Mm) : run 103 106 [l0, l1, l2] (aI v :: aR xg 12 xi :: st) M = run 103 109 [l0, l1, l2] st (wr M xg 12 xi 11 v) := e_pfi d103_106 rfl rfl rfl rfl
theorem d103_109 : decode (cod 103) 109 = .ok (.aload_n 0, 1) := by decide +kernel
theorem r103_109 (l1 l2 : AV) (xg xi : Nat) (st : List AV) (M : Mm) : run 103 109 [aR xg 12 xi, l1, l2] st M = run 103 110 [aR xg 12 xi, l1, l2] (aR xg 12 xi :: st) M := e_aldn d103_109 rfl
theorem d103_110 : decode (cod 103) 110 = .ok (.aload_n 0, 1) := by decide +kernel
theorem r103_110 (l1 l2 : AV) (xg xi : Nat) (st : List AV) (M : Mm) : run 103 110 [aR xg 12 xi, l1, l2] st M = run 103 111 [aR xg 12 xi, l1, l2] (aR xg 12 xi :: st) M := e_aldn d103_110 rfl
theorem d103_111 : decode (cod 103) 111 = .ok (.aload_n 0, 1) := by decide +kernel
theorem r103_111 (l1 l2 : AV) (xg xi : Nat) (st : List AV) (M : Mm) : run 103 111 [aR xg 12 xi, l1, l2] st M = run 103 112 [aR xg 12 xi, l1, l2] (aR xg 12 xi :: st) M := e_aldn d103_111 rfl
theorem d103_112 : decode (cod 103) 112 = .ok (.getfield 70, 3) := by decide +kernel
theorem r103_112 (l0 l1 l2 : AV) (xg xi : Nat) (st : List AV) (M : Mm) : run 103 112 [l0, l1, l2] (aR xg 12 xi :: st) M = run 103 115 [l0, l1, l2] (aI (M xg 12 xi 12) :: st) M := e_gfi d103_112 rfl rfl rfl
theorem d103_115 : decode (cod 103) 115 = .ok (.invokevirtual 168, 3) := by decide +kernel
theorem r103_115 (l0 l1 l2 : AV) (a0g a0i : Nat) (a1 : Int32) (t0 : AV) (M : Mm) : run 103 115 [l0, l1, l2] [aI a1, aR a0g 12 a0i, t0] M = cbI (call 102 [aR a0g 12 a0i, aI a1] M) (fun v M => run 103 118 [l0, l1, l2] [aI v, t0] M) := call_I (n := 2) rfl false d103_115 rfl rfl rfl rfl rfl rfl rfl
theorem d103_118 : decode (cod 103) 118 = .ok (.putfield 70, 3) := by decide +kernel
theorem r103_118 (l0 l1 l2 : AV) (v : Int32) (xg xi : Nat) (st : List AV) (M : Mm) : run 103 118 [l0, l1, l2] (aI v :: aR xg 12 xi :: st) M = run 103 121 [l0, l1, l2] st (wr M xg 12 xi 12 v) := e_pfi d103_118 rfl rfl rfl rfl
theorem d103_121 : decode (cod 103) 121 = .ok (.aload_n 0, 1) := by decide +kernel
theorem r103_121 (l1 l2 : AV) (xg xi : Nat) (st : List AV) (M : Mm) : run 103 121 [aR xg 12 xi, l1, l2] st M = run 103 122 [aR xg 12 xi, l1, l2] (aR xg 12 xi :: st) M := e_aldn d103_121 rfl
theorem d103_122 : decode (cod 103) 122 = .ok (.aload_n 0, 1) := by decide +kernel
theorem r103_122 (l1 l2 : AV) (xg xi : Nat) (st : List AV) (M : Mm) : run 103 122 [aR xg 12 xi, l1, l2] st M = run 103 123 [aR xg 12 xi, l1, l2] (aR xg 12 xi :: st) M := e_aldn d103_122 rfl
theorem d103_123 : decode (cod 103) 123 = .ok (.aload_n 0, 1) := by decide +kernel
theorem r103_123 (l1 l2 : AV) (xg xi : Nat) (st : List AV) (M : Mm) : run 103 123 [aR xg 12 xi, l1, l2] st M = run 103 124 [aR xg 12 xi, l1, l2] (aR xg 12 xi :: st) M := e_aldn d103_123 rfl
theorem d103_124 : decode (cod 103) 124 = .ok (.getfield 171, 3) := by decide +kernel
theorem r103_124 (l0 l1 l2 : AV) (xg xi : Nat) (st : List AV) (M : Mm) : run 103 124 [l0, l1, l2] (aR xg 12 xi :: st) M = run 103 127 [l0, l1, l2] (aI (M xg 12 xi 13) :: st) M := e_gfi d103_124 rfl rfl rfl
theorem d103_127 : decode (cod 103) 127 = .ok (.invokevirtual 168, 3) := by decide +kernel
theorem r103_127 (l0 l1 l2 : AV) (a0g a0i : Nat) (a1 : Int32) (t0 : AV) (M : Mm) : run 103 127 [l0, l1, l2] [aI a1, aR a0g 12 a0i, t0] M = cbI (call 102 [aR a0g 12 a0i, aI a1] M) (fun v M => run 103 130 [l0, l1, l2] [aI v, t0] M) := call_I (n := 2) rfl false d103_127 rfl rfl rfl rfl rfl rfl rfl
theorem d103_130 : decode (cod 103) 130 = .ok (.putfield 171, 3) := by decide +kernel
theorem r103_130 (l0 l1 l2 : AV) (v : Int32) (xg xi : Nat) (st : List AV) (M : Mm) : run 103 130 [l0, l1, l2] (aI v :: aR xg 12 xi :: st) M = run 103 133 [l0, l1, l2] st (wr M xg 12 xi 13 v) := e_pfi d103_130 rfl rfl rfl rfl
theorem d103_133 : decode (cod 103) 133 = .ok (.return_, 1) := by decide +kernel
theorem r103_133 (l0 l1 l2 : AV) (M : Mm) : run 103 133 [l0, l1, l2] [] M = some (none, M) := e_vret d103_133 rfl
theorem c104 (g0 i0 : Nat) (M : Mm) : call 104 [aR g0 12 i0] M = run 104 0 [aR g0 12 i0] [] M := call_run 104 _ _
theorem d104_0 : decode (cod 104) 0 = .ok (.aload_n 0, 1) := by decide +kernel
theorem r104_0 (xg xi : Nat) (st : List AV) (M : Mm) : run 104 0 [aR xg 12 xi] st M = run 104 1 [aR xg 12 xi] (aR xg 12 xi :: st) M := e_aldn d104_0 rfl
theorem d104_1 : decode (cod 104) 1 = .ok (.iconst 1, 1) := by decide +kernel
theorem r104_1 (l0 : AV) (st : List AV) (M : Mm) : run 104 1 [l0] st M = run 104 2 [l0] (aI 1 :: st) M := e_iconst 1 d104_1 (by decide +kernel)
theorem d104_2 : decode (cod 104) 2 = .ok (.putfield 174, 3) := by decide +kernel
theorem r104_2 (l0 : AV) (v : Int32) (xg xi : Nat) (st : List AV) (M : Mm) : run 104 2 [l0] (aI v :: aR xg 12 xi :: st) M = if v = 0 ∨ v = 1 then run 104 5 [l0] st (wr M xg 12 xi 22 v) else none := e_pfz d104_2 rfl rfl rfl rfl
theorem d104_5 : decode (cod 104) 5 = .ok (.aload_n 0, 1) := by decide +kernel
theorem r104_5 (xg xi : Nat) (st : List AV) (M : Mm) : run 104 5 [aR xg 12 xi] st M = run 104 6 [aR xg 12 xi] (aR xg 12 xi :: st) M := e_aldn d104_5 rfl
theorem d104_6 : decode (cod 104) 6 = .ok (.iconst 0, 1) := by decide +kernel
theorem r104_6 (l0 : AV) (st : List AV) (M : Mm) : run 104 6 [l0] st M = run 104 7 [l0] (aI 0 :: st) M := e_iconst 0 d104_6 (by decide +kernel)
theorem d104_7 : decode (cod 104) 7 = .ok (.iconst 1, 1) := by decide +kernel
theorem r104_7 (l0 : AV) (st : List AV) (M : Mm) : run 104 7 [l0] st M = run 104 8 [l0] (aI 1 :: st) M := e_iconst 1 d104_7 (by decide +kernel)
theorem d104_8 : decode (cod 104) 8 = .ok (.invokevirtual 150, 3) := by decide +kernel
theorem r104_8 (l0 : AV) (a0g a0i : Nat) (a1 : Int32) (a2 : Int32) (M : Mm) : run 104 8 [l0] [aI a2, aI a1, aR a0g 12 a0i] M = cbV (call 103 [aR a0g 12 a0i, aI a1, aI a2] M) (fun M => run 104 11 [l0] [] M) := call_V (n := 3) rfl false d104_8 rfl rfl rfl rfl rfl rfl rfl
theorem d104_11 : decode (cod 104) 11 = .ok (.aload_n 0, 1) := by decide +kernel
theorem r104_11 (xg xi : Nat) (st : List AV) (M : Mm) : run 104 11 [aR xg 12 xi] st M = run 104 12 [aR xg 12 xi] (aR xg 12 xi :: st) M := e_aldn d104_11 rfl
theorem d104_12 : decode (cod 104) 12 = .ok (.getfield 140, 3) := by decide +kernel
theorem r104_12 (l0 : AV) (xg xi : Nat) (st : List AV) (M : Mm) : run 104 12 [l0] (aR xg 12 xi :: st) M = run 104 15 [l0] (aI (M xg 12 xi 11) :: st) M := e_gfi d104_12 rfl rfl rfl
theorem d104_15 : decode (cod 104) 15 = .ok (.ireturn, 1) := by decide +kernel
theorem r104_15 (l0 : AV) (v : Int32) (M : Mm) : run 104 15 [l0] [aI v] M = some (some v, M) := e_iret d104_15 rfl
theorem c105 (g0 i0 : Nat) (M : Mm) : call 105 [aR g0 12 i0] M = run 105 0 [aR g0 12 i0] [] M := call_run 105 _ _
theorem d105_0 : decode (cod 105) 0 = .ok (.aload_n 0, 1) := by decide +kernel
theorem r105_0 (xg xi : Nat) (st : List AV) (M : Mm) : run 105 0 [aR xg 12 xi] st M = run 105 1 [aR xg 12 xi] (aR xg 12 xi :: st) M := e_aldn d105_0 rfl
theorem d105_1 : decode (cod 105) 1 = .ok (.getfield 174, 3) := by decide +kernel
theorem r105_1 (l0 : AV) (xg xi : Nat) (st : List AV) (M : Mm) : run 105 1 [l0] (aR xg 12 xi :: st) M = run 105 4 [l0] (aI (M xg 12 xi 22) :: st) M := e_gfi d105_1 rfl rfl rfl
theorem d105_4 : decode (cod 105) 4 = .ok (.ifCond .ne 10, 3) := by decide +kernel
theorem r105_4 (l0 : AV) (a : Int32) (st : List AV) (M : Mm) : run 105 4 [l0] (aI a :: st) M = if a = 0 then run 105 7 [l0] st M else run 105 14 [l0] st M := e_ne1 14 d105_4 (by decide)
theorem d105_7 : decode (cod 105) 7 = .ok (.aload_n 0, 1) := by decide +kernel
theorem r105_7 (xg xi : Nat) (st : List AV) (M : Mm) : run 105 7 [aR xg 12 xi] st M = run 105 8 [aR xg 12 xi] (aR xg 12 xi :: st) M := e_aldn d105_7 rfl
theorem d105_8 : decode (cod 105) 8 = .ok (.bipush (-3), 2) := by decide +kernel
theorem r105_8 (l0 : AV) (st : List AV) (M : Mm) : run 105 8 [l0] st M = run 105 10 [l0] (aI (-3) :: st) M := e_bipush (-3) d105_8 (by decide +kernel)
theorem d105_10 : decode (cod 105) 10 = .ok (.invokevirtual 89, 3) := by decide +kernel
theorem r105_10 (l0 : AV) (a0g a0i : Nat) (a1 : Int32) (M : Mm) : run 105 10 [l0] [aI a1, aR a0g 12 a0i] M = cbI (call 81 [aR a0g 12 a0i, aI a1] M) (fun v M => run 105 13 [l0] [aI v] M) := call_I (n := 2) rfl false d105_10 rfl rfl rfl rfl rfl rfl rfl
theorem d105_13 : decode (cod 105) 13 = .ok (.ireturn, 1) := by decide +kernel
theorem r105_13 (l0 : AV) (v : Int32) (M : Mm) : run 105 13 [l0] [aI v] M = some (some v, M) := e_iret d105_13 rfl
theorem d105_14 : decode (cod 105) 14 = .ok (.aload_n 0, 1) := by decide +kernel
theorem r105_14 (xg xi : Nat) (st : List AV) (M : Mm) : run 105 14 [aR xg 12 xi] st M = run 105 15 [aR xg 12 xi] (aR xg 12 xi :: st) M := e_aldn d105_14 rfl
theorem d105_15 : decode (cod 105) 15 = .ok (.iconst 0, 1) := by decide +kernel
theorem r105_15 (l0 : AV) (st : List AV) (M : Mm) : run 105 15 [l0] st M = run 105 16 [l0] (aI 0 :: st) M := e_iconst 0 d105_15 (by decide +kernel)
theorem d105_16 : decode (cod 105) 16 = .ok (.iconst 0, 1) := by decide +kernel
theorem r105_16 (l0 : AV) (st : List AV) (M : Mm) : run 105 16 [l0] st M = run 105 17 [l0] (aI 0 :: st) M := e_iconst 0 d105_16 (by decide +kernel)
theorem d105_17 : decode (cod 105) 17 = .ok (.invokevirtual 150, 3) := by decide +kernel
theorem r105_17 (l0 : AV) (a0g a0i : Nat) (a1 : Int32) (a2 : Int32) (M : Mm) : run 105 17 [l0] [aI a2, aI a1, aR a0g 12 a0i] M = cbV (call 103 [aR a0g 12 a0i, aI a1, aI a2] M) (fun M => run 105 20 [l0] [] M) := call_V (n := 3) rfl false d105_17 rfl rfl rfl rfl rfl rfl rfl
theorem d105_20 : decode (cod 105) 20 = .ok (.aload_n 0, 1) := by decide +kernel
theorem r105_20 (xg xi : Nat) (st : List AV) (M : Mm) : run 105 20 [aR xg 12 xi] st M = run 105 21 [aR xg 12 xi] (aR xg 12 xi :: st) M := e_aldn d105_20 rfl
theorem d105_21 : decode (cod 105) 21 = .ok (.getfield 140, 3) := by decide +kernel
theorem r105_21 (l0 : AV) (xg xi : Nat) (st : List AV) (M : Mm) : run 105 21 [l0] (aR xg 12 xi :: st) M = run 105 24 [l0] (aI (M xg 12 xi 11) :: st) M := e_gfi d105_21 rfl rfl rfl
theorem d105_24 : decode (cod 105) 24 = .ok (.ireturn, 1) := by decide +kernel
theorem r105_24 (l0 : AV) (v : Int32) (M : Mm) : run 105 24 [l0] [aI v] M = some (some v, M) := e_iret d105_24 rfl
theorem c106 (g0 i0 : Nat) (x1 : Int32) (M : Mm) : call 106 [aR g0 12 i0, aI x1] M = run 106 0 [aR g0 12 i0, aI x1, none] [] M := call_run 106 _ _
theorem d106_0 : decode (cod 106) 0 = .ok (.aload_n 0, 1) := by decide +kernel
theorem r106_0 (l1 l2 : AV) (xg xi : Nat) (st : List AV) (M : Mm) : run 106 0 [aR xg 12 xi, l1, l2] st M = run 106 1 [aR xg 12 xi, l1, l2] (aR xg 12 xi :: st) M := e_aldn d106_0 rfl
theorem d106_1 : decode (cod 106) 1 = .ok (.getfield 19, 3) := by decide +kernel
theorem r106_1 (l0 l1 l2 : AV) (xg xi : Nat) (st : List AV) (M : Mm) : run 106 1 [l0, l1, l2] (aR xg 12 xi :: st) M = run 106 4 [l0, l1, l2] (aR 4 16 0 :: st) M := e_gfr (fun g => (4, 16, 0)) d106_1 rfl rfl rfl
theorem d106_4 : decode (cod 106) 4 = .ok (.iload_n 1, 1) := by decide +kernel
theorem r106_4 (l0 l2 : AV) (x : Int32) (st : List AV) (M : Mm) : run 106 4 [l0, aI x, l2] st M = run 106 5 [l0, aI x, l2] (aI x :: st) M := e_ildn d106_4 rfl
theorem d106_5 : decode (cod 106) 5 = .ok (.iaload, 1) := by decide +kernel
theorem r106_5 (l0 l1 l2 : AV) (i : Int32) (xg xi : Nat) (st : List AV) (M : Mm) : run 106 5 [l0, l1, l2] (aI i :: aR xg 16 xi :: st) M = if vpB i 4 = true then run 106 6 [l0, l1, l2] (aI (M xg 16 xi i.toNatClampNeg) :: st) M else none := e_ial d106_5 rfl rfl
theorem d106_6 : decode (cod 106) 6 = .ok (.iconst 1, 1) := by decide +kernel
theorem r106_6 (l0 l1 l2 : AV) (st : List AV) (M : Mm) : run 106 6 [l0, l1, l2] st M = run 106 7 [l0, l1, l2] (aI 1 :: st) M := e_iconst 1 d106_6 (by decide +kernel)
theorem d106_7 : decode (cod 106) 7 = .ok (.iadd, 1) := by decide +kernel
theorem r106_7 (l0 l1 l2 : AV) (a b : Int32) (st : List AV) (M : Mm) : run 106 7 [l0, l1, l2] (aI b :: aI a :: st) M = run 106 8 [l0, l1, l2] (aI (a + b) :: st) M := e_iadd d106_7
theorem d106_8 : decode (cod 106) 8 = .ok (.iconst 2, 1) := by decide +kernel
theorem r106_8 (l0 l1 l2 : AV) (st : List AV) (M : Mm) : run 106 8 [l0, l1, l2] st M = run 106 9 [l0, l1, l2] (aI 2 :: st) M := e_iconst 2 d106_8 (by decide +kernel)
theorem d106_9 : decode (cod 106) 9 = .ok (.idiv, 1) := by decide +kernel
theorem r106_9 (l0 l1 l2 : AV) (a b : Int32) (st : List AV) (M : Mm) : run 106 9 [l0, l1, l2] (aI b :: aI a :: st) M = if b = 0 then none else run 106 10 [l0, l1, l2] (aI (a / b) :: st) M := e_idiv d106_9
theorem d106_10 : decode (cod 106) 10 = .ok (.istore_n 2, 1) := by decide +kernel
theorem r106_10 (l0 l1 l2 : AV) (x : Int32) (st : List AV) (M : Mm) : run 106 10 [l0, l1, l2] (aI x :: st) M = run 106 11 [l0, l1, aI x] st M := e_istn [l0, l1, aI x] d106_10 rfl rfl
theorem d106_11 : decode (cod 106) 11 = .ok (.aload_n 0, 1) := by decide +kernel
theorem r106_11 (l1 l2 : AV) (xg xi : Nat) (st : List AV) (M : Mm) : run 106 11 [aR xg 12 xi, l1, l2] st M = run 106 12 [aR xg 12 xi, l1, l2] (aR xg 12 xi :: st) M := e_aldn d106_11 rfl
theorem d106_12 : decode (cod 106) 12 = .ok (.getfield 16, 3) := by decide +kernel
theorem r106_12 (l0 l1 l2 : AV) (xg xi : Nat) (st : List AV) (M : Mm) : run 106 12 [l0, l1, l2] (aR xg 12 xi :: st) M = run 106 15 [l0, l1, l2] (aR 4 15 0 :: st) M := e_gfr (fun g => (4, 15, 0)) d106_12 rfl rfl rfl
theorem d106_15 : decode (cod 106) 15 = .ok (.iload_n 1, 1) := by decide +kernel
theorem r106_15 (l0 l2 : AV) (x : Int32) (st : List AV) (M : Mm) : run 106 15 [l0, aI x, l2] st M = run 106 16 [l0, aI x, l2] (aI x :: st) M := e_ildn d106_15 rfl
theorem d106_16 : decode (cod 106) 16 = .ok (.iaload, 1) := by decide +kernel
theorem r106_16 (l0 l1 l2 : AV) (i : Int32) (xg xi : Nat) (st : List AV) (M : Mm) : run 106 16 [l0, l1, l2] (aI i :: aR xg 15 xi :: st) M = if vpB i 4 = true then run 106 17 [l0, l1, l2] (aI (M xg 15 xi i.toNatClampNeg) :: st) M else none := e_ial d106_16 rfl rfl
theorem d106_17 : decode (cod 106) 17 = .ok (.tableswitch 50 1 5 #[35, 50, 50, 37, 46], 35) := by decide +kernel
theorem r106_17 (l0 l1 l2 : AV) (x : Int32) (st : List AV) (M : Mm) : run 106 17 [l0, l1, l2] (aI x :: st) M = if x = 1 then run 106 52 [l0, l1, l2] st M else if x = 4 then run 106 54 [l0, l1, l2] st M else if x = 5 then run 106 63 [l0, l1, l2] st M else run 106 67 [l0, l1, l2] st M := by
  rw [run_step d106_17 rfl]
  simp only [stpI, tsw]
  by_cases c0 : x = 1
  · subst c0
    rw [if_pos rfl]
    rfl
  rw [if_neg c0]
  by_cases c1 : x = 4
  · subst c1
    rw [if_pos rfl]
    rfl
  rw [if_neg c1]
  by_cases c2 : x = 5
  · subst c2
    rw [if_pos rfl]
    rfl
  rw [if_neg c2]
  by_cases e0 : x = 2
  · subst e0
    rfl
  by_cases e1 : x = 3
  · subst e1
    rfl
  have hx : x.toInt < 1 ∨ 5 < x.toInt := by
    have h : ∀ k : Int, ¬ x = Int32.ofInt k → -2147483648 ≤ k → k < 2147483648 → ¬ x.toInt = k := fun k hk hl hh e => hk (Int32.toInt_inj.mp (by rw [e, Int32.toInt_ofInt_of_le hl hh]))
    have fc0 := h 1 c0 (by decide) (by decide)
    have fc1 := h 4 c1 (by decide) (by decide)
    have fc2 := h 5 c2 (by decide) (by decide)
    have fe0 := h 2 e0 (by decide) (by decide)
    have fe1 := h 3 e1 (by decide) (by decide)
    omega
  rw [if_pos hx, jmp_run 67 (by decide)]
  rfl
theorem d106_52 : decode (cod 106) 52 = .ok (.iload_n 2, 1) := by decide +kernel
theorem r106_52 (l0 l1 : AV) (x : Int32) (st : List AV) (M : Mm) : run 106 52 [l0, l1, aI x] st M = run 106 53 [l0, l1, aI x] (aI x :: st) M := e_ildn d106_52 rfl
theorem d106_53 : decode (cod 106) 53 = .ok (.ireturn, 1) := by decide +kernel
theorem r106_53 (l0 l1 l2 : AV) (v : Int32) (M : Mm) : run 106 53 [l0, l1, l2] [aI v] M = some (some v, M) := e_iret d106_53 rfl
theorem d106_54 : decode (cod 106) 54 = .ok (.aload_n 0, 1) := by decide +kernel
theorem r106_54 (l1 l2 : AV) (xg xi : Nat) (st : List AV) (M : Mm) : run 106 54 [aR xg 12 xi, l1, l2] st M = run 106 55 [aR xg 12 xi, l1, l2] (aR xg 12 xi :: st) M := e_aldn d106_54 rfl
theorem d106_55 : decode (cod 106) 55 = .ok (.getfield 19, 3) := by decide +kernel
theorem r106_55 (l0 l1 l2 : AV) (xg xi : Nat) (st : List AV) (M : Mm) : run 106 55 [l0, l1, l2] (aR xg 12 xi :: st) M = run 106 58 [l0, l1, l2] (aR 4 16 0 :: st) M := e_gfr (fun g => (4, 16, 0)) d106_55 rfl rfl rfl
theorem d106_58 : decode (cod 106) 58 = .ok (.iload_n 1, 1) := by decide +kernel
theorem r106_58 (l0 l2 : AV) (x : Int32) (st : List AV) (M : Mm) : run 106 58 [l0, aI x, l2] st M = run 106 59 [l0, aI x, l2] (aI x :: st) M := e_ildn d106_58 rfl
theorem d106_59 : decode (cod 106) 59 = .ok (.iaload, 1) := by decide +kernel
theorem r106_59 (l0 l1 l2 : AV) (i : Int32) (xg xi : Nat) (st : List AV) (M : Mm) : run 106 59 [l0, l1, l2] (aI i :: aR xg 16 xi :: st) M = if vpB i 4 = true then run 106 60 [l0, l1, l2] (aI (M xg 16 xi i.toNatClampNeg) :: st) M else none := e_ial d106_59 rfl rfl
theorem d106_60 : decode (cod 106) 60 = .ok (.iconst 1, 1) := by decide +kernel
theorem r106_60 (l0 l1 l2 : AV) (st : List AV) (M : Mm) : run 106 60 [l0, l1, l2] st M = run 106 61 [l0, l1, l2] (aI 1 :: st) M := e_iconst 1 d106_60 (by decide +kernel)
theorem d106_61 : decode (cod 106) 61 = .ok (.iadd, 1) := by decide +kernel
theorem r106_61 (l0 l1 l2 : AV) (a b : Int32) (st : List AV) (M : Mm) : run 106 61 [l0, l1, l2] (aI b :: aI a :: st) M = run 106 62 [l0, l1, l2] (aI (a + b) :: st) M := e_iadd d106_61
theorem d106_62 : decode (cod 106) 62 = .ok (.ireturn, 1) := by decide +kernel
theorem r106_62 (l0 l1 l2 : AV) (v : Int32) (M : Mm) : run 106 62 [l0, l1, l2] [aI v] M = some (some v, M) := e_iret d106_62 rfl
theorem d106_63 : decode (cod 106) 63 = .ok (.iload_n 2, 1) := by decide +kernel
theorem r106_63 (l0 l1 : AV) (x : Int32) (st : List AV) (M : Mm) : run 106 63 [l0, l1, aI x] st M = run 106 64 [l0, l1, aI x] (aI x :: st) M := e_ildn d106_63 rfl
theorem d106_64 : decode (cod 106) 64 = .ok (.iconst 1, 1) := by decide +kernel
theorem r106_64 (l0 l1 l2 : AV) (st : List AV) (M : Mm) : run 106 64 [l0, l1, l2] st M = run 106 65 [l0, l1, l2] (aI 1 :: st) M := e_iconst 1 d106_64 (by decide +kernel)
theorem d106_65 : decode (cod 106) 65 = .ok (.iadd, 1) := by decide +kernel
theorem r106_65 (l0 l1 l2 : AV) (a b : Int32) (st : List AV) (M : Mm) : run 106 65 [l0, l1, l2] (aI b :: aI a :: st) M = run 106 66 [l0, l1, l2] (aI (a + b) :: st) M := e_iadd d106_65
theorem d106_66 : decode (cod 106) 66 = .ok (.ireturn, 1) := by decide +kernel
theorem r106_66 (l0 l1 l2 : AV) (v : Int32) (M : Mm) : run 106 66 [l0, l1, l2] [aI v] M = some (some v, M) := e_iret d106_66 rfl
theorem d106_67 : decode (cod 106) 67 = .ok (.aload_n 0, 1) := by decide +kernel
theorem r106_67 (l1 l2 : AV) (xg xi : Nat) (st : List AV) (M : Mm) : run 106 67 [aR xg 12 xi, l1, l2] st M = run 106 68 [aR xg 12 xi, l1, l2] (aR xg 12 xi :: st) M := e_aldn d106_67 rfl
theorem d106_68 : decode (cod 106) 68 = .ok (.getfield 19, 3) := by decide +kernel
theorem r106_68 (l0 l1 l2 : AV) (xg xi : Nat) (st : List AV) (M : Mm) : run 106 68 [l0, l1, l2] (aR xg 12 xi :: st) M = run 106 71 [l0, l1, l2] (aR 4 16 0 :: st) M := e_gfr (fun g => (4, 16, 0)) d106_68 rfl rfl rfl
theorem d106_71 : decode (cod 106) 71 = .ok (.iload_n 1, 1) := by decide +kernel
theorem r106_71 (l0 l2 : AV) (x : Int32) (st : List AV) (M : Mm) : run 106 71 [l0, aI x, l2] st M = run 106 72 [l0, aI x, l2] (aI x :: st) M := e_ildn d106_71 rfl
theorem d106_72 : decode (cod 106) 72 = .ok (.iaload, 1) := by decide +kernel
theorem r106_72 (l0 l1 l2 : AV) (i : Int32) (xg xi : Nat) (st : List AV) (M : Mm) : run 106 72 [l0, l1, l2] (aI i :: aR xg 16 xi :: st) M = if vpB i 4 = true then run 106 73 [l0, l1, l2] (aI (M xg 16 xi i.toNatClampNeg) :: st) M else none := e_ial d106_72 rfl rfl
theorem d106_73 : decode (cod 106) 73 = .ok (.ireturn, 1) := by decide +kernel
theorem r106_73 (l0 l1 l2 : AV) (v : Int32) (M : Mm) : run 106 73 [l0, l1, l2] [aI v] M = some (some v, M) := e_iret d106_73 rfl
theorem c107 (x0 : Int32) (M : Mm) : call 107 [aI x0] M = run 107 0 [aI x0] [] M := call_run 107 _ _
theorem d107_0 : decode (cod 107) 0 = .ok (.iload_n 0, 1) := by decide +kernel
theorem r107_0 (x : Int32) (st : List AV) (M : Mm) : run 107 0 [aI x] st M = run 107 1 [aI x] (aI x :: st) M := e_ildn d107_0 rfl
theorem d107_1 : decode (cod 107) 1 = .ok (.iconst 2, 1) := by decide +kernel
theorem r107_1 (l0 : AV) (st : List AV) (M : Mm) : run 107 1 [l0] st M = run 107 2 [l0] (aI 2 :: st) M := e_iconst 2 d107_1 (by decide +kernel)
theorem d107_2 : decode (cod 107) 2 = .ok (.if_icmp .eq 8, 3) := by decide +kernel
theorem r107_2 (l0 : AV) (a b : Int32) (st : List AV) (M : Mm) : run 107 2 [l0] (aI b :: aI a :: st) M = if a = b then run 107 10 [l0] st M else run 107 5 [l0] st M := e_eq2 10 d107_2 (by decide)
theorem d107_5 : decode (cod 107) 5 = .ok (.iload_n 0, 1) := by decide +kernel
theorem r107_5 (x : Int32) (st : List AV) (M : Mm) : run 107 5 [aI x] st M = run 107 6 [aI x] (aI x :: st) M := e_ildn d107_5 rfl
theorem d107_6 : decode (cod 107) 6 = .ok (.iconst 4, 1) := by decide +kernel
theorem r107_6 (l0 : AV) (st : List AV) (M : Mm) : run 107 6 [l0] st M = run 107 7 [l0] (aI 4 :: st) M := e_iconst 4 d107_6 (by decide +kernel)
theorem d107_7 : decode (cod 107) 7 = .ok (.if_icmp .ne 7, 3) := by decide +kernel
theorem r107_7 (l0 : AV) (a b : Int32) (st : List AV) (M : Mm) : run 107 7 [l0] (aI b :: aI a :: st) M = if a = b then run 107 10 [l0] st M else run 107 14 [l0] st M := e_ne2 14 d107_7 (by decide)
theorem d107_10 : decode (cod 107) 10 = .ok (.iconst 2, 1) := by decide +kernel
theorem r107_10 (l0 : AV) (st : List AV) (M : Mm) : run 107 10 [l0] st M = run 107 11 [l0] (aI 2 :: st) M := e_iconst 2 d107_10 (by decide +kernel)
theorem d107_11 : decode (cod 107) 11 = .ok (.goto 4, 3) := by decide +kernel
theorem r107_11 (l0 : AV) (st : List AV) (M : Mm) : run 107 11 [l0] st M = run 107 15 [l0] st M := e_goto 15 d107_11 (by decide)
theorem d107_14 : decode (cod 107) 14 = .ok (.iconst 1, 1) := by decide +kernel
theorem r107_14 (l0 : AV) (st : List AV) (M : Mm) : run 107 14 [l0] st M = run 107 15 [l0] (aI 1 :: st) M := e_iconst 1 d107_14 (by decide +kernel)
theorem d107_15 : decode (cod 107) 15 = .ok (.ireturn, 1) := by decide +kernel
theorem r107_15 (l0 : AV) (v : Int32) (M : Mm) : run 107 15 [l0] [aI v] M = some (some v, M) := e_iret d107_15 rfl
theorem c108 (g0 i0 : Nat) (x1 : Int32) (M : Mm) : call 108 [aR g0 12 i0, aI x1] M = run 108 0 [aR g0 12 i0, aI x1] [] M := call_run 108 _ _
theorem d108_0 : decode (cod 108) 0 = .ok (.aload_n 0, 1) := by decide +kernel
theorem r108_0 (l1 : AV) (xg xi : Nat) (st : List AV) (M : Mm) : run 108 0 [aR xg 12 xi, l1] st M = run 108 1 [aR xg 12 xi, l1] (aR xg 12 xi :: st) M := e_aldn d108_0 rfl
theorem d108_1 : decode (cod 108) 1 = .ok (.getfield 16, 3) := by decide +kernel
theorem r108_1 (l0 l1 : AV) (xg xi : Nat) (st : List AV) (M : Mm) : run 108 1 [l0, l1] (aR xg 12 xi :: st) M = run 108 4 [l0, l1] (aR 4 15 0 :: st) M := e_gfr (fun g => (4, 15, 0)) d108_1 rfl rfl rfl
theorem d108_4 : decode (cod 108) 4 = .ok (.iload_n 1, 1) := by decide +kernel
theorem r108_4 (l0 : AV) (x : Int32) (st : List AV) (M : Mm) : run 108 4 [l0, aI x] st M = run 108 5 [l0, aI x] (aI x :: st) M := e_ildn d108_4 rfl
theorem d108_5 : decode (cod 108) 5 = .ok (.iaload, 1) := by decide +kernel
theorem r108_5 (l0 l1 : AV) (i : Int32) (xg xi : Nat) (st : List AV) (M : Mm) : run 108 5 [l0, l1] (aI i :: aR xg 15 xi :: st) M = if vpB i 4 = true then run 108 6 [l0, l1] (aI (M xg 15 xi i.toNatClampNeg) :: st) M else none := e_ial d108_5 rfl rfl
theorem d108_6 : decode (cod 108) 6 = .ok (.iconst 3, 1) := by decide +kernel
theorem r108_6 (l0 l1 : AV) (st : List AV) (M : Mm) : run 108 6 [l0, l1] st M = run 108 7 [l0, l1] (aI 3 :: st) M := e_iconst 3 d108_6 (by decide +kernel)
theorem d108_7 : decode (cod 108) 7 = .ok (.if_icmp .ne 16, 3) := by decide +kernel
theorem r108_7 (l0 l1 : AV) (a b : Int32) (st : List AV) (M : Mm) : run 108 7 [l0, l1] (aI b :: aI a :: st) M = if a = b then run 108 10 [l0, l1] st M else run 108 23 [l0, l1] st M := e_ne2 23 d108_7 (by decide)
theorem d108_10 : decode (cod 108) 10 = .ok (.aload_n 0, 1) := by decide +kernel
theorem r108_10 (l1 : AV) (xg xi : Nat) (st : List AV) (M : Mm) : run 108 10 [aR xg 12 xi, l1] st M = run 108 11 [aR xg 12 xi, l1] (aR xg 12 xi :: st) M := e_aldn d108_10 rfl
theorem d108_11 : decode (cod 108) 11 = .ok (.getfield 140, 3) := by decide +kernel
theorem r108_11 (l0 l1 : AV) (xg xi : Nat) (st : List AV) (M : Mm) : run 108 11 [l0, l1] (aR xg 12 xi :: st) M = run 108 14 [l0, l1] (aI (M xg 12 xi 11) :: st) M := e_gfi d108_11 rfl rfl rfl
theorem d108_14 : decode (cod 108) 14 = .ok (.iconst 5, 1) := by decide +kernel
theorem r108_14 (l0 l1 : AV) (st : List AV) (M : Mm) : run 108 14 [l0, l1] st M = run 108 15 [l0, l1] (aI 5 :: st) M := e_iconst 5 d108_14 (by decide +kernel)
theorem d108_15 : decode (cod 108) 15 = .ok (.irem, 1) := by decide +kernel
theorem r108_15 (l0 l1 : AV) (a b : Int32) (st : List AV) (M : Mm) : run 108 15 [l0, l1] (aI b :: aI a :: st) M = if b = 0 then none else run 108 16 [l0, l1] (aI (a - a / b * b) :: st) M := e_irem d108_15
theorem d108_16 : decode (cod 108) 16 = .ok (.ifCond .ne 7, 3) := by decide +kernel
theorem r108_16 (l0 l1 : AV) (a : Int32) (st : List AV) (M : Mm) : run 108 16 [l0, l1] (aI a :: st) M = if a = 0 then run 108 19 [l0, l1] st M else run 108 23 [l0, l1] st M := e_ne1 23 d108_16 (by decide)
theorem d108_19 : decode (cod 108) 19 = .ok (.iconst 0, 1) := by decide +kernel
theorem r108_19 (l0 l1 : AV) (st : List AV) (M : Mm) : run 108 19 [l0, l1] st M = run 108 20 [l0, l1] (aI 0 :: st) M := e_iconst 0 d108_19 (by decide +kernel)
theorem d108_20 : decode (cod 108) 20 = .ok (.goto 8, 3) := by decide +kernel
theorem r108_20 (l0 l1 : AV) (st : List AV) (M : Mm) : run 108 20 [l0, l1] st M = run 108 28 [l0, l1] st M := e_goto 28 d108_20 (by decide)
theorem d108_23 : decode (cod 108) 23 = .ok (.aload_n 0, 1) := by decide +kernel
theorem r108_23 (l1 : AV) (xg xi : Nat) (st : List AV) (M : Mm) : run 108 23 [aR xg 12 xi, l1] st M = run 108 24 [aR xg 12 xi, l1] (aR xg 12 xi :: st) M := e_aldn d108_23 rfl
theorem d108_24 : decode (cod 108) 24 = .ok (.iload_n 1, 1) := by decide +kernel
theorem r108_24 (l0 : AV) (x : Int32) (st : List AV) (M : Mm) : run 108 24 [l0, aI x] st M = run 108 25 [l0, aI x] (aI x :: st) M := e_ildn d108_24 rfl
theorem d108_25 : decode (cod 108) 25 = .ok (.invokevirtual 177, 3) := by decide +kernel
theorem r108_25 (l0 l1 : AV) (a0g a0i : Nat) (a1 : Int32) (M : Mm) : run 108 25 [l0, l1] [aI a1, aR a0g 12 a0i] M = cbI (call 106 [aR a0g 12 a0i, aI a1] M) (fun v M => run 108 28 [l0, l1] [aI v] M) := call_I (n := 2) rfl false d108_25 rfl rfl rfl rfl rfl rfl rfl
theorem d108_28 : decode (cod 108) 28 = .ok (.ireturn, 1) := by decide +kernel
theorem r108_28 (l0 l1 : AV) (v : Int32) (M : Mm) : run 108 28 [l0, l1] [aI v] M = some (some v, M) := e_iret d108_28 rfl
theorem c109 (x0 : Int32) (x1 : Int32) (M : Mm) : call 109 [aI x0, aI x1] M = run 109 0 [aI x0, aI x1] [] M := call_run 109 _ _
theorem d109_0 : decode (cod 109) 0 = .ok (.iload_n 0, 1) := by decide +kernel
theorem r109_0 (l1 : AV) (x : Int32) (st : List AV) (M : Mm) : run 109 0 [aI x, l1] st M = run 109 1 [aI x, l1] (aI x :: st) M := e_ildn d109_0 rfl
theorem d109_1 : decode (cod 109) 1 = .ok (.iload_n 1, 1) := by decide +kernel
theorem r109_1 (l0 : AV) (x : Int32) (st : List AV) (M : Mm) : run 109 1 [l0, aI x] st M = run 109 2 [l0, aI x] (aI x :: st) M := e_ildn d109_1 rfl
theorem d109_2 : decode (cod 109) 2 = .ok (.if_icmp .ge 7, 3) := by decide +kernel
theorem r109_2 (l0 l1 : AV) (a b : Int32) (st : List AV) (M : Mm) : run 109 2 [l0, l1] (aI b :: aI a :: st) M = if a < b then run 109 5 [l0, l1] st M else run 109 9 [l0, l1] st M := e_ge2 9 d109_2 (by decide)
theorem d109_5 : decode (cod 109) 5 = .ok (.iload_n 0, 1) := by decide +kernel
theorem r109_5 (l1 : AV) (x : Int32) (st : List AV) (M : Mm) : run 109 5 [aI x, l1] st M = run 109 6 [aI x, l1] (aI x :: st) M := e_ildn d109_5 rfl
theorem d109_6 : decode (cod 109) 6 = .ok (.goto 4, 3) := by decide +kernel
theorem r109_6 (l0 l1 : AV) (st : List AV) (M : Mm) : run 109 6 [l0, l1] st M = run 109 10 [l0, l1] st M := e_goto 10 d109_6 (by decide)
theorem d109_9 : decode (cod 109) 9 = .ok (.iload_n 1, 1) := by decide +kernel
theorem r109_9 (l0 : AV) (x : Int32) (st : List AV) (M : Mm) : run 109 9 [l0, aI x] st M = run 109 10 [l0, aI x] (aI x :: st) M := e_ildn d109_9 rfl
theorem d109_10 : decode (cod 109) 10 = .ok (.ireturn, 1) := by decide +kernel
theorem r109_10 (l0 l1 : AV) (v : Int32) (M : Mm) : run 109 10 [l0, l1] [aI v] M = some (some v, M) := e_iret d109_10 rfl
theorem c110 (g0 i0 : Nat) (x1 : Int32) (M : Mm) : call 110 [aR g0 12 i0, aI x1] M = run 110 0 [aR g0 12 i0, aI x1] [] M := call_run 110 _ _
theorem d110_0 : decode (cod 110) 0 = .ok (.aload_n 0, 1) := by decide +kernel
theorem r110_0 (l1 : AV) (xg xi : Nat) (st : List AV) (M : Mm) : run 110 0 [aR xg 12 xi, l1] st M = run 110 1 [aR xg 12 xi, l1] (aR xg 12 xi :: st) M := e_aldn d110_0 rfl
theorem d110_1 : decode (cod 110) 1 = .ok (.iload_n 1, 1) := by decide +kernel
theorem r110_1 (l0 : AV) (x : Int32) (st : List AV) (M : Mm) : run 110 1 [l0, aI x] st M = run 110 2 [l0, aI x] (aI x :: st) M := e_ildn d110_1 rfl
theorem d110_2 : decode (cod 110) 2 = .ok (.invokevirtual 180, 3) := by decide +kernel
theorem r110_2 (l0 l1 : AV) (a0g a0i : Nat) (a1 : Int32) (M : Mm) : run 110 2 [l0, l1] [aI a1, aR a0g 12 a0i] M = cbI (call 108 [aR a0g 12 a0i, aI a1] M) (fun v M => run 110 5 [l0, l1] [aI v] M) := call_I (n := 2) rfl false d110_2 rfl rfl rfl rfl rfl rfl rfl
theorem d110_5 : decode (cod 110) 5 = .ok (.aload_n 0, 1) := by decide +kernel
theorem r110_5 (l1 : AV) (xg xi : Nat) (st : List AV) (M : Mm) : run 110 5 [aR xg 12 xi, l1] st M = run 110 6 [aR xg 12 xi, l1] (aR xg 12 xi :: st) M := e_aldn d110_5 rfl
theorem d110_6 : decode (cod 110) 6 = .ok (.getfield 22, 3) := by decide +kernel
theorem r110_6 (l0 l1 : AV) (xg xi : Nat) (st : List AV) (M : Mm) : run 110 6 [l0, l1] (aR xg 12 xi :: st) M = run 110 9 [l0, l1] (aR 4 17 0 :: st) M := e_gfr (fun g => (4, 17, 0)) d110_6 rfl rfl rfl
theorem d110_9 : decode (cod 110) 9 = .ok (.iload_n 1, 1) := by decide +kernel
theorem r110_9 (l0 : AV) (x : Int32) (st : List AV) (M : Mm) : run 110 9 [l0, aI x] st M = run 110 10 [l0, aI x] (aI x :: st) M := e_ildn d110_9 rfl
theorem d110_10 : decode (cod 110) 10 = .ok (.iaload, 1) := by decide +kernel
theorem r110_10 (l0 l1 : AV) (i : Int32) (xg xi : Nat) (st : List AV) (M : Mm) : run 110 10 [l0, l1] (aI i :: aR xg 17 xi :: st) M = if vpB i 4 = true then run 110 11 [l0, l1] (aI (M xg 17 xi i.toNatClampNeg) :: st) M else none := e_ial d110_10 rfl rfl
theorem d110_11 : decode (cod 110) 11 = .ok (.aload_n 0, 1) := by decide +kernel
theorem r110_11 (l1 : AV) (xg xi : Nat) (st : List AV) (M : Mm) : run 110 11 [aR xg 12 xi, l1] st M = run 110 12 [aR xg 12 xi, l1] (aR xg 12 xi :: st) M := e_aldn d110_11 rfl
theorem d110_12 : decode (cod 110) 12 = .ok (.getfield 16, 3) := by decide +kernel
theorem r110_12 (l0 l1 : AV) (xg xi : Nat) (st : List AV) (M : Mm) : run 110 12 [l0, l1] (aR xg 12 xi :: st) M = run 110 15 [l0, l1] (aR 4 15 0 :: st) M := e_gfr (fun g => (4, 15, 0)) d110_12 rfl rfl rfl
theorem d110_15 : decode (cod 110) 15 = .ok (.iload_n 1, 1) := by decide +kernel
theorem r110_15 (l0 : AV) (x : Int32) (st : List AV) (M : Mm) : run 110 15 [l0, aI x] st M = run 110 16 [l0, aI x] (aI x :: st) M := e_ildn d110_15 rfl
theorem d110_16 : decode (cod 110) 16 = .ok (.iaload, 1) := by decide +kernel
theorem r110_16 (l0 l1 : AV) (i : Int32) (xg xi : Nat) (st : List AV) (M : Mm) : run 110 16 [l0, l1] (aI i :: aR xg 15 xi :: st) M = if vpB i 4 = true then run 110 17 [l0, l1] (aI (M xg 15 xi i.toNatClampNeg) :: st) M else none := e_ial d110_16 rfl rfl
theorem d110_17 : decode (cod 110) 17 = .ok (.invokestatic 183, 3) := by decide +kernel
theorem r110_17 (l0 l1 : AV) (a0 : Int32) (t0 t1 : AV) (M : Mm) : run 110 17 [l0, l1] [aI a0, t0, t1] M = cbI (call 107 [aI a0] M) (fun v M => run 110 20 [l0, l1] [aI v, t0, t1] M) := call_I (n := 1) rfl true d110_17 rfl rfl rfl rfl rfl rfl rfl
theorem d110_20 : decode (cod 110) 20 = .ok (.idiv, 1) := by decide +kernel
theorem r110_20 (l0 l1 : AV) (a b : Int32) (st : List AV) (M : Mm) : run 110 20 [l0, l1] (aI b :: aI a :: st) M = if b = 0 then none else run 110 21 [l0, l1] (aI (a / b) :: st) M := e_idiv d110_20
theorem d110_21 : decode (cod 110) 21 = .ok (.aload_n 0, 1) := by decide +kernel
theorem r110_21 (l1 : AV) (xg xi : Nat) (st : List AV) (M : Mm) : run 110 21 [aR xg 12 xi, l1] st M = run 110 22 [aR xg 12 xi, l1] (aR xg 12 xi :: st) M := e_aldn d110_21 rfl
theorem d110_22 : decode (cod 110) 22 = .ok (.getfield 25, 3) := by decide +kernel
theorem r110_22 (l0 l1 : AV) (xg xi : Nat) (st : List AV) (M : Mm) : run 110 22 [l0, l1] (aR xg 12 xi :: st) M = run 110 25 [l0, l1] (aR 4 18 0 :: st) M := e_gfr (fun g => (4, 18, 0)) d110_22 rfl rfl rfl
theorem d110_25 : decode (cod 110) 25 = .ok (.iload_n 1, 1) := by decide +kernel
theorem r110_25 (l0 : AV) (x : Int32) (st : List AV) (M : Mm) : run 110 25 [l0, aI x] st M = run 110 26 [l0, aI x] (aI x :: st) M := e_ildn d110_25 rfl
theorem d110_26 : decode (cod 110) 26 = .ok (.iaload, 1) := by decide +kernel
theorem r110_26 (l0 l1 : AV) (i : Int32) (xg xi : Nat) (st : List AV) (M : Mm) : run 110 26 [l0, l1] (aI i :: aR xg 18 xi :: st) M = if vpB i 4 = true then run 110 27 [l0, l1] (aI (M xg 18 xi i.toNatClampNeg) :: st) M else none := e_ial d110_26 rfl rfl
theorem d110_27 : decode (cod 110) 27 = .ok (.invokestatic 186, 3) := by decide +kernel
theorem r110_27 (l0 l1 : AV) (a0 : Int32) (a1 : Int32) (t0 : AV) (M : Mm) : run 110 27 [l0, l1] [aI a1, aI a0, t0] M = cbI (call 109 [aI a0, aI a1] M) (fun v M => run 110 30 [l0, l1] [aI v, t0] M) := call_I (n := 2) rfl true d110_27 rfl rfl rfl rfl rfl rfl rfl
theorem d110_30 : decode (cod 110) 30 = .ok (.invokestatic 186, 3) := by decide +kernel
theorem r110_30 (l0 l1 : AV) (a0 : Int32) (a1 : Int32) (M : Mm) : run 110 30 [l0, l1] [aI a1, aI a0] M = cbI (call 109 [aI a0, aI a1] M) (fun v M => run 110 33 [l0, l1] [aI v] M) := call_I (n := 2) rfl true d110_30 rfl rfl rfl rfl rfl rfl rfl
theorem d110_33 : decode (cod 110) 33 = .ok (.ireturn, 1) := by decide +kernel
theorem r110_33 (l0 l1 : AV) (v : Int32) (M : Mm) : run 110 33 [l0, l1] [aI v] M = some (some v, M) := e_iret d110_33 rfl
theorem c111 (g0 i0 : Nat) (x1 : Int32) (M : Mm) : call 111 [aR g0 12 i0, aI x1] M = run 111 0 [aR g0 12 i0, aI x1, none] [] M := call_run 111 _ _
theorem d111_0 : decode (cod 111) 0 = .ok (.aload_n 0, 1) := by decide +kernel
theorem r111_0 (l1 l2 : AV) (xg xi : Nat) (st : List AV) (M : Mm) : run 111 0 [aR xg 12 xi, l1, l2] st M = run 111 1 [aR xg 12 xi, l1, l2] (aR xg 12 xi :: st) M := e_aldn d111_0 rfl
theorem d111_1 : decode (cod 111) 1 = .ok (.getfield 22, 3) := by decide +kernel
theorem r111_1 (l0 l1 l2 : AV) (xg xi : Nat) (st : List AV) (M : Mm) : run 111 1 [l0, l1, l2] (aR xg 12 xi :: st) M = run 111 4 [l0, l1, l2] (aR 4 17 0 :: st) M := e_gfr (fun g => (4, 17, 0)) d111_1 rfl rfl rfl
theorem d111_4 : decode (cod 111) 4 = .ok (.iload_n 1, 1) := by decide +kernel
theorem r111_4 (l0 l2 : AV) (x : Int32) (st : List AV) (M : Mm) : run 111 4 [l0, aI x, l2] st M = run 111 5 [l0, aI x, l2] (aI x :: st) M := e_ildn d111_4 rfl
theorem d111_5 : decode (cod 111) 5 = .ok (.iaload, 1) := by decide +kernel
theorem r111_5 (l0 l1 l2 : AV) (i : Int32) (xg xi : Nat) (st : List AV) (M : Mm) : run 111 5 [l0, l1, l2] (aI i :: aR xg 17 xi :: st) M = if vpB i 4 = true then run 111 6 [l0, l1, l2] (aI (M xg 17 xi i.toNatClampNeg) :: st) M else none := e_ial d111_5 rfl rfl
theorem d111_6 : decode (cod 111) 6 = .ok (.aload_n 0, 1) := by decide +kernel
theorem r111_6 (l1 l2 : AV) (xg xi : Nat) (st : List AV) (M : Mm) : run 111 6 [aR xg 12 xi, l1, l2] st M = run 111 7 [aR xg 12 xi, l1, l2] (aR xg 12 xi :: st) M := e_aldn d111_6 rfl
theorem d111_7 : decode (cod 111) 7 = .ok (.getfield 13, 3) := by decide +kernel
theorem r111_7 (l0 l1 l2 : AV) (xg xi : Nat) (st : List AV) (M : Mm) : run 111 7 [l0, l1, l2] (aR xg 12 xi :: st) M = run 111 10 [l0, l1, l2] (aR 4 14 0 :: st) M := e_gfr (fun g => (4, 14, 0)) d111_7 rfl rfl rfl
theorem d111_10 : decode (cod 111) 10 = .ok (.iconst 1, 1) := by decide +kernel
theorem r111_10 (l0 l1 l2 : AV) (st : List AV) (M : Mm) : run 111 10 [l0, l1, l2] st M = run 111 11 [l0, l1, l2] (aI 1 :: st) M := e_iconst 1 d111_10 (by decide +kernel)
theorem d111_11 : decode (cod 111) 11 = .ok (.iaload, 1) := by decide +kernel
theorem r111_11 (l0 l1 l2 : AV) (i : Int32) (xg xi : Nat) (st : List AV) (M : Mm) : run 111 11 [l0, l1, l2] (aI i :: aR xg 14 xi :: st) M = if vpB i 7 = true then run 111 12 [l0, l1, l2] (aI (M xg 14 xi i.toNatClampNeg) :: st) M else none := e_ial d111_11 rfl rfl
theorem d111_12 : decode (cod 111) 12 = .ok (.if_icmp .lt 20, 3) := by decide +kernel
theorem r111_12 (l0 l1 l2 : AV) (a b : Int32) (st : List AV) (M : Mm) : run 111 12 [l0, l1, l2] (aI b :: aI a :: st) M = if a < b then run 111 32 [l0, l1, l2] st M else run 111 15 [l0, l1, l2] st M := e_lt2 32 d111_12 (by decide)
theorem d111_15 : decode (cod 111) 15 = .ok (.aload_n 0, 1) := by decide +kernel
theorem r111_15 (l1 l2 : AV) (xg xi : Nat) (st : List AV) (M : Mm) : run 111 15 [aR xg 12 xi, l1, l2] st M = run 111 16 [aR xg 12 xi, l1, l2] (aR xg 12 xi :: st) M := e_aldn d111_15 rfl
theorem d111_16 : decode (cod 111) 16 = .ok (.getfield 25, 3) := by decide +kernel
theorem r111_16 (l0 l1 l2 : AV) (xg xi : Nat) (st : List AV) (M : Mm) : run 111 16 [l0, l1, l2] (aR xg 12 xi :: st) M = run 111 19 [l0, l1, l2] (aR 4 18 0 :: st) M := e_gfr (fun g => (4, 18, 0)) d111_16 rfl rfl rfl
theorem d111_19 : decode (cod 111) 19 = .ok (.iload_n 1, 1) := by decide +kernel
theorem r111_19 (l0 l2 : AV) (x : Int32) (st : List AV) (M : Mm) : run 111 19 [l0, aI x, l2] st M = run 111 20 [l0, aI x, l2] (aI x :: st) M := e_ildn d111_19 rfl
theorem d111_20 : decode (cod 111) 20 = .ok (.iaload, 1) := by decide +kernel
theorem r111_20 (l0 l1 l2 : AV) (i : Int32) (xg xi : Nat) (st : List AV) (M : Mm) : run 111 20 [l0, l1, l2] (aI i :: aR xg 18 xi :: st) M = if vpB i 4 = true then run 111 21 [l0, l1, l2] (aI (M xg 18 xi i.toNatClampNeg) :: st) M else none := e_ial d111_20 rfl rfl
theorem d111_21 : decode (cod 111) 21 = .ok (.aload_n 0, 1) := by decide +kernel
theorem r111_21 (l1 l2 : AV) (xg xi : Nat) (st : List AV) (M : Mm) : run 111 21 [aR xg 12 xi, l1, l2] st M = run 111 22 [aR xg 12 xi, l1, l2] (aR xg 12 xi :: st) M := e_aldn d111_21 rfl
theorem d111_22 : decode (cod 111) 22 = .ok (.getfield 13, 3) := by decide +kernel
theorem r111_22 (l0 l1 l2 : AV) (xg xi : Nat) (st : List AV) (M : Mm) : run 111 22 [l0, l1, l2] (aR xg 12 xi :: st) M = run 111 25 [l0, l1, l2] (aR 4 14 0 :: st) M := e_gfr (fun g => (4, 14, 0)) d111_22 rfl rfl rfl
theorem d111_25 : decode (cod 111) 25 = .ok (.iconst 1, 1) := by decide +kernel
theorem r111_25 (l0 l1 l2 : AV) (st : List AV) (M : Mm) : run 111 25 [l0, l1, l2] st M = run 111 26 [l0, l1, l2] (aI 1 :: st) M := e_iconst 1 d111_25 (by decide +kernel)
theorem d111_26 : decode (cod 111) 26 = .ok (.iaload, 1) := by decide +kernel
theorem r111_26 (l0 l1 l2 : AV) (i : Int32) (xg xi : Nat) (st : List AV) (M : Mm) : run 111 26 [l0, l1, l2] (aI i :: aR xg 14 xi :: st) M = if vpB i 7 = true then run 111 27 [l0, l1, l2] (aI (M xg 14 xi i.toNatClampNeg) :: st) M else none := e_ial d111_26 rfl rfl
theorem d111_27 : decode (cod 111) 27 = .ok (.if_icmp .lt 5, 3) := by decide +kernel
theorem r111_27 (l0 l1 l2 : AV) (a b : Int32) (st : List AV) (M : Mm) : run 111 27 [l0, l1, l2] (aI b :: aI a :: st) M = if a < b then run 111 32 [l0, l1, l2] st M else run 111 30 [l0, l1, l2] st M := e_lt2 32 d111_27 (by decide)
theorem d111_30 : decode (cod 111) 30 = .ok (.iconst 0, 1) := by decide +kernel
theorem r111_30 (l0 l1 l2 : AV) (st : List AV) (M : Mm) : run 111 30 [l0, l1, l2] st M = run 111 31 [l0, l1, l2] (aI 0 :: st) M := e_iconst 0 d111_30 (by decide +kernel)
theorem d111_31 : decode (cod 111) 31 = .ok (.ireturn, 1) := by decide +kernel
theorem r111_31 (l0 l1 l2 : AV) (v : Int32) (M : Mm) : run 111 31 [l0, l1, l2] [aI v] M = if v = 0 ∨ v = 1 then some (some v, M) else none := e_zret d111_31 rfl
theorem d111_32 : decode (cod 111) 32 = .ok (.iconst 0, 1) := by decide +kernel
theorem r111_32 (l0 l1 l2 : AV) (st : List AV) (M : Mm) : run 111 32 [l0, l1, l2] st M = run 111 33 [l0, l1, l2] (aI 0 :: st) M := e_iconst 0 d111_32 (by decide +kernel)
theorem d111_33 : decode (cod 111) 33 = .ok (.istore_n 2, 1) := by decide +kernel
theorem r111_33 (l0 l1 l2 : AV) (x : Int32) (st : List AV) (M : Mm) : run 111 33 [l0, l1, l2] (aI x :: st) M = run 111 34 [l0, l1, aI x] st M := e_istn [l0, l1, aI x] d111_33 rfl rfl
theorem d111_34 : decode (cod 111) 34 = .ok (.iload_n 2, 1) := by decide +kernel
theorem r111_34 (l0 l1 : AV) (x : Int32) (st : List AV) (M : Mm) : run 111 34 [l0, l1, aI x] st M = run 111 35 [l0, l1, aI x] (aI x :: st) M := e_ildn d111_34 rfl
theorem d111_35 : decode (cod 111) 35 = .ok (.aload_n 0, 1) := by decide +kernel
theorem r111_35 (l1 l2 : AV) (xg xi : Nat) (st : List AV) (M : Mm) : run 111 35 [aR xg 12 xi, l1, l2] st M = run 111 36 [aR xg 12 xi, l1, l2] (aR xg 12 xi :: st) M := e_aldn d111_35 rfl
theorem d111_36 : decode (cod 111) 36 = .ok (.getfield 13, 3) := by decide +kernel
theorem r111_36 (l0 l1 l2 : AV) (xg xi : Nat) (st : List AV) (M : Mm) : run 111 36 [l0, l1, l2] (aR xg 12 xi :: st) M = run 111 39 [l0, l1, l2] (aR 4 14 0 :: st) M := e_gfr (fun g => (4, 14, 0)) d111_36 rfl rfl rfl
theorem d111_39 : decode (cod 111) 39 = .ok (.iconst 0, 1) := by decide +kernel
theorem r111_39 (l0 l1 l2 : AV) (st : List AV) (M : Mm) : run 111 39 [l0, l1, l2] st M = run 111 40 [l0, l1, l2] (aI 0 :: st) M := e_iconst 0 d111_39 (by decide +kernel)
theorem d111_40 : decode (cod 111) 40 = .ok (.iaload, 1) := by decide +kernel
theorem r111_40 (l0 l1 l2 : AV) (i : Int32) (xg xi : Nat) (st : List AV) (M : Mm) : run 111 40 [l0, l1, l2] (aI i :: aR xg 14 xi :: st) M = if vpB i 7 = true then run 111 41 [l0, l1, l2] (aI (M xg 14 xi i.toNatClampNeg) :: st) M else none := e_ial d111_40 rfl rfl
theorem d111_41 : decode (cod 111) 41 = .ok (.if_icmp .ge 31, 3) := by decide +kernel
theorem r111_41 (l0 l1 l2 : AV) (a b : Int32) (st : List AV) (M : Mm) : run 111 41 [l0, l1, l2] (aI b :: aI a :: st) M = if a < b then run 111 44 [l0, l1, l2] st M else run 111 72 [l0, l1, l2] st M := e_ge2 72 d111_41 (by decide)
theorem d111_44 : decode (cod 111) 44 = .ok (.aload_n 0, 1) := by decide +kernel
theorem r111_44 (l1 l2 : AV) (xg xi : Nat) (st : List AV) (M : Mm) : run 111 44 [aR xg 12 xi, l1, l2] st M = run 111 45 [aR xg 12 xi, l1, l2] (aR xg 12 xi :: st) M := e_aldn d111_44 rfl
theorem d111_45 : decode (cod 111) 45 = .ok (.getfield 28, 3) := by decide +kernel
theorem r111_45 (l0 l1 l2 : AV) (xg xi : Nat) (st : List AV) (M : Mm) : run 111 45 [l0, l1, l2] (aR xg 12 xi :: st) M = run 111 48 [l0, l1, l2] (aR 4 19 0 :: st) M := e_gfr (fun g => (4, 19, 0)) d111_45 rfl rfl rfl
theorem d111_48 : decode (cod 111) 48 = .ok (.iload_n 2, 1) := by decide +kernel
theorem r111_48 (l0 l1 : AV) (x : Int32) (st : List AV) (M : Mm) : run 111 48 [l0, l1, aI x] st M = run 111 49 [l0, l1, aI x] (aI x :: st) M := e_ildn d111_48 rfl
theorem d111_49 : decode (cod 111) 49 = .ok (.iaload, 1) := by decide +kernel
theorem r111_49 (l0 l1 l2 : AV) (i : Int32) (xg xi : Nat) (st : List AV) (M : Mm) : run 111 49 [l0, l1, l2] (aI i :: aR xg 19 xi :: st) M = if vpB i 3 = true then run 111 50 [l0, l1, l2] (aI (M xg 19 xi i.toNatClampNeg) :: st) M else none := e_ial d111_49 rfl rfl
theorem d111_50 : decode (cod 111) 50 = .ok (.iconst 2, 1) := by decide +kernel
theorem r111_50 (l0 l1 l2 : AV) (st : List AV) (M : Mm) : run 111 50 [l0, l1, l2] st M = run 111 51 [l0, l1, l2] (aI 2 :: st) M := e_iconst 2 d111_50 (by decide +kernel)
theorem d111_51 : decode (cod 111) 51 = .ok (.if_icmp .ne 15, 3) := by decide +kernel
theorem r111_51 (l0 l1 l2 : AV) (a b : Int32) (st : List AV) (M : Mm) : run 111 51 [l0, l1, l2] (aI b :: aI a :: st) M = if a = b then run 111 54 [l0, l1, l2] st M else run 111 66 [l0, l1, l2] st M := e_ne2 66 d111_51 (by decide)
theorem d111_54 : decode (cod 111) 54 = .ok (.aload_n 0, 1) := by decide +kernel
theorem r111_54 (l1 l2 : AV) (xg xi : Nat) (st : List AV) (M : Mm) : run 111 54 [aR xg 12 xi, l1, l2] st M = run 111 55 [aR xg 12 xi, l1, l2] (aR xg 12 xi :: st) M := e_aldn d111_54 rfl
theorem d111_55 : decode (cod 111) 55 = .ok (.getfield 34, 3) := by decide +kernel
theorem r111_55 (l0 l1 l2 : AV) (xg xi : Nat) (st : List AV) (M : Mm) : run 111 55 [l0, l1, l2] (aR xg 12 xi :: st) M = run 111 58 [l0, l1, l2] (aR 4 21 0 :: st) M := e_gfr (fun g => (4, 21, 0)) d111_55 rfl rfl rfl
theorem d111_58 : decode (cod 111) 58 = .ok (.iload_n 2, 1) := by decide +kernel
theorem r111_58 (l0 l1 : AV) (x : Int32) (st : List AV) (M : Mm) : run 111 58 [l0, l1, aI x] st M = run 111 59 [l0, l1, aI x] (aI x :: st) M := e_ildn d111_58 rfl
theorem d111_59 : decode (cod 111) 59 = .ok (.iaload, 1) := by decide +kernel
theorem r111_59 (l0 l1 l2 : AV) (i : Int32) (xg xi : Nat) (st : List AV) (M : Mm) : run 111 59 [l0, l1, l2] (aI i :: aR xg 21 xi :: st) M = if vpB i 3 = true then run 111 60 [l0, l1, l2] (aI (M xg 21 xi i.toNatClampNeg) :: st) M else none := e_ial d111_59 rfl rfl
theorem d111_60 : decode (cod 111) 60 = .ok (.iload_n 1, 1) := by decide +kernel
theorem r111_60 (l0 l2 : AV) (x : Int32) (st : List AV) (M : Mm) : run 111 60 [l0, aI x, l2] st M = run 111 61 [l0, aI x, l2] (aI x :: st) M := e_ildn d111_60 rfl
theorem d111_61 : decode (cod 111) 61 = .ok (.if_icmp .ne 5, 3) := by decide +kernel
theorem r111_61 (l0 l1 l2 : AV) (a b : Int32) (st : List AV) (M : Mm) : run 111 61 [l0, l1, l2] (aI b :: aI a :: st) M = if a = b then run 111 64 [l0, l1, l2] st M else run 111 66 [l0, l1, l2] st M := e_ne2 66 d111_61 (by decide)
theorem d111_64 : decode (cod 111) 64 = .ok (.iconst 0, 1) := by decide +kernel
theorem r111_64 (l0 l1 l2 : AV) (st : List AV) (M : Mm) : run 111 64 [l0, l1, l2] st M = run 111 65 [l0, l1, l2] (aI 0 :: st) M := e_iconst 0 d111_64 (by decide +kernel)
theorem d111_65 : decode (cod 111) 65 = .ok (.ireturn, 1) := by decide +kernel
theorem r111_65 (l0 l1 l2 : AV) (v : Int32) (M : Mm) : run 111 65 [l0, l1, l2] [aI v] M = if v = 0 ∨ v = 1 then some (some v, M) else none := e_zret d111_65 rfl
theorem d111_66 : decode (cod 111) 66 = .ok (.iinc 2 1, 3) := by decide +kernel
theorem r111_66 (l0 l1 : AV) (x : Int32) (st : List AV) (M : Mm) : run 111 66 [l0, l1, aI x] st M = run 111 69 [l0, l1, aI (x + 1)] st M := e_iinc 1 [l0, l1, aI (x + 1)] d111_66 (by decide +kernel) rfl rfl
theorem d111_69 : decode (cod 111) 69 = .ok (.goto (-35), 3) := by decide +kernel
theorem r111_69 (l0 l1 l2 : AV) (st : List AV) (M : Mm) : run 111 69 [l0, l1, l2] st M = run 111 34 [l0, l1, l2] st M := e_goto 34 d111_69 (by decide)
theorem d111_72 : decode (cod 111) 72 = .ok (.iconst 1, 1) := by decide +kernel
theorem r111_72 (l0 l1 l2 : AV) (st : List AV) (M : Mm) : run 111 72 [l0, l1, l2] st M = run 111 73 [l0, l1, l2] (aI 1 :: st) M := e_iconst 1 d111_72 (by decide +kernel)
theorem d111_73 : decode (cod 111) 73 = .ok (.ireturn, 1) := by decide +kernel
theorem r111_73 (l0 l1 l2 : AV) (v : Int32) (M : Mm) : run 111 73 [l0, l1, l2] [aI v] M = if v = 0 ∨ v = 1 then some (some v, M) else none := e_zret d111_73 rfl
theorem c112 (g0 i0 : Nat) (x1 : Int32) (M : Mm) : call 112 [aR g0 12 i0, aI x1] M = run 112 0 [aR g0 12 i0, aI x1] [] M := call_run 112 _ _
theorem d112_0 : decode (cod 112) 0 = .ok (.aload_n 0, 1) := by decide +kernel
theorem r112_0 (l1 : AV) (xg xi : Nat) (st : List AV) (M : Mm) : run 112 0 [aR xg 12 xi, l1] st M = run 112 1 [aR xg 12 xi, l1] (aR xg 12 xi :: st) M := e_aldn d112_0 rfl
theorem d112_1 : decode (cod 112) 1 = .ok (.getfield 22, 3) := by decide +kernel
theorem r112_1 (l0 l1 : AV) (xg xi : Nat) (st : List AV) (M : Mm) : run 112 1 [l0, l1] (aR xg 12 xi :: st) M = run 112 4 [l0, l1] (aR 4 17 0 :: st) M := e_gfr (fun g => (4, 17, 0)) d112_1 rfl rfl rfl
theorem d112_4 : decode (cod 112) 4 = .ok (.iload_n 1, 1) := by decide +kernel
theorem r112_4 (l0 : AV) (x : Int32) (st : List AV) (M : Mm) : run 112 4 [l0, aI x] st M = run 112 5 [l0, aI x] (aI x :: st) M := e_ildn d112_4 rfl
theorem d112_5 : decode (cod 112) 5 = .ok (.iaload, 1) := by decide +kernel
theorem r112_5 (l0 l1 : AV) (i : Int32) (xg xi : Nat) (st : List AV) (M : Mm) : run 112 5 [l0, l1] (aI i :: aR xg 17 xi :: st) M = if vpB i 4 = true then run 112 6 [l0, l1] (aI (M xg 17 xi i.toNatClampNeg) :: st) M else none := e_ial d112_5 rfl rfl
theorem d112_6 : decode (cod 112) 6 = .ok (.aload_n 0, 1) := by decide +kernel
theorem r112_6 (l1 : AV) (xg xi : Nat) (st : List AV) (M : Mm) : run 112 6 [aR xg 12 xi, l1] st M = run 112 7 [aR xg 12 xi, l1] (aR xg 12 xi :: st) M := e_aldn d112_6 rfl
theorem d112_7 : decode (cod 112) 7 = .ok (.getfield 25, 3) := by decide +kernel
theorem r112_7 (l0 l1 : AV) (xg xi : Nat) (st : List AV) (M : Mm) : run 112 7 [l0, l1] (aR xg 12 xi :: st) M = run 112 10 [l0, l1] (aR 4 18 0 :: st) M := e_gfr (fun g => (4, 18, 0)) d112_7 rfl rfl rfl
theorem d112_10 : decode (cod 112) 10 = .ok (.iload_n 1, 1) := by decide +kernel
theorem r112_10 (l0 : AV) (x : Int32) (st : List AV) (M : Mm) : run 112 10 [l0, aI x] st M = run 112 11 [l0, aI x] (aI x :: st) M := e_ildn d112_10 rfl
theorem d112_11 : decode (cod 112) 11 = .ok (.iaload, 1) := by decide +kernel
theorem r112_11 (l0 l1 : AV) (i : Int32) (xg xi : Nat) (st : List AV) (M : Mm) : run 112 11 [l0, l1] (aI i :: aR xg 18 xi :: st) M = if vpB i 4 = true then run 112 12 [l0, l1] (aI (M xg 18 xi i.toNatClampNeg) :: st) M else none := e_ial d112_11 rfl rfl
theorem d112_12 : decode (cod 112) 12 = .ok (.invokestatic 186, 3) := by decide +kernel
theorem r112_12 (l0 l1 : AV) (a0 : Int32) (a1 : Int32) (M : Mm) : run 112 12 [l0, l1] [aI a1, aI a0] M = cbI (call 109 [aI a0, aI a1] M) (fun v M => run 112 15 [l0, l1] [aI v] M) := call_I (n := 2) rfl true d112_12 rfl rfl rfl rfl rfl rfl rfl
theorem d112_15 : decode (cod 112) 15 = .ok (.ireturn, 1) := by decide +kernel
theorem r112_15 (l0 l1 : AV) (v : Int32) (M : Mm) : run 112 15 [l0, l1] [aI v] M = some (some v, M) := e_iret d112_15 rfl
theorem c113 (g0 i0 : Nat) (x1 : Int32) (M : Mm) : call 113 [aR g0 12 i0, aI x1] M = run 113 0 [aR g0 12 i0, aI x1] [] M := call_run 113 _ _
theorem d113_0 : decode (cod 113) 0 = .ok (.aload_n 0, 1) := by decide +kernel
theorem r113_0 (l1 : AV) (xg xi : Nat) (st : List AV) (M : Mm) : run 113 0 [aR xg 12 xi, l1] st M = run 113 1 [aR xg 12 xi, l1] (aR xg 12 xi :: st) M := e_aldn d113_0 rfl
theorem d113_1 : decode (cod 113) 1 = .ok (.getfield 22, 3) := by decide +kernel
theorem r113_1 (l0 l1 : AV) (xg xi : Nat) (st : List AV) (M : Mm) : run 113 1 [l0, l1] (aR xg 12 xi :: st) M = run 113 4 [l0, l1] (aR 4 17 0 :: st) M := e_gfr (fun g => (4, 17, 0)) d113_1 rfl rfl rfl
theorem d113_4 : decode (cod 113) 4 = .ok (.iload_n 1, 1) := by decide +kernel
theorem r113_4 (l0 : AV) (x : Int32) (st : List AV) (M : Mm) : run 113 4 [l0, aI x] st M = run 113 5 [l0, aI x] (aI x :: st) M := e_ildn d113_4 rfl
theorem d113_5 : decode (cod 113) 5 = .ok (.iaload, 1) := by decide +kernel
theorem r113_5 (l0 l1 : AV) (i : Int32) (xg xi : Nat) (st : List AV) (M : Mm) : run 113 5 [l0, l1] (aI i :: aR xg 17 xi :: st) M = if vpB i 4 = true then run 113 6 [l0, l1] (aI (M xg 17 xi i.toNatClampNeg) :: st) M else none := e_ial d113_5 rfl rfl
theorem d113_6 : decode (cod 113) 6 = .ok (.aload_n 0, 1) := by decide +kernel
theorem r113_6 (l1 : AV) (xg xi : Nat) (st : List AV) (M : Mm) : run 113 6 [aR xg 12 xi, l1] st M = run 113 7 [aR xg 12 xi, l1] (aR xg 12 xi :: st) M := e_aldn d113_6 rfl
theorem d113_7 : decode (cod 113) 7 = .ok (.iload_n 1, 1) := by decide +kernel
theorem r113_7 (l0 : AV) (x : Int32) (st : List AV) (M : Mm) : run 113 7 [l0, aI x] st M = run 113 8 [l0, aI x] (aI x :: st) M := e_ildn d113_7 rfl
theorem d113_8 : decode (cod 113) 8 = .ok (.invokevirtual 177, 3) := by decide +kernel
theorem r113_8 (l0 l1 : AV) (a0g a0i : Nat) (a1 : Int32) (t0 : AV) (M : Mm) : run 113 8 [l0, l1] [aI a1, aR a0g 12 a0i, t0] M = cbI (call 106 [aR a0g 12 a0i, aI a1] M) (fun v M => run 113 11 [l0, l1] [aI v, t0] M) := call_I (n := 2) rfl false d113_8 rfl rfl rfl rfl rfl rfl rfl
theorem d113_11 : decode (cod 113) 11 = .ok (.aload_n 0, 1) := by decide +kernel
theorem r113_11 (l1 : AV) (xg xi : Nat) (st : List AV) (M : Mm) : run 113 11 [aR xg 12 xi, l1] st M = run 113 12 [aR xg 12 xi, l1] (aR xg 12 xi :: st) M := e_aldn d113_11 rfl
theorem d113_12 : decode (cod 113) 12 = .ok (.getfield 16, 3) := by decide +kernel
theorem r113_12 (l0 l1 : AV) (xg xi : Nat) (st : List AV) (M : Mm) : run 113 12 [l0, l1] (aR xg 12 xi :: st) M = run 113 15 [l0, l1] (aR 4 15 0 :: st) M := e_gfr (fun g => (4, 15, 0)) d113_12 rfl rfl rfl
theorem d113_15 : decode (cod 113) 15 = .ok (.iload_n 1, 1) := by decide +kernel
theorem r113_15 (l0 : AV) (x : Int32) (st : List AV) (M : Mm) : run 113 15 [l0, aI x] st M = run 113 16 [l0, aI x] (aI x :: st) M := e_ildn d113_15 rfl
theorem d113_16 : decode (cod 113) 16 = .ok (.iaload, 1) := by decide +kernel
theorem r113_16 (l0 l1 : AV) (i : Int32) (xg xi : Nat) (st : List AV) (M : Mm) : run 113 16 [l0, l1] (aI i :: aR xg 15 xi :: st) M = if vpB i 4 = true then run 113 17 [l0, l1] (aI (M xg 15 xi i.toNatClampNeg) :: st) M else none := e_ial d113_16 rfl rfl
theorem d113_17 : decode (cod 113) 17 = .ok (.invokestatic 183, 3) := by decide +kernel
theorem r113_17 (l0 l1 : AV) (a0 : Int32) (t0 t1 : AV) (M : Mm) : run 113 17 [l0, l1] [aI a0, t0, t1] M = cbI (call 107 [aI a0] M) (fun v M => run 113 20 [l0, l1] [aI v, t0, t1] M) := call_I (n := 1) rfl true d113_17 rfl rfl rfl rfl rfl rfl rfl
theorem d113_20 : decode (cod 113) 20 = .ok (.imul, 1) := by decide +kernel
theorem r113_20 (l0 l1 : AV) (a b : Int32) (st : List AV) (M : Mm) : run 113 20 [l0, l1] (aI b :: aI a :: st) M = run 113 21 [l0, l1] (aI (a * b) :: st) M := e_imul d113_20
theorem d113_21 : decode (cod 113) 21 = .ok (.idiv, 1) := by decide +kernel
theorem r113_21 (l0 l1 : AV) (a b : Int32) (st : List AV) (M : Mm) : run 113 21 [l0, l1] (aI b :: aI a :: st) M = if b = 0 then none else run 113 22 [l0, l1] (aI (a / b) :: st) M := e_idiv d113_21
theorem d113_22 : decode (cod 113) 22 = .ok (.aload_n 0, 1) := by decide +kernel
theorem r113_22 (l1 : AV) (xg xi : Nat) (st : List AV) (M : Mm) : run 113 22 [aR xg 12 xi, l1] st M = run 113 23 [aR xg 12 xi, l1] (aR xg 12 xi :: st) M := e_aldn d113_22 rfl
theorem d113_23 : decode (cod 113) 23 = .ok (.getfield 25, 3) := by decide +kernel
theorem r113_23 (l0 l1 : AV) (xg xi : Nat) (st : List AV) (M : Mm) : run 113 23 [l0, l1] (aR xg 12 xi :: st) M = run 113 26 [l0, l1] (aR 4 18 0 :: st) M := e_gfr (fun g => (4, 18, 0)) d113_23 rfl rfl rfl
theorem d113_26 : decode (cod 113) 26 = .ok (.iload_n 1, 1) := by decide +kernel
theorem r113_26 (l0 : AV) (x : Int32) (st : List AV) (M : Mm) : run 113 26 [l0, aI x] st M = run 113 27 [l0, aI x] (aI x :: st) M := e_ildn d113_26 rfl
theorem d113_27 : decode (cod 113) 27 = .ok (.iaload, 1) := by decide +kernel
theorem r113_27 (l0 l1 : AV) (i : Int32) (xg xi : Nat) (st : List AV) (M : Mm) : run 113 27 [l0, l1] (aI i :: aR xg 18 xi :: st) M = if vpB i 4 = true then run 113 28 [l0, l1] (aI (M xg 18 xi i.toNatClampNeg) :: st) M else none := e_ial d113_27 rfl rfl
theorem d113_28 : decode (cod 113) 28 = .ok (.aload_n 0, 1) := by decide +kernel
theorem r113_28 (l1 : AV) (xg xi : Nat) (st : List AV) (M : Mm) : run 113 28 [aR xg 12 xi, l1] st M = run 113 29 [aR xg 12 xi, l1] (aR xg 12 xi :: st) M := e_aldn d113_28 rfl
theorem d113_29 : decode (cod 113) 29 = .ok (.iload_n 1, 1) := by decide +kernel
theorem r113_29 (l0 : AV) (x : Int32) (st : List AV) (M : Mm) : run 113 29 [l0, aI x] st M = run 113 30 [l0, aI x] (aI x :: st) M := e_ildn d113_29 rfl
theorem d113_30 : decode (cod 113) 30 = .ok (.invokevirtual 177, 3) := by decide +kernel
theorem r113_30 (l0 l1 : AV) (a0g a0i : Nat) (a1 : Int32) (t0 t1 : AV) (M : Mm) : run 113 30 [l0, l1] [aI a1, aR a0g 12 a0i, t0, t1] M = cbI (call 106 [aR a0g 12 a0i, aI a1] M) (fun v M => run 113 33 [l0, l1] [aI v, t0, t1] M) := call_I (n := 2) rfl false d113_30 rfl rfl rfl rfl rfl rfl rfl
theorem d113_33 : decode (cod 113) 33 = .ok (.idiv, 1) := by decide +kernel
theorem r113_33 (l0 l1 : AV) (a b : Int32) (st : List AV) (M : Mm) : run 113 33 [l0, l1] (aI b :: aI a :: st) M = if b = 0 then none else run 113 34 [l0, l1] (aI (a / b) :: st) M := e_idiv d113_33
theorem d113_34 : decode (cod 113) 34 = .ok (.invokestatic 186, 3) := by decide +kernel
theorem r113_34 (l0 l1 : AV) (a0 : Int32) (a1 : Int32) (M : Mm) : run 113 34 [l0, l1] [aI a1, aI a0] M = cbI (call 109 [aI a0, aI a1] M) (fun v M => run 113 37 [l0, l1] [aI v] M) := call_I (n := 2) rfl true d113_34 rfl rfl rfl rfl rfl rfl rfl
theorem d113_37 : decode (cod 113) 37 = .ok (.ireturn, 1) := by decide +kernel
theorem r113_37 (l0 l1 : AV) (v : Int32) (M : Mm) : run 113 37 [l0, l1] [aI v] M = some (some v, M) := e_iret d113_37 rfl
theorem c114 (g0 i0 : Nat) (x1 : Int32) (M : Mm) : call 114 [aR g0 12 i0, aI x1] M = run 114 0 [aR g0 12 i0, aI x1] [] M := call_run 114 _ _
theorem d114_0 : decode (cod 114) 0 = .ok (.aload_n 0, 1) := by decide +kernel
theorem r114_0 (l1 : AV) (xg xi : Nat) (st : List AV) (M : Mm) : run 114 0 [aR xg 12 xi, l1] st M = run 114 1 [aR xg 12 xi, l1] (aR xg 12 xi :: st) M := e_aldn d114_0 rfl
theorem d114_1 : decode (cod 114) 1 = .ok (.getfield 13, 3) := by decide +kernel
theorem r114_1 (l0 l1 : AV) (xg xi : Nat) (st : List AV) (M : Mm) : run 114 1 [l0, l1] (aR xg 12 xi :: st) M = run 114 4 [l0, l1] (aR 4 14 0 :: st) M := e_gfr (fun g => (4, 14, 0)) d114_1 rfl rfl rfl
theorem d114_4 : decode (cod 114) 4 = .ok (.bipush 6, 2) := by decide +kernel
theorem r114_4 (l0 l1 : AV) (st : List AV) (M : Mm) : run 114 4 [l0, l1] st M = run 114 6 [l0, l1] (aI 6 :: st) M := e_bipush 6 d114_4 (by decide +kernel)
theorem d114_6 : decode (cod 114) 6 = .ok (.iaload, 1) := by decide +kernel
theorem r114_6 (l0 l1 : AV) (i : Int32) (xg xi : Nat) (st : List AV) (M : Mm) : run 114 6 [l0, l1] (aI i :: aR xg 14 xi :: st) M = if vpB i 7 = true then run 114 7 [l0, l1] (aI (M xg 14 xi i.toNatClampNeg) :: st) M else none := e_ial d114_6 rfl rfl
theorem d114_7 : decode (cod 114) 7 = .ok (.tableswitch 77 1 5 #[33, 39, 60, 68, 74], 33) := by decide +kernel
theorem r114_7 (l0 l1 : AV) (x : Int32) (st : List AV) (M : Mm) : run 114 7 [l0, l1] (aI x :: st) M = if x = 1 then run 114 40 [l0, l1] st M else if x = 2 then run 114 46 [l0, l1] st M else if x = 3 then run 114 67 [l0, l1] st M else if x = 4 then run 114 75 [l0, l1] st M else if x = 5 then run 114 81 [l0, l1] st M else run 114 84 [l0, l1] st M := by
  rw [run_step d114_7 rfl]
  simp only [stpI, tsw]
  by_cases c0 : x = 1
  · subst c0
    rw [if_pos rfl]
    rfl
  rw [if_neg c0]
  by_cases c1 : x = 2
  · subst c1
    rw [if_pos rfl]
    rfl
  rw [if_neg c1]
  by_cases c2 : x = 3
  · subst c2
    rw [if_pos rfl]
    rfl
  rw [if_neg c2]
  by_cases c3 : x = 4
  · subst c3
    rw [if_pos rfl]
    rfl
  rw [if_neg c3]
  by_cases c4 : x = 5
  · subst c4
    rw [if_pos rfl]
    rfl
  rw [if_neg c4]
  have hx : x.toInt < 1 ∨ 5 < x.toInt := by
    have h : ∀ k : Int, ¬ x = Int32.ofInt k → -2147483648 ≤ k → k < 2147483648 → ¬ x.toInt = k := fun k hk hl hh e => hk (Int32.toInt_inj.mp (by rw [e, Int32.toInt_ofInt_of_le hl hh]))
    have fc0 := h 1 c0 (by decide) (by decide)
    have fc1 := h 2 c1 (by decide) (by decide)
    have fc2 := h 3 c2 (by decide) (by decide)
    have fc3 := h 4 c3 (by decide) (by decide)
    have fc4 := h 5 c4 (by decide) (by decide)
    omega
  rw [if_pos hx, jmp_run 84 (by decide)]
  rfl
theorem d114_40 : decode (cod 114) 40 = .ok (.aload_n 0, 1) := by decide +kernel
theorem r114_40 (l1 : AV) (xg xi : Nat) (st : List AV) (M : Mm) : run 114 40 [aR xg 12 xi, l1] st M = run 114 41 [aR xg 12 xi, l1] (aR xg 12 xi :: st) M := e_aldn d114_40 rfl
theorem d114_41 : decode (cod 114) 41 = .ok (.iload_n 1, 1) := by decide +kernel
theorem r114_41 (l0 : AV) (x : Int32) (st : List AV) (M : Mm) : run 114 41 [l0, aI x] st M = run 114 42 [l0, aI x] (aI x :: st) M := e_ildn d114_41 rfl
theorem d114_42 : decode (cod 114) 42 = .ok (.invokevirtual 190, 3) := by decide +kernel
theorem r114_42 (l0 l1 : AV) (a0g a0i : Nat) (a1 : Int32) (M : Mm) : run 114 42 [l0, l1] [aI a1, aR a0g 12 a0i] M = cbI (call 112 [aR a0g 12 a0i, aI a1] M) (fun v M => run 114 45 [l0, l1] [aI v] M) := call_I (n := 2) rfl false d114_42 rfl rfl rfl rfl rfl rfl rfl
theorem d114_45 : decode (cod 114) 45 = .ok (.ireturn, 1) := by decide +kernel
theorem r114_45 (l0 l1 : AV) (v : Int32) (M : Mm) : run 114 45 [l0, l1] [aI v] M = some (some v, M) := e_iret d114_45 rfl
theorem d114_46 : decode (cod 114) 46 = .ok (.iload_n 1, 1) := by decide +kernel
theorem r114_46 (l0 : AV) (x : Int32) (st : List AV) (M : Mm) : run 114 46 [l0, aI x] st M = run 114 47 [l0, aI x] (aI x :: st) M := e_ildn d114_46 rfl
theorem d114_47 : decode (cod 114) 47 = .ok (.aload_n 0, 1) := by decide +kernel
theorem r114_47 (l1 : AV) (xg xi : Nat) (st : List AV) (M : Mm) : run 114 47 [aR xg 12 xi, l1] st M = run 114 48 [aR xg 12 xi, l1] (aR xg 12 xi :: st) M := e_aldn d114_47 rfl
theorem d114_48 : decode (cod 114) 48 = .ok (.getfield 70, 3) := by decide +kernel
theorem r114_48 (l0 l1 : AV) (xg xi : Nat) (st : List AV) (M : Mm) : run 114 48 [l0, l1] (aR xg 12 xi :: st) M = run 114 51 [l0, l1] (aI (M xg 12 xi 12) :: st) M := e_gfi d114_48 rfl rfl rfl
theorem d114_51 : decode (cod 114) 51 = .ok (.isub, 1) := by decide +kernel
theorem r114_51 (l0 l1 : AV) (a b : Int32) (st : List AV) (M : Mm) : run 114 51 [l0, l1] (aI b :: aI a :: st) M = run 114 52 [l0, l1] (aI (a - b) :: st) M := e_isub d114_51
theorem d114_52 : decode (cod 114) 52 = .ok (.iconst 1, 1) := by decide +kernel
theorem r114_52 (l0 l1 : AV) (st : List AV) (M : Mm) : run 114 52 [l0, l1] st M = run 114 53 [l0, l1] (aI 1 :: st) M := e_iconst 1 d114_52 (by decide +kernel)
theorem d114_53 : decode (cod 114) 53 = .ok (.isub, 1) := by decide +kernel
theorem r114_53 (l0 l1 : AV) (a b : Int32) (st : List AV) (M : Mm) : run 114 53 [l0, l1] (aI b :: aI a :: st) M = run 114 54 [l0, l1] (aI (a - b) :: st) M := e_isub d114_53
theorem d114_54 : decode (cod 114) 54 = .ok (.iconst 2, 1) := by decide +kernel
theorem r114_54 (l0 l1 : AV) (st : List AV) (M : Mm) : run 114 54 [l0, l1] st M = run 114 55 [l0, l1] (aI 2 :: st) M := e_iconst 2 d114_54 (by decide +kernel)
theorem d114_55 : decode (cod 114) 55 = .ok (.aload_n 0, 1) := by decide +kernel
theorem r114_55 (l1 : AV) (xg xi : Nat) (st : List AV) (M : Mm) : run 114 55 [aR xg 12 xi, l1] st M = run 114 56 [aR xg 12 xi, l1] (aR xg 12 xi :: st) M := e_aldn d114_55 rfl
theorem d114_56 : decode (cod 114) 56 = .ok (.getfield 79, 3) := by decide +kernel
theorem r114_56 (l0 l1 : AV) (xg xi : Nat) (st : List AV) (M : Mm) : run 114 56 [l0, l1] (aR xg 12 xi :: st) M = run 114 59 [l0, l1] (aI (M xg 12 xi 10) :: st) M := e_gfi d114_56 rfl rfl rfl
theorem d114_59 : decode (cod 114) 59 = .ok (.imul, 1) := by decide +kernel
theorem r114_59 (l0 l1 : AV) (a b : Int32) (st : List AV) (M : Mm) : run 114 59 [l0, l1] (aI b :: aI a :: st) M = run 114 60 [l0, l1] (aI (a * b) :: st) M := e_imul d114_59
theorem d114_60 : decode (cod 114) 60 = .ok (.iadd, 1) := by decide +kernel
theorem r114_60 (l0 l1 : AV) (a b : Int32) (st : List AV) (M : Mm) : run 114 60 [l0, l1] (aI b :: aI a :: st) M = run 114 61 [l0, l1] (aI (a + b) :: st) M := e_iadd d114_60
theorem d114_61 : decode (cod 114) 61 = .ok (.aload_n 0, 1) := by decide +kernel
theorem r114_61 (l1 : AV) (xg xi : Nat) (st : List AV) (M : Mm) : run 114 61 [aR xg 12 xi, l1] st M = run 114 62 [aR xg 12 xi, l1] (aR xg 12 xi :: st) M := e_aldn d114_61 rfl
theorem d114_62 : decode (cod 114) 62 = .ok (.getfield 79, 3) := by decide +kernel
theorem r114_62 (l0 l1 : AV) (xg xi : Nat) (st : List AV) (M : Mm) : run 114 62 [l0, l1] (aR xg 12 xi :: st) M = run 114 65 [l0, l1] (aI (M xg 12 xi 10) :: st) M := e_gfi d114_62 rfl rfl rfl
theorem d114_65 : decode (cod 114) 65 = .ok (.irem, 1) := by decide +kernel
theorem r114_65 (l0 l1 : AV) (a b : Int32) (st : List AV) (M : Mm) : run 114 65 [l0, l1] (aI b :: aI a :: st) M = if b = 0 then none else run 114 66 [l0, l1] (aI (a - a / b * b) :: st) M := e_irem d114_65
theorem d114_66 : decode (cod 114) 66 = .ok (.ireturn, 1) := by decide +kernel
theorem r114_66 (l0 l1 : AV) (v : Int32) (M : Mm) : run 114 66 [l0, l1] [aI v] M = some (some v, M) := e_iret d114_66 rfl
theorem d114_67 : decode (cod 114) 67 = .ok (.aload_n 0, 1) := by decide +kernel
theorem r114_67 (l1 : AV) (xg xi : Nat) (st : List AV) (M : Mm) : run 114 67 [aR xg 12 xi, l1] st M = run 114 68 [aR xg 12 xi, l1] (aR xg 12 xi :: st) M := e_aldn d114_67 rfl
theorem d114_68 : decode (cod 114) 68 = .ok (.getfield 19, 3) := by decide +kernel
theorem r114_68 (l0 l1 : AV) (xg xi : Nat) (st : List AV) (M : Mm) : run 114 68 [l0, l1] (aR xg 12 xi :: st) M = run 114 71 [l0, l1] (aR 4 16 0 :: st) M := e_gfr (fun g => (4, 16, 0)) d114_68 rfl rfl rfl
theorem d114_71 : decode (cod 114) 71 = .ok (.iload_n 1, 1) := by decide +kernel
theorem r114_71 (l0 : AV) (x : Int32) (st : List AV) (M : Mm) : run 114 71 [l0, aI x] st M = run 114 72 [l0, aI x] (aI x :: st) M := e_ildn d114_71 rfl
theorem d114_72 : decode (cod 114) 72 = .ok (.iaload, 1) := by decide +kernel
theorem r114_72 (l0 l1 : AV) (i : Int32) (xg xi : Nat) (st : List AV) (M : Mm) : run 114 72 [l0, l1] (aI i :: aR xg 16 xi :: st) M = if vpB i 4 = true then run 114 73 [l0, l1] (aI (M xg 16 xi i.toNatClampNeg) :: st) M else none := e_ial d114_72 rfl rfl
theorem d114_73 : decode (cod 114) 73 = .ok (.ineg, 1) := by decide +kernel
theorem r114_73 (l0 l1 : AV) (a : Int32) (st : List AV) (M : Mm) : run 114 73 [l0, l1] (aI a :: st) M = run 114 74 [l0, l1] (aI (-a) :: st) M := e_ineg d114_73
theorem d114_74 : decode (cod 114) 74 = .ok (.ireturn, 1) := by decide +kernel
theorem r114_74 (l0 l1 : AV) (v : Int32) (M : Mm) : run 114 74 [l0, l1] [aI v] M = some (some v, M) := e_iret d114_74 rfl
theorem d114_75 : decode (cod 114) 75 = .ok (.aload_n 0, 1) := by decide +kernel
theorem r114_75 (l1 : AV) (xg xi : Nat) (st : List AV) (M : Mm) : run 114 75 [aR xg 12 xi, l1] st M = run 114 76 [aR xg 12 xi, l1] (aR xg 12 xi :: st) M := e_aldn d114_75 rfl
theorem d114_76 : decode (cod 114) 76 = .ok (.iload_n 1, 1) := by decide +kernel
theorem r114_76 (l0 : AV) (x : Int32) (st : List AV) (M : Mm) : run 114 76 [l0, aI x] st M = run 114 77 [l0, aI x] (aI x :: st) M := e_ildn d114_76 rfl
theorem d114_77 : decode (cod 114) 77 = .ok (.invokevirtual 193, 3) := by decide +kernel
theorem r114_77 (l0 l1 : AV) (a0g a0i : Nat) (a1 : Int32) (M : Mm) : run 114 77 [l0, l1] [aI a1, aR a0g 12 a0i] M = cbI (call 113 [aR a0g 12 a0i, aI a1] M) (fun v M => run 114 80 [l0, l1] [aI v] M) := call_I (n := 2) rfl false d114_77 rfl rfl rfl rfl rfl rfl rfl
theorem d114_80 : decode (cod 114) 80 = .ok (.ireturn, 1) := by decide +kernel
theorem r114_80 (l0 l1 : AV) (v : Int32) (M : Mm) : run 114 80 [l0, l1] [aI v] M = some (some v, M) := e_iret d114_80 rfl
theorem d114_81 : decode (cod 114) 81 = .ok (.iload_n 1, 1) := by decide +kernel
theorem r114_81 (l0 : AV) (x : Int32) (st : List AV) (M : Mm) : run 114 81 [l0, aI x] st M = run 114 82 [l0, aI x] (aI x :: st) M := e_ildn d114_81 rfl
theorem d114_82 : decode (cod 114) 82 = .ok (.ineg, 1) := by decide +kernel
theorem r114_82 (l0 l1 : AV) (a : Int32) (st : List AV) (M : Mm) : run 114 82 [l0, l1] (aI a :: st) M = run 114 83 [l0, l1] (aI (-a) :: st) M := e_ineg d114_82
theorem d114_83 : decode (cod 114) 83 = .ok (.ireturn, 1) := by decide +kernel
theorem r114_83 (l0 l1 : AV) (v : Int32) (M : Mm) : run 114 83 [l0, l1] [aI v] M = some (some v, M) := e_iret d114_83 rfl
theorem d114_84 : decode (cod 114) 84 = .ok (.iload_n 1, 1) := by decide +kernel
theorem r114_84 (l0 : AV) (x : Int32) (st : List AV) (M : Mm) : run 114 84 [l0, aI x] st M = run 114 85 [l0, aI x] (aI x :: st) M := e_ildn d114_84 rfl
theorem d114_85 : decode (cod 114) 85 = .ok (.ireturn, 1) := by decide +kernel
theorem r114_85 (l0 l1 : AV) (v : Int32) (M : Mm) : run 114 85 [l0, l1] [aI v] M = some (some v, M) := e_iret d114_85 rfl
theorem c115 (g0 i0 : Nat) (M : Mm) : call 115 [aR g0 12 i0] M = run 115 0 [aR g0 12 i0, none, none] [] M := call_run 115 _ _
theorem d115_0 : decode (cod 115) 0 = .ok (.bipush (-9), 2) := by decide +kernel
theorem r115_0 (l0 l1 l2 : AV) (st : List AV) (M : Mm) : run 115 0 [l0, l1, l2] st M = run 115 2 [l0, l1, l2] (aI (-9) :: st) M := e_bipush (-9) d115_0 (by decide +kernel)
theorem d115_2 : decode (cod 115) 2 = .ok (.istore_n 1, 1) := by decide +kernel
theorem r115_2 (l0 l1 l2 : AV) (x : Int32) (st : List AV) (M : Mm) : run 115 2 [l0, l1, l2] (aI x :: st) M = run 115 3 [l0, aI x, l2] st M := e_istn [l0, aI x, l2] d115_2 rfl rfl
theorem d115_3 : decode (cod 115) 3 = .ok (.iconst 0, 1) := by decide +kernel
theorem r115_3 (l0 l1 l2 : AV) (st : List AV) (M : Mm) : run 115 3 [l0, l1, l2] st M = run 115 4 [l0, l1, l2] (aI 0 :: st) M := e_iconst 0 d115_3 (by decide +kernel)
theorem d115_4 : decode (cod 115) 4 = .ok (.istore_n 2, 1) := by decide +kernel
theorem r115_4 (l0 l1 l2 : AV) (x : Int32) (st : List AV) (M : Mm) : run 115 4 [l0, l1, l2] (aI x :: st) M = run 115 5 [l0, l1, aI x] st M := e_istn [l0, l1, aI x] d115_4 rfl rfl
theorem d115_5 : decode (cod 115) 5 = .ok (.iload_n 2, 1) := by decide +kernel
theorem r115_5 (l0 l1 : AV) (x : Int32) (st : List AV) (M : Mm) : run 115 5 [l0, l1, aI x] st M = run 115 6 [l0, l1, aI x] (aI x :: st) M := e_ildn d115_5 rfl
theorem d115_6 : decode (cod 115) 6 = .ok (.aload_n 0, 1) := by decide +kernel
theorem r115_6 (l1 l2 : AV) (xg xi : Nat) (st : List AV) (M : Mm) : run 115 6 [aR xg 12 xi, l1, l2] st M = run 115 7 [aR xg 12 xi, l1, l2] (aR xg 12 xi :: st) M := e_aldn d115_6 rfl
theorem d115_7 : decode (cod 115) 7 = .ok (.getfield 79, 3) := by decide +kernel
theorem r115_7 (l0 l1 l2 : AV) (xg xi : Nat) (st : List AV) (M : Mm) : run 115 7 [l0, l1, l2] (aR xg 12 xi :: st) M = run 115 10 [l0, l1, l2] (aI (M xg 12 xi 10) :: st) M := e_gfi d115_7 rfl rfl rfl
theorem d115_10 : decode (cod 115) 10 = .ok (.if_icmp .ge 36, 3) := by decide +kernel
theorem r115_10 (l0 l1 l2 : AV) (a b : Int32) (st : List AV) (M : Mm) : run 115 10 [l0, l1, l2] (aI b :: aI a :: st) M = if a < b then run 115 13 [l0, l1, l2] st M else run 115 46 [l0, l1, l2] st M := e_ge2 46 d115_10 (by decide)
theorem d115_13 : decode (cod 115) 13 = .ok (.aload_n 0, 1) := by decide +kernel
theorem r115_13 (l1 l2 : AV) (xg xi : Nat) (st : List AV) (M : Mm) : run 115 13 [aR xg 12 xi, l1, l2] st M = run 115 14 [aR xg 12 xi, l1, l2] (aR xg 12 xi :: st) M := e_aldn d115_13 rfl
theorem d115_14 : decode (cod 115) 14 = .ok (.iload_n 2, 1) := by decide +kernel
theorem r115_14 (l0 l1 : AV) (x : Int32) (st : List AV) (M : Mm) : run 115 14 [l0, l1, aI x] st M = run 115 15 [l0, l1, aI x] (aI x :: st) M := e_ildn d115_14 rfl
theorem d115_15 : decode (cod 115) 15 = .ok (.invokevirtual 196, 3) := by decide +kernel
theorem r115_15 (l0 l1 l2 : AV) (a0g a0i : Nat) (a1 : Int32) (M : Mm) : run 115 15 [l0, l1, l2] [aI a1, aR a0g 12 a0i] M = cbI (call 111 [aR a0g 12 a0i, aI a1] M) (fun v M => run 115 18 [l0, l1, l2] [aI v] M) := call_I (n := 2) rfl false d115_15 rfl rfl rfl rfl rfl rfl rfl
theorem d115_18 : decode (cod 115) 18 = .ok (.ifCond .eq 22, 3) := by decide +kernel
theorem r115_18 (l0 l1 l2 : AV) (a : Int32) (st : List AV) (M : Mm) : run 115 18 [l0, l1, l2] (aI a :: st) M = if a = 0 then run 115 40 [l0, l1, l2] st M else run 115 21 [l0, l1, l2] st M := e_eq1 40 d115_18 (by decide)
theorem d115_21 : decode (cod 115) 21 = .ok (.iload_n 1, 1) := by decide +kernel
theorem r115_21 (l0 l2 : AV) (x : Int32) (st : List AV) (M : Mm) : run 115 21 [l0, aI x, l2] st M = run 115 22 [l0, aI x, l2] (aI x :: st) M := e_ildn d115_21 rfl
theorem d115_22 : decode (cod 115) 22 = .ok (.ifCond .lt 16, 3) := by decide +kernel
theorem r115_22 (l0 l1 l2 : AV) (a : Int32) (st : List AV) (M : Mm) : run 115 22 [l0, l1, l2] (aI a :: st) M = if a < 0 then run 115 38 [l0, l1, l2] st M else run 115 25 [l0, l1, l2] st M := e_lt1 38 d115_22 (by decide)
theorem d115_25 : decode (cod 115) 25 = .ok (.aload_n 0, 1) := by decide +kernel
theorem r115_25 (l1 l2 : AV) (xg xi : Nat) (st : List AV) (M : Mm) : run 115 25 [aR xg 12 xi, l1, l2] st M = run 115 26 [aR xg 12 xi, l1, l2] (aR xg 12 xi :: st) M := e_aldn d115_25 rfl
theorem d115_26 : decode (cod 115) 26 = .ok (.iload_n 2, 1) := by decide +kernel
theorem r115_26 (l0 l1 : AV) (x : Int32) (st : List AV) (M : Mm) : run 115 26 [l0, l1, aI x] st M = run 115 27 [l0, l1, aI x] (aI x :: st) M := e_ildn d115_26 rfl
theorem d115_27 : decode (cod 115) 27 = .ok (.invokevirtual 199, 3) := by decide +kernel
theorem r115_27 (l0 l1 l2 : AV) (a0g a0i : Nat) (a1 : Int32) (M : Mm) : run 115 27 [l0, l1, l2] [aI a1, aR a0g 12 a0i] M = cbI (call 116 [aR a0g 12 a0i, aI a1] M) (fun v M => run 115 30 [l0, l1, l2] [aI v] M) := call_I (n := 2) rfl false d115_27 rfl rfl rfl rfl rfl rfl rfl
theorem d115_30 : decode (cod 115) 30 = .ok (.aload_n 0, 1) := by decide +kernel
theorem r115_30 (l1 l2 : AV) (xg xi : Nat) (st : List AV) (M : Mm) : run 115 30 [aR xg 12 xi, l1, l2] st M = run 115 31 [aR xg 12 xi, l1, l2] (aR xg 12 xi :: st) M := e_aldn d115_30 rfl
theorem d115_31 : decode (cod 115) 31 = .ok (.iload_n 1, 1) := by decide +kernel
theorem r115_31 (l0 l2 : AV) (x : Int32) (st : List AV) (M : Mm) : run 115 31 [l0, aI x, l2] st M = run 115 32 [l0, aI x, l2] (aI x :: st) M := e_ildn d115_31 rfl
theorem d115_32 : decode (cod 115) 32 = .ok (.invokevirtual 199, 3) := by decide +kernel
theorem r115_32 (l0 l1 l2 : AV) (a0g a0i : Nat) (a1 : Int32) (t0 : AV) (M : Mm) : run 115 32 [l0, l1, l2] [aI a1, aR a0g 12 a0i, t0] M = cbI (call 116 [aR a0g 12 a0i, aI a1] M) (fun v M => run 115 35 [l0, l1, l2] [aI v, t0] M) := call_I (n := 2) rfl false d115_32 rfl rfl rfl rfl rfl rfl rfl
theorem d115_35 : decode (cod 115) 35 = .ok (.if_icmp .ge 5, 3) := by decide +kernel
theorem r115_35 (l0 l1 l2 : AV) (a b : Int32) (st : List AV) (M : Mm) : run 115 35 [l0, l1, l2] (aI b :: aI a :: st) M = if a < b then run 115 38 [l0, l1, l2] st M else run 115 40 [l0, l1, l2] st M := e_ge2 40 d115_35 (by decide)
theorem d115_38 : decode (cod 115) 38 = .ok (.iload_n 2, 1) := by decide +kernel
theorem r115_38 (l0 l1 : AV) (x : Int32) (st : List AV) (M : Mm) : run 115 38 [l0, l1, aI x] st M = run 115 39 [l0, l1, aI x] (aI x :: st) M := e_ildn d115_38 rfl
theorem d115_39 : decode (cod 115) 39 = .ok (.istore_n 1, 1) := by decide +kernel
theorem r115_39 (l0 l1 l2 : AV) (x : Int32) (st : List AV) (M : Mm) : run 115 39 [l0, l1, l2] (aI x :: st) M = run 115 40 [l0, aI x, l2] st M := e_istn [l0, aI x, l2] d115_39 rfl rfl
theorem d115_40 : decode (cod 115) 40 = .ok (.iinc 2 1, 3) := by decide +kernel
theorem r115_40 (l0 l1 : AV) (x : Int32) (st : List AV) (M : Mm) : run 115 40 [l0, l1, aI x] st M = run 115 43 [l0, l1, aI (x + 1)] st M := e_iinc 1 [l0, l1, aI (x + 1)] d115_40 (by decide +kernel) rfl rfl
theorem d115_43 : decode (cod 115) 43 = .ok (.goto (-38), 3) := by decide +kernel
theorem r115_43 (l0 l1 l2 : AV) (st : List AV) (M : Mm) : run 115 43 [l0, l1, l2] st M = run 115 5 [l0, l1, l2] st M := e_goto 5 d115_43 (by decide)
theorem d115_46 : decode (cod 115) 46 = .ok (.iload_n 1, 1) := by decide +kernel
theorem r115_46 (l0 l2 : AV) (x : Int32) (st : List AV) (M : Mm) : run 115 46 [l0, aI x, l2] st M = run 115 47 [l0, aI x, l2] (aI x :: st) M := e_ildn d115_46 rfl
theorem d115_47 : decode (cod 115) 47 = .ok (.ireturn, 1) := by decide +kernel
theorem r115_47 (l0 l1 l2 : AV) (v : Int32) (M : Mm) : run 115 47 [l0, l1, l2] [aI v] M = some (some v, M) := e_iret d115_47 rfl
theorem c116 (g0 i0 : Nat) (x1 : Int32) (M : Mm) : call 116 [aR g0 12 i0, aI x1] M = run 116 0 [aR g0 12 i0, aI x1] [] M := call_run 116 _ _
theorem d116_0 : decode (cod 116) 0 = .ok (.aload_n 0, 1) := by decide +kernel
theorem r116_0 (l1 : AV) (xg xi : Nat) (st : List AV) (M : Mm) : run 116 0 [aR xg 12 xi, l1] st M = run 116 1 [aR xg 12 xi, l1] (aR xg 12 xi :: st) M := e_aldn d116_0 rfl
theorem d116_1 : decode (cod 116) 1 = .ok (.getfield 13, 3) := by decide +kernel
theorem r116_1 (l0 l1 : AV) (xg xi : Nat) (st : List AV) (M : Mm) : run 116 1 [l0, l1] (aR xg 12 xi :: st) M = run 116 4 [l0, l1] (aR 4 14 0 :: st) M := e_gfr (fun g => (4, 14, 0)) d116_1 rfl rfl rfl
theorem d116_4 : decode (cod 116) 4 = .ok (.bipush 6, 2) := by decide +kernel
theorem r116_4 (l0 l1 : AV) (st : List AV) (M : Mm) : run 116 4 [l0, l1] st M = run 116 6 [l0, l1] (aI 6 :: st) M := e_bipush 6 d116_4 (by decide +kernel)
theorem d116_6 : decode (cod 116) 6 = .ok (.iaload, 1) := by decide +kernel
theorem r116_6 (l0 l1 : AV) (i : Int32) (xg xi : Nat) (st : List AV) (M : Mm) : run 116 6 [l0, l1] (aI i :: aR xg 14 xi :: st) M = if vpB i 7 = true then run 116 7 [l0, l1] (aI (M xg 14 xi i.toNatClampNeg) :: st) M else none := e_ial d116_6 rfl rfl
theorem d116_7 : decode (cod 116) 7 = .ok (.iconst 2, 1) := by decide +kernel
theorem r116_7 (l0 l1 : AV) (st : List AV) (M : Mm) : run 116 7 [l0, l1] st M = run 116 8 [l0, l1] (aI 2 :: st) M := e_iconst 2 d116_7 (by decide +kernel)
theorem d116_8 : decode (cod 116) 8 = .ok (.if_icmp .ne 14, 3) := by decide +kernel
theorem r116_8 (l0 l1 : AV) (a b : Int32) (st : List AV) (M : Mm) : run 116 8 [l0, l1] (aI b :: aI a :: st) M = if a = b then run 116 11 [l0, l1] st M else run 116 22 [l0, l1] st M := e_ne2 22 d116_8 (by decide)
theorem d116_11 : decode (cod 116) 11 = .ok (.aload_n 0, 1) := by decide +kernel
theorem r116_11 (l1 : AV) (xg xi : Nat) (st : List AV) (M : Mm) : run 116 11 [aR xg 12 xi, l1] st M = run 116 12 [aR xg 12 xi, l1] (aR xg 12 xi :: st) M := e_aldn d116_11 rfl
theorem d116_12 : decode (cod 116) 12 = .ok (.getfield 70, 3) := by decide +kernel
theorem r116_12 (l0 l1 : AV) (xg xi : Nat) (st : List AV) (M : Mm) : run 116 12 [l0, l1] (aR xg 12 xi :: st) M = run 116 15 [l0, l1] (aI (M xg 12 xi 12) :: st) M := e_gfi d116_12 rfl rfl rfl
theorem d116_15 : decode (cod 116) 15 = .ok (.ifCond .ge 7, 3) := by decide +kernel
theorem r116_15 (l0 l1 : AV) (a : Int32) (st : List AV) (M : Mm) : run 116 15 [l0, l1] (aI a :: st) M = if a < 0 then run 116 18 [l0, l1] st M else run 116 22 [l0, l1] st M := e_ge1 22 d116_15 (by decide)
theorem d116_18 : decode (cod 116) 18 = .ok (.iload_n 1, 1) := by decide +kernel
theorem r116_18 (l0 : AV) (x : Int32) (st : List AV) (M : Mm) : run 116 18 [l0, aI x] st M = run 116 19 [l0, aI x] (aI x :: st) M := e_ildn d116_18 rfl
theorem d116_19 : decode (cod 116) 19 = .ok (.goto 8, 3) := by decide +kernel
theorem r116_19 (l0 l1 : AV) (st : List AV) (M : Mm) : run 116 19 [l0, l1] st M = run 116 27 [l0, l1] st M := e_goto 27 d116_19 (by decide)
theorem d116_22 : decode (cod 116) 22 = .ok (.aload_n 0, 1) := by decide +kernel
theorem r116_22 (l1 : AV) (xg xi : Nat) (st : List AV) (M : Mm) : run 116 22 [aR xg 12 xi, l1] st M = run 116 23 [aR xg 12 xi, l1] (aR xg 12 xi :: st) M := e_aldn d116_22 rfl
theorem d116_23 : decode (cod 116) 23 = .ok (.iload_n 1, 1) := by decide +kernel
theorem r116_23 (l0 : AV) (x : Int32) (st : List AV) (M : Mm) : run 116 23 [l0, aI x] st M = run 116 24 [l0, aI x] (aI x :: st) M := e_ildn d116_23 rfl
theorem d116_24 : decode (cod 116) 24 = .ok (.invokevirtual 202, 3) := by decide +kernel
theorem r116_24 (l0 l1 : AV) (a0g a0i : Nat) (a1 : Int32) (M : Mm) : run 116 24 [l0, l1] [aI a1, aR a0g 12 a0i] M = cbI (call 114 [aR a0g 12 a0i, aI a1] M) (fun v M => run 116 27 [l0, l1] [aI v] M) := call_I (n := 2) rfl false d116_24 rfl rfl rfl rfl rfl rfl rfl
theorem d116_27 : decode (cod 116) 27 = .ok (.ireturn, 1) := by decide +kernel
theorem r116_27 (l0 l1 : AV) (v : Int32) (M : Mm) : run 116 27 [l0, l1] [aI v] M = some (some v, M) := e_iret d116_27 rfl
theorem c117 (g0 i0 : Nat) (x1 : Int32) (x2 : Int32) (x3 : Int32) (M : Mm) : call 117 [aR g0 12 i0, aI x1, aI x2, aI x3] M = run 117 0 [aR g0 12 i0, aI x1, aI x2, aI x3] [] M := call_run 117 _ _
theorem d117_0 : decode (cod 117) 0 = .ok (.aload_n 0, 1) := by decide +kernel
theorem r117_0 (l1 l2 l3 : AV) (xg xi : Nat) (st : List AV) (M : Mm) : run 117 0 [aR xg 12 xi, l1, l2, l3] st M = run 117 1 [aR xg 12 xi, l1, l2, l3] (aR xg 12 xi :: st) M := e_aldn d117_0 rfl
theorem d117_1 : decode (cod 117) 1 = .ok (.getfield 28, 3) := by decide +kernel
theorem r117_1 (l0 l1 l2 l3 : AV) (xg xi : Nat) (st : List AV) (M : Mm) : run 117 1 [l0, l1, l2, l3] (aR xg 12 xi :: st) M = run 117 4 [l0, l1, l2, l3] (aR 4 19 0 :: st) M := e_gfr (fun g => (4, 19, 0)) d117_1 rfl rfl rfl
theorem d117_4 : decode (cod 117) 4 = .ok (.iload_n 1, 1) := by decide +kernel
theorem r117_4 (l0 l2 l3 : AV) (x : Int32) (st : List AV) (M : Mm) : run 117 4 [l0, aI x, l2, l3] st M = run 117 5 [l0, aI x, l2, l3] (aI x :: st) M := e_ildn d117_4 rfl
theorem d117_5 : decode (cod 117) 5 = .ok (.iload_n 2, 1) := by decide +kernel
theorem r117_5 (l0 l1 l3 : AV) (x : Int32) (st : List AV) (M : Mm) : run 117 5 [l0, l1, aI x, l3] st M = run 117 6 [l0, l1, aI x, l3] (aI x :: st) M := e_ildn d117_5 rfl
theorem d117_6 : decode (cod 117) 6 = .ok (.iastore, 1) := by decide +kernel
theorem r117_6 (l0 l1 l2 l3 : AV) (v i : Int32) (xg xi : Nat) (st : List AV) (M : Mm) : run 117 6 [l0, l1, l2, l3] (aI v :: aI i :: aR xg 19 xi :: st) M = if vpB i 3 = true then run 117 7 [l0, l1, l2, l3] st (wr M xg 19 xi i.toNatClampNeg v) else none := e_ias d117_6 rfl rfl
theorem d117_7 : decode (cod 117) 7 = .ok (.aload_n 0, 1) := by decide +kernel
theorem r117_7 (l1 l2 l3 : AV) (xg xi : Nat) (st : List AV) (M : Mm) : run 117 7 [aR xg 12 xi, l1, l2, l3] st M = run 117 8 [aR xg 12 xi, l1, l2, l3] (aR xg 12 xi :: st) M := e_aldn d117_7 rfl
theorem d117_8 : decode (cod 117) 8 = .ok (.getfield 31, 3) := by decide +kernel
theorem r117_8 (l0 l1 l2 l3 : AV) (xg xi : Nat) (st : List AV) (M : Mm) : run 117 8 [l0, l1, l2, l3] (aR xg 12 xi :: st) M = run 117 11 [l0, l1, l2, l3] (aR 4 20 0 :: st) M := e_gfr (fun g => (4, 20, 0)) d117_8 rfl rfl rfl
theorem d117_11 : decode (cod 117) 11 = .ok (.iload_n 1, 1) := by decide +kernel
theorem r117_11 (l0 l2 l3 : AV) (x : Int32) (st : List AV) (M : Mm) : run 117 11 [l0, aI x, l2, l3] st M = run 117 12 [l0, aI x, l2, l3] (aI x :: st) M := e_ildn d117_11 rfl
theorem d117_12 : decode (cod 117) 12 = .ok (.iload_n 3, 1) := by decide +kernel
theorem r117_12 (l0 l1 l2 : AV) (x : Int32) (st : List AV) (M : Mm) : run 117 12 [l0, l1, l2, aI x] st M = run 117 13 [l0, l1, l2, aI x] (aI x :: st) M := e_ildn d117_12 rfl
theorem d117_13 : decode (cod 117) 13 = .ok (.iastore, 1) := by decide +kernel
theorem r117_13 (l0 l1 l2 l3 : AV) (v i : Int32) (xg xi : Nat) (st : List AV) (M : Mm) : run 117 13 [l0, l1, l2, l3] (aI v :: aI i :: aR xg 20 xi :: st) M = if vpB i 3 = true then run 117 14 [l0, l1, l2, l3] st (wr M xg 20 xi i.toNatClampNeg v) else none := e_ias d117_13 rfl rfl
theorem d117_14 : decode (cod 117) 14 = .ok (.return_, 1) := by decide +kernel
theorem r117_14 (l0 l1 l2 l3 : AV) (M : Mm) : run 117 14 [l0, l1, l2, l3] [] M = some (none, M) := e_vret d117_14 rfl
theorem c118 (g0 i0 : Nat) (x1 : Int32) (M : Mm) : call 118 [aR g0 12 i0, aI x1] M = run 118 0 [aR g0 12 i0, aI x1] [] M := call_run 118 _ _
theorem d118_0 : decode (cod 118) 0 = .ok (.aload_n 0, 1) := by decide +kernel
theorem r118_0 (l1 : AV) (xg xi : Nat) (st : List AV) (M : Mm) : run 118 0 [aR xg 12 xi, l1] st M = run 118 1 [aR xg 12 xi, l1] (aR xg 12 xi :: st) M := e_aldn d118_0 rfl
theorem d118_1 : decode (cod 118) 1 = .ok (.getfield 205, 3) := by decide +kernel
theorem r118_1 (l0 l1 : AV) (xg xi : Nat) (st : List AV) (M : Mm) : run 118 1 [l0, l1] (aR xg 12 xi :: st) M = run 118 4 [l0, l1] (aI (M xg 12 xi 33) :: st) M := e_gfi d118_1 rfl rfl rfl
theorem d118_4 : decode (cod 118) 4 = .ok (.aload_n 0, 1) := by decide +kernel
theorem r118_4 (l1 : AV) (xg xi : Nat) (st : List AV) (M : Mm) : run 118 4 [aR xg 12 xi, l1] st M = run 118 5 [aR xg 12 xi, l1] (aR xg 12 xi :: st) M := e_aldn d118_4 rfl
theorem d118_5 : decode (cod 118) 5 = .ok (.getfield 64, 3) := by decide +kernel
theorem r118_5 (l0 l1 : AV) (xg xi : Nat) (st : List AV) (M : Mm) : run 118 5 [l0, l1] (aR xg 12 xi :: st) M = run 118 8 [l0, l1] (aR 4 31 0 :: st) M := e_gfr (fun g => (4, 31, 0)) d118_5 rfl rfl rfl
theorem d118_8 : decode (cod 118) 8 = .ok (.arraylength, 1) := by decide +kernel
theorem r118_8 (l0 l1 : AV) (xg xi : Nat) (st : List AV) (M : Mm) : run 118 8 [l0, l1] (aR xg 31 xi :: st) M = run 118 9 [l0, l1] (aI 800 :: st) M := e_aln d118_8 rfl rfl
theorem d118_9 : decode (cod 118) 9 = .ok (.if_icmp .ge 13, 3) := by decide +kernel
theorem r118_9 (l0 l1 : AV) (a b : Int32) (st : List AV) (M : Mm) : run 118 9 [l0, l1] (aI b :: aI a :: st) M = if a < b then run 118 12 [l0, l1] st M else run 118 22 [l0, l1] st M := e_ge2 22 d118_9 (by decide)
theorem d118_12 : decode (cod 118) 12 = .ok (.aload_n 0, 1) := by decide +kernel
theorem r118_12 (l1 : AV) (xg xi : Nat) (st : List AV) (M : Mm) : run 118 12 [aR xg 12 xi, l1] st M = run 118 13 [aR xg 12 xi, l1] (aR xg 12 xi :: st) M := e_aldn d118_12 rfl
theorem d118_13 : decode (cod 118) 13 = .ok (.getfield 64, 3) := by decide +kernel
theorem r118_13 (l0 l1 : AV) (xg xi : Nat) (st : List AV) (M : Mm) : run 118 13 [l0, l1] (aR xg 12 xi :: st) M = run 118 16 [l0, l1] (aR 4 31 0 :: st) M := e_gfr (fun g => (4, 31, 0)) d118_13 rfl rfl rfl
theorem d118_16 : decode (cod 118) 16 = .ok (.aload_n 0, 1) := by decide +kernel
theorem r118_16 (l1 : AV) (xg xi : Nat) (st : List AV) (M : Mm) : run 118 16 [aR xg 12 xi, l1] st M = run 118 17 [aR xg 12 xi, l1] (aR xg 12 xi :: st) M := e_aldn d118_16 rfl
theorem d118_17 : decode (cod 118) 17 = .ok (.getfield 205, 3) := by decide +kernel
theorem r118_17 (l0 l1 : AV) (xg xi : Nat) (st : List AV) (M : Mm) : run 118 17 [l0, l1] (aR xg 12 xi :: st) M = run 118 20 [l0, l1] (aI (M xg 12 xi 33) :: st) M := e_gfi d118_17 rfl rfl rfl
theorem d118_20 : decode (cod 118) 20 = .ok (.iload_n 1, 1) := by decide +kernel
theorem r118_20 (l0 : AV) (x : Int32) (st : List AV) (M : Mm) : run 118 20 [l0, aI x] st M = run 118 21 [l0, aI x] (aI x :: st) M := e_ildn d118_20 rfl
theorem d118_21 : decode (cod 118) 21 = .ok (.iastore, 1) := by decide +kernel
theorem r118_21 (l0 l1 : AV) (v i : Int32) (xg xi : Nat) (st : List AV) (M : Mm) : run 118 21 [l0, l1] (aI v :: aI i :: aR xg 31 xi :: st) M = if vpB i 800 = true then run 118 22 [l0, l1] st (wr M xg 31 xi i.toNatClampNeg v) else none := e_ias d118_21 rfl rfl
theorem d118_22 : decode (cod 118) 22 = .ok (.aload_n 0, 1) := by decide +kernel
theorem r118_22 (l1 : AV) (xg xi : Nat) (st : List AV) (M : Mm) : run 118 22 [aR xg 12 xi, l1] st M = run 118 23 [aR xg 12 xi, l1] (aR xg 12 xi :: st) M := e_aldn d118_22 rfl
theorem d118_23 : decode (cod 118) 23 = .ok (.dup, 1) := by decide +kernel
theorem r118_23 (l0 l1 : AV) (xg xi : Nat) (st : List AV) (M : Mm) : run 118 23 [l0, l1] (aR xg 12 xi :: st) M = run 118 24 [l0, l1] (aR xg 12 xi :: aR xg 12 xi :: st) M := e_dup d118_23
theorem d118_24 : decode (cod 118) 24 = .ok (.getfield 205, 3) := by decide +kernel
theorem r118_24 (l0 l1 : AV) (xg xi : Nat) (st : List AV) (M : Mm) : run 118 24 [l0, l1] (aR xg 12 xi :: st) M = run 118 27 [l0, l1] (aI (M xg 12 xi 33) :: st) M := e_gfi d118_24 rfl rfl rfl
theorem d118_27 : decode (cod 118) 27 = .ok (.iconst 1, 1) := by decide +kernel
theorem r118_27 (l0 l1 : AV) (st : List AV) (M : Mm) : run 118 27 [l0, l1] st M = run 118 28 [l0, l1] (aI 1 :: st) M := e_iconst 1 d118_27 (by decide +kernel)
theorem d118_28 : decode (cod 118) 28 = .ok (.iadd, 1) := by decide +kernel
theorem r118_28 (l0 l1 : AV) (a b : Int32) (st : List AV) (M : Mm) : run 118 28 [l0, l1] (aI b :: aI a :: st) M = run 118 29 [l0, l1] (aI (a + b) :: st) M := e_iadd d118_28
theorem d118_29 : decode (cod 118) 29 = .ok (.putfield 205, 3) := by decide +kernel
theorem r118_29 (l0 l1 : AV) (v : Int32) (xg xi : Nat) (st : List AV) (M : Mm) : run 118 29 [l0, l1] (aI v :: aR xg 12 xi :: st) M = run 118 32 [l0, l1] st (wr M xg 12 xi 33 v) := e_pfi d118_29 rfl rfl rfl rfl
theorem d118_32 : decode (cod 118) 32 = .ok (.return_, 1) := by decide +kernel
theorem r118_32 (l0 l1 : AV) (M : Mm) : run 118 32 [l0, l1] [] M = some (none, M) := e_vret d118_32 rfl
theorem c119 (g0 i0 : Nat) (x1 : Int32) (M : Mm) : call 119 [aR g0 12 i0, aI x1] M = run 119 0 [aR g0 12 i0, aI x1, none, none] [] M := call_run 119 _ _
theorem d119_0 : decode (cod 119) 0 = .ok (.aload_n 0, 1) := by decide +kernel
theorem r119_0 (l1 l2 l3 : AV) (xg xi : Nat) (st : List AV) (M : Mm) : run 119 0 [aR xg 12 xi, l1, l2, l3] st M = run 119 1 [aR xg 12 xi, l1, l2, l3] (aR xg 12 xi :: st) M := e_aldn d119_0 rfl
theorem d119_1 : decode (cod 119) 1 = .ok (.invokevirtual 208, 3) := by decide +kernel
theorem r119_1 (l0 l1 l2 l3 : AV) (a0g a0i : Nat) (M : Mm) : run 119 1 [l0, l1, l2, l3] [aR a0g 12 a0i] M = cbI (call 115 [aR a0g 12 a0i] M) (fun v M => run 119 4 [l0, l1, l2, l3] [aI v] M) := call_I (n := 1) rfl false d119_1 rfl rfl rfl rfl rfl rfl rfl
theorem d119_4 : decode (cod 119) 4 = .ok (.istore_n 2, 1) := by decide +kernel
theorem r119_4 (l0 l1 l2 l3 : AV) (x : Int32) (st : List AV) (M : Mm) : run 119 4 [l0, l1, l2, l3] (aI x :: st) M = run 119 5 [l0, l1, aI x, l3] st M := e_istn [l0, l1, aI x, l3] d119_4 rfl rfl
theorem d119_5 : decode (cod 119) 5 = .ok (.iload_n 2, 1) := by decide +kernel
theorem r119_5 (l0 l1 l3 : AV) (x : Int32) (st : List AV) (M : Mm) : run 119 5 [l0, l1, aI x, l3] st M = run 119 6 [l0, l1, aI x, l3] (aI x :: st) M := e_ildn d119_5 rfl
theorem d119_6 : decode (cod 119) 6 = .ok (.ifCond .ge 4, 3) := by decide +kernel
theorem r119_6 (l0 l1 l2 l3 : AV) (a : Int32) (st : List AV) (M : Mm) : run 119 6 [l0, l1, l2, l3] (aI a :: st) M = if a < 0 then run 119 9 [l0, l1, l2, l3] st M else run 119 10 [l0, l1, l2, l3] st M := e_ge1 10 d119_6 (by decide)
theorem d119_9 : decode (cod 119) 9 = .ok (.return_, 1) := by decide +kernel
theorem r119_9 (l0 l1 l2 l3 : AV) (M : Mm) : run 119 9 [l0, l1, l2, l3] [] M = some (none, M) := e_vret d119_9 rfl
theorem d119_10 : decode (cod 119) 10 = .ok (.aload_n 0, 1) := by decide +kernel
theorem r119_10 (l1 l2 l3 : AV) (xg xi : Nat) (st : List AV) (M : Mm) : run 119 10 [aR xg 12 xi, l1, l2, l3] st M = run 119 11 [aR xg 12 xi, l1, l2, l3] (aR xg 12 xi :: st) M := e_aldn d119_10 rfl
theorem d119_11 : decode (cod 119) 11 = .ok (.getfield 22, 3) := by decide +kernel
theorem r119_11 (l0 l1 l2 l3 : AV) (xg xi : Nat) (st : List AV) (M : Mm) : run 119 11 [l0, l1, l2, l3] (aR xg 12 xi :: st) M = run 119 14 [l0, l1, l2, l3] (aR 4 17 0 :: st) M := e_gfr (fun g => (4, 17, 0)) d119_11 rfl rfl rfl
theorem d119_14 : decode (cod 119) 14 = .ok (.iload_n 2, 1) := by decide +kernel
theorem r119_14 (l0 l1 l3 : AV) (x : Int32) (st : List AV) (M : Mm) : run 119 14 [l0, l1, aI x, l3] st M = run 119 15 [l0, l1, aI x, l3] (aI x :: st) M := e_ildn d119_14 rfl
theorem d119_15 : decode (cod 119) 15 = .ok (.iaload, 1) := by decide +kernel
theorem r119_15 (l0 l1 l2 l3 : AV) (i : Int32) (xg xi : Nat) (st : List AV) (M : Mm) : run 119 15 [l0, l1, l2, l3] (aI i :: aR xg 17 xi :: st) M = if vpB i 4 = true then run 119 16 [l0, l1, l2, l3] (aI (M xg 17 xi i.toNatClampNeg) :: st) M else none := e_ial d119_15 rfl rfl
theorem d119_16 : decode (cod 119) 16 = .ok (.aload_n 0, 1) := by decide +kernel
theorem r119_16 (l1 l2 l3 : AV) (xg xi : Nat) (st : List AV) (M : Mm) : run 119 16 [aR xg 12 xi, l1, l2, l3] st M = run 119 17 [aR xg 12 xi, l1, l2, l3] (aR xg 12 xi :: st) M := e_aldn d119_16 rfl
theorem d119_17 : decode (cod 119) 17 = .ok (.getfield 25, 3) := by decide +kernel
theorem r119_17 (l0 l1 l2 l3 : AV) (xg xi : Nat) (st : List AV) (M : Mm) : run 119 17 [l0, l1, l2, l3] (aR xg 12 xi :: st) M = run 119 20 [l0, l1, l2, l3] (aR 4 18 0 :: st) M := e_gfr (fun g => (4, 18, 0)) d119_17 rfl rfl rfl
theorem d119_20 : decode (cod 119) 20 = .ok (.iload_n 2, 1) := by decide +kernel
theorem r119_20 (l0 l1 l3 : AV) (x : Int32) (st : List AV) (M : Mm) : run 119 20 [l0, l1, aI x, l3] st M = run 119 21 [l0, l1, aI x, l3] (aI x :: st) M := e_ildn d119_20 rfl
theorem d119_21 : decode (cod 119) 21 = .ok (.iaload, 1) := by decide +kernel
theorem r119_21 (l0 l1 l2 l3 : AV) (i : Int32) (xg xi : Nat) (st : List AV) (M : Mm) : run 119 21 [l0, l1, l2, l3] (aI i :: aR xg 18 xi :: st) M = if vpB i 4 = true then run 119 22 [l0, l1, l2, l3] (aI (M xg 18 xi i.toNatClampNeg) :: st) M else none := e_ial d119_21 rfl rfl
theorem d119_22 : decode (cod 119) 22 = .ok (.if_icmp .gt 7, 3) := by decide +kernel
theorem r119_22 (l0 l1 l2 l3 : AV) (a b : Int32) (st : List AV) (M : Mm) : run 119 22 [l0, l1, l2, l3] (aI b :: aI a :: st) M = if b < a then run 119 29 [l0, l1, l2, l3] st M else run 119 25 [l0, l1, l2, l3] st M := e_gt2 29 d119_22 (by decide)
theorem d119_25 : decode (cod 119) 25 = .ok (.iconst 1, 1) := by decide +kernel
theorem r119_25 (l0 l1 l2 l3 : AV) (st : List AV) (M : Mm) : run 119 25 [l0, l1, l2, l3] st M = run 119 26 [l0, l1, l2, l3] (aI 1 :: st) M := e_iconst 1 d119_25 (by decide +kernel)
theorem d119_26 : decode (cod 119) 26 = .ok (.goto 4, 3) := by decide +kernel
theorem r119_26 (l0 l1 l2 l3 : AV) (st : List AV) (M : Mm) : run 119 26 [l0, l1, l2, l3] st M = run 119 30 [l0, l1, l2, l3] st M := e_goto 30 d119_26 (by decide)
theorem d119_29 : decode (cod 119) 29 = .ok (.iconst 0, 1) := by decide +kernel
theorem r119_29 (l0 l1 l2 l3 : AV) (st : List AV) (M : Mm) : run 119 29 [l0, l1, l2, l3] st M = run 119 30 [l0, l1, l2, l3] (aI 0 :: st) M := e_iconst 0 d119_29 (by decide +kernel)
theorem d119_30 : decode (cod 119) 30 = .ok (.istore_n 3, 1) := by decide +kernel
theorem r119_30 (l0 l1 l2 l3 : AV) (x : Int32) (st : List AV) (M : Mm) : run 119 30 [l0, l1, l2, l3] (aI x :: st) M = run 119 31 [l0, l1, l2, aI x] st M := e_istn [l0, l1, l2, aI x] d119_30 rfl rfl
theorem d119_31 : decode (cod 119) 31 = .ok (.iload_n 3, 1) := by decide +kernel
theorem r119_31 (l0 l1 l2 : AV) (x : Int32) (st : List AV) (M : Mm) : run 119 31 [l0, l1, l2, aI x] st M = run 119 32 [l0, l1, l2, aI x] (aI x :: st) M := e_ildn d119_31 rfl
theorem d119_32 : decode (cod 119) 32 = .ok (.ifCond .eq 59, 3) := by decide +kernel
theorem r119_32 (l0 l1 l2 l3 : AV) (a : Int32) (st : List AV) (M : Mm) : run 119 32 [l0, l1, l2, l3] (aI a :: st) M = if a = 0 then run 119 91 [l0, l1, l2, l3] st M else run 119 35 [l0, l1, l2, l3] st M := e_eq1 91 d119_32 (by decide)
theorem d119_35 : decode (cod 119) 35 = .ok (.aload_n 0, 1) := by decide +kernel
theorem r119_35 (l1 l2 l3 : AV) (xg xi : Nat) (st : List AV) (M : Mm) : run 119 35 [aR xg 12 xi, l1, l2, l3] st M = run 119 36 [aR xg 12 xi, l1, l2, l3] (aR xg 12 xi :: st) M := e_aldn d119_35 rfl
theorem d119_36 : decode (cod 119) 36 = .ok (.getfield 13, 3) := by decide +kernel
theorem r119_36 (l0 l1 l2 l3 : AV) (xg xi : Nat) (st : List AV) (M : Mm) : run 119 36 [l0, l1, l2, l3] (aR xg 12 xi :: st) M = run 119 39 [l0, l1, l2, l3] (aR 4 14 0 :: st) M := e_gfr (fun g => (4, 14, 0)) d119_36 rfl rfl rfl
theorem d119_39 : decode (cod 119) 39 = .ok (.iconst 5, 1) := by decide +kernel
theorem r119_39 (l0 l1 l2 l3 : AV) (st : List AV) (M : Mm) : run 119 39 [l0, l1, l2, l3] st M = run 119 40 [l0, l1, l2, l3] (aI 5 :: st) M := e_iconst 5 d119_39 (by decide +kernel)
theorem d119_40 : decode (cod 119) 40 = .ok (.iaload, 1) := by decide +kernel
theorem r119_40 (l0 l1 l2 l3 : AV) (i : Int32) (xg xi : Nat) (st : List AV) (M : Mm) : run 119 40 [l0, l1, l2, l3] (aI i :: aR xg 14 xi :: st) M = if vpB i 7 = true then run 119 41 [l0, l1, l2, l3] (aI (M xg 14 xi i.toNatClampNeg) :: st) M else none := e_ial d119_40 rfl rfl
theorem d119_41 : decode (cod 119) 41 = .ok (.aload_n 0, 1) := by decide +kernel
theorem r119_41 (l1 l2 l3 : AV) (xg xi : Nat) (st : List AV) (M : Mm) : run 119 41 [aR xg 12 xi, l1, l2, l3] st M = run 119 42 [aR xg 12 xi, l1, l2, l3] (aR xg 12 xi :: st) M := e_aldn d119_41 rfl
theorem d119_42 : decode (cod 119) 42 = .ok (.getfield 13, 3) := by decide +kernel
theorem r119_42 (l0 l1 l2 l3 : AV) (xg xi : Nat) (st : List AV) (M : Mm) : run 119 42 [l0, l1, l2, l3] (aR xg 12 xi :: st) M = run 119 45 [l0, l1, l2, l3] (aR 4 14 0 :: st) M := e_gfr (fun g => (4, 14, 0)) d119_42 rfl rfl rfl
theorem d119_45 : decode (cod 119) 45 = .ok (.iconst 1, 1) := by decide +kernel
theorem r119_45 (l0 l1 l2 l3 : AV) (st : List AV) (M : Mm) : run 119 45 [l0, l1, l2, l3] st M = run 119 46 [l0, l1, l2, l3] (aI 1 :: st) M := e_iconst 1 d119_45 (by decide +kernel)
theorem d119_46 : decode (cod 119) 46 = .ok (.iaload, 1) := by decide +kernel
theorem r119_46 (l0 l1 l2 l3 : AV) (i : Int32) (xg xi : Nat) (st : List AV) (M : Mm) : run 119 46 [l0, l1, l2, l3] (aI i :: aR xg 14 xi :: st) M = if vpB i 7 = true then run 119 47 [l0, l1, l2, l3] (aI (M xg 14 xi i.toNatClampNeg) :: st) M else none := e_ial d119_46 rfl rfl
theorem d119_47 : decode (cod 119) 47 = .ok (.if_icmp .ge 44, 3) := by decide +kernel
theorem r119_47 (l0 l1 l2 l3 : AV) (a b : Int32) (st : List AV) (M : Mm) : run 119 47 [l0, l1, l2, l3] (aI b :: aI a :: st) M = if a < b then run 119 50 [l0, l1, l2, l3] st M else run 119 91 [l0, l1, l2, l3] st M := e_ge2 91 d119_47 (by decide)
theorem d119_50 : decode (cod 119) 50 = .ok (.aload_n 0, 1) := by decide +kernel
theorem r119_50 (l1 l2 l3 : AV) (xg xi : Nat) (st : List AV) (M : Mm) : run 119 50 [aR xg 12 xi, l1, l2, l3] st M = run 119 51 [aR xg 12 xi, l1, l2, l3] (aR xg 12 xi :: st) M := e_aldn d119_50 rfl
theorem d119_51 : decode (cod 119) 51 = .ok (.getfield 211, 3) := by decide +kernel
theorem r119_51 (l0 l1 l2 l3 : AV) (xg xi : Nat) (st : List AV) (M : Mm) : run 119 51 [l0, l1, l2, l3] (aR xg 12 xi :: st) M = run 119 54 [l0, l1, l2, l3] (aI (M xg 12 xi 39) :: st) M := e_gfi d119_51 rfl rfl rfl
theorem d119_54 : decode (cod 119) 54 = .ok (.aload_n 0, 1) := by decide +kernel
theorem r119_54 (l1 l2 l3 : AV) (xg xi : Nat) (st : List AV) (M : Mm) : run 119 54 [aR xg 12 xi, l1, l2, l3] st M = run 119 55 [aR xg 12 xi, l1, l2, l3] (aR xg 12 xi :: st) M := e_aldn d119_54 rfl
theorem d119_55 : decode (cod 119) 55 = .ok (.getfield 75, 3) := by decide +kernel
theorem r119_55 (l0 l1 l2 l3 : AV) (xg xi : Nat) (st : List AV) (M : Mm) : run 119 55 [l0, l1, l2, l3] (aR xg 12 xi :: st) M = run 119 58 [l0, l1, l2, l3] (aI (M xg 12 xi 38) :: st) M := e_gfi d119_55 rfl rfl rfl
theorem d119_58 : decode (cod 119) 58 = .ok (.if_icmp .lt 4, 3) := by decide +kernel
theorem r119_58 (l0 l1 l2 l3 : AV) (a b : Int32) (st : List AV) (M : Mm) : run 119 58 [l0, l1, l2, l3] (aI b :: aI a :: st) M = if a < b then run 119 62 [l0, l1, l2, l3] st M else run 119 61 [l0, l1, l2, l3] st M := e_lt2 62 d119_58 (by decide)
theorem d119_61 : decode (cod 119) 61 = .ok (.return_, 1) := by decide +kernel
theorem r119_61 (l0 l1 l2 l3 : AV) (M : Mm) : run 119 61 [l0, l1, l2, l3] [] M = some (none, M) := e_vret d119_61 rfl
theorem d119_62 : decode (cod 119) 62 = .ok (.aload_n 0, 1) := by decide +kernel
theorem r119_62 (l1 l2 l3 : AV) (xg xi : Nat) (st : List AV) (M : Mm) : run 119 62 [aR xg 12 xi, l1, l2, l3] st M = run 119 63 [aR xg 12 xi, l1, l2, l3] (aR xg 12 xi :: st) M := e_aldn d119_62 rfl
theorem d119_63 : decode (cod 119) 63 = .ok (.iload_n 1, 1) := by decide +kernel
theorem r119_63 (l0 l2 l3 : AV) (x : Int32) (st : List AV) (M : Mm) : run 119 63 [l0, aI x, l2, l3] st M = run 119 64 [l0, aI x, l2, l3] (aI x :: st) M := e_ildn d119_63 rfl
theorem d119_64 : decode (cod 119) 64 = .ok (.iconst 1, 1) := by decide +kernel
theorem r119_64 (l0 l1 l2 l3 : AV) (st : List AV) (M : Mm) : run 119 64 [l0, l1, l2, l3] st M = run 119 65 [l0, l1, l2, l3] (aI 1 :: st) M := e_iconst 1 d119_64 (by decide +kernel)
theorem d119_65 : decode (cod 119) 65 = .ok (.aload_n 0, 1) := by decide +kernel
theorem r119_65 (l1 l2 l3 : AV) (xg xi : Nat) (st : List AV) (M : Mm) : run 119 65 [aR xg 12 xi, l1, l2, l3] st M = run 119 66 [aR xg 12 xi, l1, l2, l3] (aR xg 12 xi :: st) M := e_aldn d119_65 rfl
theorem d119_66 : decode (cod 119) 66 = .ok (.getfield 13, 3) := by decide +kernel
theorem r119_66 (l0 l1 l2 l3 : AV) (xg xi : Nat) (st : List AV) (M : Mm) : run 119 66 [l0, l1, l2, l3] (aR xg 12 xi :: st) M = run 119 69 [l0, l1, l2, l3] (aR 4 14 0 :: st) M := e_gfr (fun g => (4, 14, 0)) d119_66 rfl rfl rfl
theorem d119_69 : decode (cod 119) 69 = .ok (.iconst 3, 1) := by decide +kernel
theorem r119_69 (l0 l1 l2 l3 : AV) (st : List AV) (M : Mm) : run 119 69 [l0, l1, l2, l3] st M = run 119 70 [l0, l1, l2, l3] (aI 3 :: st) M := e_iconst 3 d119_69 (by decide +kernel)
theorem d119_70 : decode (cod 119) 70 = .ok (.iaload, 1) := by decide +kernel
theorem r119_70 (l0 l1 l2 l3 : AV) (i : Int32) (xg xi : Nat) (st : List AV) (M : Mm) : run 119 70 [l0, l1, l2, l3] (aI i :: aR xg 14 xi :: st) M = if vpB i 7 = true then run 119 71 [l0, l1, l2, l3] (aI (M xg 14 xi i.toNatClampNeg) :: st) M else none := e_ial d119_70 rfl rfl
theorem d119_71 : decode (cod 119) 71 = .ok (.invokevirtual 214, 3) := by decide +kernel
theorem r119_71 (l0 l1 l2 l3 : AV) (a0g a0i : Nat) (a1 : Int32) (a2 : Int32) (a3 : Int32) (M : Mm) : run 119 71 [l0, l1, l2, l3] [aI a3, aI a2, aI a1, aR a0g 12 a0i] M = cbV (call 117 [aR a0g 12 a0i, aI a1, aI a2, aI a3] M) (fun M => run 119 74 [l0, l1, l2, l3] [] M) := call_V (n := 4) rfl false d119_71 rfl rfl rfl rfl rfl rfl rfl
theorem d119_74 : decode (cod 119) 74 = .ok (.aload_n 0, 1) := by decide +kernel
theorem r119_74 (l1 l2 l3 : AV) (xg xi : Nat) (st : List AV) (M : Mm) : run 119 74 [aR xg 12 xi, l1, l2, l3] st M = run 119 75 [aR xg 12 xi, l1, l2, l3] (aR xg 12 xi :: st) M := e_aldn d119_74 rfl
theorem d119_75 : decode (cod 119) 75 = .ok (.dup, 1) := by decide +kernel
theorem r119_75 (l0 l1 l2 l3 : AV) (xg xi : Nat) (st : List AV) (M : Mm) : run 119 75 [l0, l1, l2, l3] (aR xg 12 xi :: st) M = run 119 76 [l0, l1, l2, l3] (aR xg 12 xi :: aR xg 12 xi :: st) M := e_dup d119_75
theorem d119_76 : decode (cod 119) 76 = .ok (.getfield 218, 3) := by decide +kernel
theorem r119_76 (l0 l1 l2 l3 : AV) (xg xi : Nat) (st : List AV) (M : Mm) : run 119 76 [l0, l1, l2, l3] (aR xg 12 xi :: st) M = run 119 79 [l0, l1, l2, l3] (aI (M xg 12 xi 31) :: st) M := e_gfi d119_76 rfl rfl rfl
theorem d119_79 : decode (cod 119) 79 = .ok (.iconst 1, 1) := by decide +kernel
theorem r119_79 (l0 l1 l2 l3 : AV) (st : List AV) (M : Mm) : run 119 79 [l0, l1, l2, l3] st M = run 119 80 [l0, l1, l2, l3] (aI 1 :: st) M := e_iconst 1 d119_79 (by decide +kernel)
theorem d119_80 : decode (cod 119) 80 = .ok (.iadd, 1) := by decide +kernel
theorem r119_80 (l0 l1 l2 l3 : AV) (a b : Int32) (st : List AV) (M : Mm) : run 119 80 [l0, l1, l2, l3] (aI b :: aI a :: st) M = run 119 81 [l0, l1, l2, l3] (aI (a + b) :: st) M := e_iadd d119_80
theorem d119_81 : decode (cod 119) 81 = .ok (.putfield 218, 3) := by decide +kernel
theorem r119_81 (l0 l1 l2 l3 : AV) (v : Int32) (xg xi : Nat) (st : List AV) (M : Mm) : run 119 81 [l0, l1, l2, l3] (aI v :: aR xg 12 xi :: st) M = run 119 84 [l0, l1, l2, l3] st (wr M xg 12 xi 31 v) := e_pfi d119_81 rfl rfl rfl rfl
theorem d119_84 : decode (cod 119) 84 = .ok (.aload_n 0, 1) := by decide +kernel
theorem r119_84 (l1 l2 l3 : AV) (xg xi : Nat) (st : List AV) (M : Mm) : run 119 84 [aR xg 12 xi, l1, l2, l3] st M = run 119 85 [aR xg 12 xi, l1, l2, l3] (aR xg 12 xi :: st) M := e_aldn d119_84 rfl
theorem d119_85 : decode (cod 119) 85 = .ok (.bipush 9, 2) := by decide +kernel
theorem r119_85 (l0 l1 l2 l3 : AV) (st : List AV) (M : Mm) : run 119 85 [l0, l1, l2, l3] st M = run 119 87 [l0, l1, l2, l3] (aI 9 :: st) M := e_bipush 9 d119_85 (by decide +kernel)
theorem d119_87 : decode (cod 119) 87 = .ok (.invokevirtual 221, 3) := by decide +kernel
theorem r119_87 (l0 l1 l2 l3 : AV) (a0g a0i : Nat) (a1 : Int32) (M : Mm) : run 119 87 [l0, l1, l2, l3] [aI a1, aR a0g 12 a0i] M = cbV (call 118 [aR a0g 12 a0i, aI a1] M) (fun M => run 119 90 [l0, l1, l2, l3] [] M) := call_V (n := 2) rfl false d119_87 rfl rfl rfl rfl rfl rfl rfl
theorem d119_90 : decode (cod 119) 90 = .ok (.return_, 1) := by decide +kernel
theorem r119_90 (l0 l1 l2 l3 : AV) (M : Mm) : run 119 90 [l0, l1, l2, l3] [] M = some (none, M) := e_vret d119_90 rfl
theorem d119_91 : decode (cod 119) 91 = .ok (.aload_n 0, 1) := by decide +kernel
theorem r119_91 (l1 l2 l3 : AV) (xg xi : Nat) (st : List AV) (M : Mm) : run 119 91 [aR xg 12 xi, l1, l2, l3] st M = run 119 92 [aR xg 12 xi, l1, l2, l3] (aR xg 12 xi :: st) M := e_aldn d119_91 rfl
theorem d119_92 : decode (cod 119) 92 = .ok (.getfield 13, 3) := by decide +kernel
theorem r119_92 (l0 l1 l2 l3 : AV) (xg xi : Nat) (st : List AV) (M : Mm) : run 119 92 [l0, l1, l2, l3] (aR xg 12 xi :: st) M = run 119 95 [l0, l1, l2, l3] (aR 4 14 0 :: st) M := e_gfr (fun g => (4, 14, 0)) d119_92 rfl rfl rfl
theorem d119_95 : decode (cod 119) 95 = .ok (.iconst 5, 1) := by decide +kernel
theorem r119_95 (l0 l1 l2 l3 : AV) (st : List AV) (M : Mm) : run 119 95 [l0, l1, l2, l3] st M = run 119 96 [l0, l1, l2, l3] (aI 5 :: st) M := e_iconst 5 d119_95 (by decide +kernel)
theorem d119_96 : decode (cod 119) 96 = .ok (.dup2, 1) := by decide +kernel
theorem r119_96 (l0 l1 l2 l3 : AV) (x : Int32) (zg zi : Nat) (st : List AV) (M : Mm) : run 119 96 [l0, l1, l2, l3] (aI x :: aR zg 14 zi :: st) M = run 119 97 [l0, l1, l2, l3] (aI x :: aR zg 14 zi :: aI x :: aR zg 14 zi :: st) M := e_dup2 d119_96
theorem d119_97 : decode (cod 119) 97 = .ok (.iaload, 1) := by decide +kernel
theorem r119_97 (l0 l1 l2 l3 : AV) (i : Int32) (xg xi : Nat) (st : List AV) (M : Mm) : run 119 97 [l0, l1, l2, l3] (aI i :: aR xg 14 xi :: st) M = if vpB i 7 = true then run 119 98 [l0, l1, l2, l3] (aI (M xg 14 xi i.toNatClampNeg) :: st) M else none := e_ial d119_97 rfl rfl
theorem d119_98 : decode (cod 119) 98 = .ok (.iload_n 3, 1) := by decide +kernel
theorem r119_98 (l0 l1 l2 : AV) (x : Int32) (st : List AV) (M : Mm) : run 119 98 [l0, l1, l2, aI x] st M = run 119 99 [l0, l1, l2, aI x] (aI x :: st) M := e_ildn d119_98 rfl
theorem d119_99 : decode (cod 119) 99 = .ok (.ifCond .eq 12, 3) := by decide +kernel
theorem r119_99 (l0 l1 l2 l3 : AV) (a : Int32) (st : List AV) (M : Mm) : run 119 99 [l0, l1, l2, l3] (aI a :: st) M = if a = 0 then run 119 111 [l0, l1, l2, l3] st M else run 119 102 [l0, l1, l2, l3] st M := e_eq1 111 d119_99 (by decide)
theorem d119_102 : decode (cod 119) 102 = .ok (.aload_n 0, 1) := by decide +kernel
theorem r119_102 (l1 l2 l3 : AV) (xg xi : Nat) (st : List AV) (M : Mm) : run 119 102 [aR xg 12 xi, l1, l2, l3] st M = run 119 103 [aR xg 12 xi, l1, l2, l3] (aR xg 12 xi :: st) M := e_aldn d119_102 rfl
theorem d119_103 : decode (cod 119) 103 = .ok (.getfield 13, 3) := by decide +kernel
theorem r119_103 (l0 l1 l2 l3 : AV) (xg xi : Nat) (st : List AV) (M : Mm) : run 119 103 [l0, l1, l2, l3] (aR xg 12 xi :: st) M = run 119 106 [l0, l1, l2, l3] (aR 4 14 0 :: st) M := e_gfr (fun g => (4, 14, 0)) d119_103 rfl rfl rfl
theorem d119_106 : decode (cod 119) 106 = .ok (.iconst 1, 1) := by decide +kernel
theorem r119_106 (l0 l1 l2 l3 : AV) (st : List AV) (M : Mm) : run 119 106 [l0, l1, l2, l3] st M = run 119 107 [l0, l1, l2, l3] (aI 1 :: st) M := e_iconst 1 d119_106 (by decide +kernel)
theorem d119_107 : decode (cod 119) 107 = .ok (.iaload, 1) := by decide +kernel
theorem r119_107 (l0 l1 l2 l3 : AV) (i : Int32) (xg xi : Nat) (st : List AV) (M : Mm) : run 119 107 [l0, l1, l2, l3] (aI i :: aR xg 14 xi :: st) M = if vpB i 7 = true then run 119 108 [l0, l1, l2, l3] (aI (M xg 14 xi i.toNatClampNeg) :: st) M else none := e_ial d119_107 rfl rfl
theorem d119_108 : decode (cod 119) 108 = .ok (.goto 4, 3) := by decide +kernel
theorem r119_108 (l0 l1 l2 l3 : AV) (st : List AV) (M : Mm) : run 119 108 [l0, l1, l2, l3] st M = run 119 112 [l0, l1, l2, l3] st M := e_goto 112 d119_108 (by decide)
theorem d119_111 : decode (cod 119) 111 = .ok (.iconst 0, 1) := by decide +kernel
theorem r119_111 (l0 l1 l2 l3 : AV) (st : List AV) (M : Mm) : run 119 111 [l0, l1, l2, l3] st M = run 119 112 [l0, l1, l2, l3] (aI 0 :: st) M := e_iconst 0 d119_111 (by decide +kernel)
theorem d119_112 : decode (cod 119) 112 = .ok (.isub, 1) := by decide +kernel
theorem r119_112 (l0 l1 l2 l3 : AV) (a b : Int32) (st : List AV) (M : Mm) : run 119 112 [l0, l1, l2, l3] (aI b :: aI a :: st) M = run 119 113 [l0, l1, l2, l3] (aI (a - b) :: st) M := e_isub d119_112
theorem d119_113 : decode (cod 119) 113 = .ok (.iastore, 1) := by decide +kernel
theorem r119_113 (l0 l1 l2 l3 : AV) (v i : Int32) (xg xi : Nat) (st : List AV) (M : Mm) : run 119 113 [l0, l1, l2, l3] (aI v :: aI i :: aR xg 14 xi :: st) M = if vpB i 7 = true then run 119 114 [l0, l1, l2, l3] st (wr M xg 14 xi i.toNatClampNeg v) else none := e_ias d119_113 rfl rfl
theorem d119_114 : decode (cod 119) 114 = .ok (.aload_n 0, 1) := by decide +kernel
theorem r119_114 (l1 l2 l3 : AV) (xg xi : Nat) (st : List AV) (M : Mm) : run 119 114 [aR xg 12 xi, l1, l2, l3] st M = run 119 115 [aR xg 12 xi, l1, l2, l3] (aR xg 12 xi :: st) M := e_aldn d119_114 rfl
theorem d119_115 : decode (cod 119) 115 = .ok (.getfield 34, 3) := by decide +kernel
theorem r119_115 (l0 l1 l2 l3 : AV) (xg xi : Nat) (st : List AV) (M : Mm) : run 119 115 [l0, l1, l2, l3] (aR xg 12 xi :: st) M = run 119 118 [l0, l1, l2, l3] (aR 4 21 0 :: st) M := e_gfr (fun g => (4, 21, 0)) d119_115 rfl rfl rfl
theorem d119_118 : decode (cod 119) 118 = .ok (.iload_n 1, 1) := by decide +kernel
theorem r119_118 (l0 l2 l3 : AV) (x : Int32) (st : List AV) (M : Mm) : run 119 118 [l0, aI x, l2, l3] st M = run 119 119 [l0, aI x, l2, l3] (aI x :: st) M := e_ildn d119_118 rfl
theorem d119_119 : decode (cod 119) 119 = .ok (.iload_n 2, 1) := by decide +kernel
theorem r119_119 (l0 l1 l3 : AV) (x : Int32) (st : List AV) (M : Mm) : run 119 119 [l0, l1, aI x, l3] st M = run 119 120 [l0, l1, aI x, l3] (aI x :: st) M := e_ildn d119_119 rfl
theorem d119_120 : decode (cod 119) 120 = .ok (.iastore, 1) := by decide +kernel
theorem r119_120 (l0 l1 l2 l3 : AV) (v i : Int32) (xg xi : Nat) (st : List AV) (M : Mm) : run 119 120 [l0, l1, l2, l3] (aI v :: aI i :: aR xg 21 xi :: st) M = if vpB i 3 = true then run 119 121 [l0, l1, l2, l3] st (wr M xg 21 xi i.toNatClampNeg v) else none := e_ias d119_120 rfl rfl
theorem d119_121 : decode (cod 119) 121 = .ok (.aload_n 0, 1) := by decide +kernel
theorem r119_121 (l1 l2 l3 : AV) (xg xi : Nat) (st : List AV) (M : Mm) : run 119 121 [aR xg 12 xi, l1, l2, l3] st M = run 119 122 [aR xg 12 xi, l1, l2, l3] (aR xg 12 xi :: st) M := e_aldn d119_121 rfl
theorem d119_122 : decode (cod 119) 122 = .ok (.getfield 37, 3) := by decide +kernel
theorem r119_122 (l0 l1 l2 l3 : AV) (xg xi : Nat) (st : List AV) (M : Mm) : run 119 122 [l0, l1, l2, l3] (aR xg 12 xi :: st) M = run 119 125 [l0, l1, l2, l3] (aR 4 22 0 :: st) M := e_gfr (fun g => (4, 22, 0)) d119_122 rfl rfl rfl
theorem d119_125 : decode (cod 119) 125 = .ok (.iload_n 1, 1) := by decide +kernel
theorem r119_125 (l0 l2 l3 : AV) (x : Int32) (st : List AV) (M : Mm) : run 119 125 [l0, aI x, l2, l3] st M = run 119 126 [l0, aI x, l2, l3] (aI x :: st) M := e_ildn d119_125 rfl
theorem d119_126 : decode (cod 119) 126 = .ok (.iload_n 3, 1) := by decide +kernel
theorem r119_126 (l0 l1 l2 : AV) (x : Int32) (st : List AV) (M : Mm) : run 119 126 [l0, l1, l2, aI x] st M = run 119 127 [l0, l1, l2, aI x] (aI x :: st) M := e_ildn d119_126 rfl
theorem d119_127 : decode (cod 119) 127 = .ok (.ifCond .eq 7, 3) := by decide +kernel
theorem r119_127 (l0 l1 l2 l3 : AV) (a : Int32) (st : List AV) (M : Mm) : run 119 127 [l0, l1, l2, l3] (aI a :: st) M = if a = 0 then run 119 134 [l0, l1, l2, l3] st M else run 119 130 [l0, l1, l2, l3] st M := e_eq1 134 d119_127 (by decide)
theorem d119_130 : decode (cod 119) 130 = .ok (.iconst 1, 1) := by decide +kernel
theorem r119_130 (l0 l1 l2 l3 : AV) (st : List AV) (M : Mm) : run 119 130 [l0, l1, l2, l3] st M = run 119 131 [l0, l1, l2, l3] (aI 1 :: st) M := e_iconst 1 d119_130 (by decide +kernel)
theorem d119_131 : decode (cod 119) 131 = .ok (.goto 4, 3) := by decide +kernel
theorem r119_131 (l0 l1 l2 l3 : AV) (st : List AV) (M : Mm) : run 119 131 [l0, l1, l2, l3] st M = run 119 135 [l0, l1, l2, l3] st M := e_goto 135 d119_131 (by decide)
theorem d119_134 : decode (cod 119) 134 = .ok (.iconst 0, 1) := by decide +kernel
theorem r119_134 (l0 l1 l2 l3 : AV) (st : List AV) (M : Mm) : run 119 134 [l0, l1, l2, l3] st M = run 119 135 [l0, l1, l2, l3] (aI 0 :: st) M := e_iconst 0 d119_134 (by decide +kernel)
theorem d119_135 : decode (cod 119) 135 = .ok (.iastore, 1) := by decide +kernel
theorem r119_135 (l0 l1 l2 l3 : AV) (v i : Int32) (xg xi : Nat) (st : List AV) (M : Mm) : run 119 135 [l0, l1, l2, l3] (aI v :: aI i :: aR xg 22 xi :: st) M = if vpB i 3 = true then run 119 136 [l0, l1, l2, l3] st (wr M xg 22 xi i.toNatClampNeg v) else none := e_ias d119_135 rfl rfl
theorem d119_136 : decode (cod 119) 136 = .ok (.aload_n 0, 1) := by decide +kernel
theorem r119_136 (l1 l2 l3 : AV) (xg xi : Nat) (st : List AV) (M : Mm) : run 119 136 [aR xg 12 xi, l1, l2, l3] st M = run 119 137 [aR xg 12 xi, l1, l2, l3] (aR xg 12 xi :: st) M := e_aldn d119_136 rfl
theorem d119_137 : decode (cod 119) 137 = .ok (.iload_n 2, 1) := by decide +kernel
theorem r119_137 (l0 l1 l3 : AV) (x : Int32) (st : List AV) (M : Mm) : run 119 137 [l0, l1, aI x, l3] st M = run 119 138 [l0, l1, aI x, l3] (aI x :: st) M := e_ildn d119_137 rfl
theorem d119_138 : decode (cod 119) 138 = .ok (.putfield 70, 3) := by decide +kernel
theorem r119_138 (l0 l1 l2 l3 : AV) (v : Int32) (xg xi : Nat) (st : List AV) (M : Mm) : run 119 138 [l0, l1, l2, l3] (aI v :: aR xg 12 xi :: st) M = run 119 141 [l0, l1, l2, l3] st (wr M xg 12 xi 12 v) := e_pfi d119_138 rfl rfl rfl rfl
theorem d119_141 : decode (cod 119) 141 = .ok (.aload_n 0, 1) := by decide +kernel
theorem r119_141 (l1 l2 l3 : AV) (xg xi : Nat) (st : List AV) (M : Mm) : run 119 141 [aR xg 12 xi, l1, l2, l3] st M = run 119 142 [aR xg 12 xi, l1, l2, l3] (aR xg 12 xi :: st) M := e_aldn d119_141 rfl
theorem d119_142 : decode (cod 119) 142 = .ok (.iload_n 1, 1) := by decide +kernel
theorem r119_142 (l0 l2 l3 : AV) (x : Int32) (st : List AV) (M : Mm) : run 119 142 [l0, aI x, l2, l3] st M = run 119 143 [l0, aI x, l2, l3] (aI x :: st) M := e_ildn d119_142 rfl
theorem d119_143 : decode (cod 119) 143 = .ok (.iconst 2, 1) := by decide +kernel
theorem r119_143 (l0 l1 l2 l3 : AV) (st : List AV) (M : Mm) : run 119 143 [l0, l1, l2, l3] st M = run 119 144 [l0, l1, l2, l3] (aI 2 :: st) M := e_iconst 2 d119_143 (by decide +kernel)
theorem d119_144 : decode (cod 119) 144 = .ok (.aload_n 0, 1) := by decide +kernel
theorem r119_144 (l1 l2 l3 : AV) (xg xi : Nat) (st : List AV) (M : Mm) : run 119 144 [aR xg 12 xi, l1, l2, l3] st M = run 119 145 [aR xg 12 xi, l1, l2, l3] (aR xg 12 xi :: st) M := e_aldn d119_144 rfl
theorem d119_145 : decode (cod 119) 145 = .ok (.getfield 13, 3) := by decide +kernel
theorem r119_145 (l0 l1 l2 l3 : AV) (xg xi : Nat) (st : List AV) (M : Mm) : run 119 145 [l0, l1, l2, l3] (aR xg 12 xi :: st) M = run 119 148 [l0, l1, l2, l3] (aR 4 14 0 :: st) M := e_gfr (fun g => (4, 14, 0)) d119_145 rfl rfl rfl
theorem d119_148 : decode (cod 119) 148 = .ok (.iconst 2, 1) := by decide +kernel
theorem r119_148 (l0 l1 l2 l3 : AV) (st : List AV) (M : Mm) : run 119 148 [l0, l1, l2, l3] st M = run 119 149 [l0, l1, l2, l3] (aI 2 :: st) M := e_iconst 2 d119_148 (by decide +kernel)
theorem d119_149 : decode (cod 119) 149 = .ok (.iaload, 1) := by decide +kernel
theorem r119_149 (l0 l1 l2 l3 : AV) (i : Int32) (xg xi : Nat) (st : List AV) (M : Mm) : run 119 149 [l0, l1, l2, l3] (aI i :: aR xg 14 xi :: st) M = if vpB i 7 = true then run 119 150 [l0, l1, l2, l3] (aI (M xg 14 xi i.toNatClampNeg) :: st) M else none := e_ial d119_149 rfl rfl
theorem d119_150 : decode (cod 119) 150 = .ok (.invokevirtual 214, 3) := by decide +kernel
theorem r119_150 (l0 l1 l2 l3 : AV) (a0g a0i : Nat) (a1 : Int32) (a2 : Int32) (a3 : Int32) (M : Mm) : run 119 150 [l0, l1, l2, l3] [aI a3, aI a2, aI a1, aR a0g 12 a0i] M = cbV (call 117 [aR a0g 12 a0i, aI a1, aI a2, aI a3] M) (fun M => run 119 153 [l0, l1, l2, l3] [] M) := call_V (n := 4) rfl false d119_150 rfl rfl rfl rfl rfl rfl rfl
theorem d119_153 : decode (cod 119) 153 = .ok (.aload_n 0, 1) := by decide +kernel
theorem r119_153 (l1 l2 l3 : AV) (xg xi : Nat) (st : List AV) (M : Mm) : run 119 153 [aR xg 12 xi, l1, l2, l3] st M = run 119 154 [aR xg 12 xi, l1, l2, l3] (aR xg 12 xi :: st) M := e_aldn d119_153 rfl
theorem d119_154 : decode (cod 119) 154 = .ok (.dup, 1) := by decide +kernel
theorem r119_154 (l0 l1 l2 l3 : AV) (xg xi : Nat) (st : List AV) (M : Mm) : run 119 154 [l0, l1, l2, l3] (aR xg 12 xi :: st) M = run 119 155 [l0, l1, l2, l3] (aR xg 12 xi :: aR xg 12 xi :: st) M := e_dup d119_154
theorem d119_155 : decode (cod 119) 155 = .ok (.getfield 224, 3) := by decide +kernel
theorem r119_155 (l0 l1 l2 l3 : AV) (xg xi : Nat) (st : List AV) (M : Mm) : run 119 155 [l0, l1, l2, l3] (aR xg 12 xi :: st) M = run 119 158 [l0, l1, l2, l3] (aI (M xg 12 xi 30) :: st) M := e_gfi d119_155 rfl rfl rfl
theorem d119_158 : decode (cod 119) 158 = .ok (.iconst 1, 1) := by decide +kernel
theorem r119_158 (l0 l1 l2 l3 : AV) (st : List AV) (M : Mm) : run 119 158 [l0, l1, l2, l3] st M = run 119 159 [l0, l1, l2, l3] (aI 1 :: st) M := e_iconst 1 d119_158 (by decide +kernel)
theorem d119_159 : decode (cod 119) 159 = .ok (.iadd, 1) := by decide +kernel
theorem r119_159 (l0 l1 l2 l3 : AV) (a b : Int32) (st : List AV) (M : Mm) : run 119 159 [l0, l1, l2, l3] (aI b :: aI a :: st) M = run 119 160 [l0, l1, l2, l3] (aI (a + b) :: st) M := e_iadd d119_159
theorem d119_160 : decode (cod 119) 160 = .ok (.putfield 224, 3) := by decide +kernel
theorem r119_160 (l0 l1 l2 l3 : AV) (v : Int32) (xg xi : Nat) (st : List AV) (M : Mm) : run 119 160 [l0, l1, l2, l3] (aI v :: aR xg 12 xi :: st) M = run 119 163 [l0, l1, l2, l3] st (wr M xg 12 xi 30 v) := e_pfi d119_160 rfl rfl rfl rfl
theorem d119_163 : decode (cod 119) 163 = .ok (.aload_n 0, 1) := by decide +kernel
theorem r119_163 (l1 l2 l3 : AV) (xg xi : Nat) (st : List AV) (M : Mm) : run 119 163 [aR xg 12 xi, l1, l2, l3] st M = run 119 164 [aR xg 12 xi, l1, l2, l3] (aR xg 12 xi :: st) M := e_aldn d119_163 rfl
theorem d119_164 : decode (cod 119) 164 = .ok (.iload_n 2, 1) := by decide +kernel
theorem r119_164 (l0 l1 l3 : AV) (x : Int32) (st : List AV) (M : Mm) : run 119 164 [l0, l1, aI x, l3] st M = run 119 165 [l0, l1, aI x, l3] (aI x :: st) M := e_ildn d119_164 rfl
theorem d119_165 : decode (cod 119) 165 = .ok (.invokevirtual 221, 3) := by decide +kernel
theorem r119_165 (l0 l1 l2 l3 : AV) (a0g a0i : Nat) (a1 : Int32) (M : Mm) : run 119 165 [l0, l1, l2, l3] [aI a1, aR a0g 12 a0i] M = cbV (call 118 [aR a0g 12 a0i, aI a1] M) (fun M => run 119 168 [l0, l1, l2, l3] [] M) := call_V (n := 2) rfl false d119_165 rfl rfl rfl rfl rfl rfl rfl
theorem d119_168 : decode (cod 119) 168 = .ok (.return_, 1) := by decide +kernel
theorem r119_168 (l0 l1 l2 l3 : AV) (M : Mm) : run 119 168 [l0, l1, l2, l3] [] M = some (none, M) := e_vret d119_168 rfl
theorem c120 (g0 i0 : Nat) (x1 : Int32) (x2 : Int32) (M : Mm) : call 120 [aR g0 12 i0, aI x1, aI x2] M = run 120 0 [aR g0 12 i0, aI x1, aI x2] [] M := call_run 120 _ _
theorem d120_0 : decode (cod 120) 0 = .ok (.aload_n 0, 1) := by decide +kernel
theorem r120_0 (l1 l2 : AV) (xg xi : Nat) (st : List AV) (M : Mm) : run 120 0 [aR xg 12 xi, l1, l2] st M = run 120 1 [aR xg 12 xi, l1, l2] (aR xg 12 xi :: st) M := e_aldn d120_0 rfl
theorem d120_1 : decode (cod 120) 1 = .ok (.dup, 1) := by decide +kernel
theorem r120_1 (l0 l1 l2 : AV) (xg xi : Nat) (st : List AV) (M : Mm) : run 120 1 [l0, l1, l2] (aR xg 12 xi :: st) M = run 120 2 [l0, l1, l2] (aR xg 12 xi :: aR xg 12 xi :: st) M := e_dup d120_1
theorem d120_2 : decode (cod 120) 2 = .ok (.getfield 227, 3) := by decide +kernel
theorem r120_2 (l0 l1 l2 : AV) (xg xi : Nat) (st : List AV) (M : Mm) : run 120 2 [l0, l1, l2] (aR xg 12 xi :: st) M = run 120 5 [l0, l1, l2] (aI (M xg 12 xi 32) :: st) M := e_gfi d120_2 rfl rfl rfl
theorem d120_5 : decode (cod 120) 5 = .ok (.iload_n 1, 1) := by decide +kernel
theorem r120_5 (l0 l2 : AV) (x : Int32) (st : List AV) (M : Mm) : run 120 5 [l0, aI x, l2] st M = run 120 6 [l0, aI x, l2] (aI x :: st) M := e_ildn d120_5 rfl
theorem d120_6 : decode (cod 120) 6 = .ok (.iload_n 2, 1) := by decide +kernel
theorem r120_6 (l0 l1 : AV) (x : Int32) (st : List AV) (M : Mm) : run 120 6 [l0, l1, aI x] st M = run 120 7 [l0, l1, aI x] (aI x :: st) M := e_ildn d120_6 rfl
theorem d120_7 : decode (cod 120) 7 = .ok (.if_icmp .le 9, 3) := by decide +kernel
theorem r120_7 (l0 l1 l2 : AV) (a b : Int32) (st : List AV) (M : Mm) : run 120 7 [l0, l1, l2] (aI b :: aI a :: st) M = if b < a then run 120 10 [l0, l1, l2] st M else run 120 16 [l0, l1, l2] st M := e_le2 16 d120_7 (by decide)
theorem d120_10 : decode (cod 120) 10 = .ok (.iload_n 1, 1) := by decide +kernel
theorem r120_10 (l0 l2 : AV) (x : Int32) (st : List AV) (M : Mm) : run 120 10 [l0, aI x, l2] st M = run 120 11 [l0, aI x, l2] (aI x :: st) M := e_ildn d120_10 rfl
theorem d120_11 : decode (cod 120) 11 = .ok (.iload_n 2, 1) := by decide +kernel
theorem r120_11 (l0 l1 : AV) (x : Int32) (st : List AV) (M : Mm) : run 120 11 [l0, l1, aI x] st M = run 120 12 [l0, l1, aI x] (aI x :: st) M := e_ildn d120_11 rfl
theorem d120_12 : decode (cod 120) 12 = .ok (.isub, 1) := by decide +kernel
theorem r120_12 (l0 l1 l2 : AV) (a b : Int32) (st : List AV) (M : Mm) : run 120 12 [l0, l1, l2] (aI b :: aI a :: st) M = run 120 13 [l0, l1, l2] (aI (a - b) :: st) M := e_isub d120_12
theorem d120_13 : decode (cod 120) 13 = .ok (.goto 4, 3) := by decide +kernel
theorem r120_13 (l0 l1 l2 : AV) (st : List AV) (M : Mm) : run 120 13 [l0, l1, l2] st M = run 120 17 [l0, l1, l2] st M := e_goto 17 d120_13 (by decide)
theorem d120_16 : decode (cod 120) 16 = .ok (.iconst 0, 1) := by decide +kernel
theorem r120_16 (l0 l1 l2 : AV) (st : List AV) (M : Mm) : run 120 16 [l0, l1, l2] st M = run 120 17 [l0, l1, l2] (aI 0 :: st) M := e_iconst 0 d120_16 (by decide +kernel)
theorem d120_17 : decode (cod 120) 17 = .ok (.iadd, 1) := by decide +kernel
theorem r120_17 (l0 l1 l2 : AV) (a b : Int32) (st : List AV) (M : Mm) : run 120 17 [l0, l1, l2] (aI b :: aI a :: st) M = run 120 18 [l0, l1, l2] (aI (a + b) :: st) M := e_iadd d120_17
theorem d120_18 : decode (cod 120) 18 = .ok (.putfield 227, 3) := by decide +kernel
theorem r120_18 (l0 l1 l2 : AV) (v : Int32) (xg xi : Nat) (st : List AV) (M : Mm) : run 120 18 [l0, l1, l2] (aI v :: aR xg 12 xi :: st) M = run 120 21 [l0, l1, l2] st (wr M xg 12 xi 32 v) := e_pfi d120_18 rfl rfl rfl rfl
theorem d120_21 : decode (cod 120) 21 = .ok (.iload_n 1, 1) := by decide +kernel
theorem r120_21 (l0 l2 : AV) (x : Int32) (st : List AV) (M : Mm) : run 120 21 [l0, aI x, l2] st M = run 120 22 [l0, aI x, l2] (aI x :: st) M := e_ildn d120_21 rfl
theorem d120_22 : decode (cod 120) 22 = .ok (.iload_n 2, 1) := by decide +kernel
theorem r120_22 (l0 l1 : AV) (x : Int32) (st : List AV) (M : Mm) : run 120 22 [l0, l1, aI x] st M = run 120 23 [l0, l1, aI x] (aI x :: st) M := e_ildn d120_22 rfl
theorem d120_23 : decode (cod 120) 23 = .ok (.invokestatic 186, 3) := by decide +kernel
theorem r120_23 (l0 l1 l2 : AV) (a0 : Int32) (a1 : Int32) (M : Mm) : run 120 23 [l0, l1, l2] [aI a1, aI a0] M = cbI (call 109 [aI a0, aI a1] M) (fun v M => run 120 26 [l0, l1, l2] [aI v] M) := call_I (n := 2) rfl true d120_23 rfl rfl rfl rfl rfl rfl rfl
theorem d120_26 : decode (cod 120) 26 = .ok (.ireturn, 1) := by decide +kernel
theorem r120_26 (l0 l1 l2 : AV) (v : Int32) (M : Mm) : run 120 26 [l0, l1, l2] [aI v] M = some (some v, M) := e_iret d120_26 rfl
theorem c121 (g0 i0 : Nat) (x1 : Int32) (M : Mm) : call 121 [aR g0 12 i0, aI x1] M = run 121 0 [aR g0 12 i0, aI x1, none] [] M := call_run 121 _ _
theorem d121_0 : decode (cod 121) 0 = .ok (.aload_n 0, 1) := by decide +kernel
theorem r121_0 (l1 l2 : AV) (xg xi : Nat) (st : List AV) (M : Mm) : run 121 0 [aR xg 12 xi, l1, l2] st M = run 121 1 [aR xg 12 xi, l1, l2] (aR xg 12 xi :: st) M := e_aldn d121_0 rfl
theorem d121_1 : decode (cod 121) 1 = .ok (.getfield 34, 3) := by decide +kernel
theorem r121_1 (l0 l1 l2 : AV) (xg xi : Nat) (st : List AV) (M : Mm) : run 121 1 [l0, l1, l2] (aR xg 12 xi :: st) M = run 121 4 [l0, l1, l2] (aR 4 21 0 :: st) M := e_gfr (fun g => (4, 21, 0)) d121_1 rfl rfl rfl
theorem d121_4 : decode (cod 121) 4 = .ok (.iload_n 1, 1) := by decide +kernel
theorem r121_4 (l0 l2 : AV) (x : Int32) (st : List AV) (M : Mm) : run 121 4 [l0, aI x, l2] st M = run 121 5 [l0, aI x, l2] (aI x :: st) M := e_ildn d121_4 rfl
theorem d121_5 : decode (cod 121) 5 = .ok (.iaload, 1) := by decide +kernel
theorem r121_5 (l0 l1 l2 : AV) (i : Int32) (xg xi : Nat) (st : List AV) (M : Mm) : run 121 5 [l0, l1, l2] (aI i :: aR xg 21 xi :: st) M = if vpB i 3 = true then run 121 6 [l0, l1, l2] (aI (M xg 21 xi i.toNatClampNeg) :: st) M else none := e_ial d121_5 rfl rfl
theorem d121_6 : decode (cod 121) 6 = .ok (.istore_n 2, 1) := by decide +kernel
theorem r121_6 (l0 l1 l2 : AV) (x : Int32) (st : List AV) (M : Mm) : run 121 6 [l0, l1, l2] (aI x :: st) M = run 121 7 [l0, l1, aI x] st M := e_istn [l0, l1, aI x] d121_6 rfl rfl
theorem d121_7 : decode (cod 121) 7 = .ok (.aload_n 0, 1) := by decide +kernel
theorem r121_7 (l1 l2 : AV) (xg xi : Nat) (st : List AV) (M : Mm) : run 121 7 [aR xg 12 xi, l1, l2] st M = run 121 8 [aR xg 12 xi, l1, l2] (aR xg 12 xi :: st) M := e_aldn d121_7 rfl
theorem d121_8 : decode (cod 121) 8 = .ok (.getfield 37, 3) := by decide +kernel
theorem r121_8 (l0 l1 l2 : AV) (xg xi : Nat) (st : List AV) (M : Mm) : run 121 8 [l0, l1, l2] (aR xg 12 xi :: st) M = run 121 11 [l0, l1, l2] (aR 4 22 0 :: st) M := e_gfr (fun g => (4, 22, 0)) d121_8 rfl rfl rfl
theorem d121_11 : decode (cod 121) 11 = .ok (.iload_n 1, 1) := by decide +kernel
theorem r121_11 (l0 l2 : AV) (x : Int32) (st : List AV) (M : Mm) : run 121 11 [l0, aI x, l2] st M = run 121 12 [l0, aI x, l2] (aI x :: st) M := e_ildn d121_11 rfl
theorem d121_12 : decode (cod 121) 12 = .ok (.iaload, 1) := by decide +kernel
theorem r121_12 (l0 l1 l2 : AV) (i : Int32) (xg xi : Nat) (st : List AV) (M : Mm) : run 121 12 [l0, l1, l2] (aI i :: aR xg 22 xi :: st) M = if vpB i 3 = true then run 121 13 [l0, l1, l2] (aI (M xg 22 xi i.toNatClampNeg) :: st) M else none := e_ial d121_12 rfl rfl
theorem d121_13 : decode (cod 121) 13 = .ok (.iconst 1, 1) := by decide +kernel
theorem r121_13 (l0 l1 l2 : AV) (st : List AV) (M : Mm) : run 121 13 [l0, l1, l2] st M = run 121 14 [l0, l1, l2] (aI 1 :: st) M := e_iconst 1 d121_13 (by decide +kernel)
theorem d121_14 : decode (cod 121) 14 = .ok (.if_icmp .ne 36, 3) := by decide +kernel
theorem r121_14 (l0 l1 l2 : AV) (a b : Int32) (st : List AV) (M : Mm) : run 121 14 [l0, l1, l2] (aI b :: aI a :: st) M = if a = b then run 121 17 [l0, l1, l2] st M else run 121 50 [l0, l1, l2] st M := e_ne2 50 d121_14 (by decide)
theorem d121_17 : decode (cod 121) 17 = .ok (.aload_n 0, 1) := by decide +kernel
theorem r121_17 (l1 l2 : AV) (xg xi : Nat) (st : List AV) (M : Mm) : run 121 17 [aR xg 12 xi, l1, l2] st M = run 121 18 [aR xg 12 xi, l1, l2] (aR xg 12 xi :: st) M := e_aldn d121_17 rfl
theorem d121_18 : decode (cod 121) 18 = .ok (.getfield 22, 3) := by decide +kernel
theorem r121_18 (l0 l1 l2 : AV) (xg xi : Nat) (st : List AV) (M : Mm) : run 121 18 [l0, l1, l2] (aR xg 12 xi :: st) M = run 121 21 [l0, l1, l2] (aR 4 17 0 :: st) M := e_gfr (fun g => (4, 17, 0)) d121_18 rfl rfl rfl
theorem d121_21 : decode (cod 121) 21 = .ok (.iload_n 2, 1) := by decide +kernel
theorem r121_21 (l0 l1 : AV) (x : Int32) (st : List AV) (M : Mm) : run 121 21 [l0, l1, aI x] st M = run 121 22 [l0, l1, aI x] (aI x :: st) M := e_ildn d121_21 rfl
theorem d121_22 : decode (cod 121) 22 = .ok (.aload_n 0, 1) := by decide +kernel
theorem r121_22 (l1 l2 : AV) (xg xi : Nat) (st : List AV) (M : Mm) : run 121 22 [aR xg 12 xi, l1, l2] st M = run 121 23 [aR xg 12 xi, l1, l2] (aR xg 12 xi :: st) M := e_aldn d121_22 rfl
theorem d121_23 : decode (cod 121) 23 = .ok (.aload_n 0, 1) := by decide +kernel
theorem r121_23 (l1 l2 : AV) (xg xi : Nat) (st : List AV) (M : Mm) : run 121 23 [aR xg 12 xi, l1, l2] st M = run 121 24 [aR xg 12 xi, l1, l2] (aR xg 12 xi :: st) M := e_aldn d121_23 rfl
theorem d121_24 : decode (cod 121) 24 = .ok (.getfield 22, 3) := by decide +kernel
theorem r121_24 (l0 l1 l2 : AV) (xg xi : Nat) (st : List AV) (M : Mm) : run 121 24 [l0, l1, l2] (aR xg 12 xi :: st) M = run 121 27 [l0, l1, l2] (aR 4 17 0 :: st) M := e_gfr (fun g => (4, 17, 0)) d121_24 rfl rfl rfl
theorem d121_27 : decode (cod 121) 27 = .ok (.iload_n 2, 1) := by decide +kernel
theorem r121_27 (l0 l1 : AV) (x : Int32) (st : List AV) (M : Mm) : run 121 27 [l0, l1, aI x] st M = run 121 28 [l0, l1, aI x] (aI x :: st) M := e_ildn d121_27 rfl
theorem d121_28 : decode (cod 121) 28 = .ok (.iaload, 1) := by decide +kernel
theorem r121_28 (l0 l1 l2 : AV) (i : Int32) (xg xi : Nat) (st : List AV) (M : Mm) : run 121 28 [l0, l1, l2] (aI i :: aR xg 17 xi :: st) M = if vpB i 4 = true then run 121 29 [l0, l1, l2] (aI (M xg 17 xi i.toNatClampNeg) :: st) M else none := e_ial d121_28 rfl rfl
theorem d121_29 : decode (cod 121) 29 = .ok (.aload_n 0, 1) := by decide +kernel
theorem r121_29 (l1 l2 : AV) (xg xi : Nat) (st : List AV) (M : Mm) : run 121 29 [aR xg 12 xi, l1, l2] st M = run 121 30 [aR xg 12 xi, l1, l2] (aR xg 12 xi :: st) M := e_aldn d121_29 rfl
theorem d121_30 : decode (cod 121) 30 = .ok (.getfield 13, 3) := by decide +kernel
theorem r121_30 (l0 l1 l2 : AV) (xg xi : Nat) (st : List AV) (M : Mm) : run 121 30 [l0, l1, l2] (aR xg 12 xi :: st) M = run 121 33 [l0, l1, l2] (aR 4 14 0 :: st) M := e_gfr (fun g => (4, 14, 0)) d121_30 rfl rfl rfl
theorem d121_33 : decode (cod 121) 33 = .ok (.iconst 1, 1) := by decide +kernel
theorem r121_33 (l0 l1 l2 : AV) (st : List AV) (M : Mm) : run 121 33 [l0, l1, l2] st M = run 121 34 [l0, l1, l2] (aI 1 :: st) M := e_iconst 1 d121_33 (by decide +kernel)
theorem d121_34 : decode (cod 121) 34 = .ok (.iaload, 1) := by decide +kernel
theorem r121_34 (l0 l1 l2 : AV) (i : Int32) (xg xi : Nat) (st : List AV) (M : Mm) : run 121 34 [l0, l1, l2] (aI i :: aR xg 14 xi :: st) M = if vpB i 7 = true then run 121 35 [l0, l1, l2] (aI (M xg 14 xi i.toNatClampNeg) :: st) M else none := e_ial d121_34 rfl rfl
theorem d121_35 : decode (cod 121) 35 = .ok (.iadd, 1) := by decide +kernel
theorem r121_35 (l0 l1 l2 : AV) (a b : Int32) (st : List AV) (M : Mm) : run 121 35 [l0, l1, l2] (aI b :: aI a :: st) M = run 121 36 [l0, l1, l2] (aI (a + b) :: st) M := e_iadd d121_35
theorem d121_36 : decode (cod 121) 36 = .ok (.aload_n 0, 1) := by decide +kernel
theorem r121_36 (l1 l2 : AV) (xg xi : Nat) (st : List AV) (M : Mm) : run 121 36 [aR xg 12 xi, l1, l2] st M = run 121 37 [aR xg 12 xi, l1, l2] (aR xg 12 xi :: st) M := e_aldn d121_36 rfl
theorem d121_37 : decode (cod 121) 37 = .ok (.getfield 230, 3) := by decide +kernel
theorem r121_37 (l0 l1 l2 : AV) (xg xi : Nat) (st : List AV) (M : Mm) : run 121 37 [l0, l1, l2] (aR xg 12 xi :: st) M = run 121 40 [l0, l1, l2] (aI (M xg 12 xi 37) :: st) M := e_gfi d121_37 rfl rfl rfl
theorem d121_40 : decode (cod 121) 40 = .ok (.iadd, 1) := by decide +kernel
theorem r121_40 (l0 l1 l2 : AV) (a b : Int32) (st : List AV) (M : Mm) : run 121 40 [l0, l1, l2] (aI b :: aI a :: st) M = run 121 41 [l0, l1, l2] (aI (a + b) :: st) M := e_iadd d121_40
theorem d121_41 : decode (cod 121) 41 = .ok (.bipush 60, 2) := by decide +kernel
theorem r121_41 (l0 l1 l2 : AV) (st : List AV) (M : Mm) : run 121 41 [l0, l1, l2] st M = run 121 43 [l0, l1, l2] (aI 60 :: st) M := e_bipush 60 d121_41 (by decide +kernel)
theorem d121_43 : decode (cod 121) 43 = .ok (.invokevirtual 233, 3) := by decide +kernel
theorem r121_43 (l0 l1 l2 : AV) (a0g a0i : Nat) (a1 : Int32) (a2 : Int32) (t0 t1 : AV) (M : Mm) : run 121 43 [l0, l1, l2] [aI a2, aI a1, aR a0g 12 a0i, t0, t1] M = cbI (call 120 [aR a0g 12 a0i, aI a1, aI a2] M) (fun v M => run 121 46 [l0, l1, l2] [aI v, t0, t1] M) := call_I (n := 3) rfl false d121_43 rfl rfl rfl rfl rfl rfl rfl
theorem d121_46 : decode (cod 121) 46 = .ok (.iastore, 1) := by decide +kernel
theorem r121_46 (l0 l1 l2 : AV) (v i : Int32) (xg xi : Nat) (st : List AV) (M : Mm) : run 121 46 [l0, l1, l2] (aI v :: aI i :: aR xg 17 xi :: st) M = if vpB i 4 = true then run 121 47 [l0, l1, l2] st (wr M xg 17 xi i.toNatClampNeg v) else none := e_ias d121_46 rfl rfl
theorem d121_47 : decode (cod 121) 47 = .ok (.goto 29, 3) := by decide +kernel
theorem r121_47 (l0 l1 l2 : AV) (st : List AV) (M : Mm) : run 121 47 [l0, l1, l2] st M = run 121 76 [l0, l1, l2] st M := e_goto 76 d121_47 (by decide)
theorem d121_50 : decode (cod 121) 50 = .ok (.aload_n 0, 1) := by decide +kernel
theorem r121_50 (l1 l2 : AV) (xg xi : Nat) (st : List AV) (M : Mm) : run 121 50 [aR xg 12 xi, l1, l2] st M = run 121 51 [aR xg 12 xi, l1, l2] (aR xg 12 xi :: st) M := e_aldn d121_50 rfl
theorem d121_51 : decode (cod 121) 51 = .ok (.getfield 25, 3) := by decide +kernel
theorem r121_51 (l0 l1 l2 : AV) (xg xi : Nat) (st : List AV) (M : Mm) : run 121 51 [l0, l1, l2] (aR xg 12 xi :: st) M = run 121 54 [l0, l1, l2] (aR 4 18 0 :: st) M := e_gfr (fun g => (4, 18, 0)) d121_51 rfl rfl rfl
theorem d121_54 : decode (cod 121) 54 = .ok (.iload_n 2, 1) := by decide +kernel
theorem r121_54 (l0 l1 : AV) (x : Int32) (st : List AV) (M : Mm) : run 121 54 [l0, l1, aI x] st M = run 121 55 [l0, l1, aI x] (aI x :: st) M := e_ildn d121_54 rfl
theorem d121_55 : decode (cod 121) 55 = .ok (.aload_n 0, 1) := by decide +kernel
theorem r121_55 (l1 l2 : AV) (xg xi : Nat) (st : List AV) (M : Mm) : run 121 55 [aR xg 12 xi, l1, l2] st M = run 121 56 [aR xg 12 xi, l1, l2] (aR xg 12 xi :: st) M := e_aldn d121_55 rfl
theorem d121_56 : decode (cod 121) 56 = .ok (.aload_n 0, 1) := by decide +kernel
theorem r121_56 (l1 l2 : AV) (xg xi : Nat) (st : List AV) (M : Mm) : run 121 56 [aR xg 12 xi, l1, l2] st M = run 121 57 [aR xg 12 xi, l1, l2] (aR xg 12 xi :: st) M := e_aldn d121_56 rfl
theorem d121_57 : decode (cod 121) 57 = .ok (.getfield 25, 3) := by decide +kernel
theorem r121_57 (l0 l1 l2 : AV) (xg xi : Nat) (st : List AV) (M : Mm) : run 121 57 [l0, l1, l2] (aR xg 12 xi :: st) M = run 121 60 [l0, l1, l2] (aR 4 18 0 :: st) M := e_gfr (fun g => (4, 18, 0)) d121_57 rfl rfl rfl
theorem d121_60 : decode (cod 121) 60 = .ok (.iload_n 2, 1) := by decide +kernel
theorem r121_60 (l0 l1 : AV) (x : Int32) (st : List AV) (M : Mm) : run 121 60 [l0, l1, aI x] st M = run 121 61 [l0, l1, aI x] (aI x :: st) M := e_ildn d121_60 rfl
theorem d121_61 : decode (cod 121) 61 = .ok (.iaload, 1) := by decide +kernel
theorem r121_61 (l0 l1 l2 : AV) (i : Int32) (xg xi : Nat) (st : List AV) (M : Mm) : run 121 61 [l0, l1, l2] (aI i :: aR xg 18 xi :: st) M = if vpB i 4 = true then run 121 62 [l0, l1, l2] (aI (M xg 18 xi i.toNatClampNeg) :: st) M else none := e_ial d121_61 rfl rfl
theorem d121_62 : decode (cod 121) 62 = .ok (.aload_n 0, 1) := by decide +kernel
theorem r121_62 (l1 l2 : AV) (xg xi : Nat) (st : List AV) (M : Mm) : run 121 62 [aR xg 12 xi, l1, l2] st M = run 121 63 [aR xg 12 xi, l1, l2] (aR xg 12 xi :: st) M := e_aldn d121_62 rfl
theorem d121_63 : decode (cod 121) 63 = .ok (.getfield 13, 3) := by decide +kernel
theorem r121_63 (l0 l1 l2 : AV) (xg xi : Nat) (st : List AV) (M : Mm) : run 121 63 [l0, l1, l2] (aR xg 12 xi :: st) M = run 121 66 [l0, l1, l2] (aR 4 14 0 :: st) M := e_gfr (fun g => (4, 14, 0)) d121_63 rfl rfl rfl
theorem d121_66 : decode (cod 121) 66 = .ok (.iconst 1, 1) := by decide +kernel
theorem r121_66 (l0 l1 l2 : AV) (st : List AV) (M : Mm) : run 121 66 [l0, l1, l2] st M = run 121 67 [l0, l1, l2] (aI 1 :: st) M := e_iconst 1 d121_66 (by decide +kernel)
theorem d121_67 : decode (cod 121) 67 = .ok (.iaload, 1) := by decide +kernel
theorem r121_67 (l0 l1 l2 : AV) (i : Int32) (xg xi : Nat) (st : List AV) (M : Mm) : run 121 67 [l0, l1, l2] (aI i :: aR xg 14 xi :: st) M = if vpB i 7 = true then run 121 68 [l0, l1, l2] (aI (M xg 14 xi i.toNatClampNeg) :: st) M else none := e_ial d121_67 rfl rfl
theorem d121_68 : decode (cod 121) 68 = .ok (.iadd, 1) := by decide +kernel
theorem r121_68 (l0 l1 l2 : AV) (a b : Int32) (st : List AV) (M : Mm) : run 121 68 [l0, l1, l2] (aI b :: aI a :: st) M = run 121 69 [l0, l1, l2] (aI (a + b) :: st) M := e_iadd d121_68
theorem d121_69 : decode (cod 121) 69 = .ok (.sipush 240, 3) := by decide +kernel
theorem r121_69 (l0 l1 l2 : AV) (st : List AV) (M : Mm) : run 121 69 [l0, l1, l2] st M = run 121 72 [l0, l1, l2] (aI 240 :: st) M := e_sipush 240 d121_69 (by decide +kernel)
theorem d121_72 : decode (cod 121) 72 = .ok (.invokevirtual 233, 3) := by decide +kernel
theorem r121_72 (l0 l1 l2 : AV) (a0g a0i : Nat) (a1 : Int32) (a2 : Int32) (t0 t1 : AV) (M : Mm) : run 121 72 [l0, l1, l2] [aI a2, aI a1, aR a0g 12 a0i, t0, t1] M = cbI (call 120 [aR a0g 12 a0i, aI a1, aI a2] M) (fun v M => run 121 75 [l0, l1, l2] [aI v, t0, t1] M) := call_I (n := 3) rfl false d121_72 rfl rfl rfl rfl rfl rfl rfl
theorem d121_75 : decode (cod 121) 75 = .ok (.iastore, 1) := by decide +kernel
theorem r121_75 (l0 l1 l2 : AV) (v i : Int32) (xg xi : Nat) (st : List AV) (M : Mm) : run 121 75 [l0, l1, l2] (aI v :: aI i :: aR xg 18 xi :: st) M = if vpB i 4 = true then run 121 76 [l0, l1, l2] st (wr M xg 18 xi i.toNatClampNeg v) else none := e_ias d121_75 rfl rfl
theorem d121_76 : decode (cod 121) 76 = .ok (.aload_n 0, 1) := by decide +kernel
theorem r121_76 (l1 l2 : AV) (xg xi : Nat) (st : List AV) (M : Mm) : run 121 76 [aR xg 12 xi, l1, l2] st M = run 121 77 [aR xg 12 xi, l1, l2] (aR xg 12 xi :: st) M := e_aldn d121_76 rfl
theorem d121_77 : decode (cod 121) 77 = .ok (.iload_n 1, 1) := by decide +kernel
theorem r121_77 (l0 l2 : AV) (x : Int32) (st : List AV) (M : Mm) : run 121 77 [l0, aI x, l2] st M = run 121 78 [l0, aI x, l2] (aI x :: st) M := e_ildn d121_77 rfl
theorem d121_78 : decode (cod 121) 78 = .ok (.iconst 3, 1) := by decide +kernel
theorem r121_78 (l0 l1 l2 : AV) (st : List AV) (M : Mm) : run 121 78 [l0, l1, l2] st M = run 121 79 [l0, l1, l2] (aI 3 :: st) M := e_iconst 3 d121_78 (by decide +kernel)
theorem d121_79 : decode (cod 121) 79 = .ok (.aload_n 0, 1) := by decide +kernel
theorem r121_79 (l1 l2 : AV) (xg xi : Nat) (st : List AV) (M : Mm) : run 121 79 [aR xg 12 xi, l1, l2] st M = run 121 80 [aR xg 12 xi, l1, l2] (aR xg 12 xi :: st) M := e_aldn d121_79 rfl
theorem d121_80 : decode (cod 121) 80 = .ok (.getfield 13, 3) := by decide +kernel
theorem r121_80 (l0 l1 l2 : AV) (xg xi : Nat) (st : List AV) (M : Mm) : run 121 80 [l0, l1, l2] (aR xg 12 xi :: st) M = run 121 83 [l0, l1, l2] (aR 4 14 0 :: st) M := e_gfr (fun g => (4, 14, 0)) d121_80 rfl rfl rfl
theorem d121_83 : decode (cod 121) 83 = .ok (.iconst 2, 1) := by decide +kernel
theorem r121_83 (l0 l1 l2 : AV) (st : List AV) (M : Mm) : run 121 83 [l0, l1, l2] st M = run 121 84 [l0, l1, l2] (aI 2 :: st) M := e_iconst 2 d121_83 (by decide +kernel)
theorem d121_84 : decode (cod 121) 84 = .ok (.iaload, 1) := by decide +kernel
theorem r121_84 (l0 l1 l2 : AV) (i : Int32) (xg xi : Nat) (st : List AV) (M : Mm) : run 121 84 [l0, l1, l2] (aI i :: aR xg 14 xi :: st) M = if vpB i 7 = true then run 121 85 [l0, l1, l2] (aI (M xg 14 xi i.toNatClampNeg) :: st) M else none := e_ial d121_84 rfl rfl
theorem d121_85 : decode (cod 121) 85 = .ok (.invokevirtual 214, 3) := by decide +kernel
theorem r121_85 (l0 l1 l2 : AV) (a0g a0i : Nat) (a1 : Int32) (a2 : Int32) (a3 : Int32) (M : Mm) : run 121 85 [l0, l1, l2] [aI a3, aI a2, aI a1, aR a0g 12 a0i] M = cbV (call 117 [aR a0g 12 a0i, aI a1, aI a2, aI a3] M) (fun M => run 121 88 [l0, l1, l2] [] M) := call_V (n := 4) rfl false d121_85 rfl rfl rfl rfl rfl rfl rfl
theorem d121_88 : decode (cod 121) 88 = .ok (.return_, 1) := by decide +kernel
theorem r121_88 (l0 l1 l2 : AV) (M : Mm) : run 121 88 [l0, l1, l2] [] M = some (none, M) := e_vret d121_88 rfl
theorem c122 (g0 i0 : Nat) (x1 : Int32) (M : Mm) : call 122 [aR g0 12 i0, aI x1] M = run 122 0 [aR g0 12 i0, aI x1] [] M := call_run 122 _ _
theorem d122_0 : decode (cod 122) 0 = .ok (.aload_n 0, 1) := by decide +kernel
theorem r122_0 (l1 : AV) (xg xi : Nat) (st : List AV) (M : Mm) : run 122 0 [aR xg 12 xi, l1] st M = run 122 1 [aR xg 12 xi, l1] (aR xg 12 xi :: st) M := e_aldn d122_0 rfl
theorem d122_1 : decode (cod 122) 1 = .ok (.getfield 28, 3) := by decide +kernel
theorem r122_1 (l0 l1 : AV) (xg xi : Nat) (st : List AV) (M : Mm) : run 122 1 [l0, l1] (aR xg 12 xi :: st) M = run 122 4 [l0, l1] (aR 4 19 0 :: st) M := e_gfr (fun g => (4, 19, 0)) d122_1 rfl rfl rfl
theorem d122_4 : decode (cod 122) 4 = .ok (.iload_n 1, 1) := by decide +kernel
theorem r122_4 (l0 : AV) (x : Int32) (st : List AV) (M : Mm) : run 122 4 [l0, aI x] st M = run 122 5 [l0, aI x] (aI x :: st) M := e_ildn d122_4 rfl
theorem d122_5 : decode (cod 122) 5 = .ok (.iaload, 1) := by decide +kernel
theorem r122_5 (l0 l1 : AV) (i : Int32) (xg xi : Nat) (st : List AV) (M : Mm) : run 122 5 [l0, l1] (aI i :: aR xg 19 xi :: st) M = if vpB i 3 = true then run 122 6 [l0, l1] (aI (M xg 19 xi i.toNatClampNeg) :: st) M else none := e_ial d122_5 rfl rfl
theorem d122_6 : decode (cod 122) 6 = .ok (.iconst 1, 1) := by decide +kernel
theorem r122_6 (l0 l1 : AV) (st : List AV) (M : Mm) : run 122 6 [l0, l1] st M = run 122 7 [l0, l1] (aI 1 :: st) M := e_iconst 1 d122_6 (by decide +kernel)
theorem d122_7 : decode (cod 122) 7 = .ok (.if_icmp .ne 28, 3) := by decide +kernel
theorem r122_7 (l0 l1 : AV) (a b : Int32) (st : List AV) (M : Mm) : run 122 7 [l0, l1] (aI b :: aI a :: st) M = if a = b then run 122 10 [l0, l1] st M else run 122 35 [l0, l1] st M := e_ne2 35 d122_7 (by decide)
theorem d122_10 : decode (cod 122) 10 = .ok (.aload_n 0, 1) := by decide +kernel
theorem r122_10 (l1 : AV) (xg xi : Nat) (st : List AV) (M : Mm) : run 122 10 [aR xg 12 xi, l1] st M = run 122 11 [aR xg 12 xi, l1] (aR xg 12 xi :: st) M := e_aldn d122_10 rfl
theorem d122_11 : decode (cod 122) 11 = .ok (.getfield 13, 3) := by decide +kernel
theorem r122_11 (l0 l1 : AV) (xg xi : Nat) (st : List AV) (M : Mm) : run 122 11 [l0, l1] (aR xg 12 xi :: st) M = run 122 14 [l0, l1] (aR 4 14 0 :: st) M := e_gfr (fun g => (4, 14, 0)) d122_11 rfl rfl rfl
theorem d122_14 : decode (cod 122) 14 = .ok (.iconst 5, 1) := by decide +kernel
theorem r122_14 (l0 l1 : AV) (st : List AV) (M : Mm) : run 122 14 [l0, l1] st M = run 122 15 [l0, l1] (aI 5 :: st) M := e_iconst 5 d122_14 (by decide +kernel)
theorem d122_15 : decode (cod 122) 15 = .ok (.aload_n 0, 1) := by decide +kernel
theorem r122_15 (l1 : AV) (xg xi : Nat) (st : List AV) (M : Mm) : run 122 15 [aR xg 12 xi, l1] st M = run 122 16 [aR xg 12 xi, l1] (aR xg 12 xi :: st) M := e_aldn d122_15 rfl
theorem d122_16 : decode (cod 122) 16 = .ok (.getfield 13, 3) := by decide +kernel
theorem r122_16 (l0 l1 : AV) (xg xi : Nat) (st : List AV) (M : Mm) : run 122 16 [l0, l1] (aR xg 12 xi :: st) M = run 122 19 [l0, l1] (aR 4 14 0 :: st) M := e_gfr (fun g => (4, 14, 0)) d122_16 rfl rfl rfl
theorem d122_19 : decode (cod 122) 19 = .ok (.iconst 5, 1) := by decide +kernel
theorem r122_19 (l0 l1 : AV) (st : List AV) (M : Mm) : run 122 19 [l0, l1] st M = run 122 20 [l0, l1] (aI 5 :: st) M := e_iconst 5 d122_19 (by decide +kernel)
theorem d122_20 : decode (cod 122) 20 = .ok (.iaload, 1) := by decide +kernel
theorem r122_20 (l0 l1 : AV) (i : Int32) (xg xi : Nat) (st : List AV) (M : Mm) : run 122 20 [l0, l1] (aI i :: aR xg 14 xi :: st) M = if vpB i 7 = true then run 122 21 [l0, l1] (aI (M xg 14 xi i.toNatClampNeg) :: st) M else none := e_ial d122_20 rfl rfl
theorem d122_21 : decode (cod 122) 21 = .ok (.aload_n 0, 1) := by decide +kernel
theorem r122_21 (l1 : AV) (xg xi : Nat) (st : List AV) (M : Mm) : run 122 21 [aR xg 12 xi, l1] st M = run 122 22 [aR xg 12 xi, l1] (aR xg 12 xi :: st) M := e_aldn d122_21 rfl
theorem d122_22 : decode (cod 122) 22 = .ok (.getfield 13, 3) := by decide +kernel
theorem r122_22 (l0 l1 : AV) (xg xi : Nat) (st : List AV) (M : Mm) : run 122 22 [l0, l1] (aR xg 12 xi :: st) M = run 122 25 [l0, l1] (aR 4 14 0 :: st) M := e_gfr (fun g => (4, 14, 0)) d122_22 rfl rfl rfl
theorem d122_25 : decode (cod 122) 25 = .ok (.iconst 4, 1) := by decide +kernel
theorem r122_25 (l0 l1 : AV) (st : List AV) (M : Mm) : run 122 25 [l0, l1] st M = run 122 26 [l0, l1] (aI 4 :: st) M := e_iconst 4 d122_25 (by decide +kernel)
theorem d122_26 : decode (cod 122) 26 = .ok (.iaload, 1) := by decide +kernel
theorem r122_26 (l0 l1 : AV) (i : Int32) (xg xi : Nat) (st : List AV) (M : Mm) : run 122 26 [l0, l1] (aI i :: aR xg 14 xi :: st) M = if vpB i 7 = true then run 122 27 [l0, l1] (aI (M xg 14 xi i.toNatClampNeg) :: st) M else none := e_ial d122_26 rfl rfl
theorem d122_27 : decode (cod 122) 27 = .ok (.iadd, 1) := by decide +kernel
theorem r122_27 (l0 l1 : AV) (a b : Int32) (st : List AV) (M : Mm) : run 122 27 [l0, l1] (aI b :: aI a :: st) M = run 122 28 [l0, l1] (aI (a + b) :: st) M := e_iadd d122_27
theorem d122_28 : decode (cod 122) 28 = .ok (.sipush 240, 3) := by decide +kernel
theorem r122_28 (l0 l1 : AV) (st : List AV) (M : Mm) : run 122 28 [l0, l1] st M = run 122 31 [l0, l1] (aI 240 :: st) M := e_sipush 240 d122_28 (by decide +kernel)
theorem d122_31 : decode (cod 122) 31 = .ok (.invokestatic 186, 3) := by decide +kernel
theorem r122_31 (l0 l1 : AV) (a0 : Int32) (a1 : Int32) (t0 t1 : AV) (M : Mm) : run 122 31 [l0, l1] [aI a1, aI a0, t0, t1] M = cbI (call 109 [aI a0, aI a1] M) (fun v M => run 122 34 [l0, l1] [aI v, t0, t1] M) := call_I (n := 2) rfl true d122_31 rfl rfl rfl rfl rfl rfl rfl
theorem d122_34 : decode (cod 122) 34 = .ok (.iastore, 1) := by decide +kernel
theorem r122_34 (l0 l1 : AV) (v i : Int32) (xg xi : Nat) (st : List AV) (M : Mm) : run 122 34 [l0, l1] (aI v :: aI i :: aR xg 14 xi :: st) M = if vpB i 7 = true then run 122 35 [l0, l1] st (wr M xg 14 xi i.toNatClampNeg v) else none := e_ias d122_34 rfl rfl
theorem d122_35 : decode (cod 122) 35 = .ok (.aload_n 0, 1) := by decide +kernel
theorem r122_35 (l1 : AV) (xg xi : Nat) (st : List AV) (M : Mm) : run 122 35 [aR xg 12 xi, l1] st M = run 122 36 [aR xg 12 xi, l1] (aR xg 12 xi :: st) M := e_aldn d122_35 rfl
theorem d122_36 : decode (cod 122) 36 = .ok (.getfield 28, 3) := by decide +kernel
theorem r122_36 (l0 l1 : AV) (xg xi : Nat) (st : List AV) (M : Mm) : run 122 36 [l0, l1] (aR xg 12 xi :: st) M = run 122 39 [l0, l1] (aR 4 19 0 :: st) M := e_gfr (fun g => (4, 19, 0)) d122_36 rfl rfl rfl
theorem d122_39 : decode (cod 122) 39 = .ok (.iload_n 1, 1) := by decide +kernel
theorem r122_39 (l0 : AV) (x : Int32) (st : List AV) (M : Mm) : run 122 39 [l0, aI x] st M = run 122 40 [l0, aI x] (aI x :: st) M := e_ildn d122_39 rfl
theorem d122_40 : decode (cod 122) 40 = .ok (.iaload, 1) := by decide +kernel
theorem r122_40 (l0 l1 : AV) (i : Int32) (xg xi : Nat) (st : List AV) (M : Mm) : run 122 40 [l0, l1] (aI i :: aR xg 19 xi :: st) M = if vpB i 3 = true then run 122 41 [l0, l1] (aI (M xg 19 xi i.toNatClampNeg) :: st) M else none := e_ial d122_40 rfl rfl
theorem d122_41 : decode (cod 122) 41 = .ok (.iconst 2, 1) := by decide +kernel
theorem r122_41 (l0 l1 : AV) (st : List AV) (M : Mm) : run 122 41 [l0, l1] st M = run 122 42 [l0, l1] (aI 2 :: st) M := e_iconst 2 d122_41 (by decide +kernel)
theorem d122_42 : decode (cod 122) 42 = .ok (.if_icmp .ne 11, 3) := by decide +kernel
theorem r122_42 (l0 l1 : AV) (a b : Int32) (st : List AV) (M : Mm) : run 122 42 [l0, l1] (aI b :: aI a :: st) M = if a = b then run 122 45 [l0, l1] st M else run 122 53 [l0, l1] st M := e_ne2 53 d122_42 (by decide)
theorem d122_45 : decode (cod 122) 45 = .ok (.aload_n 0, 1) := by decide +kernel
theorem r122_45 (l1 : AV) (xg xi : Nat) (st : List AV) (M : Mm) : run 122 45 [aR xg 12 xi, l1] st M = run 122 46 [aR xg 12 xi, l1] (aR xg 12 xi :: st) M := e_aldn d122_45 rfl
theorem d122_46 : decode (cod 122) 46 = .ok (.iload_n 1, 1) := by decide +kernel
theorem r122_46 (l0 : AV) (x : Int32) (st : List AV) (M : Mm) : run 122 46 [l0, aI x] st M = run 122 47 [l0, aI x] (aI x :: st) M := e_ildn d122_46 rfl
theorem d122_47 : decode (cod 122) 47 = .ok (.invokevirtual 236, 3) := by decide +kernel
theorem r122_47 (l0 l1 : AV) (a0g a0i : Nat) (a1 : Int32) (M : Mm) : run 122 47 [l0, l1] [aI a1, aR a0g 12 a0i] M = cbV (call 121 [aR a0g 12 a0i, aI a1] M) (fun M => run 122 50 [l0, l1] [] M) := call_V (n := 2) rfl false d122_47 rfl rfl rfl rfl rfl rfl rfl
theorem d122_50 : decode (cod 122) 50 = .ok (.goto 10, 3) := by decide +kernel
theorem r122_50 (l0 l1 : AV) (st : List AV) (M : Mm) : run 122 50 [l0, l1] st M = run 122 60 [l0, l1] st M := e_goto 60 d122_50 (by decide)
theorem d122_53 : decode (cod 122) 53 = .ok (.aload_n 0, 1) := by decide +kernel
theorem r122_53 (l1 : AV) (xg xi : Nat) (st : List AV) (M : Mm) : run 122 53 [aR xg 12 xi, l1] st M = run 122 54 [aR xg 12 xi, l1] (aR xg 12 xi :: st) M := e_aldn d122_53 rfl
theorem d122_54 : decode (cod 122) 54 = .ok (.getfield 28, 3) := by decide +kernel
theorem r122_54 (l0 l1 : AV) (xg xi : Nat) (st : List AV) (M : Mm) : run 122 54 [l0, l1] (aR xg 12 xi :: st) M = run 122 57 [l0, l1] (aR 4 19 0 :: st) M := e_gfr (fun g => (4, 19, 0)) d122_54 rfl rfl rfl
theorem d122_57 : decode (cod 122) 57 = .ok (.iload_n 1, 1) := by decide +kernel
theorem r122_57 (l0 : AV) (x : Int32) (st : List AV) (M : Mm) : run 122 57 [l0, aI x] st M = run 122 58 [l0, aI x] (aI x :: st) M := e_ildn d122_57 rfl
theorem d122_58 : decode (cod 122) 58 = .ok (.iconst 0, 1) := by decide +kernel
theorem r122_58 (l0 l1 : AV) (st : List AV) (M : Mm) : run 122 58 [l0, l1] st M = run 122 59 [l0, l1] (aI 0 :: st) M := e_iconst 0 d122_58 (by decide +kernel)
theorem d122_59 : decode (cod 122) 59 = .ok (.iastore, 1) := by decide +kernel
theorem r122_59 (l0 l1 : AV) (v i : Int32) (xg xi : Nat) (st : List AV) (M : Mm) : run 122 59 [l0, l1] (aI v :: aI i :: aR xg 19 xi :: st) M = if vpB i 3 = true then run 122 60 [l0, l1] st (wr M xg 19 xi i.toNatClampNeg v) else none := e_ias d122_59 rfl rfl
theorem d122_60 : decode (cod 122) 60 = .ok (.return_, 1) := by decide +kernel
theorem r122_60 (l0 l1 : AV) (M : Mm) : run 122 60 [l0, l1] [] M = some (none, M) := e_vret d122_60 rfl
