theorem c59 (g0 i0 : Nat) (M : Mm) : call 59 [aR g0 7 i0] M = run 59 0 [aR g0 7 i0, none, none] [] M := call_run 59 _ _
theorem d59_0 : decode (cod 59) 0 = .ok (.aload_n 0, 1) := by decide +kernel
theorem r59_0 (l1 l2 : AV) (xg xi : Nat) (st : List AV) (M : Mm) : run 59 0 [aR xg 7 xi, l1, l2] st M = run 59 1 [aR xg 7 xi, l1, l2] (aR xg 7 xi :: st) M := e_aldn d59_0 rfl
theorem d59_1 : decode (cod 59) 1 = .ok (.getfield 37, 3) := by decide +kernel
theorem r59_1 (l0 l1 l2 : AV) (xg xi : Nat) (st : List AV) (M : Mm) : run 59 1 [l0, l1, l2] (aR xg 7 xi :: st) M = run 59 4 [l0, l1, l2] (aI (M xg 7 xi 6) :: st) M := e_gfi d59_1 rfl rfl rfl
theorem d59_4 : decode (cod 59) 4 = .ok (.iconst 2, 1) := by decide +kernel
theorem r59_4 (l0 l1 l2 : AV) (st : List AV) (M : Mm) : run 59 4 [l0, l1, l2] st M = run 59 5 [l0, l1, l2] (aI 2 :: st) M := e_iconst 2 d59_4 (by decide +kernel)
theorem d59_5 : decode (cod 59) 5 = .ok (.irem, 1) := by decide +kernel
theorem r59_5 (l0 l1 l2 : AV) (a b : Int32) (st : List AV) (M : Mm) : run 59 5 [l0, l1, l2] (aI b :: aI a :: st) M = if b = 0 then none else run 59 6 [l0, l1, l2] (aI (a - a / b * b) :: st) M := e_irem d59_5
theorem d59_6 : decode (cod 59) 6 = .ok (.ifCond .eq 10, 3) := by decide +kernel
theorem r59_6 (l0 l1 l2 : AV) (a : Int32) (st : List AV) (M : Mm) : run 59 6 [l0, l1, l2] (aI a :: st) M = if a = 0 then run 59 16 [l0, l1, l2] st M else run 59 9 [l0, l1, l2] st M := e_eq1 16 d59_6 (by decide)
theorem d59_9 : decode (cod 59) 9 = .ok (.aload_n 0, 1) := by decide +kernel
theorem r59_9 (l1 l2 : AV) (xg xi : Nat) (st : List AV) (M : Mm) : run 59 9 [aR xg 7 xi, l1, l2] st M = run 59 10 [aR xg 7 xi, l1, l2] (aR xg 7 xi :: st) M := e_aldn d59_9 rfl
theorem d59_10 : decode (cod 59) 10 = .ok (.bipush (-3), 2) := by decide +kernel
theorem r59_10 (l0 l1 l2 : AV) (st : List AV) (M : Mm) : run 59 10 [l0, l1, l2] st M = run 59 12 [l0, l1, l2] (aI (-3) :: st) M := e_bipush (-3) d59_10 (by decide +kernel)
theorem d59_12 : decode (cod 59) 12 = .ok (.invokevirtual 44, 3) := by decide +kernel
theorem r59_12 (l0 l1 l2 : AV) (a0g a0i : Nat) (a1 : Int32) (M : Mm) : run 59 12 [l0, l1, l2] [aI a1, aR a0g 7 a0i] M = cbI (call 66 [aR a0g 7 a0i, aI a1] M) (fun v M => run 59 15 [l0, l1, l2] [aI v] M) := call_I (n := 2) rfl false d59_12 rfl rfl rfl rfl rfl rfl rfl
theorem d59_15 : decode (cod 59) 15 = .ok (.ireturn, 1) := by decide +kernel
theorem r59_15 (l0 l1 l2 : AV) (v : Int32) (M : Mm) : run 59 15 [l0, l1, l2] [aI v] M = some (some v, M) := e_iret d59_15 rfl
theorem d59_16 : decode (cod 59) 16 = .ok (.iconst 0, 1) := by decide +kernel
theorem r59_16 (l0 l1 l2 : AV) (st : List AV) (M : Mm) : run 59 16 [l0, l1, l2] st M = run 59 17 [l0, l1, l2] (aI 0 :: st) M := e_iconst 0 d59_16 (by decide +kernel)
theorem d59_17 : decode (cod 59) 17 = .ok (.istore_n 1, 1) := by decide +kernel
theorem r59_17 (l0 l1 l2 : AV) (x : Int32) (st : List AV) (M : Mm) : run 59 17 [l0, l1, l2] (aI x :: st) M = run 59 18 [l0, aI x, l2] st M := e_istn [l0, aI x, l2] d59_17 rfl rfl
theorem d59_18 : decode (cod 59) 18 = .ok (.iconst 0, 1) := by decide +kernel
theorem r59_18 (l0 l1 l2 : AV) (st : List AV) (M : Mm) : run 59 18 [l0, l1, l2] st M = run 59 19 [l0, l1, l2] (aI 0 :: st) M := e_iconst 0 d59_18 (by decide +kernel)
theorem d59_19 : decode (cod 59) 19 = .ok (.istore_n 2, 1) := by decide +kernel
theorem r59_19 (l0 l1 l2 : AV) (x : Int32) (st : List AV) (M : Mm) : run 59 19 [l0, l1, l2] (aI x :: st) M = run 59 20 [l0, l1, aI x] st M := e_istn [l0, l1, aI x] d59_19 rfl rfl
theorem d59_20 : decode (cod 59) 20 = .ok (.iload_n 2, 1) := by decide +kernel
theorem r59_20 (l0 l1 : AV) (x : Int32) (st : List AV) (M : Mm) : run 59 20 [l0, l1, aI x] st M = run 59 21 [l0, l1, aI x] (aI x :: st) M := e_ildn d59_20 rfl
theorem d59_21 : decode (cod 59) 21 = .ok (.bipush 6, 2) := by decide +kernel
theorem r59_21 (l0 l1 l2 : AV) (st : List AV) (M : Mm) : run 59 21 [l0, l1, l2] st M = run 59 23 [l0, l1, l2] (aI 6 :: st) M := e_bipush 6 d59_21 (by decide +kernel)
theorem d59_23 : decode (cod 59) 23 = .ok (.if_icmp .ge 26, 3) := by decide +kernel
theorem r59_23 (l0 l1 l2 : AV) (a b : Int32) (st : List AV) (M : Mm) : run 59 23 [l0, l1, l2] (aI b :: aI a :: st) M = if a < b then run 59 26 [l0, l1, l2] st M else run 59 49 [l0, l1, l2] st M := e_ge2 49 d59_23 (by decide)
theorem d59_26 : decode (cod 59) 26 = .ok (.aload_n 0, 1) := by decide +kernel
theorem r59_26 (l1 l2 : AV) (xg xi : Nat) (st : List AV) (M : Mm) : run 59 26 [aR xg 7 xi, l1, l2] st M = run 59 27 [aR xg 7 xi, l1, l2] (aR xg 7 xi :: st) M := e_aldn d59_26 rfl
theorem d59_27 : decode (cod 59) 27 = .ok (.iload_n 2, 1) := by decide +kernel
theorem r59_27 (l0 l1 : AV) (x : Int32) (st : List AV) (M : Mm) : run 59 27 [l0, l1, aI x] st M = run 59 28 [l0, l1, aI x] (aI x :: st) M := e_ildn d59_27 rfl
theorem d59_28 : decode (cod 59) 28 = .ok (.invokestatic 222, 3) := by decide +kernel
theorem r59_28 (l0 l1 l2 : AV) (a0 : Int32) (t0 : AV) (M : Mm) : run 59 28 [l0, l1, l2] [aI a0, t0] M = cbI (call 78 [aI a0] M) (fun v M => run 59 31 [l0, l1, l2] [aI v, t0] M) := call_I (n := 1) rfl true d59_28 rfl rfl rfl rfl rfl rfl rfl
theorem d59_31 : decode (cod 59) 31 = .ok (.invokevirtual 225, 3) := by decide +kernel
theorem r59_31 (l0 l1 l2 : AV) (a0g a0i : Nat) (a1 : Int32) (M : Mm) : run 59 31 [l0, l1, l2] [aI a1, aR a0g 7 a0i] M = cbI (call 75 [aR a0g 7 a0i, aI a1] M) (fun v M => run 59 34 [l0, l1, l2] [aI v] M) := call_I (n := 2) rfl false d59_31 rfl rfl rfl rfl rfl rfl rfl
theorem d59_34 : decode (cod 59) 34 = .ok (.ifCond .eq 9, 3) := by decide +kernel
theorem r59_34 (l0 l1 l2 : AV) (a : Int32) (st : List AV) (M : Mm) : run 59 34 [l0, l1, l2] (aI a :: st) M = if a = 0 then run 59 43 [l0, l1, l2] st M else run 59 37 [l0, l1, l2] st M := e_eq1 43 d59_34 (by decide)
theorem d59_37 : decode (cod 59) 37 = .ok (.iload_n 1, 1) := by decide +kernel
theorem r59_37 (l0 l2 : AV) (x : Int32) (st : List AV) (M : Mm) : run 59 37 [l0, aI x, l2] st M = run 59 38 [l0, aI x, l2] (aI x :: st) M := e_ildn d59_37 rfl
theorem d59_38 : decode (cod 59) 38 = .ok (.iconst 1, 1) := by decide +kernel
theorem r59_38 (l0 l1 l2 : AV) (st : List AV) (M : Mm) : run 59 38 [l0, l1, l2] st M = run 59 39 [l0, l1, l2] (aI 1 :: st) M := e_iconst 1 d59_38 (by decide +kernel)
theorem d59_39 : decode (cod 59) 39 = .ok (.iload_n 2, 1) := by decide +kernel
theorem r59_39 (l0 l1 : AV) (x : Int32) (st : List AV) (M : Mm) : run 59 39 [l0, l1, aI x] st M = run 59 40 [l0, l1, aI x] (aI x :: st) M := e_ildn d59_39 rfl
theorem d59_40 : decode (cod 59) 40 = .ok (.ishl, 1) := by decide +kernel
theorem r59_40 (l0 l1 l2 : AV) (a b : Int32) (st : List AV) (M : Mm) : run 59 40 [l0, l1, l2] (aI b :: aI a :: st) M = run 59 41 [l0, l1, l2] (aI (a <<< (b &&& 31)) :: st) M := e_ishl d59_40
theorem d59_41 : decode (cod 59) 41 = .ok (.ior, 1) := by decide +kernel
theorem r59_41 (l0 l1 l2 : AV) (a b : Int32) (st : List AV) (M : Mm) : run 59 41 [l0, l1, l2] (aI b :: aI a :: st) M = run 59 42 [l0, l1, l2] (aI (a ||| b) :: st) M := e_ior d59_41
theorem d59_42 : decode (cod 59) 42 = .ok (.istore_n 1, 1) := by decide +kernel
theorem r59_42 (l0 l1 l2 : AV) (x : Int32) (st : List AV) (M : Mm) : run 59 42 [l0, l1, l2] (aI x :: st) M = run 59 43 [l0, aI x, l2] st M := e_istn [l0, aI x, l2] d59_42 rfl rfl
theorem d59_43 : decode (cod 59) 43 = .ok (.iinc 2 1, 3) := by decide +kernel
theorem r59_43 (l0 l1 : AV) (x : Int32) (st : List AV) (M : Mm) : run 59 43 [l0, l1, aI x] st M = run 59 46 [l0, l1, aI (x + 1)] st M := e_iinc 1 [l0, l1, aI (x + 1)] d59_43 (by decide +kernel) rfl rfl
theorem d59_46 : decode (cod 59) 46 = .ok (.goto (-26), 3) := by decide +kernel
theorem r59_46 (l0 l1 l2 : AV) (st : List AV) (M : Mm) : run 59 46 [l0, l1, l2] st M = run 59 20 [l0, l1, l2] st M := e_goto 20 d59_46 (by decide)
theorem d59_49 : decode (cod 59) 49 = .ok (.iload_n 1, 1) := by decide +kernel
theorem r59_49 (l0 l2 : AV) (x : Int32) (st : List AV) (M : Mm) : run 59 49 [l0, aI x, l2] st M = run 59 50 [l0, aI x, l2] (aI x :: st) M := e_ildn d59_49 rfl
theorem d59_50 : decode (cod 59) 50 = .ok (.ireturn, 1) := by decide +kernel
theorem r59_50 (l0 l1 l2 : AV) (v : Int32) (M : Mm) : run 59 50 [l0, l1, l2] [aI v] M = some (some v, M) := e_iret d59_50 rfl
theorem c60 (g0 i0 : Nat) (x1 : Int32) (M : Mm) : call 60 [aR g0 7 i0, aI x1] M = run 60 0 [aR g0 7 i0, aI x1] [] M := call_run 60 _ _
theorem d60_0 : decode (cod 60) 0 = .ok (.iload_n 1, 1) := by decide +kernel
theorem r60_0 (l0 : AV) (x : Int32) (st : List AV) (M : Mm) : run 60 0 [l0, aI x] st M = run 60 1 [l0, aI x] (aI x :: st) M := e_ildn d60_0 rfl
theorem d60_1 : decode (cod 60) 1 = .ok (.ifCond .ge 10, 3) := by decide +kernel
theorem r60_1 (l0 l1 : AV) (a : Int32) (st : List AV) (M : Mm) : run 60 1 [l0, l1] (aI a :: st) M = if a < 0 then run 60 4 [l0, l1] st M else run 60 11 [l0, l1] st M := e_ge1 11 d60_1 (by decide)
theorem d60_4 : decode (cod 60) 4 = .ok (.aload_n 0, 1) := by decide +kernel
theorem r60_4 (l1 : AV) (xg xi : Nat) (st : List AV) (M : Mm) : run 60 4 [aR xg 7 xi, l1] st M = run 60 5 [aR xg 7 xi, l1] (aR xg 7 xi :: st) M := e_aldn d60_4 rfl
theorem d60_5 : decode (cod 60) 5 = .ok (.bipush (-4), 2) := by decide +kernel
theorem r60_5 (l0 l1 : AV) (st : List AV) (M : Mm) : run 60 5 [l0, l1] st M = run 60 7 [l0, l1] (aI (-4) :: st) M := e_bipush (-4) d60_5 (by decide +kernel)
theorem d60_7 : decode (cod 60) 7 = .ok (.invokevirtual 44, 3) := by decide +kernel
theorem r60_7 (l0 l1 : AV) (a0g a0i : Nat) (a1 : Int32) (M : Mm) : run 60 7 [l0, l1] [aI a1, aR a0g 7 a0i] M = cbI (call 66 [aR a0g 7 a0i, aI a1] M) (fun v M => run 60 10 [l0, l1] [aI v] M) := call_I (n := 2) rfl false d60_7 rfl rfl rfl rfl rfl rfl rfl
theorem d60_10 : decode (cod 60) 10 = .ok (.ireturn, 1) := by decide +kernel
theorem r60_10 (l0 l1 : AV) (v : Int32) (M : Mm) : run 60 10 [l0, l1] [aI v] M = some (some v, M) := e_iret d60_10 rfl
theorem d60_11 : decode (cod 60) 11 = .ok (.iload_n 1, 1) := by decide +kernel
theorem r60_11 (l0 : AV) (x : Int32) (st : List AV) (M : Mm) : run 60 11 [l0, aI x] st M = run 60 12 [l0, aI x] (aI x :: st) M := e_ildn d60_11 rfl
theorem d60_12 : decode (cod 60) 12 = .ok (.bipush 99, 2) := by decide +kernel
theorem r60_12 (l0 l1 : AV) (st : List AV) (M : Mm) : run 60 12 [l0, l1] st M = run 60 14 [l0, l1] (aI 99 :: st) M := e_bipush 99 d60_12 (by decide +kernel)
theorem d60_14 : decode (cod 60) 14 = .ok (.if_icmp .gt 12, 3) := by decide +kernel
theorem r60_14 (l0 l1 : AV) (a b : Int32) (st : List AV) (M : Mm) : run 60 14 [l0, l1] (aI b :: aI a :: st) M = if b < a then run 60 26 [l0, l1] st M else run 60 17 [l0, l1] st M := e_gt2 26 d60_14 (by decide)
theorem d60_17 : decode (cod 60) 17 = .ok (.aload_n 0, 1) := by decide +kernel
theorem r60_17 (l1 : AV) (xg xi : Nat) (st : List AV) (M : Mm) : run 60 17 [aR xg 7 xi, l1] st M = run 60 18 [aR xg 7 xi, l1] (aR xg 7 xi :: st) M := e_aldn d60_17 rfl
theorem d60_18 : decode (cod 60) 18 = .ok (.getfield 37, 3) := by decide +kernel
theorem r60_18 (l0 l1 : AV) (xg xi : Nat) (st : List AV) (M : Mm) : run 60 18 [l0, l1] (aR xg 7 xi :: st) M = run 60 21 [l0, l1] (aI (M xg 7 xi 6) :: st) M := e_gfi d60_18 rfl rfl rfl
theorem d60_21 : decode (cod 60) 21 = .ok (.bipush 20, 2) := by decide +kernel
theorem r60_21 (l0 l1 : AV) (st : List AV) (M : Mm) : run 60 21 [l0, l1] st M = run 60 23 [l0, l1] (aI 20 :: st) M := e_bipush 20 d60_21 (by decide +kernel)
theorem d60_23 : decode (cod 60) 23 = .ok (.if_icmp .lt 10, 3) := by decide +kernel
theorem r60_23 (l0 l1 : AV) (a b : Int32) (st : List AV) (M : Mm) : run 60 23 [l0, l1] (aI b :: aI a :: st) M = if a < b then run 60 33 [l0, l1] st M else run 60 26 [l0, l1] st M := e_lt2 33 d60_23 (by decide)
theorem d60_26 : decode (cod 60) 26 = .ok (.aload_n 0, 1) := by decide +kernel
theorem r60_26 (l1 : AV) (xg xi : Nat) (st : List AV) (M : Mm) : run 60 26 [aR xg 7 xi, l1] st M = run 60 27 [aR xg 7 xi, l1] (aR xg 7 xi :: st) M := e_aldn d60_26 rfl
theorem d60_27 : decode (cod 60) 27 = .ok (.bipush (-6), 2) := by decide +kernel
theorem r60_27 (l0 l1 : AV) (st : List AV) (M : Mm) : run 60 27 [l0, l1] st M = run 60 29 [l0, l1] (aI (-6) :: st) M := e_bipush (-6) d60_27 (by decide +kernel)
theorem d60_29 : decode (cod 60) 29 = .ok (.invokevirtual 44, 3) := by decide +kernel
theorem r60_29 (l0 l1 : AV) (a0g a0i : Nat) (a1 : Int32) (M : Mm) : run 60 29 [l0, l1] [aI a1, aR a0g 7 a0i] M = cbI (call 66 [aR a0g 7 a0i, aI a1] M) (fun v M => run 60 32 [l0, l1] [aI v] M) := call_I (n := 2) rfl false d60_29 rfl rfl rfl rfl rfl rfl rfl
theorem d60_32 : decode (cod 60) 32 = .ok (.ireturn, 1) := by decide +kernel
theorem r60_32 (l0 l1 : AV) (v : Int32) (M : Mm) : run 60 32 [l0, l1] [aI v] M = some (some v, M) := e_iret d60_32 rfl
theorem d60_33 : decode (cod 60) 33 = .ok (.aload_n 0, 1) := by decide +kernel
theorem r60_33 (l1 : AV) (xg xi : Nat) (st : List AV) (M : Mm) : run 60 33 [aR xg 7 xi, l1] st M = run 60 34 [aR xg 7 xi, l1] (aR xg 7 xi :: st) M := e_aldn d60_33 rfl
theorem d60_34 : decode (cod 60) 34 = .ok (.getfield 33, 3) := by decide +kernel
theorem r60_34 (l0 l1 : AV) (xg xi : Nat) (st : List AV) (M : Mm) : run 60 34 [l0, l1] (aR xg 7 xi :: st) M = run 60 37 [l0, l1] (aR 0 10 0 :: st) M := e_gfr (fun g => (0, 10, 0)) d60_34 rfl rfl rfl
theorem d60_37 : decode (cod 60) 37 = .ok (.aload_n 0, 1) := by decide +kernel
theorem r60_37 (l1 : AV) (xg xi : Nat) (st : List AV) (M : Mm) : run 60 37 [aR xg 7 xi, l1] st M = run 60 38 [aR xg 7 xi, l1] (aR xg 7 xi :: st) M := e_aldn d60_37 rfl
theorem d60_38 : decode (cod 60) 38 = .ok (.getfield 37, 3) := by decide +kernel
theorem r60_38 (l0 l1 : AV) (xg xi : Nat) (st : List AV) (M : Mm) : run 60 38 [l0, l1] (aR xg 7 xi :: st) M = run 60 41 [l0, l1] (aI (M xg 7 xi 6) :: st) M := e_gfi d60_38 rfl rfl rfl
theorem d60_41 : decode (cod 60) 41 = .ok (.iload_n 1, 1) := by decide +kernel
theorem r60_41 (l0 : AV) (x : Int32) (st : List AV) (M : Mm) : run 60 41 [l0, aI x] st M = run 60 42 [l0, aI x] (aI x :: st) M := e_ildn d60_41 rfl
theorem d60_42 : decode (cod 60) 42 = .ok (.iastore, 1) := by decide +kernel
theorem r60_42 (l0 l1 : AV) (v i : Int32) (xg xi : Nat) (st : List AV) (M : Mm) : run 60 42 [l0, l1] (aI v :: aI i :: aR xg 10 xi :: st) M = if vpB i 20 = true then run 60 43 [l0, l1] st (wr M xg 10 xi i.toNatClampNeg v) else none := e_ias d60_42 rfl rfl
theorem d60_43 : decode (cod 60) 43 = .ok (.aload_n 0, 1) := by decide +kernel
theorem r60_43 (l1 : AV) (xg xi : Nat) (st : List AV) (M : Mm) : run 60 43 [aR xg 7 xi, l1] st M = run 60 44 [aR xg 7 xi, l1] (aR xg 7 xi :: st) M := e_aldn d60_43 rfl
theorem d60_44 : decode (cod 60) 44 = .ok (.dup, 1) := by decide +kernel
theorem r60_44 (l0 l1 : AV) (xg xi : Nat) (st : List AV) (M : Mm) : run 60 44 [l0, l1] (aR xg 7 xi :: st) M = run 60 45 [l0, l1] (aR xg 7 xi :: aR xg 7 xi :: st) M := e_dup d60_44
theorem d60_45 : decode (cod 60) 45 = .ok (.getfield 37, 3) := by decide +kernel
theorem r60_45 (l0 l1 : AV) (xg xi : Nat) (st : List AV) (M : Mm) : run 60 45 [l0, l1] (aR xg 7 xi :: st) M = run 60 48 [l0, l1] (aI (M xg 7 xi 6) :: st) M := e_gfi d60_45 rfl rfl rfl
theorem d60_48 : decode (cod 60) 48 = .ok (.iconst 1, 1) := by decide +kernel
theorem r60_48 (l0 l1 : AV) (st : List AV) (M : Mm) : run 60 48 [l0, l1] st M = run 60 49 [l0, l1] (aI 1 :: st) M := e_iconst 1 d60_48 (by decide +kernel)
theorem d60_49 : decode (cod 60) 49 = .ok (.iadd, 1) := by decide +kernel
theorem r60_49 (l0 l1 : AV) (a b : Int32) (st : List AV) (M : Mm) : run 60 49 [l0, l1] (aI b :: aI a :: st) M = run 60 50 [l0, l1] (aI (a + b) :: st) M := e_iadd d60_49
theorem d60_50 : decode (cod 60) 50 = .ok (.putfield 37, 3) := by decide +kernel
theorem r60_50 (l0 l1 : AV) (v : Int32) (xg xi : Nat) (st : List AV) (M : Mm) : run 60 50 [l0, l1] (aI v :: aR xg 7 xi :: st) M = run 60 53 [l0, l1] st (wr M xg 7 xi 6 v) := e_pfi d60_50 rfl rfl rfl rfl
theorem d60_53 : decode (cod 60) 53 = .ok (.aload_n 0, 1) := by decide +kernel
theorem r60_53 (l1 : AV) (xg xi : Nat) (st : List AV) (M : Mm) : run 60 53 [aR xg 7 xi, l1] st M = run 60 54 [aR xg 7 xi, l1] (aR xg 7 xi :: st) M := e_aldn d60_53 rfl
theorem d60_54 : decode (cod 60) 54 = .ok (.getfield 37, 3) := by decide +kernel
theorem r60_54 (l0 l1 : AV) (xg xi : Nat) (st : List AV) (M : Mm) : run 60 54 [l0, l1] (aR xg 7 xi :: st) M = run 60 57 [l0, l1] (aI (M xg 7 xi 6) :: st) M := e_gfi d60_54 rfl rfl rfl
theorem d60_57 : decode (cod 60) 57 = .ok (.ireturn, 1) := by decide +kernel
theorem r60_57 (l0 l1 : AV) (v : Int32) (M : Mm) : run 60 57 [l0, l1] [aI v] M = some (some v, M) := e_iret d60_57 rfl
theorem c61 (g0 i0 : Nat) (M : Mm) : call 61 [aR g0 7 i0] M = run 61 0 [aR g0 7 i0, none, none] [] M := call_run 61 _ _
theorem d61_0 : decode (cod 61) 0 = .ok (.aload_n 0, 1) := by decide +kernel
theorem r61_0 (l1 l2 : AV) (xg xi : Nat) (st : List AV) (M : Mm) : run 61 0 [aR xg 7 xi, l1, l2] st M = run 61 1 [aR xg 7 xi, l1, l2] (aR xg 7 xi :: st) M := e_aldn d61_0 rfl
theorem d61_1 : decode (cod 61) 1 = .ok (.sipush 240, 3) := by decide +kernel
theorem r61_1 (l0 l1 l2 : AV) (st : List AV) (M : Mm) : run 61 1 [l0, l1, l2] st M = run 61 4 [l0, l1, l2] (aI 240 :: st) M := e_sipush 240 d61_1 (by decide +kernel)
theorem d61_4 : decode (cod 61) 4 = .ok (.invokevirtual 154, 3) := by decide +kernel
theorem r61_4 (l0 l1 l2 : AV) (a0g a0i : Nat) (a1 : Int32) (M : Mm) : run 61 4 [l0, l1, l2] [aI a1, aR a0g 7 a0i] M = cbV (call 70 [aR a0g 7 a0i, aI a1] M) (fun M => run 61 7 [l0, l1, l2] [] M) := call_V (n := 2) rfl false d61_4 rfl rfl rfl rfl rfl rfl rfl
theorem d61_7 : decode (cod 61) 7 = .ok (.bipush (-9), 2) := by decide +kernel
theorem r61_7 (l0 l1 l2 : AV) (st : List AV) (M : Mm) : run 61 7 [l0, l1, l2] st M = run 61 9 [l0, l1, l2] (aI (-9) :: st) M := e_bipush (-9) d61_7 (by decide +kernel)
theorem d61_9 : decode (cod 61) 9 = .ok (.istore_n 1, 1) := by decide +kernel
theorem r61_9 (l0 l1 l2 : AV) (x : Int32) (st : List AV) (M : Mm) : run 61 9 [l0, l1, l2] (aI x :: st) M = run 61 10 [l0, aI x, l2] st M := e_istn [l0, aI x, l2] d61_9 rfl rfl
theorem d61_10 : decode (cod 61) 10 = .ok (.iconst 0, 1) := by decide +kernel
theorem r61_10 (l0 l1 l2 : AV) (st : List AV) (M : Mm) : run 61 10 [l0, l1, l2] st M = run 61 11 [l0, l1, l2] (aI 0 :: st) M := e_iconst 0 d61_10 (by decide +kernel)
theorem d61_11 : decode (cod 61) 11 = .ok (.istore_n 2, 1) := by decide +kernel
theorem r61_11 (l0 l1 l2 : AV) (x : Int32) (st : List AV) (M : Mm) : run 61 11 [l0, l1, l2] (aI x :: st) M = run 61 12 [l0, l1, aI x] st M := e_istn [l0, l1, aI x] d61_11 rfl rfl
theorem d61_12 : decode (cod 61) 12 = .ok (.iload_n 2, 1) := by decide +kernel
theorem r61_12 (l0 l1 : AV) (x : Int32) (st : List AV) (M : Mm) : run 61 12 [l0, l1, aI x] st M = run 61 13 [l0, l1, aI x] (aI x :: st) M := e_ildn d61_12 rfl
theorem d61_13 : decode (cod 61) 13 = .ok (.aload_n 0, 1) := by decide +kernel
theorem r61_13 (l1 l2 : AV) (xg xi : Nat) (st : List AV) (M : Mm) : run 61 13 [aR xg 7 xi, l1, l2] st M = run 61 14 [aR xg 7 xi, l1, l2] (aR xg 7 xi :: st) M := e_aldn d61_13 rfl
theorem d61_14 : decode (cod 61) 14 = .ok (.getfield 37, 3) := by decide +kernel
theorem r61_14 (l0 l1 l2 : AV) (xg xi : Nat) (st : List AV) (M : Mm) : run 61 14 [l0, l1, l2] (aR xg 7 xi :: st) M = run 61 17 [l0, l1, l2] (aI (M xg 7 xi 6) :: st) M := e_gfi d61_14 rfl rfl rfl
theorem d61_17 : decode (cod 61) 17 = .ok (.if_icmp .ge 52, 3) := by decide +kernel
theorem r61_17 (l0 l1 l2 : AV) (a b : Int32) (st : List AV) (M : Mm) : run 61 17 [l0, l1, l2] (aI b :: aI a :: st) M = if a < b then run 61 20 [l0, l1, l2] st M else run 61 69 [l0, l1, l2] st M := e_ge2 69 d61_17 (by decide)
theorem d61_20 : decode (cod 61) 20 = .ok (.iload_n 1, 1) := by decide +kernel
theorem r61_20 (l0 l2 : AV) (x : Int32) (st : List AV) (M : Mm) : run 61 20 [l0, aI x, l2] st M = run 61 21 [l0, aI x, l2] (aI x :: st) M := e_ildn d61_20 rfl
theorem d61_21 : decode (cod 61) 21 = .ok (.bipush (-9), 2) := by decide +kernel
theorem r61_21 (l0 l1 l2 : AV) (st : List AV) (M : Mm) : run 61 21 [l0, l1, l2] st M = run 61 23 [l0, l1, l2] (aI (-9) :: st) M := e_bipush (-9) d61_21 (by decide +kernel)
theorem d61_23 : decode (cod 61) 23 = .ok (.if_icmp .ne 46, 3) := by decide +kernel
theorem r61_23 (l0 l1 l2 : AV) (a b : Int32) (st : List AV) (M : Mm) : run 61 23 [l0, l1, l2] (aI b :: aI a :: st) M = if a = b then run 61 26 [l0, l1, l2] st M else run 61 69 [l0, l1, l2] st M := e_ne2 69 d61_23 (by decide)
theorem d61_26 : decode (cod 61) 26 = .ok (.iload_n 2, 1) := by decide +kernel
theorem r61_26 (l0 l1 : AV) (x : Int32) (st : List AV) (M : Mm) : run 61 26 [l0, l1, aI x] st M = run 61 27 [l0, l1, aI x] (aI x :: st) M := e_ildn d61_26 rfl
theorem d61_27 : decode (cod 61) 27 = .ok (.aload_n 0, 1) := by decide +kernel
theorem r61_27 (l1 l2 : AV) (xg xi : Nat) (st : List AV) (M : Mm) : run 61 27 [aR xg 7 xi, l1, l2] st M = run 61 28 [aR xg 7 xi, l1, l2] (aR xg 7 xi :: st) M := e_aldn d61_27 rfl
theorem d61_28 : decode (cod 61) 28 = .ok (.getfield 16, 3) := by decide +kernel
theorem r61_28 (l0 l1 l2 : AV) (xg xi : Nat) (st : List AV) (M : Mm) : run 61 28 [l0, l1, l2] (aR xg 7 xi :: st) M = run 61 31 [l0, l1, l2] (aR 2 0 0 :: st) M := e_gfr (fun g => (2, 0, 0)) d61_28 rfl rfl rfl
theorem d61_31 : decode (cod 61) 31 = .ok (.getfield 127, 3) := by decide +kernel
theorem r61_31 (l0 l1 l2 : AV) (xg xi : Nat) (st : List AV) (M : Mm) : run 61 31 [l0, l1, l2] (aR xg 0 xi :: st) M = run 61 34 [l0, l1, l2] (aR xg 5 0 :: st) M := e_gfr (fun g => (g, 5, 0)) d61_31 rfl rfl rfl
theorem d61_34 : decode (cod 61) 34 = .ok (.getfield 228, 3) := by decide +kernel
theorem r61_34 (l0 l1 l2 : AV) (xg xi : Nat) (st : List AV) (M : Mm) : run 61 34 [l0, l1, l2] (aR xg 5 xi :: st) M = run 61 37 [l0, l1, l2] (aI (M xg 5 xi 10) :: st) M := e_gfi d61_34 rfl rfl rfl
theorem d61_37 : decode (cod 61) 37 = .ok (.if_icmp .ge 24, 3) := by decide +kernel
theorem r61_37 (l0 l1 l2 : AV) (a b : Int32) (st : List AV) (M : Mm) : run 61 37 [l0, l1, l2] (aI b :: aI a :: st) M = if a < b then run 61 40 [l0, l1, l2] st M else run 61 61 [l0, l1, l2] st M := e_ge2 61 d61_37 (by decide)
theorem d61_40 : decode (cod 61) 40 = .ok (.aload_n 0, 1) := by decide +kernel
theorem r61_40 (l1 l2 : AV) (xg xi : Nat) (st : List AV) (M : Mm) : run 61 40 [aR xg 7 xi, l1, l2] st M = run 61 41 [aR xg 7 xi, l1, l2] (aR xg 7 xi :: st) M := e_aldn d61_40 rfl
theorem d61_41 : decode (cod 61) 41 = .ok (.getfield 16, 3) := by decide +kernel
theorem r61_41 (l0 l1 l2 : AV) (xg xi : Nat) (st : List AV) (M : Mm) : run 61 41 [l0, l1, l2] (aR xg 7 xi :: st) M = run 61 44 [l0, l1, l2] (aR 2 0 0 :: st) M := e_gfr (fun g => (2, 0, 0)) d61_41 rfl rfl rfl
theorem d61_44 : decode (cod 61) 44 = .ok (.getfield 127, 3) := by decide +kernel
theorem r61_44 (l0 l1 l2 : AV) (xg xi : Nat) (st : List AV) (M : Mm) : run 61 44 [l0, l1, l2] (aR xg 0 xi :: st) M = run 61 47 [l0, l1, l2] (aR xg 5 0 :: st) M := e_gfr (fun g => (g, 5, 0)) d61_44 rfl rfl rfl
theorem d61_47 : decode (cod 61) 47 = .ok (.getfield 231, 3) := by decide +kernel
theorem r61_47 (l0 l1 l2 : AV) (xg xi : Nat) (st : List AV) (M : Mm) : run 61 47 [l0, l1, l2] (aR xg 5 xi :: st) M = run 61 50 [l0, l1, l2] (aR xg 6 0 :: st) M := e_gfr (fun g => (g, 6, 0)) d61_47 rfl rfl rfl
theorem d61_50 : decode (cod 61) 50 = .ok (.iload_n 2, 1) := by decide +kernel
theorem r61_50 (l0 l1 : AV) (x : Int32) (st : List AV) (M : Mm) : run 61 50 [l0, l1, aI x] st M = run 61 51 [l0, l1, aI x] (aI x :: st) M := e_ildn d61_50 rfl
theorem d61_51 : decode (cod 61) 51 = .ok (.iaload, 1) := by decide +kernel
theorem r61_51 (l0 l1 l2 : AV) (i : Int32) (xg xi : Nat) (st : List AV) (M : Mm) : run 61 51 [l0, l1, l2] (aI i :: aR xg 6 xi :: st) M = if vpB i 20 = true then run 61 52 [l0, l1, l2] (aI (M xg 6 xi i.toNatClampNeg) :: st) M else none := e_ial d61_51 rfl rfl
theorem d61_52 : decode (cod 61) 52 = .ok (.aload_n 0, 1) := by decide +kernel
theorem r61_52 (l1 l2 : AV) (xg xi : Nat) (st : List AV) (M : Mm) : run 61 52 [aR xg 7 xi, l1, l2] st M = run 61 53 [aR xg 7 xi, l1, l2] (aR xg 7 xi :: st) M := e_aldn d61_52 rfl
theorem d61_53 : decode (cod 61) 53 = .ok (.getfield 33, 3) := by decide +kernel
theorem r61_53 (l0 l1 l2 : AV) (xg xi : Nat) (st : List AV) (M : Mm) : run 61 53 [l0, l1, l2] (aR xg 7 xi :: st) M = run 61 56 [l0, l1, l2] (aR 0 10 0 :: st) M := e_gfr (fun g => (0, 10, 0)) d61_53 rfl rfl rfl
theorem d61_56 : decode (cod 61) 56 = .ok (.iload_n 2, 1) := by decide +kernel
theorem r61_56 (l0 l1 : AV) (x : Int32) (st : List AV) (M : Mm) : run 61 56 [l0, l1, aI x] st M = run 61 57 [l0, l1, aI x] (aI x :: st) M := e_ildn d61_56 rfl
theorem d61_57 : decode (cod 61) 57 = .ok (.iaload, 1) := by decide +kernel
theorem r61_57 (l0 l1 l2 : AV) (i : Int32) (xg xi : Nat) (st : List AV) (M : Mm) : run 61 57 [l0, l1, l2] (aI i :: aR xg 10 xi :: st) M = if vpB i 20 = true then run 61 58 [l0, l1, l2] (aI (M xg 10 xi i.toNatClampNeg) :: st) M else none := e_ial d61_57 rfl rfl
theorem d61_58 : decode (cod 61) 58 = .ok (.if_icmp .eq 5, 3) := by decide +kernel
theorem r61_58 (l0 l1 l2 : AV) (a b : Int32) (st : List AV) (M : Mm) : run 61 58 [l0, l1, l2] (aI b :: aI a :: st) M = if a = b then run 61 63 [l0, l1, l2] st M else run 61 61 [l0, l1, l2] st M := e_eq2 63 d61_58 (by decide)
theorem d61_61 : decode (cod 61) 61 = .ok (.iload_n 2, 1) := by decide +kernel
theorem r61_61 (l0 l1 : AV) (x : Int32) (st : List AV) (M : Mm) : run 61 61 [l0, l1, aI x] st M = run 61 62 [l0, l1, aI x] (aI x :: st) M := e_ildn d61_61 rfl
theorem d61_62 : decode (cod 61) 62 = .ok (.istore_n 1, 1) := by decide +kernel
theorem r61_62 (l0 l1 l2 : AV) (x : Int32) (st : List AV) (M : Mm) : run 61 62 [l0, l1, l2] (aI x :: st) M = run 61 63 [l0, aI x, l2] st M := e_istn [l0, aI x, l2] d61_62 rfl rfl
theorem d61_63 : decode (cod 61) 63 = .ok (.iinc 2 1, 3) := by decide +kernel
theorem r61_63 (l0 l1 : AV) (x : Int32) (st : List AV) (M : Mm) : run 61 63 [l0, l1, aI x] st M = run 61 66 [l0, l1, aI (x + 1)] st M := e_iinc 1 [l0, l1, aI (x + 1)] d61_63 (by decide +kernel) rfl rfl
theorem d61_66 : decode (cod 61) 66 = .ok (.goto (-54), 3) := by decide +kernel
theorem r61_66 (l0 l1 l2 : AV) (st : List AV) (M : Mm) : run 61 66 [l0, l1, l2] st M = run 61 12 [l0, l1, l2] st M := e_goto 12 d61_66 (by decide)
theorem d61_69 : decode (cod 61) 69 = .ok (.aload_n 0, 1) := by decide +kernel
theorem r61_69 (l1 l2 : AV) (xg xi : Nat) (st : List AV) (M : Mm) : run 61 69 [aR xg 7 xi, l1, l2] st M = run 61 70 [aR xg 7 xi, l1, l2] (aR xg 7 xi :: st) M := e_aldn d61_69 rfl
theorem d61_70 : decode (cod 61) 70 = .ok (.iconst 0, 1) := by decide +kernel
theorem r61_70 (l0 l1 l2 : AV) (st : List AV) (M : Mm) : run 61 70 [l0, l1, l2] st M = run 61 71 [l0, l1, l2] (aI 0 :: st) M := e_iconst 0 d61_70 (by decide +kernel)
theorem d61_71 : decode (cod 61) 71 = .ok (.putfield 37, 3) := by decide +kernel
theorem r61_71 (l0 l1 l2 : AV) (v : Int32) (xg xi : Nat) (st : List AV) (M : Mm) : run 61 71 [l0, l1, l2] (aI v :: aR xg 7 xi :: st) M = run 61 74 [l0, l1, l2] st (wr M xg 7 xi 6 v) := e_pfi d61_71 rfl rfl rfl rfl
theorem d61_74 : decode (cod 61) 74 = .ok (.iload_n 1, 1) := by decide +kernel
theorem r61_74 (l0 l2 : AV) (x : Int32) (st : List AV) (M : Mm) : run 61 74 [l0, aI x, l2] st M = run 61 75 [l0, aI x, l2] (aI x :: st) M := e_ildn d61_74 rfl
theorem d61_75 : decode (cod 61) 75 = .ok (.ireturn, 1) := by decide +kernel
theorem r61_75 (l0 l1 l2 : AV) (v : Int32) (M : Mm) : run 61 75 [l0, l1, l2] [aI v] M = some (some v, M) := e_iret d61_75 rfl
theorem c62 (g0 i0 : Nat) (x1 : Int32) (x2 : Int32) (M : Mm) : call 62 [aR g0 7 i0, aI x1, aI x2] M = run 62 0 [aR g0 7 i0, aI x1, aI x2, none, none, none, none, none] [] M := call_run 62 _ _
theorem d62_0 : decode (cod 62) 0 = .ok (.iload_n 1, 1) := by decide +kernel
theorem r62_0 (l0 l2 l3 l4 l5 l6 l7 : AV) (x : Int32) (st : List AV) (M : Mm) : run 62 0 [l0, aI x, l2, l3, l4, l5, l6, l7] st M = run 62 1 [l0, aI x, l2, l3, l4, l5, l6, l7] (aI x :: st) M := e_ildn d62_0 rfl
theorem d62_1 : decode (cod 62) 1 = .ok (.iconst 1, 1) := by decide +kernel
theorem r62_1 (l0 l1 l2 l3 l4 l5 l6 l7 : AV) (st : List AV) (M : Mm) : run 62 1 [l0, l1, l2, l3, l4, l5, l6, l7] st M = run 62 2 [l0, l1, l2, l3, l4, l5, l6, l7] (aI 1 :: st) M := e_iconst 1 d62_1 (by decide +kernel)
theorem d62_2 : decode (cod 62) 2 = .ok (.bipush 20, 2) := by decide +kernel
theorem r62_2 (l0 l1 l2 l3 l4 l5 l6 l7 : AV) (st : List AV) (M : Mm) : run 62 2 [l0, l1, l2, l3, l4, l5, l6, l7] st M = run 62 4 [l0, l1, l2, l3, l4, l5, l6, l7] (aI 20 :: st) M := e_bipush 20 d62_2 (by decide +kernel)
theorem d62_4 : decode (cod 62) 4 = .ok (.invokestatic 100, 3) := by decide +kernel
theorem r62_4 (l0 l1 l2 l3 l4 l5 l6 l7 : AV) (a0 : Int32) (a1 : Int32) (a2 : Int32) (M : Mm) : run 62 4 [l0, l1, l2, l3, l4, l5, l6, l7] [aI a2, aI a1, aI a0] M = cbI (call 67 [aI a0, aI a1, aI a2] M) (fun v M => run 62 7 [l0, l1, l2, l3, l4, l5, l6, l7] [aI v] M) := call_I (n := 3) rfl true d62_4 rfl rfl rfl rfl rfl rfl rfl
theorem d62_7 : decode (cod 62) 7 = .ok (.istore_n 3, 1) := by decide +kernel
theorem r62_7 (l0 l1 l2 l3 l4 l5 l6 l7 : AV) (x : Int32) (st : List AV) (M : Mm) : run 62 7 [l0, l1, l2, l3, l4, l5, l6, l7] (aI x :: st) M = run 62 8 [l0, l1, l2, aI x, l4, l5, l6, l7] st M := e_istn [l0, l1, l2, aI x, l4, l5, l6, l7] d62_7 rfl rfl
theorem d62_8 : decode (cod 62) 8 = .ok (.iload_n 3, 1) := by decide +kernel
theorem r62_8 (l0 l1 l2 l4 l5 l6 l7 : AV) (x : Int32) (st : List AV) (M : Mm) : run 62 8 [l0, l1, l2, aI x, l4, l5, l6, l7] st M = run 62 9 [l0, l1, l2, aI x, l4, l5, l6, l7] (aI x :: st) M := e_ildn d62_8 rfl
theorem d62_9 : decode (cod 62) 9 = .ok (.ifCond .eq 9, 3) := by decide +kernel
theorem r62_9 (l0 l1 l2 l3 l4 l5 l6 l7 : AV) (a : Int32) (st : List AV) (M : Mm) : run 62 9 [l0, l1, l2, l3, l4, l5, l6, l7] (aI a :: st) M = if a = 0 then run 62 18 [l0, l1, l2, l3, l4, l5, l6, l7] st M else run 62 12 [l0, l1, l2, l3, l4, l5, l6, l7] st M := e_eq1 18 d62_9 (by decide)
theorem d62_12 : decode (cod 62) 12 = .ok (.aload_n 0, 1) := by decide +kernel
theorem r62_12 (l1 l2 l3 l4 l5 l6 l7 : AV) (xg xi : Nat) (st : List AV) (M : Mm) : run 62 12 [aR xg 7 xi, l1, l2, l3, l4, l5, l6, l7] st M = run 62 13 [aR xg 7 xi, l1, l2, l3, l4, l5, l6, l7] (aR xg 7 xi :: st) M := e_aldn d62_12 rfl
theorem d62_13 : decode (cod 62) 13 = .ok (.iload_n 3, 1) := by decide +kernel
theorem r62_13 (l0 l1 l2 l4 l5 l6 l7 : AV) (x : Int32) (st : List AV) (M : Mm) : run 62 13 [l0, l1, l2, aI x, l4, l5, l6, l7] st M = run 62 14 [l0, l1, l2, aI x, l4, l5, l6, l7] (aI x :: st) M := e_ildn d62_13 rfl
theorem d62_14 : decode (cod 62) 14 = .ok (.invokevirtual 44, 3) := by decide +kernel
theorem r62_14 (l0 l1 l2 l3 l4 l5 l6 l7 : AV) (a0g a0i : Nat) (a1 : Int32) (M : Mm) : run 62 14 [l0, l1, l2, l3, l4, l5, l6, l7] [aI a1, aR a0g 7 a0i] M = cbI (call 66 [aR a0g 7 a0i, aI a1] M) (fun v M => run 62 17 [l0, l1, l2, l3, l4, l5, l6, l7] [aI v] M) := call_I (n := 2) rfl false d62_14 rfl rfl rfl rfl rfl rfl rfl
theorem d62_17 : decode (cod 62) 17 = .ok (.ireturn, 1) := by decide +kernel
theorem r62_17 (l0 l1 l2 l3 l4 l5 l6 l7 : AV) (v : Int32) (M : Mm) : run 62 17 [l0, l1, l2, l3, l4, l5, l6, l7] [aI v] M = some (some v, M) := e_iret d62_17 rfl
theorem d62_18 : decode (cod 62) 18 = .ok (.iload_n 2, 1) := by decide +kernel
theorem r62_18 (l0 l1 l3 l4 l5 l6 l7 : AV) (x : Int32) (st : List AV) (M : Mm) : run 62 18 [l0, l1, aI x, l3, l4, l5, l6, l7] st M = run 62 19 [l0, l1, aI x, l3, l4, l5, l6, l7] (aI x :: st) M := e_ildn d62_18 rfl
theorem d62_19 : decode (cod 62) 19 = .ok (.istore 4, 2) := by decide +kernel
theorem r62_19 (l0 l1 l2 l3 l4 l5 l6 l7 : AV) (x : Int32) (st : List AV) (M : Mm) : run 62 19 [l0, l1, l2, l3, l4, l5, l6, l7] (aI x :: st) M = run 62 21 [l0, l1, l2, l3, aI x, l5, l6, l7] st M := e_ist [l0, l1, l2, l3, aI x, l5, l6, l7] d62_19 rfl rfl
theorem d62_21 : decode (cod 62) 21 = .ok (.iconst 0, 1) := by decide +kernel
theorem r62_21 (l0 l1 l2 l3 l4 l5 l6 l7 : AV) (st : List AV) (M : Mm) : run 62 21 [l0, l1, l2, l3, l4, l5, l6, l7] st M = run 62 22 [l0, l1, l2, l3, l4, l5, l6, l7] (aI 0 :: st) M := e_iconst 0 d62_21 (by decide +kernel)
theorem d62_22 : decode (cod 62) 22 = .ok (.istore 5, 2) := by decide +kernel
theorem r62_22 (l0 l1 l2 l3 l4 l5 l6 l7 : AV) (x : Int32) (st : List AV) (M : Mm) : run 62 22 [l0, l1, l2, l3, l4, l5, l6, l7] (aI x :: st) M = run 62 24 [l0, l1, l2, l3, l4, aI x, l6, l7] st M := e_ist [l0, l1, l2, l3, l4, aI x, l6, l7] d62_22 rfl rfl
theorem d62_24 : decode (cod 62) 24 = .ok (.iconst 0, 1) := by decide +kernel
theorem r62_24 (l0 l1 l2 l3 l4 l5 l6 l7 : AV) (st : List AV) (M : Mm) : run 62 24 [l0, l1, l2, l3, l4, l5, l6, l7] st M = run 62 25 [l0, l1, l2, l3, l4, l5, l6, l7] (aI 0 :: st) M := e_iconst 0 d62_24 (by decide +kernel)
theorem d62_25 : decode (cod 62) 25 = .ok (.istore 6, 2) := by decide +kernel
theorem r62_25 (l0 l1 l2 l3 l4 l5 l6 l7 : AV) (x : Int32) (st : List AV) (M : Mm) : run 62 25 [l0, l1, l2, l3, l4, l5, l6, l7] (aI x :: st) M = run 62 27 [l0, l1, l2, l3, l4, l5, aI x, l7] st M := e_ist [l0, l1, l2, l3, l4, l5, aI x, l7] d62_25 rfl rfl
theorem d62_27 : decode (cod 62) 27 = .ok (.iload 6, 2) := by decide +kernel
theorem r62_27 (l0 l1 l2 l3 l4 l5 l7 : AV) (x : Int32) (st : List AV) (M : Mm) : run 62 27 [l0, l1, l2, l3, l4, l5, aI x, l7] st M = run 62 29 [l0, l1, l2, l3, l4, l5, aI x, l7] (aI x :: st) M := e_ild d62_27 rfl
theorem d62_29 : decode (cod 62) 29 = .ok (.iload_n 1, 1) := by decide +kernel
theorem r62_29 (l0 l2 l3 l4 l5 l6 l7 : AV) (x : Int32) (st : List AV) (M : Mm) : run 62 29 [l0, aI x, l2, l3, l4, l5, l6, l7] st M = run 62 30 [l0, aI x, l2, l3, l4, l5, l6, l7] (aI x :: st) M := e_ildn d62_29 rfl
theorem d62_30 : decode (cod 62) 30 = .ok (.if_icmp .ge 119, 3) := by decide +kernel
theorem r62_30 (l0 l1 l2 l3 l4 l5 l6 l7 : AV) (a b : Int32) (st : List AV) (M : Mm) : run 62 30 [l0, l1, l2, l3, l4, l5, l6, l7] (aI b :: aI a :: st) M = if a < b then run 62 33 [l0, l1, l2, l3, l4, l5, l6, l7] st M else run 62 149 [l0, l1, l2, l3, l4, l5, l6, l7] st M := e_ge2 149 d62_30 (by decide)
theorem d62_33 : decode (cod 62) 33 = .ok (.aload_n 0, 1) := by decide +kernel
theorem r62_33 (l1 l2 l3 l4 l5 l6 l7 : AV) (xg xi : Nat) (st : List AV) (M : Mm) : run 62 33 [aR xg 7 xi, l1, l2, l3, l4, l5, l6, l7] st M = run 62 34 [aR xg 7 xi, l1, l2, l3, l4, l5, l6, l7] (aR xg 7 xi :: st) M := e_aldn d62_33 rfl
theorem d62_34 : decode (cod 62) 34 = .ok (.getfield 16, 3) := by decide +kernel
theorem r62_34 (l0 l1 l2 l3 l4 l5 l6 l7 : AV) (xg xi : Nat) (st : List AV) (M : Mm) : run 62 34 [l0, l1, l2, l3, l4, l5, l6, l7] (aR xg 7 xi :: st) M = run 62 37 [l0, l1, l2, l3, l4, l5, l6, l7] (aR 2 0 0 :: st) M := e_gfr (fun g => (2, 0, 0)) d62_34 rfl rfl rfl
theorem d62_37 : decode (cod 62) 37 = .ok (.aload_n 0, 1) := by decide +kernel
theorem r62_37 (l1 l2 l3 l4 l5 l6 l7 : AV) (xg xi : Nat) (st : List AV) (M : Mm) : run 62 37 [aR xg 7 xi, l1, l2, l3, l4, l5, l6, l7] st M = run 62 38 [aR xg 7 xi, l1, l2, l3, l4, l5, l6, l7] (aR xg 7 xi :: st) M := e_aldn d62_37 rfl
theorem d62_38 : decode (cod 62) 38 = .ok (.getfield 10, 3) := by decide +kernel
theorem r62_38 (l0 l1 l2 l3 l4 l5 l6 l7 : AV) (xg xi : Nat) (st : List AV) (M : Mm) : run 62 38 [l0, l1, l2, l3, l4, l5, l6, l7] (aR xg 7 xi :: st) M = run 62 41 [l0, l1, l2, l3, l4, l5, l6, l7] (aR 1 0 0 :: st) M := e_gfr (fun g => (1, 0, 0)) d62_38 rfl rfl rfl
theorem d62_41 : decode (cod 62) 41 = .ok (.invokevirtual 59, 3) := by decide +kernel
theorem r62_41 (l0 l1 l2 l3 l4 l5 l6 l7 : AV) (a0g a0i : Nat) (a1g a1i : Nat) (M : Mm) : run 62 41 [l0, l1, l2, l3, l4, l5, l6, l7] [aR a1g 0 a1i, aR a0g 0 a0i] M = cbV (call 11 [aR a0g 0 a0i, aR a1g 0 a1i] M) (fun M => run 62 44 [l0, l1, l2, l3, l4, l5, l6, l7] [] M) := call_V (n := 2) rfl false d62_41 rfl rfl rfl rfl rfl rfl rfl
theorem d62_44 : decode (cod 62) 44 = .ok (.iconst 0, 1) := by decide +kernel
theorem r62_44 (l0 l1 l2 l3 l4 l5 l6 l7 : AV) (st : List AV) (M : Mm) : run 62 44 [l0, l1, l2, l3, l4, l5, l6, l7] st M = run 62 45 [l0, l1, l2, l3, l4, l5, l6, l7] (aI 0 :: st) M := e_iconst 0 d62_44 (by decide +kernel)
theorem d62_45 : decode (cod 62) 45 = .ok (.istore 7, 2) := by decide +kernel
theorem r62_45 (l0 l1 l2 l3 l4 l5 l6 l7 : AV) (x : Int32) (st : List AV) (M : Mm) : run 62 45 [l0, l1, l2, l3, l4, l5, l6, l7] (aI x :: st) M = run 62 47 [l0, l1, l2, l3, l4, l5, l6, aI x] st M := e_ist [l0, l1, l2, l3, l4, l5, l6, aI x] d62_45 rfl rfl
theorem d62_47 : decode (cod 62) 47 = .ok (.iload 7, 2) := by decide +kernel
theorem r62_47 (l0 l1 l2 l3 l4 l5 l6 : AV) (x : Int32) (st : List AV) (M : Mm) : run 62 47 [l0, l1, l2, l3, l4, l5, l6, aI x] st M = run 62 49 [l0, l1, l2, l3, l4, l5, l6, aI x] (aI x :: st) M := e_ild d62_47 rfl
theorem d62_49 : decode (cod 62) 49 = .ok (.aload_n 0, 1) := by decide +kernel
theorem r62_49 (l1 l2 l3 l4 l5 l6 l7 : AV) (xg xi : Nat) (st : List AV) (M : Mm) : run 62 49 [aR xg 7 xi, l1, l2, l3, l4, l5, l6, l7] st M = run 62 50 [aR xg 7 xi, l1, l2, l3, l4, l5, l6, l7] (aR xg 7 xi :: st) M := e_aldn d62_49 rfl
theorem d62_50 : decode (cod 62) 50 = .ok (.getfield 16, 3) := by decide +kernel
theorem r62_50 (l0 l1 l2 l3 l4 l5 l6 l7 : AV) (xg xi : Nat) (st : List AV) (M : Mm) : run 62 50 [l0, l1, l2, l3, l4, l5, l6, l7] (aR xg 7 xi :: st) M = run 62 53 [l0, l1, l2, l3, l4, l5, l6, l7] (aR 2 0 0 :: st) M := e_gfr (fun g => (2, 0, 0)) d62_50 rfl rfl rfl
theorem d62_53 : decode (cod 62) 53 = .ok (.getfield 189, 3) := by decide +kernel
theorem r62_53 (l0 l1 l2 l3 l4 l5 l6 l7 : AV) (xg xi : Nat) (st : List AV) (M : Mm) : run 62 53 [l0, l1, l2, l3, l4, l5, l6, l7] (aR xg 0 xi :: st) M = run 62 56 [l0, l1, l2, l3, l4, l5, l6, l7] (aI (M xg 0 xi 1) :: st) M := e_gfi d62_53 rfl rfl rfl
theorem d62_56 : decode (cod 62) 56 = .ok (.if_icmp .ge 63, 3) := by decide +kernel
theorem r62_56 (l0 l1 l2 l3 l4 l5 l6 l7 : AV) (a b : Int32) (st : List AV) (M : Mm) : run 62 56 [l0, l1, l2, l3, l4, l5, l6, l7] (aI b :: aI a :: st) M = if a < b then run 62 59 [l0, l1, l2, l3, l4, l5, l6, l7] st M else run 62 119 [l0, l1, l2, l3, l4, l5, l6, l7] st M := e_ge2 119 d62_56 (by decide)
theorem d62_59 : decode (cod 62) 59 = .ok (.iload 4, 2) := by decide +kernel
theorem r62_59 (l0 l1 l2 l3 l5 l6 l7 : AV) (x : Int32) (st : List AV) (M : Mm) : run 62 59 [l0, l1, l2, l3, aI x, l5, l6, l7] st M = run 62 61 [l0, l1, l2, l3, aI x, l5, l6, l7] (aI x :: st) M := e_ild d62_59 rfl
theorem d62_61 : decode (cod 62) 61 = .ok (.invokestatic 234, 3) := by decide +kernel
theorem r62_61 (l0 l1 l2 l3 l4 l5 l6 l7 : AV) (a0 : Int32) (M : Mm) : run 62 61 [l0, l1, l2, l3, l4, l5, l6, l7] [aI a0] M = cbI (call 76 [aI a0] M) (fun v M => run 62 64 [l0, l1, l2, l3, l4, l5, l6, l7] [aI v] M) := call_I (n := 1) rfl true d62_61 rfl rfl rfl rfl rfl rfl rfl
theorem d62_64 : decode (cod 62) 64 = .ok (.istore 4, 2) := by decide +kernel
theorem r62_64 (l0 l1 l2 l3 l4 l5 l6 l7 : AV) (x : Int32) (st : List AV) (M : Mm) : run 62 64 [l0, l1, l2, l3, l4, l5, l6, l7] (aI x :: st) M = run 62 66 [l0, l1, l2, l3, aI x, l5, l6, l7] st M := e_ist [l0, l1, l2, l3, aI x, l5, l6, l7] d62_64 rfl rfl
theorem d62_66 : decode (cod 62) 66 = .ok (.aload_n 0, 1) := by decide +kernel
theorem r62_66 (l1 l2 l3 l4 l5 l6 l7 : AV) (xg xi : Nat) (st : List AV) (M : Mm) : run 62 66 [aR xg 7 xi, l1, l2, l3, l4, l5, l6, l7] st M = run 62 67 [aR xg 7 xi, l1, l2, l3, l4, l5, l6, l7] (aR xg 7 xi :: st) M := e_aldn d62_66 rfl
theorem d62_67 : decode (cod 62) 67 = .ok (.getfield 16, 3) := by decide +kernel
theorem r62_67 (l0 l1 l2 l3 l4 l5 l6 l7 : AV) (xg xi : Nat) (st : List AV) (M : Mm) : run 62 67 [l0, l1, l2, l3, l4, l5, l6, l7] (aR xg 7 xi :: st) M = run 62 70 [l0, l1, l2, l3, l4, l5, l6, l7] (aR 2 0 0 :: st) M := e_gfr (fun g => (2, 0, 0)) d62_67 rfl rfl rfl
theorem d62_70 : decode (cod 62) 70 = .ok (.getfield 73, 3) := by decide +kernel
theorem r62_70 (l0 l1 l2 l3 l4 l5 l6 l7 : AV) (xg xi : Nat) (st : List AV) (M : Mm) : run 62 70 [l0, l1, l2, l3, l4, l5, l6, l7] (aR xg 0 xi :: st) M = run 62 73 [l0, l1, l2, l3, l4, l5, l6, l7] (aR xg 1 0 :: st) M := e_gfr (fun g => (g, 1, 0)) d62_70 rfl rfl rfl
theorem d62_73 : decode (cod 62) 73 = .ok (.iload 7, 2) := by decide +kernel
theorem r62_73 (l0 l1 l2 l3 l4 l5 l6 : AV) (x : Int32) (st : List AV) (M : Mm) : run 62 73 [l0, l1, l2, l3, l4, l5, l6, aI x] st M = run 62 75 [l0, l1, l2, l3, l4, l5, l6, aI x] (aI x :: st) M := e_ild d62_73 rfl
theorem d62_75 : decode (cod 62) 75 = .ok (.aaload, 1) := by decide +kernel
theorem r62_75 (l0 l1 l2 l3 l4 l5 l6 l7 : AV) (i : Int32) (xg xi : Nat) (st : List AV) (M : Mm) : run 62 75 [l0, l1, l2, l3, l4, l5, l6, l7] (aI i :: aR xg 1 xi :: st) M = if vpB i 4 = true then run 62 76 [l0, l1, l2, l3, l4, l5, l6, l7] (aR xg 2 i.toNatClampNeg :: st) M else none := e_aal1 d62_75
theorem d62_76 : decode (cod 62) 76 = .ok (.iload 4, 2) := by decide +kernel
theorem r62_76 (l0 l1 l2 l3 l5 l6 l7 : AV) (x : Int32) (st : List AV) (M : Mm) : run 62 76 [l0, l1, l2, l3, aI x, l5, l6, l7] st M = run 62 78 [l0, l1, l2, l3, aI x, l5, l6, l7] (aI x :: st) M := e_ild d62_76 rfl
theorem d62_78 : decode (cod 62) 78 = .ok (.bipush 61, 2) := by decide +kernel
theorem r62_78 (l0 l1 l2 l3 l4 l5 l6 l7 : AV) (st : List AV) (M : Mm) : run 62 78 [l0, l1, l2, l3, l4, l5, l6, l7] st M = run 62 80 [l0, l1, l2, l3, l4, l5, l6, l7] (aI 61 :: st) M := e_bipush 61 d62_78 (by decide +kernel)
theorem d62_80 : decode (cod 62) 80 = .ok (.invokestatic 237, 3) := by decide +kernel
theorem r62_80 (l0 l1 l2 l3 l4 l5 l6 l7 : AV) (a0 : Int32) (a1 : Int32) (t0 : AV) (M : Mm) : run 62 80 [l0, l1, l2, l3, l4, l5, l6, l7] [aI a1, aI a0, t0] M = cbI (call 77 [aI a0, aI a1] M) (fun v M => run 62 83 [l0, l1, l2, l3, l4, l5, l6, l7] [aI v, t0] M) := call_I (n := 2) rfl true d62_80 rfl rfl rfl rfl rfl rfl rfl
theorem d62_83 : decode (cod 62) 83 = .ok (.putfield 85, 3) := by decide +kernel
theorem r62_83 (l0 l1 l2 l3 l4 l5 l6 l7 : AV) (v : Int32) (xg xi : Nat) (st : List AV) (M : Mm) : run 62 83 [l0, l1, l2, l3, l4, l5, l6, l7] (aI v :: aR xg 2 xi :: st) M = run 62 86 [l0, l1, l2, l3, l4, l5, l6, l7] st (wr M xg 2 xi 4 v) := e_pfi d62_83 rfl rfl rfl rfl
theorem d62_86 : decode (cod 62) 86 = .ok (.iload 4, 2) := by decide +kernel
theorem r62_86 (l0 l1 l2 l3 l5 l6 l7 : AV) (x : Int32) (st : List AV) (M : Mm) : run 62 86 [l0, l1, l2, l3, aI x, l5, l6, l7] st M = run 62 88 [l0, l1, l2, l3, aI x, l5, l6, l7] (aI x :: st) M := e_ild d62_86 rfl
theorem d62_88 : decode (cod 62) 88 = .ok (.invokestatic 234, 3) := by decide +kernel
theorem r62_88 (l0 l1 l2 l3 l4 l5 l6 l7 : AV) (a0 : Int32) (M : Mm) : run 62 88 [l0, l1, l2, l3, l4, l5, l6, l7] [aI a0] M = cbI (call 76 [aI a0] M) (fun v M => run 62 91 [l0, l1, l2, l3, l4, l5, l6, l7] [aI v] M) := call_I (n := 1) rfl true d62_88 rfl rfl rfl rfl rfl rfl rfl
theorem d62_91 : decode (cod 62) 91 = .ok (.istore 4, 2) := by decide +kernel
theorem r62_91 (l0 l1 l2 l3 l4 l5 l6 l7 : AV) (x : Int32) (st : List AV) (M : Mm) : run 62 91 [l0, l1, l2, l3, l4, l5, l6, l7] (aI x :: st) M = run 62 93 [l0, l1, l2, l3, aI x, l5, l6, l7] st M := e_ist [l0, l1, l2, l3, aI x, l5, l6, l7] d62_91 rfl rfl
theorem d62_93 : decode (cod 62) 93 = .ok (.aload_n 0, 1) := by decide +kernel
theorem r62_93 (l1 l2 l3 l4 l5 l6 l7 : AV) (xg xi : Nat) (st : List AV) (M : Mm) : run 62 93 [aR xg 7 xi, l1, l2, l3, l4, l5, l6, l7] st M = run 62 94 [aR xg 7 xi, l1, l2, l3, l4, l5, l6, l7] (aR xg 7 xi :: st) M := e_aldn d62_93 rfl
theorem d62_94 : decode (cod 62) 94 = .ok (.getfield 16, 3) := by decide +kernel
theorem r62_94 (l0 l1 l2 l3 l4 l5 l6 l7 : AV) (xg xi : Nat) (st : List AV) (M : Mm) : run 62 94 [l0, l1, l2, l3, l4, l5, l6, l7] (aR xg 7 xi :: st) M = run 62 97 [l0, l1, l2, l3, l4, l5, l6, l7] (aR 2 0 0 :: st) M := e_gfr (fun g => (2, 0, 0)) d62_94 rfl rfl rfl
theorem d62_97 : decode (cod 62) 97 = .ok (.getfield 73, 3) := by decide +kernel
theorem r62_97 (l0 l1 l2 l3 l4 l5 l6 l7 : AV) (xg xi : Nat) (st : List AV) (M : Mm) : run 62 97 [l0, l1, l2, l3, l4, l5, l6, l7] (aR xg 0 xi :: st) M = run 62 100 [l0, l1, l2, l3, l4, l5, l6, l7] (aR xg 1 0 :: st) M := e_gfr (fun g => (g, 1, 0)) d62_97 rfl rfl rfl
theorem d62_100 : decode (cod 62) 100 = .ok (.iload 7, 2) := by decide +kernel
theorem r62_100 (l0 l1 l2 l3 l4 l5 l6 : AV) (x : Int32) (st : List AV) (M : Mm) : run 62 100 [l0, l1, l2, l3, l4, l5, l6, aI x] st M = run 62 102 [l0, l1, l2, l3, l4, l5, l6, aI x] (aI x :: st) M := e_ild d62_100 rfl
theorem d62_102 : decode (cod 62) 102 = .ok (.aaload, 1) := by decide +kernel
theorem r62_102 (l0 l1 l2 l3 l4 l5 l6 l7 : AV) (i : Int32) (xg xi : Nat) (st : List AV) (M : Mm) : run 62 102 [l0, l1, l2, l3, l4, l5, l6, l7] (aI i :: aR xg 1 xi :: st) M = if vpB i 4 = true then run 62 103 [l0, l1, l2, l3, l4, l5, l6, l7] (aR xg 2 i.toNatClampNeg :: st) M else none := e_aal1 d62_102
theorem d62_103 : decode (cod 62) 103 = .ok (.iload 4, 2) := by decide +kernel
theorem r62_103 (l0 l1 l2 l3 l5 l6 l7 : AV) (x : Int32) (st : List AV) (M : Mm) : run 62 103 [l0, l1, l2, l3, aI x, l5, l6, l7] st M = run 62 105 [l0, l1, l2, l3, aI x, l5, l6, l7] (aI x :: st) M := e_ild d62_103 rfl
theorem d62_105 : decode (cod 62) 105 = .ok (.bipush 100, 2) := by decide +kernel
theorem r62_105 (l0 l1 l2 l3 l4 l5 l6 l7 : AV) (st : List AV) (M : Mm) : run 62 105 [l0, l1, l2, l3, l4, l5, l6, l7] st M = run 62 107 [l0, l1, l2, l3, l4, l5, l6, l7] (aI 100 :: st) M := e_bipush 100 d62_105 (by decide +kernel)
theorem d62_107 : decode (cod 62) 107 = .ok (.invokestatic 237, 3) := by decide +kernel
theorem r62_107 (l0 l1 l2 l3 l4 l5 l6 l7 : AV) (a0 : Int32) (a1 : Int32) (t0 : AV) (M : Mm) : run 62 107 [l0, l1, l2, l3, l4, l5, l6, l7] [aI a1, aI a0, t0] M = cbI (call 77 [aI a0, aI a1] M) (fun v M => run 62 110 [l0, l1, l2, l3, l4, l5, l6, l7] [aI v, t0] M) := call_I (n := 2) rfl true d62_107 rfl rfl rfl rfl rfl rfl rfl
theorem d62_110 : decode (cod 62) 110 = .ok (.putfield 88, 3) := by decide +kernel
theorem r62_110 (l0 l1 l2 l3 l4 l5 l6 l7 : AV) (v : Int32) (xg xi : Nat) (st : List AV) (M : Mm) : run 62 110 [l0, l1, l2, l3, l4, l5, l6, l7] (aI v :: aR xg 2 xi :: st) M = run 62 113 [l0, l1, l2, l3, l4, l5, l6, l7] st (wr M xg 2 xi 5 v) := e_pfi d62_110 rfl rfl rfl rfl
theorem d62_113 : decode (cod 62) 113 = .ok (.iinc 7 1, 3) := by decide +kernel
theorem r62_113 (l0 l1 l2 l3 l4 l5 l6 : AV) (x : Int32) (st : List AV) (M : Mm) : run 62 113 [l0, l1, l2, l3, l4, l5, l6, aI x] st M = run 62 116 [l0, l1, l2, l3, l4, l5, l6, aI (x + 1)] st M := e_iinc 1 [l0, l1, l2, l3, l4, l5, l6, aI (x + 1)] d62_113 (by decide +kernel) rfl rfl
theorem d62_116 : decode (cod 62) 116 = .ok (.goto (-69), 3) := by decide +kernel
theorem r62_116 (l0 l1 l2 l3 l4 l5 l6 l7 : AV) (st : List AV) (M : Mm) : run 62 116 [l0, l1, l2, l3, l4, l5, l6, l7] st M = run 62 47 [l0, l1, l2, l3, l4, l5, l6, l7] st M := e_goto 47 d62_116 (by decide)
theorem d62_119 : decode (cod 62) 119 = .ok (.aload_n 0, 1) := by decide +kernel
theorem r62_119 (l1 l2 l3 l4 l5 l6 l7 : AV) (xg xi : Nat) (st : List AV) (M : Mm) : run 62 119 [aR xg 7 xi, l1, l2, l3, l4, l5, l6, l7] st M = run 62 120 [aR xg 7 xi, l1, l2, l3, l4, l5, l6, l7] (aR xg 7 xi :: st) M := e_aldn d62_119 rfl
theorem d62_120 : decode (cod 62) 120 = .ok (.getfield 16, 3) := by decide +kernel
theorem r62_120 (l0 l1 l2 l3 l4 l5 l6 l7 : AV) (xg xi : Nat) (st : List AV) (M : Mm) : run 62 120 [l0, l1, l2, l3, l4, l5, l6, l7] (aR xg 7 xi :: st) M = run 62 123 [l0, l1, l2, l3, l4, l5, l6, l7] (aR 2 0 0 :: st) M := e_gfr (fun g => (2, 0, 0)) d62_120 rfl rfl rfl
theorem d62_123 : decode (cod 62) 123 = .ok (.bipush 60, 2) := by decide +kernel
theorem r62_123 (l0 l1 l2 l3 l4 l5 l6 l7 : AV) (st : List AV) (M : Mm) : run 62 123 [l0, l1, l2, l3, l4, l5, l6, l7] st M = run 62 125 [l0, l1, l2, l3, l4, l5, l6, l7] (aI 60 :: st) M := e_bipush 60 d62_123 (by decide +kernel)
theorem d62_125 : decode (cod 62) 125 = .ok (.invokevirtual 124, 3) := by decide +kernel
theorem r62_125 (l0 l1 l2 l3 l4 l5 l6 l7 : AV) (a0g a0i : Nat) (a1 : Int32) (M : Mm) : run 62 125 [l0, l1, l2, l3, l4, l5, l6, l7] [aI a1, aR a0g 0 a0i] M = cbV (call 20 [aR a0g 0 a0i, aI a1] M) (fun M => run 62 128 [l0, l1, l2, l3, l4, l5, l6, l7] [] M) := call_V (n := 2) rfl false d62_125 rfl rfl rfl rfl rfl rfl rfl
theorem d62_128 : decode (cod 62) 128 = .ok (.iload 5, 2) := by decide +kernel
theorem r62_128 (l0 l1 l2 l3 l4 l6 l7 : AV) (x : Int32) (st : List AV) (M : Mm) : run 62 128 [l0, l1, l2, l3, l4, aI x, l6, l7] st M = run 62 130 [l0, l1, l2, l3, l4, aI x, l6, l7] (aI x :: st) M := e_ild d62_128 rfl
theorem d62_130 : decode (cod 62) 130 = .ok (.aload_n 0, 1) := by decide +kernel
theorem r62_130 (l1 l2 l3 l4 l5 l6 l7 : AV) (xg xi : Nat) (st : List AV) (M : Mm) : run 62 130 [aR xg 7 xi, l1, l2, l3, l4, l5, l6, l7] st M = run 62 131 [aR xg 7 xi, l1, l2, l3, l4, l5, l6, l7] (aR xg 7 xi :: st) M := e_aldn d62_130 rfl
theorem d62_131 : decode (cod 62) 131 = .ok (.getfield 16, 3) := by decide +kernel
theorem r62_131 (l0 l1 l2 l3 l4 l5 l6 l7 : AV) (xg xi : Nat) (st : List AV) (M : Mm) : run 62 131 [l0, l1, l2, l3, l4, l5, l6, l7] (aR xg 7 xi :: st) M = run 62 134 [l0, l1, l2, l3, l4, l5, l6, l7] (aR 2 0 0 :: st) M := e_gfr (fun g => (2, 0, 0)) d62_131 rfl rfl rfl
theorem d62_134 : decode (cod 62) 134 = .ok (.getfield 127, 3) := by decide +kernel
theorem r62_134 (l0 l1 l2 l3 l4 l5 l6 l7 : AV) (xg xi : Nat) (st : List AV) (M : Mm) : run 62 134 [l0, l1, l2, l3, l4, l5, l6, l7] (aR xg 0 xi :: st) M = run 62 137 [l0, l1, l2, l3, l4, l5, l6, l7] (aR xg 5 0 :: st) M := e_gfr (fun g => (g, 5, 0)) d62_134 rfl rfl rfl
theorem d62_137 : decode (cod 62) 137 = .ok (.getfield 157, 3) := by decide +kernel
theorem r62_137 (l0 l1 l2 l3 l4 l5 l6 l7 : AV) (xg xi : Nat) (st : List AV) (M : Mm) : run 62 137 [l0, l1, l2, l3, l4, l5, l6, l7] (aR xg 5 xi :: st) M = run 62 140 [l0, l1, l2, l3, l4, l5, l6, l7] (aI (M xg 5 xi 2) :: st) M := e_gfi d62_137 rfl rfl rfl
theorem d62_140 : decode (cod 62) 140 = .ok (.iadd, 1) := by decide +kernel
theorem r62_140 (l0 l1 l2 l3 l4 l5 l6 l7 : AV) (a b : Int32) (st : List AV) (M : Mm) : run 62 140 [l0, l1, l2, l3, l4, l5, l6, l7] (aI b :: aI a :: st) M = run 62 141 [l0, l1, l2, l3, l4, l5, l6, l7] (aI (a + b) :: st) M := e_iadd d62_140
theorem d62_141 : decode (cod 62) 141 = .ok (.istore 5, 2) := by decide +kernel
theorem r62_141 (l0 l1 l2 l3 l4 l5 l6 l7 : AV) (x : Int32) (st : List AV) (M : Mm) : run 62 141 [l0, l1, l2, l3, l4, l5, l6, l7] (aI x :: st) M = run 62 143 [l0, l1, l2, l3, l4, aI x, l6, l7] st M := e_ist [l0, l1, l2, l3, l4, aI x, l6, l7] d62_141 rfl rfl
theorem d62_143 : decode (cod 62) 143 = .ok (.iinc 6 1, 3) := by decide +kernel
theorem r62_143 (l0 l1 l2 l3 l4 l5 l7 : AV) (x : Int32) (st : List AV) (M : Mm) : run 62 143 [l0, l1, l2, l3, l4, l5, aI x, l7] st M = run 62 146 [l0, l1, l2, l3, l4, l5, aI (x + 1), l7] st M := e_iinc 1 [l0, l1, l2, l3, l4, l5, aI (x + 1), l7] d62_143 (by decide +kernel) rfl rfl
theorem d62_146 : decode (cod 62) 146 = .ok (.goto (-119), 3) := by decide +kernel
theorem r62_146 (l0 l1 l2 l3 l4 l5 l6 l7 : AV) (st : List AV) (M : Mm) : run 62 146 [l0, l1, l2, l3, l4, l5, l6, l7] st M = run 62 27 [l0, l1, l2, l3, l4, l5, l6, l7] st M := e_goto 27 d62_146 (by decide)
theorem d62_149 : decode (cod 62) 149 = .ok (.iload 5, 2) := by decide +kernel
theorem r62_149 (l0 l1 l2 l3 l4 l6 l7 : AV) (x : Int32) (st : List AV) (M : Mm) : run 62 149 [l0, l1, l2, l3, l4, aI x, l6, l7] st M = run 62 151 [l0, l1, l2, l3, l4, aI x, l6, l7] (aI x :: st) M := e_ild d62_149 rfl
theorem d62_151 : decode (cod 62) 151 = .ok (.ireturn, 1) := by decide +kernel
theorem r62_151 (l0 l1 l2 l3 l4 l5 l6 l7 : AV) (v : Int32) (M : Mm) : run 62 151 [l0, l1, l2, l3, l4, l5, l6, l7] [aI v] M = some (some v, M) := e_iret d62_151 rfl
theorem c63 (g0 i0 : Nat) (M : Mm) : call 63 [aR g0 7 i0] M = run 63 0 [aR g0 7 i0] [] M := call_run 63 _ _
theorem d63_0 : decode (cod 63) 0 = .ok (.aload_n 0, 1) := by decide +kernel
theorem r63_0 (xg xi : Nat) (st : List AV) (M : Mm) : run 63 0 [aR xg 7 xi] st M = run 63 1 [aR xg 7 xi] (aR xg 7 xi :: st) M := e_aldn d63_0 rfl
theorem d63_1 : decode (cod 63) 1 = .ok (.getfield 19, 3) := by decide +kernel
theorem r63_1 (l0 : AV) (xg xi : Nat) (st : List AV) (M : Mm) : run 63 1 [l0] (aR xg 7 xi :: st) M = run 63 4 [l0] (aR 3 0 0 :: st) M := e_gfr (fun g => (3, 0, 0)) d63_1 rfl rfl rfl
theorem d63_4 : decode (cod 63) 4 = .ok (.aload_n 0, 1) := by decide +kernel
theorem r63_4 (xg xi : Nat) (st : List AV) (M : Mm) : run 63 4 [aR xg 7 xi] st M = run 63 5 [aR xg 7 xi] (aR xg 7 xi :: st) M := e_aldn d63_4 rfl
theorem d63_5 : decode (cod 63) 5 = .ok (.getfield 10, 3) := by decide +kernel
theorem r63_5 (l0 : AV) (xg xi : Nat) (st : List AV) (M : Mm) : run 63 5 [l0] (aR xg 7 xi :: st) M = run 63 8 [l0] (aR 1 0 0 :: st) M := e_gfr (fun g => (1, 0, 0)) d63_5 rfl rfl rfl
theorem d63_8 : decode (cod 63) 8 = .ok (.invokevirtual 59, 3) := by decide +kernel
theorem r63_8 (l0 : AV) (a0g a0i : Nat) (a1g a1i : Nat) (M : Mm) : run 63 8 [l0] [aR a1g 0 a1i, aR a0g 0 a0i] M = cbV (call 11 [aR a0g 0 a0i, aR a1g 0 a1i] M) (fun M => run 63 11 [l0] [] M) := call_V (n := 2) rfl false d63_8 rfl rfl rfl rfl rfl rfl rfl
theorem d63_11 : decode (cod 63) 11 = .ok (.aload_n 0, 1) := by decide +kernel
theorem r63_11 (xg xi : Nat) (st : List AV) (M : Mm) : run 63 11 [aR xg 7 xi] st M = run 63 12 [aR xg 7 xi] (aR xg 7 xi :: st) M := e_aldn d63_11 rfl
theorem d63_12 : decode (cod 63) 12 = .ok (.iconst 1, 1) := by decide +kernel
theorem r63_12 (l0 : AV) (st : List AV) (M : Mm) : run 63 12 [l0] st M = run 63 13 [l0] (aI 1 :: st) M := e_iconst 1 d63_12 (by decide +kernel)
theorem d63_13 : decode (cod 63) 13 = .ok (.putfield 22, 3) := by decide +kernel
theorem r63_13 (l0 : AV) (v : Int32) (xg xi : Nat) (st : List AV) (M : Mm) : run 63 13 [l0] (aI v :: aR xg 7 xi :: st) M = if v = 0 ∨ v = 1 then run 63 16 [l0] st (wr M xg 7 xi 3 v) else none := e_pfz d63_13 rfl rfl rfl rfl
theorem d63_16 : decode (cod 63) 16 = .ok (.aload_n 0, 1) := by decide +kernel
theorem r63_16 (xg xi : Nat) (st : List AV) (M : Mm) : run 63 16 [aR xg 7 xi] st M = run 63 17 [aR xg 7 xi] (aR xg 7 xi :: st) M := e_aldn d63_16 rfl
theorem d63_17 : decode (cod 63) 17 = .ok (.getfield 10, 3) := by decide +kernel
theorem r63_17 (l0 : AV) (xg xi : Nat) (st : List AV) (M : Mm) : run 63 17 [l0] (aR xg 7 xi :: st) M = run 63 20 [l0] (aR 1 0 0 :: st) M := e_gfr (fun g => (1, 0, 0)) d63_17 rfl rfl rfl
theorem d63_20 : decode (cod 63) 20 = .ok (.getfield 91, 3) := by decide +kernel
theorem r63_20 (l0 : AV) (xg xi : Nat) (st : List AV) (M : Mm) : run 63 20 [l0] (aR xg 0 xi :: st) M = run 63 23 [l0] (aI (M xg 0 xi 10) :: st) M := e_gfi d63_20 rfl rfl rfl
theorem d63_23 : decode (cod 63) 23 = .ok (.ireturn, 1) := by decide +kernel
theorem r63_23 (l0 : AV) (v : Int32) (M : Mm) : run 63 23 [l0] [aI v] M = some (some v, M) := e_iret d63_23 rfl
theorem c64 (g0 i0 : Nat) (M : Mm) : call 64 [aR g0 7 i0] M = run 64 0 [aR g0 7 i0] [] M := call_run 64 _ _
theorem d64_0 : decode (cod 64) 0 = .ok (.aload_n 0, 1) := by decide +kernel
theorem r64_0 (xg xi : Nat) (st : List AV) (M : Mm) : run 64 0 [aR xg 7 xi] st M = run 64 1 [aR xg 7 xi] (aR xg 7 xi :: st) M := e_aldn d64_0 rfl
theorem d64_1 : decode (cod 64) 1 = .ok (.getfield 22, 3) := by decide +kernel
theorem r64_1 (l0 : AV) (xg xi : Nat) (st : List AV) (M : Mm) : run 64 1 [l0] (aR xg 7 xi :: st) M = run 64 4 [l0] (aI (M xg 7 xi 3) :: st) M := e_gfi d64_1 rfl rfl rfl
theorem d64_4 : decode (cod 64) 4 = .ok (.ifCond .ne 10, 3) := by decide +kernel
theorem r64_4 (l0 : AV) (a : Int32) (st : List AV) (M : Mm) : run 64 4 [l0] (aI a :: st) M = if a = 0 then run 64 7 [l0] st M else run 64 14 [l0] st M := e_ne1 14 d64_4 (by decide)
theorem d64_7 : decode (cod 64) 7 = .ok (.aload_n 0, 1) := by decide +kernel
theorem r64_7 (xg xi : Nat) (st : List AV) (M : Mm) : run 64 7 [aR xg 7 xi] st M = run 64 8 [aR xg 7 xi] (aR xg 7 xi :: st) M := e_aldn d64_7 rfl
theorem d64_8 : decode (cod 64) 8 = .ok (.bipush (-3), 2) := by decide +kernel
theorem r64_8 (l0 : AV) (st : List AV) (M : Mm) : run 64 8 [l0] st M = run 64 10 [l0] (aI (-3) :: st) M := e_bipush (-3) d64_8 (by decide +kernel)
theorem d64_10 : decode (cod 64) 10 = .ok (.invokevirtual 44, 3) := by decide +kernel
theorem r64_10 (l0 : AV) (a0g a0i : Nat) (a1 : Int32) (M : Mm) : run 64 10 [l0] [aI a1, aR a0g 7 a0i] M = cbI (call 66 [aR a0g 7 a0i, aI a1] M) (fun v M => run 64 13 [l0] [aI v] M) := call_I (n := 2) rfl false d64_10 rfl rfl rfl rfl rfl rfl rfl
theorem d64_13 : decode (cod 64) 13 = .ok (.ireturn, 1) := by decide +kernel
theorem r64_13 (l0 : AV) (v : Int32) (M : Mm) : run 64 13 [l0] [aI v] M = some (some v, M) := e_iret d64_13 rfl
theorem d64_14 : decode (cod 64) 14 = .ok (.aload_n 0, 1) := by decide +kernel
theorem r64_14 (xg xi : Nat) (st : List AV) (M : Mm) : run 64 14 [aR xg 7 xi] st M = run 64 15 [aR xg 7 xi] (aR xg 7 xi :: st) M := e_aldn d64_14 rfl
theorem d64_15 : decode (cod 64) 15 = .ok (.getfield 10, 3) := by decide +kernel
theorem r64_15 (l0 : AV) (xg xi : Nat) (st : List AV) (M : Mm) : run 64 15 [l0] (aR xg 7 xi :: st) M = run 64 18 [l0] (aR 1 0 0 :: st) M := e_gfr (fun g => (1, 0, 0)) d64_15 rfl rfl rfl
theorem d64_18 : decode (cod 64) 18 = .ok (.aload_n 0, 1) := by decide +kernel
theorem r64_18 (xg xi : Nat) (st : List AV) (M : Mm) : run 64 18 [aR xg 7 xi] st M = run 64 19 [aR xg 7 xi] (aR xg 7 xi :: st) M := e_aldn d64_18 rfl
theorem d64_19 : decode (cod 64) 19 = .ok (.getfield 19, 3) := by decide +kernel
theorem r64_19 (l0 : AV) (xg xi : Nat) (st : List AV) (M : Mm) : run 64 19 [l0] (aR xg 7 xi :: st) M = run 64 22 [l0] (aR 3 0 0 :: st) M := e_gfr (fun g => (3, 0, 0)) d64_19 rfl rfl rfl
theorem d64_22 : decode (cod 64) 22 = .ok (.invokevirtual 59, 3) := by decide +kernel
theorem r64_22 (l0 : AV) (a0g a0i : Nat) (a1g a1i : Nat) (M : Mm) : run 64 22 [l0] [aR a1g 0 a1i, aR a0g 0 a0i] M = cbV (call 11 [aR a0g 0 a0i, aR a1g 0 a1i] M) (fun M => run 64 25 [l0] [] M) := call_V (n := 2) rfl false d64_22 rfl rfl rfl rfl rfl rfl rfl
theorem d64_25 : decode (cod 64) 25 = .ok (.aload_n 0, 1) := by decide +kernel
theorem r64_25 (xg xi : Nat) (st : List AV) (M : Mm) : run 64 25 [aR xg 7 xi] st M = run 64 26 [aR xg 7 xi] (aR xg 7 xi :: st) M := e_aldn d64_25 rfl
theorem d64_26 : decode (cod 64) 26 = .ok (.getfield 10, 3) := by decide +kernel
theorem r64_26 (l0 : AV) (xg xi : Nat) (st : List AV) (M : Mm) : run 64 26 [l0] (aR xg 7 xi :: st) M = run 64 29 [l0] (aR 1 0 0 :: st) M := e_gfr (fun g => (1, 0, 0)) d64_26 rfl rfl rfl
theorem d64_29 : decode (cod 64) 29 = .ok (.getfield 91, 3) := by decide +kernel
theorem r64_29 (l0 : AV) (xg xi : Nat) (st : List AV) (M : Mm) : run 64 29 [l0] (aR xg 0 xi :: st) M = run 64 32 [l0] (aI (M xg 0 xi 10) :: st) M := e_gfi d64_29 rfl rfl rfl
theorem d64_32 : decode (cod 64) 32 = .ok (.ireturn, 1) := by decide +kernel
theorem r64_32 (l0 : AV) (v : Int32) (M : Mm) : run 64 32 [l0] [aI v] M = some (some v, M) := e_iret d64_32 rfl
theorem c65 (g0 i0 : Nat) (x1 : Int32) (M : Mm) : call 65 [aR g0 7 i0, aI x1] M = run 65 0 [aR g0 7 i0, aI x1] [] M := call_run 65 _ _
theorem d65_0 : decode (cod 65) 0 = .ok (.iload_n 1, 1) := by decide +kernel
theorem r65_0 (l0 : AV) (x : Int32) (st : List AV) (M : Mm) : run 65 0 [l0, aI x] st M = run 65 1 [l0, aI x] (aI x :: st) M := e_ildn d65_0 rfl
theorem d65_1 : decode (cod 65) 1 = .ok (.tableswitch 120 0 8 #[51, 59, 67, 75, 83, 91, 99, 107, 112], 51) := by decide +kernel
theorem r65_1 (l0 l1 : AV) (x : Int32) (st : List AV) (M : Mm) : run 65 1 [l0, l1] (aI x :: st) M = if x = 0 then run 65 52 [l0, l1] st M else if x = 1 then run 65 60 [l0, l1] st M else if x = 2 then run 65 68 [l0, l1] st M else if x = 3 then run 65 76 [l0, l1] st M else if x = 4 then run 65 84 [l0, l1] st M else if x = 5 then run 65 92 [l0, l1] st M else if x = 6 then run 65 100 [l0, l1] st M else if x = 7 then run 65 108 [l0, l1] st M else if x = 8 then run 65 113 [l0, l1] st M else run 65 121 [l0, l1] st M := by
  rw [run_step d65_1 rfl]
  simp only [stpI, tsw]
  by_cases c0 : x = 0
  · subst c0
    rw [if_pos rfl]
    rfl
  rw [if_neg c0]
  by_cases c1 : x = 1
  · subst c1
    rw [if_pos rfl]
    rfl
  rw [if_neg c1]
  by_cases c2 : x = 2
  · subst c2
    rw [if_pos rfl]
    rfl
  rw [if_neg c2]
  by_cases c3 : x = 3
  · subst c3
    rw [if_pos rfl]
    rfl
  rw [if_neg c3]
  by_cases c4 : x = 4
  · subst c4
    rw [if_pos rfl]
    rfl
  rw [if_neg c4]
  by_cases c5 : x = 5
  · subst c5
    rw [if_pos rfl]
    rfl
  rw [if_neg c5]
  by_cases c6 : x = 6
  · subst c6
    rw [if_pos rfl]
    rfl
  rw [if_neg c6]
  by_cases c7 : x = 7
  · subst c7
    rw [if_pos rfl]
    rfl
  rw [if_neg c7]
  by_cases c8 : x = 8
  · subst c8
    rw [if_pos rfl]
    rfl
  rw [if_neg c8]
  have hx : x.toInt < 0 ∨ 8 < x.toInt := by
    have h : ∀ k : Int, ¬ x = Int32.ofInt k → -2147483648 ≤ k → k < 2147483648 → ¬ x.toInt = k := fun k hk hl hh e => hk (Int32.toInt_inj.mp (by rw [e, Int32.toInt_ofInt_of_le hl hh]))
    have fc0 := h 0 c0 (by decide) (by decide)
    have fc1 := h 1 c1 (by decide) (by decide)
    have fc2 := h 2 c2 (by decide) (by decide)
    have fc3 := h 3 c3 (by decide) (by decide)
    have fc4 := h 4 c4 (by decide) (by decide)
    have fc5 := h 5 c5 (by decide) (by decide)
    have fc6 := h 6 c6 (by decide) (by decide)
    have fc7 := h 7 c7 (by decide) (by decide)
    have fc8 := h 8 c8 (by decide) (by decide)
    omega
  rw [if_pos hx, jmp_run 121 (by decide)]
  rfl
theorem d65_52 : decode (cod 65) 52 = .ok (.aload_n 0, 1) := by decide +kernel
theorem r65_52 (l1 : AV) (xg xi : Nat) (st : List AV) (M : Mm) : run 65 52 [aR xg 7 xi, l1] st M = run 65 53 [aR xg 7 xi, l1] (aR xg 7 xi :: st) M := e_aldn d65_52 rfl
theorem d65_53 : decode (cod 65) 53 = .ok (.getfield 10, 3) := by decide +kernel
theorem r65_53 (l0 l1 : AV) (xg xi : Nat) (st : List AV) (M : Mm) : run 65 53 [l0, l1] (aR xg 7 xi :: st) M = run 65 56 [l0, l1] (aR 1 0 0 :: st) M := e_gfr (fun g => (1, 0, 0)) d65_53 rfl rfl rfl
theorem d65_56 : decode (cod 65) 56 = .ok (.getfield 189, 3) := by decide +kernel
theorem r65_56 (l0 l1 : AV) (xg xi : Nat) (st : List AV) (M : Mm) : run 65 56 [l0, l1] (aR xg 0 xi :: st) M = run 65 59 [l0, l1] (aI (M xg 0 xi 1) :: st) M := e_gfi d65_56 rfl rfl rfl
theorem d65_59 : decode (cod 65) 59 = .ok (.ireturn, 1) := by decide +kernel
theorem r65_59 (l0 l1 : AV) (v : Int32) (M : Mm) : run 65 59 [l0, l1] [aI v] M = some (some v, M) := e_iret d65_59 rfl
theorem d65_60 : decode (cod 65) 60 = .ok (.aload_n 0, 1) := by decide +kernel
theorem r65_60 (l1 : AV) (xg xi : Nat) (st : List AV) (M : Mm) : run 65 60 [aR xg 7 xi, l1] st M = run 65 61 [aR xg 7 xi, l1] (aR xg 7 xi :: st) M := e_aldn d65_60 rfl
theorem d65_61 : decode (cod 65) 61 = .ok (.getfield 10, 3) := by decide +kernel
theorem r65_61 (l0 l1 : AV) (xg xi : Nat) (st : List AV) (M : Mm) : run 65 61 [l0, l1] (aR xg 7 xi :: st) M = run 65 64 [l0, l1] (aR 1 0 0 :: st) M := e_gfr (fun g => (1, 0, 0)) d65_61 rfl rfl rfl
theorem d65_64 : decode (cod 65) 64 = .ok (.getfield 136, 3) := by decide +kernel
theorem r65_64 (l0 l1 : AV) (xg xi : Nat) (st : List AV) (M : Mm) : run 65 64 [l0, l1] (aR xg 0 xi :: st) M = run 65 67 [l0, l1] (aI (M xg 0 xi 3) :: st) M := e_gfi d65_64 rfl rfl rfl
theorem d65_67 : decode (cod 65) 67 = .ok (.ireturn, 1) := by decide +kernel
theorem r65_67 (l0 l1 : AV) (v : Int32) (M : Mm) : run 65 67 [l0, l1] [aI v] M = some (some v, M) := e_iret d65_67 rfl
theorem d65_68 : decode (cod 65) 68 = .ok (.aload_n 0, 1) := by decide +kernel
theorem r65_68 (l1 : AV) (xg xi : Nat) (st : List AV) (M : Mm) : run 65 68 [aR xg 7 xi, l1] st M = run 65 69 [aR xg 7 xi, l1] (aR xg 7 xi :: st) M := e_aldn d65_68 rfl
theorem d65_69 : decode (cod 65) 69 = .ok (.getfield 10, 3) := by decide +kernel
theorem r65_69 (l0 l1 : AV) (xg xi : Nat) (st : List AV) (M : Mm) : run 65 69 [l0, l1] (aR xg 7 xi :: st) M = run 65 72 [l0, l1] (aR 1 0 0 :: st) M := e_gfr (fun g => (1, 0, 0)) d65_69 rfl rfl rfl
theorem d65_72 : decode (cod 65) 72 = .ok (.getfield 91, 3) := by decide +kernel
theorem r65_72 (l0 l1 : AV) (xg xi : Nat) (st : List AV) (M : Mm) : run 65 72 [l0, l1] (aR xg 0 xi :: st) M = run 65 75 [l0, l1] (aI (M xg 0 xi 10) :: st) M := e_gfi d65_72 rfl rfl rfl
theorem d65_75 : decode (cod 65) 75 = .ok (.ireturn, 1) := by decide +kernel
theorem r65_75 (l0 l1 : AV) (v : Int32) (M : Mm) : run 65 75 [l0, l1] [aI v] M = some (some v, M) := e_iret d65_75 rfl
theorem d65_76 : decode (cod 65) 76 = .ok (.aload_n 0, 1) := by decide +kernel
theorem r65_76 (l1 : AV) (xg xi : Nat) (st : List AV) (M : Mm) : run 65 76 [aR xg 7 xi, l1] st M = run 65 77 [aR xg 7 xi, l1] (aR xg 7 xi :: st) M := e_aldn d65_76 rfl
theorem d65_77 : decode (cod 65) 77 = .ok (.getfield 10, 3) := by decide +kernel
theorem r65_77 (l0 l1 : AV) (xg xi : Nat) (st : List AV) (M : Mm) : run 65 77 [l0, l1] (aR xg 7 xi :: st) M = run 65 80 [l0, l1] (aR 1 0 0 :: st) M := e_gfr (fun g => (1, 0, 0)) d65_77 rfl rfl rfl
theorem d65_80 : decode (cod 65) 80 = .ok (.getfield 241, 3) := by decide +kernel
theorem r65_80 (l0 l1 : AV) (xg xi : Nat) (st : List AV) (M : Mm) : run 65 80 [l0, l1] (aR xg 0 xi :: st) M = run 65 83 [l0, l1] (aI (M xg 0 xi 8) :: st) M := e_gfi d65_80 rfl rfl rfl
theorem d65_83 : decode (cod 65) 83 = .ok (.ireturn, 1) := by decide +kernel
theorem r65_83 (l0 l1 : AV) (v : Int32) (M : Mm) : run 65 83 [l0, l1] [aI v] M = some (some v, M) := e_iret d65_83 rfl
theorem d65_84 : decode (cod 65) 84 = .ok (.aload_n 0, 1) := by decide +kernel
theorem r65_84 (l1 : AV) (xg xi : Nat) (st : List AV) (M : Mm) : run 65 84 [aR xg 7 xi, l1] st M = run 65 85 [aR xg 7 xi, l1] (aR xg 7 xi :: st) M := e_aldn d65_84 rfl
theorem d65_85 : decode (cod 65) 85 = .ok (.getfield 10, 3) := by decide +kernel
theorem r65_85 (l0 l1 : AV) (xg xi : Nat) (st : List AV) (M : Mm) : run 65 85 [l0, l1] (aR xg 7 xi :: st) M = run 65 88 [l0, l1] (aR 1 0 0 :: st) M := e_gfr (fun g => (1, 0, 0)) d65_85 rfl rfl rfl
theorem d65_88 : decode (cod 65) 88 = .ok (.getfield 244, 3) := by decide +kernel
theorem r65_88 (l0 l1 : AV) (xg xi : Nat) (st : List AV) (M : Mm) : run 65 88 [l0, l1] (aR xg 0 xi :: st) M = run 65 91 [l0, l1] (aI (M xg 0 xi 11) :: st) M := e_gfi d65_88 rfl rfl rfl
theorem d65_91 : decode (cod 65) 91 = .ok (.ireturn, 1) := by decide +kernel
theorem r65_91 (l0 l1 : AV) (v : Int32) (M : Mm) : run 65 91 [l0, l1] [aI v] M = some (some v, M) := e_iret d65_91 rfl
theorem d65_92 : decode (cod 65) 92 = .ok (.aload_n 0, 1) := by decide +kernel
theorem r65_92 (l1 : AV) (xg xi : Nat) (st : List AV) (M : Mm) : run 65 92 [aR xg 7 xi, l1] st M = run 65 93 [aR xg 7 xi, l1] (aR xg 7 xi :: st) M := e_aldn d65_92 rfl
theorem d65_93 : decode (cod 65) 93 = .ok (.getfield 10, 3) := by decide +kernel
theorem r65_93 (l0 l1 : AV) (xg xi : Nat) (st : List AV) (M : Mm) : run 65 93 [l0, l1] (aR xg 7 xi :: st) M = run 65 96 [l0, l1] (aR 1 0 0 :: st) M := e_gfr (fun g => (1, 0, 0)) d65_93 rfl rfl rfl
theorem d65_96 : decode (cod 65) 96 = .ok (.getfield 247, 3) := by decide +kernel
theorem r65_96 (l0 l1 : AV) (xg xi : Nat) (st : List AV) (M : Mm) : run 65 96 [l0, l1] (aR xg 0 xi :: st) M = run 65 99 [l0, l1] (aI (M xg 0 xi 9) :: st) M := e_gfi d65_96 rfl rfl rfl
theorem d65_99 : decode (cod 65) 99 = .ok (.ireturn, 1) := by decide +kernel
theorem r65_99 (l0 l1 : AV) (v : Int32) (M : Mm) : run 65 99 [l0, l1] [aI v] M = some (some v, M) := e_iret d65_99 rfl
theorem d65_100 : decode (cod 65) 100 = .ok (.aload_n 0, 1) := by decide +kernel
theorem r65_100 (l1 : AV) (xg xi : Nat) (st : List AV) (M : Mm) : run 65 100 [aR xg 7 xi, l1] st M = run 65 101 [aR xg 7 xi, l1] (aR xg 7 xi :: st) M := e_aldn d65_100 rfl
theorem d65_101 : decode (cod 65) 101 = .ok (.getfield 10, 3) := by decide +kernel
theorem r65_101 (l0 l1 : AV) (xg xi : Nat) (st : List AV) (M : Mm) : run 65 101 [l0, l1] (aR xg 7 xi :: st) M = run 65 104 [l0, l1] (aR 1 0 0 :: st) M := e_gfr (fun g => (1, 0, 0)) d65_101 rfl rfl rfl
theorem d65_104 : decode (cod 65) 104 = .ok (.getfield 250, 3) := by decide +kernel
theorem r65_104 (l0 l1 : AV) (xg xi : Nat) (st : List AV) (M : Mm) : run 65 104 [l0, l1] (aR xg 0 xi :: st) M = run 65 107 [l0, l1] (aI (M xg 0 xi 12) :: st) M := e_gfi d65_104 rfl rfl rfl
theorem d65_107 : decode (cod 65) 107 = .ok (.ireturn, 1) := by decide +kernel
theorem r65_107 (l0 l1 : AV) (v : Int32) (M : Mm) : run 65 107 [l0, l1] [aI v] M = some (some v, M) := e_iret d65_107 rfl
theorem d65_108 : decode (cod 65) 108 = .ok (.aload_n 0, 1) := by decide +kernel
theorem r65_108 (l1 : AV) (xg xi : Nat) (st : List AV) (M : Mm) : run 65 108 [aR xg 7 xi, l1] st M = run 65 109 [aR xg 7 xi, l1] (aR xg 7 xi :: st) M := e_aldn d65_108 rfl
theorem d65_109 : decode (cod 65) 109 = .ok (.getfield 37, 3) := by decide +kernel
theorem r65_109 (l0 l1 : AV) (xg xi : Nat) (st : List AV) (M : Mm) : run 65 109 [l0, l1] (aR xg 7 xi :: st) M = run 65 112 [l0, l1] (aI (M xg 7 xi 6) :: st) M := e_gfi d65_109 rfl rfl rfl
theorem d65_112 : decode (cod 65) 112 = .ok (.ireturn, 1) := by decide +kernel
theorem r65_112 (l0 l1 : AV) (v : Int32) (M : Mm) : run 65 112 [l0, l1] [aI v] M = some (some v, M) := e_iret d65_112 rfl
theorem d65_113 : decode (cod 65) 113 = .ok (.aload_n 0, 1) := by decide +kernel
theorem r65_113 (l1 : AV) (xg xi : Nat) (st : List AV) (M : Mm) : run 65 113 [aR xg 7 xi, l1] st M = run 65 114 [aR xg 7 xi, l1] (aR xg 7 xi :: st) M := e_aldn d65_113 rfl
theorem d65_114 : decode (cod 65) 114 = .ok (.getfield 29, 3) := by decide +kernel
theorem r65_114 (l0 l1 : AV) (xg xi : Nat) (st : List AV) (M : Mm) : run 65 114 [l0, l1] (aR xg 7 xi :: st) M = run 65 117 [l0, l1] (aR 0 8 0 :: st) M := e_gfr (fun g => (0, 8, 0)) d65_114 rfl rfl rfl
theorem d65_117 : decode (cod 65) 117 = .ok (.getfield 48, 3) := by decide +kernel
theorem r65_117 (l0 l1 : AV) (xg xi : Nat) (st : List AV) (M : Mm) : run 65 117 [l0, l1] (aR xg 8 xi :: st) M = run 65 120 [l0, l1] (aI (M xg 8 xi 1) :: st) M := e_gfi d65_117 rfl rfl rfl
theorem d65_120 : decode (cod 65) 120 = .ok (.ireturn, 1) := by decide +kernel
theorem r65_120 (l0 l1 : AV) (v : Int32) (M : Mm) : run 65 120 [l0, l1] [aI v] M = some (some v, M) := e_iret d65_120 rfl
theorem d65_121 : decode (cod 65) 121 = .ok (.iload_n 1, 1) := by decide +kernel
theorem r65_121 (l0 : AV) (x : Int32) (st : List AV) (M : Mm) : run 65 121 [l0, aI x] st M = run 65 122 [l0, aI x] (aI x :: st) M := e_ildn d65_121 rfl
theorem d65_122 : decode (cod 65) 122 = .ok (.bipush 10, 2) := by decide +kernel
theorem r65_122 (l0 l1 : AV) (st : List AV) (M : Mm) : run 65 122 [l0, l1] st M = run 65 124 [l0, l1] (aI 10 :: st) M := e_bipush 10 d65_122 (by decide +kernel)
theorem d65_124 : decode (cod 65) 124 = .ok (.if_icmp .le 21, 3) := by decide +kernel
theorem r65_124 (l0 l1 : AV) (a b : Int32) (st : List AV) (M : Mm) : run 65 124 [l0, l1] (aI b :: aI a :: st) M = if b < a then run 65 127 [l0, l1] st M else run 65 145 [l0, l1] st M := e_le2 145 d65_124 (by decide)
theorem d65_127 : decode (cod 65) 127 = .ok (.iload_n 1, 1) := by decide +kernel
theorem r65_127 (l0 : AV) (x : Int32) (st : List AV) (M : Mm) : run 65 127 [l0, aI x] st M = run 65 128 [l0, aI x] (aI x :: st) M := e_ildn d65_127 rfl
theorem d65_128 : decode (cod 65) 128 = .ok (.bipush 16, 2) := by decide +kernel
theorem r65_128 (l0 l1 : AV) (st : List AV) (M : Mm) : run 65 128 [l0, l1] st M = run 65 130 [l0, l1] (aI 16 :: st) M := e_bipush 16 d65_128 (by decide +kernel)
theorem d65_130 : decode (cod 65) 130 = .ok (.if_icmp .gt 15, 3) := by decide +kernel
theorem r65_130 (l0 l1 : AV) (a b : Int32) (st : List AV) (M : Mm) : run 65 130 [l0, l1] (aI b :: aI a :: st) M = if b < a then run 65 145 [l0, l1] st M else run 65 133 [l0, l1] st M := e_gt2 145 d65_130 (by decide)
theorem d65_133 : decode (cod 65) 133 = .ok (.aload_n 0, 1) := by decide +kernel
theorem r65_133 (l1 : AV) (xg xi : Nat) (st : List AV) (M : Mm) : run 65 133 [aR xg 7 xi, l1] st M = run 65 134 [aR xg 7 xi, l1] (aR xg 7 xi :: st) M := e_aldn d65_133 rfl
theorem d65_134 : decode (cod 65) 134 = .ok (.getfield 41, 3) := by decide +kernel
theorem r65_134 (l0 l1 : AV) (xg xi : Nat) (st : List AV) (M : Mm) : run 65 134 [l0, l1] (aR xg 7 xi :: st) M = run 65 137 [l0, l1] (aR 0 11 0 :: st) M := e_gfr (fun g => (0, 11, 0)) d65_134 rfl rfl rfl
theorem d65_137 : decode (cod 65) 137 = .ok (.iload_n 1, 1) := by decide +kernel
theorem r65_137 (l0 : AV) (x : Int32) (st : List AV) (M : Mm) : run 65 137 [l0, aI x] st M = run 65 138 [l0, aI x] (aI x :: st) M := e_ildn d65_137 rfl
theorem d65_138 : decode (cod 65) 138 = .ok (.bipush 11, 2) := by decide +kernel
theorem r65_138 (l0 l1 : AV) (st : List AV) (M : Mm) : run 65 138 [l0, l1] st M = run 65 140 [l0, l1] (aI 11 :: st) M := e_bipush 11 d65_138 (by decide +kernel)
theorem d65_140 : decode (cod 65) 140 = .ok (.isub, 1) := by decide +kernel
theorem r65_140 (l0 l1 : AV) (a b : Int32) (st : List AV) (M : Mm) : run 65 140 [l0, l1] (aI b :: aI a :: st) M = run 65 141 [l0, l1] (aI (a - b) :: st) M := e_isub d65_140
theorem d65_141 : decode (cod 65) 141 = .ok (.iaload, 1) := by decide +kernel
theorem r65_141 (l0 l1 : AV) (i : Int32) (xg xi : Nat) (st : List AV) (M : Mm) : run 65 141 [l0, l1] (aI i :: aR xg 11 xi :: st) M = if vpB i 6 = true then run 65 142 [l0, l1] (aI (M xg 11 xi i.toNatClampNeg) :: st) M else none := e_ial d65_141 rfl rfl
theorem d65_142 : decode (cod 65) 142 = .ok (.goto 5, 3) := by decide +kernel
theorem r65_142 (l0 l1 : AV) (st : List AV) (M : Mm) : run 65 142 [l0, l1] st M = run 65 147 [l0, l1] st M := e_goto 147 d65_142 (by decide)
theorem d65_145 : decode (cod 65) 145 = .ok (.bipush (-9), 2) := by decide +kernel
theorem r65_145 (l0 l1 : AV) (st : List AV) (M : Mm) : run 65 145 [l0, l1] st M = run 65 147 [l0, l1] (aI (-9) :: st) M := e_bipush (-9) d65_145 (by decide +kernel)
theorem d65_147 : decode (cod 65) 147 = .ok (.ireturn, 1) := by decide +kernel
theorem r65_147 (l0 l1 : AV) (v : Int32) (M : Mm) : run 65 147 [l0, l1] [aI v] M = some (some v, M) := e_iret d65_147 rfl
theorem c66 (g0 i0 : Nat) (x1 : Int32) (M : Mm) : call 66 [aR g0 7 i0, aI x1] M = run 66 0 [aR g0 7 i0, aI x1, none] [] M := call_run 66 _ _
theorem d66_0 : decode (cod 66) 0 = .ok (.iload_n 1, 1) := by decide +kernel
theorem r66_0 (l0 l2 : AV) (x : Int32) (st : List AV) (M : Mm) : run 66 0 [l0, aI x, l2] st M = run 66 1 [l0, aI x, l2] (aI x :: st) M := e_ildn d66_0 rfl
theorem d66_1 : decode (cod 66) 1 = .ok (.ineg, 1) := by decide +kernel
theorem r66_1 (l0 l1 l2 : AV) (a : Int32) (st : List AV) (M : Mm) : run 66 1 [l0, l1, l2] (aI a :: st) M = run 66 2 [l0, l1, l2] (aI (-a) :: st) M := e_ineg d66_1
theorem d66_2 : decode (cod 66) 2 = .ok (.iconst 1, 1) := by decide +kernel
theorem r66_2 (l0 l1 l2 : AV) (st : List AV) (M : Mm) : run 66 2 [l0, l1, l2] st M = run 66 3 [l0, l1, l2] (aI 1 :: st) M := e_iconst 1 d66_2 (by decide +kernel)
theorem d66_3 : decode (cod 66) 3 = .ok (.isub, 1) := by decide +kernel
theorem r66_3 (l0 l1 l2 : AV) (a b : Int32) (st : List AV) (M : Mm) : run 66 3 [l0, l1, l2] (aI b :: aI a :: st) M = run 66 4 [l0, l1, l2] (aI (a - b) :: st) M := e_isub d66_3
theorem d66_4 : decode (cod 66) 4 = .ok (.istore_n 2, 1) := by decide +kernel
theorem r66_4 (l0 l1 l2 : AV) (x : Int32) (st : List AV) (M : Mm) : run 66 4 [l0, l1, l2] (aI x :: st) M = run 66 5 [l0, l1, aI x] st M := e_istn [l0, l1, aI x] d66_4 rfl rfl
theorem d66_5 : decode (cod 66) 5 = .ok (.iload_n 2, 1) := by decide +kernel
theorem r66_5 (l0 l1 : AV) (x : Int32) (st : List AV) (M : Mm) : run 66 5 [l0, l1, aI x] st M = run 66 6 [l0, l1, aI x] (aI x :: st) M := e_ildn d66_5 rfl
theorem d66_6 : decode (cod 66) 6 = .ok (.ifCond .lt 22, 3) := by decide +kernel
theorem r66_6 (l0 l1 l2 : AV) (a : Int32) (st : List AV) (M : Mm) : run 66 6 [l0, l1, l2] (aI a :: st) M = if a < 0 then run 66 28 [l0, l1, l2] st M else run 66 9 [l0, l1, l2] st M := e_lt1 28 d66_6 (by decide)
theorem d66_9 : decode (cod 66) 9 = .ok (.iload_n 2, 1) := by decide +kernel
theorem r66_9 (l0 l1 : AV) (x : Int32) (st : List AV) (M : Mm) : run 66 9 [l0, l1, aI x] st M = run 66 10 [l0, l1, aI x] (aI x :: st) M := e_ildn d66_9 rfl
theorem d66_10 : decode (cod 66) 10 = .ok (.aload_n 0, 1) := by decide +kernel
theorem r66_10 (l1 l2 : AV) (xg xi : Nat) (st : List AV) (M : Mm) : run 66 10 [aR xg 7 xi, l1, l2] st M = run 66 11 [aR xg 7 xi, l1, l2] (aR xg 7 xi :: st) M := e_aldn d66_10 rfl
theorem d66_11 : decode (cod 66) 11 = .ok (.getfield 41, 3) := by decide +kernel
theorem r66_11 (l0 l1 l2 : AV) (xg xi : Nat) (st : List AV) (M : Mm) : run 66 11 [l0, l1, l2] (aR xg 7 xi :: st) M = run 66 14 [l0, l1, l2] (aR 0 11 0 :: st) M := e_gfr (fun g => (0, 11, 0)) d66_11 rfl rfl rfl
theorem d66_14 : decode (cod 66) 14 = .ok (.arraylength, 1) := by decide +kernel
theorem r66_14 (l0 l1 l2 : AV) (xg xi : Nat) (st : List AV) (M : Mm) : run 66 14 [l0, l1, l2] (aR xg 11 xi :: st) M = run 66 15 [l0, l1, l2] (aI 6 :: st) M := e_aln d66_14 rfl rfl
theorem d66_15 : decode (cod 66) 15 = .ok (.if_icmp .ge 13, 3) := by decide +kernel
theorem r66_15 (l0 l1 l2 : AV) (a b : Int32) (st : List AV) (M : Mm) : run 66 15 [l0, l1, l2] (aI b :: aI a :: st) M = if a < b then run 66 18 [l0, l1, l2] st M else run 66 28 [l0, l1, l2] st M := e_ge2 28 d66_15 (by decide)
theorem d66_18 : decode (cod 66) 18 = .ok (.aload_n 0, 1) := by decide +kernel
theorem r66_18 (l1 l2 : AV) (xg xi : Nat) (st : List AV) (M : Mm) : run 66 18 [aR xg 7 xi, l1, l2] st M = run 66 19 [aR xg 7 xi, l1, l2] (aR xg 7 xi :: st) M := e_aldn d66_18 rfl
theorem d66_19 : decode (cod 66) 19 = .ok (.getfield 41, 3) := by decide +kernel
theorem r66_19 (l0 l1 l2 : AV) (xg xi : Nat) (st : List AV) (M : Mm) : run 66 19 [l0, l1, l2] (aR xg 7 xi :: st) M = run 66 22 [l0, l1, l2] (aR 0 11 0 :: st) M := e_gfr (fun g => (0, 11, 0)) d66_19 rfl rfl rfl
theorem d66_22 : decode (cod 66) 22 = .ok (.iload_n 2, 1) := by decide +kernel
theorem r66_22 (l0 l1 : AV) (x : Int32) (st : List AV) (M : Mm) : run 66 22 [l0, l1, aI x] st M = run 66 23 [l0, l1, aI x] (aI x :: st) M := e_ildn d66_22 rfl
theorem d66_23 : decode (cod 66) 23 = .ok (.dup2, 1) := by decide +kernel
theorem r66_23 (l0 l1 l2 : AV) (x : Int32) (zg zi : Nat) (st : List AV) (M : Mm) : run 66 23 [l0, l1, l2] (aI x :: aR zg 11 zi :: st) M = run 66 24 [l0, l1, l2] (aI x :: aR zg 11 zi :: aI x :: aR zg 11 zi :: st) M := e_dup2 d66_23
theorem d66_24 : decode (cod 66) 24 = .ok (.iaload, 1) := by decide +kernel
theorem r66_24 (l0 l1 l2 : AV) (i : Int32) (xg xi : Nat) (st : List AV) (M : Mm) : run 66 24 [l0, l1, l2] (aI i :: aR xg 11 xi :: st) M = if vpB i 6 = true then run 66 25 [l0, l1, l2] (aI (M xg 11 xi i.toNatClampNeg) :: st) M else none := e_ial d66_24 rfl rfl
theorem d66_25 : decode (cod 66) 25 = .ok (.iconst 1, 1) := by decide +kernel
theorem r66_25 (l0 l1 l2 : AV) (st : List AV) (M : Mm) : run 66 25 [l0, l1, l2] st M = run 66 26 [l0, l1, l2] (aI 1 :: st) M := e_iconst 1 d66_25 (by decide +kernel)
theorem d66_26 : decode (cod 66) 26 = .ok (.iadd, 1) := by decide +kernel
theorem r66_26 (l0 l1 l2 : AV) (a b : Int32) (st : List AV) (M : Mm) : run 66 26 [l0, l1, l2] (aI b :: aI a :: st) M = run 66 27 [l0, l1, l2] (aI (a + b) :: st) M := e_iadd d66_26
theorem d66_27 : decode (cod 66) 27 = .ok (.iastore, 1) := by decide +kernel
theorem r66_27 (l0 l1 l2 : AV) (v i : Int32) (xg xi : Nat) (st : List AV) (M : Mm) : run 66 27 [l0, l1, l2] (aI v :: aI i :: aR xg 11 xi :: st) M = if vpB i 6 = true then run 66 28 [l0, l1, l2] st (wr M xg 11 xi i.toNatClampNeg v) else none := e_ias d66_27 rfl rfl
theorem d66_28 : decode (cod 66) 28 = .ok (.iload_n 1, 1) := by decide +kernel
theorem r66_28 (l0 l2 : AV) (x : Int32) (st : List AV) (M : Mm) : run 66 28 [l0, aI x, l2] st M = run 66 29 [l0, aI x, l2] (aI x :: st) M := e_ildn d66_28 rfl
theorem d66_29 : decode (cod 66) 29 = .ok (.ireturn, 1) := by decide +kernel
theorem r66_29 (l0 l1 l2 : AV) (v : Int32) (M : Mm) : run 66 29 [l0, l1, l2] [aI v] M = some (some v, M) := e_iret d66_29 rfl
theorem c67 (x0 : Int32) (x1 : Int32) (x2 : Int32) (M : Mm) : call 67 [aI x0, aI x1, aI x2] M = run 67 0 [aI x0, aI x1, aI x2] [] M := call_run 67 _ _
theorem d67_0 : decode (cod 67) 0 = .ok (.iload_n 0, 1) := by decide +kernel
theorem r67_0 (l1 l2 : AV) (x : Int32) (st : List AV) (M : Mm) : run 67 0 [aI x, l1, l2] st M = run 67 1 [aI x, l1, l2] (aI x :: st) M := e_ildn d67_0 rfl
theorem d67_1 : decode (cod 67) 1 = .ok (.iload_n 1, 1) := by decide +kernel
theorem r67_1 (l0 l2 : AV) (x : Int32) (st : List AV) (M : Mm) : run 67 1 [l0, aI x, l2] st M = run 67 2 [l0, aI x, l2] (aI x :: st) M := e_ildn d67_1 rfl
theorem d67_2 : decode (cod 67) 2 = .ok (.if_icmp .ge 6, 3) := by decide +kernel
theorem r67_2 (l0 l1 l2 : AV) (a b : Int32) (st : List AV) (M : Mm) : run 67 2 [l0, l1, l2] (aI b :: aI a :: st) M = if a < b then run 67 5 [l0, l1, l2] st M else run 67 8 [l0, l1, l2] st M := e_ge2 8 d67_2 (by decide)
theorem d67_5 : decode (cod 67) 5 = .ok (.bipush (-4), 2) := by decide +kernel
theorem r67_5 (l0 l1 l2 : AV) (st : List AV) (M : Mm) : run 67 5 [l0, l1, l2] st M = run 67 7 [l0, l1, l2] (aI (-4) :: st) M := e_bipush (-4) d67_5 (by decide +kernel)
theorem d67_7 : decode (cod 67) 7 = .ok (.ireturn, 1) := by decide +kernel
theorem r67_7 (l0 l1 l2 : AV) (v : Int32) (M : Mm) : run 67 7 [l0, l1, l2] [aI v] M = some (some v, M) := e_iret d67_7 rfl
theorem d67_8 : decode (cod 67) 8 = .ok (.iload_n 0, 1) := by decide +kernel
theorem r67_8 (l1 l2 : AV) (x : Int32) (st : List AV) (M : Mm) : run 67 8 [aI x, l1, l2] st M = run 67 9 [aI x, l1, l2] (aI x :: st) M := e_ildn d67_8 rfl
theorem d67_9 : decode (cod 67) 9 = .ok (.iload_n 2, 1) := by decide +kernel
theorem r67_9 (l0 l1 : AV) (x : Int32) (st : List AV) (M : Mm) : run 67 9 [l0, l1, aI x] st M = run 67 10 [l0, l1, aI x] (aI x :: st) M := e_ildn d67_9 rfl
theorem d67_10 : decode (cod 67) 10 = .ok (.if_icmp .le 8, 3) := by decide +kernel
theorem r67_10 (l0 l1 l2 : AV) (a b : Int32) (st : List AV) (M : Mm) : run 67 10 [l0, l1, l2] (aI b :: aI a :: st) M = if b < a then run 67 13 [l0, l1, l2] st M else run 67 18 [l0, l1, l2] st M := e_le2 18 d67_10 (by decide)
theorem d67_13 : decode (cod 67) 13 = .ok (.bipush (-6), 2) := by decide +kernel
theorem r67_13 (l0 l1 l2 : AV) (st : List AV) (M : Mm) : run 67 13 [l0, l1, l2] st M = run 67 15 [l0, l1, l2] (aI (-6) :: st) M := e_bipush (-6) d67_13 (by decide +kernel)
theorem d67_15 : decode (cod 67) 15 = .ok (.goto 4, 3) := by decide +kernel
theorem r67_15 (l0 l1 l2 : AV) (st : List AV) (M : Mm) : run 67 15 [l0, l1, l2] st M = run 67 19 [l0, l1, l2] st M := e_goto 19 d67_15 (by decide)
theorem d67_18 : decode (cod 67) 18 = .ok (.iconst 0, 1) := by decide +kernel
theorem r67_18 (l0 l1 l2 : AV) (st : List AV) (M : Mm) : run 67 18 [l0, l1, l2] st M = run 67 19 [l0, l1, l2] (aI 0 :: st) M := e_iconst 0 d67_18 (by decide +kernel)
theorem d67_19 : decode (cod 67) 19 = .ok (.ireturn, 1) := by decide +kernel
theorem r67_19 (l0 l1 l2 : AV) (v : Int32) (M : Mm) : run 67 19 [l0, l1, l2] [aI v] M = some (some v, M) := e_iret d67_19 rfl
theorem c68 (x0 : Int32) (x1 : Int32) (x2 : Int32) (M : Mm) : call 68 [aI x0, aI x1, aI x2] M = run 68 0 [aI x0, aI x1, aI x2] [] M := call_run 68 _ _
theorem d68_0 : decode (cod 68) 0 = .ok (.iload_n 0, 1) := by decide +kernel
theorem r68_0 (l1 l2 : AV) (x : Int32) (st : List AV) (M : Mm) : run 68 0 [aI x, l1, l2] st M = run 68 1 [aI x, l1, l2] (aI x :: st) M := e_ildn d68_0 rfl
theorem d68_1 : decode (cod 68) 1 = .ok (.ifCond .lt 7, 3) := by decide +kernel
theorem r68_1 (l0 l1 l2 : AV) (a : Int32) (st : List AV) (M : Mm) : run 68 1 [l0, l1, l2] (aI a :: st) M = if a < 0 then run 68 8 [l0, l1, l2] st M else run 68 4 [l0, l1, l2] st M := e_lt1 8 d68_1 (by decide)
theorem d68_4 : decode (cod 68) 4 = .ok (.iload_n 1, 1) := by decide +kernel
theorem r68_4 (l0 l2 : AV) (x : Int32) (st : List AV) (M : Mm) : run 68 4 [l0, aI x, l2] st M = run 68 5 [l0, aI x, l2] (aI x :: st) M := e_ildn d68_4 rfl
theorem d68_5 : decode (cod 68) 5 = .ok (.ifCond .ge 6, 3) := by decide +kernel
theorem r68_5 (l0 l1 l2 : AV) (a : Int32) (st : List AV) (M : Mm) : run 68 5 [l0, l1, l2] (aI a :: st) M = if a < 0 then run 68 8 [l0, l1, l2] st M else run 68 11 [l0, l1, l2] st M := e_ge1 11 d68_5 (by decide)
theorem d68_8 : decode (cod 68) 8 = .ok (.bipush (-4), 2) := by decide +kernel
theorem r68_8 (l0 l1 l2 : AV) (st : List AV) (M : Mm) : run 68 8 [l0, l1, l2] st M = run 68 10 [l0, l1, l2] (aI (-4) :: st) M := e_bipush (-4) d68_8 (by decide +kernel)
theorem d68_10 : decode (cod 68) 10 = .ok (.ireturn, 1) := by decide +kernel
theorem r68_10 (l0 l1 l2 : AV) (v : Int32) (M : Mm) : run 68 10 [l0, l1, l2] [aI v] M = some (some v, M) := e_iret d68_10 rfl
theorem d68_11 : decode (cod 68) 11 = .ok (.iload_n 0, 1) := by decide +kernel
theorem r68_11 (l1 l2 : AV) (x : Int32) (st : List AV) (M : Mm) : run 68 11 [aI x, l1, l2] st M = run 68 12 [aI x, l1, l2] (aI x :: st) M := e_ildn d68_11 rfl
theorem d68_12 : decode (cod 68) 12 = .ok (.sipush 240, 3) := by decide +kernel
theorem r68_12 (l0 l1 l2 : AV) (st : List AV) (M : Mm) : run 68 12 [l0, l1, l2] st M = run 68 15 [l0, l1, l2] (aI 240 :: st) M := e_sipush 240 d68_12 (by decide +kernel)
theorem d68_15 : decode (cod 68) 15 = .ok (.if_icmp .gt 8, 3) := by decide +kernel
theorem r68_15 (l0 l1 l2 : AV) (a b : Int32) (st : List AV) (M : Mm) : run 68 15 [l0, l1, l2] (aI b :: aI a :: st) M = if b < a then run 68 23 [l0, l1, l2] st M else run 68 18 [l0, l1, l2] st M := e_gt2 23 d68_15 (by decide)
theorem d68_18 : decode (cod 68) 18 = .ok (.iload_n 1, 1) := by decide +kernel
theorem r68_18 (l0 l2 : AV) (x : Int32) (st : List AV) (M : Mm) : run 68 18 [l0, aI x, l2] st M = run 68 19 [l0, aI x, l2] (aI x :: st) M := e_ildn d68_18 rfl
theorem d68_19 : decode (cod 68) 19 = .ok (.iload_n 2, 1) := by decide +kernel
theorem r68_19 (l0 l1 : AV) (x : Int32) (st : List AV) (M : Mm) : run 68 19 [l0, l1, aI x] st M = run 68 20 [l0, l1, aI x] (aI x :: st) M := e_ildn d68_19 rfl
theorem d68_20 : decode (cod 68) 20 = .ok (.if_icmp .le 8, 3) := by decide +kernel
theorem r68_20 (l0 l1 l2 : AV) (a b : Int32) (st : List AV) (M : Mm) : run 68 20 [l0, l1, l2] (aI b :: aI a :: st) M = if b < a then run 68 23 [l0, l1, l2] st M else run 68 28 [l0, l1, l2] st M := e_le2 28 d68_20 (by decide)
theorem d68_23 : decode (cod 68) 23 = .ok (.bipush (-6), 2) := by decide +kernel
theorem r68_23 (l0 l1 l2 : AV) (st : List AV) (M : Mm) : run 68 23 [l0, l1, l2] st M = run 68 25 [l0, l1, l2] (aI (-6) :: st) M := e_bipush (-6) d68_23 (by decide +kernel)
theorem d68_25 : decode (cod 68) 25 = .ok (.goto 4, 3) := by decide +kernel
theorem r68_25 (l0 l1 l2 : AV) (st : List AV) (M : Mm) : run 68 25 [l0, l1, l2] st M = run 68 29 [l0, l1, l2] st M := e_goto 29 d68_25 (by decide)
theorem d68_28 : decode (cod 68) 28 = .ok (.iconst 0, 1) := by decide +kernel
theorem r68_28 (l0 l1 l2 : AV) (st : List AV) (M : Mm) : run 68 28 [l0, l1, l2] st M = run 68 29 [l0, l1, l2] (aI 0 :: st) M := e_iconst 0 d68_28 (by decide +kernel)
theorem d68_29 : decode (cod 68) 29 = .ok (.ireturn, 1) := by decide +kernel
theorem r68_29 (l0 l1 l2 : AV) (v : Int32) (M : Mm) : run 68 29 [l0, l1, l2] [aI v] M = some (some v, M) := e_iret d68_29 rfl
theorem c69 (g0 i0 : Nat) (x1 : Int32) (x2 : Int32) (x3 : Int32) (M : Mm) : call 69 [aR g0 7 i0, aI x1, aI x2, aI x3] M = run 69 0 [aR g0 7 i0, aI x1, aI x2, aI x3, none] [] M := call_run 69 _ _
theorem d69_0 : decode (cod 69) 0 = .ok (.iload_n 1, 1) := by decide +kernel
theorem r69_0 (l0 l2 l3 l4 : AV) (x : Int32) (st : List AV) (M : Mm) : run 69 0 [l0, aI x, l2, l3, l4] st M = run 69 1 [l0, aI x, l2, l3, l4] (aI x :: st) M := e_ildn d69_0 rfl
theorem d69_1 : decode (cod 69) 1 = .ok (.iconst 0, 1) := by decide +kernel
theorem r69_1 (l0 l1 l2 l3 l4 : AV) (st : List AV) (M : Mm) : run 69 1 [l0, l1, l2, l3, l4] st M = run 69 2 [l0, l1, l2, l3, l4] (aI 0 :: st) M := e_iconst 0 d69_1 (by decide +kernel)
theorem d69_2 : decode (cod 69) 2 = .ok (.sipush 240, 3) := by decide +kernel
theorem r69_2 (l0 l1 l2 l3 l4 : AV) (st : List AV) (M : Mm) : run 69 2 [l0, l1, l2, l3, l4] st M = run 69 5 [l0, l1, l2, l3, l4] (aI 240 :: st) M := e_sipush 240 d69_2 (by decide +kernel)
theorem d69_5 : decode (cod 69) 5 = .ok (.invokestatic 100, 3) := by decide +kernel
theorem r69_5 (l0 l1 l2 l3 l4 : AV) (a0 : Int32) (a1 : Int32) (a2 : Int32) (M : Mm) : run 69 5 [l0, l1, l2, l3, l4] [aI a2, aI a1, aI a0] M = cbI (call 67 [aI a0, aI a1, aI a2] M) (fun v M => run 69 8 [l0, l1, l2, l3, l4] [aI v] M) := call_I (n := 3) rfl true d69_5 rfl rfl rfl rfl rfl rfl rfl
theorem d69_8 : decode (cod 69) 8 = .ok (.istore 4, 2) := by decide +kernel
theorem r69_8 (l0 l1 l2 l3 l4 : AV) (x : Int32) (st : List AV) (M : Mm) : run 69 8 [l0, l1, l2, l3, l4] (aI x :: st) M = run 69 10 [l0, l1, l2, l3, aI x] st M := e_ist [l0, l1, l2, l3, aI x] d69_8 rfl rfl
theorem d69_10 : decode (cod 69) 10 = .ok (.iload 4, 2) := by decide +kernel
theorem r69_10 (l0 l1 l2 l3 : AV) (x : Int32) (st : List AV) (M : Mm) : run 69 10 [l0, l1, l2, l3, aI x] st M = run 69 12 [l0, l1, l2, l3, aI x] (aI x :: st) M := e_ild d69_10 rfl
theorem d69_12 : decode (cod 69) 12 = .ok (.ifCond .ne 17, 3) := by decide +kernel
theorem r69_12 (l0 l1 l2 l3 l4 : AV) (a : Int32) (st : List AV) (M : Mm) : run 69 12 [l0, l1, l2, l3, l4] (aI a :: st) M = if a = 0 then run 69 15 [l0, l1, l2, l3, l4] st M else run 69 29 [l0, l1, l2, l3, l4] st M := e_ne1 29 d69_12 (by decide)
theorem d69_15 : decode (cod 69) 15 = .ok (.aload_n 0, 1) := by decide +kernel
theorem r69_15 (l1 l2 l3 l4 : AV) (xg xi : Nat) (st : List AV) (M : Mm) : run 69 15 [aR xg 7 xi, l1, l2, l3, l4] st M = run 69 16 [aR xg 7 xi, l1, l2, l3, l4] (aR xg 7 xi :: st) M := e_aldn d69_15 rfl
theorem d69_16 : decode (cod 69) 16 = .ok (.getfield 10, 3) := by decide +kernel
theorem r69_16 (l0 l1 l2 l3 l4 : AV) (xg xi : Nat) (st : List AV) (M : Mm) : run 69 16 [l0, l1, l2, l3, l4] (aR xg 7 xi :: st) M = run 69 19 [l0, l1, l2, l3, l4] (aR 1 0 0 :: st) M := e_gfr (fun g => (1, 0, 0)) d69_16 rfl rfl rfl
theorem d69_19 : decode (cod 69) 19 = .ok (.iload_n 2, 1) := by decide +kernel
theorem r69_19 (l0 l1 l3 l4 : AV) (x : Int32) (st : List AV) (M : Mm) : run 69 19 [l0, l1, aI x, l3, l4] st M = run 69 20 [l0, l1, aI x, l3, l4] (aI x :: st) M := e_ildn d69_19 rfl
theorem d69_20 : decode (cod 69) 20 = .ok (.invokevirtual 70, 3) := by decide +kernel
theorem r69_20 (l0 l1 l2 l3 l4 : AV) (a0g a0i : Nat) (a1 : Int32) (M : Mm) : run 69 20 [l0, l1, l2, l3, l4] [aI a1, aR a0g 0 a0i] M = cbI (call 12 [aR a0g 0 a0i, aI a1] M) (fun v M => run 69 23 [l0, l1, l2, l3, l4] [aI v] M) := call_I (n := 2) rfl false d69_20 rfl rfl rfl rfl rfl rfl rfl
theorem d69_23 : decode (cod 69) 23 = .ok (.ifCond .ne 6, 3) := by decide +kernel
theorem r69_23 (l0 l1 l2 l3 l4 : AV) (a : Int32) (st : List AV) (M : Mm) : run 69 23 [l0, l1, l2, l3, l4] (aI a :: st) M = if a = 0 then run 69 26 [l0, l1, l2, l3, l4] st M else run 69 29 [l0, l1, l2, l3, l4] st M := e_ne1 29 d69_23 (by decide)
theorem d69_26 : decode (cod 69) 26 = .ok (.iconst (-1), 1) := by decide +kernel
theorem r69_26 (l0 l1 l2 l3 l4 : AV) (st : List AV) (M : Mm) : run 69 26 [l0, l1, l2, l3, l4] st M = run 69 27 [l0, l1, l2, l3, l4] (aI (-1) :: st) M := e_iconst (-1) d69_26 (by decide +kernel)
theorem d69_27 : decode (cod 69) 27 = .ok (.istore 4, 2) := by decide +kernel
theorem r69_27 (l0 l1 l2 l3 l4 : AV) (x : Int32) (st : List AV) (M : Mm) : run 69 27 [l0, l1, l2, l3, l4] (aI x :: st) M = run 69 29 [l0, l1, l2, l3, aI x] st M := e_ist [l0, l1, l2, l3, aI x] d69_27 rfl rfl
theorem d69_29 : decode (cod 69) 29 = .ok (.iload 4, 2) := by decide +kernel
theorem r69_29 (l0 l1 l2 l3 : AV) (x : Int32) (st : List AV) (M : Mm) : run 69 29 [l0, l1, l2, l3, aI x] st M = run 69 31 [l0, l1, l2, l3, aI x] (aI x :: st) M := e_ild d69_29 rfl
theorem d69_31 : decode (cod 69) 31 = .ok (.ifCond .ne 16, 3) := by decide +kernel
theorem r69_31 (l0 l1 l2 l3 l4 : AV) (a : Int32) (st : List AV) (M : Mm) : run 69 31 [l0, l1, l2, l3, l4] (aI a :: st) M = if a = 0 then run 69 34 [l0, l1, l2, l3, l4] st M else run 69 47 [l0, l1, l2, l3, l4] st M := e_ne1 47 d69_31 (by decide)
theorem d69_34 : decode (cod 69) 34 = .ok (.iload_n 3, 1) := by decide +kernel
theorem r69_34 (l0 l1 l2 l4 : AV) (x : Int32) (st : List AV) (M : Mm) : run 69 34 [l0, l1, l2, aI x, l4] st M = run 69 35 [l0, l1, l2, aI x, l4] (aI x :: st) M := e_ildn d69_34 rfl
theorem d69_35 : decode (cod 69) 35 = .ok (.ifCond .lt 8, 3) := by decide +kernel
theorem r69_35 (l0 l1 l2 l3 l4 : AV) (a : Int32) (st : List AV) (M : Mm) : run 69 35 [l0, l1, l2, l3, l4] (aI a :: st) M = if a < 0 then run 69 43 [l0, l1, l2, l3, l4] st M else run 69 38 [l0, l1, l2, l3, l4] st M := e_lt1 43 d69_35 (by decide)
theorem d69_38 : decode (cod 69) 38 = .ok (.iload_n 3, 1) := by decide +kernel
theorem r69_38 (l0 l1 l2 l4 : AV) (x : Int32) (st : List AV) (M : Mm) : run 69 38 [l0, l1, l2, aI x, l4] st M = run 69 39 [l0, l1, l2, aI x, l4] (aI x :: st) M := e_ildn d69_38 rfl
theorem d69_39 : decode (cod 69) 39 = .ok (.iconst 1, 1) := by decide +kernel
theorem r69_39 (l0 l1 l2 l3 l4 : AV) (st : List AV) (M : Mm) : run 69 39 [l0, l1, l2, l3, l4] st M = run 69 40 [l0, l1, l2, l3, l4] (aI 1 :: st) M := e_iconst 1 d69_39 (by decide +kernel)
theorem d69_40 : decode (cod 69) 40 = .ok (.if_icmp .le 7, 3) := by decide +kernel
theorem r69_40 (l0 l1 l2 l3 l4 : AV) (a b : Int32) (st : List AV) (M : Mm) : run 69 40 [l0, l1, l2, l3, l4] (aI b :: aI a :: st) M = if b < a then run 69 43 [l0, l1, l2, l3, l4] st M else run 69 47 [l0, l1, l2, l3, l4] st M := e_le2 47 d69_40 (by decide)
theorem d69_43 : decode (cod 69) 43 = .ok (.bipush (-2), 2) := by decide +kernel
theorem r69_43 (l0 l1 l2 l3 l4 : AV) (st : List AV) (M : Mm) : run 69 43 [l0, l1, l2, l3, l4] st M = run 69 45 [l0, l1, l2, l3, l4] (aI (-2) :: st) M := e_bipush (-2) d69_43 (by decide +kernel)
theorem d69_45 : decode (cod 69) 45 = .ok (.istore 4, 2) := by decide +kernel
theorem r69_45 (l0 l1 l2 l3 l4 : AV) (x : Int32) (st : List AV) (M : Mm) : run 69 45 [l0, l1, l2, l3, l4] (aI x :: st) M = run 69 47 [l0, l1, l2, l3, aI x] st M := e_ist [l0, l1, l2, l3, aI x] d69_45 rfl rfl
theorem d69_47 : decode (cod 69) 47 = .ok (.iload 4, 2) := by decide +kernel
theorem r69_47 (l0 l1 l2 l3 : AV) (x : Int32) (st : List AV) (M : Mm) : run 69 47 [l0, l1, l2, l3, aI x] st M = run 69 49 [l0, l1, l2, l3, aI x] (aI x :: st) M := e_ild d69_47 rfl
theorem d69_49 : decode (cod 69) 49 = .ok (.ireturn, 1) := by decide +kernel
theorem r69_49 (l0 l1 l2 l3 l4 : AV) (v : Int32) (M : Mm) : run 69 49 [l0, l1, l2, l3, l4] [aI v] M = some (some v, M) := e_iret d69_49 rfl
theorem c70 (g0 i0 : Nat) (x1 : Int32) (M : Mm) : call 70 [aR g0 7 i0, aI x1] M = run 70 0 [aR g0 7 i0, aI x1] [] M := call_run 70 _ _
theorem d70_0 : decode (cod 70) 0 = .ok (.aload_n 0, 1) := by decide +kernel
theorem r70_0 (l1 : AV) (xg xi : Nat) (st : List AV) (M : Mm) : run 70 0 [aR xg 7 xi, l1] st M = run 70 1 [aR xg 7 xi, l1] (aR xg 7 xi :: st) M := e_aldn d70_0 rfl
theorem d70_1 : decode (cod 70) 1 = .ok (.getfield 16, 3) := by decide +kernel
theorem r70_1 (l0 l1 : AV) (xg xi : Nat) (st : List AV) (M : Mm) : run 70 1 [l0, l1] (aR xg 7 xi :: st) M = run 70 4 [l0, l1] (aR 2 0 0 :: st) M := e_gfr (fun g => (2, 0, 0)) d70_1 rfl rfl rfl
theorem d70_4 : decode (cod 70) 4 = .ok (.aload_n 0, 1) := by decide +kernel
theorem r70_4 (l1 : AV) (xg xi : Nat) (st : List AV) (M : Mm) : run 70 4 [aR xg 7 xi, l1] st M = run 70 5 [aR xg 7 xi, l1] (aR xg 7 xi :: st) M := e_aldn d70_4 rfl
theorem d70_5 : decode (cod 70) 5 = .ok (.getfield 10, 3) := by decide +kernel
theorem r70_5 (l0 l1 : AV) (xg xi : Nat) (st : List AV) (M : Mm) : run 70 5 [l0, l1] (aR xg 7 xi :: st) M = run 70 8 [l0, l1] (aR 1 0 0 :: st) M := e_gfr (fun g => (1, 0, 0)) d70_5 rfl rfl rfl
theorem d70_8 : decode (cod 70) 8 = .ok (.invokevirtual 59, 3) := by decide +kernel
theorem r70_8 (l0 l1 : AV) (a0g a0i : Nat) (a1g a1i : Nat) (M : Mm) : run 70 8 [l0, l1] [aR a1g 0 a1i, aR a0g 0 a0i] M = cbV (call 11 [aR a0g 0 a0i, aR a1g 0 a1i] M) (fun M => run 70 11 [l0, l1] [] M) := call_V (n := 2) rfl false d70_8 rfl rfl rfl rfl rfl rfl rfl
theorem d70_11 : decode (cod 70) 11 = .ok (.aload_n 0, 1) := by decide +kernel
theorem r70_11 (l1 : AV) (xg xi : Nat) (st : List AV) (M : Mm) : run 70 11 [aR xg 7 xi, l1] st M = run 70 12 [aR xg 7 xi, l1] (aR xg 7 xi :: st) M := e_aldn d70_11 rfl
theorem d70_12 : decode (cod 70) 12 = .ok (.getfield 16, 3) := by decide +kernel
theorem r70_12 (l0 l1 : AV) (xg xi : Nat) (st : List AV) (M : Mm) : run 70 12 [l0, l1] (aR xg 7 xi :: st) M = run 70 15 [l0, l1] (aR 2 0 0 :: st) M := e_gfr (fun g => (2, 0, 0)) d70_12 rfl rfl rfl
theorem d70_15 : decode (cod 70) 15 = .ok (.iload_n 1, 1) := by decide +kernel
theorem r70_15 (l0 : AV) (x : Int32) (st : List AV) (M : Mm) : run 70 15 [l0, aI x] st M = run 70 16 [l0, aI x] (aI x :: st) M := e_ildn d70_15 rfl
theorem d70_16 : decode (cod 70) 16 = .ok (.invokevirtual 124, 3) := by decide +kernel
theorem r70_16 (l0 l1 : AV) (a0g a0i : Nat) (a1 : Int32) (M : Mm) : run 70 16 [l0, l1] [aI a1, aR a0g 0 a0i] M = cbV (call 20 [aR a0g 0 a0i, aI a1] M) (fun M => run 70 19 [l0, l1] [] M) := call_V (n := 2) rfl false d70_16 rfl rfl rfl rfl rfl rfl rfl
theorem d70_19 : decode (cod 70) 19 = .ok (.return_, 1) := by decide +kernel
theorem r70_19 (l0 l1 : AV) (M : Mm) : run 70 19 [l0, l1] [] M = some (none, M) := e_vret d70_19 rfl
theorem c71 (g0 i0 : Nat) (x1 : Int32) (M : Mm) : call 71 [aR g0 7 i0, aI x1] M = run 71 0 [aR g0 7 i0, aI x1] [] M := call_run 71 _ _
theorem d71_0 : decode (cod 71) 0 = .ok (.aload_n 0, 1) := by decide +kernel
theorem r71_0 (l1 : AV) (xg xi : Nat) (st : List AV) (M : Mm) : run 71 0 [aR xg 7 xi, l1] st M = run 71 1 [aR xg 7 xi, l1] (aR xg 7 xi :: st) M := e_aldn d71_0 rfl
theorem d71_1 : decode (cod 71) 1 = .ok (.iload_n 1, 1) := by decide +kernel
theorem r71_1 (l0 : AV) (x : Int32) (st : List AV) (M : Mm) : run 71 1 [l0, aI x] st M = run 71 2 [l0, aI x] (aI x :: st) M := e_ildn d71_1 rfl
theorem d71_2 : decode (cod 71) 2 = .ok (.invokevirtual 154, 3) := by decide +kernel
theorem r71_2 (l0 l1 : AV) (a0g a0i : Nat) (a1 : Int32) (M : Mm) : run 71 2 [l0, l1] [aI a1, aR a0g 7 a0i] M = cbV (call 70 [aR a0g 7 a0i, aI a1] M) (fun M => run 71 5 [l0, l1] [] M) := call_V (n := 2) rfl false d71_2 rfl rfl rfl rfl rfl rfl rfl
theorem d71_5 : decode (cod 71) 5 = .ok (.aload_n 0, 1) := by decide +kernel
theorem r71_5 (l1 : AV) (xg xi : Nat) (st : List AV) (M : Mm) : run 71 5 [aR xg 7 xi, l1] st M = run 71 6 [aR xg 7 xi, l1] (aR xg 7 xi :: st) M := e_aldn d71_5 rfl
theorem d71_6 : decode (cod 71) 6 = .ok (.getfield 16, 3) := by decide +kernel
theorem r71_6 (l0 l1 : AV) (xg xi : Nat) (st : List AV) (M : Mm) : run 71 6 [l0, l1] (aR xg 7 xi :: st) M = run 71 9 [l0, l1] (aR 2 0 0 :: st) M := e_gfr (fun g => (2, 0, 0)) d71_6 rfl rfl rfl
theorem d71_9 : decode (cod 71) 9 = .ok (.getfield 127, 3) := by decide +kernel
theorem r71_9 (l0 l1 : AV) (xg xi : Nat) (st : List AV) (M : Mm) : run 71 9 [l0, l1] (aR xg 0 xi :: st) M = run 71 12 [l0, l1] (aR xg 5 0 :: st) M := e_gfr (fun g => (g, 5, 0)) d71_9 rfl rfl rfl
theorem d71_12 : decode (cod 71) 12 = .ok (.getfield 131, 3) := by decide +kernel
theorem r71_12 (l0 l1 : AV) (xg xi : Nat) (st : List AV) (M : Mm) : run 71 12 [l0, l1] (aR xg 5 xi :: st) M = run 71 15 [l0, l1] (aI (M xg 5 xi 1) :: st) M := e_gfi d71_12 rfl rfl rfl
theorem d71_15 : decode (cod 71) 15 = .ok (.ireturn, 1) := by decide +kernel
theorem r71_15 (l0 l1 : AV) (v : Int32) (M : Mm) : run 71 15 [l0, l1] [aI v] M = some (some v, M) := e_iret d71_15 rfl
theorem c72 (g0 i0 : Nat) (x1 : Int32) (x2 : Int32) (x3 : Int32) (M : Mm) : call 72 [aR g0 7 i0, aI x1, aI x2, aI x3] M = run 72 0 [aR g0 7 i0, aI x1, aI x2, aI x3] [] M := call_run 72 _ _
theorem d72_0 : decode (cod 72) 0 = .ok (.aload_n 0, 1) := by decide +kernel
theorem r72_0 (l1 l2 l3 : AV) (xg xi : Nat) (st : List AV) (M : Mm) : run 72 0 [aR xg 7 xi, l1, l2, l3] st M = run 72 1 [aR xg 7 xi, l1, l2, l3] (aR xg 7 xi :: st) M := e_aldn d72_0 rfl
theorem d72_1 : decode (cod 72) 1 = .ok (.getfield 16, 3) := by decide +kernel
theorem r72_1 (l0 l1 l2 l3 : AV) (xg xi : Nat) (st : List AV) (M : Mm) : run 72 1 [l0, l1, l2, l3] (aR xg 7 xi :: st) M = run 72 4 [l0, l1, l2, l3] (aR 2 0 0 :: st) M := e_gfr (fun g => (2, 0, 0)) d72_1 rfl rfl rfl
theorem d72_4 : decode (cod 72) 4 = .ok (.aload_n 0, 1) := by decide +kernel
theorem r72_4 (l1 l2 l3 : AV) (xg xi : Nat) (st : List AV) (M : Mm) : run 72 4 [aR xg 7 xi, l1, l2, l3] st M = run 72 5 [aR xg 7 xi, l1, l2, l3] (aR xg 7 xi :: st) M := e_aldn d72_4 rfl
theorem d72_5 : decode (cod 72) 5 = .ok (.getfield 10, 3) := by decide +kernel
theorem r72_5 (l0 l1 l2 l3 : AV) (xg xi : Nat) (st : List AV) (M : Mm) : run 72 5 [l0, l1, l2, l3] (aR xg 7 xi :: st) M = run 72 8 [l0, l1, l2, l3] (aR 1 0 0 :: st) M := e_gfr (fun g => (1, 0, 0)) d72_5 rfl rfl rfl
theorem d72_8 : decode (cod 72) 8 = .ok (.invokevirtual 59, 3) := by decide +kernel
theorem r72_8 (l0 l1 l2 l3 : AV) (a0g a0i : Nat) (a1g a1i : Nat) (M : Mm) : run 72 8 [l0, l1, l2, l3] [aR a1g 0 a1i, aR a0g 0 a0i] M = cbV (call 11 [aR a0g 0 a0i, aR a1g 0 a1i] M) (fun M => run 72 11 [l0, l1, l2, l3] [] M) := call_V (n := 2) rfl false d72_8 rfl rfl rfl rfl rfl rfl rfl
theorem d72_11 : decode (cod 72) 11 = .ok (.aload_n 0, 1) := by decide +kernel
theorem r72_11 (l1 l2 l3 : AV) (xg xi : Nat) (st : List AV) (M : Mm) : run 72 11 [aR xg 7 xi, l1, l2, l3] st M = run 72 12 [aR xg 7 xi, l1, l2, l3] (aR xg 7 xi :: st) M := e_aldn d72_11 rfl
theorem d72_12 : decode (cod 72) 12 = .ok (.getfield 16, 3) := by decide +kernel
theorem r72_12 (l0 l1 l2 l3 : AV) (xg xi : Nat) (st : List AV) (M : Mm) : run 72 12 [l0, l1, l2, l3] (aR xg 7 xi :: st) M = run 72 15 [l0, l1, l2, l3] (aR 2 0 0 :: st) M := e_gfr (fun g => (2, 0, 0)) d72_12 rfl rfl rfl
theorem d72_15 : decode (cod 72) 15 = .ok (.iload_n 1, 1) := by decide +kernel
theorem r72_15 (l0 l2 l3 : AV) (x : Int32) (st : List AV) (M : Mm) : run 72 15 [l0, aI x, l2, l3] st M = run 72 16 [l0, aI x, l2, l3] (aI x :: st) M := e_ildn d72_15 rfl
theorem d72_16 : decode (cod 72) 16 = .ok (.iload_n 2, 1) := by decide +kernel
theorem r72_16 (l0 l1 l3 : AV) (x : Int32) (st : List AV) (M : Mm) : run 72 16 [l0, l1, aI x, l3] st M = run 72 17 [l0, l1, aI x, l3] (aI x :: st) M := e_ildn d72_16 rfl
theorem d72_17 : decode (cod 72) 17 = .ok (.invokevirtual 117, 3) := by decide +kernel
theorem r72_17 (l0 l1 l2 l3 : AV) (a0g a0i : Nat) (a1 : Int32) (a2 : Int32) (M : Mm) : run 72 17 [l0, l1, l2, l3] [aI a2, aI a1, aR a0g 0 a0i] M = cbV (call 17 [aR a0g 0 a0i, aI a1, aI a2] M) (fun M => run 72 20 [l0, l1, l2, l3] [] M) := call_V (n := 3) rfl false d72_17 rfl rfl rfl rfl rfl rfl rfl
theorem d72_20 : decode (cod 72) 20 = .ok (.aload_n 0, 1) := by decide +kernel
theorem r72_20 (l1 l2 l3 : AV) (xg xi : Nat) (st : List AV) (M : Mm) : run 72 20 [aR xg 7 xi, l1, l2, l3] st M = run 72 21 [aR xg 7 xi, l1, l2, l3] (aR xg 7 xi :: st) M := e_aldn d72_20 rfl
theorem d72_21 : decode (cod 72) 21 = .ok (.getfield 16, 3) := by decide +kernel
theorem r72_21 (l0 l1 l2 l3 : AV) (xg xi : Nat) (st : List AV) (M : Mm) : run 72 21 [l0, l1, l2, l3] (aR xg 7 xi :: st) M = run 72 24 [l0, l1, l2, l3] (aR 2 0 0 :: st) M := e_gfr (fun g => (2, 0, 0)) d72_21 rfl rfl rfl
theorem d72_24 : decode (cod 72) 24 = .ok (.iload_n 3, 1) := by decide +kernel
theorem r72_24 (l0 l1 l2 : AV) (x : Int32) (st : List AV) (M : Mm) : run 72 24 [l0, l1, l2, aI x] st M = run 72 25 [l0, l1, l2, aI x] (aI x :: st) M := e_ildn d72_24 rfl
theorem d72_25 : decode (cod 72) 25 = .ok (.invokevirtual 124, 3) := by decide +kernel
theorem r72_25 (l0 l1 l2 l3 : AV) (a0g a0i : Nat) (a1 : Int32) (M : Mm) : run 72 25 [l0, l1, l2, l3] [aI a1, aR a0g 0 a0i] M = cbV (call 20 [aR a0g 0 a0i, aI a1] M) (fun M => run 72 28 [l0, l1, l2, l3] [] M) := call_V (n := 2) rfl false d72_25 rfl rfl rfl rfl rfl rfl rfl
theorem d72_28 : decode (cod 72) 28 = .ok (.aload_n 0, 1) := by decide +kernel
theorem r72_28 (l1 l2 l3 : AV) (xg xi : Nat) (st : List AV) (M : Mm) : run 72 28 [aR xg 7 xi, l1, l2, l3] st M = run 72 29 [aR xg 7 xi, l1, l2, l3] (aR xg 7 xi :: st) M := e_aldn d72_28 rfl
theorem d72_29 : decode (cod 72) 29 = .ok (.getfield 16, 3) := by decide +kernel
theorem r72_29 (l0 l1 l2 l3 : AV) (xg xi : Nat) (st : List AV) (M : Mm) : run 72 29 [l0, l1, l2, l3] (aR xg 7 xi :: st) M = run 72 32 [l0, l1, l2, l3] (aR 2 0 0 :: st) M := e_gfr (fun g => (2, 0, 0)) d72_29 rfl rfl rfl
theorem d72_32 : decode (cod 72) 32 = .ok (.getfield 127, 3) := by decide +kernel
theorem r72_32 (l0 l1 l2 l3 : AV) (xg xi : Nat) (st : List AV) (M : Mm) : run 72 32 [l0, l1, l2, l3] (aR xg 0 xi :: st) M = run 72 35 [l0, l1, l2, l3] (aR xg 5 0 :: st) M := e_gfr (fun g => (g, 5, 0)) d72_32 rfl rfl rfl
theorem d72_35 : decode (cod 72) 35 = .ok (.getfield 131, 3) := by decide +kernel
theorem r72_35 (l0 l1 l2 l3 : AV) (xg xi : Nat) (st : List AV) (M : Mm) : run 72 35 [l0, l1, l2, l3] (aR xg 5 xi :: st) M = run 72 38 [l0, l1, l2, l3] (aI (M xg 5 xi 1) :: st) M := e_gfi d72_35 rfl rfl rfl
theorem d72_38 : decode (cod 72) 38 = .ok (.ireturn, 1) := by decide +kernel
theorem r72_38 (l0 l1 l2 l3 : AV) (v : Int32) (M : Mm) : run 72 38 [l0, l1, l2, l3] [aI v] M = some (some v, M) := e_iret d72_38 rfl
theorem c73 (g0 i0 : Nat) (x1 : Int32) (x2 : Int32) (M : Mm) : call 73 [aR g0 7 i0, aI x1, aI x2] M = run 73 0 [aR g0 7 i0, aI x1, aI x2] [] M := call_run 73 _ _
theorem d73_0 : decode (cod 73) 0 = .ok (.aload_n 0, 1) := by decide +kernel
theorem r73_0 (l1 l2 : AV) (xg xi : Nat) (st : List AV) (M : Mm) : run 73 0 [aR xg 7 xi, l1, l2] st M = run 73 1 [aR xg 7 xi, l1, l2] (aR xg 7 xi :: st) M := e_aldn d73_0 rfl
theorem d73_1 : decode (cod 73) 1 = .ok (.getfield 16, 3) := by decide +kernel
theorem r73_1 (l0 l1 l2 : AV) (xg xi : Nat) (st : List AV) (M : Mm) : run 73 1 [l0, l1, l2] (aR xg 7 xi :: st) M = run 73 4 [l0, l1, l2] (aR 2 0 0 :: st) M := e_gfr (fun g => (2, 0, 0)) d73_1 rfl rfl rfl
theorem d73_4 : decode (cod 73) 4 = .ok (.aload_n 0, 1) := by decide +kernel
theorem r73_4 (l1 l2 : AV) (xg xi : Nat) (st : List AV) (M : Mm) : run 73 4 [aR xg 7 xi, l1, l2] st M = run 73 5 [aR xg 7 xi, l1, l2] (aR xg 7 xi :: st) M := e_aldn d73_4 rfl
theorem d73_5 : decode (cod 73) 5 = .ok (.getfield 10, 3) := by decide +kernel
theorem r73_5 (l0 l1 l2 : AV) (xg xi : Nat) (st : List AV) (M : Mm) : run 73 5 [l0, l1, l2] (aR xg 7 xi :: st) M = run 73 8 [l0, l1, l2] (aR 1 0 0 :: st) M := e_gfr (fun g => (1, 0, 0)) d73_5 rfl rfl rfl
theorem d73_8 : decode (cod 73) 8 = .ok (.invokevirtual 59, 3) := by decide +kernel
theorem r73_8 (l0 l1 l2 : AV) (a0g a0i : Nat) (a1g a1i : Nat) (M : Mm) : run 73 8 [l0, l1, l2] [aR a1g 0 a1i, aR a0g 0 a0i] M = cbV (call 11 [aR a0g 0 a0i, aR a1g 0 a1i] M) (fun M => run 73 11 [l0, l1, l2] [] M) := call_V (n := 2) rfl false d73_8 rfl rfl rfl rfl rfl rfl rfl
theorem d73_11 : decode (cod 73) 11 = .ok (.aload_n 0, 1) := by decide +kernel
theorem r73_11 (l1 l2 : AV) (xg xi : Nat) (st : List AV) (M : Mm) : run 73 11 [aR xg 7 xi, l1, l2] st M = run 73 12 [aR xg 7 xi, l1, l2] (aR xg 7 xi :: st) M := e_aldn d73_11 rfl
theorem d73_12 : decode (cod 73) 12 = .ok (.getfield 16, 3) := by decide +kernel
theorem r73_12 (l0 l1 l2 : AV) (xg xi : Nat) (st : List AV) (M : Mm) : run 73 12 [l0, l1, l2] (aR xg 7 xi :: st) M = run 73 15 [l0, l1, l2] (aR 2 0 0 :: st) M := e_gfr (fun g => (2, 0, 0)) d73_12 rfl rfl rfl
theorem d73_15 : decode (cod 73) 15 = .ok (.iload_n 1, 1) := by decide +kernel
theorem r73_15 (l0 l2 : AV) (x : Int32) (st : List AV) (M : Mm) : run 73 15 [l0, aI x, l2] st M = run 73 16 [l0, aI x, l2] (aI x :: st) M := e_ildn d73_15 rfl
theorem d73_16 : decode (cod 73) 16 = .ok (.putfield 253, 3) := by decide +kernel
theorem r73_16 (l0 l1 l2 : AV) (v : Int32) (xg xi : Nat) (st : List AV) (M : Mm) : run 73 16 [l0, l1, l2] (aI v :: aR xg 0 xi :: st) M = run 73 19 [l0, l1, l2] st (wr M xg 0 xi 14 v) := e_pfi d73_16 rfl rfl rfl rfl
theorem d73_19 : decode (cod 73) 19 = .ok (.aload_n 0, 1) := by decide +kernel
theorem r73_19 (l1 l2 : AV) (xg xi : Nat) (st : List AV) (M : Mm) : run 73 19 [aR xg 7 xi, l1, l2] st M = run 73 20 [aR xg 7 xi, l1, l2] (aR xg 7 xi :: st) M := e_aldn d73_19 rfl
theorem d73_20 : decode (cod 73) 20 = .ok (.getfield 16, 3) := by decide +kernel
theorem r73_20 (l0 l1 l2 : AV) (xg xi : Nat) (st : List AV) (M : Mm) : run 73 20 [l0, l1, l2] (aR xg 7 xi :: st) M = run 73 23 [l0, l1, l2] (aR 2 0 0 :: st) M := e_gfr (fun g => (2, 0, 0)) d73_20 rfl rfl rfl
theorem d73_23 : decode (cod 73) 23 = .ok (.iload_n 2, 1) := by decide +kernel
theorem r73_23 (l0 l1 : AV) (x : Int32) (st : List AV) (M : Mm) : run 73 23 [l0, l1, aI x] st M = run 73 24 [l0, l1, aI x] (aI x :: st) M := e_ildn d73_23 rfl
theorem d73_24 : decode (cod 73) 24 = .ok (.invokevirtual 124, 3) := by decide +kernel
theorem r73_24 (l0 l1 l2 : AV) (a0g a0i : Nat) (a1 : Int32) (M : Mm) : run 73 24 [l0, l1, l2] [aI a1, aR a0g 0 a0i] M = cbV (call 20 [aR a0g 0 a0i, aI a1] M) (fun M => run 73 27 [l0, l1, l2] [] M) := call_V (n := 2) rfl false d73_24 rfl rfl rfl rfl rfl rfl rfl
theorem d73_27 : decode (cod 73) 27 = .ok (.return_, 1) := by decide +kernel
theorem r73_27 (l0 l1 l2 : AV) (M : Mm) : run 73 27 [l0, l1, l2] [] M = some (none, M) := e_vret d73_27 rfl
theorem c74 (g0 i0 : Nat) (x1 : Int32) (x2 : Int32) (x3 : Int32) (M : Mm) : call 74 [aR g0 7 i0, aI x1, aI x2, aI x3] M = run 74 0 [aR g0 7 i0, aI x1, aI x2, aI x3, none, none, none, none] [] M := call_run 74 _ _
theorem d74_0 : decode (cod 74) 0 = .ok (.getstatic 108, 3) := by decide +kernel
theorem r74_0 (l0 l1 l2 l3 l4 l5 l6 l7 : AV) (st : List AV) (M : Mm) : run 74 0 [l0, l1, l2, l3, l4, l5, l6, l7] st M = run 74 3 [l0, l1, l2, l3, l4, l5, l6, l7] (aR 9 33 0 :: st) M := e_gst (k := 33) (pl := 489) d74_0 rfl
theorem d74_3 : decode (cod 74) 3 = .ok (.iload_n 1, 1) := by decide +kernel
theorem r74_3 (l0 l2 l3 l4 l5 l6 l7 : AV) (x : Int32) (st : List AV) (M : Mm) : run 74 3 [l0, aI x, l2, l3, l4, l5, l6, l7] st M = run 74 4 [l0, aI x, l2, l3, l4, l5, l6, l7] (aI x :: st) M := e_ildn d74_3 rfl
theorem d74_4 : decode (cod 74) 4 = .ok (.iaload, 1) := by decide +kernel
theorem r74_4 (l0 l1 l2 l3 l4 l5 l6 l7 : AV) (i : Int32) (xg xi : Nat) (st : List AV) (M : Mm) : run 74 4 [l0, l1, l2, l3, l4, l5, l6, l7] (aI i :: aR xg 33 xi :: st) M = if vpB i 7 = true then run 74 5 [l0, l1, l2, l3, l4, l5, l6, l7] (aI (stV 33 i.toNatClampNeg) :: st) M else none := e_ialk d74_4
theorem d74_5 : decode (cod 74) 5 = .ok (.istore 4, 2) := by decide +kernel
theorem r74_5 (l0 l1 l2 l3 l4 l5 l6 l7 : AV) (x : Int32) (st : List AV) (M : Mm) : run 74 5 [l0, l1, l2, l3, l4, l5, l6, l7] (aI x :: st) M = run 74 7 [l0, l1, l2, l3, aI x, l5, l6, l7] st M := e_ist [l0, l1, l2, l3, aI x, l5, l6, l7] d74_5 rfl rfl
theorem d74_7 : decode (cod 74) 7 = .ok (.iconst (-1), 1) := by decide +kernel
theorem r74_7 (l0 l1 l2 l3 l4 l5 l6 l7 : AV) (st : List AV) (M : Mm) : run 74 7 [l0, l1, l2, l3, l4, l5, l6, l7] st M = run 74 8 [l0, l1, l2, l3, l4, l5, l6, l7] (aI (-1) :: st) M := e_iconst (-1) d74_7 (by decide +kernel)
theorem d74_8 : decode (cod 74) 8 = .ok (.istore 5, 2) := by decide +kernel
theorem r74_8 (l0 l1 l2 l3 l4 l5 l6 l7 : AV) (x : Int32) (st : List AV) (M : Mm) : run 74 8 [l0, l1, l2, l3, l4, l5, l6, l7] (aI x :: st) M = run 74 10 [l0, l1, l2, l3, l4, aI x, l6, l7] st M := e_ist [l0, l1, l2, l3, l4, aI x, l6, l7] d74_8 rfl rfl
theorem d74_10 : decode (cod 74) 10 = .ok (.getstatic 108, 3) := by decide +kernel
theorem r74_10 (l0 l1 l2 l3 l4 l5 l6 l7 : AV) (st : List AV) (M : Mm) : run 74 10 [l0, l1, l2, l3, l4, l5, l6, l7] st M = run 74 13 [l0, l1, l2, l3, l4, l5, l6, l7] (aR 9 33 0 :: st) M := e_gst (k := 33) (pl := 489) d74_10 rfl
theorem d74_13 : decode (cod 74) 13 = .ok (.iload_n 1, 1) := by decide +kernel
theorem r74_13 (l0 l2 l3 l4 l5 l6 l7 : AV) (x : Int32) (st : List AV) (M : Mm) : run 74 13 [l0, aI x, l2, l3, l4, l5, l6, l7] st M = run 74 14 [l0, aI x, l2, l3, l4, l5, l6, l7] (aI x :: st) M := e_ildn d74_13 rfl
theorem d74_14 : decode (cod 74) 14 = .ok (.iaload, 1) := by decide +kernel
theorem r74_14 (l0 l1 l2 l3 l4 l5 l6 l7 : AV) (i : Int32) (xg xi : Nat) (st : List AV) (M : Mm) : run 74 14 [l0, l1, l2, l3, l4, l5, l6, l7] (aI i :: aR xg 33 xi :: st) M = if vpB i 7 = true then run 74 15 [l0, l1, l2, l3, l4, l5, l6, l7] (aI (stV 33 i.toNatClampNeg) :: st) M else none := e_ialk d74_14
theorem d74_15 : decode (cod 74) 15 = .ok (.istore 6, 2) := by decide +kernel
theorem r74_15 (l0 l1 l2 l3 l4 l5 l6 l7 : AV) (x : Int32) (st : List AV) (M : Mm) : run 74 15 [l0, l1, l2, l3, l4, l5, l6, l7] (aI x :: st) M = run 74 17 [l0, l1, l2, l3, l4, l5, aI x, l7] st M := e_ist [l0, l1, l2, l3, l4, l5, aI x, l7] d74_15 rfl rfl
theorem d74_17 : decode (cod 74) 17 = .ok (.iload 6, 2) := by decide +kernel
theorem r74_17 (l0 l1 l2 l3 l4 l5 l7 : AV) (x : Int32) (st : List AV) (M : Mm) : run 74 17 [l0, l1, l2, l3, l4, l5, aI x, l7] st M = run 74 19 [l0, l1, l2, l3, l4, l5, aI x, l7] (aI x :: st) M := e_ild d74_17 rfl
theorem d74_19 : decode (cod 74) 19 = .ok (.getstatic 111, 3) := by decide +kernel
theorem r74_19 (l0 l1 l2 l3 l4 l5 l6 l7 : AV) (st : List AV) (M : Mm) : run 74 19 [l0, l1, l2, l3, l4, l5, l6, l7] st M = run 74 22 [l0, l1, l2, l3, l4, l5, l6, l7] (aR 9 34 0 :: st) M := e_gst (k := 34) (pl := 491) d74_19 rfl
theorem d74_22 : decode (cod 74) 22 = .ok (.iload_n 1, 1) := by decide +kernel
theorem r74_22 (l0 l2 l3 l4 l5 l6 l7 : AV) (x : Int32) (st : List AV) (M : Mm) : run 74 22 [l0, aI x, l2, l3, l4, l5, l6, l7] st M = run 74 23 [l0, aI x, l2, l3, l4, l5, l6, l7] (aI x :: st) M := e_ildn d74_22 rfl
theorem d74_23 : decode (cod 74) 23 = .ok (.iaload, 1) := by decide +kernel
theorem r74_23 (l0 l1 l2 l3 l4 l5 l6 l7 : AV) (i : Int32) (xg xi : Nat) (st : List AV) (M : Mm) : run 74 23 [l0, l1, l2, l3, l4, l5, l6, l7] (aI i :: aR xg 34 xi :: st) M = if vpB i 7 = true then run 74 24 [l0, l1, l2, l3, l4, l5, l6, l7] (aI (stV 34 i.toNatClampNeg) :: st) M else none := e_ialk d74_23
theorem d74_24 : decode (cod 74) 24 = .ok (.if_icmp .gt 37, 3) := by decide +kernel
theorem r74_24 (l0 l1 l2 l3 l4 l5 l6 l7 : AV) (a b : Int32) (st : List AV) (M : Mm) : run 74 24 [l0, l1, l2, l3, l4, l5, l6, l7] (aI b :: aI a :: st) M = if b < a then run 74 61 [l0, l1, l2, l3, l4, l5, l6, l7] st M else run 74 27 [l0, l1, l2, l3, l4, l5, l6, l7] st M := e_gt2 61 d74_24 (by decide)
theorem d74_27 : decode (cod 74) 27 = .ok (.aload_n 0, 1) := by decide +kernel
theorem r74_27 (l1 l2 l3 l4 l5 l6 l7 : AV) (xg xi : Nat) (st : List AV) (M : Mm) : run 74 27 [aR xg 7 xi, l1, l2, l3, l4, l5, l6, l7] st M = run 74 28 [aR xg 7 xi, l1, l2, l3, l4, l5, l6, l7] (aR xg 7 xi :: st) M := e_aldn d74_27 rfl
theorem d74_28 : decode (cod 74) 28 = .ok (.iload_n 1, 1) := by decide +kernel
theorem r74_28 (l0 l2 l3 l4 l5 l6 l7 : AV) (x : Int32) (st : List AV) (M : Mm) : run 74 28 [l0, aI x, l2, l3, l4, l5, l6, l7] st M = run 74 29 [l0, aI x, l2, l3, l4, l5, l6, l7] (aI x :: st) M := e_ildn d74_28 rfl
theorem d74_29 : decode (cod 74) 29 = .ok (.iload 6, 2) := by decide +kernel
theorem r74_29 (l0 l1 l2 l3 l4 l5 l7 : AV) (x : Int32) (st : List AV) (M : Mm) : run 74 29 [l0, l1, l2, l3, l4, l5, aI x, l7] st M = run 74 31 [l0, l1, l2, l3, l4, l5, aI x, l7] (aI x :: st) M := e_ild d74_29 rfl
theorem d74_31 : decode (cod 74) 31 = .ok (.iload_n 3, 1) := by decide +kernel
theorem r74_31 (l0 l1 l2 l4 l5 l6 l7 : AV) (x : Int32) (st : List AV) (M : Mm) : run 74 31 [l0, l1, l2, aI x, l4, l5, l6, l7] st M = run 74 32 [l0, l1, l2, aI x, l4, l5, l6, l7] (aI x :: st) M := e_ildn d74_31 rfl
theorem d74_32 : decode (cod 74) 32 = .ok (.invokevirtual 176, 3) := by decide +kernel
theorem r74_32 (l0 l1 l2 l3 l4 l5 l6 l7 : AV) (a0g a0i : Nat) (a1 : Int32) (a2 : Int32) (a3 : Int32) (M : Mm) : run 74 32 [l0, l1, l2, l3, l4, l5, l6, l7] [aI a3, aI a2, aI a1, aR a0g 7 a0i] M = cbI (call 72 [aR a0g 7 a0i, aI a1, aI a2, aI a3] M) (fun v M => run 74 35 [l0, l1, l2, l3, l4, l5, l6, l7] [aI v] M) := call_I (n := 4) rfl false d74_32 rfl rfl rfl rfl rfl rfl rfl
theorem d74_35 : decode (cod 74) 35 = .ok (.istore 7, 2) := by decide +kernel
theorem r74_35 (l0 l1 l2 l3 l4 l5 l6 l7 : AV) (x : Int32) (st : List AV) (M : Mm) : run 74 35 [l0, l1, l2, l3, l4, l5, l6, l7] (aI x :: st) M = run 74 37 [l0, l1, l2, l3, l4, l5, l6, aI x] st M := e_ist [l0, l1, l2, l3, l4, l5, l6, aI x] d74_35 rfl rfl
theorem d74_37 : decode (cod 74) 37 = .ok (.iload 7, 2) := by decide +kernel
theorem r74_37 (l0 l1 l2 l3 l4 l5 l6 : AV) (x : Int32) (st : List AV) (M : Mm) : run 74 37 [l0, l1, l2, l3, l4, l5, l6, aI x] st M = run 74 39 [l0, l1, l2, l3, l4, l5, l6, aI x] (aI x :: st) M := e_ild d74_37 rfl
theorem d74_39 : decode (cod 74) 39 = .ok (.iload 5, 2) := by decide +kernel
theorem r74_39 (l0 l1 l2 l3 l4 l6 l7 : AV) (x : Int32) (st : List AV) (M : Mm) : run 74 39 [l0, l1, l2, l3, l4, aI x, l6, l7] st M = run 74 41 [l0, l1, l2, l3, l4, aI x, l6, l7] (aI x :: st) M := e_ild d74_39 rfl
theorem d74_41 : decode (cod 74) 41 = .ok (.if_icmp .le 11, 3) := by decide +kernel
theorem r74_41 (l0 l1 l2 l3 l4 l5 l6 l7 : AV) (a b : Int32) (st : List AV) (M : Mm) : run 74 41 [l0, l1, l2, l3, l4, l5, l6, l7] (aI b :: aI a :: st) M = if b < a then run 74 44 [l0, l1, l2, l3, l4, l5, l6, l7] st M else run 74 52 [l0, l1, l2, l3, l4, l5, l6, l7] st M := e_le2 52 d74_41 (by decide)
theorem d74_44 : decode (cod 74) 44 = .ok (.iload 6, 2) := by decide +kernel
theorem r74_44 (l0 l1 l2 l3 l4 l5 l7 : AV) (x : Int32) (st : List AV) (M : Mm) : run 74 44 [l0, l1, l2, l3, l4, l5, aI x, l7] st M = run 74 46 [l0, l1, l2, l3, l4, l5, aI x, l7] (aI x :: st) M := e_ild d74_44 rfl
theorem d74_46 : decode (cod 74) 46 = .ok (.istore 4, 2) := by decide +kernel
theorem r74_46 (l0 l1 l2 l3 l4 l5 l6 l7 : AV) (x : Int32) (st : List AV) (M : Mm) : run 74 46 [l0, l1, l2, l3, l4, l5, l6, l7] (aI x :: st) M = run 74 48 [l0, l1, l2, l3, aI x, l5, l6, l7] st M := e_ist [l0, l1, l2, l3, aI x, l5, l6, l7] d74_46 rfl rfl
theorem d74_48 : decode (cod 74) 48 = .ok (.iload 7, 2) := by decide +kernel
theorem r74_48 (l0 l1 l2 l3 l4 l5 l6 : AV) (x : Int32) (st : List AV) (M : Mm) : run 74 48 [l0, l1, l2, l3, l4, l5, l6, aI x] st M = run 74 50 [l0, l1, l2, l3, l4, l5, l6, aI x] (aI x :: st) M := e_ild d74_48 rfl
theorem d74_50 : decode (cod 74) 50 = .ok (.istore 5, 2) := by decide +kernel
theorem r74_50 (l0 l1 l2 l3 l4 l5 l6 l7 : AV) (x : Int32) (st : List AV) (M : Mm) : run 74 50 [l0, l1, l2, l3, l4, l5, l6, l7] (aI x :: st) M = run 74 52 [l0, l1, l2, l3, l4, aI x, l6, l7] st M := e_ist [l0, l1, l2, l3, l4, aI x, l6, l7] d74_50 rfl rfl
theorem d74_52 : decode (cod 74) 52 = .ok (.iload 6, 2) := by decide +kernel
theorem r74_52 (l0 l1 l2 l3 l4 l5 l7 : AV) (x : Int32) (st : List AV) (M : Mm) : run 74 52 [l0, l1, l2, l3, l4, l5, aI x, l7] st M = run 74 54 [l0, l1, l2, l3, l4, l5, aI x, l7] (aI x :: st) M := e_ild d74_52 rfl
theorem d74_54 : decode (cod 74) 54 = .ok (.iload_n 2, 1) := by decide +kernel
theorem r74_54 (l0 l1 l3 l4 l5 l6 l7 : AV) (x : Int32) (st : List AV) (M : Mm) : run 74 54 [l0, l1, aI x, l3, l4, l5, l6, l7] st M = run 74 55 [l0, l1, aI x, l3, l4, l5, l6, l7] (aI x :: st) M := e_ildn d74_54 rfl
theorem d74_55 : decode (cod 74) 55 = .ok (.iadd, 1) := by decide +kernel
theorem r74_55 (l0 l1 l2 l3 l4 l5 l6 l7 : AV) (a b : Int32) (st : List AV) (M : Mm) : run 74 55 [l0, l1, l2, l3, l4, l5, l6, l7] (aI b :: aI a :: st) M = run 74 56 [l0, l1, l2, l3, l4, l5, l6, l7] (aI (a + b) :: st) M := e_iadd d74_55
theorem d74_56 : decode (cod 74) 56 = .ok (.istore 6, 2) := by decide +kernel
theorem r74_56 (l0 l1 l2 l3 l4 l5 l6 l7 : AV) (x : Int32) (st : List AV) (M : Mm) : run 74 56 [l0, l1, l2, l3, l4, l5, l6, l7] (aI x :: st) M = run 74 58 [l0, l1, l2, l3, l4, l5, aI x, l7] st M := e_ist [l0, l1, l2, l3, l4, l5, aI x, l7] d74_56 rfl rfl
theorem d74_58 : decode (cod 74) 58 = .ok (.goto (-41), 3) := by decide +kernel
theorem r74_58 (l0 l1 l2 l3 l4 l5 l6 l7 : AV) (st : List AV) (M : Mm) : run 74 58 [l0, l1, l2, l3, l4, l5, l6, l7] st M = run 74 17 [l0, l1, l2, l3, l4, l5, l6, l7] st M := e_goto 17 d74_58 (by decide)
theorem d74_61 : decode (cod 74) 61 = .ok (.iload 4, 2) := by decide +kernel
theorem r74_61 (l0 l1 l2 l3 l5 l6 l7 : AV) (x : Int32) (st : List AV) (M : Mm) : run 74 61 [l0, l1, l2, l3, aI x, l5, l6, l7] st M = run 74 63 [l0, l1, l2, l3, aI x, l5, l6, l7] (aI x :: st) M := e_ild d74_61 rfl
theorem d74_63 : decode (cod 74) 63 = .ok (.ireturn, 1) := by decide +kernel
theorem r74_63 (l0 l1 l2 l3 l4 l5 l6 l7 : AV) (v : Int32) (M : Mm) : run 74 63 [l0, l1, l2, l3, l4, l5, l6, l7] [aI v] M = some (some v, M) := e_iret d74_63 rfl
theorem c75 (g0 i0 : Nat) (x1 : Int32) (M : Mm) : call 75 [aR g0 7 i0, aI x1] M = run 75 0 [aR g0 7 i0, aI x1, none] [] M := call_run 75 _ _
theorem d75_0 : decode (cod 75) 0 = .ok (.iconst 0, 1) := by decide +kernel
theorem r75_0 (l0 l1 l2 : AV) (st : List AV) (M : Mm) : run 75 0 [l0, l1, l2] st M = run 75 1 [l0, l1, l2] (aI 0 :: st) M := e_iconst 0 d75_0 (by decide +kernel)
theorem d75_1 : decode (cod 75) 1 = .ok (.istore_n 2, 1) := by decide +kernel
theorem r75_1 (l0 l1 l2 : AV) (x : Int32) (st : List AV) (M : Mm) : run 75 1 [l0, l1, l2] (aI x :: st) M = run 75 2 [l0, l1, aI x] st M := e_istn [l0, l1, aI x] d75_1 rfl rfl
theorem d75_2 : decode (cod 75) 2 = .ok (.iload_n 2, 1) := by decide +kernel
theorem r75_2 (l0 l1 : AV) (x : Int32) (st : List AV) (M : Mm) : run 75 2 [l0, l1, aI x] st M = run 75 3 [l0, l1, aI x] (aI x :: st) M := e_ildn d75_2 rfl
theorem d75_3 : decode (cod 75) 3 = .ok (.iconst 1, 1) := by decide +kernel
theorem r75_3 (l0 l1 l2 : AV) (st : List AV) (M : Mm) : run 75 3 [l0, l1, l2] st M = run 75 4 [l0, l1, l2] (aI 1 :: st) M := e_iconst 1 d75_3 (by decide +kernel)
theorem d75_4 : decode (cod 75) 4 = .ok (.iadd, 1) := by decide +kernel
theorem r75_4 (l0 l1 l2 : AV) (a b : Int32) (st : List AV) (M : Mm) : run 75 4 [l0, l1, l2] (aI b :: aI a :: st) M = run 75 5 [l0, l1, l2] (aI (a + b) :: st) M := e_iadd d75_4
theorem d75_5 : decode (cod 75) 5 = .ok (.aload_n 0, 1) := by decide +kernel
theorem r75_5 (l1 l2 : AV) (xg xi : Nat) (st : List AV) (M : Mm) : run 75 5 [aR xg 7 xi, l1, l2] st M = run 75 6 [aR xg 7 xi, l1, l2] (aR xg 7 xi :: st) M := e_aldn d75_5 rfl
theorem d75_6 : decode (cod 75) 6 = .ok (.getfield 37, 3) := by decide +kernel
theorem r75_6 (l0 l1 l2 : AV) (xg xi : Nat) (st : List AV) (M : Mm) : run 75 6 [l0, l1, l2] (aR xg 7 xi :: st) M = run 75 9 [l0, l1, l2] (aI (M xg 7 xi 6) :: st) M := e_gfi d75_6 rfl rfl rfl
theorem d75_9 : decode (cod 75) 9 = .ok (.if_icmp .ge 30, 3) := by decide +kernel
theorem r75_9 (l0 l1 l2 : AV) (a b : Int32) (st : List AV) (M : Mm) : run 75 9 [l0, l1, l2] (aI b :: aI a :: st) M = if a < b then run 75 12 [l0, l1, l2] st M else run 75 39 [l0, l1, l2] st M := e_ge2 39 d75_9 (by decide)
theorem d75_12 : decode (cod 75) 12 = .ok (.aload_n 0, 1) := by decide +kernel
theorem r75_12 (l1 l2 : AV) (xg xi : Nat) (st : List AV) (M : Mm) : run 75 12 [aR xg 7 xi, l1, l2] st M = run 75 13 [aR xg 7 xi, l1, l2] (aR xg 7 xi :: st) M := e_aldn d75_12 rfl
theorem d75_13 : decode (cod 75) 13 = .ok (.getfield 33, 3) := by decide +kernel
theorem r75_13 (l0 l1 l2 : AV) (xg xi : Nat) (st : List AV) (M : Mm) : run 75 13 [l0, l1, l2] (aR xg 7 xi :: st) M = run 75 16 [l0, l1, l2] (aR 0 10 0 :: st) M := e_gfr (fun g => (0, 10, 0)) d75_13 rfl rfl rfl
theorem d75_16 : decode (cod 75) 16 = .ok (.iload_n 2, 1) := by decide +kernel
theorem r75_16 (l0 l1 : AV) (x : Int32) (st : List AV) (M : Mm) : run 75 16 [l0, l1, aI x] st M = run 75 17 [l0, l1, aI x] (aI x :: st) M := e_ildn d75_16 rfl
theorem d75_17 : decode (cod 75) 17 = .ok (.iaload, 1) := by decide +kernel
theorem r75_17 (l0 l1 l2 : AV) (i : Int32) (xg xi : Nat) (st : List AV) (M : Mm) : run 75 17 [l0, l1, l2] (aI i :: aR xg 10 xi :: st) M = if vpB i 20 = true then run 75 18 [l0, l1, l2] (aI (M xg 10 xi i.toNatClampNeg) :: st) M else none := e_ial d75_17 rfl rfl
theorem d75_18 : decode (cod 75) 18 = .ok (.iload_n 1, 1) := by decide +kernel
theorem r75_18 (l0 l2 : AV) (x : Int32) (st : List AV) (M : Mm) : run 75 18 [l0, aI x, l2] st M = run 75 19 [l0, aI x, l2] (aI x :: st) M := e_ildn d75_18 rfl
theorem d75_19 : decode (cod 75) 19 = .ok (.imul, 1) := by decide +kernel
theorem r75_19 (l0 l1 l2 : AV) (a b : Int32) (st : List AV) (M : Mm) : run 75 19 [l0, l1, l2] (aI b :: aI a :: st) M = run 75 20 [l0, l1, l2] (aI (a * b) :: st) M := e_imul d75_19
theorem d75_20 : decode (cod 75) 20 = .ok (.aload_n 0, 1) := by decide +kernel
theorem r75_20 (l1 l2 : AV) (xg xi : Nat) (st : List AV) (M : Mm) : run 75 20 [aR xg 7 xi, l1, l2] st M = run 75 21 [aR xg 7 xi, l1, l2] (aR xg 7 xi :: st) M := e_aldn d75_20 rfl
theorem d75_21 : decode (cod 75) 21 = .ok (.getfield 33, 3) := by decide +kernel
theorem r75_21 (l0 l1 l2 : AV) (xg xi : Nat) (st : List AV) (M : Mm) : run 75 21 [l0, l1, l2] (aR xg 7 xi :: st) M = run 75 24 [l0, l1, l2] (aR 0 10 0 :: st) M := e_gfr (fun g => (0, 10, 0)) d75_21 rfl rfl rfl
theorem d75_24 : decode (cod 75) 24 = .ok (.iload_n 2, 1) := by decide +kernel
theorem r75_24 (l0 l1 : AV) (x : Int32) (st : List AV) (M : Mm) : run 75 24 [l0, l1, aI x] st M = run 75 25 [l0, l1, aI x] (aI x :: st) M := e_ildn d75_24 rfl
theorem d75_25 : decode (cod 75) 25 = .ok (.iconst 1, 1) := by decide +kernel
theorem r75_25 (l0 l1 l2 : AV) (st : List AV) (M : Mm) : run 75 25 [l0, l1, l2] st M = run 75 26 [l0, l1, l2] (aI 1 :: st) M := e_iconst 1 d75_25 (by decide +kernel)
theorem d75_26 : decode (cod 75) 26 = .ok (.iadd, 1) := by decide +kernel
theorem r75_26 (l0 l1 l2 : AV) (a b : Int32) (st : List AV) (M : Mm) : run 75 26 [l0, l1, l2] (aI b :: aI a :: st) M = run 75 27 [l0, l1, l2] (aI (a + b) :: st) M := e_iadd d75_26
theorem d75_27 : decode (cod 75) 27 = .ok (.iaload, 1) := by decide +kernel
theorem r75_27 (l0 l1 l2 : AV) (i : Int32) (xg xi : Nat) (st : List AV) (M : Mm) : run 75 27 [l0, l1, l2] (aI i :: aR xg 10 xi :: st) M = if vpB i 20 = true then run 75 28 [l0, l1, l2] (aI (M xg 10 xi i.toNatClampNeg) :: st) M else none := e_ial d75_27 rfl rfl
theorem d75_28 : decode (cod 75) 28 = .ok (.if_icmp .eq 5, 3) := by decide +kernel
theorem r75_28 (l0 l1 l2 : AV) (a b : Int32) (st : List AV) (M : Mm) : run 75 28 [l0, l1, l2] (aI b :: aI a :: st) M = if a = b then run 75 33 [l0, l1, l2] st M else run 75 31 [l0, l1, l2] st M := e_eq2 33 d75_28 (by decide)
theorem d75_31 : decode (cod 75) 31 = .ok (.iconst 0, 1) := by decide +kernel
theorem r75_31 (l0 l1 l2 : AV) (st : List AV) (M : Mm) : run 75 31 [l0, l1, l2] st M = run 75 32 [l0, l1, l2] (aI 0 :: st) M := e_iconst 0 d75_31 (by decide +kernel)
theorem d75_32 : decode (cod 75) 32 = .ok (.ireturn, 1) := by decide +kernel
theorem r75_32 (l0 l1 l2 : AV) (v : Int32) (M : Mm) : run 75 32 [l0, l1, l2] [aI v] M = if v = 0 ∨ v = 1 then some (some v, M) else none := e_zret d75_32 rfl
theorem d75_33 : decode (cod 75) 33 = .ok (.iinc 2 2, 3) := by decide +kernel
theorem r75_33 (l0 l1 : AV) (x : Int32) (st : List AV) (M : Mm) : run 75 33 [l0, l1, aI x] st M = run 75 36 [l0, l1, aI (x + 2)] st M := e_iinc 2 [l0, l1, aI (x + 2)] d75_33 (by decide +kernel) rfl rfl
theorem d75_36 : decode (cod 75) 36 = .ok (.goto (-34), 3) := by decide +kernel
theorem r75_36 (l0 l1 l2 : AV) (st : List AV) (M : Mm) : run 75 36 [l0, l1, l2] st M = run 75 2 [l0, l1, l2] st M := e_goto 2 d75_36 (by decide)
theorem d75_39 : decode (cod 75) 39 = .ok (.iconst 1, 1) := by decide +kernel
theorem r75_39 (l0 l1 l2 : AV) (st : List AV) (M : Mm) : run 75 39 [l0, l1, l2] st M = run 75 40 [l0, l1, l2] (aI 1 :: st) M := e_iconst 1 d75_39 (by decide +kernel)
theorem d75_40 : decode (cod 75) 40 = .ok (.ireturn, 1) := by decide +kernel
theorem r75_40 (l0 l1 l2 : AV) (v : Int32) (M : Mm) : run 75 40 [l0, l1, l2] [aI v] M = if v = 0 ∨ v = 1 then some (some v, M) else none := e_zret d75_40 rfl
theorem c76 (x0 : Int32) (M : Mm) : call 76 [aI x0] M = run 76 0 [aI x0] [] M := call_run 76 _ _
theorem d76_0 : decode (cod 76) 0 = .ok (.iload_n 0, 1) := by decide +kernel
theorem r76_0 (x : Int32) (st : List AV) (M : Mm) : run 76 0 [aI x] st M = run 76 1 [aI x] (aI x :: st) M := e_ildn d76_0 rfl
theorem d76_1 : decode (cod 76) 1 = .ok (.ldc_w 256, 3) := by decide +kernel
theorem r76_1 (l0 : AV) (st : List AV) (M : Mm) : run 76 1 [l0] st M = run 76 4 [l0] (aI 1664525 :: st) M := e_ldcw d76_1 rfl
theorem d76_4 : decode (cod 76) 4 = .ok (.imul, 1) := by decide +kernel
theorem r76_4 (l0 : AV) (a b : Int32) (st : List AV) (M : Mm) : run 76 4 [l0] (aI b :: aI a :: st) M = run 76 5 [l0] (aI (a * b) :: st) M := e_imul d76_4
theorem d76_5 : decode (cod 76) 5 = .ok (.ldc_w 257, 3) := by decide +kernel
theorem r76_5 (l0 : AV) (st : List AV) (M : Mm) : run 76 5 [l0] st M = run 76 8 [l0] (aI 1013904223 :: st) M := e_ldcw d76_5 rfl
theorem d76_8 : decode (cod 76) 8 = .ok (.iadd, 1) := by decide +kernel
theorem r76_8 (l0 : AV) (a b : Int32) (st : List AV) (M : Mm) : run 76 8 [l0] (aI b :: aI a :: st) M = run 76 9 [l0] (aI (a + b) :: st) M := e_iadd d76_8
theorem d76_9 : decode (cod 76) 9 = .ok (.ireturn, 1) := by decide +kernel
theorem r76_9 (l0 : AV) (v : Int32) (M : Mm) : run 76 9 [l0] [aI v] M = some (some v, M) := e_iret d76_9 rfl
theorem c77 (x0 : Int32) (x1 : Int32) (M : Mm) : call 77 [aI x0, aI x1] M = run 77 0 [aI x0, aI x1] [] M := call_run 77 _ _
theorem d77_0 : decode (cod 77) 0 = .ok (.iload_n 1, 1) := by decide +kernel
theorem r77_0 (l0 : AV) (x : Int32) (st : List AV) (M : Mm) : run 77 0 [l0, aI x] st M = run 77 1 [l0, aI x] (aI x :: st) M := e_ildn d77_0 rfl
theorem d77_1 : decode (cod 77) 1 = .ok (.ifCond .le 17, 3) := by decide +kernel
theorem r77_1 (l0 l1 : AV) (a : Int32) (st : List AV) (M : Mm) : run 77 1 [l0, l1] (aI a :: st) M = if 0 < a then run 77 4 [l0, l1] st M else run 77 18 [l0, l1] st M := e_le1 18 d77_1 (by decide)
theorem d77_4 : decode (cod 77) 4 = .ok (.iload_n 0, 1) := by decide +kernel
theorem r77_4 (l1 : AV) (x : Int32) (st : List AV) (M : Mm) : run 77 4 [aI x, l1] st M = run 77 5 [aI x, l1] (aI x :: st) M := e_ildn d77_4 rfl
theorem d77_5 : decode (cod 77) 5 = .ok (.ldc_w 258, 3) := by decide +kernel
theorem r77_5 (l0 l1 : AV) (st : List AV) (M : Mm) : run 77 5 [l0, l1] st M = run 77 8 [l0, l1] (aI 2147483647 :: st) M := e_ldcw d77_5 rfl
theorem d77_8 : decode (cod 77) 8 = .ok (.iand, 1) := by decide +kernel
theorem r77_8 (l0 l1 : AV) (a b : Int32) (st : List AV) (M : Mm) : run 77 8 [l0, l1] (aI b :: aI a :: st) M = run 77 9 [l0, l1] (aI (a &&& b) :: st) M := e_iand d77_8
theorem d77_9 : decode (cod 77) 9 = .ok (.sipush 256, 3) := by decide +kernel
theorem r77_9 (l0 l1 : AV) (st : List AV) (M : Mm) : run 77 9 [l0, l1] st M = run 77 12 [l0, l1] (aI 256 :: st) M := e_sipush 256 d77_9 (by decide +kernel)
theorem d77_12 : decode (cod 77) 12 = .ok (.idiv, 1) := by decide +kernel
theorem r77_12 (l0 l1 : AV) (a b : Int32) (st : List AV) (M : Mm) : run 77 12 [l0, l1] (aI b :: aI a :: st) M = if b = 0 then none else run 77 13 [l0, l1] (aI (a / b) :: st) M := e_idiv d77_12
theorem d77_13 : decode (cod 77) 13 = .ok (.iload_n 1, 1) := by decide +kernel
theorem r77_13 (l0 : AV) (x : Int32) (st : List AV) (M : Mm) : run 77 13 [l0, aI x] st M = run 77 14 [l0, aI x] (aI x :: st) M := e_ildn d77_13 rfl
theorem d77_14 : decode (cod 77) 14 = .ok (.irem, 1) := by decide +kernel
theorem r77_14 (l0 l1 : AV) (a b : Int32) (st : List AV) (M : Mm) : run 77 14 [l0, l1] (aI b :: aI a :: st) M = if b = 0 then none else run 77 15 [l0, l1] (aI (a - a / b * b) :: st) M := e_irem d77_14
theorem d77_15 : decode (cod 77) 15 = .ok (.goto 4, 3) := by decide +kernel
theorem r77_15 (l0 l1 : AV) (st : List AV) (M : Mm) : run 77 15 [l0, l1] st M = run 77 19 [l0, l1] st M := e_goto 19 d77_15 (by decide)
theorem d77_18 : decode (cod 77) 18 = .ok (.iconst 0, 1) := by decide +kernel
theorem r77_18 (l0 l1 : AV) (st : List AV) (M : Mm) : run 77 18 [l0, l1] st M = run 77 19 [l0, l1] (aI 0 :: st) M := e_iconst 0 d77_18 (by decide +kernel)
theorem d77_19 : decode (cod 77) 19 = .ok (.ireturn, 1) := by decide +kernel
theorem r77_19 (l0 l1 : AV) (v : Int32) (M : Mm) : run 77 19 [l0, l1] [aI v] M = some (some v, M) := e_iret d77_19 rfl
theorem c78 (x0 : Int32) (M : Mm) : call 78 [aI x0] M = run 78 0 [aI x0] [] M := call_run 78 _ _
theorem d78_0 : decode (cod 78) 0 = .ok (.iload_n 0, 1) := by decide +kernel
theorem r78_0 (x : Int32) (st : List AV) (M : Mm) : run 78 0 [aI x] st M = run 78 1 [aI x] (aI x :: st) M := e_ildn d78_0 rfl
theorem d78_1 : decode (cod 78) 1 = .ok (.iconst 2, 1) := by decide +kernel
theorem r78_1 (l0 : AV) (st : List AV) (M : Mm) : run 78 1 [l0] st M = run 78 2 [l0] (aI 2 :: st) M := e_iconst 2 d78_1 (by decide +kernel)
theorem d78_2 : decode (cod 78) 2 = .ok (.if_icmp .eq 8, 3) := by decide +kernel
theorem r78_2 (l0 : AV) (a b : Int32) (st : List AV) (M : Mm) : run 78 2 [l0] (aI b :: aI a :: st) M = if a = b then run 78 10 [l0] st M else run 78 5 [l0] st M := e_eq2 10 d78_2 (by decide)
theorem d78_5 : decode (cod 78) 5 = .ok (.iload_n 0, 1) := by decide +kernel
theorem r78_5 (x : Int32) (st : List AV) (M : Mm) : run 78 5 [aI x] st M = run 78 6 [aI x] (aI x :: st) M := e_ildn d78_5 rfl
theorem d78_6 : decode (cod 78) 6 = .ok (.iconst 4, 1) := by decide +kernel
theorem r78_6 (l0 : AV) (st : List AV) (M : Mm) : run 78 6 [l0] st M = run 78 7 [l0] (aI 4 :: st) M := e_iconst 4 d78_6 (by decide +kernel)
theorem d78_7 : decode (cod 78) 7 = .ok (.if_icmp .ne 7, 3) := by decide +kernel
theorem r78_7 (l0 : AV) (a b : Int32) (st : List AV) (M : Mm) : run 78 7 [l0] (aI b :: aI a :: st) M = if a = b then run 78 10 [l0] st M else run 78 14 [l0] st M := e_ne2 14 d78_7 (by decide)
theorem d78_10 : decode (cod 78) 10 = .ok (.iconst 2, 1) := by decide +kernel
theorem r78_10 (l0 : AV) (st : List AV) (M : Mm) : run 78 10 [l0] st M = run 78 11 [l0] (aI 2 :: st) M := e_iconst 2 d78_10 (by decide +kernel)
theorem d78_11 : decode (cod 78) 11 = .ok (.goto 4, 3) := by decide +kernel
theorem r78_11 (l0 : AV) (st : List AV) (M : Mm) : run 78 11 [l0] st M = run 78 15 [l0] st M := e_goto 15 d78_11 (by decide)
theorem d78_14 : decode (cod 78) 14 = .ok (.iconst 1, 1) := by decide +kernel
theorem r78_14 (l0 : AV) (st : List AV) (M : Mm) : run 78 14 [l0] st M = run 78 15 [l0] (aI 1 :: st) M := e_iconst 1 d78_14 (by decide +kernel)
theorem d78_15 : decode (cod 78) 15 = .ok (.ireturn, 1) := by decide +kernel
theorem r78_15 (l0 : AV) (v : Int32) (M : Mm) : run 78 15 [l0] [aI v] M = some (some v, M) := e_iret d78_15 rfl
theorem c79 (g0 i0 : Nat) (x1 : Int32) (M : Mm) : call 79 [aR g0 7 i0, aI x1] M = run 79 0 [aR g0 7 i0, aI x1, none] [] M := call_run 79 _ _
theorem d79_0 : decode (cod 79) 0 = .ok (.aload_n 0, 1) := by decide +kernel
theorem r79_0 (l1 l2 : AV) (xg xi : Nat) (st : List AV) (M : Mm) : run 79 0 [aR xg 7 xi, l1, l2] st M = run 79 1 [aR xg 7 xi, l1, l2] (aR xg 7 xi :: st) M := e_aldn d79_0 rfl
theorem d79_1 : decode (cod 79) 1 = .ok (.getfield 29, 3) := by decide +kernel
theorem r79_1 (l0 l1 l2 : AV) (xg xi : Nat) (st : List AV) (M : Mm) : run 79 1 [l0, l1, l2] (aR xg 7 xi :: st) M = run 79 4 [l0, l1, l2] (aR 0 8 0 :: st) M := e_gfr (fun g => (0, 8, 0)) d79_1 rfl rfl rfl
theorem d79_4 : decode (cod 79) 4 = .ok (.iload_n 1, 1) := by decide +kernel
theorem r79_4 (l0 l2 : AV) (x : Int32) (st : List AV) (M : Mm) : run 79 4 [l0, aI x, l2] st M = run 79 5 [l0, aI x, l2] (aI x :: st) M := e_ildn d79_4 rfl
theorem d79_5 : decode (cod 79) 5 = .ok (.invokevirtual 259, 3) := by decide +kernel
theorem r79_5 (l0 l1 l2 : AV) (a0g a0i : Nat) (a1 : Int32) (M : Mm) : run 79 5 [l0, l1, l2] [aI a1, aR a0g 8 a0i] M = cbI (call 32 [aR a0g 8 a0i, aI a1] M) (fun v M => run 79 8 [l0, l1, l2] [aI v] M) := call_I (n := 2) rfl false d79_5 rfl rfl rfl rfl rfl rfl rfl
theorem d79_8 : decode (cod 79) 8 = .ok (.tableswitch 310 104 121 #[181, 310, 310, 310, 310, 146, 310, 310, 310, 310, 286, 310, 310, 269, 310, 310, 225, 88], 88) := by decide +kernel
theorem r79_8 (l0 l1 l2 : AV) (x : Int32) (st : List AV) (M : Mm) : run 79 8 [l0, l1, l2] (aI x :: st) M = if x = 104 then run 79 189 [l0, l1, l2] st M else if x = 109 then run 79 154 [l0, l1, l2] st M else if x = 114 then run 79 294 [l0, l1, l2] st M else if x = 117 then run 79 277 [l0, l1, l2] st M else if x = 120 then run 79 233 [l0, l1, l2] st M else if x = 121 then run 79 96 [l0, l1, l2] st M else run 79 318 [l0, l1, l2] st M := by
  rw [run_step d79_8 rfl]
  simp only [stpI, tsw]
  by_cases c0 : x = 104
  · subst c0
    rw [if_pos rfl]
    rfl
  rw [if_neg c0]
  by_cases c1 : x = 109
  · subst c1
    rw [if_pos rfl]
    rfl
  rw [if_neg c1]
  by_cases c2 : x = 114
  · subst c2
    rw [if_pos rfl]
    rfl
  rw [if_neg c2]
  by_cases c3 : x = 117
  · subst c3
    rw [if_pos rfl]
    rfl
  rw [if_neg c3]
  by_cases c4 : x = 120
  · subst c4
    rw [if_pos rfl]
    rfl
  rw [if_neg c4]
  by_cases c5 : x = 121
  · subst c5
    rw [if_pos rfl]
    rfl
  rw [if_neg c5]
  by_cases e0 : x = 105
  · subst e0
    rfl
  by_cases e1 : x = 106
  · subst e1
    rfl
  by_cases e2 : x = 107
  · subst e2
    rfl
  by_cases e3 : x = 108
  · subst e3
    rfl
  by_cases e4 : x = 110
  · subst e4
    rfl
  by_cases e5 : x = 111
  · subst e5
    rfl
  by_cases e6 : x = 112
  · subst e6
    rfl
  by_cases e7 : x = 113
  · subst e7
    rfl
  by_cases e8 : x = 115
  · subst e8
    rfl
  by_cases e9 : x = 116
  · subst e9
    rfl
  by_cases e10 : x = 118
  · subst e10
    rfl
  by_cases e11 : x = 119
  · subst e11
    rfl
  have hx : x.toInt < 104 ∨ 121 < x.toInt := by
    have h : ∀ k : Int, ¬ x = Int32.ofInt k → -2147483648 ≤ k → k < 2147483648 → ¬ x.toInt = k := fun k hk hl hh e => hk (Int32.toInt_inj.mp (by rw [e, Int32.toInt_ofInt_of_le hl hh]))
    have fc0 := h 104 c0 (by decide) (by decide)
    have fc1 := h 109 c1 (by decide) (by decide)
    have fc2 := h 114 c2 (by decide) (by decide)
    have fc3 := h 117 c3 (by decide) (by decide)
    have fc4 := h 120 c4 (by decide) (by decide)
    have fc5 := h 121 c5 (by decide) (by decide)
    have fe0 := h 105 e0 (by decide) (by decide)
    have fe1 := h 106 e1 (by decide) (by decide)
    have fe2 := h 107 e2 (by decide) (by decide)
    have fe3 := h 108 e3 (by decide) (by decide)
    have fe4 := h 110 e4 (by decide) (by decide)
    have fe5 := h 111 e5 (by decide) (by decide)
    have fe6 := h 112 e6 (by decide) (by decide)
    have fe7 := h 113 e7 (by decide) (by decide)
    have fe8 := h 115 e8 (by decide) (by decide)
    have fe9 := h 116 e9 (by decide) (by decide)
    have fe10 := h 118 e10 (by decide) (by decide)
    have fe11 := h 119 e11 (by decide) (by decide)
    omega
  rw [if_pos hx, jmp_run 318 (by decide)]
  rfl
theorem d79_96 : decode (cod 79) 96 = .ok (.aload_n 0, 1) := by decide +kernel
theorem r79_96 (l1 l2 : AV) (xg xi : Nat) (st : List AV) (M : Mm) : run 79 96 [aR xg 7 xi, l1, l2] st M = run 79 97 [aR xg 7 xi, l1, l2] (aR xg 7 xi :: st) M := e_aldn d79_96 rfl
theorem d79_97 : decode (cod 79) 97 = .ok (.getfield 16, 3) := by decide +kernel
theorem r79_97 (l0 l1 l2 : AV) (xg xi : Nat) (st : List AV) (M : Mm) : run 79 97 [l0, l1, l2] (aR xg 7 xi :: st) M = run 79 100 [l0, l1, l2] (aR 2 0 0 :: st) M := e_gfr (fun g => (2, 0, 0)) d79_97 rfl rfl rfl
theorem d79_100 : decode (cod 79) 100 = .ok (.ldc_w 262, 3) := by decide +kernel
theorem r79_100 (l0 l1 l2 : AV) (st : List AV) (M : Mm) : run 79 100 [l0, l1, l2] st M = run 79 103 [l0, l1, l2] (aR 9 35 0 :: st) M := e_ldcwS (k := 35) d79_100 rfl rfl
theorem d79_103 : decode (cod 79) 103 = .ok (.aload_n 0, 1) := by decide +kernel
theorem r79_103 (l1 l2 : AV) (xg xi : Nat) (st : List AV) (M : Mm) : run 79 103 [aR xg 7 xi, l1, l2] st M = run 79 104 [aR xg 7 xi, l1, l2] (aR xg 7 xi :: st) M := e_aldn d79_103 rfl
theorem d79_104 : decode (cod 79) 104 = .ok (.getfield 29, 3) := by decide +kernel
theorem r79_104 (l0 l1 l2 : AV) (xg xi : Nat) (st : List AV) (M : Mm) : run 79 104 [l0, l1, l2] (aR xg 7 xi :: st) M = run 79 107 [l0, l1, l2] (aR 0 8 0 :: st) M := e_gfr (fun g => (0, 8, 0)) d79_104 rfl rfl rfl
theorem d79_107 : decode (cod 79) 107 = .ok (.iload_n 1, 1) := by decide +kernel
theorem r79_107 (l0 l2 : AV) (x : Int32) (st : List AV) (M : Mm) : run 79 107 [l0, aI x, l2] st M = run 79 108 [l0, aI x, l2] (aI x :: st) M := e_ildn d79_107 rfl
theorem d79_108 : decode (cod 79) 108 = .ok (.iconst 1, 1) := by decide +kernel
theorem r79_108 (l0 l1 l2 : AV) (st : List AV) (M : Mm) : run 79 108 [l0, l1, l2] st M = run 79 109 [l0, l1, l2] (aI 1 :: st) M := e_iconst 1 d79_108 (by decide +kernel)
theorem d79_109 : decode (cod 79) 109 = .ok (.iadd, 1) := by decide +kernel
theorem r79_109 (l0 l1 l2 : AV) (a b : Int32) (st : List AV) (M : Mm) : run 79 109 [l0, l1, l2] (aI b :: aI a :: st) M = run 79 110 [l0, l1, l2] (aI (a + b) :: st) M := e_iadd d79_109
theorem d79_110 : decode (cod 79) 110 = .ok (.invokevirtual 259, 3) := by decide +kernel
theorem r79_110 (l0 l1 l2 : AV) (a0g a0i : Nat) (a1 : Int32) (t0 t1 : AV) (M : Mm) : run 79 110 [l0, l1, l2] [aI a1, aR a0g 8 a0i, t0, t1] M = cbI (call 32 [aR a0g 8 a0i, aI a1] M) (fun v M => run 79 113 [l0, l1, l2] [aI v, t0, t1] M) := call_I (n := 2) rfl false d79_110 rfl rfl rfl rfl rfl rfl rfl
theorem d79_113 : decode (cod 79) 113 = .ok (.i2c, 1) := by decide +kernel
theorem r79_113 (l0 l1 l2 : AV) (a : Int32) (st : List AV) (M : Mm) : run 79 113 [l0, l1, l2] (aI a :: st) M = run 79 114 [l0, l1, l2] (aI (a.toUInt32 % 65536).toInt32 :: st) M := e_i2c d79_113
theorem d79_114 : decode (cod 79) 114 = .ok (.invokevirtual 264, 3) := by decide +kernel
theorem r79_114 (l0 l1 l2 : AV) (b : Int32) (xg xi : Nat) (t0 : AV) (M : Mm) : run 79 114 [l0, l1, l2] [aI b, aR xg 35 xi, t0] M = run 79 117 [l0, l1, l2] [aI (ix 35 b), t0] M := e_ix d79_114 rfl rfl
theorem d79_117 : decode (cod 79) 117 = .ok (.aload_n 0, 1) := by decide +kernel
theorem r79_117 (l1 l2 : AV) (xg xi : Nat) (st : List AV) (M : Mm) : run 79 117 [aR xg 7 xi, l1, l2] st M = run 79 118 [aR xg 7 xi, l1, l2] (aR xg 7 xi :: st) M := e_aldn d79_117 rfl
theorem d79_118 : decode (cod 79) 118 = .ok (.getfield 29, 3) := by decide +kernel
theorem r79_118 (l0 l1 l2 : AV) (xg xi : Nat) (st : List AV) (M : Mm) : run 79 118 [l0, l1, l2] (aR xg 7 xi :: st) M = run 79 121 [l0, l1, l2] (aR 0 8 0 :: st) M := e_gfr (fun g => (0, 8, 0)) d79_118 rfl rfl rfl
theorem d79_121 : decode (cod 79) 121 = .ok (.iload_n 1, 1) := by decide +kernel
theorem r79_121 (l0 l2 : AV) (x : Int32) (st : List AV) (M : Mm) : run 79 121 [l0, aI x, l2] st M = run 79 122 [l0, aI x, l2] (aI x :: st) M := e_ildn d79_121 rfl
theorem d79_122 : decode (cod 79) 122 = .ok (.iconst 2, 1) := by decide +kernel
theorem r79_122 (l0 l1 l2 : AV) (st : List AV) (M : Mm) : run 79 122 [l0, l1, l2] st M = run 79 123 [l0, l1, l2] (aI 2 :: st) M := e_iconst 2 d79_122 (by decide +kernel)
theorem d79_123 : decode (cod 79) 123 = .ok (.iadd, 1) := by decide +kernel
theorem r79_123 (l0 l1 l2 : AV) (a b : Int32) (st : List AV) (M : Mm) : run 79 123 [l0, l1, l2] (aI b :: aI a :: st) M = run 79 124 [l0, l1, l2] (aI (a + b) :: st) M := e_iadd d79_123
theorem d79_124 : decode (cod 79) 124 = .ok (.iconst 1, 1) := by decide +kernel
theorem r79_124 (l0 l1 l2 : AV) (st : List AV) (M : Mm) : run 79 124 [l0, l1, l2] st M = run 79 125 [l0, l1, l2] (aI 1 :: st) M := e_iconst 1 d79_124 (by decide +kernel)
theorem d79_125 : decode (cod 79) 125 = .ok (.invokevirtual 269, 3) := by decide +kernel
theorem r79_125 (l0 l1 l2 : AV) (a0g a0i : Nat) (a1 : Int32) (a2 : Int32) (t0 t1 : AV) (M : Mm) : run 79 125 [l0, l1, l2] [aI a2, aI a1, aR a0g 8 a0i, t0, t1] M = cbI (call 33 [aR a0g 8 a0i, aI a1, aI a2] M) (fun v M => run 79 128 [l0, l1, l2] [aI v, t0, t1] M) := call_I (n := 3) rfl false d79_125 rfl rfl rfl rfl rfl rfl rfl
theorem d79_128 : decode (cod 79) 128 = .ok (.aload_n 0, 1) := by decide +kernel
theorem r79_128 (l1 l2 : AV) (xg xi : Nat) (st : List AV) (M : Mm) : run 79 128 [aR xg 7 xi, l1, l2] st M = run 79 129 [aR xg 7 xi, l1, l2] (aR xg 7 xi :: st) M := e_aldn d79_128 rfl
theorem d79_129 : decode (cod 79) 129 = .ok (.getfield 29, 3) := by decide +kernel
theorem r79_129 (l0 l1 l2 : AV) (xg xi : Nat) (st : List AV) (M : Mm) : run 79 129 [l0, l1, l2] (aR xg 7 xi :: st) M = run 79 132 [l0, l1, l2] (aR 0 8 0 :: st) M := e_gfr (fun g => (0, 8, 0)) d79_129 rfl rfl rfl
theorem d79_132 : decode (cod 79) 132 = .ok (.iload_n 1, 1) := by decide +kernel
theorem r79_132 (l0 l2 : AV) (x : Int32) (st : List AV) (M : Mm) : run 79 132 [l0, aI x, l2] st M = run 79 133 [l0, aI x, l2] (aI x :: st) M := e_ildn d79_132 rfl
theorem d79_133 : decode (cod 79) 133 = .ok (.iconst 3, 1) := by decide +kernel
theorem r79_133 (l0 l1 l2 : AV) (st : List AV) (M : Mm) : run 79 133 [l0, l1, l2] st M = run 79 134 [l0, l1, l2] (aI 3 :: st) M := e_iconst 3 d79_133 (by decide +kernel)
theorem d79_134 : decode (cod 79) 134 = .ok (.iadd, 1) := by decide +kernel
theorem r79_134 (l0 l1 l2 : AV) (a b : Int32) (st : List AV) (M : Mm) : run 79 134 [l0, l1, l2] (aI b :: aI a :: st) M = run 79 135 [l0, l1, l2] (aI (a + b) :: st) M := e_iadd d79_134
theorem d79_135 : decode (cod 79) 135 = .ok (.iconst 2, 1) := by decide +kernel
theorem r79_135 (l0 l1 l2 : AV) (st : List AV) (M : Mm) : run 79 135 [l0, l1, l2] st M = run 79 136 [l0, l1, l2] (aI 2 :: st) M := e_iconst 2 d79_135 (by decide +kernel)
theorem d79_136 : decode (cod 79) 136 = .ok (.invokevirtual 269, 3) := by decide +kernel
theorem r79_136 (l0 l1 l2 : AV) (a0g a0i : Nat) (a1 : Int32) (a2 : Int32) (t0 t1 t2 : AV) (M : Mm) : run 79 136 [l0, l1, l2] [aI a2, aI a1, aR a0g 8 a0i, t0, t1, t2] M = cbI (call 33 [aR a0g 8 a0i, aI a1, aI a2] M) (fun v M => run 79 139 [l0, l1, l2] [aI v, t0, t1, t2] M) := call_I (n := 3) rfl false d79_136 rfl rfl rfl rfl rfl rfl rfl
theorem d79_139 : decode (cod 79) 139 = .ok (.aload_n 0, 1) := by decide +kernel
theorem r79_139 (l1 l2 : AV) (xg xi : Nat) (st : List AV) (M : Mm) : run 79 139 [aR xg 7 xi, l1, l2] st M = run 79 140 [aR xg 7 xi, l1, l2] (aR xg 7 xi :: st) M := e_aldn d79_139 rfl
theorem d79_140 : decode (cod 79) 140 = .ok (.getfield 29, 3) := by decide +kernel
theorem r79_140 (l0 l1 l2 : AV) (xg xi : Nat) (st : List AV) (M : Mm) : run 79 140 [l0, l1, l2] (aR xg 7 xi :: st) M = run 79 143 [l0, l1, l2] (aR 0 8 0 :: st) M := e_gfr (fun g => (0, 8, 0)) d79_140 rfl rfl rfl
theorem d79_143 : decode (cod 79) 143 = .ok (.iload_n 1, 1) := by decide +kernel
theorem r79_143 (l0 l2 : AV) (x : Int32) (st : List AV) (M : Mm) : run 79 143 [l0, aI x, l2] st M = run 79 144 [l0, aI x, l2] (aI x :: st) M := e_ildn d79_143 rfl
theorem d79_144 : decode (cod 79) 144 = .ok (.iconst 5, 1) := by decide +kernel
theorem r79_144 (l0 l1 l2 : AV) (st : List AV) (M : Mm) : run 79 144 [l0, l1, l2] st M = run 79 145 [l0, l1, l2] (aI 5 :: st) M := e_iconst 5 d79_144 (by decide +kernel)
theorem d79_145 : decode (cod 79) 145 = .ok (.iadd, 1) := by decide +kernel
theorem r79_145 (l0 l1 l2 : AV) (a b : Int32) (st : List AV) (M : Mm) : run 79 145 [l0, l1, l2] (aI b :: aI a :: st) M = run 79 146 [l0, l1, l2] (aI (a + b) :: st) M := e_iadd d79_145
theorem d79_146 : decode (cod 79) 146 = .ok (.iconst 3, 1) := by decide +kernel
theorem r79_146 (l0 l1 l2 : AV) (st : List AV) (M : Mm) : run 79 146 [l0, l1, l2] st M = run 79 147 [l0, l1, l2] (aI 3 :: st) M := e_iconst 3 d79_146 (by decide +kernel)
theorem d79_147 : decode (cod 79) 147 = .ok (.invokevirtual 269, 3) := by decide +kernel
theorem r79_147 (l0 l1 l2 : AV) (a0g a0i : Nat) (a1 : Int32) (a2 : Int32) (t0 t1 t2 t3 : AV) (M : Mm) : run 79 147 [l0, l1, l2] [aI a2, aI a1, aR a0g 8 a0i, t0, t1, t2, t3] M = cbI (call 33 [aR a0g 8 a0i, aI a1, aI a2] M) (fun v M => run 79 150 [l0, l1, l2] [aI v, t0, t1, t2, t3] M) := call_I (n := 3) rfl false d79_147 rfl rfl rfl rfl rfl rfl rfl
theorem d79_150 : decode (cod 79) 150 = .ok (.invokevirtual 272, 3) := by decide +kernel
theorem r79_150 (l0 l1 l2 : AV) (a0g a0i : Nat) (a1 : Int32) (a2 : Int32) (a3 : Int32) (a4 : Int32) (M : Mm) : run 79 150 [l0, l1, l2] [aI a4, aI a3, aI a2, aI a1, aR a0g 0 a0i] M = cbI (call 18 [aR a0g 0 a0i, aI a1, aI a2, aI a3, aI a4] M) (fun v M => run 79 153 [l0, l1, l2] [aI v] M) := call_I (n := 5) rfl false d79_150 rfl rfl rfl rfl rfl rfl rfl
theorem d79_153 : decode (cod 79) 153 = .ok (.ireturn, 1) := by decide +kernel
theorem r79_153 (l0 l1 l2 : AV) (v : Int32) (M : Mm) : run 79 153 [l0, l1, l2] [aI v] M = if v = 0 ∨ v = 1 then some (some v, M) else none := e_zret d79_153 rfl
theorem d79_154 : decode (cod 79) 154 = .ok (.aload_n 0, 1) := by decide +kernel
theorem r79_154 (l1 l2 : AV) (xg xi : Nat) (st : List AV) (M : Mm) : run 79 154 [aR xg 7 xi, l1, l2] st M = run 79 155 [aR xg 7 xi, l1, l2] (aR xg 7 xi :: st) M := e_aldn d79_154 rfl
theorem d79_155 : decode (cod 79) 155 = .ok (.getfield 16, 3) := by decide +kernel
theorem r79_155 (l0 l1 l2 : AV) (xg xi : Nat) (st : List AV) (M : Mm) : run 79 155 [l0, l1, l2] (aR xg 7 xi :: st) M = run 79 158 [l0, l1, l2] (aR 2 0 0 :: st) M := e_gfr (fun g => (2, 0, 0)) d79_155 rfl rfl rfl
theorem d79_158 : decode (cod 79) 158 = .ok (.invokevirtual 104, 3) := by decide +kernel
theorem r79_158 (l0 l1 l2 : AV) (a0g a0i : Nat) (M : Mm) : run 79 158 [l0, l1, l2] [aR a0g 0 a0i] M = cbI (call 14 [aR a0g 0 a0i] M) (fun v M => run 79 161 [l0, l1, l2] [aI v] M) := call_I (n := 1) rfl false d79_158 rfl rfl rfl rfl rfl rfl rfl
theorem d79_161 : decode (cod 79) 161 = .ok (.ifCond .ne 26, 3) := by decide +kernel
theorem r79_161 (l0 l1 l2 : AV) (a : Int32) (st : List AV) (M : Mm) : run 79 161 [l0, l1, l2] (aI a :: st) M = if a = 0 then run 79 164 [l0, l1, l2] st M else run 79 187 [l0, l1, l2] st M := e_ne1 187 d79_161 (by decide)
theorem d79_164 : decode (cod 79) 164 = .ok (.aload_n 0, 1) := by decide +kernel
theorem r79_164 (l1 l2 : AV) (xg xi : Nat) (st : List AV) (M : Mm) : run 79 164 [aR xg 7 xi, l1, l2] st M = run 79 165 [aR xg 7 xi, l1, l2] (aR xg 7 xi :: st) M := e_aldn d79_164 rfl
theorem d79_165 : decode (cod 79) 165 = .ok (.iconst 0, 1) := by decide +kernel
theorem r79_165 (l0 l1 l2 : AV) (st : List AV) (M : Mm) : run 79 165 [l0, l1, l2] st M = run 79 166 [l0, l1, l2] (aI 0 :: st) M := e_iconst 0 d79_165 (by decide +kernel)
theorem d79_166 : decode (cod 79) 166 = .ok (.aload_n 0, 1) := by decide +kernel
theorem r79_166 (l1 l2 : AV) (xg xi : Nat) (st : List AV) (M : Mm) : run 79 166 [aR xg 7 xi, l1, l2] st M = run 79 167 [aR xg 7 xi, l1, l2] (aR xg 7 xi :: st) M := e_aldn d79_166 rfl
theorem d79_167 : decode (cod 79) 167 = .ok (.getfield 29, 3) := by decide +kernel
theorem r79_167 (l0 l1 l2 : AV) (xg xi : Nat) (st : List AV) (M : Mm) : run 79 167 [l0, l1, l2] (aR xg 7 xi :: st) M = run 79 170 [l0, l1, l2] (aR 0 8 0 :: st) M := e_gfr (fun g => (0, 8, 0)) d79_167 rfl rfl rfl
theorem d79_170 : decode (cod 79) 170 = .ok (.iload_n 1, 1) := by decide +kernel
theorem r79_170 (l0 l2 : AV) (x : Int32) (st : List AV) (M : Mm) : run 79 170 [l0, aI x, l2] st M = run 79 171 [l0, aI x, l2] (aI x :: st) M := e_ildn d79_170 rfl
theorem d79_171 : decode (cod 79) 171 = .ok (.iconst 1, 1) := by decide +kernel
theorem r79_171 (l0 l1 l2 : AV) (st : List AV) (M : Mm) : run 79 171 [l0, l1, l2] st M = run 79 172 [l0, l1, l2] (aI 1 :: st) M := e_iconst 1 d79_171 (by decide +kernel)
theorem d79_172 : decode (cod 79) 172 = .ok (.iadd, 1) := by decide +kernel
theorem r79_172 (l0 l1 l2 : AV) (a b : Int32) (st : List AV) (M : Mm) : run 79 172 [l0, l1, l2] (aI b :: aI a :: st) M = run 79 173 [l0, l1, l2] (aI (a + b) :: st) M := e_iadd d79_172
theorem d79_173 : decode (cod 79) 173 = .ok (.iconst 1, 1) := by decide +kernel
theorem r79_173 (l0 l1 l2 : AV) (st : List AV) (M : Mm) : run 79 173 [l0, l1, l2] st M = run 79 174 [l0, l1, l2] (aI 1 :: st) M := e_iconst 1 d79_173 (by decide +kernel)
theorem d79_174 : decode (cod 79) 174 = .ok (.invokevirtual 269, 3) := by decide +kernel
theorem r79_174 (l0 l1 l2 : AV) (a0g a0i : Nat) (a1 : Int32) (a2 : Int32) (t0 t1 : AV) (M : Mm) : run 79 174 [l0, l1, l2] [aI a2, aI a1, aR a0g 8 a0i, t0, t1] M = cbI (call 33 [aR a0g 8 a0i, aI a1, aI a2] M) (fun v M => run 79 177 [l0, l1, l2] [aI v, t0, t1] M) := call_I (n := 3) rfl false d79_174 rfl rfl rfl rfl rfl rfl rfl
theorem d79_177 : decode (cod 79) 177 = .ok (.invokevirtual 276, 3) := by decide +kernel
theorem r79_177 (l0 l1 l2 : AV) (a0g a0i : Nat) (a1 : Int32) (a2 : Int32) (M : Mm) : run 79 177 [l0, l1, l2] [aI a2, aI a1, aR a0g 7 a0i] M = cbI (call 80 [aR a0g 7 a0i, aI a1, aI a2] M) (fun v M => run 79 180 [l0, l1, l2] [aI v] M) := call_I (n := 3) rfl false d79_177 rfl rfl rfl rfl rfl rfl rfl
theorem d79_180 : decode (cod 79) 180 = .ok (.ifCond .eq 7, 3) := by decide +kernel
theorem r79_180 (l0 l1 l2 : AV) (a : Int32) (st : List AV) (M : Mm) : run 79 180 [l0, l1, l2] (aI a :: st) M = if a = 0 then run 79 187 [l0, l1, l2] st M else run 79 183 [l0, l1, l2] st M := e_eq1 187 d79_180 (by decide)
theorem d79_183 : decode (cod 79) 183 = .ok (.iconst 1, 1) := by decide +kernel
theorem r79_183 (l0 l1 l2 : AV) (st : List AV) (M : Mm) : run 79 183 [l0, l1, l2] st M = run 79 184 [l0, l1, l2] (aI 1 :: st) M := e_iconst 1 d79_183 (by decide +kernel)
theorem d79_184 : decode (cod 79) 184 = .ok (.goto 4, 3) := by decide +kernel
theorem r79_184 (l0 l1 l2 : AV) (st : List AV) (M : Mm) : run 79 184 [l0, l1, l2] st M = run 79 188 [l0, l1, l2] st M := e_goto 188 d79_184 (by decide)
theorem d79_187 : decode (cod 79) 187 = .ok (.iconst 0, 1) := by decide +kernel
theorem r79_187 (l0 l1 l2 : AV) (st : List AV) (M : Mm) : run 79 187 [l0, l1, l2] st M = run 79 188 [l0, l1, l2] (aI 0 :: st) M := e_iconst 0 d79_187 (by decide +kernel)
theorem d79_188 : decode (cod 79) 188 = .ok (.ireturn, 1) := by decide +kernel
theorem r79_188 (l0 l1 l2 : AV) (v : Int32) (M : Mm) : run 79 188 [l0, l1, l2] [aI v] M = if v = 0 ∨ v = 1 then some (some v, M) else none := e_zret d79_188 rfl
theorem d79_189 : decode (cod 79) 189 = .ok (.aload_n 0, 1) := by decide +kernel
theorem r79_189 (l1 l2 : AV) (xg xi : Nat) (st : List AV) (M : Mm) : run 79 189 [aR xg 7 xi, l1, l2] st M = run 79 190 [aR xg 7 xi, l1, l2] (aR xg 7 xi :: st) M := e_aldn d79_189 rfl
theorem d79_190 : decode (cod 79) 190 = .ok (.iconst 1, 1) := by decide +kernel
theorem r79_190 (l0 l1 l2 : AV) (st : List AV) (M : Mm) : run 79 190 [l0, l1, l2] st M = run 79 191 [l0, l1, l2] (aI 1 :: st) M := e_iconst 1 d79_190 (by decide +kernel)
theorem d79_191 : decode (cod 79) 191 = .ok (.aload_n 0, 1) := by decide +kernel
theorem r79_191 (l1 l2 : AV) (xg xi : Nat) (st : List AV) (M : Mm) : run 79 191 [aR xg 7 xi, l1, l2] st M = run 79 192 [aR xg 7 xi, l1, l2] (aR xg 7 xi :: st) M := e_aldn d79_191 rfl
theorem d79_192 : decode (cod 79) 192 = .ok (.getfield 29, 3) := by decide +kernel
theorem r79_192 (l0 l1 l2 : AV) (xg xi : Nat) (st : List AV) (M : Mm) : run 79 192 [l0, l1, l2] (aR xg 7 xi :: st) M = run 79 195 [l0, l1, l2] (aR 0 8 0 :: st) M := e_gfr (fun g => (0, 8, 0)) d79_192 rfl rfl rfl
theorem d79_195 : decode (cod 79) 195 = .ok (.iload_n 1, 1) := by decide +kernel
theorem r79_195 (l0 l2 : AV) (x : Int32) (st : List AV) (M : Mm) : run 79 195 [l0, aI x, l2] st M = run 79 196 [l0, aI x, l2] (aI x :: st) M := e_ildn d79_195 rfl
theorem d79_196 : decode (cod 79) 196 = .ok (.iconst 1, 1) := by decide +kernel
theorem r79_196 (l0 l1 l2 : AV) (st : List AV) (M : Mm) : run 79 196 [l0, l1, l2] st M = run 79 197 [l0, l1, l2] (aI 1 :: st) M := e_iconst 1 d79_196 (by decide +kernel)
theorem d79_197 : decode (cod 79) 197 = .ok (.iadd, 1) := by decide +kernel
theorem r79_197 (l0 l1 l2 : AV) (a b : Int32) (st : List AV) (M : Mm) : run 79 197 [l0, l1, l2] (aI b :: aI a :: st) M = run 79 198 [l0, l1, l2] (aI (a + b) :: st) M := e_iadd d79_197
theorem d79_198 : decode (cod 79) 198 = .ok (.iconst 2, 1) := by decide +kernel
theorem r79_198 (l0 l1 l2 : AV) (st : List AV) (M : Mm) : run 79 198 [l0, l1, l2] st M = run 79 199 [l0, l1, l2] (aI 2 :: st) M := e_iconst 2 d79_198 (by decide +kernel)
theorem d79_199 : decode (cod 79) 199 = .ok (.invokevirtual 269, 3) := by decide +kernel
theorem r79_199 (l0 l1 l2 : AV) (a0g a0i : Nat) (a1 : Int32) (a2 : Int32) (t0 t1 : AV) (M : Mm) : run 79 199 [l0, l1, l2] [aI a2, aI a1, aR a0g 8 a0i, t0, t1] M = cbI (call 33 [aR a0g 8 a0i, aI a1, aI a2] M) (fun v M => run 79 202 [l0, l1, l2] [aI v, t0, t1] M) := call_I (n := 3) rfl false d79_199 rfl rfl rfl rfl rfl rfl rfl
theorem d79_202 : decode (cod 79) 202 = .ok (.invokevirtual 276, 3) := by decide +kernel
theorem r79_202 (l0 l1 l2 : AV) (a0g a0i : Nat) (a1 : Int32) (a2 : Int32) (M : Mm) : run 79 202 [l0, l1, l2] [aI a2, aI a1, aR a0g 7 a0i] M = cbI (call 80 [aR a0g 7 a0i, aI a1, aI a2] M) (fun v M => run 79 205 [l0, l1, l2] [aI v] M) := call_I (n := 3) rfl false d79_202 rfl rfl rfl rfl rfl rfl rfl
theorem d79_205 : decode (cod 79) 205 = .ok (.ifCond .eq 26, 3) := by decide +kernel
theorem r79_205 (l0 l1 l2 : AV) (a : Int32) (st : List AV) (M : Mm) : run 79 205 [l0, l1, l2] (aI a :: st) M = if a = 0 then run 79 231 [l0, l1, l2] st M else run 79 208 [l0, l1, l2] st M := e_eq1 231 d79_205 (by decide)
theorem d79_208 : decode (cod 79) 208 = .ok (.aload_n 0, 1) := by decide +kernel
theorem r79_208 (l1 l2 : AV) (xg xi : Nat) (st : List AV) (M : Mm) : run 79 208 [aR xg 7 xi, l1, l2] st M = run 79 209 [aR xg 7 xi, l1, l2] (aR xg 7 xi :: st) M := e_aldn d79_208 rfl
theorem d79_209 : decode (cod 79) 209 = .ok (.iconst 2, 1) := by decide +kernel
theorem r79_209 (l0 l1 l2 : AV) (st : List AV) (M : Mm) : run 79 209 [l0, l1, l2] st M = run 79 210 [l0, l1, l2] (aI 2 :: st) M := e_iconst 2 d79_209 (by decide +kernel)
theorem d79_210 : decode (cod 79) 210 = .ok (.aload_n 0, 1) := by decide +kernel
theorem r79_210 (l1 l2 : AV) (xg xi : Nat) (st : List AV) (M : Mm) : run 79 210 [aR xg 7 xi, l1, l2] st M = run 79 211 [aR xg 7 xi, l1, l2] (aR xg 7 xi :: st) M := e_aldn d79_210 rfl
theorem d79_211 : decode (cod 79) 211 = .ok (.getfield 29, 3) := by decide +kernel
theorem r79_211 (l0 l1 l2 : AV) (xg xi : Nat) (st : List AV) (M : Mm) : run 79 211 [l0, l1, l2] (aR xg 7 xi :: st) M = run 79 214 [l0, l1, l2] (aR 0 8 0 :: st) M := e_gfr (fun g => (0, 8, 0)) d79_211 rfl rfl rfl
theorem d79_214 : decode (cod 79) 214 = .ok (.iload_n 1, 1) := by decide +kernel
theorem r79_214 (l0 l2 : AV) (x : Int32) (st : List AV) (M : Mm) : run 79 214 [l0, aI x, l2] st M = run 79 215 [l0, aI x, l2] (aI x :: st) M := e_ildn d79_214 rfl
theorem d79_215 : decode (cod 79) 215 = .ok (.iconst 3, 1) := by decide +kernel
theorem r79_215 (l0 l1 l2 : AV) (st : List AV) (M : Mm) : run 79 215 [l0, l1, l2] st M = run 79 216 [l0, l1, l2] (aI 3 :: st) M := e_iconst 3 d79_215 (by decide +kernel)
theorem d79_216 : decode (cod 79) 216 = .ok (.iadd, 1) := by decide +kernel
theorem r79_216 (l0 l1 l2 : AV) (a b : Int32) (st : List AV) (M : Mm) : run 79 216 [l0, l1, l2] (aI b :: aI a :: st) M = run 79 217 [l0, l1, l2] (aI (a + b) :: st) M := e_iadd d79_216
theorem d79_217 : decode (cod 79) 217 = .ok (.iconst 1, 1) := by decide +kernel
theorem r79_217 (l0 l1 l2 : AV) (st : List AV) (M : Mm) : run 79 217 [l0, l1, l2] st M = run 79 218 [l0, l1, l2] (aI 1 :: st) M := e_iconst 1 d79_217 (by decide +kernel)
theorem d79_218 : decode (cod 79) 218 = .ok (.invokevirtual 269, 3) := by decide +kernel
theorem r79_218 (l0 l1 l2 : AV) (a0g a0i : Nat) (a1 : Int32) (a2 : Int32) (t0 t1 : AV) (M : Mm) : run 79 218 [l0, l1, l2] [aI a2, aI a1, aR a0g 8 a0i, t0, t1] M = cbI (call 33 [aR a0g 8 a0i, aI a1, aI a2] M) (fun v M => run 79 221 [l0, l1, l2] [aI v, t0, t1] M) := call_I (n := 3) rfl false d79_218 rfl rfl rfl rfl rfl rfl rfl
theorem d79_221 : decode (cod 79) 221 = .ok (.invokevirtual 276, 3) := by decide +kernel
theorem r79_221 (l0 l1 l2 : AV) (a0g a0i : Nat) (a1 : Int32) (a2 : Int32) (M : Mm) : run 79 221 [l0, l1, l2] [aI a2, aI a1, aR a0g 7 a0i] M = cbI (call 80 [aR a0g 7 a0i, aI a1, aI a2] M) (fun v M => run 79 224 [l0, l1, l2] [aI v] M) := call_I (n := 3) rfl false d79_221 rfl rfl rfl rfl rfl rfl rfl
theorem d79_224 : decode (cod 79) 224 = .ok (.ifCond .eq 7, 3) := by decide +kernel
theorem r79_224 (l0 l1 l2 : AV) (a : Int32) (st : List AV) (M : Mm) : run 79 224 [l0, l1, l2] (aI a :: st) M = if a = 0 then run 79 231 [l0, l1, l2] st M else run 79 227 [l0, l1, l2] st M := e_eq1 231 d79_224 (by decide)
theorem d79_227 : decode (cod 79) 227 = .ok (.iconst 1, 1) := by decide +kernel
theorem r79_227 (l0 l1 l2 : AV) (st : List AV) (M : Mm) : run 79 227 [l0, l1, l2] st M = run 79 228 [l0, l1, l2] (aI 1 :: st) M := e_iconst 1 d79_227 (by decide +kernel)
theorem d79_228 : decode (cod 79) 228 = .ok (.goto 4, 3) := by decide +kernel
theorem r79_228 (l0 l1 l2 : AV) (st : List AV) (M : Mm) : run 79 228 [l0, l1, l2] st M = run 79 232 [l0, l1, l2] st M := e_goto 232 d79_228 (by decide)
theorem d79_231 : decode (cod 79) 231 = .ok (.iconst 0, 1) := by decide +kernel
theorem r79_231 (l0 l1 l2 : AV) (st : List AV) (M : Mm) : run 79 231 [l0, l1, l2] st M = run 79 232 [l0, l1, l2] (aI 0 :: st) M := e_iconst 0 d79_231 (by decide +kernel)
theorem d79_232 : decode (cod 79) 232 = .ok (.ireturn, 1) := by decide +kernel
theorem r79_232 (l0 l1 l2 : AV) (v : Int32) (M : Mm) : run 79 232 [l0, l1, l2] [aI v] M = if v = 0 ∨ v = 1 then some (some v, M) else none := e_zret d79_232 rfl
theorem d79_233 : decode (cod 79) 233 = .ok (.aload_n 0, 1) := by decide +kernel
theorem r79_233 (l1 l2 : AV) (xg xi : Nat) (st : List AV) (M : Mm) : run 79 233 [aR xg 7 xi, l1, l2] st M = run 79 234 [aR xg 7 xi, l1, l2] (aR xg 7 xi :: st) M := e_aldn d79_233 rfl
theorem d79_234 : decode (cod 79) 234 = .ok (.iconst 3, 1) := by decide +kernel
theorem r79_234 (l0 l1 l2 : AV) (st : List AV) (M : Mm) : run 79 234 [l0, l1, l2] st M = run 79 235 [l0, l1, l2] (aI 3 :: st) M := e_iconst 3 d79_234 (by decide +kernel)
theorem d79_235 : decode (cod 79) 235 = .ok (.aload_n 0, 1) := by decide +kernel
theorem r79_235 (l1 l2 : AV) (xg xi : Nat) (st : List AV) (M : Mm) : run 79 235 [aR xg 7 xi, l1, l2] st M = run 79 236 [aR xg 7 xi, l1, l2] (aR xg 7 xi :: st) M := e_aldn d79_235 rfl
theorem d79_236 : decode (cod 79) 236 = .ok (.getfield 29, 3) := by decide +kernel
theorem r79_236 (l0 l1 l2 : AV) (xg xi : Nat) (st : List AV) (M : Mm) : run 79 236 [l0, l1, l2] (aR xg 7 xi :: st) M = run 79 239 [l0, l1, l2] (aR 0 8 0 :: st) M := e_gfr (fun g => (0, 8, 0)) d79_236 rfl rfl rfl
theorem d79_239 : decode (cod 79) 239 = .ok (.iload_n 1, 1) := by decide +kernel
theorem r79_239 (l0 l2 : AV) (x : Int32) (st : List AV) (M : Mm) : run 79 239 [l0, aI x, l2] st M = run 79 240 [l0, aI x, l2] (aI x :: st) M := e_ildn d79_239 rfl
theorem d79_240 : decode (cod 79) 240 = .ok (.iconst 1, 1) := by decide +kernel
theorem r79_240 (l0 l1 l2 : AV) (st : List AV) (M : Mm) : run 79 240 [l0, l1, l2] st M = run 79 241 [l0, l1, l2] (aI 1 :: st) M := e_iconst 1 d79_240 (by decide +kernel)
theorem d79_241 : decode (cod 79) 241 = .ok (.iadd, 1) := by decide +kernel
theorem r79_241 (l0 l1 l2 : AV) (a b : Int32) (st : List AV) (M : Mm) : run 79 241 [l0, l1, l2] (aI b :: aI a :: st) M = run 79 242 [l0, l1, l2] (aI (a + b) :: st) M := e_iadd d79_241
theorem d79_242 : decode (cod 79) 242 = .ok (.iconst 2, 1) := by decide +kernel
theorem r79_242 (l0 l1 l2 : AV) (st : List AV) (M : Mm) : run 79 242 [l0, l1, l2] st M = run 79 243 [l0, l1, l2] (aI 2 :: st) M := e_iconst 2 d79_242 (by decide +kernel)
theorem d79_243 : decode (cod 79) 243 = .ok (.invokevirtual 269, 3) := by decide +kernel
theorem r79_243 (l0 l1 l2 : AV) (a0g a0i : Nat) (a1 : Int32) (a2 : Int32) (t0 t1 : AV) (M : Mm) : run 79 243 [l0, l1, l2] [aI a2, aI a1, aR a0g 8 a0i, t0, t1] M = cbI (call 33 [aR a0g 8 a0i, aI a1, aI a2] M) (fun v M => run 79 246 [l0, l1, l2] [aI v, t0, t1] M) := call_I (n := 3) rfl false d79_243 rfl rfl rfl rfl rfl rfl rfl
theorem d79_246 : decode (cod 79) 246 = .ok (.invokevirtual 276, 3) := by decide +kernel
theorem r79_246 (l0 l1 l2 : AV) (a0g a0i : Nat) (a1 : Int32) (a2 : Int32) (M : Mm) : run 79 246 [l0, l1, l2] [aI a2, aI a1, aR a0g 7 a0i] M = cbI (call 80 [aR a0g 7 a0i, aI a1, aI a2] M) (fun v M => run 79 249 [l0, l1, l2] [aI v] M) := call_I (n := 3) rfl false d79_246 rfl rfl rfl rfl rfl rfl rfl
theorem d79_249 : decode (cod 79) 249 = .ok (.ifCond .eq 26, 3) := by decide +kernel
theorem r79_249 (l0 l1 l2 : AV) (a : Int32) (st : List AV) (M : Mm) : run 79 249 [l0, l1, l2] (aI a :: st) M = if a = 0 then run 79 275 [l0, l1, l2] st M else run 79 252 [l0, l1, l2] st M := e_eq1 275 d79_249 (by decide)
theorem d79_252 : decode (cod 79) 252 = .ok (.aload_n 0, 1) := by decide +kernel
theorem r79_252 (l1 l2 : AV) (xg xi : Nat) (st : List AV) (M : Mm) : run 79 252 [aR xg 7 xi, l1, l2] st M = run 79 253 [aR xg 7 xi, l1, l2] (aR xg 7 xi :: st) M := e_aldn d79_252 rfl
theorem d79_253 : decode (cod 79) 253 = .ok (.iconst 4, 1) := by decide +kernel
theorem r79_253 (l0 l1 l2 : AV) (st : List AV) (M : Mm) : run 79 253 [l0, l1, l2] st M = run 79 254 [l0, l1, l2] (aI 4 :: st) M := e_iconst 4 d79_253 (by decide +kernel)
theorem d79_254 : decode (cod 79) 254 = .ok (.aload_n 0, 1) := by decide +kernel
theorem r79_254 (l1 l2 : AV) (xg xi : Nat) (st : List AV) (M : Mm) : run 79 254 [aR xg 7 xi, l1, l2] st M = run 79 255 [aR xg 7 xi, l1, l2] (aR xg 7 xi :: st) M := e_aldn d79_254 rfl
theorem d79_255 : decode (cod 79) 255 = .ok (.getfield 29, 3) := by decide +kernel
theorem r79_255 (l0 l1 l2 : AV) (xg xi : Nat) (st : List AV) (M : Mm) : run 79 255 [l0, l1, l2] (aR xg 7 xi :: st) M = run 79 258 [l0, l1, l2] (aR 0 8 0 :: st) M := e_gfr (fun g => (0, 8, 0)) d79_255 rfl rfl rfl
theorem d79_258 : decode (cod 79) 258 = .ok (.iload_n 1, 1) := by decide +kernel
theorem r79_258 (l0 l2 : AV) (x : Int32) (st : List AV) (M : Mm) : run 79 258 [l0, aI x, l2] st M = run 79 259 [l0, aI x, l2] (aI x :: st) M := e_ildn d79_258 rfl
theorem d79_259 : decode (cod 79) 259 = .ok (.iconst 3, 1) := by decide +kernel
theorem r79_259 (l0 l1 l2 : AV) (st : List AV) (M : Mm) : run 79 259 [l0, l1, l2] st M = run 79 260 [l0, l1, l2] (aI 3 :: st) M := e_iconst 3 d79_259 (by decide +kernel)
theorem d79_260 : decode (cod 79) 260 = .ok (.iadd, 1) := by decide +kernel
theorem r79_260 (l0 l1 l2 : AV) (a b : Int32) (st : List AV) (M : Mm) : run 79 260 [l0, l1, l2] (aI b :: aI a :: st) M = run 79 261 [l0, l1, l2] (aI (a + b) :: st) M := e_iadd d79_260
theorem d79_261 : decode (cod 79) 261 = .ok (.iconst 3, 1) := by decide +kernel
theorem r79_261 (l0 l1 l2 : AV) (st : List AV) (M : Mm) : run 79 261 [l0, l1, l2] st M = run 79 262 [l0, l1, l2] (aI 3 :: st) M := e_iconst 3 d79_261 (by decide +kernel)
theorem d79_262 : decode (cod 79) 262 = .ok (.invokevirtual 269, 3) := by decide +kernel
theorem r79_262 (l0 l1 l2 : AV) (a0g a0i : Nat) (a1 : Int32) (a2 : Int32) (t0 t1 : AV) (M : Mm) : run 79 262 [l0, l1, l2] [aI a2, aI a1, aR a0g 8 a0i, t0, t1] M = cbI (call 33 [aR a0g 8 a0i, aI a1, aI a2] M) (fun v M => run 79 265 [l0, l1, l2] [aI v, t0, t1] M) := call_I (n := 3) rfl false d79_262 rfl rfl rfl rfl rfl rfl rfl
theorem d79_265 : decode (cod 79) 265 = .ok (.invokevirtual 276, 3) := by decide +kernel
theorem r79_265 (l0 l1 l2 : AV) (a0g a0i : Nat) (a1 : Int32) (a2 : Int32) (M : Mm) : run 79 265 [l0, l1, l2] [aI a2, aI a1, aR a0g 7 a0i] M = cbI (call 80 [aR a0g 7 a0i, aI a1, aI a2] M) (fun v M => run 79 268 [l0, l1, l2] [aI v] M) := call_I (n := 3) rfl false d79_265 rfl rfl rfl rfl rfl rfl rfl
theorem d79_268 : decode (cod 79) 268 = .ok (.ifCond .eq 7, 3) := by decide +kernel
theorem r79_268 (l0 l1 l2 : AV) (a : Int32) (st : List AV) (M : Mm) : run 79 268 [l0, l1, l2] (aI a :: st) M = if a = 0 then run 79 275 [l0, l1, l2] st M else run 79 271 [l0, l1, l2] st M := e_eq1 275 d79_268 (by decide)
theorem d79_271 : decode (cod 79) 271 = .ok (.iconst 1, 1) := by decide +kernel
theorem r79_271 (l0 l1 l2 : AV) (st : List AV) (M : Mm) : run 79 271 [l0, l1, l2] st M = run 79 272 [l0, l1, l2] (aI 1 :: st) M := e_iconst 1 d79_271 (by decide +kernel)
theorem d79_272 : decode (cod 79) 272 = .ok (.goto 4, 3) := by decide +kernel
theorem r79_272 (l0 l1 l2 : AV) (st : List AV) (M : Mm) : run 79 272 [l0, l1, l2] st M = run 79 276 [l0, l1, l2] st M := e_goto 276 d79_272 (by decide)
theorem d79_275 : decode (cod 79) 275 = .ok (.iconst 0, 1) := by decide +kernel
theorem r79_275 (l0 l1 l2 : AV) (st : List AV) (M : Mm) : run 79 275 [l0, l1, l2] st M = run 79 276 [l0, l1, l2] (aI 0 :: st) M := e_iconst 0 d79_275 (by decide +kernel)
theorem d79_276 : decode (cod 79) 276 = .ok (.ireturn, 1) := by decide +kernel
theorem r79_276 (l0 l1 l2 : AV) (v : Int32) (M : Mm) : run 79 276 [l0, l1, l2] [aI v] M = if v = 0 ∨ v = 1 then some (some v, M) else none := e_zret d79_276 rfl
theorem d79_277 : decode (cod 79) 277 = .ok (.aload_n 0, 1) := by decide +kernel
theorem r79_277 (l1 l2 : AV) (xg xi : Nat) (st : List AV) (M : Mm) : run 79 277 [aR xg 7 xi, l1, l2] st M = run 79 278 [aR xg 7 xi, l1, l2] (aR xg 7 xi :: st) M := e_aldn d79_277 rfl
theorem d79_278 : decode (cod 79) 278 = .ok (.iconst 5, 1) := by decide +kernel
theorem r79_278 (l0 l1 l2 : AV) (st : List AV) (M : Mm) : run 79 278 [l0, l1, l2] st M = run 79 279 [l0, l1, l2] (aI 5 :: st) M := e_iconst 5 d79_278 (by decide +kernel)
theorem d79_279 : decode (cod 79) 279 = .ok (.aload_n 0, 1) := by decide +kernel
theorem r79_279 (l1 l2 : AV) (xg xi : Nat) (st : List AV) (M : Mm) : run 79 279 [aR xg 7 xi, l1, l2] st M = run 79 280 [aR xg 7 xi, l1, l2] (aR xg 7 xi :: st) M := e_aldn d79_279 rfl
theorem d79_280 : decode (cod 79) 280 = .ok (.getfield 29, 3) := by decide +kernel
theorem r79_280 (l0 l1 l2 : AV) (xg xi : Nat) (st : List AV) (M : Mm) : run 79 280 [l0, l1, l2] (aR xg 7 xi :: st) M = run 79 283 [l0, l1, l2] (aR 0 8 0 :: st) M := e_gfr (fun g => (0, 8, 0)) d79_280 rfl rfl rfl
theorem d79_283 : decode (cod 79) 283 = .ok (.iload_n 1, 1) := by decide +kernel
theorem r79_283 (l0 l2 : AV) (x : Int32) (st : List AV) (M : Mm) : run 79 283 [l0, aI x, l2] st M = run 79 284 [l0, aI x, l2] (aI x :: st) M := e_ildn d79_283 rfl
theorem d79_284 : decode (cod 79) 284 = .ok (.iconst 1, 1) := by decide +kernel
theorem r79_284 (l0 l1 l2 : AV) (st : List AV) (M : Mm) : run 79 284 [l0, l1, l2] st M = run 79 285 [l0, l1, l2] (aI 1 :: st) M := e_iconst 1 d79_284 (by decide +kernel)
theorem d79_285 : decode (cod 79) 285 = .ok (.iadd, 1) := by decide +kernel
theorem r79_285 (l0 l1 l2 : AV) (a b : Int32) (st : List AV) (M : Mm) : run 79 285 [l0, l1, l2] (aI b :: aI a :: st) M = run 79 286 [l0, l1, l2] (aI (a + b) :: st) M := e_iadd d79_285
theorem d79_286 : decode (cod 79) 286 = .ok (.iconst 3, 1) := by decide +kernel
theorem r79_286 (l0 l1 l2 : AV) (st : List AV) (M : Mm) : run 79 286 [l0, l1, l2] st M = run 79 287 [l0, l1, l2] (aI 3 :: st) M := e_iconst 3 d79_286 (by decide +kernel)
theorem d79_287 : decode (cod 79) 287 = .ok (.invokevirtual 269, 3) := by decide +kernel
theorem r79_287 (l0 l1 l2 : AV) (a0g a0i : Nat) (a1 : Int32) (a2 : Int32) (t0 t1 : AV) (M : Mm) : run 79 287 [l0, l1, l2] [aI a2, aI a1, aR a0g 8 a0i, t0, t1] M = cbI (call 33 [aR a0g 8 a0i, aI a1, aI a2] M) (fun v M => run 79 290 [l0, l1, l2] [aI v, t0, t1] M) := call_I (n := 3) rfl false d79_287 rfl rfl rfl rfl rfl rfl rfl
theorem d79_290 : decode (cod 79) 290 = .ok (.invokevirtual 276, 3) := by decide +kernel
theorem r79_290 (l0 l1 l2 : AV) (a0g a0i : Nat) (a1 : Int32) (a2 : Int32) (M : Mm) : run 79 290 [l0, l1, l2] [aI a2, aI a1, aR a0g 7 a0i] M = cbI (call 80 [aR a0g 7 a0i, aI a1, aI a2] M) (fun v M => run 79 293 [l0, l1, l2] [aI v] M) := call_I (n := 3) rfl false d79_290 rfl rfl rfl rfl rfl rfl rfl
theorem d79_293 : decode (cod 79) 293 = .ok (.ireturn, 1) := by decide +kernel
theorem r79_293 (l0 l1 l2 : AV) (v : Int32) (M : Mm) : run 79 293 [l0, l1, l2] [aI v] M = if v = 0 ∨ v = 1 then some (some v, M) else none := e_zret d79_293 rfl
theorem d79_294 : decode (cod 79) 294 = .ok (.aload_n 0, 1) := by decide +kernel
theorem r79_294 (l1 l2 : AV) (xg xi : Nat) (st : List AV) (M : Mm) : run 79 294 [aR xg 7 xi, l1, l2] st M = run 79 295 [aR xg 7 xi, l1, l2] (aR xg 7 xi :: st) M := e_aldn d79_294 rfl
theorem d79_295 : decode (cod 79) 295 = .ok (.bipush 6, 2) := by decide +kernel
theorem r79_295 (l0 l1 l2 : AV) (st : List AV) (M : Mm) : run 79 295 [l0, l1, l2] st M = run 79 297 [l0, l1, l2] (aI 6 :: st) M := e_bipush 6 d79_295 (by decide +kernel)
theorem d79_297 : decode (cod 79) 297 = .ok (.ldc_w 280, 3) := by decide +kernel
theorem r79_297 (l0 l1 l2 : AV) (st : List AV) (M : Mm) : run 79 297 [l0, l1, l2] st M = run 79 300 [l0, l1, l2] (aR 9 36 0 :: st) M := e_ldcwS (k := 36) d79_297 rfl rfl
theorem d79_300 : decode (cod 79) 300 = .ok (.aload_n 0, 1) := by decide +kernel
theorem r79_300 (l1 l2 : AV) (xg xi : Nat) (st : List AV) (M : Mm) : run 79 300 [aR xg 7 xi, l1, l2] st M = run 79 301 [aR xg 7 xi, l1, l2] (aR xg 7 xi :: st) M := e_aldn d79_300 rfl
theorem d79_301 : decode (cod 79) 301 = .ok (.getfield 29, 3) := by decide +kernel
theorem r79_301 (l0 l1 l2 : AV) (xg xi : Nat) (st : List AV) (M : Mm) : run 79 301 [l0, l1, l2] (aR xg 7 xi :: st) M = run 79 304 [l0, l1, l2] (aR 0 8 0 :: st) M := e_gfr (fun g => (0, 8, 0)) d79_301 rfl rfl rfl
theorem d79_304 : decode (cod 79) 304 = .ok (.iload_n 1, 1) := by decide +kernel
theorem r79_304 (l0 l2 : AV) (x : Int32) (st : List AV) (M : Mm) : run 79 304 [l0, aI x, l2] st M = run 79 305 [l0, aI x, l2] (aI x :: st) M := e_ildn d79_304 rfl
theorem d79_305 : decode (cod 79) 305 = .ok (.iconst 1, 1) := by decide +kernel
theorem r79_305 (l0 l1 l2 : AV) (st : List AV) (M : Mm) : run 79 305 [l0, l1, l2] st M = run 79 306 [l0, l1, l2] (aI 1 :: st) M := e_iconst 1 d79_305 (by decide +kernel)
theorem d79_306 : decode (cod 79) 306 = .ok (.iadd, 1) := by decide +kernel
theorem r79_306 (l0 l1 l2 : AV) (a b : Int32) (st : List AV) (M : Mm) : run 79 306 [l0, l1, l2] (aI b :: aI a :: st) M = run 79 307 [l0, l1, l2] (aI (a + b) :: st) M := e_iadd d79_306
theorem d79_307 : decode (cod 79) 307 = .ok (.invokevirtual 259, 3) := by decide +kernel
theorem r79_307 (l0 l1 l2 : AV) (a0g a0i : Nat) (a1 : Int32) (t0 t1 t2 : AV) (M : Mm) : run 79 307 [l0, l1, l2] [aI a1, aR a0g 8 a0i, t0, t1, t2] M = cbI (call 32 [aR a0g 8 a0i, aI a1] M) (fun v M => run 79 310 [l0, l1, l2] [aI v, t0, t1, t2] M) := call_I (n := 2) rfl false d79_307 rfl rfl rfl rfl rfl rfl rfl
theorem d79_310 : decode (cod 79) 310 = .ok (.i2c, 1) := by decide +kernel
theorem r79_310 (l0 l1 l2 : AV) (a : Int32) (st : List AV) (M : Mm) : run 79 310 [l0, l1, l2] (aI a :: st) M = run 79 311 [l0, l1, l2] (aI (a.toUInt32 % 65536).toInt32 :: st) M := e_i2c d79_310
theorem d79_311 : decode (cod 79) 311 = .ok (.invokevirtual 264, 3) := by decide +kernel
theorem r79_311 (l0 l1 l2 : AV) (b : Int32) (xg xi : Nat) (t0 t1 : AV) (M : Mm) : run 79 311 [l0, l1, l2] [aI b, aR xg 36 xi, t0, t1] M = run 79 314 [l0, l1, l2] [aI (ix 36 b), t0, t1] M := e_ix d79_311 rfl rfl
theorem d79_314 : decode (cod 79) 314 = .ok (.invokevirtual 276, 3) := by decide +kernel
theorem r79_314 (l0 l1 l2 : AV) (a0g a0i : Nat) (a1 : Int32) (a2 : Int32) (M : Mm) : run 79 314 [l0, l1, l2] [aI a2, aI a1, aR a0g 7 a0i] M = cbI (call 80 [aR a0g 7 a0i, aI a1, aI a2] M) (fun v M => run 79 317 [l0, l1, l2] [aI v] M) := call_I (n := 3) rfl false d79_314 rfl rfl rfl rfl rfl rfl rfl
theorem d79_317 : decode (cod 79) 317 = .ok (.ireturn, 1) := by decide +kernel
theorem r79_317 (l0 l1 l2 : AV) (v : Int32) (M : Mm) : run 79 317 [l0, l1, l2] [aI v] M = if v = 0 ∨ v = 1 then some (some v, M) else none := e_zret d79_317 rfl
theorem d79_318 : decode (cod 79) 318 = .ok (.aload_n 0, 1) := by decide +kernel
theorem r79_318 (l1 l2 : AV) (xg xi : Nat) (st : List AV) (M : Mm) : run 79 318 [aR xg 7 xi, l1, l2] st M = run 79 319 [aR xg 7 xi, l1, l2] (aR xg 7 xi :: st) M := e_aldn d79_318 rfl
theorem d79_319 : decode (cod 79) 319 = .ok (.getfield 29, 3) := by decide +kernel
theorem r79_319 (l0 l1 l2 : AV) (xg xi : Nat) (st : List AV) (M : Mm) : run 79 319 [l0, l1, l2] (aR xg 7 xi :: st) M = run 79 322 [l0, l1, l2] (aR 0 8 0 :: st) M := e_gfr (fun g => (0, 8, 0)) d79_319 rfl rfl rfl
theorem d79_322 : decode (cod 79) 322 = .ok (.iload_n 1, 1) := by decide +kernel
theorem r79_322 (l0 l2 : AV) (x : Int32) (st : List AV) (M : Mm) : run 79 322 [l0, aI x, l2] st M = run 79 323 [l0, aI x, l2] (aI x :: st) M := e_ildn d79_322 rfl
theorem d79_323 : decode (cod 79) 323 = .ok (.iconst 1, 1) := by decide +kernel
theorem r79_323 (l0 l1 l2 : AV) (st : List AV) (M : Mm) : run 79 323 [l0, l1, l2] st M = run 79 324 [l0, l1, l2] (aI 1 :: st) M := e_iconst 1 d79_323 (by decide +kernel)
theorem d79_324 : decode (cod 79) 324 = .ok (.iadd, 1) := by decide +kernel
theorem r79_324 (l0 l1 l2 : AV) (a b : Int32) (st : List AV) (M : Mm) : run 79 324 [l0, l1, l2] (aI b :: aI a :: st) M = run 79 325 [l0, l1, l2] (aI (a + b) :: st) M := e_iadd d79_324
theorem d79_325 : decode (cod 79) 325 = .ok (.iconst 2, 1) := by decide +kernel
theorem r79_325 (l0 l1 l2 : AV) (st : List AV) (M : Mm) : run 79 325 [l0, l1, l2] st M = run 79 326 [l0, l1, l2] (aI 2 :: st) M := e_iconst 2 d79_325 (by decide +kernel)
theorem d79_326 : decode (cod 79) 326 = .ok (.invokevirtual 269, 3) := by decide +kernel
theorem r79_326 (l0 l1 l2 : AV) (a0g a0i : Nat) (a1 : Int32) (a2 : Int32) (M : Mm) : run 79 326 [l0, l1, l2] [aI a2, aI a1, aR a0g 8 a0i] M = cbI (call 33 [aR a0g 8 a0i, aI a1, aI a2] M) (fun v M => run 79 329 [l0, l1, l2] [aI v] M) := call_I (n := 3) rfl false d79_326 rfl rfl rfl rfl rfl rfl rfl
theorem d79_329 : decode (cod 79) 329 = .ok (.istore_n 2, 1) := by decide +kernel
theorem r79_329 (l0 l1 l2 : AV) (x : Int32) (st : List AV) (M : Mm) : run 79 329 [l0, l1, l2] (aI x :: st) M = run 79 330 [l0, l1, aI x] st M := e_istn [l0, l1, aI x] d79_329 rfl rfl
theorem d79_330 : decode (cod 79) 330 = .ok (.aload_n 0, 1) := by decide +kernel
theorem r79_330 (l1 l2 : AV) (xg xi : Nat) (st : List AV) (M : Mm) : run 79 330 [aR xg 7 xi, l1, l2] st M = run 79 331 [aR xg 7 xi, l1, l2] (aR xg 7 xi :: st) M := e_aldn d79_330 rfl
theorem d79_331 : decode (cod 79) 331 = .ok (.getfield 16, 3) := by decide +kernel
theorem r79_331 (l0 l1 l2 : AV) (xg xi : Nat) (st : List AV) (M : Mm) : run 79 331 [l0, l1, l2] (aR xg 7 xi :: st) M = run 79 334 [l0, l1, l2] (aR 2 0 0 :: st) M := e_gfr (fun g => (2, 0, 0)) d79_331 rfl rfl rfl
theorem d79_334 : decode (cod 79) 334 = .ok (.iload_n 2, 1) := by decide +kernel
theorem r79_334 (l0 l1 : AV) (x : Int32) (st : List AV) (M : Mm) : run 79 334 [l0, l1, aI x] st M = run 79 335 [l0, l1, aI x] (aI x :: st) M := e_ildn d79_334 rfl
theorem d79_335 : decode (cod 79) 335 = .ok (.invokevirtual 121, 3) := by decide +kernel
theorem r79_335 (l0 l1 l2 : AV) (a0g a0i : Nat) (a1 : Int32) (M : Mm) : run 79 335 [l0, l1, l2] [aI a1, aR a0g 0 a0i] M = cbI (call 13 [aR a0g 0 a0i, aI a1] M) (fun v M => run 79 338 [l0, l1, l2] [aI v] M) := call_I (n := 2) rfl false d79_335 rfl rfl rfl rfl rfl rfl rfl
theorem d79_338 : decode (cod 79) 338 = .ok (.ifCond .ne 5, 3) := by decide +kernel
theorem r79_338 (l0 l1 l2 : AV) (a : Int32) (st : List AV) (M : Mm) : run 79 338 [l0, l1, l2] (aI a :: st) M = if a = 0 then run 79 341 [l0, l1, l2] st M else run 79 343 [l0, l1, l2] st M := e_ne1 343 d79_338 (by decide)
theorem d79_341 : decode (cod 79) 341 = .ok (.iconst 0, 1) := by decide +kernel
theorem r79_341 (l0 l1 l2 : AV) (st : List AV) (M : Mm) : run 79 341 [l0, l1, l2] st M = run 79 342 [l0, l1, l2] (aI 0 :: st) M := e_iconst 0 d79_341 (by decide +kernel)
theorem d79_342 : decode (cod 79) 342 = .ok (.ireturn, 1) := by decide +kernel
theorem r79_342 (l0 l1 l2 : AV) (v : Int32) (M : Mm) : run 79 342 [l0, l1, l2] [aI v] M = if v = 0 ∨ v = 1 then some (some v, M) else none := e_zret d79_342 rfl
theorem d79_343 : decode (cod 79) 343 = .ok (.aload_n 0, 1) := by decide +kernel
theorem r79_343 (l1 l2 : AV) (xg xi : Nat) (st : List AV) (M : Mm) : run 79 343 [aR xg 7 xi, l1, l2] st M = run 79 344 [aR xg 7 xi, l1, l2] (aR xg 7 xi :: st) M := e_aldn d79_343 rfl
theorem d79_344 : decode (cod 79) 344 = .ok (.getfield 16, 3) := by decide +kernel
theorem r79_344 (l0 l1 l2 : AV) (xg xi : Nat) (st : List AV) (M : Mm) : run 79 344 [l0, l1, l2] (aR xg 7 xi :: st) M = run 79 347 [l0, l1, l2] (aR 2 0 0 :: st) M := e_gfr (fun g => (2, 0, 0)) d79_344 rfl rfl rfl
theorem d79_347 : decode (cod 79) 347 = .ok (.iload_n 2, 1) := by decide +kernel
theorem r79_347 (l0 l1 : AV) (x : Int32) (st : List AV) (M : Mm) : run 79 347 [l0, l1, aI x] st M = run 79 348 [l0, l1, aI x] (aI x :: st) M := e_ildn d79_347 rfl
theorem d79_348 : decode (cod 79) 348 = .ok (.invokevirtual 124, 3) := by decide +kernel
theorem r79_348 (l0 l1 l2 : AV) (a0g a0i : Nat) (a1 : Int32) (M : Mm) : run 79 348 [l0, l1, l2] [aI a1, aR a0g 0 a0i] M = cbV (call 20 [aR a0g 0 a0i, aI a1] M) (fun M => run 79 351 [l0, l1, l2] [] M) := call_V (n := 2) rfl false d79_348 rfl rfl rfl rfl rfl rfl rfl
theorem d79_351 : decode (cod 79) 351 = .ok (.iconst 1, 1) := by decide +kernel
theorem r79_351 (l0 l1 l2 : AV) (st : List AV) (M : Mm) : run 79 351 [l0, l1, l2] st M = run 79 352 [l0, l1, l2] (aI 1 :: st) M := e_iconst 1 d79_351 (by decide +kernel)
theorem d79_352 : decode (cod 79) 352 = .ok (.ireturn, 1) := by decide +kernel
theorem r79_352 (l0 l1 l2 : AV) (v : Int32) (M : Mm) : run 79 352 [l0, l1, l2] [aI v] M = if v = 0 ∨ v = 1 then some (some v, M) else none := e_zret d79_352 rfl
theorem c80 (g0 i0 : Nat) (x1 : Int32) (x2 : Int32) (M : Mm) : call 80 [aR g0 7 i0, aI x1, aI x2] M = run 80 0 [aR g0 7 i0, aI x1, aI x2] [] M := call_run 80 _ _
theorem d80_0 : decode (cod 80) 0 = .ok (.iload_n 2, 1) := by decide +kernel
theorem r80_0 (l0 l1 : AV) (x : Int32) (st : List AV) (M : Mm) : run 80 0 [l0, l1, aI x] st M = run 80 1 [l0, l1, aI x] (aI x :: st) M := e_ildn d80_0 rfl
theorem d80_1 : decode (cod 80) 1 = .ok (.getstatic 108, 3) := by decide +kernel
theorem r80_1 (l0 l1 l2 : AV) (st : List AV) (M : Mm) : run 80 1 [l0, l1, l2] st M = run 80 4 [l0, l1, l2] (aR 9 33 0 :: st) M := e_gst (k := 33) (pl := 489) d80_1 rfl
theorem d80_4 : decode (cod 80) 4 = .ok (.iload_n 1, 1) := by decide +kernel
theorem r80_4 (l0 l2 : AV) (x : Int32) (st : List AV) (M : Mm) : run 80 4 [l0, aI x, l2] st M = run 80 5 [l0, aI x, l2] (aI x :: st) M := e_ildn d80_4 rfl
theorem d80_5 : decode (cod 80) 5 = .ok (.iaload, 1) := by decide +kernel
theorem r80_5 (l0 l1 l2 : AV) (i : Int32) (xg xi : Nat) (st : List AV) (M : Mm) : run 80 5 [l0, l1, l2] (aI i :: aR xg 33 xi :: st) M = if vpB i 7 = true then run 80 6 [l0, l1, l2] (aI (stV 33 i.toNatClampNeg) :: st) M else none := e_ialk d80_5
theorem d80_6 : decode (cod 80) 6 = .ok (.getstatic 111, 3) := by decide +kernel
theorem r80_6 (l0 l1 l2 : AV) (st : List AV) (M : Mm) : run 80 6 [l0, l1, l2] st M = run 80 9 [l0, l1, l2] (aR 9 34 0 :: st) M := e_gst (k := 34) (pl := 491) d80_6 rfl
theorem d80_9 : decode (cod 80) 9 = .ok (.iload_n 1, 1) := by decide +kernel
theorem r80_9 (l0 l2 : AV) (x : Int32) (st : List AV) (M : Mm) : run 80 9 [l0, aI x, l2] st M = run 80 10 [l0, aI x, l2] (aI x :: st) M := e_ildn d80_9 rfl
theorem d80_10 : decode (cod 80) 10 = .ok (.iaload, 1) := by decide +kernel
theorem r80_10 (l0 l1 l2 : AV) (i : Int32) (xg xi : Nat) (st : List AV) (M : Mm) : run 80 10 [l0, l1, l2] (aI i :: aR xg 34 xi :: st) M = if vpB i 7 = true then run 80 11 [l0, l1, l2] (aI (stV 34 i.toNatClampNeg) :: st) M else none := e_ialk d80_10
theorem d80_11 : decode (cod 80) 11 = .ok (.invokestatic 100, 3) := by decide +kernel
theorem r80_11 (l0 l1 l2 : AV) (a0 : Int32) (a1 : Int32) (a2 : Int32) (M : Mm) : run 80 11 [l0, l1, l2] [aI a2, aI a1, aI a0] M = cbI (call 67 [aI a0, aI a1, aI a2] M) (fun v M => run 80 14 [l0, l1, l2] [aI v] M) := call_I (n := 3) rfl true d80_11 rfl rfl rfl rfl rfl rfl rfl
theorem d80_14 : decode (cod 80) 14 = .ok (.ifCond .eq 5, 3) := by decide +kernel
theorem r80_14 (l0 l1 l2 : AV) (a : Int32) (st : List AV) (M : Mm) : run 80 14 [l0, l1, l2] (aI a :: st) M = if a = 0 then run 80 19 [l0, l1, l2] st M else run 80 17 [l0, l1, l2] st M := e_eq1 19 d80_14 (by decide)
theorem d80_17 : decode (cod 80) 17 = .ok (.iconst 0, 1) := by decide +kernel
theorem r80_17 (l0 l1 l2 : AV) (st : List AV) (M : Mm) : run 80 17 [l0, l1, l2] st M = run 80 18 [l0, l1, l2] (aI 0 :: st) M := e_iconst 0 d80_17 (by decide +kernel)
theorem d80_18 : decode (cod 80) 18 = .ok (.ireturn, 1) := by decide +kernel
theorem r80_18 (l0 l1 l2 : AV) (v : Int32) (M : Mm) : run 80 18 [l0, l1, l2] [aI v] M = if v = 0 ∨ v = 1 then some (some v, M) else none := e_zret d80_18 rfl
theorem d80_19 : decode (cod 80) 19 = .ok (.aload_n 0, 1) := by decide +kernel
theorem r80_19 (l1 l2 : AV) (xg xi : Nat) (st : List AV) (M : Mm) : run 80 19 [aR xg 7 xi, l1, l2] st M = run 80 20 [aR xg 7 xi, l1, l2] (aR xg 7 xi :: st) M := e_aldn d80_19 rfl
theorem d80_20 : decode (cod 80) 20 = .ok (.getfield 16, 3) := by decide +kernel
theorem r80_20 (l0 l1 l2 : AV) (xg xi : Nat) (st : List AV) (M : Mm) : run 80 20 [l0, l1, l2] (aR xg 7 xi :: st) M = run 80 23 [l0, l1, l2] (aR 2 0 0 :: st) M := e_gfr (fun g => (2, 0, 0)) d80_20 rfl rfl rfl
theorem d80_23 : decode (cod 80) 23 = .ok (.iload_n 1, 1) := by decide +kernel
theorem r80_23 (l0 l2 : AV) (x : Int32) (st : List AV) (M : Mm) : run 80 23 [l0, aI x, l2] st M = run 80 24 [l0, aI x, l2] (aI x :: st) M := e_ildn d80_23 rfl
theorem d80_24 : decode (cod 80) 24 = .ok (.iload_n 2, 1) := by decide +kernel
theorem r80_24 (l0 l1 : AV) (x : Int32) (st : List AV) (M : Mm) : run 80 24 [l0, l1, aI x] st M = run 80 25 [l0, l1, aI x] (aI x :: st) M := e_ildn d80_24 rfl
theorem d80_25 : decode (cod 80) 25 = .ok (.invokevirtual 117, 3) := by decide +kernel
theorem r80_25 (l0 l1 l2 : AV) (a0g a0i : Nat) (a1 : Int32) (a2 : Int32) (M : Mm) : run 80 25 [l0, l1, l2] [aI a2, aI a1, aR a0g 0 a0i] M = cbV (call 17 [aR a0g 0 a0i, aI a1, aI a2] M) (fun M => run 80 28 [l0, l1, l2] [] M) := call_V (n := 3) rfl false d80_25 rfl rfl rfl rfl rfl rfl rfl
theorem d80_28 : decode (cod 80) 28 = .ok (.iconst 1, 1) := by decide +kernel
theorem r80_28 (l0 l1 l2 : AV) (st : List AV) (M : Mm) : run 80 28 [l0, l1, l2] st M = run 80 29 [l0, l1, l2] (aI 1 :: st) M := e_iconst 1 d80_28 (by decide +kernel)
theorem d80_29 : decode (cod 80) 29 = .ok (.ireturn, 1) := by decide +kernel
theorem r80_29 (l0 l1 l2 : AV) (v : Int32) (M : Mm) : run 80 29 [l0, l1, l2] [aI v] M = if v = 0 ∨ v = 1 then some (some v, M) else none := e_zret d80_29 rfl
