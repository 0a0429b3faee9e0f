theorem c139 (g0 i0 : Nat) (x1 : Int32) (M : Mm) : call 139 [aR g0 12 i0, aI x1] M = run 139 0 [aR g0 12 i0, aI x1, none, none, none, none, none, none, none] [] M := call_run 139 _ _
theorem d139_0 : decode (cod 139) 0 = .ok (.iload_n 1, 1) := by decide +kernel
theorem r139_0 (l0 l2 l3 l4 l5 l6 l7 l8 : AV) (x : Int32) (st : List AV) (M : Mm) : run 139 0 [l0, aI x, l2, l3, l4, l5, l6, l7, l8] st M = run 139 1 [l0, aI x, l2, l3, l4, l5, l6, l7, l8] (aI x :: st) M := e_ildn d139_0 rfl
theorem d139_1 : decode (cod 139) 1 = .ok (.iconst 0, 1) := by decide +kernel
theorem r139_1 (l0 l1 l2 l3 l4 l5 l6 l7 l8 : AV) (st : List AV) (M : Mm) : run 139 1 [l0, l1, l2, l3, l4, l5, l6, l7, l8] st M = run 139 2 [l0, l1, l2, l3, l4, l5, l6, l7, l8] (aI 0 :: st) M := e_iconst 0 d139_1 (by decide +kernel)
theorem d139_2 : decode (cod 139) 2 = .ok (.sipush 240, 3) := by decide +kernel
theorem r139_2 (l0 l1 l2 l3 l4 l5 l6 l7 l8 : AV) (st : List AV) (M : Mm) : run 139 2 [l0, l1, l2, l3, l4, l5, l6, l7, l8] st M = run 139 5 [l0, l1, l2, l3, l4, l5, l6, l7, l8] (aI 240 :: st) M := e_sipush 240 d139_2 (by decide +kernel)
theorem d139_5 : decode (cod 139) 5 = .ok (.invokestatic 82, 3) := by decide +kernel
theorem r139_5 (l0 l1 l2 l3 l4 l5 l6 l7 l8 : AV) (a0 : Int32) (a1 : Int32) (a2 : Int32) (M : Mm) : run 139 5 [l0, l1, l2, l3, l4, l5, l6, l7, l8] [aI a2, aI a1, aI a0] M = cbI (call 84 [aI a0, aI a1, aI a2] M) (fun v M => run 139 8 [l0, l1, l2, l3, l4, l5, l6, l7, l8] [aI v] M) := call_I (n := 3) rfl true d139_5 rfl rfl rfl rfl rfl rfl rfl
theorem d139_8 : decode (cod 139) 8 = .ok (.istore_n 2, 1) := by decide +kernel
theorem r139_8 (l0 l1 l2 l3 l4 l5 l6 l7 l8 : AV) (x : Int32) (st : List AV) (M : Mm) : run 139 8 [l0, l1, l2, l3, l4, l5, l6, l7, l8] (aI x :: st) M = run 139 9 [l0, l1, aI x, l3, l4, l5, l6, l7, l8] st M := e_istn [l0, l1, aI x, l3, l4, l5, l6, l7, l8] d139_8 rfl rfl
theorem d139_9 : decode (cod 139) 9 = .ok (.iload_n 2, 1) := by decide +kernel
theorem r139_9 (l0 l1 l3 l4 l5 l6 l7 l8 : AV) (x : Int32) (st : List AV) (M : Mm) : run 139 9 [l0, l1, aI x, l3, l4, l5, l6, l7, l8] st M = run 139 10 [l0, l1, aI x, l3, l4, l5, l6, l7, l8] (aI x :: st) M := e_ildn d139_9 rfl
theorem d139_10 : decode (cod 139) 10 = .ok (.ifCond .eq 9, 3) := by decide +kernel
theorem r139_10 (l0 l1 l2 l3 l4 l5 l6 l7 l8 : AV) (a : Int32) (st : List AV) (M : Mm) : run 139 10 [l0, l1, l2, l3, l4, l5, l6, l7, l8] (aI a :: st) M = if a = 0 then run 139 19 [l0, l1, l2, l3, l4, l5, l6, l7, l8] st M else run 139 13 [l0, l1, l2, l3, l4, l5, l6, l7, l8] st M := e_eq1 19 d139_10 (by decide)
theorem d139_13 : decode (cod 139) 13 = .ok (.aload_n 0, 1) := by decide +kernel
theorem r139_13 (l1 l2 l3 l4 l5 l6 l7 l8 : AV) (xg xi : Nat) (st : List AV) (M : Mm) : run 139 13 [aR xg 12 xi, l1, l2, l3, l4, l5, l6, l7, l8] st M = run 139 14 [aR xg 12 xi, l1, l2, l3, l4, l5, l6, l7, l8] (aR xg 12 xi :: st) M := e_aldn d139_13 rfl
theorem d139_14 : decode (cod 139) 14 = .ok (.iload_n 2, 1) := by decide +kernel
theorem r139_14 (l0 l1 l3 l4 l5 l6 l7 l8 : AV) (x : Int32) (st : List AV) (M : Mm) : run 139 14 [l0, l1, aI x, l3, l4, l5, l6, l7, l8] st M = run 139 15 [l0, l1, aI x, l3, l4, l5, l6, l7, l8] (aI x :: st) M := e_ildn d139_14 rfl
theorem d139_15 : decode (cod 139) 15 = .ok (.invokevirtual 89, 3) := by decide +kernel
theorem r139_15 (l0 l1 l2 l3 l4 l5 l6 l7 l8 : AV) (a0g a0i : Nat) (a1 : Int32) (M : Mm) : run 139 15 [l0, l1, l2, l3, l4, l5, l6, l7, l8] [aI a1, aR a0g 12 a0i] M = cbI (call 81 [aR a0g 12 a0i, aI a1] M) (fun v M => run 139 18 [l0, l1, l2, l3, l4, l5, l6, l7, l8] [aI v] M) := call_I (n := 2) rfl false d139_15 rfl rfl rfl rfl rfl rfl rfl
theorem d139_18 : decode (cod 139) 18 = .ok (.ireturn, 1) := by decide +kernel
theorem r139_18 (l0 l1 l2 l3 l4 l5 l6 l7 l8 : AV) (v : Int32) (M : Mm) : run 139 18 [l0, l1, l2, l3, l4, l5, l6, l7, l8] [aI v] M = some (some v, M) := e_iret d139_18 rfl
theorem d139_19 : decode (cod 139) 19 = .ok (.aload_n 0, 1) := by decide +kernel
theorem r139_19 (l1 l2 l3 l4 l5 l6 l7 l8 : AV) (xg xi : Nat) (st : List AV) (M : Mm) : run 139 19 [aR xg 12 xi, l1, l2, l3, l4, l5, l6, l7, l8] st M = run 139 20 [aR xg 12 xi, l1, l2, l3, l4, l5, l6, l7, l8] (aR xg 12 xi :: st) M := e_aldn d139_19 rfl
theorem d139_20 : decode (cod 139) 20 = .ok (.getfield 13, 3) := by decide +kernel
theorem r139_20 (l0 l1 l2 l3 l4 l5 l6 l7 l8 : AV) (xg xi : Nat) (st : List AV) (M : Mm) : run 139 20 [l0, l1, l2, l3, l4, l5, l6, l7, l8] (aR xg 12 xi :: st) M = run 139 23 [l0, l1, l2, l3, l4, l5, l6, l7, l8] (aR 4 14 0 :: st) M := e_gfr (fun g => (4, 14, 0)) d139_20 rfl rfl rfl
theorem d139_23 : decode (cod 139) 23 = .ok (.bipush 6, 2) := by decide +kernel
theorem r139_23 (l0 l1 l2 l3 l4 l5 l6 l7 l8 : AV) (st : List AV) (M : Mm) : run 139 23 [l0, l1, l2, l3, l4, l5, l6, l7, l8] st M = run 139 25 [l0, l1, l2, l3, l4, l5, l6, l7, l8] (aI 6 :: st) M := e_bipush 6 d139_23 (by decide +kernel)
theorem d139_25 : decode (cod 139) 25 = .ok (.iaload, 1) := by decide +kernel
theorem r139_25 (l0 l1 l2 l3 l4 l5 l6 l7 l8 : AV) (i : Int32) (xg xi : Nat) (st : List AV) (M : Mm) : run 139 25 [l0, l1, l2, l3, l4, l5, l6, l7, l8] (aI i :: aR xg 14 xi :: st) M = if vpB i 7 = true then run 139 26 [l0, l1, l2, l3, l4, l5, l6, l7, l8] (aI (M xg 14 xi i.toNatClampNeg) :: st) M else none := e_ial d139_25 rfl rfl
theorem d139_26 : decode (cod 139) 26 = .ok (.istore_n 3, 1) := by decide +kernel
theorem r139_26 (l0 l1 l2 l3 l4 l5 l6 l7 l8 : AV) (x : Int32) (st : List AV) (M : Mm) : run 139 26 [l0, l1, l2, l3, l4, l5, l6, l7, l8] (aI x :: st) M = run 139 27 [l0, l1, l2, aI x, l4, l5, l6, l7, l8] st M := e_istn [l0, l1, l2, aI x, l4, l5, l6, l7, l8] d139_26 rfl rfl
theorem d139_27 : decode (cod 139) 27 = .ok (.iconst 0, 1) := by decide +kernel
theorem r139_27 (l0 l1 l2 l3 l4 l5 l6 l7 l8 : AV) (st : List AV) (M : Mm) : run 139 27 [l0, l1, l2, l3, l4, l5, l6, l7, l8] st M = run 139 28 [l0, l1, l2, l3, l4, l5, l6, l7, l8] (aI 0 :: st) M := e_iconst 0 d139_27 (by decide +kernel)
theorem d139_28 : decode (cod 139) 28 = .ok (.istore 4, 2) := by decide +kernel
theorem r139_28 (l0 l1 l2 l3 l4 l5 l6 l7 l8 : AV) (x : Int32) (st : List AV) (M : Mm) : run 139 28 [l0, l1, l2, l3, l4, l5, l6, l7, l8] (aI x :: st) M = run 139 30 [l0, l1, l2, l3, aI x, l5, l6, l7, l8] st M := e_ist [l0, l1, l2, l3, aI x, l5, l6, l7, l8] d139_28 rfl rfl
theorem d139_30 : decode (cod 139) 30 = .ok (.iconst (-1), 1) := by decide +kernel
theorem r139_30 (l0 l1 l2 l3 l4 l5 l6 l7 l8 : AV) (st : List AV) (M : Mm) : run 139 30 [l0, l1, l2, l3, l4, l5, l6, l7, l8] st M = run 139 31 [l0, l1, l2, l3, l4, l5, l6, l7, l8] (aI (-1) :: st) M := e_iconst (-1) d139_30 (by decide +kernel)
theorem d139_31 : decode (cod 139) 31 = .ok (.istore 5, 2) := by decide +kernel
theorem r139_31 (l0 l1 l2 l3 l4 l5 l6 l7 l8 : AV) (x : Int32) (st : List AV) (M : Mm) : run 139 31 [l0, l1, l2, l3, l4, l5, l6, l7, l8] (aI x :: st) M = run 139 33 [l0, l1, l2, l3, l4, aI x, l6, l7, l8] st M := e_ist [l0, l1, l2, l3, l4, aI x, l6, l7, l8] d139_31 rfl rfl
theorem d139_33 : decode (cod 139) 33 = .ok (.iconst 0, 1) := by decide +kernel
theorem r139_33 (l0 l1 l2 l3 l4 l5 l6 l7 l8 : AV) (st : List AV) (M : Mm) : run 139 33 [l0, l1, l2, l3, l4, l5, l6, l7, l8] st M = run 139 34 [l0, l1, l2, l3, l4, l5, l6, l7, l8] (aI 0 :: st) M := e_iconst 0 d139_33 (by decide +kernel)
theorem d139_34 : decode (cod 139) 34 = .ok (.istore 6, 2) := by decide +kernel
theorem r139_34 (l0 l1 l2 l3 l4 l5 l6 l7 l8 : AV) (x : Int32) (st : List AV) (M : Mm) : run 139 34 [l0, l1, l2, l3, l4, l5, l6, l7, l8] (aI x :: st) M = run 139 36 [l0, l1, l2, l3, l4, l5, aI x, l7, l8] st M := e_ist [l0, l1, l2, l3, l4, l5, aI x, l7, l8] d139_34 rfl rfl
theorem d139_36 : decode (cod 139) 36 = .ok (.iconst 0, 1) := by decide +kernel
theorem r139_36 (l0 l1 l2 l3 l4 l5 l6 l7 l8 : AV) (st : List AV) (M : Mm) : run 139 36 [l0, l1, l2, l3, l4, l5, l6, l7, l8] st M = run 139 37 [l0, l1, l2, l3, l4, l5, l6, l7, l8] (aI 0 :: st) M := e_iconst 0 d139_36 (by decide +kernel)
theorem d139_37 : decode (cod 139) 37 = .ok (.istore 7, 2) := by decide +kernel
theorem r139_37 (l0 l1 l2 l3 l4 l5 l6 l7 l8 : AV) (x : Int32) (st : List AV) (M : Mm) : run 139 37 [l0, l1, l2, l3, l4, l5, l6, l7, l8] (aI x :: st) M = run 139 39 [l0, l1, l2, l3, l4, l5, l6, aI x, l8] st M := e_ist [l0, l1, l2, l3, l4, l5, l6, aI x, l8] d139_37 rfl rfl
theorem d139_39 : decode (cod 139) 39 = .ok (.iload 7, 2) := by decide +kernel
theorem r139_39 (l0 l1 l2 l3 l4 l5 l6 l8 : AV) (x : Int32) (st : List AV) (M : Mm) : run 139 39 [l0, l1, l2, l3, l4, l5, l6, aI x, l8] st M = run 139 41 [l0, l1, l2, l3, l4, l5, l6, aI x, l8] (aI x :: st) M := e_ild d139_39 rfl
theorem d139_41 : decode (cod 139) 41 = .ok (.bipush 6, 2) := by decide +kernel
theorem r139_41 (l0 l1 l2 l3 l4 l5 l6 l7 l8 : AV) (st : List AV) (M : Mm) : run 139 41 [l0, l1, l2, l3, l4, l5, l6, l7, l8] st M = run 139 43 [l0, l1, l2, l3, l4, l5, l6, l7, l8] (aI 6 :: st) M := e_bipush 6 d139_41 (by decide +kernel)
theorem d139_43 : decode (cod 139) 43 = .ok (.if_icmp .ge 71, 3) := by decide +kernel
theorem r139_43 (l0 l1 l2 l3 l4 l5 l6 l7 l8 : AV) (a b : Int32) (st : List AV) (M : Mm) : run 139 43 [l0, l1, l2, l3, l4, l5, l6, l7, l8] (aI b :: aI a :: st) M = if a < b then run 139 46 [l0, l1, l2, l3, l4, l5, l6, l7, l8] st M else run 139 114 [l0, l1, l2, l3, l4, l5, l6, l7, l8] st M := e_ge2 114 d139_43 (by decide)
theorem d139_46 : decode (cod 139) 46 = .ok (.aload_n 0, 1) := by decide +kernel
theorem r139_46 (l1 l2 l3 l4 l5 l6 l7 l8 : AV) (xg xi : Nat) (st : List AV) (M : Mm) : run 139 46 [aR xg 12 xi, l1, l2, l3, l4, l5, l6, l7, l8] st M = run 139 47 [aR xg 12 xi, l1, l2, l3, l4, l5, l6, l7, l8] (aR xg 12 xi :: st) M := e_aldn d139_46 rfl
theorem d139_47 : decode (cod 139) 47 = .ok (.getfield 13, 3) := by decide +kernel
theorem r139_47 (l0 l1 l2 l3 l4 l5 l6 l7 l8 : AV) (xg xi : Nat) (st : List AV) (M : Mm) : run 139 47 [l0, l1, l2, l3, l4, l5, l6, l7, l8] (aR xg 12 xi :: st) M = run 139 50 [l0, l1, l2, l3, l4, l5, l6, l7, l8] (aR 4 14 0 :: st) M := e_gfr (fun g => (4, 14, 0)) d139_47 rfl rfl rfl
theorem d139_50 : decode (cod 139) 50 = .ok (.bipush 6, 2) := by decide +kernel
theorem r139_50 (l0 l1 l2 l3 l4 l5 l6 l7 l8 : AV) (st : List AV) (M : Mm) : run 139 50 [l0, l1, l2, l3, l4, l5, l6, l7, l8] st M = run 139 52 [l0, l1, l2, l3, l4, l5, l6, l7, l8] (aI 6 :: st) M := e_bipush 6 d139_50 (by decide +kernel)
theorem d139_52 : decode (cod 139) 52 = .ok (.iload 7, 2) := by decide +kernel
theorem r139_52 (l0 l1 l2 l3 l4 l5 l6 l8 : AV) (x : Int32) (st : List AV) (M : Mm) : run 139 52 [l0, l1, l2, l3, l4, l5, l6, aI x, l8] st M = run 139 54 [l0, l1, l2, l3, l4, l5, l6, aI x, l8] (aI x :: st) M := e_ild d139_52 rfl
theorem d139_54 : decode (cod 139) 54 = .ok (.iastore, 1) := by decide +kernel
theorem r139_54 (l0 l1 l2 l3 l4 l5 l6 l7 l8 : AV) (v i : Int32) (xg xi : Nat) (st : List AV) (M : Mm) : run 139 54 [l0, l1, l2, l3, l4, l5, l6, l7, l8] (aI v :: aI i :: aR xg 14 xi :: st) M = if vpB i 7 = true then run 139 55 [l0, l1, l2, l3, l4, l5, l6, l7, l8] st (wr M xg 14 xi i.toNatClampNeg v) else none := e_ias d139_54 rfl rfl
theorem d139_55 : decode (cod 139) 55 = .ok (.aload_n 0, 1) := by decide +kernel
theorem r139_55 (l1 l2 l3 l4 l5 l6 l7 l8 : AV) (xg xi : Nat) (st : List AV) (M : Mm) : run 139 55 [aR xg 12 xi, l1, l2, l3, l4, l5, l6, l7, l8] st M = run 139 56 [aR xg 12 xi, l1, l2, l3, l4, l5, l6, l7, l8] (aR xg 12 xi :: st) M := e_aldn d139_55 rfl
theorem d139_56 : decode (cod 139) 56 = .ok (.iload_n 1, 1) := by decide +kernel
theorem r139_56 (l0 l2 l3 l4 l5 l6 l7 l8 : AV) (x : Int32) (st : List AV) (M : Mm) : run 139 56 [l0, aI x, l2, l3, l4, l5, l6, l7, l8] st M = run 139 57 [l0, aI x, l2, l3, l4, l5, l6, l7, l8] (aI x :: st) M := e_ildn d139_56 rfl
theorem d139_57 : decode (cod 139) 57 = .ok (.invokevirtual 284, 3) := by decide +kernel
theorem r139_57 (l0 l1 l2 l3 l4 l5 l6 l7 l8 : AV) (a0g a0i : Nat) (a1 : Int32) (M : Mm) : run 139 57 [l0, l1, l2, l3, l4, l5, l6, l7, l8] [aI a1, aR a0g 12 a0i] M = cbV (call 130 [aR a0g 12 a0i, aI a1] M) (fun M => run 139 60 [l0, l1, l2, l3, l4, l5, l6, l7, l8] [] M) := call_V (n := 2) rfl false d139_57 rfl rfl rfl rfl rfl rfl rfl
theorem d139_60 : decode (cod 139) 60 = .ok (.aload_n 0, 1) := by decide +kernel
theorem r139_60 (l1 l2 l3 l4 l5 l6 l7 l8 : AV) (xg xi : Nat) (st : List AV) (M : Mm) : run 139 60 [aR xg 12 xi, l1, l2, l3, l4, l5, l6, l7, l8] st M = run 139 61 [aR xg 12 xi, l1, l2, l3, l4, l5, l6, l7, l8] (aR xg 12 xi :: st) M := e_aldn d139_60 rfl
theorem d139_61 : decode (cod 139) 61 = .ok (.invokevirtual 245, 3) := by decide +kernel
theorem r139_61 (l0 l1 l2 l3 l4 l5 l6 l7 l8 : AV) (a0g a0i : Nat) (M : Mm) : run 139 61 [l0, l1, l2, l3, l4, l5, l6, l7, l8] [aR a0g 12 a0i] M = cbI (call 125 [aR a0g 12 a0i] M) (fun v M => run 139 64 [l0, l1, l2, l3, l4, l5, l6, l7, l8] [aI v] M) := call_I (n := 1) rfl false d139_61 rfl rfl rfl rfl rfl rfl rfl
theorem d139_64 : decode (cod 139) 64 = .ok (.istore 8, 2) := by decide +kernel
theorem r139_64 (l0 l1 l2 l3 l4 l5 l6 l7 l8 : AV) (x : Int32) (st : List AV) (M : Mm) : run 139 64 [l0, l1, l2, l3, l4, l5, l6, l7, l8] (aI x :: st) M = run 139 66 [l0, l1, l2, l3, l4, l5, l6, l7, aI x] st M := e_ist [l0, l1, l2, l3, l4, l5, l6, l7, aI x] d139_64 rfl rfl
theorem d139_66 : decode (cod 139) 66 = .ok (.aload_n 0, 1) := by decide +kernel
theorem r139_66 (l1 l2 l3 l4 l5 l6 l7 l8 : AV) (xg xi : Nat) (st : List AV) (M : Mm) : run 139 66 [aR xg 12 xi, l1, l2, l3, l4, l5, l6, l7, l8] st M = run 139 67 [aR xg 12 xi, l1, l2, l3, l4, l5, l6, l7, l8] (aR xg 12 xi :: st) M := e_aldn d139_66 rfl
theorem d139_67 : decode (cod 139) 67 = .ok (.getfield 242, 3) := by decide +kernel
theorem r139_67 (l0 l1 l2 l3 l4 l5 l6 l7 l8 : AV) (xg xi : Nat) (st : List AV) (M : Mm) : run 139 67 [l0, l1, l2, l3, l4, l5, l6, l7, l8] (aR xg 12 xi :: st) M = run 139 70 [l0, l1, l2, l3, l4, l5, l6, l7, l8] (aI (M xg 12 xi 29) :: st) M := e_gfi d139_67 rfl rfl rfl
theorem d139_70 : decode (cod 139) 70 = .ok (.iload 5, 2) := by decide +kernel
theorem r139_70 (l0 l1 l2 l3 l4 l6 l7 l8 : AV) (x : Int32) (st : List AV) (M : Mm) : run 139 70 [l0, l1, l2, l3, l4, aI x, l6, l7, l8] st M = run 139 72 [l0, l1, l2, l3, l4, aI x, l6, l7, l8] (aI x :: st) M := e_ild d139_70 rfl
theorem d139_72 : decode (cod 139) 72 = .ok (.if_icmp .lt 36, 3) := by decide +kernel
theorem r139_72 (l0 l1 l2 l3 l4 l5 l6 l7 l8 : AV) (a b : Int32) (st : List AV) (M : Mm) : run 139 72 [l0, l1, l2, l3, l4, l5, l6, l7, l8] (aI b :: aI a :: st) M = if a < b then run 139 108 [l0, l1, l2, l3, l4, l5, l6, l7, l8] st M else run 139 75 [l0, l1, l2, l3, l4, l5, l6, l7, l8] st M := e_lt2 108 d139_72 (by decide)
theorem d139_75 : decode (cod 139) 75 = .ok (.aload_n 0, 1) := by decide +kernel
theorem r139_75 (l1 l2 l3 l4 l5 l6 l7 l8 : AV) (xg xi : Nat) (st : List AV) (M : Mm) : run 139 75 [aR xg 12 xi, l1, l2, l3, l4, l5, l6, l7, l8] st M = run 139 76 [aR xg 12 xi, l1, l2, l3, l4, l5, l6, l7, l8] (aR xg 12 xi :: st) M := e_aldn d139_75 rfl
theorem d139_76 : decode (cod 139) 76 = .ok (.getfield 242, 3) := by decide +kernel
theorem r139_76 (l0 l1 l2 l3 l4 l5 l6 l7 l8 : AV) (xg xi : Nat) (st : List AV) (M : Mm) : run 139 76 [l0, l1, l2, l3, l4, l5, l6, l7, l8] (aR xg 12 xi :: st) M = run 139 79 [l0, l1, l2, l3, l4, l5, l6, l7, l8] (aI (M xg 12 xi 29) :: st) M := e_gfi d139_76 rfl rfl rfl
theorem d139_79 : decode (cod 139) 79 = .ok (.iload 5, 2) := by decide +kernel
theorem r139_79 (l0 l1 l2 l3 l4 l6 l7 l8 : AV) (x : Int32) (st : List AV) (M : Mm) : run 139 79 [l0, l1, l2, l3, l4, aI x, l6, l7, l8] st M = run 139 81 [l0, l1, l2, l3, l4, aI x, l6, l7, l8] (aI x :: st) M := e_ild d139_79 rfl
theorem d139_81 : decode (cod 139) 81 = .ok (.if_icmp .ne 13, 3) := by decide +kernel
theorem r139_81 (l0 l1 l2 l3 l4 l5 l6 l7 l8 : AV) (a b : Int32) (st : List AV) (M : Mm) : run 139 81 [l0, l1, l2, l3, l4, l5, l6, l7, l8] (aI b :: aI a :: st) M = if a = b then run 139 84 [l0, l1, l2, l3, l4, l5, l6, l7, l8] st M else run 139 94 [l0, l1, l2, l3, l4, l5, l6, l7, l8] st M := e_ne2 94 d139_81 (by decide)
theorem d139_84 : decode (cod 139) 84 = .ok (.iload 8, 2) := by decide +kernel
theorem r139_84 (l0 l1 l2 l3 l4 l5 l6 l7 : AV) (x : Int32) (st : List AV) (M : Mm) : run 139 84 [l0, l1, l2, l3, l4, l5, l6, l7, aI x] st M = run 139 86 [l0, l1, l2, l3, l4, l5, l6, l7, aI x] (aI x :: st) M := e_ild d139_84 rfl
theorem d139_86 : decode (cod 139) 86 = .ok (.iload 6, 2) := by decide +kernel
theorem r139_86 (l0 l1 l2 l3 l4 l5 l7 l8 : AV) (x : Int32) (st : List AV) (M : Mm) : run 139 86 [l0, l1, l2, l3, l4, l5, aI x, l7, l8] st M = run 139 88 [l0, l1, l2, l3, l4, l5, aI x, l7, l8] (aI x :: st) M := e_ild d139_86 rfl
theorem d139_88 : decode (cod 139) 88 = .ok (.if_icmp .lt 6, 3) := by decide +kernel
theorem r139_88 (l0 l1 l2 l3 l4 l5 l6 l7 l8 : AV) (a b : Int32) (st : List AV) (M : Mm) : run 139 88 [l0, l1, l2, l3, l4, l5, l6, l7, l8] (aI b :: aI a :: st) M = if a < b then run 139 94 [l0, l1, l2, l3, l4, l5, l6, l7, l8] st M else run 139 91 [l0, l1, l2, l3, l4, l5, l6, l7, l8] st M := e_lt2 94 d139_88 (by decide)
theorem d139_91 : decode (cod 139) 91 = .ok (.goto 17, 3) := by decide +kernel
theorem r139_91 (l0 l1 l2 l3 l4 l5 l6 l7 l8 : AV) (st : List AV) (M : Mm) : run 139 91 [l0, l1, l2, l3, l4, l5, l6, l7, l8] st M = run 139 108 [l0, l1, l2, l3, l4, l5, l6, l7, l8] st M := e_goto 108 d139_91 (by decide)
theorem d139_94 : decode (cod 139) 94 = .ok (.iload 7, 2) := by decide +kernel
theorem r139_94 (l0 l1 l2 l3 l4 l5 l6 l8 : AV) (x : Int32) (st : List AV) (M : Mm) : run 139 94 [l0, l1, l2, l3, l4, l5, l6, aI x, l8] st M = run 139 96 [l0, l1, l2, l3, l4, l5, l6, aI x, l8] (aI x :: st) M := e_ild d139_94 rfl
theorem d139_96 : decode (cod 139) 96 = .ok (.istore 4, 2) := by decide +kernel
theorem r139_96 (l0 l1 l2 l3 l4 l5 l6 l7 l8 : AV) (x : Int32) (st : List AV) (M : Mm) : run 139 96 [l0, l1, l2, l3, l4, l5, l6, l7, l8] (aI x :: st) M = run 139 98 [l0, l1, l2, l3, aI x, l5, l6, l7, l8] st M := e_ist [l0, l1, l2, l3, aI x, l5, l6, l7, l8] d139_96 rfl rfl
theorem d139_98 : decode (cod 139) 98 = .ok (.aload_n 0, 1) := by decide +kernel
theorem r139_98 (l1 l2 l3 l4 l5 l6 l7 l8 : AV) (xg xi : Nat) (st : List AV) (M : Mm) : run 139 98 [aR xg 12 xi, l1, l2, l3, l4, l5, l6, l7, l8] st M = run 139 99 [aR xg 12 xi, l1, l2, l3, l4, l5, l6, l7, l8] (aR xg 12 xi :: st) M := e_aldn d139_98 rfl
theorem d139_99 : decode (cod 139) 99 = .ok (.getfield 242, 3) := by decide +kernel
theorem r139_99 (l0 l1 l2 l3 l4 l5 l6 l7 l8 : AV) (xg xi : Nat) (st : List AV) (M : Mm) : run 139 99 [l0, l1, l2, l3, l4, l5, l6, l7, l8] (aR xg 12 xi :: st) M = run 139 102 [l0, l1, l2, l3, l4, l5, l6, l7, l8] (aI (M xg 12 xi 29) :: st) M := e_gfi d139_99 rfl rfl rfl
theorem d139_102 : decode (cod 139) 102 = .ok (.istore 5, 2) := by decide +kernel
theorem r139_102 (l0 l1 l2 l3 l4 l5 l6 l7 l8 : AV) (x : Int32) (st : List AV) (M : Mm) : run 139 102 [l0, l1, l2, l3, l4, l5, l6, l7, l8] (aI x :: st) M = run 139 104 [l0, l1, l2, l3, l4, aI x, l6, l7, l8] st M := e_ist [l0, l1, l2, l3, l4, aI x, l6, l7, l8] d139_102 rfl rfl
theorem d139_104 : decode (cod 139) 104 = .ok (.iload 8, 2) := by decide +kernel
theorem r139_104 (l0 l1 l2 l3 l4 l5 l6 l7 : AV) (x : Int32) (st : List AV) (M : Mm) : run 139 104 [l0, l1, l2, l3, l4, l5, l6, l7, aI x] st M = run 139 106 [l0, l1, l2, l3, l4, l5, l6, l7, aI x] (aI x :: st) M := e_ild d139_104 rfl
theorem d139_106 : decode (cod 139) 106 = .ok (.istore 6, 2) := by decide +kernel
theorem r139_106 (l0 l1 l2 l3 l4 l5 l6 l7 l8 : AV) (x : Int32) (st : List AV) (M : Mm) : run 139 106 [l0, l1, l2, l3, l4, l5, l6, l7, l8] (aI x :: st) M = run 139 108 [l0, l1, l2, l3, l4, l5, aI x, l7, l8] st M := e_ist [l0, l1, l2, l3, l4, l5, aI x, l7, l8] d139_106 rfl rfl
theorem d139_108 : decode (cod 139) 108 = .ok (.iinc 7 1, 3) := by decide +kernel
theorem r139_108 (l0 l1 l2 l3 l4 l5 l6 l8 : AV) (x : Int32) (st : List AV) (M : Mm) : run 139 108 [l0, l1, l2, l3, l4, l5, l6, aI x, l8] st M = run 139 111 [l0, l1, l2, l3, l4, l5, l6, aI (x + 1), l8] st M := e_iinc 1 [l0, l1, l2, l3, l4, l5, l6, aI (x + 1), l8] d139_108 (by decide +kernel) rfl rfl
theorem d139_111 : decode (cod 139) 111 = .ok (.goto (-72), 3) := by decide +kernel
theorem r139_111 (l0 l1 l2 l3 l4 l5 l6 l7 l8 : AV) (st : List AV) (M : Mm) : run 139 111 [l0, l1, l2, l3, l4, l5, l6, l7, l8] st M = run 139 39 [l0, l1, l2, l3, l4, l5, l6, l7, l8] st M := e_goto 39 d139_111 (by decide)
theorem d139_114 : decode (cod 139) 114 = .ok (.aload_n 0, 1) := by decide +kernel
theorem r139_114 (l1 l2 l3 l4 l5 l6 l7 l8 : AV) (xg xi : Nat) (st : List AV) (M : Mm) : run 139 114 [aR xg 12 xi, l1, l2, l3, l4, l5, l6, l7, l8] st M = run 139 115 [aR xg 12 xi, l1, l2, l3, l4, l5, l6, l7, l8] (aR xg 12 xi :: st) M := e_aldn d139_114 rfl
theorem d139_115 : decode (cod 139) 115 = .ok (.getfield 13, 3) := by decide +kernel
theorem r139_115 (l0 l1 l2 l3 l4 l5 l6 l7 l8 : AV) (xg xi : Nat) (st : List AV) (M : Mm) : run 139 115 [l0, l1, l2, l3, l4, l5, l6, l7, l8] (aR xg 12 xi :: st) M = run 139 118 [l0, l1, l2, l3, l4, l5, l6, l7, l8] (aR 4 14 0 :: st) M := e_gfr (fun g => (4, 14, 0)) d139_115 rfl rfl rfl
theorem d139_118 : decode (cod 139) 118 = .ok (.bipush 6, 2) := by decide +kernel
theorem r139_118 (l0 l1 l2 l3 l4 l5 l6 l7 l8 : AV) (st : List AV) (M : Mm) : run 139 118 [l0, l1, l2, l3, l4, l5, l6, l7, l8] st M = run 139 120 [l0, l1, l2, l3, l4, l5, l6, l7, l8] (aI 6 :: st) M := e_bipush 6 d139_118 (by decide +kernel)
theorem d139_120 : decode (cod 139) 120 = .ok (.iload_n 3, 1) := by decide +kernel
theorem r139_120 (l0 l1 l2 l4 l5 l6 l7 l8 : AV) (x : Int32) (st : List AV) (M : Mm) : run 139 120 [l0, l1, l2, aI x, l4, l5, l6, l7, l8] st M = run 139 121 [l0, l1, l2, aI x, l4, l5, l6, l7, l8] (aI x :: st) M := e_ildn d139_120 rfl
theorem d139_121 : decode (cod 139) 121 = .ok (.iastore, 1) := by decide +kernel
theorem r139_121 (l0 l1 l2 l3 l4 l5 l6 l7 l8 : AV) (v i : Int32) (xg xi : Nat) (st : List AV) (M : Mm) : run 139 121 [l0, l1, l2, l3, l4, l5, l6, l7, l8] (aI v :: aI i :: aR xg 14 xi :: st) M = if vpB i 7 = true then run 139 122 [l0, l1, l2, l3, l4, l5, l6, l7, l8] st (wr M xg 14 xi i.toNatClampNeg v) else none := e_ias d139_121 rfl rfl
theorem d139_122 : decode (cod 139) 122 = .ok (.iload 4, 2) := by decide +kernel
theorem r139_122 (l0 l1 l2 l3 l5 l6 l7 l8 : AV) (x : Int32) (st : List AV) (M : Mm) : run 139 122 [l0, l1, l2, l3, aI x, l5, l6, l7, l8] st M = run 139 124 [l0, l1, l2, l3, aI x, l5, l6, l7, l8] (aI x :: st) M := e_ild d139_122 rfl
theorem d139_124 : decode (cod 139) 124 = .ok (.ireturn, 1) := by decide +kernel
theorem r139_124 (l0 l1 l2 l3 l4 l5 l6 l7 l8 : AV) (v : Int32) (M : Mm) : run 139 124 [l0, l1, l2, l3, l4, l5, l6, l7, l8] [aI v] M = some (some v, M) := e_iret d139_124 rfl
theorem c140 (g0 i0 : Nat) (x1 : Int32) (x2 : Int32) (x3 : Int32) (M : Mm) : call 140 [aR g0 12 i0, aI x1, aI x2, aI x3] M = run 140 0 [aR g0 12 i0, aI x1, aI x2, aI x3, none] [] M := call_run 140 _ _
theorem d140_0 : decode (cod 140) 0 = .ok (.aload_n 0, 1) := by decide +kernel
theorem r140_0 (l1 l2 l3 l4 : AV) (xg xi : Nat) (st : List AV) (M : Mm) : run 140 0 [aR xg 12 xi, l1, l2, l3, l4] st M = run 140 1 [aR xg 12 xi, l1, l2, l3, l4] (aR xg 12 xi :: st) M := e_aldn d140_0 rfl
theorem d140_1 : decode (cod 140) 1 = .ok (.getfield 13, 3) := by decide +kernel
theorem r140_1 (l0 l1 l2 l3 l4 : AV) (xg xi : Nat) (st : List AV) (M : Mm) : run 140 1 [l0, l1, l2, l3, l4] (aR xg 12 xi :: st) M = run 140 4 [l0, l1, l2, l3, l4] (aR 4 14 0 :: st) M := e_gfr (fun g => (4, 14, 0)) d140_1 rfl rfl rfl
theorem d140_4 : decode (cod 140) 4 = .ok (.iload_n 1, 1) := by decide +kernel
theorem r140_4 (l0 l2 l3 l4 : AV) (x : Int32) (st : List AV) (M : Mm) : run 140 4 [l0, aI x, l2, l3, l4] st M = run 140 5 [l0, aI x, l2, l3, l4] (aI x :: st) M := e_ildn d140_4 rfl
theorem d140_5 : decode (cod 140) 5 = .ok (.iaload, 1) := by decide +kernel
theorem r140_5 (l0 l1 l2 l3 l4 : AV) (i : Int32) (xg xi : Nat) (st : List AV) (M : Mm) : run 140 5 [l0, l1, l2, l3, l4] (aI i :: aR xg 14 xi :: st) M = if vpB i 7 = true then run 140 6 [l0, l1, l2, l3, l4] (aI (M xg 14 xi i.toNatClampNeg) :: st) M else none := e_ial d140_5 rfl rfl
theorem d140_6 : decode (cod 140) 6 = .ok (.istore 4, 2) := by decide +kernel
theorem r140_6 (l0 l1 l2 l3 l4 : AV) (x : Int32) (st : List AV) (M : Mm) : run 140 6 [l0, l1, l2, l3, l4] (aI x :: st) M = run 140 8 [l0, l1, l2, l3, aI x] st M := e_ist [l0, l1, l2, l3, aI x] d140_6 rfl rfl
theorem d140_8 : decode (cod 140) 8 = .ok (.aload_n 0, 1) := by decide +kernel
theorem r140_8 (l1 l2 l3 l4 : AV) (xg xi : Nat) (st : List AV) (M : Mm) : run 140 8 [aR xg 12 xi, l1, l2, l3, l4] st M = run 140 9 [aR xg 12 xi, l1, l2, l3, l4] (aR xg 12 xi :: st) M := e_aldn d140_8 rfl
theorem d140_9 : decode (cod 140) 9 = .ok (.getfield 13, 3) := by decide +kernel
theorem r140_9 (l0 l1 l2 l3 l4 : AV) (xg xi : Nat) (st : List AV) (M : Mm) : run 140 9 [l0, l1, l2, l3, l4] (aR xg 12 xi :: st) M = run 140 12 [l0, l1, l2, l3, l4] (aR 4 14 0 :: st) M := e_gfr (fun g => (4, 14, 0)) d140_9 rfl rfl rfl
theorem d140_12 : decode (cod 140) 12 = .ok (.iload_n 1, 1) := by decide +kernel
theorem r140_12 (l0 l2 l3 l4 : AV) (x : Int32) (st : List AV) (M : Mm) : run 140 12 [l0, aI x, l2, l3, l4] st M = run 140 13 [l0, aI x, l2, l3, l4] (aI x :: st) M := e_ildn d140_12 rfl
theorem d140_13 : decode (cod 140) 13 = .ok (.iload_n 2, 1) := by decide +kernel
theorem r140_13 (l0 l1 l3 l4 : AV) (x : Int32) (st : List AV) (M : Mm) : run 140 13 [l0, l1, aI x, l3, l4] st M = run 140 14 [l0, l1, aI x, l3, l4] (aI x :: st) M := e_ildn d140_13 rfl
theorem d140_14 : decode (cod 140) 14 = .ok (.iastore, 1) := by decide +kernel
theorem r140_14 (l0 l1 l2 l3 l4 : AV) (v i : Int32) (xg xi : Nat) (st : List AV) (M : Mm) : run 140 14 [l0, l1, l2, l3, l4] (aI v :: aI i :: aR xg 14 xi :: st) M = if vpB i 7 = true then run 140 15 [l0, l1, l2, l3, l4] st (wr M xg 14 xi i.toNatClampNeg v) else none := e_ias d140_14 rfl rfl
theorem d140_15 : decode (cod 140) 15 = .ok (.aload_n 0, 1) := by decide +kernel
theorem r140_15 (l1 l2 l3 l4 : AV) (xg xi : Nat) (st : List AV) (M : Mm) : run 140 15 [aR xg 12 xi, l1, l2, l3, l4] st M = run 140 16 [aR xg 12 xi, l1, l2, l3, l4] (aR xg 12 xi :: st) M := e_aldn d140_15 rfl
theorem d140_16 : decode (cod 140) 16 = .ok (.iload_n 3, 1) := by decide +kernel
theorem r140_16 (l0 l1 l2 l4 : AV) (x : Int32) (st : List AV) (M : Mm) : run 140 16 [l0, l1, l2, aI x, l4] st M = run 140 17 [l0, l1, l2, aI x, l4] (aI x :: st) M := e_ildn d140_16 rfl
theorem d140_17 : decode (cod 140) 17 = .ok (.invokevirtual 284, 3) := by decide +kernel
theorem r140_17 (l0 l1 l2 l3 l4 : AV) (a0g a0i : Nat) (a1 : Int32) (M : Mm) : run 140 17 [l0, l1, l2, l3, l4] [aI a1, aR a0g 12 a0i] M = cbV (call 130 [aR a0g 12 a0i, aI a1] M) (fun M => run 140 20 [l0, l1, l2, l3, l4] [] M) := call_V (n := 2) rfl false d140_17 rfl rfl rfl rfl rfl rfl rfl
theorem d140_20 : decode (cod 140) 20 = .ok (.aload_n 0, 1) := by decide +kernel
theorem r140_20 (l1 l2 l3 l4 : AV) (xg xi : Nat) (st : List AV) (M : Mm) : run 140 20 [aR xg 12 xi, l1, l2, l3, l4] st M = run 140 21 [aR xg 12 xi, l1, l2, l3, l4] (aR xg 12 xi :: st) M := e_aldn d140_20 rfl
theorem d140_21 : decode (cod 140) 21 = .ok (.getfield 13, 3) := by decide +kernel
theorem r140_21 (l0 l1 l2 l3 l4 : AV) (xg xi : Nat) (st : List AV) (M : Mm) : run 140 21 [l0, l1, l2, l3, l4] (aR xg 12 xi :: st) M = run 140 24 [l0, l1, l2, l3, l4] (aR 4 14 0 :: st) M := e_gfr (fun g => (4, 14, 0)) d140_21 rfl rfl rfl
theorem d140_24 : decode (cod 140) 24 = .ok (.iload_n 1, 1) := by decide +kernel
theorem r140_24 (l0 l2 l3 l4 : AV) (x : Int32) (st : List AV) (M : Mm) : run 140 24 [l0, aI x, l2, l3, l4] st M = run 140 25 [l0, aI x, l2, l3, l4] (aI x :: st) M := e_ildn d140_24 rfl
theorem d140_25 : decode (cod 140) 25 = .ok (.iload 4, 2) := by decide +kernel
theorem r140_25 (l0 l1 l2 l3 : AV) (x : Int32) (st : List AV) (M : Mm) : run 140 25 [l0, l1, l2, l3, aI x] st M = run 140 27 [l0, l1, l2, l3, aI x] (aI x :: st) M := e_ild d140_25 rfl
theorem d140_27 : decode (cod 140) 27 = .ok (.iastore, 1) := by decide +kernel
theorem r140_27 (l0 l1 l2 l3 l4 : AV) (v i : Int32) (xg xi : Nat) (st : List AV) (M : Mm) : run 140 27 [l0, l1, l2, l3, l4] (aI v :: aI i :: aR xg 14 xi :: st) M = if vpB i 7 = true then run 140 28 [l0, l1, l2, l3, l4] st (wr M xg 14 xi i.toNatClampNeg v) else none := e_ias d140_27 rfl rfl
theorem d140_28 : decode (cod 140) 28 = .ok (.aload_n 0, 1) := by decide +kernel
theorem r140_28 (l1 l2 l3 l4 : AV) (xg xi : Nat) (st : List AV) (M : Mm) : run 140 28 [aR xg 12 xi, l1, l2, l3, l4] st M = run 140 29 [aR xg 12 xi, l1, l2, l3, l4] (aR xg 12 xi :: st) M := e_aldn d140_28 rfl
theorem d140_29 : decode (cod 140) 29 = .ok (.getfield 242, 3) := by decide +kernel
theorem r140_29 (l0 l1 l2 l3 l4 : AV) (xg xi : Nat) (st : List AV) (M : Mm) : run 140 29 [l0, l1, l2, l3, l4] (aR xg 12 xi :: st) M = run 140 32 [l0, l1, l2, l3, l4] (aI (M xg 12 xi 29) :: st) M := e_gfi d140_29 rfl rfl rfl
theorem d140_32 : decode (cod 140) 32 = .ok (.ireturn, 1) := by decide +kernel
theorem r140_32 (l0 l1 l2 l3 l4 : AV) (v : Int32) (M : Mm) : run 140 32 [l0, l1, l2, l3, l4] [aI v] M = some (some v, M) := e_iret d140_32 rfl
theorem c141 (g0 i0 : Nat) (x1 : Int32) (M : Mm) : call 141 [aR g0 12 i0, aI x1] M = run 141 0 [aR g0 12 i0, aI x1, none, none, none, none, none] [] M := call_run 141 _ _
theorem d141_0 : decode (cod 141) 0 = .ok (.iload_n 1, 1) := by decide +kernel
theorem r141_0 (l0 l2 l3 l4 l5 l6 : AV) (x : Int32) (st : List AV) (M : Mm) : run 141 0 [l0, aI x, l2, l3, l4, l5, l6] st M = run 141 1 [l0, aI x, l2, l3, l4, l5, l6] (aI x :: st) M := e_ildn d141_0 rfl
theorem d141_1 : decode (cod 141) 1 = .ok (.iconst 0, 1) := by decide +kernel
theorem r141_1 (l0 l1 l2 l3 l4 l5 l6 : AV) (st : List AV) (M : Mm) : run 141 1 [l0, l1, l2, l3, l4, l5, l6] st M = run 141 2 [l0, l1, l2, l3, l4, l5, l6] (aI 0 :: st) M := e_iconst 0 d141_1 (by decide +kernel)
theorem d141_2 : decode (cod 141) 2 = .ok (.sipush 240, 3) := by decide +kernel
theorem r141_2 (l0 l1 l2 l3 l4 l5 l6 : AV) (st : List AV) (M : Mm) : run 141 2 [l0, l1, l2, l3, l4, l5, l6] st M = run 141 5 [l0, l1, l2, l3, l4, l5, l6] (aI 240 :: st) M := e_sipush 240 d141_2 (by decide +kernel)
theorem d141_5 : decode (cod 141) 5 = .ok (.invokestatic 82, 3) := by decide +kernel
theorem r141_5 (l0 l1 l2 l3 l4 l5 l6 : AV) (a0 : Int32) (a1 : Int32) (a2 : Int32) (M : Mm) : run 141 5 [l0, l1, l2, l3, l4, l5, l6] [aI a2, aI a1, aI a0] M = cbI (call 84 [aI a0, aI a1, aI a2] M) (fun v M => run 141 8 [l0, l1, l2, l3, l4, l5, l6] [aI v] M) := call_I (n := 3) rfl true d141_5 rfl rfl rfl rfl rfl rfl rfl
theorem d141_8 : decode (cod 141) 8 = .ok (.istore_n 2, 1) := by decide +kernel
theorem r141_8 (l0 l1 l2 l3 l4 l5 l6 : AV) (x : Int32) (st : List AV) (M : Mm) : run 141 8 [l0, l1, l2, l3, l4, l5, l6] (aI x :: st) M = run 141 9 [l0, l1, aI x, l3, l4, l5, l6] st M := e_istn [l0, l1, aI x, l3, l4, l5, l6] d141_8 rfl rfl
theorem d141_9 : decode (cod 141) 9 = .ok (.iload_n 2, 1) := by decide +kernel
theorem r141_9 (l0 l1 l3 l4 l5 l6 : AV) (x : Int32) (st : List AV) (M : Mm) : run 141 9 [l0, l1, aI x, l3, l4, l5, l6] st M = run 141 10 [l0, l1, aI x, l3, l4, l5, l6] (aI x :: st) M := e_ildn d141_9 rfl
theorem d141_10 : decode (cod 141) 10 = .ok (.ifCond .eq 9, 3) := by decide +kernel
theorem r141_10 (l0 l1 l2 l3 l4 l5 l6 : AV) (a : Int32) (st : List AV) (M : Mm) : run 141 10 [l0, l1, l2, l3, l4, l5, l6] (aI a :: st) M = if a = 0 then run 141 19 [l0, l1, l2, l3, l4, l5, l6] st M else run 141 13 [l0, l1, l2, l3, l4, l5, l6] st M := e_eq1 19 d141_10 (by decide)
theorem d141_13 : decode (cod 141) 13 = .ok (.aload_n 0, 1) := by decide +kernel
theorem r141_13 (l1 l2 l3 l4 l5 l6 : AV) (xg xi : Nat) (st : List AV) (M : Mm) : run 141 13 [aR xg 12 xi, l1, l2, l3, l4, l5, l6] st M = run 141 14 [aR xg 12 xi, l1, l2, l3, l4, l5, l6] (aR xg 12 xi :: st) M := e_aldn d141_13 rfl
theorem d141_14 : decode (cod 141) 14 = .ok (.iload_n 2, 1) := by decide +kernel
theorem r141_14 (l0 l1 l3 l4 l5 l6 : AV) (x : Int32) (st : List AV) (M : Mm) : run 141 14 [l0, l1, aI x, l3, l4, l5, l6] st M = run 141 15 [l0, l1, aI x, l3, l4, l5, l6] (aI x :: st) M := e_ildn d141_14 rfl
theorem d141_15 : decode (cod 141) 15 = .ok (.invokevirtual 89, 3) := by decide +kernel
theorem r141_15 (l0 l1 l2 l3 l4 l5 l6 : AV) (a0g a0i : Nat) (a1 : Int32) (M : Mm) : run 141 15 [l0, l1, l2, l3, l4, l5, l6] [aI a1, aR a0g 12 a0i] M = cbI (call 81 [aR a0g 12 a0i, aI a1] M) (fun v M => run 141 18 [l0, l1, l2, l3, l4, l5, l6] [aI v] M) := call_I (n := 2) rfl false d141_15 rfl rfl rfl rfl rfl rfl rfl
theorem d141_18 : decode (cod 141) 18 = .ok (.ireturn, 1) := by decide +kernel
theorem r141_18 (l0 l1 l2 l3 l4 l5 l6 : AV) (v : Int32) (M : Mm) : run 141 18 [l0, l1, l2, l3, l4, l5, l6] [aI v] M = some (some v, M) := e_iret d141_18 rfl
theorem d141_19 : decode (cod 141) 19 = .ok (.bipush 10, 2) := by decide +kernel
theorem r141_19 (l0 l1 l2 l3 l4 l5 l6 : AV) (st : List AV) (M : Mm) : run 141 19 [l0, l1, l2, l3, l4, l5, l6] st M = run 141 21 [l0, l1, l2, l3, l4, l5, l6] (aI 10 :: st) M := e_bipush 10 d141_19 (by decide +kernel)
theorem d141_21 : decode (cod 141) 21 = .ok (.istore_n 3, 1) := by decide +kernel
theorem r141_21 (l0 l1 l2 l3 l4 l5 l6 : AV) (x : Int32) (st : List AV) (M : Mm) : run 141 21 [l0, l1, l2, l3, l4, l5, l6] (aI x :: st) M = run 141 22 [l0, l1, l2, aI x, l4, l5, l6] st M := e_istn [l0, l1, l2, aI x, l4, l5, l6] d141_21 rfl rfl
theorem d141_22 : decode (cod 141) 22 = .ok (.iconst (-1), 1) := by decide +kernel
theorem r141_22 (l0 l1 l2 l3 l4 l5 l6 : AV) (st : List AV) (M : Mm) : run 141 22 [l0, l1, l2, l3, l4, l5, l6] st M = run 141 23 [l0, l1, l2, l3, l4, l5, l6] (aI (-1) :: st) M := e_iconst (-1) d141_22 (by decide +kernel)
theorem d141_23 : decode (cod 141) 23 = .ok (.istore 4, 2) := by decide +kernel
theorem r141_23 (l0 l1 l2 l3 l4 l5 l6 : AV) (x : Int32) (st : List AV) (M : Mm) : run 141 23 [l0, l1, l2, l3, l4, l5, l6] (aI x :: st) M = run 141 25 [l0, l1, l2, l3, aI x, l5, l6] st M := e_ist [l0, l1, l2, l3, aI x, l5, l6] d141_23 rfl rfl
theorem d141_25 : decode (cod 141) 25 = .ok (.bipush 10, 2) := by decide +kernel
theorem r141_25 (l0 l1 l2 l3 l4 l5 l6 : AV) (st : List AV) (M : Mm) : run 141 25 [l0, l1, l2, l3, l4, l5, l6] st M = run 141 27 [l0, l1, l2, l3, l4, l5, l6] (aI 10 :: st) M := e_bipush 10 d141_25 (by decide +kernel)
theorem d141_27 : decode (cod 141) 27 = .ok (.istore 5, 2) := by decide +kernel
theorem r141_27 (l0 l1 l2 l3 l4 l5 l6 : AV) (x : Int32) (st : List AV) (M : Mm) : run 141 27 [l0, l1, l2, l3, l4, l5, l6] (aI x :: st) M = run 141 29 [l0, l1, l2, l3, l4, aI x, l6] st M := e_ist [l0, l1, l2, l3, l4, aI x, l6] d141_27 rfl rfl
theorem d141_29 : decode (cod 141) 29 = .ok (.iload 5, 2) := by decide +kernel
theorem r141_29 (l0 l1 l2 l3 l4 l6 : AV) (x : Int32) (st : List AV) (M : Mm) : run 141 29 [l0, l1, l2, l3, l4, aI x, l6] st M = run 141 31 [l0, l1, l2, l3, l4, aI x, l6] (aI x :: st) M := e_ild d141_29 rfl
theorem d141_31 : decode (cod 141) 31 = .ok (.bipush 41, 2) := by decide +kernel
theorem r141_31 (l0 l1 l2 l3 l4 l5 l6 : AV) (st : List AV) (M : Mm) : run 141 31 [l0, l1, l2, l3, l4, l5, l6] st M = run 141 33 [l0, l1, l2, l3, l4, l5, l6] (aI 41 :: st) M := e_bipush 41 d141_31 (by decide +kernel)
theorem d141_33 : decode (cod 141) 33 = .ok (.if_icmp .ge 36, 3) := by decide +kernel
theorem r141_33 (l0 l1 l2 l3 l4 l5 l6 : AV) (a b : Int32) (st : List AV) (M : Mm) : run 141 33 [l0, l1, l2, l3, l4, l5, l6] (aI b :: aI a :: st) M = if a < b then run 141 36 [l0, l1, l2, l3, l4, l5, l6] st M else run 141 69 [l0, l1, l2, l3, l4, l5, l6] st M := e_ge2 69 d141_33 (by decide)
theorem d141_36 : decode (cod 141) 36 = .ok (.aload_n 0, 1) := by decide +kernel
theorem r141_36 (l1 l2 l3 l4 l5 l6 : AV) (xg xi : Nat) (st : List AV) (M : Mm) : run 141 36 [aR xg 12 xi, l1, l2, l3, l4, l5, l6] st M = run 141 37 [aR xg 12 xi, l1, l2, l3, l4, l5, l6] (aR xg 12 xi :: st) M := e_aldn d141_36 rfl
theorem d141_37 : decode (cod 141) 37 = .ok (.iconst 1, 1) := by decide +kernel
theorem r141_37 (l0 l1 l2 l3 l4 l5 l6 : AV) (st : List AV) (M : Mm) : run 141 37 [l0, l1, l2, l3, l4, l5, l6] st M = run 141 38 [l0, l1, l2, l3, l4, l5, l6] (aI 1 :: st) M := e_iconst 1 d141_37 (by decide +kernel)
theorem d141_38 : decode (cod 141) 38 = .ok (.iload 5, 2) := by decide +kernel
theorem r141_38 (l0 l1 l2 l3 l4 l6 : AV) (x : Int32) (st : List AV) (M : Mm) : run 141 38 [l0, l1, l2, l3, l4, aI x, l6] st M = run 141 40 [l0, l1, l2, l3, l4, aI x, l6] (aI x :: st) M := e_ild d141_38 rfl
theorem d141_40 : decode (cod 141) 40 = .ok (.iload_n 1, 1) := by decide +kernel
theorem r141_40 (l0 l2 l3 l4 l5 l6 : AV) (x : Int32) (st : List AV) (M : Mm) : run 141 40 [l0, aI x, l2, l3, l4, l5, l6] st M = run 141 41 [l0, aI x, l2, l3, l4, l5, l6] (aI x :: st) M := e_ildn d141_40 rfl
theorem d141_41 : decode (cod 141) 41 = .ok (.invokevirtual 287, 3) := by decide +kernel
theorem r141_41 (l0 l1 l2 l3 l4 l5 l6 : AV) (a0g a0i : Nat) (a1 : Int32) (a2 : Int32) (a3 : Int32) (M : Mm) : run 141 41 [l0, l1, l2, l3, l4, l5, l6] [aI a3, aI a2, aI a1, aR a0g 12 a0i] M = cbI (call 140 [aR a0g 12 a0i, aI a1, aI a2, aI a3] M) (fun v M => run 141 44 [l0, l1, l2, l3, l4, l5, l6] [aI v] M) := call_I (n := 4) rfl false d141_41 rfl rfl rfl rfl rfl rfl rfl
theorem d141_44 : decode (cod 141) 44 = .ok (.istore 6, 2) := by decide +kernel
theorem r141_44 (l0 l1 l2 l3 l4 l5 l6 : AV) (x : Int32) (st : List AV) (M : Mm) : run 141 44 [l0, l1, l2, l3, l4, l5, l6] (aI x :: st) M = run 141 46 [l0, l1, l2, l3, l4, l5, aI x] st M := e_ist [l0, l1, l2, l3, l4, l5, aI x] d141_44 rfl rfl
theorem d141_46 : decode (cod 141) 46 = .ok (.iload 6, 2) := by decide +kernel
theorem r141_46 (l0 l1 l2 l3 l4 l5 : AV) (x : Int32) (st : List AV) (M : Mm) : run 141 46 [l0, l1, l2, l3, l4, l5, aI x] st M = run 141 48 [l0, l1, l2, l3, l4, l5, aI x] (aI x :: st) M := e_ild d141_46 rfl
theorem d141_48 : decode (cod 141) 48 = .ok (.iload 4, 2) := by decide +kernel
theorem r141_48 (l0 l1 l2 l3 l5 l6 : AV) (x : Int32) (st : List AV) (M : Mm) : run 141 48 [l0, l1, l2, l3, aI x, l5, l6] st M = run 141 50 [l0, l1, l2, l3, aI x, l5, l6] (aI x :: st) M := e_ild d141_48 rfl
theorem d141_50 : decode (cod 141) 50 = .ok (.if_icmp .gt 6, 3) := by decide +kernel
theorem r141_50 (l0 l1 l2 l3 l4 l5 l6 : AV) (a b : Int32) (st : List AV) (M : Mm) : run 141 50 [l0, l1, l2, l3, l4, l5, l6] (aI b :: aI a :: st) M = if b < a then run 141 56 [l0, l1, l2, l3, l4, l5, l6] st M else run 141 53 [l0, l1, l2, l3, l4, l5, l6] st M := e_gt2 56 d141_50 (by decide)
theorem d141_53 : decode (cod 141) 53 = .ok (.goto 10, 3) := by decide +kernel
theorem r141_53 (l0 l1 l2 l3 l4 l5 l6 : AV) (st : List AV) (M : Mm) : run 141 53 [l0, l1, l2, l3, l4, l5, l6] st M = run 141 63 [l0, l1, l2, l3, l4, l5, l6] st M := e_goto 63 d141_53 (by decide)
theorem d141_56 : decode (cod 141) 56 = .ok (.iload 5, 2) := by decide +kernel
theorem r141_56 (l0 l1 l2 l3 l4 l6 : AV) (x : Int32) (st : List AV) (M : Mm) : run 141 56 [l0, l1, l2, l3, l4, aI x, l6] st M = run 141 58 [l0, l1, l2, l3, l4, aI x, l6] (aI x :: st) M := e_ild d141_56 rfl
theorem d141_58 : decode (cod 141) 58 = .ok (.istore_n 3, 1) := by decide +kernel
theorem r141_58 (l0 l1 l2 l3 l4 l5 l6 : AV) (x : Int32) (st : List AV) (M : Mm) : run 141 58 [l0, l1, l2, l3, l4, l5, l6] (aI x :: st) M = run 141 59 [l0, l1, l2, aI x, l4, l5, l6] st M := e_istn [l0, l1, l2, aI x, l4, l5, l6] d141_58 rfl rfl
theorem d141_59 : decode (cod 141) 59 = .ok (.iload 6, 2) := by decide +kernel
theorem r141_59 (l0 l1 l2 l3 l4 l5 : AV) (x : Int32) (st : List AV) (M : Mm) : run 141 59 [l0, l1, l2, l3, l4, l5, aI x] st M = run 141 61 [l0, l1, l2, l3, l4, l5, aI x] (aI x :: st) M := e_ild d141_59 rfl
theorem d141_61 : decode (cod 141) 61 = .ok (.istore 4, 2) := by decide +kernel
theorem r141_61 (l0 l1 l2 l3 l4 l5 l6 : AV) (x : Int32) (st : List AV) (M : Mm) : run 141 61 [l0, l1, l2, l3, l4, l5, l6] (aI x :: st) M = run 141 63 [l0, l1, l2, l3, aI x, l5, l6] st M := e_ist [l0, l1, l2, l3, aI x, l5, l6] d141_61 rfl rfl
theorem d141_63 : decode (cod 141) 63 = .ok (.iinc 5 1, 3) := by decide +kernel
theorem r141_63 (l0 l1 l2 l3 l4 l6 : AV) (x : Int32) (st : List AV) (M : Mm) : run 141 63 [l0, l1, l2, l3, l4, aI x, l6] st M = run 141 66 [l0, l1, l2, l3, l4, aI (x + 1), l6] st M := e_iinc 1 [l0, l1, l2, l3, l4, aI (x + 1), l6] d141_63 (by decide +kernel) rfl rfl
theorem d141_66 : decode (cod 141) 66 = .ok (.goto (-37), 3) := by decide +kernel
theorem r141_66 (l0 l1 l2 l3 l4 l5 l6 : AV) (st : List AV) (M : Mm) : run 141 66 [l0, l1, l2, l3, l4, l5, l6] st M = run 141 29 [l0, l1, l2, l3, l4, l5, l6] st M := e_goto 29 d141_66 (by decide)
theorem d141_69 : decode (cod 141) 69 = .ok (.iload_n 3, 1) := by decide +kernel
theorem r141_69 (l0 l1 l2 l4 l5 l6 : AV) (x : Int32) (st : List AV) (M : Mm) : run 141 69 [l0, l1, l2, aI x, l4, l5, l6] st M = run 141 70 [l0, l1, l2, aI x, l4, l5, l6] (aI x :: st) M := e_ildn d141_69 rfl
theorem d141_70 : decode (cod 141) 70 = .ok (.ireturn, 1) := by decide +kernel
theorem r141_70 (l0 l1 l2 l3 l4 l5 l6 : AV) (v : Int32) (M : Mm) : run 141 70 [l0, l1, l2, l3, l4, l5, l6] [aI v] M = some (some v, M) := e_iret d141_70 rfl
theorem c142 (g0 i0 : Nat) (x1 : Int32) (M : Mm) : call 142 [aR g0 12 i0, aI x1] M = run 142 0 [aR g0 12 i0, aI x1, none, none, none, none, none] [] M := call_run 142 _ _
theorem d142_0 : decode (cod 142) 0 = .ok (.iload_n 1, 1) := by decide +kernel
theorem r142_0 (l0 l2 l3 l4 l5 l6 : AV) (x : Int32) (st : List AV) (M : Mm) : run 142 0 [l0, aI x, l2, l3, l4, l5, l6] st M = run 142 1 [l0, aI x, l2, l3, l4, l5, l6] (aI x :: st) M := e_ildn d142_0 rfl
theorem d142_1 : decode (cod 142) 1 = .ok (.iconst 0, 1) := by decide +kernel
theorem r142_1 (l0 l1 l2 l3 l4 l5 l6 : AV) (st : List AV) (M : Mm) : run 142 1 [l0, l1, l2, l3, l4, l5, l6] st M = run 142 2 [l0, l1, l2, l3, l4, l5, l6] (aI 0 :: st) M := e_iconst 0 d142_1 (by decide +kernel)
theorem d142_2 : decode (cod 142) 2 = .ok (.sipush 240, 3) := by decide +kernel
theorem r142_2 (l0 l1 l2 l3 l4 l5 l6 : AV) (st : List AV) (M : Mm) : run 142 2 [l0, l1, l2, l3, l4, l5, l6] st M = run 142 5 [l0, l1, l2, l3, l4, l5, l6] (aI 240 :: st) M := e_sipush 240 d142_2 (by decide +kernel)
theorem d142_5 : decode (cod 142) 5 = .ok (.invokestatic 82, 3) := by decide +kernel
theorem r142_5 (l0 l1 l2 l3 l4 l5 l6 : AV) (a0 : Int32) (a1 : Int32) (a2 : Int32) (M : Mm) : run 142 5 [l0, l1, l2, l3, l4, l5, l6] [aI a2, aI a1, aI a0] M = cbI (call 84 [aI a0, aI a1, aI a2] M) (fun v M => run 142 8 [l0, l1, l2, l3, l4, l5, l6] [aI v] M) := call_I (n := 3) rfl true d142_5 rfl rfl rfl rfl rfl rfl rfl
theorem d142_8 : decode (cod 142) 8 = .ok (.istore_n 2, 1) := by decide +kernel
theorem r142_8 (l0 l1 l2 l3 l4 l5 l6 : AV) (x : Int32) (st : List AV) (M : Mm) : run 142 8 [l0, l1, l2, l3, l4, l5, l6] (aI x :: st) M = run 142 9 [l0, l1, aI x, l3, l4, l5, l6] st M := e_istn [l0, l1, aI x, l3, l4, l5, l6] d142_8 rfl rfl
theorem d142_9 : decode (cod 142) 9 = .ok (.iload_n 2, 1) := by decide +kernel
theorem r142_9 (l0 l1 l3 l4 l5 l6 : AV) (x : Int32) (st : List AV) (M : Mm) : run 142 9 [l0, l1, aI x, l3, l4, l5, l6] st M = run 142 10 [l0, l1, aI x, l3, l4, l5, l6] (aI x :: st) M := e_ildn d142_9 rfl
theorem d142_10 : decode (cod 142) 10 = .ok (.ifCond .eq 9, 3) := by decide +kernel
theorem r142_10 (l0 l1 l2 l3 l4 l5 l6 : AV) (a : Int32) (st : List AV) (M : Mm) : run 142 10 [l0, l1, l2, l3, l4, l5, l6] (aI a :: st) M = if a = 0 then run 142 19 [l0, l1, l2, l3, l4, l5, l6] st M else run 142 13 [l0, l1, l2, l3, l4, l5, l6] st M := e_eq1 19 d142_10 (by decide)
theorem d142_13 : decode (cod 142) 13 = .ok (.aload_n 0, 1) := by decide +kernel
theorem r142_13 (l1 l2 l3 l4 l5 l6 : AV) (xg xi : Nat) (st : List AV) (M : Mm) : run 142 13 [aR xg 12 xi, l1, l2, l3, l4, l5, l6] st M = run 142 14 [aR xg 12 xi, l1, l2, l3, l4, l5, l6] (aR xg 12 xi :: st) M := e_aldn d142_13 rfl
theorem d142_14 : decode (cod 142) 14 = .ok (.iload_n 2, 1) := by decide +kernel
theorem r142_14 (l0 l1 l3 l4 l5 l6 : AV) (x : Int32) (st : List AV) (M : Mm) : run 142 14 [l0, l1, aI x, l3, l4, l5, l6] st M = run 142 15 [l0, l1, aI x, l3, l4, l5, l6] (aI x :: st) M := e_ildn d142_14 rfl
theorem d142_15 : decode (cod 142) 15 = .ok (.invokevirtual 89, 3) := by decide +kernel
theorem r142_15 (l0 l1 l2 l3 l4 l5 l6 : AV) (a0g a0i : Nat) (a1 : Int32) (M : Mm) : run 142 15 [l0, l1, l2, l3, l4, l5, l6] [aI a1, aR a0g 12 a0i] M = cbI (call 81 [aR a0g 12 a0i, aI a1] M) (fun v M => run 142 18 [l0, l1, l2, l3, l4, l5, l6] [aI v] M) := call_I (n := 2) rfl false d142_15 rfl rfl rfl rfl rfl rfl rfl
theorem d142_18 : decode (cod 142) 18 = .ok (.ireturn, 1) := by decide +kernel
theorem r142_18 (l0 l1 l2 l3 l4 l5 l6 : AV) (v : Int32) (M : Mm) : run 142 18 [l0, l1, l2, l3, l4, l5, l6] [aI v] M = some (some v, M) := e_iret d142_18 rfl
theorem d142_19 : decode (cod 142) 19 = .ok (.bipush 20, 2) := by decide +kernel
theorem r142_19 (l0 l1 l2 l3 l4 l5 l6 : AV) (st : List AV) (M : Mm) : run 142 19 [l0, l1, l2, l3, l4, l5, l6] st M = run 142 21 [l0, l1, l2, l3, l4, l5, l6] (aI 20 :: st) M := e_bipush 20 d142_19 (by decide +kernel)
theorem d142_21 : decode (cod 142) 21 = .ok (.istore_n 3, 1) := by decide +kernel
theorem r142_21 (l0 l1 l2 l3 l4 l5 l6 : AV) (x : Int32) (st : List AV) (M : Mm) : run 142 21 [l0, l1, l2, l3, l4, l5, l6] (aI x :: st) M = run 142 22 [l0, l1, l2, aI x, l4, l5, l6] st M := e_istn [l0, l1, l2, aI x, l4, l5, l6] d142_21 rfl rfl
theorem d142_22 : decode (cod 142) 22 = .ok (.iconst (-1), 1) := by decide +kernel
theorem r142_22 (l0 l1 l2 l3 l4 l5 l6 : AV) (st : List AV) (M : Mm) : run 142 22 [l0, l1, l2, l3, l4, l5, l6] st M = run 142 23 [l0, l1, l2, l3, l4, l5, l6] (aI (-1) :: st) M := e_iconst (-1) d142_22 (by decide +kernel)
theorem d142_23 : decode (cod 142) 23 = .ok (.istore 4, 2) := by decide +kernel
theorem r142_23 (l0 l1 l2 l3 l4 l5 l6 : AV) (x : Int32) (st : List AV) (M : Mm) : run 142 23 [l0, l1, l2, l3, l4, l5, l6] (aI x :: st) M = run 142 25 [l0, l1, l2, l3, aI x, l5, l6] st M := e_ist [l0, l1, l2, l3, aI x, l5, l6] d142_23 rfl rfl
theorem d142_25 : decode (cod 142) 25 = .ok (.bipush 20, 2) := by decide +kernel
theorem r142_25 (l0 l1 l2 l3 l4 l5 l6 : AV) (st : List AV) (M : Mm) : run 142 25 [l0, l1, l2, l3, l4, l5, l6] st M = run 142 27 [l0, l1, l2, l3, l4, l5, l6] (aI 20 :: st) M := e_bipush 20 d142_25 (by decide +kernel)
theorem d142_27 : decode (cod 142) 27 = .ok (.istore 5, 2) := by decide +kernel
theorem r142_27 (l0 l1 l2 l3 l4 l5 l6 : AV) (x : Int32) (st : List AV) (M : Mm) : run 142 27 [l0, l1, l2, l3, l4, l5, l6] (aI x :: st) M = run 142 29 [l0, l1, l2, l3, l4, aI x, l6] st M := e_ist [l0, l1, l2, l3, l4, aI x, l6] d142_27 rfl rfl
theorem d142_29 : decode (cod 142) 29 = .ok (.iload 5, 2) := by decide +kernel
theorem r142_29 (l0 l1 l2 l3 l4 l6 : AV) (x : Int32) (st : List AV) (M : Mm) : run 142 29 [l0, l1, l2, l3, l4, aI x, l6] st M = run 142 31 [l0, l1, l2, l3, l4, aI x, l6] (aI x :: st) M := e_ild d142_29 rfl
theorem d142_31 : decode (cod 142) 31 = .ok (.bipush 121, 2) := by decide +kernel
theorem r142_31 (l0 l1 l2 l3 l4 l5 l6 : AV) (st : List AV) (M : Mm) : run 142 31 [l0, l1, l2, l3, l4, l5, l6] st M = run 142 33 [l0, l1, l2, l3, l4, l5, l6] (aI 121 :: st) M := e_bipush 121 d142_31 (by decide +kernel)
theorem d142_33 : decode (cod 142) 33 = .ok (.if_icmp .ge 36, 3) := by decide +kernel
theorem r142_33 (l0 l1 l2 l3 l4 l5 l6 : AV) (a b : Int32) (st : List AV) (M : Mm) : run 142 33 [l0, l1, l2, l3, l4, l5, l6] (aI b :: aI a :: st) M = if a < b then run 142 36 [l0, l1, l2, l3, l4, l5, l6] st M else run 142 69 [l0, l1, l2, l3, l4, l5, l6] st M := e_ge2 69 d142_33 (by decide)
theorem d142_36 : decode (cod 142) 36 = .ok (.aload_n 0, 1) := by decide +kernel
theorem r142_36 (l1 l2 l3 l4 l5 l6 : AV) (xg xi : Nat) (st : List AV) (M : Mm) : run 142 36 [aR xg 12 xi, l1, l2, l3, l4, l5, l6] st M = run 142 37 [aR xg 12 xi, l1, l2, l3, l4, l5, l6] (aR xg 12 xi :: st) M := e_aldn d142_36 rfl
theorem d142_37 : decode (cod 142) 37 = .ok (.iconst 4, 1) := by decide +kernel
theorem r142_37 (l0 l1 l2 l3 l4 l5 l6 : AV) (st : List AV) (M : Mm) : run 142 37 [l0, l1, l2, l3, l4, l5, l6] st M = run 142 38 [l0, l1, l2, l3, l4, l5, l6] (aI 4 :: st) M := e_iconst 4 d142_37 (by decide +kernel)
theorem d142_38 : decode (cod 142) 38 = .ok (.iload 5, 2) := by decide +kernel
theorem r142_38 (l0 l1 l2 l3 l4 l6 : AV) (x : Int32) (st : List AV) (M : Mm) : run 142 38 [l0, l1, l2, l3, l4, aI x, l6] st M = run 142 40 [l0, l1, l2, l3, l4, aI x, l6] (aI x :: st) M := e_ild d142_38 rfl
theorem d142_40 : decode (cod 142) 40 = .ok (.iload_n 1, 1) := by decide +kernel
theorem r142_40 (l0 l2 l3 l4 l5 l6 : AV) (x : Int32) (st : List AV) (M : Mm) : run 142 40 [l0, aI x, l2, l3, l4, l5, l6] st M = run 142 41 [l0, aI x, l2, l3, l4, l5, l6] (aI x :: st) M := e_ildn d142_40 rfl
theorem d142_41 : decode (cod 142) 41 = .ok (.invokevirtual 287, 3) := by decide +kernel
theorem r142_41 (l0 l1 l2 l3 l4 l5 l6 : AV) (a0g a0i : Nat) (a1 : Int32) (a2 : Int32) (a3 : Int32) (M : Mm) : run 142 41 [l0, l1, l2, l3, l4, l5, l6] [aI a3, aI a2, aI a1, aR a0g 12 a0i] M = cbI (call 140 [aR a0g 12 a0i, aI a1, aI a2, aI a3] M) (fun v M => run 142 44 [l0, l1, l2, l3, l4, l5, l6] [aI v] M) := call_I (n := 4) rfl false d142_41 rfl rfl rfl rfl rfl rfl rfl
theorem d142_44 : decode (cod 142) 44 = .ok (.istore 6, 2) := by decide +kernel
theorem r142_44 (l0 l1 l2 l3 l4 l5 l6 : AV) (x : Int32) (st : List AV) (M : Mm) : run 142 44 [l0, l1, l2, l3, l4, l5, l6] (aI x :: st) M = run 142 46 [l0, l1, l2, l3, l4, l5, aI x] st M := e_ist [l0, l1, l2, l3, l4, l5, aI x] d142_44 rfl rfl
theorem d142_46 : decode (cod 142) 46 = .ok (.iload 6, 2) := by decide +kernel
theorem r142_46 (l0 l1 l2 l3 l4 l5 : AV) (x : Int32) (st : List AV) (M : Mm) : run 142 46 [l0, l1, l2, l3, l4, l5, aI x] st M = run 142 48 [l0, l1, l2, l3, l4, l5, aI x] (aI x :: st) M := e_ild d142_46 rfl
theorem d142_48 : decode (cod 142) 48 = .ok (.iload 4, 2) := by decide +kernel
theorem r142_48 (l0 l1 l2 l3 l5 l6 : AV) (x : Int32) (st : List AV) (M : Mm) : run 142 48 [l0, l1, l2, l3, aI x, l5, l6] st M = run 142 50 [l0, l1, l2, l3, aI x, l5, l6] (aI x :: st) M := e_ild d142_48 rfl
theorem d142_50 : decode (cod 142) 50 = .ok (.if_icmp .gt 6, 3) := by decide +kernel
theorem r142_50 (l0 l1 l2 l3 l4 l5 l6 : AV) (a b : Int32) (st : List AV) (M : Mm) : run 142 50 [l0, l1, l2, l3, l4, l5, l6] (aI b :: aI a :: st) M = if b < a then run 142 56 [l0, l1, l2, l3, l4, l5, l6] st M else run 142 53 [l0, l1, l2, l3, l4, l5, l6] st M := e_gt2 56 d142_50 (by decide)
theorem d142_53 : decode (cod 142) 53 = .ok (.goto 10, 3) := by decide +kernel
theorem r142_53 (l0 l1 l2 l3 l4 l5 l6 : AV) (st : List AV) (M : Mm) : run 142 53 [l0, l1, l2, l3, l4, l5, l6] st M = run 142 63 [l0, l1, l2, l3, l4, l5, l6] st M := e_goto 63 d142_53 (by decide)
theorem d142_56 : decode (cod 142) 56 = .ok (.iload 5, 2) := by decide +kernel
theorem r142_56 (l0 l1 l2 l3 l4 l6 : AV) (x : Int32) (st : List AV) (M : Mm) : run 142 56 [l0, l1, l2, l3, l4, aI x, l6] st M = run 142 58 [l0, l1, l2, l3, l4, aI x, l6] (aI x :: st) M := e_ild d142_56 rfl
theorem d142_58 : decode (cod 142) 58 = .ok (.istore_n 3, 1) := by decide +kernel
theorem r142_58 (l0 l1 l2 l3 l4 l5 l6 : AV) (x : Int32) (st : List AV) (M : Mm) : run 142 58 [l0, l1, l2, l3, l4, l5, l6] (aI x :: st) M = run 142 59 [l0, l1, l2, aI x, l4, l5, l6] st M := e_istn [l0, l1, l2, aI x, l4, l5, l6] d142_58 rfl rfl
theorem d142_59 : decode (cod 142) 59 = .ok (.iload 6, 2) := by decide +kernel
theorem r142_59 (l0 l1 l2 l3 l4 l5 : AV) (x : Int32) (st : List AV) (M : Mm) : run 142 59 [l0, l1, l2, l3, l4, l5, aI x] st M = run 142 61 [l0, l1, l2, l3, l4, l5, aI x] (aI x :: st) M := e_ild d142_59 rfl
theorem d142_61 : decode (cod 142) 61 = .ok (.istore 4, 2) := by decide +kernel
theorem r142_61 (l0 l1 l2 l3 l4 l5 l6 : AV) (x : Int32) (st : List AV) (M : Mm) : run 142 61 [l0, l1, l2, l3, l4, l5, l6] (aI x :: st) M = run 142 63 [l0, l1, l2, l3, aI x, l5, l6] st M := e_ist [l0, l1, l2, l3, aI x, l5, l6] d142_61 rfl rfl
theorem d142_63 : decode (cod 142) 63 = .ok (.iinc 5 10, 3) := by decide +kernel
theorem r142_63 (l0 l1 l2 l3 l4 l6 : AV) (x : Int32) (st : List AV) (M : Mm) : run 142 63 [l0, l1, l2, l3, l4, aI x, l6] st M = run 142 66 [l0, l1, l2, l3, l4, aI (x + 10), l6] st M := e_iinc 10 [l0, l1, l2, l3, l4, aI (x + 10), l6] d142_63 (by decide +kernel) rfl rfl
theorem d142_66 : decode (cod 142) 66 = .ok (.goto (-37), 3) := by decide +kernel
theorem r142_66 (l0 l1 l2 l3 l4 l5 l6 : AV) (st : List AV) (M : Mm) : run 142 66 [l0, l1, l2, l3, l4, l5, l6] st M = run 142 29 [l0, l1, l2, l3, l4, l5, l6] st M := e_goto 29 d142_66 (by decide)
theorem d142_69 : decode (cod 142) 69 = .ok (.iload_n 3, 1) := by decide +kernel
theorem r142_69 (l0 l1 l2 l4 l5 l6 : AV) (x : Int32) (st : List AV) (M : Mm) : run 142 69 [l0, l1, l2, aI x, l4, l5, l6] st M = run 142 70 [l0, l1, l2, aI x, l4, l5, l6] (aI x :: st) M := e_ildn d142_69 rfl
theorem d142_70 : decode (cod 142) 70 = .ok (.ireturn, 1) := by decide +kernel
theorem r142_70 (l0 l1 l2 l3 l4 l5 l6 : AV) (v : Int32) (M : Mm) : run 142 70 [l0, l1, l2, l3, l4, l5, l6] [aI v] M = some (some v, M) := e_iret d142_70 rfl
theorem c143 (g0 i0 : Nat) (x1 : Int32) (M : Mm) : call 143 [aR g0 12 i0, aI x1] M = run 143 0 [aR g0 12 i0, aI x1] [] M := call_run 143 _ _
theorem d143_0 : decode (cod 143) 0 = .ok (.aload_n 0, 1) := by decide +kernel
theorem r143_0 (l1 : AV) (xg xi : Nat) (st : List AV) (M : Mm) : run 143 0 [aR xg 12 xi, l1] st M = run 143 1 [aR xg 12 xi, l1] (aR xg 12 xi :: st) M := e_aldn d143_0 rfl
theorem d143_1 : decode (cod 143) 1 = .ok (.iload_n 1, 1) := by decide +kernel
theorem r143_1 (l0 : AV) (x : Int32) (st : List AV) (M : Mm) : run 143 1 [l0, aI x] st M = run 143 2 [l0, aI x] (aI x :: st) M := e_ildn d143_1 rfl
theorem d143_2 : decode (cod 143) 2 = .ok (.invokevirtual 284, 3) := by decide +kernel
theorem r143_2 (l0 l1 : AV) (a0g a0i : Nat) (a1 : Int32) (M : Mm) : run 143 2 [l0, l1] [aI a1, aR a0g 12 a0i] M = cbV (call 130 [aR a0g 12 a0i, aI a1] M) (fun M => run 143 5 [l0, l1] [] M) := call_V (n := 2) rfl false d143_2 rfl rfl rfl rfl rfl rfl rfl
theorem d143_5 : decode (cod 143) 5 = .ok (.aload_n 0, 1) := by decide +kernel
theorem r143_5 (l1 : AV) (xg xi : Nat) (st : List AV) (M : Mm) : run 143 5 [aR xg 12 xi, l1] st M = run 143 6 [aR xg 12 xi, l1] (aR xg 12 xi :: st) M := e_aldn d143_5 rfl
theorem d143_6 : decode (cod 143) 6 = .ok (.getfield 242, 3) := by decide +kernel
theorem r143_6 (l0 l1 : AV) (xg xi : Nat) (st : List AV) (M : Mm) : run 143 6 [l0, l1] (aR xg 12 xi :: st) M = run 143 9 [l0, l1] (aI (M xg 12 xi 29) :: st) M := e_gfi d143_6 rfl rfl rfl
theorem d143_9 : decode (cod 143) 9 = .ok (.ireturn, 1) := by decide +kernel
theorem r143_9 (l0 l1 : AV) (v : Int32) (M : Mm) : run 143 9 [l0, l1] [aI v] M = some (some v, M) := e_iret d143_9 rfl
theorem c144 (g0 i0 : Nat) (x1 : Int32) (M : Mm) : call 144 [aR g0 12 i0, aI x1] M = run 144 0 [aR g0 12 i0, aI x1, none, none, none] [] M := call_run 144 _ _
theorem d144_0 : decode (cod 144) 0 = .ok (.iload_n 1, 1) := by decide +kernel
theorem r144_0 (l0 l2 l3 l4 : AV) (x : Int32) (st : List AV) (M : Mm) : run 144 0 [l0, aI x, l2, l3, l4] st M = run 144 1 [l0, aI x, l2, l3, l4] (aI x :: st) M := e_ildn d144_0 rfl
theorem d144_1 : decode (cod 144) 1 = .ok (.iconst 0, 1) := by decide +kernel
theorem r144_1 (l0 l1 l2 l3 l4 : AV) (st : List AV) (M : Mm) : run 144 1 [l0, l1, l2, l3, l4] st M = run 144 2 [l0, l1, l2, l3, l4] (aI 0 :: st) M := e_iconst 0 d144_1 (by decide +kernel)
theorem d144_2 : decode (cod 144) 2 = .ok (.sipush 240, 3) := by decide +kernel
theorem r144_2 (l0 l1 l2 l3 l4 : AV) (st : List AV) (M : Mm) : run 144 2 [l0, l1, l2, l3, l4] st M = run 144 5 [l0, l1, l2, l3, l4] (aI 240 :: st) M := e_sipush 240 d144_2 (by decide +kernel)
theorem d144_5 : decode (cod 144) 5 = .ok (.invokestatic 82, 3) := by decide +kernel
theorem r144_5 (l0 l1 l2 l3 l4 : AV) (a0 : Int32) (a1 : Int32) (a2 : Int32) (M : Mm) : run 144 5 [l0, l1, l2, l3, l4] [aI a2, aI a1, aI a0] M = cbI (call 84 [aI a0, aI a1, aI a2] M) (fun v M => run 144 8 [l0, l1, l2, l3, l4] [aI v] M) := call_I (n := 3) rfl true d144_5 rfl rfl rfl rfl rfl rfl rfl
theorem d144_8 : decode (cod 144) 8 = .ok (.istore_n 2, 1) := by decide +kernel
theorem r144_8 (l0 l1 l2 l3 l4 : AV) (x : Int32) (st : List AV) (M : Mm) : run 144 8 [l0, l1, l2, l3, l4] (aI x :: st) M = run 144 9 [l0, l1, aI x, l3, l4] st M := e_istn [l0, l1, aI x, l3, l4] d144_8 rfl rfl
theorem d144_9 : decode (cod 144) 9 = .ok (.iload_n 2, 1) := by decide +kernel
theorem r144_9 (l0 l1 l3 l4 : AV) (x : Int32) (st : List AV) (M : Mm) : run 144 9 [l0, l1, aI x, l3, l4] st M = run 144 10 [l0, l1, aI x, l3, l4] (aI x :: st) M := e_ildn d144_9 rfl
theorem d144_10 : decode (cod 144) 10 = .ok (.ifCond .ne 16, 3) := by decide +kernel
theorem r144_10 (l0 l1 l2 l3 l4 : AV) (a : Int32) (st : List AV) (M : Mm) : run 144 10 [l0, l1, l2, l3, l4] (aI a :: st) M = if a = 0 then run 144 13 [l0, l1, l2, l3, l4] st M else run 144 26 [l0, l1, l2, l3, l4] st M := e_ne1 26 d144_10 (by decide)
theorem d144_13 : decode (cod 144) 13 = .ok (.aload_n 0, 1) := by decide +kernel
theorem r144_13 (l1 l2 l3 l4 : AV) (xg xi : Nat) (st : List AV) (M : Mm) : run 144 13 [aR xg 12 xi, l1, l2, l3, l4] st M = run 144 14 [aR xg 12 xi, l1, l2, l3, l4] (aR xg 12 xi :: st) M := e_aldn d144_13 rfl
theorem d144_14 : decode (cod 144) 14 = .ok (.getfield 13, 3) := by decide +kernel
theorem r144_14 (l0 l1 l2 l3 l4 : AV) (xg xi : Nat) (st : List AV) (M : Mm) : run 144 14 [l0, l1, l2, l3, l4] (aR xg 12 xi :: st) M = run 144 17 [l0, l1, l2, l3, l4] (aR 4 14 0 :: st) M := e_gfr (fun g => (4, 14, 0)) d144_14 rfl rfl rfl
theorem d144_17 : decode (cod 144) 17 = .ok (.iconst 0, 1) := by decide +kernel
theorem r144_17 (l0 l1 l2 l3 l4 : AV) (st : List AV) (M : Mm) : run 144 17 [l0, l1, l2, l3, l4] st M = run 144 18 [l0, l1, l2, l3, l4] (aI 0 :: st) M := e_iconst 0 d144_17 (by decide +kernel)
theorem d144_18 : decode (cod 144) 18 = .ok (.iaload, 1) := by decide +kernel
theorem r144_18 (l0 l1 l2 l3 l4 : AV) (i : Int32) (xg xi : Nat) (st : List AV) (M : Mm) : run 144 18 [l0, l1, l2, l3, l4] (aI i :: aR xg 14 xi :: st) M = if vpB i 7 = true then run 144 19 [l0, l1, l2, l3, l4] (aI (M xg 14 xi i.toNatClampNeg) :: st) M else none := e_ial d144_18 rfl rfl
theorem d144_19 : decode (cod 144) 19 = .ok (.iconst 3, 1) := by decide +kernel
theorem r144_19 (l0 l1 l2 l3 l4 : AV) (st : List AV) (M : Mm) : run 144 19 [l0, l1, l2, l3, l4] st M = run 144 20 [l0, l1, l2, l3, l4] (aI 3 :: st) M := e_iconst 3 d144_19 (by decide +kernel)
theorem d144_20 : decode (cod 144) 20 = .ok (.if_icmp .ne 6, 3) := by decide +kernel
theorem r144_20 (l0 l1 l2 l3 l4 : AV) (a b : Int32) (st : List AV) (M : Mm) : run 144 20 [l0, l1, l2, l3, l4] (aI b :: aI a :: st) M = if a = b then run 144 23 [l0, l1, l2, l3, l4] st M else run 144 26 [l0, l1, l2, l3, l4] st M := e_ne2 26 d144_20 (by decide)
theorem d144_23 : decode (cod 144) 23 = .ok (.bipush (-3), 2) := by decide +kernel
theorem r144_23 (l0 l1 l2 l3 l4 : AV) (st : List AV) (M : Mm) : run 144 23 [l0, l1, l2, l3, l4] st M = run 144 25 [l0, l1, l2, l3, l4] (aI (-3) :: st) M := e_bipush (-3) d144_23 (by decide +kernel)
theorem d144_25 : decode (cod 144) 25 = .ok (.istore_n 2, 1) := by decide +kernel
theorem r144_25 (l0 l1 l2 l3 l4 : AV) (x : Int32) (st : List AV) (M : Mm) : run 144 25 [l0, l1, l2, l3, l4] (aI x :: st) M = run 144 26 [l0, l1, aI x, l3, l4] st M := e_istn [l0, l1, aI x, l3, l4] d144_25 rfl rfl
theorem d144_26 : decode (cod 144) 26 = .ok (.iload_n 2, 1) := by decide +kernel
theorem r144_26 (l0 l1 l3 l4 : AV) (x : Int32) (st : List AV) (M : Mm) : run 144 26 [l0, l1, aI x, l3, l4] st M = run 144 27 [l0, l1, aI x, l3, l4] (aI x :: st) M := e_ildn d144_26 rfl
theorem d144_27 : decode (cod 144) 27 = .ok (.ifCond .eq 9, 3) := by decide +kernel
theorem r144_27 (l0 l1 l2 l3 l4 : AV) (a : Int32) (st : List AV) (M : Mm) : run 144 27 [l0, l1, l2, l3, l4] (aI a :: st) M = if a = 0 then run 144 36 [l0, l1, l2, l3, l4] st M else run 144 30 [l0, l1, l2, l3, l4] st M := e_eq1 36 d144_27 (by decide)
theorem d144_30 : decode (cod 144) 30 = .ok (.aload_n 0, 1) := by decide +kernel
theorem r144_30 (l1 l2 l3 l4 : AV) (xg xi : Nat) (st : List AV) (M : Mm) : run 144 30 [aR xg 12 xi, l1, l2, l3, l4] st M = run 144 31 [aR xg 12 xi, l1, l2, l3, l4] (aR xg 12 xi :: st) M := e_aldn d144_30 rfl
theorem d144_31 : decode (cod 144) 31 = .ok (.iload_n 2, 1) := by decide +kernel
theorem r144_31 (l0 l1 l3 l4 : AV) (x : Int32) (st : List AV) (M : Mm) : run 144 31 [l0, l1, aI x, l3, l4] st M = run 144 32 [l0, l1, aI x, l3, l4] (aI x :: st) M := e_ildn d144_31 rfl
theorem d144_32 : decode (cod 144) 32 = .ok (.invokevirtual 290, 3) := by decide +kernel
theorem r144_32 (l0 l1 l2 l3 l4 : AV) (a0g a0i : Nat) (a1 : Int32) (M : Mm) : run 144 32 [l0, l1, l2, l3, l4] [aI a1, aR a0g 12 a0i] M = cbI (call 82 [aR a0g 12 a0i, aI a1] M) (fun v M => run 144 35 [l0, l1, l2, l3, l4] [aI v] M) := call_I (n := 2) rfl false d144_32 rfl rfl rfl rfl rfl rfl rfl
theorem d144_35 : decode (cod 144) 35 = .ok (.ireturn, 1) := by decide +kernel
theorem r144_35 (l0 l1 l2 l3 l4 : AV) (v : Int32) (M : Mm) : run 144 35 [l0, l1, l2, l3, l4] [aI v] M = some (some v, M) := e_iret d144_35 rfl
theorem d144_36 : decode (cod 144) 36 = .ok (.aload_n 0, 1) := by decide +kernel
theorem r144_36 (l1 l2 l3 l4 : AV) (xg xi : Nat) (st : List AV) (M : Mm) : run 144 36 [aR xg 12 xi, l1, l2, l3, l4] st M = run 144 37 [aR xg 12 xi, l1, l2, l3, l4] (aR xg 12 xi :: st) M := e_aldn d144_36 rfl
theorem d144_37 : decode (cod 144) 37 = .ok (.iload_n 1, 1) := by decide +kernel
theorem r144_37 (l0 l2 l3 l4 : AV) (x : Int32) (st : List AV) (M : Mm) : run 144 37 [l0, aI x, l2, l3, l4] st M = run 144 38 [l0, aI x, l2, l3, l4] (aI x :: st) M := e_ildn d144_37 rfl
theorem d144_38 : decode (cod 144) 38 = .ok (.invokevirtual 293, 3) := by decide +kernel
theorem r144_38 (l0 l1 l2 l3 l4 : AV) (a0g a0i : Nat) (a1 : Int32) (M : Mm) : run 144 38 [l0, l1, l2, l3, l4] [aI a1, aR a0g 12 a0i] M = cbI (call 143 [aR a0g 12 a0i, aI a1] M) (fun v M => run 144 41 [l0, l1, l2, l3, l4] [aI v] M) := call_I (n := 2) rfl false d144_38 rfl rfl rfl rfl rfl rfl rfl
theorem d144_41 : decode (cod 144) 41 = .ok (.istore_n 3, 1) := by decide +kernel
theorem r144_41 (l0 l1 l2 l3 l4 : AV) (x : Int32) (st : List AV) (M : Mm) : run 144 41 [l0, l1, l2, l3, l4] (aI x :: st) M = run 144 42 [l0, l1, l2, aI x, l4] st M := e_istn [l0, l1, l2, aI x, l4] d144_41 rfl rfl
theorem d144_42 : decode (cod 144) 42 = .ok (.aload_n 0, 1) := by decide +kernel
theorem r144_42 (l1 l2 l3 l4 : AV) (xg xi : Nat) (st : List AV) (M : Mm) : run 144 42 [aR xg 12 xi, l1, l2, l3, l4] st M = run 144 43 [aR xg 12 xi, l1, l2, l3, l4] (aR xg 12 xi :: st) M := e_aldn d144_42 rfl
theorem d144_43 : decode (cod 144) 43 = .ok (.iconst 1, 1) := by decide +kernel
theorem r144_43 (l0 l1 l2 l3 l4 : AV) (st : List AV) (M : Mm) : run 144 43 [l0, l1, l2, l3, l4] st M = run 144 44 [l0, l1, l2, l3, l4] (aI 1 :: st) M := e_iconst 1 d144_43 (by decide +kernel)
theorem d144_44 : decode (cod 144) 44 = .ok (.iconst 1, 1) := by decide +kernel
theorem r144_44 (l0 l1 l2 l3 l4 : AV) (st : List AV) (M : Mm) : run 144 44 [l0, l1, l2, l3, l4] st M = run 144 45 [l0, l1, l2, l3, l4] (aI 1 :: st) M := e_iconst 1 d144_44 (by decide +kernel)
theorem d144_45 : decode (cod 144) 45 = .ok (.invokevirtual 150, 3) := by decide +kernel
theorem r144_45 (l0 l1 l2 l3 l4 : AV) (a0g a0i : Nat) (a1 : Int32) (a2 : Int32) (M : Mm) : run 144 45 [l0, l1, l2, l3, l4] [aI a2, aI a1, aR a0g 12 a0i] M = cbV (call 103 [aR a0g 12 a0i, aI a1, aI a2] M) (fun M => run 144 48 [l0, l1, l2, l3, l4] [] M) := call_V (n := 3) rfl false d144_45 rfl rfl rfl rfl rfl rfl rfl
theorem d144_48 : decode (cod 144) 48 = .ok (.aload_n 0, 1) := by decide +kernel
theorem r144_48 (l1 l2 l3 l4 : AV) (xg xi : Nat) (st : List AV) (M : Mm) : run 144 48 [aR xg 12 xi, l1, l2, l3, l4] st M = run 144 49 [aR xg 12 xi, l1, l2, l3, l4] (aR xg 12 xi :: st) M := e_aldn d144_48 rfl
theorem d144_49 : decode (cod 144) 49 = .ok (.getfield 28, 3) := by decide +kernel
theorem r144_49 (l0 l1 l2 l3 l4 : AV) (xg xi : Nat) (st : List AV) (M : Mm) : run 144 49 [l0, l1, l2, l3, l4] (aR xg 12 xi :: st) M = run 144 52 [l0, l1, l2, l3, l4] (aR 4 19 0 :: st) M := e_gfr (fun g => (4, 19, 0)) d144_49 rfl rfl rfl
theorem d144_52 : decode (cod 144) 52 = .ok (.aload_n 0, 1) := by decide +kernel
theorem r144_52 (l1 l2 l3 l4 : AV) (xg xi : Nat) (st : List AV) (M : Mm) : run 144 52 [aR xg 12 xi, l1, l2, l3, l4] st M = run 144 53 [aR xg 12 xi, l1, l2, l3, l4] (aR xg 12 xi :: st) M := e_aldn d144_52 rfl
theorem d144_53 : decode (cod 144) 53 = .ok (.getfield 13, 3) := by decide +kernel
theorem r144_53 (l0 l1 l2 l3 l4 : AV) (xg xi : Nat) (st : List AV) (M : Mm) : run 144 53 [l0, l1, l2, l3, l4] (aR xg 12 xi :: st) M = run 144 56 [l0, l1, l2, l3, l4] (aR 4 14 0 :: st) M := e_gfr (fun g => (4, 14, 0)) d144_53 rfl rfl rfl
theorem d144_56 : decode (cod 144) 56 = .ok (.iconst 0, 1) := by decide +kernel
theorem r144_56 (l0 l1 l2 l3 l4 : AV) (st : List AV) (M : Mm) : run 144 56 [l0, l1, l2, l3, l4] st M = run 144 57 [l0, l1, l2, l3, l4] (aI 0 :: st) M := e_iconst 0 d144_56 (by decide +kernel)
theorem d144_57 : decode (cod 144) 57 = .ok (.iaload, 1) := by decide +kernel
theorem r144_57 (l0 l1 l2 l3 l4 : AV) (i : Int32) (xg xi : Nat) (st : List AV) (M : Mm) : run 144 57 [l0, l1, l2, l3, l4] (aI i :: aR xg 14 xi :: st) M = if vpB i 7 = true then run 144 58 [l0, l1, l2, l3, l4] (aI (M xg 14 xi i.toNatClampNeg) :: st) M else none := e_ial d144_57 rfl rfl
theorem d144_58 : decode (cod 144) 58 = .ok (.iconst 0, 1) := by decide +kernel
theorem r144_58 (l0 l1 l2 l3 l4 : AV) (st : List AV) (M : Mm) : run 144 58 [l0, l1, l2, l3, l4] st M = run 144 59 [l0, l1, l2, l3, l4] (aI 0 :: st) M := e_iconst 0 d144_58 (by decide +kernel)
theorem d144_59 : decode (cod 144) 59 = .ok (.iastore, 1) := by decide +kernel
theorem r144_59 (l0 l1 l2 l3 l4 : AV) (v i : Int32) (xg xi : Nat) (st : List AV) (M : Mm) : run 144 59 [l0, l1, l2, l3, l4] (aI v :: aI i :: aR xg 19 xi :: st) M = if vpB i 3 = true then run 144 60 [l0, l1, l2, l3, l4] st (wr M xg 19 xi i.toNatClampNeg v) else none := e_ias d144_59 rfl rfl
theorem d144_60 : decode (cod 144) 60 = .ok (.aload_n 0, 1) := by decide +kernel
theorem r144_60 (l1 l2 l3 l4 : AV) (xg xi : Nat) (st : List AV) (M : Mm) : run 144 60 [aR xg 12 xi, l1, l2, l3, l4] st M = run 144 61 [aR xg 12 xi, l1, l2, l3, l4] (aR xg 12 xi :: st) M := e_aldn d144_60 rfl
theorem d144_61 : decode (cod 144) 61 = .ok (.getfield 13, 3) := by decide +kernel
theorem r144_61 (l0 l1 l2 l3 l4 : AV) (xg xi : Nat) (st : List AV) (M : Mm) : run 144 61 [l0, l1, l2, l3, l4] (aR xg 12 xi :: st) M = run 144 64 [l0, l1, l2, l3, l4] (aR 4 14 0 :: st) M := e_gfr (fun g => (4, 14, 0)) d144_61 rfl rfl rfl
theorem d144_64 : decode (cod 144) 64 = .ok (.iconst 0, 1) := by decide +kernel
theorem r144_64 (l0 l1 l2 l3 l4 : AV) (st : List AV) (M : Mm) : run 144 64 [l0, l1, l2, l3, l4] st M = run 144 65 [l0, l1, l2, l3, l4] (aI 0 :: st) M := e_iconst 0 d144_64 (by decide +kernel)
theorem d144_65 : decode (cod 144) 65 = .ok (.dup2, 1) := by decide +kernel
theorem r144_65 (l0 l1 l2 l3 l4 : AV) (x : Int32) (zg zi : Nat) (st : List AV) (M : Mm) : run 144 65 [l0, l1, l2, l3, l4] (aI x :: aR zg 14 zi :: st) M = run 144 66 [l0, l1, l2, l3, l4] (aI x :: aR zg 14 zi :: aI x :: aR zg 14 zi :: st) M := e_dup2 d144_65
theorem d144_66 : decode (cod 144) 66 = .ok (.iaload, 1) := by decide +kernel
theorem r144_66 (l0 l1 l2 l3 l4 : AV) (i : Int32) (xg xi : Nat) (st : List AV) (M : Mm) : run 144 66 [l0, l1, l2, l3, l4] (aI i :: aR xg 14 xi :: st) M = if vpB i 7 = true then run 144 67 [l0, l1, l2, l3, l4] (aI (M xg 14 xi i.toNatClampNeg) :: st) M else none := e_ial d144_66 rfl rfl
theorem d144_67 : decode (cod 144) 67 = .ok (.iconst 1, 1) := by decide +kernel
theorem r144_67 (l0 l1 l2 l3 l4 : AV) (st : List AV) (M : Mm) : run 144 67 [l0, l1, l2, l3, l4] st M = run 144 68 [l0, l1, l2, l3, l4] (aI 1 :: st) M := e_iconst 1 d144_67 (by decide +kernel)
theorem d144_68 : decode (cod 144) 68 = .ok (.iadd, 1) := by decide +kernel
theorem r144_68 (l0 l1 l2 l3 l4 : AV) (a b : Int32) (st : List AV) (M : Mm) : run 144 68 [l0, l1, l2, l3, l4] (aI b :: aI a :: st) M = run 144 69 [l0, l1, l2, l3, l4] (aI (a + b) :: st) M := e_iadd d144_68
theorem d144_69 : decode (cod 144) 69 = .ok (.iastore, 1) := by decide +kernel
theorem r144_69 (l0 l1 l2 l3 l4 : AV) (v i : Int32) (xg xi : Nat) (st : List AV) (M : Mm) : run 144 69 [l0, l1, l2, l3, l4] (aI v :: aI i :: aR xg 14 xi :: st) M = if vpB i 7 = true then run 144 70 [l0, l1, l2, l3, l4] st (wr M xg 14 xi i.toNatClampNeg v) else none := e_ias d144_69 rfl rfl
theorem d144_70 : decode (cod 144) 70 = .ok (.aload_n 0, 1) := by decide +kernel
theorem r144_70 (l1 l2 l3 l4 : AV) (xg xi : Nat) (st : List AV) (M : Mm) : run 144 70 [aR xg 12 xi, l1, l2, l3, l4] st M = run 144 71 [aR xg 12 xi, l1, l2, l3, l4] (aR xg 12 xi :: st) M := e_aldn d144_70 rfl
theorem d144_71 : decode (cod 144) 71 = .ok (.iload_n 1, 1) := by decide +kernel
theorem r144_71 (l0 l2 l3 l4 : AV) (x : Int32) (st : List AV) (M : Mm) : run 144 71 [l0, aI x, l2, l3, l4] st M = run 144 72 [l0, aI x, l2, l3, l4] (aI x :: st) M := e_ildn d144_71 rfl
theorem d144_72 : decode (cod 144) 72 = .ok (.invokevirtual 272, 3) := by decide +kernel
theorem r144_72 (l0 l1 l2 l3 l4 : AV) (a0g a0i : Nat) (a1 : Int32) (M : Mm) : run 144 72 [l0, l1, l2, l3, l4] [aI a1, aR a0g 12 a0i] M = cbV (call 127 [aR a0g 12 a0i, aI a1] M) (fun M => run 144 75 [l0, l1, l2, l3, l4] [] M) := call_V (n := 2) rfl false d144_72 rfl rfl rfl rfl rfl rfl rfl
theorem d144_75 : decode (cod 144) 75 = .ok (.aload_n 0, 1) := by decide +kernel
theorem r144_75 (l1 l2 l3 l4 : AV) (xg xi : Nat) (st : List AV) (M : Mm) : run 144 75 [aR xg 12 xi, l1, l2, l3, l4] st M = run 144 76 [aR xg 12 xi, l1, l2, l3, l4] (aR xg 12 xi :: st) M := e_aldn d144_75 rfl
theorem d144_76 : decode (cod 144) 76 = .ok (.getfield 242, 3) := by decide +kernel
theorem r144_76 (l0 l1 l2 l3 l4 : AV) (xg xi : Nat) (st : List AV) (M : Mm) : run 144 76 [l0, l1, l2, l3, l4] (aR xg 12 xi :: st) M = run 144 79 [l0, l1, l2, l3, l4] (aI (M xg 12 xi 29) :: st) M := e_gfi d144_76 rfl rfl rfl
theorem d144_79 : decode (cod 144) 79 = .ok (.istore 4, 2) := by decide +kernel
theorem r144_79 (l0 l1 l2 l3 l4 : AV) (x : Int32) (st : List AV) (M : Mm) : run 144 79 [l0, l1, l2, l3, l4] (aI x :: st) M = run 144 81 [l0, l1, l2, l3, aI x] st M := e_ist [l0, l1, l2, l3, aI x] d144_79 rfl rfl
theorem d144_81 : decode (cod 144) 81 = .ok (.aload_n 0, 1) := by decide +kernel
theorem r144_81 (l1 l2 l3 l4 : AV) (xg xi : Nat) (st : List AV) (M : Mm) : run 144 81 [aR xg 12 xi, l1, l2, l3, l4] st M = run 144 82 [aR xg 12 xi, l1, l2, l3, l4] (aR xg 12 xi :: st) M := e_aldn d144_81 rfl
theorem d144_82 : decode (cod 144) 82 = .ok (.iconst 1, 1) := by decide +kernel
theorem r144_82 (l0 l1 l2 l3 l4 : AV) (st : List AV) (M : Mm) : run 144 82 [l0, l1, l2, l3, l4] st M = run 144 83 [l0, l1, l2, l3, l4] (aI 1 :: st) M := e_iconst 1 d144_82 (by decide +kernel)
theorem d144_83 : decode (cod 144) 83 = .ok (.iconst 0, 1) := by decide +kernel
theorem r144_83 (l0 l1 l2 l3 l4 : AV) (st : List AV) (M : Mm) : run 144 83 [l0, l1, l2, l3, l4] st M = run 144 84 [l0, l1, l2, l3, l4] (aI 0 :: st) M := e_iconst 0 d144_83 (by decide +kernel)
theorem d144_84 : decode (cod 144) 84 = .ok (.invokevirtual 150, 3) := by decide +kernel
theorem r144_84 (l0 l1 l2 l3 l4 : AV) (a0g a0i : Nat) (a1 : Int32) (a2 : Int32) (M : Mm) : run 144 84 [l0, l1, l2, l3, l4] [aI a2, aI a1, aR a0g 12 a0i] M = cbV (call 103 [aR a0g 12 a0i, aI a1, aI a2] M) (fun M => run 144 87 [l0, l1, l2, l3, l4] [] M) := call_V (n := 3) rfl false d144_84 rfl rfl rfl rfl rfl rfl rfl
theorem d144_87 : decode (cod 144) 87 = .ok (.iload 4, 2) := by decide +kernel
theorem r144_87 (l0 l1 l2 l3 : AV) (x : Int32) (st : List AV) (M : Mm) : run 144 87 [l0, l1, l2, l3, aI x] st M = run 144 89 [l0, l1, l2, l3, aI x] (aI x :: st) M := e_ild d144_87 rfl
theorem d144_89 : decode (cod 144) 89 = .ok (.iload_n 3, 1) := by decide +kernel
theorem r144_89 (l0 l1 l2 l4 : AV) (x : Int32) (st : List AV) (M : Mm) : run 144 89 [l0, l1, l2, aI x, l4] st M = run 144 90 [l0, l1, l2, aI x, l4] (aI x :: st) M := e_ildn d144_89 rfl
theorem d144_90 : decode (cod 144) 90 = .ok (.isub, 1) := by decide +kernel
theorem r144_90 (l0 l1 l2 l3 l4 : AV) (a b : Int32) (st : List AV) (M : Mm) : run 144 90 [l0, l1, l2, l3, l4] (aI b :: aI a :: st) M = run 144 91 [l0, l1, l2, l3, l4] (aI (a - b) :: st) M := e_isub d144_90
theorem d144_91 : decode (cod 144) 91 = .ok (.ireturn, 1) := by decide +kernel
theorem r144_91 (l0 l1 l2 l3 l4 : AV) (v : Int32) (M : Mm) : run 144 91 [l0, l1, l2, l3, l4] [aI v] M = some (some v, M) := e_iret d144_91 rfl
theorem c145 (g0 i0 : Nat) (x1 : Int32) (M : Mm) : call 145 [aR g0 12 i0, aI x1] M = run 145 0 [aR g0 12 i0, aI x1, none, none] [] M := call_run 145 _ _
theorem d145_0 : decode (cod 145) 0 = .ok (.iload_n 1, 1) := by decide +kernel
theorem r145_0 (l0 l2 l3 : AV) (x : Int32) (st : List AV) (M : Mm) : run 145 0 [l0, aI x, l2, l3] st M = run 145 1 [l0, aI x, l2, l3] (aI x :: st) M := e_ildn d145_0 rfl
theorem d145_1 : decode (cod 145) 1 = .ok (.iconst 0, 1) := by decide +kernel
theorem r145_1 (l0 l1 l2 l3 : AV) (st : List AV) (M : Mm) : run 145 1 [l0, l1, l2, l3] st M = run 145 2 [l0, l1, l2, l3] (aI 0 :: st) M := e_iconst 0 d145_1 (by decide +kernel)
theorem d145_2 : decode (cod 145) 2 = .ok (.sipush 240, 3) := by decide +kernel
theorem r145_2 (l0 l1 l2 l3 : AV) (st : List AV) (M : Mm) : run 145 2 [l0, l1, l2, l3] st M = run 145 5 [l0, l1, l2, l3] (aI 240 :: st) M := e_sipush 240 d145_2 (by decide +kernel)
theorem d145_5 : decode (cod 145) 5 = .ok (.invokestatic 82, 3) := by decide +kernel
theorem r145_5 (l0 l1 l2 l3 : AV) (a0 : Int32) (a1 : Int32) (a2 : Int32) (M : Mm) : run 145 5 [l0, l1, l2, l3] [aI a2, aI a1, aI a0] M = cbI (call 84 [aI a0, aI a1, aI a2] M) (fun v M => run 145 8 [l0, l1, l2, l3] [aI v] M) := call_I (n := 3) rfl true d145_5 rfl rfl rfl rfl rfl rfl rfl
theorem d145_8 : decode (cod 145) 8 = .ok (.istore_n 2, 1) := by decide +kernel
theorem r145_8 (l0 l1 l2 l3 : AV) (x : Int32) (st : List AV) (M : Mm) : run 145 8 [l0, l1, l2, l3] (aI x :: st) M = run 145 9 [l0, l1, aI x, l3] st M := e_istn [l0, l1, aI x, l3] d145_8 rfl rfl
theorem d145_9 : decode (cod 145) 9 = .ok (.iload_n 2, 1) := by decide +kernel
theorem r145_9 (l0 l1 l3 : AV) (x : Int32) (st : List AV) (M : Mm) : run 145 9 [l0, l1, aI x, l3] st M = run 145 10 [l0, l1, aI x, l3] (aI x :: st) M := e_ildn d145_9 rfl
theorem d145_10 : decode (cod 145) 10 = .ok (.ifCond .eq 9, 3) := by decide +kernel
theorem r145_10 (l0 l1 l2 l3 : AV) (a : Int32) (st : List AV) (M : Mm) : run 145 10 [l0, l1, l2, l3] (aI a :: st) M = if a = 0 then run 145 19 [l0, l1, l2, l3] st M else run 145 13 [l0, l1, l2, l3] st M := e_eq1 19 d145_10 (by decide)
theorem d145_13 : decode (cod 145) 13 = .ok (.aload_n 0, 1) := by decide +kernel
theorem r145_13 (l1 l2 l3 : AV) (xg xi : Nat) (st : List AV) (M : Mm) : run 145 13 [aR xg 12 xi, l1, l2, l3] st M = run 145 14 [aR xg 12 xi, l1, l2, l3] (aR xg 12 xi :: st) M := e_aldn d145_13 rfl
theorem d145_14 : decode (cod 145) 14 = .ok (.iload_n 2, 1) := by decide +kernel
theorem r145_14 (l0 l1 l3 : AV) (x : Int32) (st : List AV) (M : Mm) : run 145 14 [l0, l1, aI x, l3] st M = run 145 15 [l0, l1, aI x, l3] (aI x :: st) M := e_ildn d145_14 rfl
theorem d145_15 : decode (cod 145) 15 = .ok (.invokevirtual 290, 3) := by decide +kernel
theorem r145_15 (l0 l1 l2 l3 : AV) (a0g a0i : Nat) (a1 : Int32) (M : Mm) : run 145 15 [l0, l1, l2, l3] [aI a1, aR a0g 12 a0i] M = cbI (call 82 [aR a0g 12 a0i, aI a1] M) (fun v M => run 145 18 [l0, l1, l2, l3] [aI v] M) := call_I (n := 2) rfl false d145_15 rfl rfl rfl rfl rfl rfl rfl
theorem d145_18 : decode (cod 145) 18 = .ok (.ireturn, 1) := by decide +kernel
theorem r145_18 (l0 l1 l2 l3 : AV) (v : Int32) (M : Mm) : run 145 18 [l0, l1, l2, l3] [aI v] M = some (some v, M) := e_iret d145_18 rfl
theorem d145_19 : decode (cod 145) 19 = .ok (.aload_n 0, 1) := by decide +kernel
theorem r145_19 (l1 l2 l3 : AV) (xg xi : Nat) (st : List AV) (M : Mm) : run 145 19 [aR xg 12 xi, l1, l2, l3] st M = run 145 20 [aR xg 12 xi, l1, l2, l3] (aR xg 12 xi :: st) M := e_aldn d145_19 rfl
theorem d145_20 : decode (cod 145) 20 = .ok (.iload_n 1, 1) := by decide +kernel
theorem r145_20 (l0 l2 l3 : AV) (x : Int32) (st : List AV) (M : Mm) : run 145 20 [l0, aI x, l2, l3] st M = run 145 21 [l0, aI x, l2, l3] (aI x :: st) M := e_ildn d145_20 rfl
theorem d145_21 : decode (cod 145) 21 = .ok (.invokevirtual 293, 3) := by decide +kernel
theorem r145_21 (l0 l1 l2 l3 : AV) (a0g a0i : Nat) (a1 : Int32) (M : Mm) : run 145 21 [l0, l1, l2, l3] [aI a1, aR a0g 12 a0i] M = cbI (call 143 [aR a0g 12 a0i, aI a1] M) (fun v M => run 145 24 [l0, l1, l2, l3] [aI v] M) := call_I (n := 2) rfl false d145_21 rfl rfl rfl rfl rfl rfl rfl
theorem d145_24 : decode (cod 145) 24 = .ok (.istore_n 3, 1) := by decide +kernel
theorem r145_24 (l0 l1 l2 l3 : AV) (x : Int32) (st : List AV) (M : Mm) : run 145 24 [l0, l1, l2, l3] (aI x :: st) M = run 145 25 [l0, l1, l2, aI x] st M := e_istn [l0, l1, l2, aI x] d145_24 rfl rfl
theorem d145_25 : decode (cod 145) 25 = .ok (.aload_n 0, 1) := by decide +kernel
theorem r145_25 (l1 l2 l3 : AV) (xg xi : Nat) (st : List AV) (M : Mm) : run 145 25 [aR xg 12 xi, l1, l2, l3] st M = run 145 26 [aR xg 12 xi, l1, l2, l3] (aR xg 12 xi :: st) M := e_aldn d145_25 rfl
theorem d145_26 : decode (cod 145) 26 = .ok (.iconst 2, 1) := by decide +kernel
theorem r145_26 (l0 l1 l2 l3 : AV) (st : List AV) (M : Mm) : run 145 26 [l0, l1, l2, l3] st M = run 145 27 [l0, l1, l2, l3] (aI 2 :: st) M := e_iconst 2 d145_26 (by decide +kernel)
theorem d145_27 : decode (cod 145) 27 = .ok (.iconst 1, 1) := by decide +kernel
theorem r145_27 (l0 l1 l2 l3 : AV) (st : List AV) (M : Mm) : run 145 27 [l0, l1, l2, l3] st M = run 145 28 [l0, l1, l2, l3] (aI 1 :: st) M := e_iconst 1 d145_27 (by decide +kernel)
theorem d145_28 : decode (cod 145) 28 = .ok (.iload_n 1, 1) := by decide +kernel
theorem r145_28 (l0 l2 l3 : AV) (x : Int32) (st : List AV) (M : Mm) : run 145 28 [l0, aI x, l2, l3] st M = run 145 29 [l0, aI x, l2, l3] (aI x :: st) M := e_ildn d145_28 rfl
theorem d145_29 : decode (cod 145) 29 = .ok (.invokevirtual 287, 3) := by decide +kernel
theorem r145_29 (l0 l1 l2 l3 : AV) (a0g a0i : Nat) (a1 : Int32) (a2 : Int32) (a3 : Int32) (M : Mm) : run 145 29 [l0, l1, l2, l3] [aI a3, aI a2, aI a1, aR a0g 12 a0i] M = cbI (call 140 [aR a0g 12 a0i, aI a1, aI a2, aI a3] M) (fun v M => run 145 32 [l0, l1, l2, l3] [aI v] M) := call_I (n := 4) rfl false d145_29 rfl rfl rfl rfl rfl rfl rfl
theorem d145_32 : decode (cod 145) 32 = .ok (.iload_n 3, 1) := by decide +kernel
theorem r145_32 (l0 l1 l2 : AV) (x : Int32) (st : List AV) (M : Mm) : run 145 32 [l0, l1, l2, aI x] st M = run 145 33 [l0, l1, l2, aI x] (aI x :: st) M := e_ildn d145_32 rfl
theorem d145_33 : decode (cod 145) 33 = .ok (.isub, 1) := by decide +kernel
theorem r145_33 (l0 l1 l2 l3 : AV) (a b : Int32) (st : List AV) (M : Mm) : run 145 33 [l0, l1, l2, l3] (aI b :: aI a :: st) M = run 145 34 [l0, l1, l2, l3] (aI (a - b) :: st) M := e_isub d145_33
theorem d145_34 : decode (cod 145) 34 = .ok (.ireturn, 1) := by decide +kernel
theorem r145_34 (l0 l1 l2 l3 : AV) (v : Int32) (M : Mm) : run 145 34 [l0, l1, l2, l3] [aI v] M = some (some v, M) := e_iret d145_34 rfl
theorem c146 (g0 i0 : Nat) (x1 : Int32) (x2 : Int32) (M : Mm) : call 146 [aR g0 12 i0, aI x1, aI x2] M = run 146 0 [aR g0 12 i0, aI x1, aI x2, none, none, none] [] M := call_run 146 _ _
theorem d146_0 : decode (cod 146) 0 = .ok (.iload_n 1, 1) := by decide +kernel
theorem r146_0 (l0 l2 l3 l4 l5 : AV) (x : Int32) (st : List AV) (M : Mm) : run 146 0 [l0, aI x, l2, l3, l4, l5] st M = run 146 1 [l0, aI x, l2, l3, l4, l5] (aI x :: st) M := e_ildn d146_0 rfl
theorem d146_1 : decode (cod 146) 1 = .ok (.ifCond .lt 7, 3) := by decide +kernel
theorem r146_1 (l0 l1 l2 l3 l4 l5 : AV) (a : Int32) (st : List AV) (M : Mm) : run 146 1 [l0, l1, l2, l3, l4, l5] (aI a :: st) M = if a < 0 then run 146 8 [l0, l1, l2, l3, l4, l5] st M else run 146 4 [l0, l1, l2, l3, l4, l5] st M := e_lt1 8 d146_1 (by decide)
theorem d146_4 : decode (cod 146) 4 = .ok (.iload_n 2, 1) := by decide +kernel
theorem r146_4 (l0 l1 l3 l4 l5 : AV) (x : Int32) (st : List AV) (M : Mm) : run 146 4 [l0, l1, aI x, l3, l4, l5] st M = run 146 5 [l0, l1, aI x, l3, l4, l5] (aI x :: st) M := e_ildn d146_4 rfl
theorem d146_5 : decode (cod 146) 5 = .ok (.ifCond .ge 8, 3) := by decide +kernel
theorem r146_5 (l0 l1 l2 l3 l4 l5 : AV) (a : Int32) (st : List AV) (M : Mm) : run 146 5 [l0, l1, l2, l3, l4, l5] (aI a :: st) M = if a < 0 then run 146 8 [l0, l1, l2, l3, l4, l5] st M else run 146 13 [l0, l1, l2, l3, l4, l5] st M := e_ge1 13 d146_5 (by decide)
theorem d146_8 : decode (cod 146) 8 = .ok (.bipush (-4), 2) := by decide +kernel
theorem r146_8 (l0 l1 l2 l3 l4 l5 : AV) (st : List AV) (M : Mm) : run 146 8 [l0, l1, l2, l3, l4, l5] st M = run 146 10 [l0, l1, l2, l3, l4, l5] (aI (-4) :: st) M := e_bipush (-4) d146_8 (by decide +kernel)
theorem d146_10 : decode (cod 146) 10 = .ok (.goto 22, 3) := by decide +kernel
theorem r146_10 (l0 l1 l2 l3 l4 l5 : AV) (st : List AV) (M : Mm) : run 146 10 [l0, l1, l2, l3, l4, l5] st M = run 146 32 [l0, l1, l2, l3, l4, l5] st M := e_goto 32 d146_10 (by decide)
theorem d146_13 : decode (cod 146) 13 = .ok (.iload_n 1, 1) := by decide +kernel
theorem r146_13 (l0 l2 l3 l4 l5 : AV) (x : Int32) (st : List AV) (M : Mm) : run 146 13 [l0, aI x, l2, l3, l4, l5] st M = run 146 14 [l0, aI x, l2, l3, l4, l5] (aI x :: st) M := e_ildn d146_13 rfl
theorem d146_14 : decode (cod 146) 14 = .ok (.sipush 240, 3) := by decide +kernel
theorem r146_14 (l0 l1 l2 l3 l4 l5 : AV) (st : List AV) (M : Mm) : run 146 14 [l0, l1, l2, l3, l4, l5] st M = run 146 17 [l0, l1, l2, l3, l4, l5] (aI 240 :: st) M := e_sipush 240 d146_14 (by decide +kernel)
theorem d146_17 : decode (cod 146) 17 = .ok (.if_icmp .gt 9, 3) := by decide +kernel
theorem r146_17 (l0 l1 l2 l3 l4 l5 : AV) (a b : Int32) (st : List AV) (M : Mm) : run 146 17 [l0, l1, l2, l3, l4, l5] (aI b :: aI a :: st) M = if b < a then run 146 26 [l0, l1, l2, l3, l4, l5] st M else run 146 20 [l0, l1, l2, l3, l4, l5] st M := e_gt2 26 d146_17 (by decide)
theorem d146_20 : decode (cod 146) 20 = .ok (.iload_n 2, 1) := by decide +kernel
theorem r146_20 (l0 l1 l3 l4 l5 : AV) (x : Int32) (st : List AV) (M : Mm) : run 146 20 [l0, l1, aI x, l3, l4, l5] st M = run 146 21 [l0, l1, aI x, l3, l4, l5] (aI x :: st) M := e_ildn d146_20 rfl
theorem d146_21 : decode (cod 146) 21 = .ok (.bipush 99, 2) := by decide +kernel
theorem r146_21 (l0 l1 l2 l3 l4 l5 : AV) (st : List AV) (M : Mm) : run 146 21 [l0, l1, l2, l3, l4, l5] st M = run 146 23 [l0, l1, l2, l3, l4, l5] (aI 99 :: st) M := e_bipush 99 d146_21 (by decide +kernel)
theorem d146_23 : decode (cod 146) 23 = .ok (.if_icmp .le 8, 3) := by decide +kernel
theorem r146_23 (l0 l1 l2 l3 l4 l5 : AV) (a b : Int32) (st : List AV) (M : Mm) : run 146 23 [l0, l1, l2, l3, l4, l5] (aI b :: aI a :: st) M = if b < a then run 146 26 [l0, l1, l2, l3, l4, l5] st M else run 146 31 [l0, l1, l2, l3, l4, l5] st M := e_le2 31 d146_23 (by decide)
theorem d146_26 : decode (cod 146) 26 = .ok (.bipush (-6), 2) := by decide +kernel
theorem r146_26 (l0 l1 l2 l3 l4 l5 : AV) (st : List AV) (M : Mm) : run 146 26 [l0, l1, l2, l3, l4, l5] st M = run 146 28 [l0, l1, l2, l3, l4, l5] (aI (-6) :: st) M := e_bipush (-6) d146_26 (by decide +kernel)
theorem d146_28 : decode (cod 146) 28 = .ok (.goto 4, 3) := by decide +kernel
theorem r146_28 (l0 l1 l2 l3 l4 l5 : AV) (st : List AV) (M : Mm) : run 146 28 [l0, l1, l2, l3, l4, l5] st M = run 146 32 [l0, l1, l2, l3, l4, l5] st M := e_goto 32 d146_28 (by decide)
theorem d146_31 : decode (cod 146) 31 = .ok (.iconst 0, 1) := by decide +kernel
theorem r146_31 (l0 l1 l2 l3 l4 l5 : AV) (st : List AV) (M : Mm) : run 146 31 [l0, l1, l2, l3, l4, l5] st M = run 146 32 [l0, l1, l2, l3, l4, l5] (aI 0 :: st) M := e_iconst 0 d146_31 (by decide +kernel)
theorem d146_32 : decode (cod 146) 32 = .ok (.istore_n 3, 1) := by decide +kernel
theorem r146_32 (l0 l1 l2 l3 l4 l5 : AV) (x : Int32) (st : List AV) (M : Mm) : run 146 32 [l0, l1, l2, l3, l4, l5] (aI x :: st) M = run 146 33 [l0, l1, l2, aI x, l4, l5] st M := e_istn [l0, l1, l2, aI x, l4, l5] d146_32 rfl rfl
theorem d146_33 : decode (cod 146) 33 = .ok (.iload_n 3, 1) := by decide +kernel
theorem r146_33 (l0 l1 l2 l4 l5 : AV) (x : Int32) (st : List AV) (M : Mm) : run 146 33 [l0, l1, l2, aI x, l4, l5] st M = run 146 34 [l0, l1, l2, aI x, l4, l5] (aI x :: st) M := e_ildn d146_33 rfl
theorem d146_34 : decode (cod 146) 34 = .ok (.ifCond .eq 9, 3) := by decide +kernel
theorem r146_34 (l0 l1 l2 l3 l4 l5 : AV) (a : Int32) (st : List AV) (M : Mm) : run 146 34 [l0, l1, l2, l3, l4, l5] (aI a :: st) M = if a = 0 then run 146 43 [l0, l1, l2, l3, l4, l5] st M else run 146 37 [l0, l1, l2, l3, l4, l5] st M := e_eq1 43 d146_34 (by decide)
theorem d146_37 : decode (cod 146) 37 = .ok (.aload_n 0, 1) := by decide +kernel
theorem r146_37 (l1 l2 l3 l4 l5 : AV) (xg xi : Nat) (st : List AV) (M : Mm) : run 146 37 [aR xg 12 xi, l1, l2, l3, l4, l5] st M = run 146 38 [aR xg 12 xi, l1, l2, l3, l4, l5] (aR xg 12 xi :: st) M := e_aldn d146_37 rfl
theorem d146_38 : decode (cod 146) 38 = .ok (.iload_n 3, 1) := by decide +kernel
theorem r146_38 (l0 l1 l2 l4 l5 : AV) (x : Int32) (st : List AV) (M : Mm) : run 146 38 [l0, l1, l2, aI x, l4, l5] st M = run 146 39 [l0, l1, l2, aI x, l4, l5] (aI x :: st) M := e_ildn d146_38 rfl
theorem d146_39 : decode (cod 146) 39 = .ok (.invokevirtual 290, 3) := by decide +kernel
theorem r146_39 (l0 l1 l2 l3 l4 l5 : AV) (a0g a0i : Nat) (a1 : Int32) (M : Mm) : run 146 39 [l0, l1, l2, l3, l4, l5] [aI a1, aR a0g 12 a0i] M = cbI (call 82 [aR a0g 12 a0i, aI a1] M) (fun v M => run 146 42 [l0, l1, l2, l3, l4, l5] [aI v] M) := call_I (n := 2) rfl false d146_39 rfl rfl rfl rfl rfl rfl rfl
theorem d146_42 : decode (cod 146) 42 = .ok (.ireturn, 1) := by decide +kernel
theorem r146_42 (l0 l1 l2 l3 l4 l5 : AV) (v : Int32) (M : Mm) : run 146 42 [l0, l1, l2, l3, l4, l5] [aI v] M = some (some v, M) := e_iret d146_42 rfl
theorem d146_43 : decode (cod 146) 43 = .ok (.aload_n 0, 1) := by decide +kernel
theorem r146_43 (l1 l2 l3 l4 l5 : AV) (xg xi : Nat) (st : List AV) (M : Mm) : run 146 43 [aR xg 12 xi, l1, l2, l3, l4, l5] st M = run 146 44 [aR xg 12 xi, l1, l2, l3, l4, l5] (aR xg 12 xi :: st) M := e_aldn d146_43 rfl
theorem d146_44 : decode (cod 146) 44 = .ok (.iload_n 1, 1) := by decide +kernel
theorem r146_44 (l0 l2 l3 l4 l5 : AV) (x : Int32) (st : List AV) (M : Mm) : run 146 44 [l0, aI x, l2, l3, l4, l5] st M = run 146 45 [l0, aI x, l2, l3, l4, l5] (aI x :: st) M := e_ildn d146_44 rfl
theorem d146_45 : decode (cod 146) 45 = .ok (.invokevirtual 284, 3) := by decide +kernel
theorem r146_45 (l0 l1 l2 l3 l4 l5 : AV) (a0g a0i : Nat) (a1 : Int32) (M : Mm) : run 146 45 [l0, l1, l2, l3, l4, l5] [aI a1, aR a0g 12 a0i] M = cbV (call 130 [aR a0g 12 a0i, aI a1] M) (fun M => run 146 48 [l0, l1, l2, l3, l4, l5] [] M) := call_V (n := 2) rfl false d146_45 rfl rfl rfl rfl rfl rfl rfl
theorem d146_48 : decode (cod 146) 48 = .ok (.aload_n 0, 1) := by decide +kernel
theorem r146_48 (l1 l2 l3 l4 l5 : AV) (xg xi : Nat) (st : List AV) (M : Mm) : run 146 48 [aR xg 12 xi, l1, l2, l3, l4, l5] st M = run 146 49 [aR xg 12 xi, l1, l2, l3, l4, l5] (aR xg 12 xi :: st) M := e_aldn d146_48 rfl
theorem d146_49 : decode (cod 146) 49 = .ok (.invokevirtual 245, 3) := by decide +kernel
theorem r146_49 (l0 l1 l2 l3 l4 l5 : AV) (a0g a0i : Nat) (M : Mm) : run 146 49 [l0, l1, l2, l3, l4, l5] [aR a0g 12 a0i] M = cbI (call 125 [aR a0g 12 a0i] M) (fun v M => run 146 52 [l0, l1, l2, l3, l4, l5] [aI v] M) := call_I (n := 1) rfl false d146_49 rfl rfl rfl rfl rfl rfl rfl
theorem d146_52 : decode (cod 146) 52 = .ok (.istore 4, 2) := by decide +kernel
theorem r146_52 (l0 l1 l2 l3 l4 l5 : AV) (x : Int32) (st : List AV) (M : Mm) : run 146 52 [l0, l1, l2, l3, l4, l5] (aI x :: st) M = run 146 54 [l0, l1, l2, l3, aI x, l5] st M := e_ist [l0, l1, l2, l3, aI x, l5] d146_52 rfl rfl
theorem d146_54 : decode (cod 146) 54 = .ok (.aload_n 0, 1) := by decide +kernel
theorem r146_54 (l1 l2 l3 l4 l5 : AV) (xg xi : Nat) (st : List AV) (M : Mm) : run 146 54 [aR xg 12 xi, l1, l2, l3, l4, l5] st M = run 146 55 [aR xg 12 xi, l1, l2, l3, l4, l5] (aR xg 12 xi :: st) M := e_aldn d146_54 rfl
theorem d146_55 : decode (cod 146) 55 = .ok (.iconst 1, 1) := by decide +kernel
theorem r146_55 (l0 l1 l2 l3 l4 l5 : AV) (st : List AV) (M : Mm) : run 146 55 [l0, l1, l2, l3, l4, l5] st M = run 146 56 [l0, l1, l2, l3, l4, l5] (aI 1 :: st) M := e_iconst 1 d146_55 (by decide +kernel)
theorem d146_56 : decode (cod 146) 56 = .ok (.iconst 1, 1) := by decide +kernel
theorem r146_56 (l0 l1 l2 l3 l4 l5 : AV) (st : List AV) (M : Mm) : run 146 56 [l0, l1, l2, l3, l4, l5] st M = run 146 57 [l0, l1, l2, l3, l4, l5] (aI 1 :: st) M := e_iconst 1 d146_56 (by decide +kernel)
theorem d146_57 : decode (cod 146) 57 = .ok (.invokevirtual 150, 3) := by decide +kernel
theorem r146_57 (l0 l1 l2 l3 l4 l5 : AV) (a0g a0i : Nat) (a1 : Int32) (a2 : Int32) (M : Mm) : run 146 57 [l0, l1, l2, l3, l4, l5] [aI a2, aI a1, aR a0g 12 a0i] M = cbV (call 103 [aR a0g 12 a0i, aI a1, aI a2] M) (fun M => run 146 60 [l0, l1, l2, l3, l4, l5] [] M) := call_V (n := 3) rfl false d146_57 rfl rfl rfl rfl rfl rfl rfl
theorem d146_60 : decode (cod 146) 60 = .ok (.iconst 0, 1) := by decide +kernel
theorem r146_60 (l0 l1 l2 l3 l4 l5 : AV) (st : List AV) (M : Mm) : run 146 60 [l0, l1, l2, l3, l4, l5] st M = run 146 61 [l0, l1, l2, l3, l4, l5] (aI 0 :: st) M := e_iconst 0 d146_60 (by decide +kernel)
theorem d146_61 : decode (cod 146) 61 = .ok (.istore 5, 2) := by decide +kernel
theorem r146_61 (l0 l1 l2 l3 l4 l5 : AV) (x : Int32) (st : List AV) (M : Mm) : run 146 61 [l0, l1, l2, l3, l4, l5] (aI x :: st) M = run 146 63 [l0, l1, l2, l3, l4, aI x] st M := e_ist [l0, l1, l2, l3, l4, aI x] d146_61 rfl rfl
theorem d146_63 : decode (cod 146) 63 = .ok (.iload 5, 2) := by decide +kernel
theorem r146_63 (l0 l1 l2 l3 l4 : AV) (x : Int32) (st : List AV) (M : Mm) : run 146 63 [l0, l1, l2, l3, l4, aI x] st M = run 146 65 [l0, l1, l2, l3, l4, aI x] (aI x :: st) M := e_ild d146_63 rfl
theorem d146_65 : decode (cod 146) 65 = .ok (.aload_n 0, 1) := by decide +kernel
theorem r146_65 (l1 l2 l3 l4 l5 : AV) (xg xi : Nat) (st : List AV) (M : Mm) : run 146 65 [aR xg 12 xi, l1, l2, l3, l4, l5] st M = run 146 66 [aR xg 12 xi, l1, l2, l3, l4, l5] (aR xg 12 xi :: st) M := e_aldn d146_65 rfl
theorem d146_66 : decode (cod 146) 66 = .ok (.getfield 79, 3) := by decide +kernel
theorem r146_66 (l0 l1 l2 l3 l4 l5 : AV) (xg xi : Nat) (st : List AV) (M : Mm) : run 146 66 [l0, l1, l2, l3, l4, l5] (aR xg 12 xi :: st) M = run 146 69 [l0, l1, l2, l3, l4, l5] (aI (M xg 12 xi 10) :: st) M := e_gfi d146_66 rfl rfl rfl
theorem d146_69 : decode (cod 146) 69 = .ok (.if_icmp .ge 31, 3) := by decide +kernel
theorem r146_69 (l0 l1 l2 l3 l4 l5 : AV) (a b : Int32) (st : List AV) (M : Mm) : run 146 69 [l0, l1, l2, l3, l4, l5] (aI b :: aI a :: st) M = if a < b then run 146 72 [l0, l1, l2, l3, l4, l5] st M else run 146 100 [l0, l1, l2, l3, l4, l5] st M := e_ge2 100 d146_69 (by decide)
theorem d146_72 : decode (cod 146) 72 = .ok (.aload_n 0, 1) := by decide +kernel
theorem r146_72 (l1 l2 l3 l4 l5 : AV) (xg xi : Nat) (st : List AV) (M : Mm) : run 146 72 [aR xg 12 xi, l1, l2, l3, l4, l5] st M = run 146 73 [aR xg 12 xi, l1, l2, l3, l4, l5] (aR xg 12 xi :: st) M := e_aldn d146_72 rfl
theorem d146_73 : decode (cod 146) 73 = .ok (.getfield 25, 3) := by decide +kernel
theorem r146_73 (l0 l1 l2 l3 l4 l5 : AV) (xg xi : Nat) (st : List AV) (M : Mm) : run 146 73 [l0, l1, l2, l3, l4, l5] (aR xg 12 xi :: st) M = run 146 76 [l0, l1, l2, l3, l4, l5] (aR 4 18 0 :: st) M := e_gfr (fun g => (4, 18, 0)) d146_73 rfl rfl rfl
theorem d146_76 : decode (cod 146) 76 = .ok (.iload 5, 2) := by decide +kernel
theorem r146_76 (l0 l1 l2 l3 l4 : AV) (x : Int32) (st : List AV) (M : Mm) : run 146 76 [l0, l1, l2, l3, l4, aI x] st M = run 146 78 [l0, l1, l2, l3, l4, aI x] (aI x :: st) M := e_ild d146_76 rfl
theorem d146_78 : decode (cod 146) 78 = .ok (.aload_n 0, 1) := by decide +kernel
theorem r146_78 (l1 l2 l3 l4 l5 : AV) (xg xi : Nat) (st : List AV) (M : Mm) : run 146 78 [aR xg 12 xi, l1, l2, l3, l4, l5] st M = run 146 79 [aR xg 12 xi, l1, l2, l3, l4, l5] (aR xg 12 xi :: st) M := e_aldn d146_78 rfl
theorem d146_79 : decode (cod 146) 79 = .ok (.getfield 25, 3) := by decide +kernel
theorem r146_79 (l0 l1 l2 l3 l4 l5 : AV) (xg xi : Nat) (st : List AV) (M : Mm) : run 146 79 [l0, l1, l2, l3, l4, l5] (aR xg 12 xi :: st) M = run 146 82 [l0, l1, l2, l3, l4, l5] (aR 4 18 0 :: st) M := e_gfr (fun g => (4, 18, 0)) d146_79 rfl rfl rfl
theorem d146_82 : decode (cod 146) 82 = .ok (.iload 5, 2) := by decide +kernel
theorem r146_82 (l0 l1 l2 l3 l4 : AV) (x : Int32) (st : List AV) (M : Mm) : run 146 82 [l0, l1, l2, l3, l4, aI x] st M = run 146 84 [l0, l1, l2, l3, l4, aI x] (aI x :: st) M := e_ild d146_82 rfl
theorem d146_84 : decode (cod 146) 84 = .ok (.iaload, 1) := by decide +kernel
theorem r146_84 (l0 l1 l2 l3 l4 l5 : AV) (i : Int32) (xg xi : Nat) (st : List AV) (M : Mm) : run 146 84 [l0, l1, l2, l3, l4, l5] (aI i :: aR xg 18 xi :: st) M = if vpB i 4 = true then run 146 85 [l0, l1, l2, l3, l4, l5] (aI (M xg 18 xi i.toNatClampNeg) :: st) M else none := e_ial d146_84 rfl rfl
theorem d146_85 : decode (cod 146) 85 = .ok (.iload_n 2, 1) := by decide +kernel
theorem r146_85 (l0 l1 l3 l4 l5 : AV) (x : Int32) (st : List AV) (M : Mm) : run 146 85 [l0, l1, aI x, l3, l4, l5] st M = run 146 86 [l0, l1, aI x, l3, l4, l5] (aI x :: st) M := e_ildn d146_85 rfl
theorem d146_86 : decode (cod 146) 86 = .ok (.iadd, 1) := by decide +kernel
theorem r146_86 (l0 l1 l2 l3 l4 l5 : AV) (a b : Int32) (st : List AV) (M : Mm) : run 146 86 [l0, l1, l2, l3, l4, l5] (aI b :: aI a :: st) M = run 146 87 [l0, l1, l2, l3, l4, l5] (aI (a + b) :: st) M := e_iadd d146_86
theorem d146_87 : decode (cod 146) 87 = .ok (.sipush 240, 3) := by decide +kernel
theorem r146_87 (l0 l1 l2 l3 l4 l5 : AV) (st : List AV) (M : Mm) : run 146 87 [l0, l1, l2, l3, l4, l5] st M = run 146 90 [l0, l1, l2, l3, l4, l5] (aI 240 :: st) M := e_sipush 240 d146_87 (by decide +kernel)
theorem d146_90 : decode (cod 146) 90 = .ok (.invokestatic 186, 3) := by decide +kernel
theorem r146_90 (l0 l1 l2 l3 l4 l5 : AV) (a0 : Int32) (a1 : Int32) (t0 t1 : AV) (M : Mm) : run 146 90 [l0, l1, l2, l3, l4, l5] [aI a1, aI a0, t0, t1] M = cbI (call 109 [aI a0, aI a1] M) (fun v M => run 146 93 [l0, l1, l2, l3, l4, l5] [aI v, t0, t1] M) := call_I (n := 2) rfl true d146_90 rfl rfl rfl rfl rfl rfl rfl
theorem d146_93 : decode (cod 146) 93 = .ok (.iastore, 1) := by decide +kernel
theorem r146_93 (l0 l1 l2 l3 l4 l5 : AV) (v i : Int32) (xg xi : Nat) (st : List AV) (M : Mm) : run 146 93 [l0, l1, l2, l3, l4, l5] (aI v :: aI i :: aR xg 18 xi :: st) M = if vpB i 4 = true then run 146 94 [l0, l1, l2, l3, l4, l5] st (wr M xg 18 xi i.toNatClampNeg v) else none := e_ias d146_93 rfl rfl
theorem d146_94 : decode (cod 146) 94 = .ok (.iinc 5 1, 3) := by decide +kernel
theorem r146_94 (l0 l1 l2 l3 l4 : AV) (x : Int32) (st : List AV) (M : Mm) : run 146 94 [l0, l1, l2, l3, l4, aI x] st M = run 146 97 [l0, l1, l2, l3, l4, aI (x + 1)] st M := e_iinc 1 [l0, l1, l2, l3, l4, aI (x + 1)] d146_94 (by decide +kernel) rfl rfl
theorem d146_97 : decode (cod 146) 97 = .ok (.goto (-34), 3) := by decide +kernel
theorem r146_97 (l0 l1 l2 l3 l4 l5 : AV) (st : List AV) (M : Mm) : run 146 97 [l0, l1, l2, l3, l4, l5] st M = run 146 63 [l0, l1, l2, l3, l4, l5] st M := e_goto 63 d146_97 (by decide)
theorem d146_100 : decode (cod 146) 100 = .ok (.aload_n 0, 1) := by decide +kernel
theorem r146_100 (l1 l2 l3 l4 l5 : AV) (xg xi : Nat) (st : List AV) (M : Mm) : run 146 100 [aR xg 12 xi, l1, l2, l3, l4, l5] st M = run 146 101 [aR xg 12 xi, l1, l2, l3, l4, l5] (aR xg 12 xi :: st) M := e_aldn d146_100 rfl
theorem d146_101 : decode (cod 146) 101 = .ok (.iload_n 1, 1) := by decide +kernel
theorem r146_101 (l0 l2 l3 l4 l5 : AV) (x : Int32) (st : List AV) (M : Mm) : run 146 101 [l0, aI x, l2, l3, l4, l5] st M = run 146 102 [l0, aI x, l2, l3, l4, l5] (aI x :: st) M := e_ildn d146_101 rfl
theorem d146_102 : decode (cod 146) 102 = .ok (.invokevirtual 272, 3) := by decide +kernel
theorem r146_102 (l0 l1 l2 l3 l4 l5 : AV) (a0g a0i : Nat) (a1 : Int32) (M : Mm) : run 146 102 [l0, l1, l2, l3, l4, l5] [aI a1, aR a0g 12 a0i] M = cbV (call 127 [aR a0g 12 a0i, aI a1] M) (fun M => run 146 105 [l0, l1, l2, l3, l4, l5] [] M) := call_V (n := 2) rfl false d146_102 rfl rfl rfl rfl rfl rfl rfl
theorem d146_105 : decode (cod 146) 105 = .ok (.aload_n 0, 1) := by decide +kernel
theorem r146_105 (l1 l2 l3 l4 l5 : AV) (xg xi : Nat) (st : List AV) (M : Mm) : run 146 105 [aR xg 12 xi, l1, l2, l3, l4, l5] st M = run 146 106 [aR xg 12 xi, l1, l2, l3, l4, l5] (aR xg 12 xi :: st) M := e_aldn d146_105 rfl
theorem d146_106 : decode (cod 146) 106 = .ok (.invokevirtual 245, 3) := by decide +kernel
theorem r146_106 (l0 l1 l2 l3 l4 l5 : AV) (a0g a0i : Nat) (M : Mm) : run 146 106 [l0, l1, l2, l3, l4, l5] [aR a0g 12 a0i] M = cbI (call 125 [aR a0g 12 a0i] M) (fun v M => run 146 109 [l0, l1, l2, l3, l4, l5] [aI v] M) := call_I (n := 1) rfl false d146_106 rfl rfl rfl rfl rfl rfl rfl
theorem d146_109 : decode (cod 146) 109 = .ok (.istore 5, 2) := by decide +kernel
theorem r146_109 (l0 l1 l2 l3 l4 l5 : AV) (x : Int32) (st : List AV) (M : Mm) : run 146 109 [l0, l1, l2, l3, l4, l5] (aI x :: st) M = run 146 111 [l0, l1, l2, l3, l4, aI x] st M := e_ist [l0, l1, l2, l3, l4, aI x] d146_109 rfl rfl
theorem d146_111 : decode (cod 146) 111 = .ok (.aload_n 0, 1) := by decide +kernel
theorem r146_111 (l1 l2 l3 l4 l5 : AV) (xg xi : Nat) (st : List AV) (M : Mm) : run 146 111 [aR xg 12 xi, l1, l2, l3, l4, l5] st M = run 146 112 [aR xg 12 xi, l1, l2, l3, l4, l5] (aR xg 12 xi :: st) M := e_aldn d146_111 rfl
theorem d146_112 : decode (cod 146) 112 = .ok (.iconst 1, 1) := by decide +kernel
theorem r146_112 (l0 l1 l2 l3 l4 l5 : AV) (st : List AV) (M : Mm) : run 146 112 [l0, l1, l2, l3, l4, l5] st M = run 146 113 [l0, l1, l2, l3, l4, l5] (aI 1 :: st) M := e_iconst 1 d146_112 (by decide +kernel)
theorem d146_113 : decode (cod 146) 113 = .ok (.iconst 0, 1) := by decide +kernel
theorem r146_113 (l0 l1 l2 l3 l4 l5 : AV) (st : List AV) (M : Mm) : run 146 113 [l0, l1, l2, l3, l4, l5] st M = run 146 114 [l0, l1, l2, l3, l4, l5] (aI 0 :: st) M := e_iconst 0 d146_113 (by decide +kernel)
theorem d146_114 : decode (cod 146) 114 = .ok (.invokevirtual 150, 3) := by decide +kernel
theorem r146_114 (l0 l1 l2 l3 l4 l5 : AV) (a0g a0i : Nat) (a1 : Int32) (a2 : Int32) (M : Mm) : run 146 114 [l0, l1, l2, l3, l4, l5] [aI a2, aI a1, aR a0g 12 a0i] M = cbV (call 103 [aR a0g 12 a0i, aI a1, aI a2] M) (fun M => run 146 117 [l0, l1, l2, l3, l4, l5] [] M) := call_V (n := 3) rfl false d146_114 rfl rfl rfl rfl rfl rfl rfl
theorem d146_117 : decode (cod 146) 117 = .ok (.iload 4, 2) := by decide +kernel
theorem r146_117 (l0 l1 l2 l3 l5 : AV) (x : Int32) (st : List AV) (M : Mm) : run 146 117 [l0, l1, l2, l3, aI x, l5] st M = run 146 119 [l0, l1, l2, l3, aI x, l5] (aI x :: st) M := e_ild d146_117 rfl
theorem d146_119 : decode (cod 146) 119 = .ok (.iload 5, 2) := by decide +kernel
theorem r146_119 (l0 l1 l2 l3 l4 : AV) (x : Int32) (st : List AV) (M : Mm) : run 146 119 [l0, l1, l2, l3, l4, aI x] st M = run 146 121 [l0, l1, l2, l3, l4, aI x] (aI x :: st) M := e_ild d146_119 rfl
theorem d146_121 : decode (cod 146) 121 = .ok (.isub, 1) := by decide +kernel
theorem r146_121 (l0 l1 l2 l3 l4 l5 : AV) (a b : Int32) (st : List AV) (M : Mm) : run 146 121 [l0, l1, l2, l3, l4, l5] (aI b :: aI a :: st) M = run 146 122 [l0, l1, l2, l3, l4, l5] (aI (a - b) :: st) M := e_isub d146_121
theorem d146_122 : decode (cod 146) 122 = .ok (.ireturn, 1) := by decide +kernel
theorem r146_122 (l0 l1 l2 l3 l4 l5 : AV) (v : Int32) (M : Mm) : run 146 122 [l0, l1, l2, l3, l4, l5] [aI v] M = some (some v, M) := e_iret d146_122 rfl
theorem c147 (g0 i0 : Nat) (x1 : Int32) (M : Mm) : call 147 [aR g0 12 i0, aI x1] M = run 147 0 [aR g0 12 i0, aI x1, none] [] M := call_run 147 _ _
theorem d147_0 : decode (cod 147) 0 = .ok (.iload_n 1, 1) := by decide +kernel
theorem r147_0 (l0 l2 : AV) (x : Int32) (st : List AV) (M : Mm) : run 147 0 [l0, aI x, l2] st M = run 147 1 [l0, aI x, l2] (aI x :: st) M := e_ildn d147_0 rfl
theorem d147_1 : decode (cod 147) 1 = .ok (.iconst 0, 1) := by decide +kernel
theorem r147_1 (l0 l1 l2 : AV) (st : List AV) (M : Mm) : run 147 1 [l0, l1, l2] st M = run 147 2 [l0, l1, l2] (aI 0 :: st) M := e_iconst 0 d147_1 (by decide +kernel)
theorem d147_2 : decode (cod 147) 2 = .ok (.sipush 240, 3) := by decide +kernel
theorem r147_2 (l0 l1 l2 : AV) (st : List AV) (M : Mm) : run 147 2 [l0, l1, l2] st M = run 147 5 [l0, l1, l2] (aI 240 :: st) M := e_sipush 240 d147_2 (by decide +kernel)
theorem d147_5 : decode (cod 147) 5 = .ok (.invokestatic 82, 3) := by decide +kernel
theorem r147_5 (l0 l1 l2 : AV) (a0 : Int32) (a1 : Int32) (a2 : Int32) (M : Mm) : run 147 5 [l0, l1, l2] [aI a2, aI a1, aI a0] M = cbI (call 84 [aI a0, aI a1, aI a2] M) (fun v M => run 147 8 [l0, l1, l2] [aI v] M) := call_I (n := 3) rfl true d147_5 rfl rfl rfl rfl rfl rfl rfl
theorem d147_8 : decode (cod 147) 8 = .ok (.istore_n 2, 1) := by decide +kernel
theorem r147_8 (l0 l1 l2 : AV) (x : Int32) (st : List AV) (M : Mm) : run 147 8 [l0, l1, l2] (aI x :: st) M = run 147 9 [l0, l1, aI x] st M := e_istn [l0, l1, aI x] d147_8 rfl rfl
theorem d147_9 : decode (cod 147) 9 = .ok (.iload_n 2, 1) := by decide +kernel
theorem r147_9 (l0 l1 : AV) (x : Int32) (st : List AV) (M : Mm) : run 147 9 [l0, l1, aI x] st M = run 147 10 [l0, l1, aI x] (aI x :: st) M := e_ildn d147_9 rfl
theorem d147_10 : decode (cod 147) 10 = .ok (.ifCond .eq 9, 3) := by decide +kernel
theorem r147_10 (l0 l1 l2 : AV) (a : Int32) (st : List AV) (M : Mm) : run 147 10 [l0, l1, l2] (aI a :: st) M = if a = 0 then run 147 19 [l0, l1, l2] st M else run 147 13 [l0, l1, l2] st M := e_eq1 19 d147_10 (by decide)
theorem d147_13 : decode (cod 147) 13 = .ok (.aload_n 0, 1) := by decide +kernel
theorem r147_13 (l1 l2 : AV) (xg xi : Nat) (st : List AV) (M : Mm) : run 147 13 [aR xg 12 xi, l1, l2] st M = run 147 14 [aR xg 12 xi, l1, l2] (aR xg 12 xi :: st) M := e_aldn d147_13 rfl
theorem d147_14 : decode (cod 147) 14 = .ok (.iload_n 2, 1) := by decide +kernel
theorem r147_14 (l0 l1 : AV) (x : Int32) (st : List AV) (M : Mm) : run 147 14 [l0, l1, aI x] st M = run 147 15 [l0, l1, aI x] (aI x :: st) M := e_ildn d147_14 rfl
theorem d147_15 : decode (cod 147) 15 = .ok (.invokevirtual 89, 3) := by decide +kernel
theorem r147_15 (l0 l1 l2 : AV) (a0g a0i : Nat) (a1 : Int32) (M : Mm) : run 147 15 [l0, l1, l2] [aI a1, aR a0g 12 a0i] M = cbI (call 81 [aR a0g 12 a0i, aI a1] M) (fun v M => run 147 18 [l0, l1, l2] [aI v] M) := call_I (n := 2) rfl false d147_15 rfl rfl rfl rfl rfl rfl rfl
theorem d147_18 : decode (cod 147) 18 = .ok (.ireturn, 1) := by decide +kernel
theorem r147_18 (l0 l1 l2 : AV) (v : Int32) (M : Mm) : run 147 18 [l0, l1, l2] [aI v] M = some (some v, M) := e_iret d147_18 rfl
theorem d147_19 : decode (cod 147) 19 = .ok (.aload_n 0, 1) := by decide +kernel
theorem r147_19 (l1 l2 : AV) (xg xi : Nat) (st : List AV) (M : Mm) : run 147 19 [aR xg 12 xi, l1, l2] st M = run 147 20 [aR xg 12 xi, l1, l2] (aR xg 12 xi :: st) M := e_aldn d147_19 rfl
theorem d147_20 : decode (cod 147) 20 = .ok (.iload_n 1, 1) := by decide +kernel
theorem r147_20 (l0 l2 : AV) (x : Int32) (st : List AV) (M : Mm) : run 147 20 [l0, aI x, l2] st M = run 147 21 [l0, aI x, l2] (aI x :: st) M := e_ildn d147_20 rfl
theorem d147_21 : decode (cod 147) 21 = .ok (.invokevirtual 284, 3) := by decide +kernel
theorem r147_21 (l0 l1 l2 : AV) (a0g a0i : Nat) (a1 : Int32) (M : Mm) : run 147 21 [l0, l1, l2] [aI a1, aR a0g 12 a0i] M = cbV (call 130 [aR a0g 12 a0i, aI a1] M) (fun M => run 147 24 [l0, l1, l2] [] M) := call_V (n := 2) rfl false d147_21 rfl rfl rfl rfl rfl rfl rfl
theorem d147_24 : decode (cod 147) 24 = .ok (.aload_n 0, 1) := by decide +kernel
theorem r147_24 (l1 l2 : AV) (xg xi : Nat) (st : List AV) (M : Mm) : run 147 24 [aR xg 12 xi, l1, l2] st M = run 147 25 [aR xg 12 xi, l1, l2] (aR xg 12 xi :: st) M := e_aldn d147_24 rfl
theorem d147_25 : decode (cod 147) 25 = .ok (.getfield 260, 3) := by decide +kernel
theorem r147_25 (l0 l1 l2 : AV) (xg xi : Nat) (st : List AV) (M : Mm) : run 147 25 [l0, l1, l2] (aR xg 12 xi :: st) M = run 147 28 [l0, l1, l2] (aI (M xg 12 xi 34) :: st) M := e_gfi d147_25 rfl rfl rfl
theorem d147_28 : decode (cod 147) 28 = .ok (.ireturn, 1) := by decide +kernel
theorem r147_28 (l0 l1 l2 : AV) (v : Int32) (M : Mm) : run 147 28 [l0, l1, l2] [aI v] M = some (some v, M) := e_iret d147_28 rfl
theorem c148 (g0 i0 : Nat) (x1 : Int32) (x2 : Int32) (M : Mm) : call 148 [aR g0 12 i0, aI x1, aI x2] M = run 148 0 [aR g0 12 i0, aI x1, aI x2, none] [] M := call_run 148 _ _
theorem d148_0 : decode (cod 148) 0 = .ok (.aload_n 0, 1) := by decide +kernel
theorem r148_0 (l1 l2 l3 : AV) (xg xi : Nat) (st : List AV) (M : Mm) : run 148 0 [aR xg 12 xi, l1, l2, l3] st M = run 148 1 [aR xg 12 xi, l1, l2, l3] (aR xg 12 xi :: st) M := e_aldn d148_0 rfl
theorem d148_1 : decode (cod 148) 1 = .ok (.iconst 1, 1) := by decide +kernel
theorem r148_1 (l0 l1 l2 l3 : AV) (st : List AV) (M : Mm) : run 148 1 [l0, l1, l2, l3] st M = run 148 2 [l0, l1, l2, l3] (aI 1 :: st) M := e_iconst 1 d148_1 (by decide +kernel)
theorem d148_2 : decode (cod 148) 2 = .ok (.iconst 1, 1) := by decide +kernel
theorem r148_2 (l0 l1 l2 l3 : AV) (st : List AV) (M : Mm) : run 148 2 [l0, l1, l2, l3] st M = run 148 3 [l0, l1, l2, l3] (aI 1 :: st) M := e_iconst 1 d148_2 (by decide +kernel)
theorem d148_3 : decode (cod 148) 3 = .ok (.invokevirtual 150, 3) := by decide +kernel
theorem r148_3 (l0 l1 l2 l3 : AV) (a0g a0i : Nat) (a1 : Int32) (a2 : Int32) (M : Mm) : run 148 3 [l0, l1, l2, l3] [aI a2, aI a1, aR a0g 12 a0i] M = cbV (call 103 [aR a0g 12 a0i, aI a1, aI a2] M) (fun M => run 148 6 [l0, l1, l2, l3] [] M) := call_V (n := 3) rfl false d148_3 rfl rfl rfl rfl rfl rfl rfl
theorem d148_6 : decode (cod 148) 6 = .ok (.aload_n 0, 1) := by decide +kernel
theorem r148_6 (l1 l2 l3 : AV) (xg xi : Nat) (st : List AV) (M : Mm) : run 148 6 [aR xg 12 xi, l1, l2, l3] st M = run 148 7 [aR xg 12 xi, l1, l2, l3] (aR xg 12 xi :: st) M := e_aldn d148_6 rfl
theorem d148_7 : decode (cod 148) 7 = .ok (.iload_n 1, 1) := by decide +kernel
theorem r148_7 (l0 l2 l3 : AV) (x : Int32) (st : List AV) (M : Mm) : run 148 7 [l0, aI x, l2, l3] st M = run 148 8 [l0, aI x, l2, l3] (aI x :: st) M := e_ildn d148_7 rfl
theorem d148_8 : decode (cod 148) 8 = .ok (.putfield 79, 3) := by decide +kernel
theorem r148_8 (l0 l1 l2 l3 : AV) (v : Int32) (xg xi : Nat) (st : List AV) (M : Mm) : run 148 8 [l0, l1, l2, l3] (aI v :: aR xg 12 xi :: st) M = run 148 11 [l0, l1, l2, l3] st (wr M xg 12 xi 10 v) := e_pfi d148_8 rfl rfl rfl rfl
theorem d148_11 : decode (cod 148) 11 = .ok (.aload_n 0, 1) := by decide +kernel
theorem r148_11 (l1 l2 l3 : AV) (xg xi : Nat) (st : List AV) (M : Mm) : run 148 11 [aR xg 12 xi, l1, l2, l3] st M = run 148 12 [aR xg 12 xi, l1, l2, l3] (aR xg 12 xi :: st) M := e_aldn d148_11 rfl
theorem d148_12 : decode (cod 148) 12 = .ok (.aload_n 0, 1) := by decide +kernel
theorem r148_12 (l1 l2 l3 : AV) (xg xi : Nat) (st : List AV) (M : Mm) : run 148 12 [aR xg 12 xi, l1, l2, l3] st M = run 148 13 [aR xg 12 xi, l1, l2, l3] (aR xg 12 xi :: st) M := e_aldn d148_12 rfl
theorem d148_13 : decode (cod 148) 13 = .ok (.getfield 70, 3) := by decide +kernel
theorem r148_13 (l0 l1 l2 l3 : AV) (xg xi : Nat) (st : List AV) (M : Mm) : run 148 13 [l0, l1, l2, l3] (aR xg 12 xi :: st) M = run 148 16 [l0, l1, l2, l3] (aI (M xg 12 xi 12) :: st) M := e_gfi d148_13 rfl rfl rfl
theorem d148_16 : decode (cod 148) 16 = .ok (.iload_n 1, 1) := by decide +kernel
theorem r148_16 (l0 l2 l3 : AV) (x : Int32) (st : List AV) (M : Mm) : run 148 16 [l0, aI x, l2, l3] st M = run 148 17 [l0, aI x, l2, l3] (aI x :: st) M := e_ildn d148_16 rfl
theorem d148_17 : decode (cod 148) 17 = .ok (.if_icmp .ge 10, 3) := by decide +kernel
theorem r148_17 (l0 l1 l2 l3 : AV) (a b : Int32) (st : List AV) (M : Mm) : run 148 17 [l0, l1, l2, l3] (aI b :: aI a :: st) M = if a < b then run 148 20 [l0, l1, l2, l3] st M else run 148 27 [l0, l1, l2, l3] st M := e_ge2 27 d148_17 (by decide)
theorem d148_20 : decode (cod 148) 20 = .ok (.aload_n 0, 1) := by decide +kernel
theorem r148_20 (l1 l2 l3 : AV) (xg xi : Nat) (st : List AV) (M : Mm) : run 148 20 [aR xg 12 xi, l1, l2, l3] st M = run 148 21 [aR xg 12 xi, l1, l2, l3] (aR xg 12 xi :: st) M := e_aldn d148_20 rfl
theorem d148_21 : decode (cod 148) 21 = .ok (.getfield 70, 3) := by decide +kernel
theorem r148_21 (l0 l1 l2 l3 : AV) (xg xi : Nat) (st : List AV) (M : Mm) : run 148 21 [l0, l1, l2, l3] (aR xg 12 xi :: st) M = run 148 24 [l0, l1, l2, l3] (aI (M xg 12 xi 12) :: st) M := e_gfi d148_21 rfl rfl rfl
theorem d148_24 : decode (cod 148) 24 = .ok (.goto 5, 3) := by decide +kernel
theorem r148_24 (l0 l1 l2 l3 : AV) (st : List AV) (M : Mm) : run 148 24 [l0, l1, l2, l3] st M = run 148 29 [l0, l1, l2, l3] st M := e_goto 29 d148_24 (by decide)
theorem d148_27 : decode (cod 148) 27 = .ok (.bipush (-9), 2) := by decide +kernel
theorem r148_27 (l0 l1 l2 l3 : AV) (st : List AV) (M : Mm) : run 148 27 [l0, l1, l2, l3] st M = run 148 29 [l0, l1, l2, l3] (aI (-9) :: st) M := e_bipush (-9) d148_27 (by decide +kernel)
theorem d148_29 : decode (cod 148) 29 = .ok (.putfield 70, 3) := by decide +kernel
theorem r148_29 (l0 l1 l2 l3 : AV) (v : Int32) (xg xi : Nat) (st : List AV) (M : Mm) : run 148 29 [l0, l1, l2, l3] (aI v :: aR xg 12 xi :: st) M = run 148 32 [l0, l1, l2, l3] st (wr M xg 12 xi 12 v) := e_pfi d148_29 rfl rfl rfl rfl
theorem d148_32 : decode (cod 148) 32 = .ok (.iconst 0, 1) := by decide +kernel
theorem r148_32 (l0 l1 l2 l3 : AV) (st : List AV) (M : Mm) : run 148 32 [l0, l1, l2, l3] st M = run 148 33 [l0, l1, l2, l3] (aI 0 :: st) M := e_iconst 0 d148_32 (by decide +kernel)
theorem d148_33 : decode (cod 148) 33 = .ok (.istore_n 3, 1) := by decide +kernel
theorem r148_33 (l0 l1 l2 l3 : AV) (x : Int32) (st : List AV) (M : Mm) : run 148 33 [l0, l1, l2, l3] (aI x :: st) M = run 148 34 [l0, l1, l2, aI x] st M := e_istn [l0, l1, l2, aI x] d148_33 rfl rfl
theorem d148_34 : decode (cod 148) 34 = .ok (.iload_n 3, 1) := by decide +kernel
theorem r148_34 (l0 l1 l2 : AV) (x : Int32) (st : List AV) (M : Mm) : run 148 34 [l0, l1, l2, aI x] st M = run 148 35 [l0, l1, l2, aI x] (aI x :: st) M := e_ildn d148_34 rfl
theorem d148_35 : decode (cod 148) 35 = .ok (.iconst 3, 1) := by decide +kernel
theorem r148_35 (l0 l1 l2 l3 : AV) (st : List AV) (M : Mm) : run 148 35 [l0, l1, l2, l3] st M = run 148 36 [l0, l1, l2, l3] (aI 3 :: st) M := e_iconst 3 d148_35 (by decide +kernel)
theorem d148_36 : decode (cod 148) 36 = .ok (.if_icmp .ge 16, 3) := by decide +kernel
theorem r148_36 (l0 l1 l2 l3 : AV) (a b : Int32) (st : List AV) (M : Mm) : run 148 36 [l0, l1, l2, l3] (aI b :: aI a :: st) M = if a < b then run 148 39 [l0, l1, l2, l3] st M else run 148 52 [l0, l1, l2, l3] st M := e_ge2 52 d148_36 (by decide)
theorem d148_39 : decode (cod 148) 39 = .ok (.aload_n 0, 1) := by decide +kernel
theorem r148_39 (l1 l2 l3 : AV) (xg xi : Nat) (st : List AV) (M : Mm) : run 148 39 [aR xg 12 xi, l1, l2, l3] st M = run 148 40 [aR xg 12 xi, l1, l2, l3] (aR xg 12 xi :: st) M := e_aldn d148_39 rfl
theorem d148_40 : decode (cod 148) 40 = .ok (.getfield 28, 3) := by decide +kernel
theorem r148_40 (l0 l1 l2 l3 : AV) (xg xi : Nat) (st : List AV) (M : Mm) : run 148 40 [l0, l1, l2, l3] (aR xg 12 xi :: st) M = run 148 43 [l0, l1, l2, l3] (aR 4 19 0 :: st) M := e_gfr (fun g => (4, 19, 0)) d148_40 rfl rfl rfl
theorem d148_43 : decode (cod 148) 43 = .ok (.iload_n 3, 1) := by decide +kernel
theorem r148_43 (l0 l1 l2 : AV) (x : Int32) (st : List AV) (M : Mm) : run 148 43 [l0, l1, l2, aI x] st M = run 148 44 [l0, l1, l2, aI x] (aI x :: st) M := e_ildn d148_43 rfl
theorem d148_44 : decode (cod 148) 44 = .ok (.iconst 0, 1) := by decide +kernel
theorem r148_44 (l0 l1 l2 l3 : AV) (st : List AV) (M : Mm) : run 148 44 [l0, l1, l2, l3] st M = run 148 45 [l0, l1, l2, l3] (aI 0 :: st) M := e_iconst 0 d148_44 (by decide +kernel)
theorem d148_45 : decode (cod 148) 45 = .ok (.iastore, 1) := by decide +kernel
theorem r148_45 (l0 l1 l2 l3 : AV) (v i : Int32) (xg xi : Nat) (st : List AV) (M : Mm) : run 148 45 [l0, l1, l2, l3] (aI v :: aI i :: aR xg 19 xi :: st) M = if vpB i 3 = true then run 148 46 [l0, l1, l2, l3] st (wr M xg 19 xi i.toNatClampNeg v) else none := e_ias d148_45 rfl rfl
theorem d148_46 : decode (cod 148) 46 = .ok (.iinc 3 1, 3) := by decide +kernel
theorem r148_46 (l0 l1 l2 : AV) (x : Int32) (st : List AV) (M : Mm) : run 148 46 [l0, l1, l2, aI x] st M = run 148 49 [l0, l1, l2, aI (x + 1)] st M := e_iinc 1 [l0, l1, l2, aI (x + 1)] d148_46 (by decide +kernel) rfl rfl
theorem d148_49 : decode (cod 148) 49 = .ok (.goto (-15), 3) := by decide +kernel
theorem r148_49 (l0 l1 l2 l3 : AV) (st : List AV) (M : Mm) : run 148 49 [l0, l1, l2, l3] st M = run 148 34 [l0, l1, l2, l3] st M := e_goto 34 d148_49 (by decide)
theorem d148_52 : decode (cod 148) 52 = .ok (.aload_n 0, 1) := by decide +kernel
theorem r148_52 (l1 l2 l3 : AV) (xg xi : Nat) (st : List AV) (M : Mm) : run 148 52 [aR xg 12 xi, l1, l2, l3] st M = run 148 53 [aR xg 12 xi, l1, l2, l3] (aR xg 12 xi :: st) M := e_aldn d148_52 rfl
theorem d148_53 : decode (cod 148) 53 = .ok (.iload_n 2, 1) := by decide +kernel
theorem r148_53 (l0 l1 l3 : AV) (x : Int32) (st : List AV) (M : Mm) : run 148 53 [l0, l1, aI x, l3] st M = run 148 54 [l0, l1, aI x, l3] (aI x :: st) M := e_ildn d148_53 rfl
theorem d148_54 : decode (cod 148) 54 = .ok (.invokevirtual 272, 3) := by decide +kernel
theorem r148_54 (l0 l1 l2 l3 : AV) (a0g a0i : Nat) (a1 : Int32) (M : Mm) : run 148 54 [l0, l1, l2, l3] [aI a1, aR a0g 12 a0i] M = cbV (call 127 [aR a0g 12 a0i, aI a1] M) (fun M => run 148 57 [l0, l1, l2, l3] [] M) := call_V (n := 2) rfl false d148_54 rfl rfl rfl rfl rfl rfl rfl
theorem d148_57 : decode (cod 148) 57 = .ok (.aload_n 0, 1) := by decide +kernel
theorem r148_57 (l1 l2 l3 : AV) (xg xi : Nat) (st : List AV) (M : Mm) : run 148 57 [aR xg 12 xi, l1, l2, l3] st M = run 148 58 [aR xg 12 xi, l1, l2, l3] (aR xg 12 xi :: st) M := e_aldn d148_57 rfl
theorem d148_58 : decode (cod 148) 58 = .ok (.iconst 1, 1) := by decide +kernel
theorem r148_58 (l0 l1 l2 l3 : AV) (st : List AV) (M : Mm) : run 148 58 [l0, l1, l2, l3] st M = run 148 59 [l0, l1, l2, l3] (aI 1 :: st) M := e_iconst 1 d148_58 (by decide +kernel)
theorem d148_59 : decode (cod 148) 59 = .ok (.iconst 0, 1) := by decide +kernel
theorem r148_59 (l0 l1 l2 l3 : AV) (st : List AV) (M : Mm) : run 148 59 [l0, l1, l2, l3] st M = run 148 60 [l0, l1, l2, l3] (aI 0 :: st) M := e_iconst 0 d148_59 (by decide +kernel)
theorem d148_60 : decode (cod 148) 60 = .ok (.invokevirtual 150, 3) := by decide +kernel
theorem r148_60 (l0 l1 l2 l3 : AV) (a0g a0i : Nat) (a1 : Int32) (a2 : Int32) (M : Mm) : run 148 60 [l0, l1, l2, l3] [aI a2, aI a1, aR a0g 12 a0i] M = cbV (call 103 [aR a0g 12 a0i, aI a1, aI a2] M) (fun M => run 148 63 [l0, l1, l2, l3] [] M) := call_V (n := 3) rfl false d148_60 rfl rfl rfl rfl rfl rfl rfl
theorem d148_63 : decode (cod 148) 63 = .ok (.aload_n 0, 1) := by decide +kernel
theorem r148_63 (l1 l2 l3 : AV) (xg xi : Nat) (st : List AV) (M : Mm) : run 148 63 [aR xg 12 xi, l1, l2, l3] st M = run 148 64 [aR xg 12 xi, l1, l2, l3] (aR xg 12 xi :: st) M := e_aldn d148_63 rfl
theorem d148_64 : decode (cod 148) 64 = .ok (.invokevirtual 245, 3) := by decide +kernel
theorem r148_64 (l0 l1 l2 l3 : AV) (a0g a0i : Nat) (M : Mm) : run 148 64 [l0, l1, l2, l3] [aR a0g 12 a0i] M = cbI (call 125 [aR a0g 12 a0i] M) (fun v M => run 148 67 [l0, l1, l2, l3] [aI v] M) := call_I (n := 1) rfl false d148_64 rfl rfl rfl rfl rfl rfl rfl
theorem d148_67 : decode (cod 148) 67 = .ok (.ireturn, 1) := by decide +kernel
theorem r148_67 (l0 l1 l2 l3 : AV) (v : Int32) (M : Mm) : run 148 67 [l0, l1, l2, l3] [aI v] M = some (some v, M) := e_iret d148_67 rfl
theorem c149 (g0 i0 : Nat) (x1 : Int32) (M : Mm) : call 149 [aR g0 12 i0, aI x1] M = run 149 0 [aR g0 12 i0, aI x1, none, none, none] [] M := call_run 149 _ _
theorem d149_0 : decode (cod 149) 0 = .ok (.iload_n 1, 1) := by decide +kernel
theorem r149_0 (l0 l2 l3 l4 : AV) (x : Int32) (st : List AV) (M : Mm) : run 149 0 [l0, aI x, l2, l3, l4] st M = run 149 1 [l0, aI x, l2, l3, l4] (aI x :: st) M := e_ildn d149_0 rfl
theorem d149_1 : decode (cod 149) 1 = .ok (.iconst 0, 1) := by decide +kernel
theorem r149_1 (l0 l1 l2 l3 l4 : AV) (st : List AV) (M : Mm) : run 149 1 [l0, l1, l2, l3, l4] st M = run 149 2 [l0, l1, l2, l3, l4] (aI 0 :: st) M := e_iconst 0 d149_1 (by decide +kernel)
theorem d149_2 : decode (cod 149) 2 = .ok (.sipush 240, 3) := by decide +kernel
theorem r149_2 (l0 l1 l2 l3 l4 : AV) (st : List AV) (M : Mm) : run 149 2 [l0, l1, l2, l3, l4] st M = run 149 5 [l0, l1, l2, l3, l4] (aI 240 :: st) M := e_sipush 240 d149_2 (by decide +kernel)
theorem d149_5 : decode (cod 149) 5 = .ok (.invokestatic 82, 3) := by decide +kernel
theorem r149_5 (l0 l1 l2 l3 l4 : AV) (a0 : Int32) (a1 : Int32) (a2 : Int32) (M : Mm) : run 149 5 [l0, l1, l2, l3, l4] [aI a2, aI a1, aI a0] M = cbI (call 84 [aI a0, aI a1, aI a2] M) (fun v M => run 149 8 [l0, l1, l2, l3, l4] [aI v] M) := call_I (n := 3) rfl true d149_5 rfl rfl rfl rfl rfl rfl rfl
theorem d149_8 : decode (cod 149) 8 = .ok (.istore_n 2, 1) := by decide +kernel
theorem r149_8 (l0 l1 l2 l3 l4 : AV) (x : Int32) (st : List AV) (M : Mm) : run 149 8 [l0, l1, l2, l3, l4] (aI x :: st) M = run 149 9 [l0, l1, aI x, l3, l4] st M := e_istn [l0, l1, aI x, l3, l4] d149_8 rfl rfl
theorem d149_9 : decode (cod 149) 9 = .ok (.iload_n 2, 1) := by decide +kernel
theorem r149_9 (l0 l1 l3 l4 : AV) (x : Int32) (st : List AV) (M : Mm) : run 149 9 [l0, l1, aI x, l3, l4] st M = run 149 10 [l0, l1, aI x, l3, l4] (aI x :: st) M := e_ildn d149_9 rfl
theorem d149_10 : decode (cod 149) 10 = .ok (.ifCond .eq 9, 3) := by decide +kernel
theorem r149_10 (l0 l1 l2 l3 l4 : AV) (a : Int32) (st : List AV) (M : Mm) : run 149 10 [l0, l1, l2, l3, l4] (aI a :: st) M = if a = 0 then run 149 19 [l0, l1, l2, l3, l4] st M else run 149 13 [l0, l1, l2, l3, l4] st M := e_eq1 19 d149_10 (by decide)
theorem d149_13 : decode (cod 149) 13 = .ok (.aload_n 0, 1) := by decide +kernel
theorem r149_13 (l1 l2 l3 l4 : AV) (xg xi : Nat) (st : List AV) (M : Mm) : run 149 13 [aR xg 12 xi, l1, l2, l3, l4] st M = run 149 14 [aR xg 12 xi, l1, l2, l3, l4] (aR xg 12 xi :: st) M := e_aldn d149_13 rfl
theorem d149_14 : decode (cod 149) 14 = .ok (.iload_n 2, 1) := by decide +kernel
theorem r149_14 (l0 l1 l3 l4 : AV) (x : Int32) (st : List AV) (M : Mm) : run 149 14 [l0, l1, aI x, l3, l4] st M = run 149 15 [l0, l1, aI x, l3, l4] (aI x :: st) M := e_ildn d149_14 rfl
theorem d149_15 : decode (cod 149) 15 = .ok (.invokevirtual 89, 3) := by decide +kernel
theorem r149_15 (l0 l1 l2 l3 l4 : AV) (a0g a0i : Nat) (a1 : Int32) (M : Mm) : run 149 15 [l0, l1, l2, l3, l4] [aI a1, aR a0g 12 a0i] M = cbI (call 81 [aR a0g 12 a0i, aI a1] M) (fun v M => run 149 18 [l0, l1, l2, l3, l4] [aI v] M) := call_I (n := 2) rfl false d149_15 rfl rfl rfl rfl rfl rfl rfl
theorem d149_18 : decode (cod 149) 18 = .ok (.ireturn, 1) := by decide +kernel
theorem r149_18 (l0 l1 l2 l3 l4 : AV) (v : Int32) (M : Mm) : run 149 18 [l0, l1, l2, l3, l4] [aI v] M = some (some v, M) := e_iret d149_18 rfl
theorem d149_19 : decode (cod 149) 19 = .ok (.iconst 0, 1) := by decide +kernel
theorem r149_19 (l0 l1 l2 l3 l4 : AV) (st : List AV) (M : Mm) : run 149 19 [l0, l1, l2, l3, l4] st M = run 149 20 [l0, l1, l2, l3, l4] (aI 0 :: st) M := e_iconst 0 d149_19 (by decide +kernel)
theorem d149_20 : decode (cod 149) 20 = .ok (.istore_n 3, 1) := by decide +kernel
theorem r149_20 (l0 l1 l2 l3 l4 : AV) (x : Int32) (st : List AV) (M : Mm) : run 149 20 [l0, l1, l2, l3, l4] (aI x :: st) M = run 149 21 [l0, l1, l2, aI x, l4] st M := e_istn [l0, l1, l2, aI x, l4] d149_20 rfl rfl
theorem d149_21 : decode (cod 149) 21 = .ok (.iconst 1, 1) := by decide +kernel
theorem r149_21 (l0 l1 l2 l3 l4 : AV) (st : List AV) (M : Mm) : run 149 21 [l0, l1, l2, l3, l4] st M = run 149 22 [l0, l1, l2, l3, l4] (aI 1 :: st) M := e_iconst 1 d149_21 (by decide +kernel)
theorem d149_22 : decode (cod 149) 22 = .ok (.istore 4, 2) := by decide +kernel
theorem r149_22 (l0 l1 l2 l3 l4 : AV) (x : Int32) (st : List AV) (M : Mm) : run 149 22 [l0, l1, l2, l3, l4] (aI x :: st) M = run 149 24 [l0, l1, l2, l3, aI x] st M := e_ist [l0, l1, l2, l3, aI x] d149_22 rfl rfl
theorem d149_24 : decode (cod 149) 24 = .ok (.iload 4, 2) := by decide +kernel
theorem r149_24 (l0 l1 l2 l3 : AV) (x : Int32) (st : List AV) (M : Mm) : run 149 24 [l0, l1, l2, l3, aI x] st M = run 149 26 [l0, l1, l2, l3, aI x] (aI x :: st) M := e_ild d149_24 rfl
theorem d149_26 : decode (cod 149) 26 = .ok (.aload_n 0, 1) := by decide +kernel
theorem r149_26 (l1 l2 l3 l4 : AV) (xg xi : Nat) (st : List AV) (M : Mm) : run 149 26 [aR xg 12 xi, l1, l2, l3, l4] st M = run 149 27 [aR xg 12 xi, l1, l2, l3, l4] (aR xg 12 xi :: st) M := e_aldn d149_26 rfl
theorem d149_27 : decode (cod 149) 27 = .ok (.getfield 79, 3) := by decide +kernel
theorem r149_27 (l0 l1 l2 l3 l4 : AV) (xg xi : Nat) (st : List AV) (M : Mm) : run 149 27 [l0, l1, l2, l3, l4] (aR xg 12 xi :: st) M = run 149 30 [l0, l1, l2, l3, l4] (aI (M xg 12 xi 10) :: st) M := e_gfi d149_27 rfl rfl rfl
theorem d149_30 : decode (cod 149) 30 = .ok (.if_icmp .gt 26, 3) := by decide +kernel
theorem r149_30 (l0 l1 l2 l3 l4 : AV) (a b : Int32) (st : List AV) (M : Mm) : run 149 30 [l0, l1, l2, l3, l4] (aI b :: aI a :: st) M = if b < a then run 149 56 [l0, l1, l2, l3, l4] st M else run 149 33 [l0, l1, l2, l3, l4] st M := e_gt2 56 d149_30 (by decide)
theorem d149_33 : decode (cod 149) 33 = .ok (.aload_n 0, 1) := by decide +kernel
theorem r149_33 (l1 l2 l3 l4 : AV) (xg xi : Nat) (st : List AV) (M : Mm) : run 149 33 [aR xg 12 xi, l1, l2, l3, l4] st M = run 149 34 [aR xg 12 xi, l1, l2, l3, l4] (aR xg 12 xi :: st) M := e_aldn d149_33 rfl
theorem d149_34 : decode (cod 149) 34 = .ok (.iload 4, 2) := by decide +kernel
theorem r149_34 (l0 l1 l2 l3 : AV) (x : Int32) (st : List AV) (M : Mm) : run 149 34 [l0, l1, l2, l3, aI x] st M = run 149 36 [l0, l1, l2, l3, aI x] (aI x :: st) M := e_ild d149_34 rfl
theorem d149_36 : decode (cod 149) 36 = .ok (.iload_n 1, 1) := by decide +kernel
theorem r149_36 (l0 l2 l3 l4 : AV) (x : Int32) (st : List AV) (M : Mm) : run 149 36 [l0, aI x, l2, l3, l4] st M = run 149 37 [l0, aI x, l2, l3, l4] (aI x :: st) M := e_ildn d149_36 rfl
theorem d149_37 : decode (cod 149) 37 = .ok (.invokevirtual 296, 3) := by decide +kernel
theorem r149_37 (l0 l1 l2 l3 l4 : AV) (a0g a0i : Nat) (a1 : Int32) (a2 : Int32) (M : Mm) : run 149 37 [l0, l1, l2, l3, l4] [aI a2, aI a1, aR a0g 12 a0i] M = cbI (call 148 [aR a0g 12 a0i, aI a1, aI a2] M) (fun v M => run 149 40 [l0, l1, l2, l3, l4] [aI v] M) := call_I (n := 3) rfl false d149_37 rfl rfl rfl rfl rfl rfl rfl
theorem d149_40 : decode (cod 149) 40 = .ok (.ifCond .ne 8, 3) := by decide +kernel
theorem r149_40 (l0 l1 l2 l3 l4 : AV) (a : Int32) (st : List AV) (M : Mm) : run 149 40 [l0, l1, l2, l3, l4] (aI a :: st) M = if a = 0 then run 149 43 [l0, l1, l2, l3, l4] st M else run 149 48 [l0, l1, l2, l3, l4] st M := e_ne1 48 d149_40 (by decide)
theorem d149_43 : decode (cod 149) 43 = .ok (.iload 4, 2) := by decide +kernel
theorem r149_43 (l0 l1 l2 l3 : AV) (x : Int32) (st : List AV) (M : Mm) : run 149 43 [l0, l1, l2, l3, aI x] st M = run 149 45 [l0, l1, l2, l3, aI x] (aI x :: st) M := e_ild d149_43 rfl
theorem d149_45 : decode (cod 149) 45 = .ok (.goto 4, 3) := by decide +kernel
theorem r149_45 (l0 l1 l2 l3 l4 : AV) (st : List AV) (M : Mm) : run 149 45 [l0, l1, l2, l3, l4] st M = run 149 49 [l0, l1, l2, l3, l4] st M := e_goto 49 d149_45 (by decide)
theorem d149_48 : decode (cod 149) 48 = .ok (.iload_n 3, 1) := by decide +kernel
theorem r149_48 (l0 l1 l2 l4 : AV) (x : Int32) (st : List AV) (M : Mm) : run 149 48 [l0, l1, l2, aI x, l4] st M = run 149 49 [l0, l1, l2, aI x, l4] (aI x :: st) M := e_ildn d149_48 rfl
theorem d149_49 : decode (cod 149) 49 = .ok (.istore_n 3, 1) := by decide +kernel
theorem r149_49 (l0 l1 l2 l3 l4 : AV) (x : Int32) (st : List AV) (M : Mm) : run 149 49 [l0, l1, l2, l3, l4] (aI x :: st) M = run 149 50 [l0, l1, l2, aI x, l4] st M := e_istn [l0, l1, l2, aI x, l4] d149_49 rfl rfl
theorem d149_50 : decode (cod 149) 50 = .ok (.iinc 4 1, 3) := by decide +kernel
theorem r149_50 (l0 l1 l2 l3 : AV) (x : Int32) (st : List AV) (M : Mm) : run 149 50 [l0, l1, l2, l3, aI x] st M = run 149 53 [l0, l1, l2, l3, aI (x + 1)] st M := e_iinc 1 [l0, l1, l2, l3, aI (x + 1)] d149_50 (by decide +kernel) rfl rfl
theorem d149_53 : decode (cod 149) 53 = .ok (.goto (-29), 3) := by decide +kernel
theorem r149_53 (l0 l1 l2 l3 l4 : AV) (st : List AV) (M : Mm) : run 149 53 [l0, l1, l2, l3, l4] st M = run 149 24 [l0, l1, l2, l3, l4] st M := e_goto 24 d149_53 (by decide)
theorem d149_56 : decode (cod 149) 56 = .ok (.iload_n 3, 1) := by decide +kernel
theorem r149_56 (l0 l1 l2 l4 : AV) (x : Int32) (st : List AV) (M : Mm) : run 149 56 [l0, l1, l2, aI x, l4] st M = run 149 57 [l0, l1, l2, aI x, l4] (aI x :: st) M := e_ildn d149_56 rfl
theorem d149_57 : decode (cod 149) 57 = .ok (.ireturn, 1) := by decide +kernel
theorem r149_57 (l0 l1 l2 l3 l4 : AV) (v : Int32) (M : Mm) : run 149 57 [l0, l1, l2, l3, l4] [aI v] M = some (some v, M) := e_iret d149_57 rfl
theorem c150 (g0 i0 : Nat) (x1 : Int32) (M : Mm) : call 150 [aR g0 12 i0, aI x1] M = run 150 0 [aR g0 12 i0, aI x1] [] M := call_run 150 _ _
theorem d150_0 : decode (cod 150) 0 = .ok (.iload_n 1, 1) := by decide +kernel
theorem r150_0 (l0 : AV) (x : Int32) (st : List AV) (M : Mm) : run 150 0 [l0, aI x] st M = run 150 1 [l0, aI x] (aI x :: st) M := e_ildn d150_0 rfl
theorem d150_1 : decode (cod 150) 1 = .ok (.iconst 0, 1) := by decide +kernel
theorem r150_1 (l0 l1 : AV) (st : List AV) (M : Mm) : run 150 1 [l0, l1] st M = run 150 2 [l0, l1] (aI 0 :: st) M := e_iconst 0 d150_1 (by decide +kernel)
theorem d150_2 : decode (cod 150) 2 = .ok (.iconst 1, 1) := by decide +kernel
theorem r150_2 (l0 l1 : AV) (st : List AV) (M : Mm) : run 150 2 [l0, l1] st M = run 150 3 [l0, l1] (aI 1 :: st) M := e_iconst 1 d150_2 (by decide +kernel)
theorem d150_3 : decode (cod 150) 3 = .ok (.invokestatic 100, 3) := by decide +kernel
theorem r150_3 (l0 l1 : AV) (a0 : Int32) (a1 : Int32) (a2 : Int32) (M : Mm) : run 150 3 [l0, l1] [aI a2, aI a1, aI a0] M = cbI (call 83 [aI a0, aI a1, aI a2] M) (fun v M => run 150 6 [l0, l1] [aI v] M) := call_I (n := 3) rfl true d150_3 rfl rfl rfl rfl rfl rfl rfl
theorem d150_6 : decode (cod 150) 6 = .ok (.ifCond .ne 10, 3) := by decide +kernel
theorem r150_6 (l0 l1 : AV) (a : Int32) (st : List AV) (M : Mm) : run 150 6 [l0, l1] (aI a :: st) M = if a = 0 then run 150 9 [l0, l1] st M else run 150 16 [l0, l1] st M := e_ne1 16 d150_6 (by decide)
theorem d150_9 : decode (cod 150) 9 = .ok (.aload_n 0, 1) := by decide +kernel
theorem r150_9 (l1 : AV) (xg xi : Nat) (st : List AV) (M : Mm) : run 150 9 [aR xg 12 xi, l1] st M = run 150 10 [aR xg 12 xi, l1] (aR xg 12 xi :: st) M := e_aldn d150_9 rfl
theorem d150_10 : decode (cod 150) 10 = .ok (.bipush (-2), 2) := by decide +kernel
theorem r150_10 (l0 l1 : AV) (st : List AV) (M : Mm) : run 150 10 [l0, l1] st M = run 150 12 [l0, l1] (aI (-2) :: st) M := e_bipush (-2) d150_10 (by decide +kernel)
theorem d150_12 : decode (cod 150) 12 = .ok (.invokevirtual 89, 3) := by decide +kernel
theorem r150_12 (l0 l1 : AV) (a0g a0i : Nat) (a1 : Int32) (M : Mm) : run 150 12 [l0, l1] [aI a1, aR a0g 12 a0i] M = cbI (call 81 [aR a0g 12 a0i, aI a1] M) (fun v M => run 150 15 [l0, l1] [aI v] M) := call_I (n := 2) rfl false d150_12 rfl rfl rfl rfl rfl rfl rfl
theorem d150_15 : decode (cod 150) 15 = .ok (.ireturn, 1) := by decide +kernel
theorem r150_15 (l0 l1 : AV) (v : Int32) (M : Mm) : run 150 15 [l0, l1] [aI v] M = some (some v, M) := e_iret d150_15 rfl
theorem d150_16 : decode (cod 150) 16 = .ok (.aload_n 0, 1) := by decide +kernel
theorem r150_16 (l1 : AV) (xg xi : Nat) (st : List AV) (M : Mm) : run 150 16 [aR xg 12 xi, l1] st M = run 150 17 [aR xg 12 xi, l1] (aR xg 12 xi :: st) M := e_aldn d150_16 rfl
theorem d150_17 : decode (cod 150) 17 = .ok (.sipush 240, 3) := by decide +kernel
theorem r150_17 (l0 l1 : AV) (st : List AV) (M : Mm) : run 150 17 [l0, l1] st M = run 150 20 [l0, l1] (aI 240 :: st) M := e_sipush 240 d150_17 (by decide +kernel)
theorem d150_20 : decode (cod 150) 20 = .ok (.invokevirtual 284, 3) := by decide +kernel
theorem r150_20 (l0 l1 : AV) (a0g a0i : Nat) (a1 : Int32) (M : Mm) : run 150 20 [l0, l1] [aI a1, aR a0g 12 a0i] M = cbV (call 130 [aR a0g 12 a0i, aI a1] M) (fun M => run 150 23 [l0, l1] [] M) := call_V (n := 2) rfl false d150_20 rfl rfl rfl rfl rfl rfl rfl
theorem d150_23 : decode (cod 150) 23 = .ok (.iload_n 1, 1) := by decide +kernel
theorem r150_23 (l0 : AV) (x : Int32) (st : List AV) (M : Mm) : run 150 23 [l0, aI x] st M = run 150 24 [l0, aI x] (aI x :: st) M := e_ildn d150_23 rfl
theorem d150_24 : decode (cod 150) 24 = .ok (.ifCond .ne 10, 3) := by decide +kernel
theorem r150_24 (l0 l1 : AV) (a : Int32) (st : List AV) (M : Mm) : run 150 24 [l0, l1] (aI a :: st) M = if a = 0 then run 150 27 [l0, l1] st M else run 150 34 [l0, l1] st M := e_ne1 34 d150_24 (by decide)
theorem d150_27 : decode (cod 150) 27 = .ok (.aload_n 0, 1) := by decide +kernel
theorem r150_27 (l1 : AV) (xg xi : Nat) (st : List AV) (M : Mm) : run 150 27 [aR xg 12 xi, l1] st M = run 150 28 [aR xg 12 xi, l1] (aR xg 12 xi :: st) M := e_aldn d150_27 rfl
theorem d150_28 : decode (cod 150) 28 = .ok (.getfield 254, 3) := by decide +kernel
theorem r150_28 (l0 l1 : AV) (xg xi : Nat) (st : List AV) (M : Mm) : run 150 28 [l0, l1] (aR xg 12 xi :: st) M = run 150 31 [l0, l1] (aI (M xg 12 xi 35) :: st) M := e_gfi d150_28 rfl rfl rfl
theorem d150_31 : decode (cod 150) 31 = .ok (.goto 7, 3) := by decide +kernel
theorem r150_31 (l0 l1 : AV) (st : List AV) (M : Mm) : run 150 31 [l0, l1] st M = run 150 38 [l0, l1] st M := e_goto 38 d150_31 (by decide)
theorem d150_34 : decode (cod 150) 34 = .ok (.aload_n 0, 1) := by decide +kernel
theorem r150_34 (l1 : AV) (xg xi : Nat) (st : List AV) (M : Mm) : run 150 34 [aR xg 12 xi, l1] st M = run 150 35 [aR xg 12 xi, l1] (aR xg 12 xi :: st) M := e_aldn d150_34 rfl
theorem d150_35 : decode (cod 150) 35 = .ok (.getfield 257, 3) := by decide +kernel
theorem r150_35 (l0 l1 : AV) (xg xi : Nat) (st : List AV) (M : Mm) : run 150 35 [l0, l1] (aR xg 12 xi :: st) M = run 150 38 [l0, l1] (aI (M xg 12 xi 36) :: st) M := e_gfi d150_35 rfl rfl rfl
theorem d150_38 : decode (cod 150) 38 = .ok (.ireturn, 1) := by decide +kernel
theorem r150_38 (l0 l1 : AV) (v : Int32) (M : Mm) : run 150 38 [l0, l1] [aI v] M = some (some v, M) := e_iret d150_38 rfl
theorem c151 (g0 i0 : Nat) (x1 : Int32) (x2 : Int32) (M : Mm) : call 151 [aR g0 12 i0, aI x1, aI x2] M = run 151 0 [aR g0 12 i0, aI x1, aI x2] [] M := call_run 151 _ _
theorem d151_0 : decode (cod 151) 0 = .ok (.aload_n 0, 1) := by decide +kernel
theorem r151_0 (l1 l2 : AV) (xg xi : Nat) (st : List AV) (M : Mm) : run 151 0 [aR xg 12 xi, l1, l2] st M = run 151 1 [aR xg 12 xi, l1, l2] (aR xg 12 xi :: st) M := e_aldn d151_0 rfl
theorem d151_1 : decode (cod 151) 1 = .ok (.iload_n 1, 1) := by decide +kernel
theorem r151_1 (l0 l2 : AV) (x : Int32) (st : List AV) (M : Mm) : run 151 1 [l0, aI x, l2] st M = run 151 2 [l0, aI x, l2] (aI x :: st) M := e_ildn d151_1 rfl
theorem d151_2 : decode (cod 151) 2 = .ok (.putfield 75, 3) := by decide +kernel
theorem r151_2 (l0 l1 l2 : AV) (v : Int32) (xg xi : Nat) (st : List AV) (M : Mm) : run 151 2 [l0, l1, l2] (aI v :: aR xg 12 xi :: st) M = run 151 5 [l0, l1, l2] st (wr M xg 12 xi 38 v) := e_pfi d151_2 rfl rfl rfl rfl
theorem d151_5 : decode (cod 151) 5 = .ok (.aload_n 0, 1) := by decide +kernel
theorem r151_5 (l1 l2 : AV) (xg xi : Nat) (st : List AV) (M : Mm) : run 151 5 [aR xg 12 xi, l1, l2] st M = run 151 6 [aR xg 12 xi, l1, l2] (aR xg 12 xi :: st) M := e_aldn d151_5 rfl
theorem d151_6 : decode (cod 151) 6 = .ok (.iload_n 2, 1) := by decide +kernel
theorem r151_6 (l0 l1 : AV) (x : Int32) (st : List AV) (M : Mm) : run 151 6 [l0, l1, aI x] st M = run 151 7 [l0, l1, aI x] (aI x :: st) M := e_ildn d151_6 rfl
theorem d151_7 : decode (cod 151) 7 = .ok (.invokevirtual 284, 3) := by decide +kernel
theorem r151_7 (l0 l1 l2 : AV) (a0g a0i : Nat) (a1 : Int32) (M : Mm) : run 151 7 [l0, l1, l2] [aI a1, aR a0g 12 a0i] M = cbV (call 130 [aR a0g 12 a0i, aI a1] M) (fun M => run 151 10 [l0, l1, l2] [] M) := call_V (n := 2) rfl false d151_7 rfl rfl rfl rfl rfl rfl rfl
theorem d151_10 : decode (cod 151) 10 = .ok (.aload_n 0, 1) := by decide +kernel
theorem r151_10 (l1 l2 : AV) (xg xi : Nat) (st : List AV) (M : Mm) : run 151 10 [aR xg 12 xi, l1, l2] st M = run 151 11 [aR xg 12 xi, l1, l2] (aR xg 12 xi :: st) M := e_aldn d151_10 rfl
theorem d151_11 : decode (cod 151) 11 = .ok (.ldc 74, 2) := by decide +kernel
theorem r151_11 (l0 l1 l2 : AV) (st : List AV) (M : Mm) : run 151 11 [l0, l1, l2] st M = run 151 13 [l0, l1, l2] (aI 100000 :: st) M := e_ldc d151_11 rfl
theorem d151_13 : decode (cod 151) 13 = .ok (.putfield 75, 3) := by decide +kernel
theorem r151_13 (l0 l1 l2 : AV) (v : Int32) (xg xi : Nat) (st : List AV) (M : Mm) : run 151 13 [l0, l1, l2] (aI v :: aR xg 12 xi :: st) M = run 151 16 [l0, l1, l2] st (wr M xg 12 xi 38 v) := e_pfi d151_13 rfl rfl rfl rfl
theorem d151_16 : decode (cod 151) 16 = .ok (.aload_n 0, 1) := by decide +kernel
theorem r151_16 (l1 l2 : AV) (xg xi : Nat) (st : List AV) (M : Mm) : run 151 16 [aR xg 12 xi, l1, l2] st M = run 151 17 [aR xg 12 xi, l1, l2] (aR xg 12 xi :: st) M := e_aldn d151_16 rfl
theorem d151_17 : decode (cod 151) 17 = .ok (.getfield 242, 3) := by decide +kernel
theorem r151_17 (l0 l1 l2 : AV) (xg xi : Nat) (st : List AV) (M : Mm) : run 151 17 [l0, l1, l2] (aR xg 12 xi :: st) M = run 151 20 [l0, l1, l2] (aI (M xg 12 xi 29) :: st) M := e_gfi d151_17 rfl rfl rfl
theorem d151_20 : decode (cod 151) 20 = .ok (.ireturn, 1) := by decide +kernel
theorem r151_20 (l0 l1 l2 : AV) (v : Int32) (M : Mm) : run 151 20 [l0, l1, l2] [aI v] M = some (some v, M) := e_iret d151_20 rfl
theorem c152 (g0 i0 : Nat) (x1 : Int32) (x2 : Int32) (M : Mm) : call 152 [aR g0 12 i0, aI x1, aI x2] M = run 152 0 [aR g0 12 i0, aI x1, aI x2, none, none, none] [] M := call_run 152 _ _
theorem d152_0 : decode (cod 152) 0 = .ok (.iload_n 1, 1) := by decide +kernel
theorem r152_0 (l0 l2 l3 l4 l5 : AV) (x : Int32) (st : List AV) (M : Mm) : run 152 0 [l0, aI x, l2, l3, l4, l5] st M = run 152 1 [l0, aI x, l2, l3, l4, l5] (aI x :: st) M := e_ildn d152_0 rfl
theorem d152_1 : decode (cod 152) 1 = .ok (.iconst 0, 1) := by decide +kernel
theorem r152_1 (l0 l1 l2 l3 l4 l5 : AV) (st : List AV) (M : Mm) : run 152 1 [l0, l1, l2, l3, l4, l5] st M = run 152 2 [l0, l1, l2, l3, l4, l5] (aI 0 :: st) M := e_iconst 0 d152_1 (by decide +kernel)
theorem d152_2 : decode (cod 152) 2 = .ok (.bipush 60, 2) := by decide +kernel
theorem r152_2 (l0 l1 l2 l3 l4 l5 : AV) (st : List AV) (M : Mm) : run 152 2 [l0, l1, l2, l3, l4, l5] st M = run 152 4 [l0, l1, l2, l3, l4, l5] (aI 60 :: st) M := e_bipush 60 d152_2 (by decide +kernel)
theorem d152_4 : decode (cod 152) 4 = .ok (.invokestatic 82, 3) := by decide +kernel
theorem r152_4 (l0 l1 l2 l3 l4 l5 : AV) (a0 : Int32) (a1 : Int32) (a2 : Int32) (M : Mm) : run 152 4 [l0, l1, l2, l3, l4, l5] [aI a2, aI a1, aI a0] M = cbI (call 84 [aI a0, aI a1, aI a2] M) (fun v M => run 152 7 [l0, l1, l2, l3, l4, l5] [aI v] M) := call_I (n := 3) rfl true d152_4 rfl rfl rfl rfl rfl rfl rfl
theorem d152_7 : decode (cod 152) 7 = .ok (.istore_n 3, 1) := by decide +kernel
theorem r152_7 (l0 l1 l2 l3 l4 l5 : AV) (x : Int32) (st : List AV) (M : Mm) : run 152 7 [l0, l1, l2, l3, l4, l5] (aI x :: st) M = run 152 8 [l0, l1, l2, aI x, l4, l5] st M := e_istn [l0, l1, l2, aI x, l4, l5] d152_7 rfl rfl
theorem d152_8 : decode (cod 152) 8 = .ok (.iload_n 3, 1) := by decide +kernel
theorem r152_8 (l0 l1 l2 l4 l5 : AV) (x : Int32) (st : List AV) (M : Mm) : run 152 8 [l0, l1, l2, aI x, l4, l5] st M = run 152 9 [l0, l1, l2, aI x, l4, l5] (aI x :: st) M := e_ildn d152_8 rfl
theorem d152_9 : decode (cod 152) 9 = .ok (.ifCond .ne 15, 3) := by decide +kernel
theorem r152_9 (l0 l1 l2 l3 l4 l5 : AV) (a : Int32) (st : List AV) (M : Mm) : run 152 9 [l0, l1, l2, l3, l4, l5] (aI a :: st) M = if a = 0 then run 152 12 [l0, l1, l2, l3, l4, l5] st M else run 152 24 [l0, l1, l2, l3, l4, l5] st M := e_ne1 24 d152_9 (by decide)
theorem d152_12 : decode (cod 152) 12 = .ok (.iload_n 2, 1) := by decide +kernel
theorem r152_12 (l0 l1 l3 l4 l5 : AV) (x : Int32) (st : List AV) (M : Mm) : run 152 12 [l0, l1, aI x, l3, l4, l5] st M = run 152 13 [l0, l1, aI x, l3, l4, l5] (aI x :: st) M := e_ildn d152_12 rfl
theorem d152_13 : decode (cod 152) 13 = .ok (.iconst 0, 1) := by decide +kernel
theorem r152_13 (l0 l1 l2 l3 l4 l5 : AV) (st : List AV) (M : Mm) : run 152 13 [l0, l1, l2, l3, l4, l5] st M = run 152 14 [l0, l1, l2, l3, l4, l5] (aI 0 :: st) M := e_iconst 0 d152_13 (by decide +kernel)
theorem d152_14 : decode (cod 152) 14 = .ok (.iconst 1, 1) := by decide +kernel
theorem r152_14 (l0 l1 l2 l3 l4 l5 : AV) (st : List AV) (M : Mm) : run 152 14 [l0, l1, l2, l3, l4, l5] st M = run 152 15 [l0, l1, l2, l3, l4, l5] (aI 1 :: st) M := e_iconst 1 d152_14 (by decide +kernel)
theorem d152_15 : decode (cod 152) 15 = .ok (.invokestatic 100, 3) := by decide +kernel
theorem r152_15 (l0 l1 l2 l3 l4 l5 : AV) (a0 : Int32) (a1 : Int32) (a2 : Int32) (M : Mm) : run 152 15 [l0, l1, l2, l3, l4, l5] [aI a2, aI a1, aI a0] M = cbI (call 83 [aI a0, aI a1, aI a2] M) (fun v M => run 152 18 [l0, l1, l2, l3, l4, l5] [aI v] M) := call_I (n := 3) rfl true d152_15 rfl rfl rfl rfl rfl rfl rfl
theorem d152_18 : decode (cod 152) 18 = .ok (.ifCond .ne 6, 3) := by decide +kernel
theorem r152_18 (l0 l1 l2 l3 l4 l5 : AV) (a : Int32) (st : List AV) (M : Mm) : run 152 18 [l0, l1, l2, l3, l4, l5] (aI a :: st) M = if a = 0 then run 152 21 [l0, l1, l2, l3, l4, l5] st M else run 152 24 [l0, l1, l2, l3, l4, l5] st M := e_ne1 24 d152_18 (by decide)
theorem d152_21 : decode (cod 152) 21 = .ok (.bipush (-2), 2) := by decide +kernel
theorem r152_21 (l0 l1 l2 l3 l4 l5 : AV) (st : List AV) (M : Mm) : run 152 21 [l0, l1, l2, l3, l4, l5] st M = run 152 23 [l0, l1, l2, l3, l4, l5] (aI (-2) :: st) M := e_bipush (-2) d152_21 (by decide +kernel)
theorem d152_23 : decode (cod 152) 23 = .ok (.istore_n 3, 1) := by decide +kernel
theorem r152_23 (l0 l1 l2 l3 l4 l5 : AV) (x : Int32) (st : List AV) (M : Mm) : run 152 23 [l0, l1, l2, l3, l4, l5] (aI x :: st) M = run 152 24 [l0, l1, l2, aI x, l4, l5] st M := e_istn [l0, l1, l2, aI x, l4, l5] d152_23 rfl rfl
theorem d152_24 : decode (cod 152) 24 = .ok (.iload_n 3, 1) := by decide +kernel
theorem r152_24 (l0 l1 l2 l4 l5 : AV) (x : Int32) (st : List AV) (M : Mm) : run 152 24 [l0, l1, l2, aI x, l4, l5] st M = run 152 25 [l0, l1, l2, aI x, l4, l5] (aI x :: st) M := e_ildn d152_24 rfl
theorem d152_25 : decode (cod 152) 25 = .ok (.ifCond .eq 9, 3) := by decide +kernel
theorem r152_25 (l0 l1 l2 l3 l4 l5 : AV) (a : Int32) (st : List AV) (M : Mm) : run 152 25 [l0, l1, l2, l3, l4, l5] (aI a :: st) M = if a = 0 then run 152 34 [l0, l1, l2, l3, l4, l5] st M else run 152 28 [l0, l1, l2, l3, l4, l5] st M := e_eq1 34 d152_25 (by decide)
theorem d152_28 : decode (cod 152) 28 = .ok (.aload_n 0, 1) := by decide +kernel
theorem r152_28 (l1 l2 l3 l4 l5 : AV) (xg xi : Nat) (st : List AV) (M : Mm) : run 152 28 [aR xg 12 xi, l1, l2, l3, l4, l5] st M = run 152 29 [aR xg 12 xi, l1, l2, l3, l4, l5] (aR xg 12 xi :: st) M := e_aldn d152_28 rfl
theorem d152_29 : decode (cod 152) 29 = .ok (.iload_n 3, 1) := by decide +kernel
theorem r152_29 (l0 l1 l2 l4 l5 : AV) (x : Int32) (st : List AV) (M : Mm) : run 152 29 [l0, l1, l2, aI x, l4, l5] st M = run 152 30 [l0, l1, l2, aI x, l4, l5] (aI x :: st) M := e_ildn d152_29 rfl
theorem d152_30 : decode (cod 152) 30 = .ok (.invokevirtual 89, 3) := by decide +kernel
theorem r152_30 (l0 l1 l2 l3 l4 l5 : AV) (a0g a0i : Nat) (a1 : Int32) (M : Mm) : run 152 30 [l0, l1, l2, l3, l4, l5] [aI a1, aR a0g 12 a0i] M = cbI (call 81 [aR a0g 12 a0i, aI a1] M) (fun v M => run 152 33 [l0, l1, l2, l3, l4, l5] [aI v] M) := call_I (n := 2) rfl false d152_30 rfl rfl rfl rfl rfl rfl rfl
theorem d152_33 : decode (cod 152) 33 = .ok (.ireturn, 1) := by decide +kernel
theorem r152_33 (l0 l1 l2 l3 l4 l5 : AV) (v : Int32) (M : Mm) : run 152 33 [l0, l1, l2, l3, l4, l5] [aI v] M = some (some v, M) := e_iret d152_33 rfl
theorem d152_34 : decode (cod 152) 34 = .ok (.aload_n 0, 1) := by decide +kernel
theorem r152_34 (l1 l2 l3 l4 l5 : AV) (xg xi : Nat) (st : List AV) (M : Mm) : run 152 34 [aR xg 12 xi, l1, l2, l3, l4, l5] st M = run 152 35 [aR xg 12 xi, l1, l2, l3, l4, l5] (aR xg 12 xi :: st) M := e_aldn d152_34 rfl
theorem d152_35 : decode (cod 152) 35 = .ok (.iload_n 1, 1) := by decide +kernel
theorem r152_35 (l0 l2 l3 l4 l5 : AV) (x : Int32) (st : List AV) (M : Mm) : run 152 35 [l0, aI x, l2, l3, l4, l5] st M = run 152 36 [l0, aI x, l2, l3, l4, l5] (aI x :: st) M := e_ildn d152_35 rfl
theorem d152_36 : decode (cod 152) 36 = .ok (.invokevirtual 293, 3) := by decide +kernel
theorem r152_36 (l0 l1 l2 l3 l4 l5 : AV) (a0g a0i : Nat) (a1 : Int32) (M : Mm) : run 152 36 [l0, l1, l2, l3, l4, l5] [aI a1, aR a0g 12 a0i] M = cbI (call 143 [aR a0g 12 a0i, aI a1] M) (fun v M => run 152 39 [l0, l1, l2, l3, l4, l5] [aI v] M) := call_I (n := 2) rfl false d152_36 rfl rfl rfl rfl rfl rfl rfl
theorem d152_39 : decode (cod 152) 39 = .ok (.istore 4, 2) := by decide +kernel
theorem r152_39 (l0 l1 l2 l3 l4 l5 : AV) (x : Int32) (st : List AV) (M : Mm) : run 152 39 [l0, l1, l2, l3, l4, l5] (aI x :: st) M = run 152 41 [l0, l1, l2, l3, aI x, l5] st M := e_ist [l0, l1, l2, l3, aI x, l5] d152_39 rfl rfl
theorem d152_41 : decode (cod 152) 41 = .ok (.iconst 0, 1) := by decide +kernel
theorem r152_41 (l0 l1 l2 l3 l4 l5 : AV) (st : List AV) (M : Mm) : run 152 41 [l0, l1, l2, l3, l4, l5] st M = run 152 42 [l0, l1, l2, l3, l4, l5] (aI 0 :: st) M := e_iconst 0 d152_41 (by decide +kernel)
theorem d152_42 : decode (cod 152) 42 = .ok (.istore 5, 2) := by decide +kernel
theorem r152_42 (l0 l1 l2 l3 l4 l5 : AV) (x : Int32) (st : List AV) (M : Mm) : run 152 42 [l0, l1, l2, l3, l4, l5] (aI x :: st) M = run 152 44 [l0, l1, l2, l3, l4, aI x] st M := e_ist [l0, l1, l2, l3, l4, aI x] d152_42 rfl rfl
theorem d152_44 : decode (cod 152) 44 = .ok (.aload_n 0, 1) := by decide +kernel
theorem r152_44 (l1 l2 l3 l4 l5 : AV) (xg xi : Nat) (st : List AV) (M : Mm) : run 152 44 [aR xg 12 xi, l1, l2, l3, l4, l5] st M = run 152 45 [aR xg 12 xi, l1, l2, l3, l4, l5] (aR xg 12 xi :: st) M := e_aldn d152_44 rfl
theorem d152_45 : decode (cod 152) 45 = .ok (.iload 5, 2) := by decide +kernel
theorem r152_45 (l0 l1 l2 l3 l4 : AV) (x : Int32) (st : List AV) (M : Mm) : run 152 45 [l0, l1, l2, l3, l4, aI x] st M = run 152 47 [l0, l1, l2, l3, l4, aI x] (aI x :: st) M := e_ild d152_45 rfl
theorem d152_47 : decode (cod 152) 47 = .ok (.iload_n 1, 1) := by decide +kernel
theorem r152_47 (l0 l2 l3 l4 l5 : AV) (x : Int32) (st : List AV) (M : Mm) : run 152 47 [l0, aI x, l2, l3, l4, l5] st M = run 152 48 [l0, aI x, l2, l3, l4, l5] (aI x :: st) M := e_ildn d152_47 rfl
theorem d152_48 : decode (cod 152) 48 = .ok (.invokevirtual 299, 3) := by decide +kernel
theorem r152_48 (l0 l1 l2 l3 l4 l5 : AV) (a0g a0i : Nat) (a1 : Int32) (a2 : Int32) (M : Mm) : run 152 48 [l0, l1, l2, l3, l4, l5] [aI a2, aI a1, aR a0g 12 a0i] M = cbI (call 151 [aR a0g 12 a0i, aI a1, aI a2] M) (fun v M => run 152 51 [l0, l1, l2, l3, l4, l5] [aI v] M) := call_I (n := 3) rfl false d152_48 rfl rfl rfl rfl rfl rfl rfl
theorem d152_51 : decode (cod 152) 51 = .ok (.iload 4, 2) := by decide +kernel
theorem r152_51 (l0 l1 l2 l3 l5 : AV) (x : Int32) (st : List AV) (M : Mm) : run 152 51 [l0, l1, l2, l3, aI x, l5] st M = run 152 53 [l0, l1, l2, l3, aI x, l5] (aI x :: st) M := e_ild d152_51 rfl
theorem d152_53 : decode (cod 152) 53 = .ok (.if_icmp .ge 9, 3) := by decide +kernel
theorem r152_53 (l0 l1 l2 l3 l4 l5 : AV) (a b : Int32) (st : List AV) (M : Mm) : run 152 53 [l0, l1, l2, l3, l4, l5] (aI b :: aI a :: st) M = if a < b then run 152 56 [l0, l1, l2, l3, l4, l5] st M else run 152 62 [l0, l1, l2, l3, l4, l5] st M := e_ge2 62 d152_53 (by decide)
theorem d152_56 : decode (cod 152) 56 = .ok (.iinc 5 1, 3) := by decide +kernel
theorem r152_56 (l0 l1 l2 l3 l4 : AV) (x : Int32) (st : List AV) (M : Mm) : run 152 56 [l0, l1, l2, l3, l4, aI x] st M = run 152 59 [l0, l1, l2, l3, l4, aI (x + 1)] st M := e_iinc 1 [l0, l1, l2, l3, l4, aI (x + 1)] d152_56 (by decide +kernel) rfl rfl
theorem d152_59 : decode (cod 152) 59 = .ok (.goto (-15), 3) := by decide +kernel
theorem r152_59 (l0 l1 l2 l3 l4 l5 : AV) (st : List AV) (M : Mm) : run 152 59 [l0, l1, l2, l3, l4, l5] st M = run 152 44 [l0, l1, l2, l3, l4, l5] st M := e_goto 44 d152_59 (by decide)
theorem d152_62 : decode (cod 152) 62 = .ok (.iload_n 2, 1) := by decide +kernel
theorem r152_62 (l0 l1 l3 l4 l5 : AV) (x : Int32) (st : List AV) (M : Mm) : run 152 62 [l0, l1, aI x, l3, l4, l5] st M = run 152 63 [l0, l1, aI x, l3, l4, l5] (aI x :: st) M := e_ildn d152_62 rfl
theorem d152_63 : decode (cod 152) 63 = .ok (.ifCond .ne 8, 3) := by decide +kernel
theorem r152_63 (l0 l1 l2 l3 l4 l5 : AV) (a : Int32) (st : List AV) (M : Mm) : run 152 63 [l0, l1, l2, l3, l4, l5] (aI a :: st) M = if a = 0 then run 152 66 [l0, l1, l2, l3, l4, l5] st M else run 152 71 [l0, l1, l2, l3, l4, l5] st M := e_ne1 71 d152_63 (by decide)
theorem d152_66 : decode (cod 152) 66 = .ok (.iload 5, 2) := by decide +kernel
theorem r152_66 (l0 l1 l2 l3 l4 : AV) (x : Int32) (st : List AV) (M : Mm) : run 152 66 [l0, l1, l2, l3, l4, aI x] st M = run 152 68 [l0, l1, l2, l3, l4, aI x] (aI x :: st) M := e_ild d152_66 rfl
theorem d152_68 : decode (cod 152) 68 = .ok (.goto 7, 3) := by decide +kernel
theorem r152_68 (l0 l1 l2 l3 l4 l5 : AV) (st : List AV) (M : Mm) : run 152 68 [l0, l1, l2, l3, l4, l5] st M = run 152 75 [l0, l1, l2, l3, l4, l5] st M := e_goto 75 d152_68 (by decide)
theorem d152_71 : decode (cod 152) 71 = .ok (.aload_n 0, 1) := by decide +kernel
theorem r152_71 (l1 l2 l3 l4 l5 : AV) (xg xi : Nat) (st : List AV) (M : Mm) : run 152 71 [aR xg 12 xi, l1, l2, l3, l4, l5] st M = run 152 72 [aR xg 12 xi, l1, l2, l3, l4, l5] (aR xg 12 xi :: st) M := e_aldn d152_71 rfl
theorem d152_72 : decode (cod 152) 72 = .ok (.getfield 278, 3) := by decide +kernel
theorem r152_72 (l0 l1 l2 l3 l4 l5 : AV) (xg xi : Nat) (st : List AV) (M : Mm) : run 152 72 [l0, l1, l2, l3, l4, l5] (aR xg 12 xi :: st) M = run 152 75 [l0, l1, l2, l3, l4, l5] (aI (M xg 12 xi 40) :: st) M := e_gfi d152_72 rfl rfl rfl
theorem d152_75 : decode (cod 152) 75 = .ok (.ireturn, 1) := by decide +kernel
theorem r152_75 (l0 l1 l2 l3 l4 l5 : AV) (v : Int32) (M : Mm) : run 152 75 [l0, l1, l2, l3, l4, l5] [aI v] M = some (some v, M) := e_iret d152_75 rfl
theorem c153 (g0 i0 : Nat) (x1 : Int32) (x2 : Int32) (x3 : Int32) (M : Mm) : call 153 [aR g0 12 i0, aI x1, aI x2, aI x3] M = run 153 0 [aR g0 12 i0, aI x1, aI x2, aI x3, none] [] M := call_run 153 _ _
theorem d153_0 : decode (cod 153) 0 = .ok (.iload_n 1, 1) := by decide +kernel
theorem r153_0 (l0 l2 l3 l4 : AV) (x : Int32) (st : List AV) (M : Mm) : run 153 0 [l0, aI x, l2, l3, l4] st M = run 153 1 [l0, aI x, l2, l3, l4] (aI x :: st) M := e_ildn d153_0 rfl
theorem d153_1 : decode (cod 153) 1 = .ok (.iconst 0, 1) := by decide +kernel
theorem r153_1 (l0 l1 l2 l3 l4 : AV) (st : List AV) (M : Mm) : run 153 1 [l0, l1, l2, l3, l4] st M = run 153 2 [l0, l1, l2, l3, l4] (aI 0 :: st) M := e_iconst 0 d153_1 (by decide +kernel)
theorem d153_2 : decode (cod 153) 2 = .ok (.sipush 240, 3) := by decide +kernel
theorem r153_2 (l0 l1 l2 l3 l4 : AV) (st : List AV) (M : Mm) : run 153 2 [l0, l1, l2, l3, l4] st M = run 153 5 [l0, l1, l2, l3, l4] (aI 240 :: st) M := e_sipush 240 d153_2 (by decide +kernel)
theorem d153_5 : decode (cod 153) 5 = .ok (.invokestatic 82, 3) := by decide +kernel
theorem r153_5 (l0 l1 l2 l3 l4 : AV) (a0 : Int32) (a1 : Int32) (a2 : Int32) (M : Mm) : run 153 5 [l0, l1, l2, l3, l4] [aI a2, aI a1, aI a0] M = cbI (call 84 [aI a0, aI a1, aI a2] M) (fun v M => run 153 8 [l0, l1, l2, l3, l4] [aI v] M) := call_I (n := 3) rfl true d153_5 rfl rfl rfl rfl rfl rfl rfl
theorem d153_8 : decode (cod 153) 8 = .ok (.istore 4, 2) := by decide +kernel
theorem r153_8 (l0 l1 l2 l3 l4 : AV) (x : Int32) (st : List AV) (M : Mm) : run 153 8 [l0, l1, l2, l3, l4] (aI x :: st) M = run 153 10 [l0, l1, l2, l3, aI x] st M := e_ist [l0, l1, l2, l3, aI x] d153_8 rfl rfl
theorem d153_10 : decode (cod 153) 10 = .ok (.iload 4, 2) := by decide +kernel
theorem r153_10 (l0 l1 l2 l3 : AV) (x : Int32) (st : List AV) (M : Mm) : run 153 10 [l0, l1, l2, l3, aI x] st M = run 153 12 [l0, l1, l2, l3, aI x] (aI x :: st) M := e_ild d153_10 rfl
theorem d153_12 : decode (cod 153) 12 = .ok (.ifCond .ne 32, 3) := by decide +kernel
theorem r153_12 (l0 l1 l2 l3 l4 : AV) (a : Int32) (st : List AV) (M : Mm) : run 153 12 [l0, l1, l2, l3, l4] (aI a :: st) M = if a = 0 then run 153 15 [l0, l1, l2, l3, l4] st M else run 153 44 [l0, l1, l2, l3, l4] st M := e_ne1 44 d153_12 (by decide)
theorem d153_15 : decode (cod 153) 15 = .ok (.aload_n 0, 1) := by decide +kernel
theorem r153_15 (l1 l2 l3 l4 : AV) (xg xi : Nat) (st : List AV) (M : Mm) : run 153 15 [aR xg 12 xi, l1, l2, l3, l4] st M = run 153 16 [aR xg 12 xi, l1, l2, l3, l4] (aR xg 12 xi :: st) M := e_aldn d153_15 rfl
theorem d153_16 : decode (cod 153) 16 = .ok (.iload_n 2, 1) := by decide +kernel
theorem r153_16 (l0 l1 l3 l4 : AV) (x : Int32) (st : List AV) (M : Mm) : run 153 16 [l0, l1, aI x, l3, l4] st M = run 153 17 [l0, l1, aI x, l3, l4] (aI x :: st) M := e_ildn d153_16 rfl
theorem d153_17 : decode (cod 153) 17 = .ok (.invokevirtual 281, 3) := by decide +kernel
theorem r153_17 (l0 l1 l2 l3 l4 : AV) (a0g a0i : Nat) (a1 : Int32) (M : Mm) : run 153 17 [l0, l1, l2, l3, l4] [aI a1, aR a0g 12 a0i] M = cbI (call 85 [aR a0g 12 a0i, aI a1] M) (fun v M => run 153 20 [l0, l1, l2, l3, l4] [aI v] M) := call_I (n := 2) rfl false d153_17 rfl rfl rfl rfl rfl rfl rfl
theorem d153_20 : decode (cod 153) 20 = .ok (.ifCond .ne 7, 3) := by decide +kernel
theorem r153_20 (l0 l1 l2 l3 l4 : AV) (a : Int32) (st : List AV) (M : Mm) : run 153 20 [l0, l1, l2, l3, l4] (aI a :: st) M = if a = 0 then run 153 23 [l0, l1, l2, l3, l4] st M else run 153 27 [l0, l1, l2, l3, l4] st M := e_ne1 27 d153_20 (by decide)
theorem d153_23 : decode (cod 153) 23 = .ok (.iconst (-1), 1) := by decide +kernel
theorem r153_23 (l0 l1 l2 l3 l4 : AV) (st : List AV) (M : Mm) : run 153 23 [l0, l1, l2, l3, l4] st M = run 153 24 [l0, l1, l2, l3, l4] (aI (-1) :: st) M := e_iconst (-1) d153_23 (by decide +kernel)
theorem d153_24 : decode (cod 153) 24 = .ok (.goto 18, 3) := by decide +kernel
theorem r153_24 (l0 l1 l2 l3 l4 : AV) (st : List AV) (M : Mm) : run 153 24 [l0, l1, l2, l3, l4] st M = run 153 42 [l0, l1, l2, l3, l4] st M := e_goto 42 d153_24 (by decide)
theorem d153_27 : decode (cod 153) 27 = .ok (.iload_n 3, 1) := by decide +kernel
theorem r153_27 (l0 l1 l2 l4 : AV) (x : Int32) (st : List AV) (M : Mm) : run 153 27 [l0, l1, l2, aI x, l4] st M = run 153 28 [l0, l1, l2, aI x, l4] (aI x :: st) M := e_ildn d153_27 rfl
theorem d153_28 : decode (cod 153) 28 = .ok (.iconst 0, 1) := by decide +kernel
theorem r153_28 (l0 l1 l2 l3 l4 : AV) (st : List AV) (M : Mm) : run 153 28 [l0, l1, l2, l3, l4] st M = run 153 29 [l0, l1, l2, l3, l4] (aI 0 :: st) M := e_iconst 0 d153_28 (by decide +kernel)
theorem d153_29 : decode (cod 153) 29 = .ok (.iconst 1, 1) := by decide +kernel
theorem r153_29 (l0 l1 l2 l3 l4 : AV) (st : List AV) (M : Mm) : run 153 29 [l0, l1, l2, l3, l4] st M = run 153 30 [l0, l1, l2, l3, l4] (aI 1 :: st) M := e_iconst 1 d153_29 (by decide +kernel)
theorem d153_30 : decode (cod 153) 30 = .ok (.invokestatic 100, 3) := by decide +kernel
theorem r153_30 (l0 l1 l2 l3 l4 : AV) (a0 : Int32) (a1 : Int32) (a2 : Int32) (M : Mm) : run 153 30 [l0, l1, l2, l3, l4] [aI a2, aI a1, aI a0] M = cbI (call 83 [aI a0, aI a1, aI a2] M) (fun v M => run 153 33 [l0, l1, l2, l3, l4] [aI v] M) := call_I (n := 3) rfl true d153_30 rfl rfl rfl rfl rfl rfl rfl
theorem d153_33 : decode (cod 153) 33 = .ok (.ifCond .ne 8, 3) := by decide +kernel
theorem r153_33 (l0 l1 l2 l3 l4 : AV) (a : Int32) (st : List AV) (M : Mm) : run 153 33 [l0, l1, l2, l3, l4] (aI a :: st) M = if a = 0 then run 153 36 [l0, l1, l2, l3, l4] st M else run 153 41 [l0, l1, l2, l3, l4] st M := e_ne1 41 d153_33 (by decide)
theorem d153_36 : decode (cod 153) 36 = .ok (.bipush (-2), 2) := by decide +kernel
theorem r153_36 (l0 l1 l2 l3 l4 : AV) (st : List AV) (M : Mm) : run 153 36 [l0, l1, l2, l3, l4] st M = run 153 38 [l0, l1, l2, l3, l4] (aI (-2) :: st) M := e_bipush (-2) d153_36 (by decide +kernel)
theorem d153_38 : decode (cod 153) 38 = .ok (.goto 4, 3) := by decide +kernel
theorem r153_38 (l0 l1 l2 l3 l4 : AV) (st : List AV) (M : Mm) : run 153 38 [l0, l1, l2, l3, l4] st M = run 153 42 [l0, l1, l2, l3, l4] st M := e_goto 42 d153_38 (by decide)
theorem d153_41 : decode (cod 153) 41 = .ok (.iconst 0, 1) := by decide +kernel
theorem r153_41 (l0 l1 l2 l3 l4 : AV) (st : List AV) (M : Mm) : run 153 41 [l0, l1, l2, l3, l4] st M = run 153 42 [l0, l1, l2, l3, l4] (aI 0 :: st) M := e_iconst 0 d153_41 (by decide +kernel)
theorem d153_42 : decode (cod 153) 42 = .ok (.istore 4, 2) := by decide +kernel
theorem r153_42 (l0 l1 l2 l3 l4 : AV) (x : Int32) (st : List AV) (M : Mm) : run 153 42 [l0, l1, l2, l3, l4] (aI x :: st) M = run 153 44 [l0, l1, l2, l3, aI x] st M := e_ist [l0, l1, l2, l3, aI x] d153_42 rfl rfl
theorem d153_44 : decode (cod 153) 44 = .ok (.iload 4, 2) := by decide +kernel
theorem r153_44 (l0 l1 l2 l3 : AV) (x : Int32) (st : List AV) (M : Mm) : run 153 44 [l0, l1, l2, l3, aI x] st M = run 153 46 [l0, l1, l2, l3, aI x] (aI x :: st) M := e_ild d153_44 rfl
theorem d153_46 : decode (cod 153) 46 = .ok (.ifCond .eq 10, 3) := by decide +kernel
theorem r153_46 (l0 l1 l2 l3 l4 : AV) (a : Int32) (st : List AV) (M : Mm) : run 153 46 [l0, l1, l2, l3, l4] (aI a :: st) M = if a = 0 then run 153 56 [l0, l1, l2, l3, l4] st M else run 153 49 [l0, l1, l2, l3, l4] st M := e_eq1 56 d153_46 (by decide)
theorem d153_49 : decode (cod 153) 49 = .ok (.aload_n 0, 1) := by decide +kernel
theorem r153_49 (l1 l2 l3 l4 : AV) (xg xi : Nat) (st : List AV) (M : Mm) : run 153 49 [aR xg 12 xi, l1, l2, l3, l4] st M = run 153 50 [aR xg 12 xi, l1, l2, l3, l4] (aR xg 12 xi :: st) M := e_aldn d153_49 rfl
theorem d153_50 : decode (cod 153) 50 = .ok (.iload 4, 2) := by decide +kernel
theorem r153_50 (l0 l1 l2 l3 : AV) (x : Int32) (st : List AV) (M : Mm) : run 153 50 [l0, l1, l2, l3, aI x] st M = run 153 52 [l0, l1, l2, l3, aI x] (aI x :: st) M := e_ild d153_50 rfl
theorem d153_52 : decode (cod 153) 52 = .ok (.invokevirtual 89, 3) := by decide +kernel
theorem r153_52 (l0 l1 l2 l3 l4 : AV) (a0g a0i : Nat) (a1 : Int32) (M : Mm) : run 153 52 [l0, l1, l2, l3, l4] [aI a1, aR a0g 12 a0i] M = cbI (call 81 [aR a0g 12 a0i, aI a1] M) (fun v M => run 153 55 [l0, l1, l2, l3, l4] [aI v] M) := call_I (n := 2) rfl false d153_52 rfl rfl rfl rfl rfl rfl rfl
theorem d153_55 : decode (cod 153) 55 = .ok (.ireturn, 1) := by decide +kernel
theorem r153_55 (l0 l1 l2 l3 l4 : AV) (v : Int32) (M : Mm) : run 153 55 [l0, l1, l2, l3, l4] [aI v] M = some (some v, M) := e_iret d153_55 rfl
theorem d153_56 : decode (cod 153) 56 = .ok (.aload_n 0, 1) := by decide +kernel
theorem r153_56 (l1 l2 l3 l4 : AV) (xg xi : Nat) (st : List AV) (M : Mm) : run 153 56 [aR xg 12 xi, l1, l2, l3, l4] st M = run 153 57 [aR xg 12 xi, l1, l2, l3, l4] (aR xg 12 xi :: st) M := e_aldn d153_56 rfl
theorem d153_57 : decode (cod 153) 57 = .ok (.iload_n 1, 1) := by decide +kernel
theorem r153_57 (l0 l2 l3 l4 : AV) (x : Int32) (st : List AV) (M : Mm) : run 153 57 [l0, aI x, l2, l3, l4] st M = run 153 58 [l0, aI x, l2, l3, l4] (aI x :: st) M := e_ildn d153_57 rfl
theorem d153_58 : decode (cod 153) 58 = .ok (.invokevirtual 284, 3) := by decide +kernel
theorem r153_58 (l0 l1 l2 l3 l4 : AV) (a0g a0i : Nat) (a1 : Int32) (M : Mm) : run 153 58 [l0, l1, l2, l3, l4] [aI a1, aR a0g 12 a0i] M = cbV (call 130 [aR a0g 12 a0i, aI a1] M) (fun M => run 153 61 [l0, l1, l2, l3, l4] [] M) := call_V (n := 2) rfl false d153_58 rfl rfl rfl rfl rfl rfl rfl
theorem d153_61 : decode (cod 153) 61 = .ok (.iload_n 3, 1) := by decide +kernel
theorem r153_61 (l0 l1 l2 l4 : AV) (x : Int32) (st : List AV) (M : Mm) : run 153 61 [l0, l1, l2, aI x, l4] st M = run 153 62 [l0, l1, l2, aI x, l4] (aI x :: st) M := e_ildn d153_61 rfl
theorem d153_62 : decode (cod 153) 62 = .ok (.ifCond .ne 12, 3) := by decide +kernel
theorem r153_62 (l0 l1 l2 l3 l4 : AV) (a : Int32) (st : List AV) (M : Mm) : run 153 62 [l0, l1, l2, l3, l4] (aI a :: st) M = if a = 0 then run 153 65 [l0, l1, l2, l3, l4] st M else run 153 74 [l0, l1, l2, l3, l4] st M := e_ne1 74 d153_62 (by decide)
theorem d153_65 : decode (cod 153) 65 = .ok (.aload_n 0, 1) := by decide +kernel
theorem r153_65 (l1 l2 l3 l4 : AV) (xg xi : Nat) (st : List AV) (M : Mm) : run 153 65 [aR xg 12 xi, l1, l2, l3, l4] st M = run 153 66 [aR xg 12 xi, l1, l2, l3, l4] (aR xg 12 xi :: st) M := e_aldn d153_65 rfl
theorem d153_66 : decode (cod 153) 66 = .ok (.getfield 58, 3) := by decide +kernel
theorem r153_66 (l0 l1 l2 l3 l4 : AV) (xg xi : Nat) (st : List AV) (M : Mm) : run 153 66 [l0, l1, l2, l3, l4] (aR xg 12 xi :: st) M = run 153 69 [l0, l1, l2, l3, l4] (aR 4 29 0 :: st) M := e_gfr (fun g => (4, 29, 0)) d153_66 rfl rfl rfl
theorem d153_69 : decode (cod 153) 69 = .ok (.iload_n 2, 1) := by decide +kernel
theorem r153_69 (l0 l1 l3 l4 : AV) (x : Int32) (st : List AV) (M : Mm) : run 153 69 [l0, l1, aI x, l3, l4] st M = run 153 70 [l0, l1, aI x, l3, l4] (aI x :: st) M := e_ildn d153_69 rfl
theorem d153_70 : decode (cod 153) 70 = .ok (.iaload, 1) := by decide +kernel
theorem r153_70 (l0 l1 l2 l3 l4 : AV) (i : Int32) (xg xi : Nat) (st : List AV) (M : Mm) : run 153 70 [l0, l1, l2, l3, l4] (aI i :: aR xg 29 xi :: st) M = if vpB i 4 = true then run 153 71 [l0, l1, l2, l3, l4] (aI (M xg 29 xi i.toNatClampNeg) :: st) M else none := e_ial d153_70 rfl rfl
theorem d153_71 : decode (cod 153) 71 = .ok (.goto 9, 3) := by decide +kernel
theorem r153_71 (l0 l1 l2 l3 l4 : AV) (st : List AV) (M : Mm) : run 153 71 [l0, l1, l2, l3, l4] st M = run 153 80 [l0, l1, l2, l3, l4] st M := e_goto 80 d153_71 (by decide)
theorem d153_74 : decode (cod 153) 74 = .ok (.aload_n 0, 1) := by decide +kernel
theorem r153_74 (l1 l2 l3 l4 : AV) (xg xi : Nat) (st : List AV) (M : Mm) : run 153 74 [aR xg 12 xi, l1, l2, l3, l4] st M = run 153 75 [aR xg 12 xi, l1, l2, l3, l4] (aR xg 12 xi :: st) M := e_aldn d153_74 rfl
theorem d153_75 : decode (cod 153) 75 = .ok (.getfield 61, 3) := by decide +kernel
theorem r153_75 (l0 l1 l2 l3 l4 : AV) (xg xi : Nat) (st : List AV) (M : Mm) : run 153 75 [l0, l1, l2, l3, l4] (aR xg 12 xi :: st) M = run 153 78 [l0, l1, l2, l3, l4] (aR 4 30 0 :: st) M := e_gfr (fun g => (4, 30, 0)) d153_75 rfl rfl rfl
theorem d153_78 : decode (cod 153) 78 = .ok (.iload_n 2, 1) := by decide +kernel
theorem r153_78 (l0 l1 l3 l4 : AV) (x : Int32) (st : List AV) (M : Mm) : run 153 78 [l0, l1, aI x, l3, l4] st M = run 153 79 [l0, l1, aI x, l3, l4] (aI x :: st) M := e_ildn d153_78 rfl
theorem d153_79 : decode (cod 153) 79 = .ok (.iaload, 1) := by decide +kernel
theorem r153_79 (l0 l1 l2 l3 l4 : AV) (i : Int32) (xg xi : Nat) (st : List AV) (M : Mm) : run 153 79 [l0, l1, l2, l3, l4] (aI i :: aR xg 30 xi :: st) M = if vpB i 4 = true then run 153 80 [l0, l1, l2, l3, l4] (aI (M xg 30 xi i.toNatClampNeg) :: st) M else none := e_ial d153_79 rfl rfl
theorem d153_80 : decode (cod 153) 80 = .ok (.ireturn, 1) := by decide +kernel
theorem r153_80 (l0 l1 l2 l3 l4 : AV) (v : Int32) (M : Mm) : run 153 80 [l0, l1, l2, l3, l4] [aI v] M = some (some v, M) := e_iret d153_80 rfl
theorem c154 (g0 i0 : Nat) (x1 : Int32) (x2 : Int32) (x3 : Int32) (M : Mm) : call 154 [aR g0 12 i0, aI x1, aI x2, aI x3] M = run 154 0 [aR g0 12 i0, aI x1, aI x2, aI x3, none, none, none] [] M := call_run 154 _ _
theorem d154_0 : decode (cod 154) 0 = .ok (.iload_n 1, 1) := by decide +kernel
theorem r154_0 (l0 l2 l3 l4 l5 l6 : AV) (x : Int32) (st : List AV) (M : Mm) : run 154 0 [l0, aI x, l2, l3, l4, l5, l6] st M = run 154 1 [l0, aI x, l2, l3, l4, l5, l6] (aI x :: st) M := e_ildn d154_0 rfl
theorem d154_1 : decode (cod 154) 1 = .ok (.ifCond .lt 7, 3) := by decide +kernel
theorem r154_1 (l0 l1 l2 l3 l4 l5 l6 : AV) (a : Int32) (st : List AV) (M : Mm) : run 154 1 [l0, l1, l2, l3, l4, l5, l6] (aI a :: st) M = if a < 0 then run 154 8 [l0, l1, l2, l3, l4, l5, l6] st M else run 154 4 [l0, l1, l2, l3, l4, l5, l6] st M := e_lt1 8 d154_1 (by decide)
theorem d154_4 : decode (cod 154) 4 = .ok (.iload_n 2, 1) := by decide +kernel
theorem r154_4 (l0 l1 l3 l4 l5 l6 : AV) (x : Int32) (st : List AV) (M : Mm) : run 154 4 [l0, l1, aI x, l3, l4, l5, l6] st M = run 154 5 [l0, l1, aI x, l3, l4, l5, l6] (aI x :: st) M := e_ildn d154_4 rfl
theorem d154_5 : decode (cod 154) 5 = .ok (.ifCond .ge 8, 3) := by decide +kernel
theorem r154_5 (l0 l1 l2 l3 l4 l5 l6 : AV) (a : Int32) (st : List AV) (M : Mm) : run 154 5 [l0, l1, l2, l3, l4, l5, l6] (aI a :: st) M = if a < 0 then run 154 8 [l0, l1, l2, l3, l4, l5, l6] st M else run 154 13 [l0, l1, l2, l3, l4, l5, l6] st M := e_ge1 13 d154_5 (by decide)
theorem d154_8 : decode (cod 154) 8 = .ok (.bipush (-4), 2) := by decide +kernel
theorem r154_8 (l0 l1 l2 l3 l4 l5 l6 : AV) (st : List AV) (M : Mm) : run 154 8 [l0, l1, l2, l3, l4, l5, l6] st M = run 154 10 [l0, l1, l2, l3, l4, l5, l6] (aI (-4) :: st) M := e_bipush (-4) d154_8 (by decide +kernel)
theorem d154_10 : decode (cod 154) 10 = .ok (.goto 36, 3) := by decide +kernel
theorem r154_10 (l0 l1 l2 l3 l4 l5 l6 : AV) (st : List AV) (M : Mm) : run 154 10 [l0, l1, l2, l3, l4, l5, l6] st M = run 154 46 [l0, l1, l2, l3, l4, l5, l6] st M := e_goto 46 d154_10 (by decide)
theorem d154_13 : decode (cod 154) 13 = .ok (.iload_n 1, 1) := by decide +kernel
theorem r154_13 (l0 l2 l3 l4 l5 l6 : AV) (x : Int32) (st : List AV) (M : Mm) : run 154 13 [l0, aI x, l2, l3, l4, l5, l6] st M = run 154 14 [l0, aI x, l2, l3, l4, l5, l6] (aI x :: st) M := e_ildn d154_13 rfl
theorem d154_14 : decode (cod 154) 14 = .ok (.sipush 240, 3) := by decide +kernel
theorem r154_14 (l0 l1 l2 l3 l4 l5 l6 : AV) (st : List AV) (M : Mm) : run 154 14 [l0, l1, l2, l3, l4, l5, l6] st M = run 154 17 [l0, l1, l2, l3, l4, l5, l6] (aI 240 :: st) M := e_sipush 240 d154_14 (by decide +kernel)
theorem d154_17 : decode (cod 154) 17 = .ok (.if_icmp .gt 9, 3) := by decide +kernel
theorem r154_17 (l0 l1 l2 l3 l4 l5 l6 : AV) (a b : Int32) (st : List AV) (M : Mm) : run 154 17 [l0, l1, l2, l3, l4, l5, l6] (aI b :: aI a :: st) M = if b < a then run 154 26 [l0, l1, l2, l3, l4, l5, l6] st M else run 154 20 [l0, l1, l2, l3, l4, l5, l6] st M := e_gt2 26 d154_17 (by decide)
theorem d154_20 : decode (cod 154) 20 = .ok (.iload_n 2, 1) := by decide +kernel
theorem r154_20 (l0 l1 l3 l4 l5 l6 : AV) (x : Int32) (st : List AV) (M : Mm) : run 154 20 [l0, l1, aI x, l3, l4, l5, l6] st M = run 154 21 [l0, l1, aI x, l3, l4, l5, l6] (aI x :: st) M := e_ildn d154_20 rfl
theorem d154_21 : decode (cod 154) 21 = .ok (.bipush 9, 2) := by decide +kernel
theorem r154_21 (l0 l1 l2 l3 l4 l5 l6 : AV) (st : List AV) (M : Mm) : run 154 21 [l0, l1, l2, l3, l4, l5, l6] st M = run 154 23 [l0, l1, l2, l3, l4, l5, l6] (aI 9 :: st) M := e_bipush 9 d154_21 (by decide +kernel)
theorem d154_23 : decode (cod 154) 23 = .ok (.if_icmp .le 8, 3) := by decide +kernel
theorem r154_23 (l0 l1 l2 l3 l4 l5 l6 : AV) (a b : Int32) (st : List AV) (M : Mm) : run 154 23 [l0, l1, l2, l3, l4, l5, l6] (aI b :: aI a :: st) M = if b < a then run 154 26 [l0, l1, l2, l3, l4, l5, l6] st M else run 154 31 [l0, l1, l2, l3, l4, l5, l6] st M := e_le2 31 d154_23 (by decide)
theorem d154_26 : decode (cod 154) 26 = .ok (.bipush (-6), 2) := by decide +kernel
theorem r154_26 (l0 l1 l2 l3 l4 l5 l6 : AV) (st : List AV) (M : Mm) : run 154 26 [l0, l1, l2, l3, l4, l5, l6] st M = run 154 28 [l0, l1, l2, l3, l4, l5, l6] (aI (-6) :: st) M := e_bipush (-6) d154_26 (by decide +kernel)
theorem d154_28 : decode (cod 154) 28 = .ok (.goto 18, 3) := by decide +kernel
theorem r154_28 (l0 l1 l2 l3 l4 l5 l6 : AV) (st : List AV) (M : Mm) : run 154 28 [l0, l1, l2, l3, l4, l5, l6] st M = run 154 46 [l0, l1, l2, l3, l4, l5, l6] st M := e_goto 46 d154_28 (by decide)
theorem d154_31 : decode (cod 154) 31 = .ok (.iload_n 3, 1) := by decide +kernel
theorem r154_31 (l0 l1 l2 l4 l5 l6 : AV) (x : Int32) (st : List AV) (M : Mm) : run 154 31 [l0, l1, l2, aI x, l4, l5, l6] st M = run 154 32 [l0, l1, l2, aI x, l4, l5, l6] (aI x :: st) M := e_ildn d154_31 rfl
theorem d154_32 : decode (cod 154) 32 = .ok (.iconst 0, 1) := by decide +kernel
theorem r154_32 (l0 l1 l2 l3 l4 l5 l6 : AV) (st : List AV) (M : Mm) : run 154 32 [l0, l1, l2, l3, l4, l5, l6] st M = run 154 33 [l0, l1, l2, l3, l4, l5, l6] (aI 0 :: st) M := e_iconst 0 d154_32 (by decide +kernel)
theorem d154_33 : decode (cod 154) 33 = .ok (.iconst 1, 1) := by decide +kernel
theorem r154_33 (l0 l1 l2 l3 l4 l5 l6 : AV) (st : List AV) (M : Mm) : run 154 33 [l0, l1, l2, l3, l4, l5, l6] st M = run 154 34 [l0, l1, l2, l3, l4, l5, l6] (aI 1 :: st) M := e_iconst 1 d154_33 (by decide +kernel)
theorem d154_34 : decode (cod 154) 34 = .ok (.invokestatic 100, 3) := by decide +kernel
theorem r154_34 (l0 l1 l2 l3 l4 l5 l6 : AV) (a0 : Int32) (a1 : Int32) (a2 : Int32) (M : Mm) : run 154 34 [l0, l1, l2, l3, l4, l5, l6] [aI a2, aI a1, aI a0] M = cbI (call 83 [aI a0, aI a1, aI a2] M) (fun v M => run 154 37 [l0, l1, l2, l3, l4, l5, l6] [aI v] M) := call_I (n := 3) rfl true d154_34 rfl rfl rfl rfl rfl rfl rfl
theorem d154_37 : decode (cod 154) 37 = .ok (.ifCond .ne 8, 3) := by decide +kernel
theorem r154_37 (l0 l1 l2 l3 l4 l5 l6 : AV) (a : Int32) (st : List AV) (M : Mm) : run 154 37 [l0, l1, l2, l3, l4, l5, l6] (aI a :: st) M = if a = 0 then run 154 40 [l0, l1, l2, l3, l4, l5, l6] st M else run 154 45 [l0, l1, l2, l3, l4, l5, l6] st M := e_ne1 45 d154_37 (by decide)
theorem d154_40 : decode (cod 154) 40 = .ok (.bipush (-2), 2) := by decide +kernel
theorem r154_40 (l0 l1 l2 l3 l4 l5 l6 : AV) (st : List AV) (M : Mm) : run 154 40 [l0, l1, l2, l3, l4, l5, l6] st M = run 154 42 [l0, l1, l2, l3, l4, l5, l6] (aI (-2) :: st) M := e_bipush (-2) d154_40 (by decide +kernel)
theorem d154_42 : decode (cod 154) 42 = .ok (.goto 4, 3) := by decide +kernel
theorem r154_42 (l0 l1 l2 l3 l4 l5 l6 : AV) (st : List AV) (M : Mm) : run 154 42 [l0, l1, l2, l3, l4, l5, l6] st M = run 154 46 [l0, l1, l2, l3, l4, l5, l6] st M := e_goto 46 d154_42 (by decide)
theorem d154_45 : decode (cod 154) 45 = .ok (.iconst 0, 1) := by decide +kernel
theorem r154_45 (l0 l1 l2 l3 l4 l5 l6 : AV) (st : List AV) (M : Mm) : run 154 45 [l0, l1, l2, l3, l4, l5, l6] st M = run 154 46 [l0, l1, l2, l3, l4, l5, l6] (aI 0 :: st) M := e_iconst 0 d154_45 (by decide +kernel)
theorem d154_46 : decode (cod 154) 46 = .ok (.istore 4, 2) := by decide +kernel
theorem r154_46 (l0 l1 l2 l3 l4 l5 l6 : AV) (x : Int32) (st : List AV) (M : Mm) : run 154 46 [l0, l1, l2, l3, l4, l5, l6] (aI x :: st) M = run 154 48 [l0, l1, l2, l3, aI x, l5, l6] st M := e_ist [l0, l1, l2, l3, aI x, l5, l6] d154_46 rfl rfl
theorem d154_48 : decode (cod 154) 48 = .ok (.iload 4, 2) := by decide +kernel
theorem r154_48 (l0 l1 l2 l3 l5 l6 : AV) (x : Int32) (st : List AV) (M : Mm) : run 154 48 [l0, l1, l2, l3, aI x, l5, l6] st M = run 154 50 [l0, l1, l2, l3, aI x, l5, l6] (aI x :: st) M := e_ild d154_48 rfl
theorem d154_50 : decode (cod 154) 50 = .ok (.ifCond .eq 10, 3) := by decide +kernel
theorem r154_50 (l0 l1 l2 l3 l4 l5 l6 : AV) (a : Int32) (st : List AV) (M : Mm) : run 154 50 [l0, l1, l2, l3, l4, l5, l6] (aI a :: st) M = if a = 0 then run 154 60 [l0, l1, l2, l3, l4, l5, l6] st M else run 154 53 [l0, l1, l2, l3, l4, l5, l6] st M := e_eq1 60 d154_50 (by decide)
theorem d154_53 : decode (cod 154) 53 = .ok (.aload_n 0, 1) := by decide +kernel
theorem r154_53 (l1 l2 l3 l4 l5 l6 : AV) (xg xi : Nat) (st : List AV) (M : Mm) : run 154 53 [aR xg 12 xi, l1, l2, l3, l4, l5, l6] st M = run 154 54 [aR xg 12 xi, l1, l2, l3, l4, l5, l6] (aR xg 12 xi :: st) M := e_aldn d154_53 rfl
theorem d154_54 : decode (cod 154) 54 = .ok (.iload 4, 2) := by decide +kernel
theorem r154_54 (l0 l1 l2 l3 l5 l6 : AV) (x : Int32) (st : List AV) (M : Mm) : run 154 54 [l0, l1, l2, l3, aI x, l5, l6] st M = run 154 56 [l0, l1, l2, l3, aI x, l5, l6] (aI x :: st) M := e_ild d154_54 rfl
theorem d154_56 : decode (cod 154) 56 = .ok (.invokevirtual 290, 3) := by decide +kernel
theorem r154_56 (l0 l1 l2 l3 l4 l5 l6 : AV) (a0g a0i : Nat) (a1 : Int32) (M : Mm) : run 154 56 [l0, l1, l2, l3, l4, l5, l6] [aI a1, aR a0g 12 a0i] M = cbI (call 82 [aR a0g 12 a0i, aI a1] M) (fun v M => run 154 59 [l0, l1, l2, l3, l4, l5, l6] [aI v] M) := call_I (n := 2) rfl false d154_56 rfl rfl rfl rfl rfl rfl rfl
theorem d154_59 : decode (cod 154) 59 = .ok (.ireturn, 1) := by decide +kernel
theorem r154_59 (l0 l1 l2 l3 l4 l5 l6 : AV) (v : Int32) (M : Mm) : run 154 59 [l0, l1, l2, l3, l4, l5, l6] [aI v] M = some (some v, M) := e_iret d154_59 rfl
theorem d154_60 : decode (cod 154) 60 = .ok (.aload_n 0, 1) := by decide +kernel
theorem r154_60 (l1 l2 l3 l4 l5 l6 : AV) (xg xi : Nat) (st : List AV) (M : Mm) : run 154 60 [aR xg 12 xi, l1, l2, l3, l4, l5, l6] st M = run 154 61 [aR xg 12 xi, l1, l2, l3, l4, l5, l6] (aR xg 12 xi :: st) M := e_aldn d154_60 rfl
theorem d154_61 : decode (cod 154) 61 = .ok (.iload_n 1, 1) := by decide +kernel
theorem r154_61 (l0 l2 l3 l4 l5 l6 : AV) (x : Int32) (st : List AV) (M : Mm) : run 154 61 [l0, aI x, l2, l3, l4, l5, l6] st M = run 154 62 [l0, aI x, l2, l3, l4, l5, l6] (aI x :: st) M := e_ildn d154_61 rfl
theorem d154_62 : decode (cod 154) 62 = .ok (.invokevirtual 293, 3) := by decide +kernel
theorem r154_62 (l0 l1 l2 l3 l4 l5 l6 : AV) (a0g a0i : Nat) (a1 : Int32) (M : Mm) : run 154 62 [l0, l1, l2, l3, l4, l5, l6] [aI a1, aR a0g 12 a0i] M = cbI (call 143 [aR a0g 12 a0i, aI a1] M) (fun v M => run 154 65 [l0, l1, l2, l3, l4, l5, l6] [aI v] M) := call_I (n := 2) rfl false d154_62 rfl rfl rfl rfl rfl rfl rfl
theorem d154_65 : decode (cod 154) 65 = .ok (.istore 5, 2) := by decide +kernel
theorem r154_65 (l0 l1 l2 l3 l4 l5 l6 : AV) (x : Int32) (st : List AV) (M : Mm) : run 154 65 [l0, l1, l2, l3, l4, l5, l6] (aI x :: st) M = run 154 67 [l0, l1, l2, l3, l4, aI x, l6] st M := e_ist [l0, l1, l2, l3, l4, aI x, l6] d154_65 rfl rfl
theorem d154_67 : decode (cod 154) 67 = .ok (.aload_n 0, 1) := by decide +kernel
theorem r154_67 (l1 l2 l3 l4 l5 l6 : AV) (xg xi : Nat) (st : List AV) (M : Mm) : run 154 67 [aR xg 12 xi, l1, l2, l3, l4, l5, l6] st M = run 154 68 [aR xg 12 xi, l1, l2, l3, l4, l5, l6] (aR xg 12 xi :: st) M := e_aldn d154_67 rfl
theorem d154_68 : decode (cod 154) 68 = .ok (.iload_n 2, 1) := by decide +kernel
theorem r154_68 (l0 l1 l3 l4 l5 l6 : AV) (x : Int32) (st : List AV) (M : Mm) : run 154 68 [l0, l1, aI x, l3, l4, l5, l6] st M = run 154 69 [l0, l1, aI x, l3, l4, l5, l6] (aI x :: st) M := e_ildn d154_68 rfl
theorem d154_69 : decode (cod 154) 69 = .ok (.putfield 230, 3) := by decide +kernel
theorem r154_69 (l0 l1 l2 l3 l4 l5 l6 : AV) (v : Int32) (xg xi : Nat) (st : List AV) (M : Mm) : run 154 69 [l0, l1, l2, l3, l4, l5, l6] (aI v :: aR xg 12 xi :: st) M = run 154 72 [l0, l1, l2, l3, l4, l5, l6] st (wr M xg 12 xi 37 v) := e_pfi d154_69 rfl rfl rfl rfl
theorem d154_72 : decode (cod 154) 72 = .ok (.aload_n 0, 1) := by decide +kernel
theorem r154_72 (l1 l2 l3 l4 l5 l6 : AV) (xg xi : Nat) (st : List AV) (M : Mm) : run 154 72 [aR xg 12 xi, l1, l2, l3, l4, l5, l6] st M = run 154 73 [aR xg 12 xi, l1, l2, l3, l4, l5, l6] (aR xg 12 xi :: st) M := e_aldn d154_72 rfl
theorem d154_73 : decode (cod 154) 73 = .ok (.iload_n 1, 1) := by decide +kernel
theorem r154_73 (l0 l2 l3 l4 l5 l6 : AV) (x : Int32) (st : List AV) (M : Mm) : run 154 73 [l0, aI x, l2, l3, l4, l5, l6] st M = run 154 74 [l0, aI x, l2, l3, l4, l5, l6] (aI x :: st) M := e_ildn d154_73 rfl
theorem d154_74 : decode (cod 154) 74 = .ok (.invokevirtual 293, 3) := by decide +kernel
theorem r154_74 (l0 l1 l2 l3 l4 l5 l6 : AV) (a0g a0i : Nat) (a1 : Int32) (M : Mm) : run 154 74 [l0, l1, l2, l3, l4, l5, l6] [aI a1, aR a0g 12 a0i] M = cbI (call 143 [aR a0g 12 a0i, aI a1] M) (fun v M => run 154 77 [l0, l1, l2, l3, l4, l5, l6] [aI v] M) := call_I (n := 2) rfl false d154_74 rfl rfl rfl rfl rfl rfl rfl
theorem d154_77 : decode (cod 154) 77 = .ok (.istore 6, 2) := by decide +kernel
theorem r154_77 (l0 l1 l2 l3 l4 l5 l6 : AV) (x : Int32) (st : List AV) (M : Mm) : run 154 77 [l0, l1, l2, l3, l4, l5, l6] (aI x :: st) M = run 154 79 [l0, l1, l2, l3, l4, l5, aI x] st M := e_ist [l0, l1, l2, l3, l4, l5, aI x] d154_77 rfl rfl
theorem d154_79 : decode (cod 154) 79 = .ok (.aload_n 0, 1) := by decide +kernel
theorem r154_79 (l1 l2 l3 l4 l5 l6 : AV) (xg xi : Nat) (st : List AV) (M : Mm) : run 154 79 [aR xg 12 xi, l1, l2, l3, l4, l5, l6] st M = run 154 80 [aR xg 12 xi, l1, l2, l3, l4, l5, l6] (aR xg 12 xi :: st) M := e_aldn d154_79 rfl
theorem d154_80 : decode (cod 154) 80 = .ok (.iconst 0, 1) := by decide +kernel
theorem r154_80 (l0 l1 l2 l3 l4 l5 l6 : AV) (st : List AV) (M : Mm) : run 154 80 [l0, l1, l2, l3, l4, l5, l6] st M = run 154 81 [l0, l1, l2, l3, l4, l5, l6] (aI 0 :: st) M := e_iconst 0 d154_80 (by decide +kernel)
theorem d154_81 : decode (cod 154) 81 = .ok (.putfield 230, 3) := by decide +kernel
theorem r154_81 (l0 l1 l2 l3 l4 l5 l6 : AV) (v : Int32) (xg xi : Nat) (st : List AV) (M : Mm) : run 154 81 [l0, l1, l2, l3, l4, l5, l6] (aI v :: aR xg 12 xi :: st) M = run 154 84 [l0, l1, l2, l3, l4, l5, l6] st (wr M xg 12 xi 37 v) := e_pfi d154_81 rfl rfl rfl rfl
theorem d154_84 : decode (cod 154) 84 = .ok (.iload_n 3, 1) := by decide +kernel
theorem r154_84 (l0 l1 l2 l4 l5 l6 : AV) (x : Int32) (st : List AV) (M : Mm) : run 154 84 [l0, l1, l2, aI x, l4, l5, l6] st M = run 154 85 [l0, l1, l2, aI x, l4, l5, l6] (aI x :: st) M := e_ildn d154_84 rfl
theorem d154_85 : decode (cod 154) 85 = .ok (.ifCond .ne 11, 3) := by decide +kernel
theorem r154_85 (l0 l1 l2 l3 l4 l5 l6 : AV) (a : Int32) (st : List AV) (M : Mm) : run 154 85 [l0, l1, l2, l3, l4, l5, l6] (aI a :: st) M = if a = 0 then run 154 88 [l0, l1, l2, l3, l4, l5, l6] st M else run 154 96 [l0, l1, l2, l3, l4, l5, l6] st M := e_ne1 96 d154_85 (by decide)
theorem d154_88 : decode (cod 154) 88 = .ok (.iload 6, 2) := by decide +kernel
theorem r154_88 (l0 l1 l2 l3 l4 l5 : AV) (x : Int32) (st : List AV) (M : Mm) : run 154 88 [l0, l1, l2, l3, l4, l5, aI x] st M = run 154 90 [l0, l1, l2, l3, l4, l5, aI x] (aI x :: st) M := e_ild d154_88 rfl
theorem d154_90 : decode (cod 154) 90 = .ok (.iload 5, 2) := by decide +kernel
theorem r154_90 (l0 l1 l2 l3 l4 l6 : AV) (x : Int32) (st : List AV) (M : Mm) : run 154 90 [l0, l1, l2, l3, l4, aI x, l6] st M = run 154 92 [l0, l1, l2, l3, l4, aI x, l6] (aI x :: st) M := e_ild d154_90 rfl
theorem d154_92 : decode (cod 154) 92 = .ok (.isub, 1) := by decide +kernel
theorem r154_92 (l0 l1 l2 l3 l4 l5 l6 : AV) (a b : Int32) (st : List AV) (M : Mm) : run 154 92 [l0, l1, l2, l3, l4, l5, l6] (aI b :: aI a :: st) M = run 154 93 [l0, l1, l2, l3, l4, l5, l6] (aI (a - b) :: st) M := e_isub d154_92
theorem d154_93 : decode (cod 154) 93 = .ok (.goto 16, 3) := by decide +kernel
theorem r154_93 (l0 l1 l2 l3 l4 l5 l6 : AV) (st : List AV) (M : Mm) : run 154 93 [l0, l1, l2, l3, l4, l5, l6] st M = run 154 109 [l0, l1, l2, l3, l4, l5, l6] st M := e_goto 109 d154_93 (by decide)
theorem d154_96 : decode (cod 154) 96 = .ok (.iload 6, 2) := by decide +kernel
theorem r154_96 (l0 l1 l2 l3 l4 l5 : AV) (x : Int32) (st : List AV) (M : Mm) : run 154 96 [l0, l1, l2, l3, l4, l5, aI x] st M = run 154 98 [l0, l1, l2, l3, l4, l5, aI x] (aI x :: st) M := e_ild d154_96 rfl
theorem d154_98 : decode (cod 154) 98 = .ok (.iload_n 2, 1) := by decide +kernel
theorem r154_98 (l0 l1 l3 l4 l5 l6 : AV) (x : Int32) (st : List AV) (M : Mm) : run 154 98 [l0, l1, aI x, l3, l4, l5, l6] st M = run 154 99 [l0, l1, aI x, l3, l4, l5, l6] (aI x :: st) M := e_ildn d154_98 rfl
theorem d154_99 : decode (cod 154) 99 = .ok (.imul, 1) := by decide +kernel
theorem r154_99 (l0 l1 l2 l3 l4 l5 l6 : AV) (a b : Int32) (st : List AV) (M : Mm) : run 154 99 [l0, l1, l2, l3, l4, l5, l6] (aI b :: aI a :: st) M = run 154 100 [l0, l1, l2, l3, l4, l5, l6] (aI (a * b) :: st) M := e_imul d154_99
theorem d154_100 : decode (cod 154) 100 = .ok (.aload_n 0, 1) := by decide +kernel
theorem r154_100 (l1 l2 l3 l4 l5 l6 : AV) (xg xi : Nat) (st : List AV) (M : Mm) : run 154 100 [aR xg 12 xi, l1, l2, l3, l4, l5, l6] st M = run 154 101 [aR xg 12 xi, l1, l2, l3, l4, l5, l6] (aR xg 12 xi :: st) M := e_aldn d154_100 rfl
theorem d154_101 : decode (cod 154) 101 = .ok (.getfield 13, 3) := by decide +kernel
theorem r154_101 (l0 l1 l2 l3 l4 l5 l6 : AV) (xg xi : Nat) (st : List AV) (M : Mm) : run 154 101 [l0, l1, l2, l3, l4, l5, l6] (aR xg 12 xi :: st) M = run 154 104 [l0, l1, l2, l3, l4, l5, l6] (aR 4 14 0 :: st) M := e_gfr (fun g => (4, 14, 0)) d154_101 rfl rfl rfl
theorem d154_104 : decode (cod 154) 104 = .ok (.iconst 1, 1) := by decide +kernel
theorem r154_104 (l0 l1 l2 l3 l4 l5 l6 : AV) (st : List AV) (M : Mm) : run 154 104 [l0, l1, l2, l3, l4, l5, l6] st M = run 154 105 [l0, l1, l2, l3, l4, l5, l6] (aI 1 :: st) M := e_iconst 1 d154_104 (by decide +kernel)
theorem d154_105 : decode (cod 154) 105 = .ok (.iaload, 1) := by decide +kernel
theorem r154_105 (l0 l1 l2 l3 l4 l5 l6 : AV) (i : Int32) (xg xi : Nat) (st : List AV) (M : Mm) : run 154 105 [l0, l1, l2, l3, l4, l5, l6] (aI i :: aR xg 14 xi :: st) M = if vpB i 7 = true then run 154 106 [l0, l1, l2, l3, l4, l5, l6] (aI (M xg 14 xi i.toNatClampNeg) :: st) M else none := e_ial d154_105 rfl rfl
theorem d154_106 : decode (cod 154) 106 = .ok (.iload_n 2, 1) := by decide +kernel
theorem r154_106 (l0 l1 l3 l4 l5 l6 : AV) (x : Int32) (st : List AV) (M : Mm) : run 154 106 [l0, l1, aI x, l3, l4, l5, l6] st M = run 154 107 [l0, l1, aI x, l3, l4, l5, l6] (aI x :: st) M := e_ildn d154_106 rfl
theorem d154_107 : decode (cod 154) 107 = .ok (.iadd, 1) := by decide +kernel
theorem r154_107 (l0 l1 l2 l3 l4 l5 l6 : AV) (a b : Int32) (st : List AV) (M : Mm) : run 154 107 [l0, l1, l2, l3, l4, l5, l6] (aI b :: aI a :: st) M = run 154 108 [l0, l1, l2, l3, l4, l5, l6] (aI (a + b) :: st) M := e_iadd d154_107
theorem d154_108 : decode (cod 154) 108 = .ok (.idiv, 1) := by decide +kernel
theorem r154_108 (l0 l1 l2 l3 l4 l5 l6 : AV) (a b : Int32) (st : List AV) (M : Mm) : run 154 108 [l0, l1, l2, l3, l4, l5, l6] (aI b :: aI a :: st) M = if b = 0 then none else run 154 109 [l0, l1, l2, l3, l4, l5, l6] (aI (a / b) :: st) M := e_idiv d154_108
theorem d154_109 : decode (cod 154) 109 = .ok (.ireturn, 1) := by decide +kernel
theorem r154_109 (l0 l1 l2 l3 l4 l5 l6 : AV) (v : Int32) (M : Mm) : run 154 109 [l0, l1, l2, l3, l4, l5, l6] [aI v] M = some (some v, M) := e_iret d154_109 rfl
theorem c155 (g0 i0 : Nat) (M : Mm) : call 155 [aR g0 12 i0] M = run 155 0 [aR g0 12 i0, none, none, none] [] M := call_run 155 _ _
theorem d155_0 : decode (cod 155) 0 = .ok (.aload_n 0, 1) := by decide +kernel
theorem r155_0 (l1 l2 l3 : AV) (xg xi : Nat) (st : List AV) (M : Mm) : run 155 0 [aR xg 12 xi, l1, l2, l3] st M = run 155 1 [aR xg 12 xi, l1, l2, l3] (aR xg 12 xi :: st) M := e_aldn d155_0 rfl
theorem d155_1 : decode (cod 155) 1 = .ok (.getfield 302, 3) := by decide +kernel
theorem r155_1 (l0 l1 l2 l3 : AV) (xg xi : Nat) (st : List AV) (M : Mm) : run 155 1 [l0, l1, l2, l3] (aR xg 12 xi :: st) M = run 155 4 [l0, l1, l2, l3] (aI (M xg 12 xi 42) :: st) M := e_gfi d155_1 rfl rfl rfl
theorem d155_4 : decode (cod 155) 4 = .ok (.iconst 2, 1) := by decide +kernel
theorem r155_4 (l0 l1 l2 l3 : AV) (st : List AV) (M : Mm) : run 155 4 [l0, l1, l2, l3] st M = run 155 5 [l0, l1, l2, l3] (aI 2 :: st) M := e_iconst 2 d155_4 (by decide +kernel)
theorem d155_5 : decode (cod 155) 5 = .ok (.irem, 1) := by decide +kernel
theorem r155_5 (l0 l1 l2 l3 : AV) (a b : Int32) (st : List AV) (M : Mm) : run 155 5 [l0, l1, l2, l3] (aI b :: aI a :: st) M = if b = 0 then none else run 155 6 [l0, l1, l2, l3] (aI (a - a / b * b) :: st) M := e_irem d155_5
theorem d155_6 : decode (cod 155) 6 = .ok (.iconst 1, 1) := by decide +kernel
theorem r155_6 (l0 l1 l2 l3 : AV) (st : List AV) (M : Mm) : run 155 6 [l0, l1, l2, l3] st M = run 155 7 [l0, l1, l2, l3] (aI 1 :: st) M := e_iconst 1 d155_6 (by decide +kernel)
theorem d155_7 : decode (cod 155) 7 = .ok (.if_icmp .ne 10, 3) := by decide +kernel
theorem r155_7 (l0 l1 l2 l3 : AV) (a b : Int32) (st : List AV) (M : Mm) : run 155 7 [l0, l1, l2, l3] (aI b :: aI a :: st) M = if a = b then run 155 10 [l0, l1, l2, l3] st M else run 155 17 [l0, l1, l2, l3] st M := e_ne2 17 d155_7 (by decide)
theorem d155_10 : decode (cod 155) 10 = .ok (.aload_n 0, 1) := by decide +kernel
theorem r155_10 (l1 l2 l3 : AV) (xg xi : Nat) (st : List AV) (M : Mm) : run 155 10 [aR xg 12 xi, l1, l2, l3] st M = run 155 11 [aR xg 12 xi, l1, l2, l3] (aR xg 12 xi :: st) M := e_aldn d155_10 rfl
theorem d155_11 : decode (cod 155) 11 = .ok (.bipush (-3), 2) := by decide +kernel
theorem r155_11 (l0 l1 l2 l3 : AV) (st : List AV) (M : Mm) : run 155 11 [l0, l1, l2, l3] st M = run 155 13 [l0, l1, l2, l3] (aI (-3) :: st) M := e_bipush (-3) d155_11 (by decide +kernel)
theorem d155_13 : decode (cod 155) 13 = .ok (.invokevirtual 89, 3) := by decide +kernel
theorem r155_13 (l0 l1 l2 l3 : AV) (a0g a0i : Nat) (a1 : Int32) (M : Mm) : run 155 13 [l0, l1, l2, l3] [aI a1, aR a0g 12 a0i] M = cbI (call 81 [aR a0g 12 a0i, aI a1] M) (fun v M => run 155 16 [l0, l1, l2, l3] [aI v] M) := call_I (n := 2) rfl false d155_13 rfl rfl rfl rfl rfl rfl rfl
theorem d155_16 : decode (cod 155) 16 = .ok (.ireturn, 1) := by decide +kernel
theorem r155_16 (l0 l1 l2 l3 : AV) (v : Int32) (M : Mm) : run 155 16 [l0, l1, l2, l3] [aI v] M = some (some v, M) := e_iret d155_16 rfl
theorem d155_17 : decode (cod 155) 17 = .ok (.bipush 63, 2) := by decide +kernel
theorem r155_17 (l0 l1 l2 l3 : AV) (st : List AV) (M : Mm) : run 155 17 [l0, l1, l2, l3] st M = run 155 19 [l0, l1, l2, l3] (aI 63 :: st) M := e_bipush 63 d155_17 (by decide +kernel)
theorem d155_19 : decode (cod 155) 19 = .ok (.istore_n 1, 1) := by decide +kernel
theorem r155_19 (l0 l1 l2 l3 : AV) (x : Int32) (st : List AV) (M : Mm) : run 155 19 [l0, l1, l2, l3] (aI x :: st) M = run 155 20 [l0, aI x, l2, l3] st M := e_istn [l0, aI x, l2, l3] d155_19 rfl rfl
theorem d155_20 : decode (cod 155) 20 = .ok (.iconst 0, 1) := by decide +kernel
theorem r155_20 (l0 l1 l2 l3 : AV) (st : List AV) (M : Mm) : run 155 20 [l0, l1, l2, l3] st M = run 155 21 [l0, l1, l2, l3] (aI 0 :: st) M := e_iconst 0 d155_20 (by decide +kernel)
theorem d155_21 : decode (cod 155) 21 = .ok (.istore_n 2, 1) := by decide +kernel
theorem r155_21 (l0 l1 l2 l3 : AV) (x : Int32) (st : List AV) (M : Mm) : run 155 21 [l0, l1, l2, l3] (aI x :: st) M = run 155 22 [l0, l1, aI x, l3] st M := e_istn [l0, l1, aI x, l3] d155_21 rfl rfl
theorem d155_22 : decode (cod 155) 22 = .ok (.iload_n 2, 1) := by decide +kernel
theorem r155_22 (l0 l1 l3 : AV) (x : Int32) (st : List AV) (M : Mm) : run 155 22 [l0, l1, aI x, l3] st M = run 155 23 [l0, l1, aI x, l3] (aI x :: st) M := e_ildn d155_22 rfl
theorem d155_23 : decode (cod 155) 23 = .ok (.aload_n 0, 1) := by decide +kernel
theorem r155_23 (l1 l2 l3 : AV) (xg xi : Nat) (st : List AV) (M : Mm) : run 155 23 [aR xg 12 xi, l1, l2, l3] st M = run 155 24 [aR xg 12 xi, l1, l2, l3] (aR xg 12 xi :: st) M := e_aldn d155_23 rfl
theorem d155_24 : decode (cod 155) 24 = .ok (.getfield 302, 3) := by decide +kernel
theorem r155_24 (l0 l1 l2 l3 : AV) (xg xi : Nat) (st : List AV) (M : Mm) : run 155 24 [l0, l1, l2, l3] (aR xg 12 xi :: st) M = run 155 27 [l0, l1, l2, l3] (aI (M xg 12 xi 42) :: st) M := e_gfi d155_24 rfl rfl rfl
theorem d155_27 : decode (cod 155) 27 = .ok (.if_icmp .ge 58, 3) := by decide +kernel
theorem r155_27 (l0 l1 l2 l3 : AV) (a b : Int32) (st : List AV) (M : Mm) : run 155 27 [l0, l1, l2, l3] (aI b :: aI a :: st) M = if a < b then run 155 30 [l0, l1, l2, l3] st M else run 155 85 [l0, l1, l2, l3] st M := e_ge2 85 d155_27 (by decide)
theorem d155_30 : decode (cod 155) 30 = .ok (.iconst 0, 1) := by decide +kernel
theorem r155_30 (l0 l1 l2 l3 : AV) (st : List AV) (M : Mm) : run 155 30 [l0, l1, l2, l3] st M = run 155 31 [l0, l1, l2, l3] (aI 0 :: st) M := e_iconst 0 d155_30 (by decide +kernel)
theorem d155_31 : decode (cod 155) 31 = .ok (.istore_n 3, 1) := by decide +kernel
theorem r155_31 (l0 l1 l2 l3 : AV) (x : Int32) (st : List AV) (M : Mm) : run 155 31 [l0, l1, l2, l3] (aI x :: st) M = run 155 32 [l0, l1, l2, aI x] st M := e_istn [l0, l1, l2, aI x] d155_31 rfl rfl
theorem d155_32 : decode (cod 155) 32 = .ok (.iload_n 3, 1) := by decide +kernel
theorem r155_32 (l0 l1 l2 : AV) (x : Int32) (st : List AV) (M : Mm) : run 155 32 [l0, l1, l2, aI x] st M = run 155 33 [l0, l1, l2, aI x] (aI x :: st) M := e_ildn d155_32 rfl
theorem d155_33 : decode (cod 155) 33 = .ok (.bipush 6, 2) := by decide +kernel
theorem r155_33 (l0 l1 l2 l3 : AV) (st : List AV) (M : Mm) : run 155 33 [l0, l1, l2, l3] st M = run 155 35 [l0, l1, l2, l3] (aI 6 :: st) M := e_bipush 6 d155_33 (by decide +kernel)
theorem d155_35 : decode (cod 155) 35 = .ok (.if_icmp .ge 44, 3) := by decide +kernel
theorem r155_35 (l0 l1 l2 l3 : AV) (a b : Int32) (st : List AV) (M : Mm) : run 155 35 [l0, l1, l2, l3] (aI b :: aI a :: st) M = if a < b then run 155 38 [l0, l1, l2, l3] st M else run 155 79 [l0, l1, l2, l3] st M := e_ge2 79 d155_35 (by decide)
theorem d155_38 : decode (cod 155) 38 = .ok (.iload_n 1, 1) := by decide +kernel
theorem r155_38 (l0 l2 l3 : AV) (x : Int32) (st : List AV) (M : Mm) : run 155 38 [l0, aI x, l2, l3] st M = run 155 39 [l0, aI x, l2, l3] (aI x :: st) M := e_ildn d155_38 rfl
theorem d155_39 : decode (cod 155) 39 = .ok (.aload_n 0, 1) := by decide +kernel
theorem r155_39 (l1 l2 l3 : AV) (xg xi : Nat) (st : List AV) (M : Mm) : run 155 39 [aR xg 12 xi, l1, l2, l3] st M = run 155 40 [aR xg 12 xi, l1, l2, l3] (aR xg 12 xi :: st) M := e_aldn d155_39 rfl
theorem d155_40 : decode (cod 155) 40 = .ok (.getfield 67, 3) := by decide +kernel
theorem r155_40 (l0 l1 l2 l3 : AV) (xg xi : Nat) (st : List AV) (M : Mm) : run 155 40 [l0, l1, l2, l3] (aR xg 12 xi :: st) M = run 155 43 [l0, l1, l2, l3] (aR 4 32 0 :: st) M := e_gfr (fun g => (4, 32, 0)) d155_40 rfl rfl rfl
theorem d155_43 : decode (cod 155) 43 = .ok (.iload_n 2, 1) := by decide +kernel
theorem r155_43 (l0 l1 l3 : AV) (x : Int32) (st : List AV) (M : Mm) : run 155 43 [l0, l1, aI x, l3] st M = run 155 44 [l0, l1, aI x, l3] (aI x :: st) M := e_ildn d155_43 rfl
theorem d155_44 : decode (cod 155) 44 = .ok (.iconst 1, 1) := by decide +kernel
theorem r155_44 (l0 l1 l2 l3 : AV) (st : List AV) (M : Mm) : run 155 44 [l0, l1, l2, l3] st M = run 155 45 [l0, l1, l2, l3] (aI 1 :: st) M := e_iconst 1 d155_44 (by decide +kernel)
theorem d155_45 : decode (cod 155) 45 = .ok (.iadd, 1) := by decide +kernel
theorem r155_45 (l0 l1 l2 l3 : AV) (a b : Int32) (st : List AV) (M : Mm) : run 155 45 [l0, l1, l2, l3] (aI b :: aI a :: st) M = run 155 46 [l0, l1, l2, l3] (aI (a + b) :: st) M := e_iadd d155_45
theorem d155_46 : decode (cod 155) 46 = .ok (.iaload, 1) := by decide +kernel
theorem r155_46 (l0 l1 l2 l3 : AV) (i : Int32) (xg xi : Nat) (st : List AV) (M : Mm) : run 155 46 [l0, l1, l2, l3] (aI i :: aR xg 32 xi :: st) M = if vpB i 20 = true then run 155 47 [l0, l1, l2, l3] (aI (M xg 32 xi i.toNatClampNeg) :: st) M else none := e_ial d155_46 rfl rfl
theorem d155_47 : decode (cod 155) 47 = .ok (.aload_n 0, 1) := by decide +kernel
theorem r155_47 (l1 l2 l3 : AV) (xg xi : Nat) (st : List AV) (M : Mm) : run 155 47 [aR xg 12 xi, l1, l2, l3] st M = run 155 48 [aR xg 12 xi, l1, l2, l3] (aR xg 12 xi :: st) M := e_aldn d155_47 rfl
theorem d155_48 : decode (cod 155) 48 = .ok (.getfield 67, 3) := by decide +kernel
theorem r155_48 (l0 l1 l2 l3 : AV) (xg xi : Nat) (st : List AV) (M : Mm) : run 155 48 [l0, l1, l2, l3] (aR xg 12 xi :: st) M = run 155 51 [l0, l1, l2, l3] (aR 4 32 0 :: st) M := e_gfr (fun g => (4, 32, 0)) d155_48 rfl rfl rfl
theorem d155_51 : decode (cod 155) 51 = .ok (.iload_n 2, 1) := by decide +kernel
theorem r155_51 (l0 l1 l3 : AV) (x : Int32) (st : List AV) (M : Mm) : run 155 51 [l0, l1, aI x, l3] st M = run 155 52 [l0, l1, aI x, l3] (aI x :: st) M := e_ildn d155_51 rfl
theorem d155_52 : decode (cod 155) 52 = .ok (.iaload, 1) := by decide +kernel
theorem r155_52 (l0 l1 l2 l3 : AV) (i : Int32) (xg xi : Nat) (st : List AV) (M : Mm) : run 155 52 [l0, l1, l2, l3] (aI i :: aR xg 32 xi :: st) M = if vpB i 20 = true then run 155 53 [l0, l1, l2, l3] (aI (M xg 32 xi i.toNatClampNeg) :: st) M else none := e_ial d155_52 rfl rfl
theorem d155_53 : decode (cod 155) 53 = .ok (.iload_n 3, 1) := by decide +kernel
theorem r155_53 (l0 l1 l2 : AV) (x : Int32) (st : List AV) (M : Mm) : run 155 53 [l0, l1, l2, aI x] st M = run 155 54 [l0, l1, l2, aI x] (aI x :: st) M := e_ildn d155_53 rfl
theorem d155_54 : decode (cod 155) 54 = .ok (.invokestatic 183, 3) := by decide +kernel
theorem r155_54 (l0 l1 l2 l3 : AV) (a0 : Int32) (t0 t1 t2 : AV) (M : Mm) : run 155 54 [l0, l1, l2, l3] [aI a0, t0, t1, t2] M = cbI (call 107 [aI a0] M) (fun v M => run 155 57 [l0, l1, l2, l3] [aI v, t0, t1, t2] M) := call_I (n := 1) rfl true d155_54 rfl rfl rfl rfl rfl rfl rfl
theorem d155_57 : decode (cod 155) 57 = .ok (.imul, 1) := by decide +kernel
theorem r155_57 (l0 l1 l2 l3 : AV) (a b : Int32) (st : List AV) (M : Mm) : run 155 57 [l0, l1, l2, l3] (aI b :: aI a :: st) M = run 155 58 [l0, l1, l2, l3] (aI (a * b) :: st) M := e_imul d155_57
theorem d155_58 : decode (cod 155) 58 = .ok (.if_icmp .ne 8, 3) := by decide +kernel
theorem r155_58 (l0 l1 l2 l3 : AV) (a b : Int32) (st : List AV) (M : Mm) : run 155 58 [l0, l1, l2, l3] (aI b :: aI a :: st) M = if a = b then run 155 61 [l0, l1, l2, l3] st M else run 155 66 [l0, l1, l2, l3] st M := e_ne2 66 d155_58 (by decide)
theorem d155_61 : decode (cod 155) 61 = .ok (.bipush 63, 2) := by decide +kernel
theorem r155_61 (l0 l1 l2 l3 : AV) (st : List AV) (M : Mm) : run 155 61 [l0, l1, l2, l3] st M = run 155 63 [l0, l1, l2, l3] (aI 63 :: st) M := e_bipush 63 d155_61 (by decide +kernel)
theorem d155_63 : decode (cod 155) 63 = .ok (.goto 8, 3) := by decide +kernel
theorem r155_63 (l0 l1 l2 l3 : AV) (st : List AV) (M : Mm) : run 155 63 [l0, l1, l2, l3] st M = run 155 71 [l0, l1, l2, l3] st M := e_goto 71 d155_63 (by decide)
theorem d155_66 : decode (cod 155) 66 = .ok (.iconst 1, 1) := by decide +kernel
theorem r155_66 (l0 l1 l2 l3 : AV) (st : List AV) (M : Mm) : run 155 66 [l0, l1, l2, l3] st M = run 155 67 [l0, l1, l2, l3] (aI 1 :: st) M := e_iconst 1 d155_66 (by decide +kernel)
theorem d155_67 : decode (cod 155) 67 = .ok (.iload_n 3, 1) := by decide +kernel
theorem r155_67 (l0 l1 l2 : AV) (x : Int32) (st : List AV) (M : Mm) : run 155 67 [l0, l1, l2, aI x] st M = run 155 68 [l0, l1, l2, aI x] (aI x :: st) M := e_ildn d155_67 rfl
theorem d155_68 : decode (cod 155) 68 = .ok (.ishl, 1) := by decide +kernel
theorem r155_68 (l0 l1 l2 l3 : AV) (a b : Int32) (st : List AV) (M : Mm) : run 155 68 [l0, l1, l2, l3] (aI b :: aI a :: st) M = run 155 69 [l0, l1, l2, l3] (aI (a <<< (b &&& 31)) :: st) M := e_ishl d155_68
theorem d155_69 : decode (cod 155) 69 = .ok (.iconst (-1), 1) := by decide +kernel
theorem r155_69 (l0 l1 l2 l3 : AV) (st : List AV) (M : Mm) : run 155 69 [l0, l1, l2, l3] st M = run 155 70 [l0, l1, l2, l3] (aI (-1) :: st) M := e_iconst (-1) d155_69 (by decide +kernel)
theorem d155_70 : decode (cod 155) 70 = .ok (.ixor, 1) := by decide +kernel
theorem r155_70 (l0 l1 l2 l3 : AV) (a b : Int32) (st : List AV) (M : Mm) : run 155 70 [l0, l1, l2, l3] (aI b :: aI a :: st) M = run 155 71 [l0, l1, l2, l3] (aI (a ^^^ b) :: st) M := e_ixor d155_70
theorem d155_71 : decode (cod 155) 71 = .ok (.iand, 1) := by decide +kernel
theorem r155_71 (l0 l1 l2 l3 : AV) (a b : Int32) (st : List AV) (M : Mm) : run 155 71 [l0, l1, l2, l3] (aI b :: aI a :: st) M = run 155 72 [l0, l1, l2, l3] (aI (a &&& b) :: st) M := e_iand d155_71
theorem d155_72 : decode (cod 155) 72 = .ok (.istore_n 1, 1) := by decide +kernel
theorem r155_72 (l0 l1 l2 l3 : AV) (x : Int32) (st : List AV) (M : Mm) : run 155 72 [l0, l1, l2, l3] (aI x :: st) M = run 155 73 [l0, aI x, l2, l3] st M := e_istn [l0, aI x, l2, l3] d155_72 rfl rfl
theorem d155_73 : decode (cod 155) 73 = .ok (.iinc 3 1, 3) := by decide +kernel
theorem r155_73 (l0 l1 l2 : AV) (x : Int32) (st : List AV) (M : Mm) : run 155 73 [l0, l1, l2, aI x] st M = run 155 76 [l0, l1, l2, aI (x + 1)] st M := e_iinc 1 [l0, l1, l2, aI (x + 1)] d155_73 (by decide +kernel) rfl rfl
theorem d155_76 : decode (cod 155) 76 = .ok (.goto (-44), 3) := by decide +kernel
theorem r155_76 (l0 l1 l2 l3 : AV) (st : List AV) (M : Mm) : run 155 76 [l0, l1, l2, l3] st M = run 155 32 [l0, l1, l2, l3] st M := e_goto 32 d155_76 (by decide)
theorem d155_79 : decode (cod 155) 79 = .ok (.iinc 2 2, 3) := by decide +kernel
theorem r155_79 (l0 l1 l3 : AV) (x : Int32) (st : List AV) (M : Mm) : run 155 79 [l0, l1, aI x, l3] st M = run 155 82 [l0, l1, aI (x + 2), l3] st M := e_iinc 2 [l0, l1, aI (x + 2), l3] d155_79 (by decide +kernel) rfl rfl
theorem d155_82 : decode (cod 155) 82 = .ok (.goto (-60), 3) := by decide +kernel
theorem r155_82 (l0 l1 l2 l3 : AV) (st : List AV) (M : Mm) : run 155 82 [l0, l1, l2, l3] st M = run 155 22 [l0, l1, l2, l3] st M := e_goto 22 d155_82 (by decide)
theorem d155_85 : decode (cod 155) 85 = .ok (.iload_n 1, 1) := by decide +kernel
theorem r155_85 (l0 l2 l3 : AV) (x : Int32) (st : List AV) (M : Mm) : run 155 85 [l0, aI x, l2, l3] st M = run 155 86 [l0, aI x, l2, l3] (aI x :: st) M := e_ildn d155_85 rfl
theorem d155_86 : decode (cod 155) 86 = .ok (.ireturn, 1) := by decide +kernel
theorem r155_86 (l0 l1 l2 l3 : AV) (v : Int32) (M : Mm) : run 155 86 [l0, l1, l2, l3] [aI v] M = some (some v, M) := e_iret d155_86 rfl
theorem c156 (g0 i0 : Nat) (x1 : Int32) (M : Mm) : call 156 [aR g0 12 i0, aI x1] M = run 156 0 [aR g0 12 i0, aI x1, none] [] M := call_run 156 _ _
theorem d156_0 : decode (cod 156) 0 = .ok (.iload_n 1, 1) := by decide +kernel
theorem r156_0 (l0 l2 : AV) (x : Int32) (st : List AV) (M : Mm) : run 156 0 [l0, aI x, l2] st M = run 156 1 [l0, aI x, l2] (aI x :: st) M := e_ildn d156_0 rfl
theorem d156_1 : decode (cod 156) 1 = .ok (.iconst 0, 1) := by decide +kernel
theorem r156_1 (l0 l1 l2 : AV) (st : List AV) (M : Mm) : run 156 1 [l0, l1, l2] st M = run 156 2 [l0, l1, l2] (aI 0 :: st) M := e_iconst 0 d156_1 (by decide +kernel)
theorem d156_2 : decode (cod 156) 2 = .ok (.bipush 99, 2) := by decide +kernel
theorem r156_2 (l0 l1 l2 : AV) (st : List AV) (M : Mm) : run 156 2 [l0, l1, l2] st M = run 156 4 [l0, l1, l2] (aI 99 :: st) M := e_bipush 99 d156_2 (by decide +kernel)
theorem d156_4 : decode (cod 156) 4 = .ok (.invokestatic 82, 3) := by decide +kernel
theorem r156_4 (l0 l1 l2 : AV) (a0 : Int32) (a1 : Int32) (a2 : Int32) (M : Mm) : run 156 4 [l0, l1, l2] [aI a2, aI a1, aI a0] M = cbI (call 84 [aI a0, aI a1, aI a2] M) (fun v M => run 156 7 [l0, l1, l2] [aI v] M) := call_I (n := 3) rfl true d156_4 rfl rfl rfl rfl rfl rfl rfl
theorem d156_7 : decode (cod 156) 7 = .ok (.istore_n 2, 1) := by decide +kernel
theorem r156_7 (l0 l1 l2 : AV) (x : Int32) (st : List AV) (M : Mm) : run 156 7 [l0, l1, l2] (aI x :: st) M = run 156 8 [l0, l1, aI x] st M := e_istn [l0, l1, aI x] d156_7 rfl rfl
theorem d156_8 : decode (cod 156) 8 = .ok (.iload_n 2, 1) := by decide +kernel
theorem r156_8 (l0 l1 : AV) (x : Int32) (st : List AV) (M : Mm) : run 156 8 [l0, l1, aI x] st M = run 156 9 [l0, l1, aI x] (aI x :: st) M := e_ildn d156_8 rfl
theorem d156_9 : decode (cod 156) 9 = .ok (.ifCond .ne 15, 3) := by decide +kernel
theorem r156_9 (l0 l1 l2 : AV) (a : Int32) (st : List AV) (M : Mm) : run 156 9 [l0, l1, l2] (aI a :: st) M = if a = 0 then run 156 12 [l0, l1, l2] st M else run 156 24 [l0, l1, l2] st M := e_ne1 24 d156_9 (by decide)
theorem d156_12 : decode (cod 156) 12 = .ok (.aload_n 0, 1) := by decide +kernel
theorem r156_12 (l1 l2 : AV) (xg xi : Nat) (st : List AV) (M : Mm) : run 156 12 [aR xg 12 xi, l1, l2] st M = run 156 13 [aR xg 12 xi, l1, l2] (aR xg 12 xi :: st) M := e_aldn d156_12 rfl
theorem d156_13 : decode (cod 156) 13 = .ok (.getfield 302, 3) := by decide +kernel
theorem r156_13 (l0 l1 l2 : AV) (xg xi : Nat) (st : List AV) (M : Mm) : run 156 13 [l0, l1, l2] (aR xg 12 xi :: st) M = run 156 16 [l0, l1, l2] (aI (M xg 12 xi 42) :: st) M := e_gfi d156_13 rfl rfl rfl
theorem d156_16 : decode (cod 156) 16 = .ok (.bipush 20, 2) := by decide +kernel
theorem r156_16 (l0 l1 l2 : AV) (st : List AV) (M : Mm) : run 156 16 [l0, l1, l2] st M = run 156 18 [l0, l1, l2] (aI 20 :: st) M := e_bipush 20 d156_16 (by decide +kernel)
theorem d156_18 : decode (cod 156) 18 = .ok (.if_icmp .ne 6, 3) := by decide +kernel
theorem r156_18 (l0 l1 l2 : AV) (a b : Int32) (st : List AV) (M : Mm) : run 156 18 [l0, l1, l2] (aI b :: aI a :: st) M = if a = b then run 156 21 [l0, l1, l2] st M else run 156 24 [l0, l1, l2] st M := e_ne2 24 d156_18 (by decide)
theorem d156_21 : decode (cod 156) 21 = .ok (.bipush (-6), 2) := by decide +kernel
theorem r156_21 (l0 l1 l2 : AV) (st : List AV) (M : Mm) : run 156 21 [l0, l1, l2] st M = run 156 23 [l0, l1, l2] (aI (-6) :: st) M := e_bipush (-6) d156_21 (by decide +kernel)
theorem d156_23 : decode (cod 156) 23 = .ok (.istore_n 2, 1) := by decide +kernel
theorem r156_23 (l0 l1 l2 : AV) (x : Int32) (st : List AV) (M : Mm) : run 156 23 [l0, l1, l2] (aI x :: st) M = run 156 24 [l0, l1, aI x] st M := e_istn [l0, l1, aI x] d156_23 rfl rfl
theorem d156_24 : decode (cod 156) 24 = .ok (.iload_n 2, 1) := by decide +kernel
theorem r156_24 (l0 l1 : AV) (x : Int32) (st : List AV) (M : Mm) : run 156 24 [l0, l1, aI x] st M = run 156 25 [l0, l1, aI x] (aI x :: st) M := e_ildn d156_24 rfl
theorem d156_25 : decode (cod 156) 25 = .ok (.ifCond .eq 9, 3) := by decide +kernel
theorem r156_25 (l0 l1 l2 : AV) (a : Int32) (st : List AV) (M : Mm) : run 156 25 [l0, l1, l2] (aI a :: st) M = if a = 0 then run 156 34 [l0, l1, l2] st M else run 156 28 [l0, l1, l2] st M := e_eq1 34 d156_25 (by decide)
theorem d156_28 : decode (cod 156) 28 = .ok (.aload_n 0, 1) := by decide +kernel
theorem r156_28 (l1 l2 : AV) (xg xi : Nat) (st : List AV) (M : Mm) : run 156 28 [aR xg 12 xi, l1, l2] st M = run 156 29 [aR xg 12 xi, l1, l2] (aR xg 12 xi :: st) M := e_aldn d156_28 rfl
theorem d156_29 : decode (cod 156) 29 = .ok (.iload_n 2, 1) := by decide +kernel
theorem r156_29 (l0 l1 : AV) (x : Int32) (st : List AV) (M : Mm) : run 156 29 [l0, l1, aI x] st M = run 156 30 [l0, l1, aI x] (aI x :: st) M := e_ildn d156_29 rfl
theorem d156_30 : decode (cod 156) 30 = .ok (.invokevirtual 89, 3) := by decide +kernel
theorem r156_30 (l0 l1 l2 : AV) (a0g a0i : Nat) (a1 : Int32) (M : Mm) : run 156 30 [l0, l1, l2] [aI a1, aR a0g 12 a0i] M = cbI (call 81 [aR a0g 12 a0i, aI a1] M) (fun v M => run 156 33 [l0, l1, l2] [aI v] M) := call_I (n := 2) rfl false d156_30 rfl rfl rfl rfl rfl rfl rfl
theorem d156_33 : decode (cod 156) 33 = .ok (.ireturn, 1) := by decide +kernel
theorem r156_33 (l0 l1 l2 : AV) (v : Int32) (M : Mm) : run 156 33 [l0, l1, l2] [aI v] M = some (some v, M) := e_iret d156_33 rfl
theorem d156_34 : decode (cod 156) 34 = .ok (.aload_n 0, 1) := by decide +kernel
theorem r156_34 (l1 l2 : AV) (xg xi : Nat) (st : List AV) (M : Mm) : run 156 34 [aR xg 12 xi, l1, l2] st M = run 156 35 [aR xg 12 xi, l1, l2] (aR xg 12 xi :: st) M := e_aldn d156_34 rfl
theorem d156_35 : decode (cod 156) 35 = .ok (.getfield 67, 3) := by decide +kernel
theorem r156_35 (l0 l1 l2 : AV) (xg xi : Nat) (st : List AV) (M : Mm) : run 156 35 [l0, l1, l2] (aR xg 12 xi :: st) M = run 156 38 [l0, l1, l2] (aR 4 32 0 :: st) M := e_gfr (fun g => (4, 32, 0)) d156_35 rfl rfl rfl
theorem d156_38 : decode (cod 156) 38 = .ok (.aload_n 0, 1) := by decide +kernel
theorem r156_38 (l1 l2 : AV) (xg xi : Nat) (st : List AV) (M : Mm) : run 156 38 [aR xg 12 xi, l1, l2] st M = run 156 39 [aR xg 12 xi, l1, l2] (aR xg 12 xi :: st) M := e_aldn d156_38 rfl
theorem d156_39 : decode (cod 156) 39 = .ok (.getfield 302, 3) := by decide +kernel
theorem r156_39 (l0 l1 l2 : AV) (xg xi : Nat) (st : List AV) (M : Mm) : run 156 39 [l0, l1, l2] (aR xg 12 xi :: st) M = run 156 42 [l0, l1, l2] (aI (M xg 12 xi 42) :: st) M := e_gfi d156_39 rfl rfl rfl
theorem d156_42 : decode (cod 156) 42 = .ok (.iload_n 1, 1) := by decide +kernel
theorem r156_42 (l0 l2 : AV) (x : Int32) (st : List AV) (M : Mm) : run 156 42 [l0, aI x, l2] st M = run 156 43 [l0, aI x, l2] (aI x :: st) M := e_ildn d156_42 rfl
theorem d156_43 : decode (cod 156) 43 = .ok (.iastore, 1) := by decide +kernel
theorem r156_43 (l0 l1 l2 : AV) (v i : Int32) (xg xi : Nat) (st : List AV) (M : Mm) : run 156 43 [l0, l1, l2] (aI v :: aI i :: aR xg 32 xi :: st) M = if vpB i 20 = true then run 156 44 [l0, l1, l2] st (wr M xg 32 xi i.toNatClampNeg v) else none := e_ias d156_43 rfl rfl
theorem d156_44 : decode (cod 156) 44 = .ok (.aload_n 0, 1) := by decide +kernel
theorem r156_44 (l1 l2 : AV) (xg xi : Nat) (st : List AV) (M : Mm) : run 156 44 [aR xg 12 xi, l1, l2] st M = run 156 45 [aR xg 12 xi, l1, l2] (aR xg 12 xi :: st) M := e_aldn d156_44 rfl
theorem d156_45 : decode (cod 156) 45 = .ok (.dup, 1) := by decide +kernel
theorem r156_45 (l0 l1 l2 : AV) (xg xi : Nat) (st : List AV) (M : Mm) : run 156 45 [l0, l1, l2] (aR xg 12 xi :: st) M = run 156 46 [l0, l1, l2] (aR xg 12 xi :: aR xg 12 xi :: st) M := e_dup d156_45
theorem d156_46 : decode (cod 156) 46 = .ok (.getfield 302, 3) := by decide +kernel
theorem r156_46 (l0 l1 l2 : AV) (xg xi : Nat) (st : List AV) (M : Mm) : run 156 46 [l0, l1, l2] (aR xg 12 xi :: st) M = run 156 49 [l0, l1, l2] (aI (M xg 12 xi 42) :: st) M := e_gfi d156_46 rfl rfl rfl
theorem d156_49 : decode (cod 156) 49 = .ok (.iconst 1, 1) := by decide +kernel
theorem r156_49 (l0 l1 l2 : AV) (st : List AV) (M : Mm) : run 156 49 [l0, l1, l2] st M = run 156 50 [l0, l1, l2] (aI 1 :: st) M := e_iconst 1 d156_49 (by decide +kernel)
theorem d156_50 : decode (cod 156) 50 = .ok (.iadd, 1) := by decide +kernel
theorem r156_50 (l0 l1 l2 : AV) (a b : Int32) (st : List AV) (M : Mm) : run 156 50 [l0, l1, l2] (aI b :: aI a :: st) M = run 156 51 [l0, l1, l2] (aI (a + b) :: st) M := e_iadd d156_50
theorem d156_51 : decode (cod 156) 51 = .ok (.putfield 302, 3) := by decide +kernel
theorem r156_51 (l0 l1 l2 : AV) (v : Int32) (xg xi : Nat) (st : List AV) (M : Mm) : run 156 51 [l0, l1, l2] (aI v :: aR xg 12 xi :: st) M = run 156 54 [l0, l1, l2] st (wr M xg 12 xi 42 v) := e_pfi d156_51 rfl rfl rfl rfl
theorem d156_54 : decode (cod 156) 54 = .ok (.aload_n 0, 1) := by decide +kernel
theorem r156_54 (l1 l2 : AV) (xg xi : Nat) (st : List AV) (M : Mm) : run 156 54 [aR xg 12 xi, l1, l2] st M = run 156 55 [aR xg 12 xi, l1, l2] (aR xg 12 xi :: st) M := e_aldn d156_54 rfl
theorem d156_55 : decode (cod 156) 55 = .ok (.getfield 302, 3) := by decide +kernel
theorem r156_55 (l0 l1 l2 : AV) (xg xi : Nat) (st : List AV) (M : Mm) : run 156 55 [l0, l1, l2] (aR xg 12 xi :: st) M = run 156 58 [l0, l1, l2] (aI (M xg 12 xi 42) :: st) M := e_gfi d156_55 rfl rfl rfl
theorem d156_58 : decode (cod 156) 58 = .ok (.ireturn, 1) := by decide +kernel
theorem r156_58 (l0 l1 l2 : AV) (v : Int32) (M : Mm) : run 156 58 [l0, l1, l2] [aI v] M = some (some v, M) := e_iret d156_58 rfl
