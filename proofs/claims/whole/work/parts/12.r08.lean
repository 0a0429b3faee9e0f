theorem c157 (g0 i0 : Nat) (M : Mm) : call 157 [aR g0 12 i0] M = run 157 0 [aR g0 12 i0, none, none] [] M := call_run 157 _ _
theorem d157_0 : decode (cod 157) 0 = .ok (.aload_n 0, 1) := by decide +kernel
theorem r157_0 (l1 l2 : AV) (xg xi : Nat) (st : List AV) (M : Mm) : run 157 0 [aR xg 12 xi, l1, l2] st M = run 157 1 [aR xg 12 xi, l1, l2] (aR xg 12 xi :: st) M := e_aldn d157_0 rfl
theorem d157_1 : decode (cod 157) 1 = .ok (.getfield 302, 3) := by decide +kernel
theorem r157_1 (l0 l1 l2 : AV) (xg xi : Nat) (st : List AV) (M : Mm) : run 157 1 [l0, l1, l2] (aR xg 12 xi :: st) M = run 157 4 [l0, l1, l2] (aI (M xg 12 xi 42) :: st) M := e_gfi d157_1 rfl rfl rfl
theorem d157_4 : decode (cod 157) 4 = .ok (.istore_n 1, 1) := by decide +kernel
theorem r157_4 (l0 l1 l2 : AV) (x : Int32) (st : List AV) (M : Mm) : run 157 4 [l0, l1, l2] (aI x :: st) M = run 157 5 [l0, aI x, l2] st M := e_istn [l0, aI x, l2] d157_4 rfl rfl
theorem d157_5 : decode (cod 157) 5 = .ok (.aload_n 0, 1) := by decide +kernel
theorem r157_5 (l1 l2 : AV) (xg xi : Nat) (st : List AV) (M : Mm) : run 157 5 [aR xg 12 xi, l1, l2] st M = run 157 6 [aR xg 12 xi, l1, l2] (aR xg 12 xi :: st) M := e_aldn d157_5 rfl
theorem d157_6 : decode (cod 157) 6 = .ok (.iconst 0, 1) := by decide +kernel
theorem r157_6 (l0 l1 l2 : AV) (st : List AV) (M : Mm) : run 157 6 [l0, l1, l2] st M = run 157 7 [l0, l1, l2] (aI 0 :: st) M := e_iconst 0 d157_6 (by decide +kernel)
theorem d157_7 : decode (cod 157) 7 = .ok (.putfield 302, 3) := by decide +kernel
theorem r157_7 (l0 l1 l2 : AV) (v : Int32) (xg xi : Nat) (st : List AV) (M : Mm) : run 157 7 [l0, l1, l2] (aI v :: aR xg 12 xi :: st) M = run 157 10 [l0, l1, l2] st (wr M xg 12 xi 42 v) := e_pfi d157_7 rfl rfl rfl rfl
theorem d157_10 : decode (cod 157) 10 = .ok (.aload_n 0, 1) := by decide +kernel
theorem r157_10 (l1 l2 : AV) (xg xi : Nat) (st : List AV) (M : Mm) : run 157 10 [aR xg 12 xi, l1, l2] st M = run 157 11 [aR xg 12 xi, l1, l2] (aR xg 12 xi :: st) M := e_aldn d157_10 rfl
theorem d157_11 : decode (cod 157) 11 = .ok (.sipush 240, 3) := by decide +kernel
theorem r157_11 (l0 l1 l2 : AV) (st : List AV) (M : Mm) : run 157 11 [l0, l1, l2] st M = run 157 14 [l0, l1, l2] (aI 240 :: st) M := e_sipush 240 d157_11 (by decide +kernel)
theorem d157_14 : decode (cod 157) 14 = .ok (.invokevirtual 284, 3) := by decide +kernel
theorem r157_14 (l0 l1 l2 : AV) (a0g a0i : Nat) (a1 : Int32) (M : Mm) : run 157 14 [l0, l1, l2] [aI a1, aR a0g 12 a0i] M = cbV (call 130 [aR a0g 12 a0i, aI a1] M) (fun M => run 157 17 [l0, l1, l2] [] M) := call_V (n := 2) rfl false d157_14 rfl rfl rfl rfl rfl rfl rfl
theorem d157_17 : decode (cod 157) 17 = .ok (.iconst 0, 1) := by decide +kernel
theorem r157_17 (l0 l1 l2 : AV) (st : List AV) (M : Mm) : run 157 17 [l0, l1, l2] st M = run 157 18 [l0, l1, l2] (aI 0 :: st) M := e_iconst 0 d157_17 (by decide +kernel)
theorem d157_18 : decode (cod 157) 18 = .ok (.istore_n 2, 1) := by decide +kernel
theorem r157_18 (l0 l1 l2 : AV) (x : Int32) (st : List AV) (M : Mm) : run 157 18 [l0, l1, l2] (aI x :: st) M = run 157 19 [l0, l1, aI x] st M := e_istn [l0, l1, aI x] d157_18 rfl rfl
theorem d157_19 : decode (cod 157) 19 = .ok (.iload_n 2, 1) := by decide +kernel
theorem r157_19 (l0 l1 : AV) (x : Int32) (st : List AV) (M : Mm) : run 157 19 [l0, l1, aI x] st M = run 157 20 [l0, l1, aI x] (aI x :: st) M := e_ildn d157_19 rfl
theorem d157_20 : decode (cod 157) 20 = .ok (.iload_n 1, 1) := by decide +kernel
theorem r157_20 (l0 l2 : AV) (x : Int32) (st : List AV) (M : Mm) : run 157 20 [l0, aI x, l2] st M = run 157 21 [l0, aI x, l2] (aI x :: st) M := e_ildn d157_20 rfl
theorem d157_21 : decode (cod 157) 21 = .ok (.if_icmp .ge 34, 3) := by decide +kernel
theorem r157_21 (l0 l1 l2 : AV) (a b : Int32) (st : List AV) (M : Mm) : run 157 21 [l0, l1, l2] (aI b :: aI a :: st) M = if a < b then run 157 24 [l0, l1, l2] st M else run 157 55 [l0, l1, l2] st M := e_ge2 55 d157_21 (by decide)
theorem d157_24 : decode (cod 157) 24 = .ok (.iload_n 2, 1) := by decide +kernel
theorem r157_24 (l0 l1 : AV) (x : Int32) (st : List AV) (M : Mm) : run 157 24 [l0, l1, aI x] st M = run 157 25 [l0, l1, aI x] (aI x :: st) M := e_ildn d157_24 rfl
theorem d157_25 : decode (cod 157) 25 = .ok (.aload_n 0, 1) := by decide +kernel
theorem r157_25 (l1 l2 : AV) (xg xi : Nat) (st : List AV) (M : Mm) : run 157 25 [aR xg 12 xi, l1, l2] st M = run 157 26 [aR xg 12 xi, l1, l2] (aR xg 12 xi :: st) M := e_aldn d157_25 rfl
theorem d157_26 : decode (cod 157) 26 = .ok (.getfield 205, 3) := by decide +kernel
theorem r157_26 (l0 l1 l2 : AV) (xg xi : Nat) (st : List AV) (M : Mm) : run 157 26 [l0, l1, l2] (aR xg 12 xi :: st) M = run 157 29 [l0, l1, l2] (aI (M xg 12 xi 33) :: st) M := e_gfi d157_26 rfl rfl rfl
theorem d157_29 : decode (cod 157) 29 = .ok (.if_icmp .ge 18, 3) := by decide +kernel
theorem r157_29 (l0 l1 l2 : AV) (a b : Int32) (st : List AV) (M : Mm) : run 157 29 [l0, l1, l2] (aI b :: aI a :: st) M = if a < b then run 157 32 [l0, l1, l2] st M else run 157 47 [l0, l1, l2] st M := e_ge2 47 d157_29 (by decide)
theorem d157_32 : decode (cod 157) 32 = .ok (.aload_n 0, 1) := by decide +kernel
theorem r157_32 (l1 l2 : AV) (xg xi : Nat) (st : List AV) (M : Mm) : run 157 32 [aR xg 12 xi, l1, l2] st M = run 157 33 [aR xg 12 xi, l1, l2] (aR xg 12 xi :: st) M := e_aldn d157_32 rfl
theorem d157_33 : decode (cod 157) 33 = .ok (.getfield 64, 3) := by decide +kernel
theorem r157_33 (l0 l1 l2 : AV) (xg xi : Nat) (st : List AV) (M : Mm) : run 157 33 [l0, l1, l2] (aR xg 12 xi :: st) M = run 157 36 [l0, l1, l2] (aR 4 31 0 :: st) M := e_gfr (fun g => (4, 31, 0)) d157_33 rfl rfl rfl
theorem d157_36 : decode (cod 157) 36 = .ok (.iload_n 2, 1) := by decide +kernel
theorem r157_36 (l0 l1 : AV) (x : Int32) (st : List AV) (M : Mm) : run 157 36 [l0, l1, aI x] st M = run 157 37 [l0, l1, aI x] (aI x :: st) M := e_ildn d157_36 rfl
theorem d157_37 : decode (cod 157) 37 = .ok (.iaload, 1) := by decide +kernel
theorem r157_37 (l0 l1 l2 : AV) (i : Int32) (xg xi : Nat) (st : List AV) (M : Mm) : run 157 37 [l0, l1, l2] (aI i :: aR xg 31 xi :: st) M = if vpB i 800 = true then run 157 38 [l0, l1, l2] (aI (M xg 31 xi i.toNatClampNeg) :: st) M else none := e_ial d157_37 rfl rfl
theorem d157_38 : decode (cod 157) 38 = .ok (.aload_n 0, 1) := by decide +kernel
theorem r157_38 (l1 l2 : AV) (xg xi : Nat) (st : List AV) (M : Mm) : run 157 38 [aR xg 12 xi, l1, l2] st M = run 157 39 [aR xg 12 xi, l1, l2] (aR xg 12 xi :: st) M := e_aldn d157_38 rfl
theorem d157_39 : decode (cod 157) 39 = .ok (.getfield 67, 3) := by decide +kernel
theorem r157_39 (l0 l1 l2 : AV) (xg xi : Nat) (st : List AV) (M : Mm) : run 157 39 [l0, l1, l2] (aR xg 12 xi :: st) M = run 157 42 [l0, l1, l2] (aR 4 32 0 :: st) M := e_gfr (fun g => (4, 32, 0)) d157_39 rfl rfl rfl
theorem d157_42 : decode (cod 157) 42 = .ok (.iload_n 2, 1) := by decide +kernel
theorem r157_42 (l0 l1 : AV) (x : Int32) (st : List AV) (M : Mm) : run 157 42 [l0, l1, aI x] st M = run 157 43 [l0, l1, aI x] (aI x :: st) M := e_ildn d157_42 rfl
theorem d157_43 : decode (cod 157) 43 = .ok (.iaload, 1) := by decide +kernel
theorem r157_43 (l0 l1 l2 : AV) (i : Int32) (xg xi : Nat) (st : List AV) (M : Mm) : run 157 43 [l0, l1, l2] (aI i :: aR xg 32 xi :: st) M = if vpB i 20 = true then run 157 44 [l0, l1, l2] (aI (M xg 32 xi i.toNatClampNeg) :: st) M else none := e_ial d157_43 rfl rfl
theorem d157_44 : decode (cod 157) 44 = .ok (.if_icmp .eq 5, 3) := by decide +kernel
theorem r157_44 (l0 l1 l2 : AV) (a b : Int32) (st : List AV) (M : Mm) : run 157 44 [l0, l1, l2] (aI b :: aI a :: st) M = if a = b then run 157 49 [l0, l1, l2] st M else run 157 47 [l0, l1, l2] st M := e_eq2 49 d157_44 (by decide)
theorem d157_47 : decode (cod 157) 47 = .ok (.iload_n 2, 1) := by decide +kernel
theorem r157_47 (l0 l1 : AV) (x : Int32) (st : List AV) (M : Mm) : run 157 47 [l0, l1, aI x] st M = run 157 48 [l0, l1, aI x] (aI x :: st) M := e_ildn d157_47 rfl
theorem d157_48 : decode (cod 157) 48 = .ok (.ireturn, 1) := by decide +kernel
theorem r157_48 (l0 l1 l2 : AV) (v : Int32) (M : Mm) : run 157 48 [l0, l1, l2] [aI v] M = some (some v, M) := e_iret d157_48 rfl
theorem d157_49 : decode (cod 157) 49 = .ok (.iinc 2 1, 3) := by decide +kernel
theorem r157_49 (l0 l1 : AV) (x : Int32) (st : List AV) (M : Mm) : run 157 49 [l0, l1, aI x] st M = run 157 52 [l0, l1, aI (x + 1)] st M := e_iinc 1 [l0, l1, aI (x + 1)] d157_49 (by decide +kernel) rfl rfl
theorem d157_52 : decode (cod 157) 52 = .ok (.goto (-33), 3) := by decide +kernel
theorem r157_52 (l0 l1 l2 : AV) (st : List AV) (M : Mm) : run 157 52 [l0, l1, l2] st M = run 157 19 [l0, l1, l2] st M := e_goto 19 d157_52 (by decide)
theorem d157_55 : decode (cod 157) 55 = .ok (.bipush (-9), 2) := by decide +kernel
theorem r157_55 (l0 l1 l2 : AV) (st : List AV) (M : Mm) : run 157 55 [l0, l1, l2] st M = run 157 57 [l0, l1, l2] (aI (-9) :: st) M := e_bipush (-9) d157_55 (by decide +kernel)
theorem d157_57 : decode (cod 157) 57 = .ok (.ireturn, 1) := by decide +kernel
theorem r157_57 (l0 l1 l2 : AV) (v : Int32) (M : Mm) : run 157 57 [l0, l1, l2] [aI v] M = some (some v, M) := e_iret d157_57 rfl
theorem c158 (g0 i0 : Nat) (x1 : Int32) (M : Mm) : call 158 [aR g0 12 i0, aI x1] M = run 158 0 [aR g0 12 i0, aI x1] [] M := call_run 158 _ _
theorem d158_0 : decode (cod 158) 0 = .ok (.aload_n 0, 1) := by decide +kernel
theorem r158_0 (l1 : AV) (xg xi : Nat) (st : List AV) (M : Mm) : run 158 0 [aR xg 12 xi, l1] st M = run 158 1 [aR xg 12 xi, l1] (aR xg 12 xi :: st) M := e_aldn d158_0 rfl
theorem d158_1 : decode (cod 158) 1 = .ok (.aload_n 0, 1) := by decide +kernel
theorem r158_1 (l1 : AV) (xg xi : Nat) (st : List AV) (M : Mm) : run 158 1 [aR xg 12 xi, l1] st M = run 158 2 [aR xg 12 xi, l1] (aR xg 12 xi :: st) M := e_aldn d158_1 rfl
theorem d158_2 : decode (cod 158) 2 = .ok (.getfield 305, 3) := by decide +kernel
theorem r158_2 (l0 l1 : AV) (xg xi : Nat) (st : List AV) (M : Mm) : run 158 2 [l0, l1] (aR xg 12 xi :: st) M = run 158 5 [l0, l1] (aI (M xg 12 xi 43) :: st) M := e_gfi d158_2 rfl rfl rfl
theorem d158_5 : decode (cod 158) 5 = .ok (.ldc_w 308, 3) := by decide +kernel
theorem r158_5 (l0 l1 : AV) (st : List AV) (M : Mm) : run 158 5 [l0, l1] st M = run 158 8 [l0, l1] (aI 1664525 :: st) M := e_ldcw d158_5 rfl
theorem d158_8 : decode (cod 158) 8 = .ok (.imul, 1) := by decide +kernel
theorem r158_8 (l0 l1 : AV) (a b : Int32) (st : List AV) (M : Mm) : run 158 8 [l0, l1] (aI b :: aI a :: st) M = run 158 9 [l0, l1] (aI (a * b) :: st) M := e_imul d158_8
theorem d158_9 : decode (cod 158) 9 = .ok (.ldc_w 309, 3) := by decide +kernel
theorem r158_9 (l0 l1 : AV) (st : List AV) (M : Mm) : run 158 9 [l0, l1] st M = run 158 12 [l0, l1] (aI 1013904223 :: st) M := e_ldcw d158_9 rfl
theorem d158_12 : decode (cod 158) 12 = .ok (.iadd, 1) := by decide +kernel
theorem r158_12 (l0 l1 : AV) (a b : Int32) (st : List AV) (M : Mm) : run 158 12 [l0, l1] (aI b :: aI a :: st) M = run 158 13 [l0, l1] (aI (a + b) :: st) M := e_iadd d158_12
theorem d158_13 : decode (cod 158) 13 = .ok (.putfield 305, 3) := by decide +kernel
theorem r158_13 (l0 l1 : AV) (v : Int32) (xg xi : Nat) (st : List AV) (M : Mm) : run 158 13 [l0, l1] (aI v :: aR xg 12 xi :: st) M = run 158 16 [l0, l1] st (wr M xg 12 xi 43 v) := e_pfi d158_13 rfl rfl rfl rfl
theorem d158_16 : decode (cod 158) 16 = .ok (.aload_n 0, 1) := by decide +kernel
theorem r158_16 (l1 : AV) (xg xi : Nat) (st : List AV) (M : Mm) : run 158 16 [aR xg 12 xi, l1] st M = run 158 17 [aR xg 12 xi, l1] (aR xg 12 xi :: st) M := e_aldn d158_16 rfl
theorem d158_17 : decode (cod 158) 17 = .ok (.getfield 305, 3) := by decide +kernel
theorem r158_17 (l0 l1 : AV) (xg xi : Nat) (st : List AV) (M : Mm) : run 158 17 [l0, l1] (aR xg 12 xi :: st) M = run 158 20 [l0, l1] (aI (M xg 12 xi 43) :: st) M := e_gfi d158_17 rfl rfl rfl
theorem d158_20 : decode (cod 158) 20 = .ok (.ldc_w 310, 3) := by decide +kernel
theorem r158_20 (l0 l1 : AV) (st : List AV) (M : Mm) : run 158 20 [l0, l1] st M = run 158 23 [l0, l1] (aI 2147483647 :: st) M := e_ldcw d158_20 rfl
theorem d158_23 : decode (cod 158) 23 = .ok (.iand, 1) := by decide +kernel
theorem r158_23 (l0 l1 : AV) (a b : Int32) (st : List AV) (M : Mm) : run 158 23 [l0, l1] (aI b :: aI a :: st) M = run 158 24 [l0, l1] (aI (a &&& b) :: st) M := e_iand d158_23
theorem d158_24 : decode (cod 158) 24 = .ok (.sipush 256, 3) := by decide +kernel
theorem r158_24 (l0 l1 : AV) (st : List AV) (M : Mm) : run 158 24 [l0, l1] st M = run 158 27 [l0, l1] (aI 256 :: st) M := e_sipush 256 d158_24 (by decide +kernel)
theorem d158_27 : decode (cod 158) 27 = .ok (.idiv, 1) := by decide +kernel
theorem r158_27 (l0 l1 : AV) (a b : Int32) (st : List AV) (M : Mm) : run 158 27 [l0, l1] (aI b :: aI a :: st) M = if b = 0 then none else run 158 28 [l0, l1] (aI (a / b) :: st) M := e_idiv d158_27
theorem d158_28 : decode (cod 158) 28 = .ok (.iload_n 1, 1) := by decide +kernel
theorem r158_28 (l0 : AV) (x : Int32) (st : List AV) (M : Mm) : run 158 28 [l0, aI x] st M = run 158 29 [l0, aI x] (aI x :: st) M := e_ildn d158_28 rfl
theorem d158_29 : decode (cod 158) 29 = .ok (.irem, 1) := by decide +kernel
theorem r158_29 (l0 l1 : AV) (a b : Int32) (st : List AV) (M : Mm) : run 158 29 [l0, l1] (aI b :: aI a :: st) M = if b = 0 then none else run 158 30 [l0, l1] (aI (a - a / b * b) :: st) M := e_irem d158_29
theorem d158_30 : decode (cod 158) 30 = .ok (.ireturn, 1) := by decide +kernel
theorem r158_30 (l0 l1 : AV) (v : Int32) (M : Mm) : run 158 30 [l0, l1] [aI v] M = some (some v, M) := e_iret d158_30 rfl
theorem c159 (g0 i0 : Nat) (x1 : Int32) (x2 : Int32) (M : Mm) : call 159 [aR g0 12 i0, aI x1, aI x2] M = run 159 0 [aR g0 12 i0, aI x1, aI x2, none, none, none, none] [] M := call_run 159 _ _
theorem d159_0 : decode (cod 159) 0 = .ok (.iload_n 1, 1) := by decide +kernel
theorem r159_0 (l0 l2 l3 l4 l5 l6 : AV) (x : Int32) (st : List AV) (M : Mm) : run 159 0 [l0, aI x, l2, l3, l4, l5, l6] st M = run 159 1 [l0, aI x, l2, l3, l4, l5, l6] (aI x :: st) M := e_ildn d159_0 rfl
theorem d159_1 : decode (cod 159) 1 = .ok (.iconst 1, 1) := by decide +kernel
theorem r159_1 (l0 l1 l2 l3 l4 l5 l6 : AV) (st : List AV) (M : Mm) : run 159 1 [l0, l1, l2, l3, l4, l5, l6] st M = run 159 2 [l0, l1, l2, l3, l4, l5, l6] (aI 1 :: st) M := e_iconst 1 d159_1 (by decide +kernel)
theorem d159_2 : decode (cod 159) 2 = .ok (.bipush 20, 2) := by decide +kernel
theorem r159_2 (l0 l1 l2 l3 l4 l5 l6 : AV) (st : List AV) (M : Mm) : run 159 2 [l0, l1, l2, l3, l4, l5, l6] st M = run 159 4 [l0, l1, l2, l3, l4, l5, l6] (aI 20 :: st) M := e_bipush 20 d159_2 (by decide +kernel)
theorem d159_4 : decode (cod 159) 4 = .ok (.invokestatic 82, 3) := by decide +kernel
theorem r159_4 (l0 l1 l2 l3 l4 l5 l6 : AV) (a0 : Int32) (a1 : Int32) (a2 : Int32) (M : Mm) : run 159 4 [l0, l1, l2, l3, l4, l5, l6] [aI a2, aI a1, aI a0] M = cbI (call 84 [aI a0, aI a1, aI a2] M) (fun v M => run 159 7 [l0, l1, l2, l3, l4, l5, l6] [aI v] M) := call_I (n := 3) rfl true d159_4 rfl rfl rfl rfl rfl rfl rfl
theorem d159_7 : decode (cod 159) 7 = .ok (.istore_n 3, 1) := by decide +kernel
theorem r159_7 (l0 l1 l2 l3 l4 l5 l6 : AV) (x : Int32) (st : List AV) (M : Mm) : run 159 7 [l0, l1, l2, l3, l4, l5, l6] (aI x :: st) M = run 159 8 [l0, l1, l2, aI x, l4, l5, l6] st M := e_istn [l0, l1, l2, aI x, l4, l5, l6] d159_7 rfl rfl
theorem d159_8 : decode (cod 159) 8 = .ok (.iload_n 3, 1) := by decide +kernel
theorem r159_8 (l0 l1 l2 l4 l5 l6 : AV) (x : Int32) (st : List AV) (M : Mm) : run 159 8 [l0, l1, l2, aI x, l4, l5, l6] st M = run 159 9 [l0, l1, l2, aI x, l4, l5, l6] (aI x :: st) M := e_ildn d159_8 rfl
theorem d159_9 : decode (cod 159) 9 = .ok (.ifCond .eq 9, 3) := by decide +kernel
theorem r159_9 (l0 l1 l2 l3 l4 l5 l6 : AV) (a : Int32) (st : List AV) (M : Mm) : run 159 9 [l0, l1, l2, l3, l4, l5, l6] (aI a :: st) M = if a = 0 then run 159 18 [l0, l1, l2, l3, l4, l5, l6] st M else run 159 12 [l0, l1, l2, l3, l4, l5, l6] st M := e_eq1 18 d159_9 (by decide)
theorem d159_12 : decode (cod 159) 12 = .ok (.aload_n 0, 1) := by decide +kernel
theorem r159_12 (l1 l2 l3 l4 l5 l6 : AV) (xg xi : Nat) (st : List AV) (M : Mm) : run 159 12 [aR xg 12 xi, l1, l2, l3, l4, l5, l6] st M = run 159 13 [aR xg 12 xi, l1, l2, l3, l4, l5, l6] (aR xg 12 xi :: st) M := e_aldn d159_12 rfl
theorem d159_13 : decode (cod 159) 13 = .ok (.iload_n 3, 1) := by decide +kernel
theorem r159_13 (l0 l1 l2 l4 l5 l6 : AV) (x : Int32) (st : List AV) (M : Mm) : run 159 13 [l0, l1, l2, aI x, l4, l5, l6] st M = run 159 14 [l0, l1, l2, aI x, l4, l5, l6] (aI x :: st) M := e_ildn d159_13 rfl
theorem d159_14 : decode (cod 159) 14 = .ok (.invokevirtual 89, 3) := by decide +kernel
theorem r159_14 (l0 l1 l2 l3 l4 l5 l6 : AV) (a0g a0i : Nat) (a1 : Int32) (M : Mm) : run 159 14 [l0, l1, l2, l3, l4, l5, l6] [aI a1, aR a0g 12 a0i] M = cbI (call 81 [aR a0g 12 a0i, aI a1] M) (fun v M => run 159 17 [l0, l1, l2, l3, l4, l5, l6] [aI v] M) := call_I (n := 2) rfl false d159_14 rfl rfl rfl rfl rfl rfl rfl
theorem d159_17 : decode (cod 159) 17 = .ok (.ireturn, 1) := by decide +kernel
theorem r159_17 (l0 l1 l2 l3 l4 l5 l6 : AV) (v : Int32) (M : Mm) : run 159 17 [l0, l1, l2, l3, l4, l5, l6] [aI v] M = some (some v, M) := e_iret d159_17 rfl
theorem d159_18 : decode (cod 159) 18 = .ok (.aload_n 0, 1) := by decide +kernel
theorem r159_18 (l1 l2 l3 l4 l5 l6 : AV) (xg xi : Nat) (st : List AV) (M : Mm) : run 159 18 [aR xg 12 xi, l1, l2, l3, l4, l5, l6] st M = run 159 19 [aR xg 12 xi, l1, l2, l3, l4, l5, l6] (aR xg 12 xi :: st) M := e_aldn d159_18 rfl
theorem d159_19 : decode (cod 159) 19 = .ok (.iload_n 2, 1) := by decide +kernel
theorem r159_19 (l0 l1 l3 l4 l5 l6 : AV) (x : Int32) (st : List AV) (M : Mm) : run 159 19 [l0, l1, aI x, l3, l4, l5, l6] st M = run 159 20 [l0, l1, aI x, l3, l4, l5, l6] (aI x :: st) M := e_ildn d159_19 rfl
theorem d159_20 : decode (cod 159) 20 = .ok (.putfield 305, 3) := by decide +kernel
theorem r159_20 (l0 l1 l2 l3 l4 l5 l6 : AV) (v : Int32) (xg xi : Nat) (st : List AV) (M : Mm) : run 159 20 [l0, l1, l2, l3, l4, l5, l6] (aI v :: aR xg 12 xi :: st) M = run 159 23 [l0, l1, l2, l3, l4, l5, l6] st (wr M xg 12 xi 43 v) := e_pfi d159_20 rfl rfl rfl rfl
theorem d159_23 : decode (cod 159) 23 = .ok (.iconst 0, 1) := by decide +kernel
theorem r159_23 (l0 l1 l2 l3 l4 l5 l6 : AV) (st : List AV) (M : Mm) : run 159 23 [l0, l1, l2, l3, l4, l5, l6] st M = run 159 24 [l0, l1, l2, l3, l4, l5, l6] (aI 0 :: st) M := e_iconst 0 d159_23 (by decide +kernel)
theorem d159_24 : decode (cod 159) 24 = .ok (.istore 4, 2) := by decide +kernel
theorem r159_24 (l0 l1 l2 l3 l4 l5 l6 : AV) (x : Int32) (st : List AV) (M : Mm) : run 159 24 [l0, l1, l2, l3, l4, l5, l6] (aI x :: st) M = run 159 26 [l0, l1, l2, l3, aI x, l5, l6] st M := e_ist [l0, l1, l2, l3, aI x, l5, l6] d159_24 rfl rfl
theorem d159_26 : decode (cod 159) 26 = .ok (.iconst 0, 1) := by decide +kernel
theorem r159_26 (l0 l1 l2 l3 l4 l5 l6 : AV) (st : List AV) (M : Mm) : run 159 26 [l0, l1, l2, l3, l4, l5, l6] st M = run 159 27 [l0, l1, l2, l3, l4, l5, l6] (aI 0 :: st) M := e_iconst 0 d159_26 (by decide +kernel)
theorem d159_27 : decode (cod 159) 27 = .ok (.istore 5, 2) := by decide +kernel
theorem r159_27 (l0 l1 l2 l3 l4 l5 l6 : AV) (x : Int32) (st : List AV) (M : Mm) : run 159 27 [l0, l1, l2, l3, l4, l5, l6] (aI x :: st) M = run 159 29 [l0, l1, l2, l3, l4, aI x, l6] st M := e_ist [l0, l1, l2, l3, l4, aI x, l6] d159_27 rfl rfl
theorem d159_29 : decode (cod 159) 29 = .ok (.iload 5, 2) := by decide +kernel
theorem r159_29 (l0 l1 l2 l3 l4 l6 : AV) (x : Int32) (st : List AV) (M : Mm) : run 159 29 [l0, l1, l2, l3, l4, aI x, l6] st M = run 159 31 [l0, l1, l2, l3, l4, aI x, l6] (aI x :: st) M := e_ild d159_29 rfl
theorem d159_31 : decode (cod 159) 31 = .ok (.iload_n 1, 1) := by decide +kernel
theorem r159_31 (l0 l2 l3 l4 l5 l6 : AV) (x : Int32) (st : List AV) (M : Mm) : run 159 31 [l0, aI x, l2, l3, l4, l5, l6] st M = run 159 32 [l0, aI x, l2, l3, l4, l5, l6] (aI x :: st) M := e_ildn d159_31 rfl
theorem d159_32 : decode (cod 159) 32 = .ok (.if_icmp .ge 80, 3) := by decide +kernel
theorem r159_32 (l0 l1 l2 l3 l4 l5 l6 : AV) (a b : Int32) (st : List AV) (M : Mm) : run 159 32 [l0, l1, l2, l3, l4, l5, l6] (aI b :: aI a :: st) M = if a < b then run 159 35 [l0, l1, l2, l3, l4, l5, l6] st M else run 159 112 [l0, l1, l2, l3, l4, l5, l6] st M := e_ge2 112 d159_32 (by decide)
theorem d159_35 : decode (cod 159) 35 = .ok (.aload_n 0, 1) := by decide +kernel
theorem r159_35 (l1 l2 l3 l4 l5 l6 : AV) (xg xi : Nat) (st : List AV) (M : Mm) : run 159 35 [aR xg 12 xi, l1, l2, l3, l4, l5, l6] st M = run 159 36 [aR xg 12 xi, l1, l2, l3, l4, l5, l6] (aR xg 12 xi :: st) M := e_aldn d159_35 rfl
theorem d159_36 : decode (cod 159) 36 = .ok (.iconst 1, 1) := by decide +kernel
theorem r159_36 (l0 l1 l2 l3 l4 l5 l6 : AV) (st : List AV) (M : Mm) : run 159 36 [l0, l1, l2, l3, l4, l5, l6] st M = run 159 37 [l0, l1, l2, l3, l4, l5, l6] (aI 1 :: st) M := e_iconst 1 d159_36 (by decide +kernel)
theorem d159_37 : decode (cod 159) 37 = .ok (.iconst 1, 1) := by decide +kernel
theorem r159_37 (l0 l1 l2 l3 l4 l5 l6 : AV) (st : List AV) (M : Mm) : run 159 37 [l0, l1, l2, l3, l4, l5, l6] st M = run 159 38 [l0, l1, l2, l3, l4, l5, l6] (aI 1 :: st) M := e_iconst 1 d159_37 (by decide +kernel)
theorem d159_38 : decode (cod 159) 38 = .ok (.invokevirtual 150, 3) := by decide +kernel
theorem r159_38 (l0 l1 l2 l3 l4 l5 l6 : AV) (a0g a0i : Nat) (a1 : Int32) (a2 : Int32) (M : Mm) : run 159 38 [l0, l1, l2, l3, l4, l5, l6] [aI a2, aI a1, aR a0g 12 a0i] M = cbV (call 103 [aR a0g 12 a0i, aI a1, aI a2] M) (fun M => run 159 41 [l0, l1, l2, l3, l4, l5, l6] [] M) := call_V (n := 3) rfl false d159_38 rfl rfl rfl rfl rfl rfl rfl
theorem d159_41 : decode (cod 159) 41 = .ok (.iconst 0, 1) := by decide +kernel
theorem r159_41 (l0 l1 l2 l3 l4 l5 l6 : AV) (st : List AV) (M : Mm) : run 159 41 [l0, l1, l2, l3, l4, l5, l6] st M = run 159 42 [l0, l1, l2, l3, l4, l5, l6] (aI 0 :: st) M := e_iconst 0 d159_41 (by decide +kernel)
theorem d159_42 : decode (cod 159) 42 = .ok (.istore 6, 2) := by decide +kernel
theorem r159_42 (l0 l1 l2 l3 l4 l5 l6 : AV) (x : Int32) (st : List AV) (M : Mm) : run 159 42 [l0, l1, l2, l3, l4, l5, l6] (aI x :: st) M = run 159 44 [l0, l1, l2, l3, l4, l5, aI x] st M := e_ist [l0, l1, l2, l3, l4, l5, aI x] d159_42 rfl rfl
theorem d159_44 : decode (cod 159) 44 = .ok (.iload 6, 2) := by decide +kernel
theorem r159_44 (l0 l1 l2 l3 l4 l5 : AV) (x : Int32) (st : List AV) (M : Mm) : run 159 44 [l0, l1, l2, l3, l4, l5, aI x] st M = run 159 46 [l0, l1, l2, l3, l4, l5, aI x] (aI x :: st) M := e_ild d159_44 rfl
theorem d159_46 : decode (cod 159) 46 = .ok (.aload_n 0, 1) := by decide +kernel
theorem r159_46 (l1 l2 l3 l4 l5 l6 : AV) (xg xi : Nat) (st : List AV) (M : Mm) : run 159 46 [aR xg 12 xi, l1, l2, l3, l4, l5, l6] st M = run 159 47 [aR xg 12 xi, l1, l2, l3, l4, l5, l6] (aR xg 12 xi :: st) M := e_aldn d159_46 rfl
theorem d159_47 : decode (cod 159) 47 = .ok (.getfield 79, 3) := by decide +kernel
theorem r159_47 (l0 l1 l2 l3 l4 l5 l6 : AV) (xg xi : Nat) (st : List AV) (M : Mm) : run 159 47 [l0, l1, l2, l3, l4, l5, l6] (aR xg 12 xi :: st) M = run 159 50 [l0, l1, l2, l3, l4, l5, l6] (aI (M xg 12 xi 10) :: st) M := e_gfi d159_47 rfl rfl rfl
theorem d159_50 : decode (cod 159) 50 = .ok (.if_icmp .ge 35, 3) := by decide +kernel
theorem r159_50 (l0 l1 l2 l3 l4 l5 l6 : AV) (a b : Int32) (st : List AV) (M : Mm) : run 159 50 [l0, l1, l2, l3, l4, l5, l6] (aI b :: aI a :: st) M = if a < b then run 159 53 [l0, l1, l2, l3, l4, l5, l6] st M else run 159 85 [l0, l1, l2, l3, l4, l5, l6] st M := e_ge2 85 d159_50 (by decide)
theorem d159_53 : decode (cod 159) 53 = .ok (.aload_n 0, 1) := by decide +kernel
theorem r159_53 (l1 l2 l3 l4 l5 l6 : AV) (xg xi : Nat) (st : List AV) (M : Mm) : run 159 53 [aR xg 12 xi, l1, l2, l3, l4, l5, l6] st M = run 159 54 [aR xg 12 xi, l1, l2, l3, l4, l5, l6] (aR xg 12 xi :: st) M := e_aldn d159_53 rfl
theorem d159_54 : decode (cod 159) 54 = .ok (.getfield 22, 3) := by decide +kernel
theorem r159_54 (l0 l1 l2 l3 l4 l5 l6 : AV) (xg xi : Nat) (st : List AV) (M : Mm) : run 159 54 [l0, l1, l2, l3, l4, l5, l6] (aR xg 12 xi :: st) M = run 159 57 [l0, l1, l2, l3, l4, l5, l6] (aR 4 17 0 :: st) M := e_gfr (fun g => (4, 17, 0)) d159_54 rfl rfl rfl
theorem d159_57 : decode (cod 159) 57 = .ok (.iload 6, 2) := by decide +kernel
theorem r159_57 (l0 l1 l2 l3 l4 l5 : AV) (x : Int32) (st : List AV) (M : Mm) : run 159 57 [l0, l1, l2, l3, l4, l5, aI x] st M = run 159 59 [l0, l1, l2, l3, l4, l5, aI x] (aI x :: st) M := e_ild d159_57 rfl
theorem d159_59 : decode (cod 159) 59 = .ok (.aload_n 0, 1) := by decide +kernel
theorem r159_59 (l1 l2 l3 l4 l5 l6 : AV) (xg xi : Nat) (st : List AV) (M : Mm) : run 159 59 [aR xg 12 xi, l1, l2, l3, l4, l5, l6] st M = run 159 60 [aR xg 12 xi, l1, l2, l3, l4, l5, l6] (aR xg 12 xi :: st) M := e_aldn d159_59 rfl
theorem d159_60 : decode (cod 159) 60 = .ok (.bipush 61, 2) := by decide +kernel
theorem r159_60 (l0 l1 l2 l3 l4 l5 l6 : AV) (st : List AV) (M : Mm) : run 159 60 [l0, l1, l2, l3, l4, l5, l6] st M = run 159 62 [l0, l1, l2, l3, l4, l5, l6] (aI 61 :: st) M := e_bipush 61 d159_60 (by decide +kernel)
theorem d159_62 : decode (cod 159) 62 = .ok (.invokevirtual 311, 3) := by decide +kernel
theorem r159_62 (l0 l1 l2 l3 l4 l5 l6 : AV) (a0g a0i : Nat) (a1 : Int32) (t0 t1 : AV) (M : Mm) : run 159 62 [l0, l1, l2, l3, l4, l5, l6] [aI a1, aR a0g 12 a0i, t0, t1] M = cbI (call 158 [aR a0g 12 a0i, aI a1] M) (fun v M => run 159 65 [l0, l1, l2, l3, l4, l5, l6] [aI v, t0, t1] M) := call_I (n := 2) rfl false d159_62 rfl rfl rfl rfl rfl rfl rfl
theorem d159_65 : decode (cod 159) 65 = .ok (.iastore, 1) := by decide +kernel
theorem r159_65 (l0 l1 l2 l3 l4 l5 l6 : AV) (v i : Int32) (xg xi : Nat) (st : List AV) (M : Mm) : run 159 65 [l0, l1, l2, l3, l4, l5, l6] (aI v :: aI i :: aR xg 17 xi :: st) M = if vpB i 4 = true then run 159 66 [l0, l1, l2, l3, l4, l5, l6] st (wr M xg 17 xi i.toNatClampNeg v) else none := e_ias d159_65 rfl rfl
theorem d159_66 : decode (cod 159) 66 = .ok (.aload_n 0, 1) := by decide +kernel
theorem r159_66 (l1 l2 l3 l4 l5 l6 : AV) (xg xi : Nat) (st : List AV) (M : Mm) : run 159 66 [aR xg 12 xi, l1, l2, l3, l4, l5, l6] st M = run 159 67 [aR xg 12 xi, l1, l2, l3, l4, l5, l6] (aR xg 12 xi :: st) M := e_aldn d159_66 rfl
theorem d159_67 : decode (cod 159) 67 = .ok (.getfield 25, 3) := by decide +kernel
theorem r159_67 (l0 l1 l2 l3 l4 l5 l6 : AV) (xg xi : Nat) (st : List AV) (M : Mm) : run 159 67 [l0, l1, l2, l3, l4, l5, l6] (aR xg 12 xi :: st) M = run 159 70 [l0, l1, l2, l3, l4, l5, l6] (aR 4 18 0 :: st) M := e_gfr (fun g => (4, 18, 0)) d159_67 rfl rfl rfl
theorem d159_70 : decode (cod 159) 70 = .ok (.iload 6, 2) := by decide +kernel
theorem r159_70 (l0 l1 l2 l3 l4 l5 : AV) (x : Int32) (st : List AV) (M : Mm) : run 159 70 [l0, l1, l2, l3, l4, l5, aI x] st M = run 159 72 [l0, l1, l2, l3, l4, l5, aI x] (aI x :: st) M := e_ild d159_70 rfl
theorem d159_72 : decode (cod 159) 72 = .ok (.aload_n 0, 1) := by decide +kernel
theorem r159_72 (l1 l2 l3 l4 l5 l6 : AV) (xg xi : Nat) (st : List AV) (M : Mm) : run 159 72 [aR xg 12 xi, l1, l2, l3, l4, l5, l6] st M = run 159 73 [aR xg 12 xi, l1, l2, l3, l4, l5, l6] (aR xg 12 xi :: st) M := e_aldn d159_72 rfl
theorem d159_73 : decode (cod 159) 73 = .ok (.bipush 100, 2) := by decide +kernel
theorem r159_73 (l0 l1 l2 l3 l4 l5 l6 : AV) (st : List AV) (M : Mm) : run 159 73 [l0, l1, l2, l3, l4, l5, l6] st M = run 159 75 [l0, l1, l2, l3, l4, l5, l6] (aI 100 :: st) M := e_bipush 100 d159_73 (by decide +kernel)
theorem d159_75 : decode (cod 159) 75 = .ok (.invokevirtual 311, 3) := by decide +kernel
theorem r159_75 (l0 l1 l2 l3 l4 l5 l6 : AV) (a0g a0i : Nat) (a1 : Int32) (t0 t1 : AV) (M : Mm) : run 159 75 [l0, l1, l2, l3, l4, l5, l6] [aI a1, aR a0g 12 a0i, t0, t1] M = cbI (call 158 [aR a0g 12 a0i, aI a1] M) (fun v M => run 159 78 [l0, l1, l2, l3, l4, l5, l6] [aI v, t0, t1] M) := call_I (n := 2) rfl false d159_75 rfl rfl rfl rfl rfl rfl rfl
theorem d159_78 : decode (cod 159) 78 = .ok (.iastore, 1) := by decide +kernel
theorem r159_78 (l0 l1 l2 l3 l4 l5 l6 : AV) (v i : Int32) (xg xi : Nat) (st : List AV) (M : Mm) : run 159 78 [l0, l1, l2, l3, l4, l5, l6] (aI v :: aI i :: aR xg 18 xi :: st) M = if vpB i 4 = true then run 159 79 [l0, l1, l2, l3, l4, l5, l6] st (wr M xg 18 xi i.toNatClampNeg v) else none := e_ias d159_78 rfl rfl
theorem d159_79 : decode (cod 159) 79 = .ok (.iinc 6 1, 3) := by decide +kernel
theorem r159_79 (l0 l1 l2 l3 l4 l5 : AV) (x : Int32) (st : List AV) (M : Mm) : run 159 79 [l0, l1, l2, l3, l4, l5, aI x] st M = run 159 82 [l0, l1, l2, l3, l4, l5, aI (x + 1)] st M := e_iinc 1 [l0, l1, l2, l3, l4, l5, aI (x + 1)] d159_79 (by decide +kernel) rfl rfl
theorem d159_82 : decode (cod 159) 82 = .ok (.goto (-38), 3) := by decide +kernel
theorem r159_82 (l0 l1 l2 l3 l4 l5 l6 : AV) (st : List AV) (M : Mm) : run 159 82 [l0, l1, l2, l3, l4, l5, l6] st M = run 159 44 [l0, l1, l2, l3, l4, l5, l6] st M := e_goto 44 d159_82 (by decide)
theorem d159_85 : decode (cod 159) 85 = .ok (.aload_n 0, 1) := by decide +kernel
theorem r159_85 (l1 l2 l3 l4 l5 l6 : AV) (xg xi : Nat) (st : List AV) (M : Mm) : run 159 85 [aR xg 12 xi, l1, l2, l3, l4, l5, l6] st M = run 159 86 [aR xg 12 xi, l1, l2, l3, l4, l5, l6] (aR xg 12 xi :: st) M := e_aldn d159_85 rfl
theorem d159_86 : decode (cod 159) 86 = .ok (.bipush 60, 2) := by decide +kernel
theorem r159_86 (l0 l1 l2 l3 l4 l5 l6 : AV) (st : List AV) (M : Mm) : run 159 86 [l0, l1, l2, l3, l4, l5, l6] st M = run 159 88 [l0, l1, l2, l3, l4, l5, l6] (aI 60 :: st) M := e_bipush 60 d159_86 (by decide +kernel)
theorem d159_88 : decode (cod 159) 88 = .ok (.invokevirtual 272, 3) := by decide +kernel
theorem r159_88 (l0 l1 l2 l3 l4 l5 l6 : AV) (a0g a0i : Nat) (a1 : Int32) (M : Mm) : run 159 88 [l0, l1, l2, l3, l4, l5, l6] [aI a1, aR a0g 12 a0i] M = cbV (call 127 [aR a0g 12 a0i, aI a1] M) (fun M => run 159 91 [l0, l1, l2, l3, l4, l5, l6] [] M) := call_V (n := 2) rfl false d159_88 rfl rfl rfl rfl rfl rfl rfl
theorem d159_91 : decode (cod 159) 91 = .ok (.iload 4, 2) := by decide +kernel
theorem r159_91 (l0 l1 l2 l3 l5 l6 : AV) (x : Int32) (st : List AV) (M : Mm) : run 159 91 [l0, l1, l2, l3, aI x, l5, l6] st M = run 159 93 [l0, l1, l2, l3, aI x, l5, l6] (aI x :: st) M := e_ild d159_91 rfl
theorem d159_93 : decode (cod 159) 93 = .ok (.aload_n 0, 1) := by decide +kernel
theorem r159_93 (l1 l2 l3 l4 l5 l6 : AV) (xg xi : Nat) (st : List AV) (M : Mm) : run 159 93 [aR xg 12 xi, l1, l2, l3, l4, l5, l6] st M = run 159 94 [aR xg 12 xi, l1, l2, l3, l4, l5, l6] (aR xg 12 xi :: st) M := e_aldn d159_93 rfl
theorem d159_94 : decode (cod 159) 94 = .ok (.invokevirtual 245, 3) := by decide +kernel
theorem r159_94 (l0 l1 l2 l3 l4 l5 l6 : AV) (a0g a0i : Nat) (t0 : AV) (M : Mm) : run 159 94 [l0, l1, l2, l3, l4, l5, l6] [aR a0g 12 a0i, t0] M = cbI (call 125 [aR a0g 12 a0i] M) (fun v M => run 159 97 [l0, l1, l2, l3, l4, l5, l6] [aI v, t0] M) := call_I (n := 1) rfl false d159_94 rfl rfl rfl rfl rfl rfl rfl
theorem d159_97 : decode (cod 159) 97 = .ok (.iadd, 1) := by decide +kernel
theorem r159_97 (l0 l1 l2 l3 l4 l5 l6 : AV) (a b : Int32) (st : List AV) (M : Mm) : run 159 97 [l0, l1, l2, l3, l4, l5, l6] (aI b :: aI a :: st) M = run 159 98 [l0, l1, l2, l3, l4, l5, l6] (aI (a + b) :: st) M := e_iadd d159_97
theorem d159_98 : decode (cod 159) 98 = .ok (.istore 4, 2) := by decide +kernel
theorem r159_98 (l0 l1 l2 l3 l4 l5 l6 : AV) (x : Int32) (st : List AV) (M : Mm) : run 159 98 [l0, l1, l2, l3, l4, l5, l6] (aI x :: st) M = run 159 100 [l0, l1, l2, l3, aI x, l5, l6] st M := e_ist [l0, l1, l2, l3, aI x, l5, l6] d159_98 rfl rfl
theorem d159_100 : decode (cod 159) 100 = .ok (.aload_n 0, 1) := by decide +kernel
theorem r159_100 (l1 l2 l3 l4 l5 l6 : AV) (xg xi : Nat) (st : List AV) (M : Mm) : run 159 100 [aR xg 12 xi, l1, l2, l3, l4, l5, l6] st M = run 159 101 [aR xg 12 xi, l1, l2, l3, l4, l5, l6] (aR xg 12 xi :: st) M := e_aldn d159_100 rfl
theorem d159_101 : decode (cod 159) 101 = .ok (.iconst 1, 1) := by decide +kernel
theorem r159_101 (l0 l1 l2 l3 l4 l5 l6 : AV) (st : List AV) (M : Mm) : run 159 101 [l0, l1, l2, l3, l4, l5, l6] st M = run 159 102 [l0, l1, l2, l3, l4, l5, l6] (aI 1 :: st) M := e_iconst 1 d159_101 (by decide +kernel)
theorem d159_102 : decode (cod 159) 102 = .ok (.iconst 0, 1) := by decide +kernel
theorem r159_102 (l0 l1 l2 l3 l4 l5 l6 : AV) (st : List AV) (M : Mm) : run 159 102 [l0, l1, l2, l3, l4, l5, l6] st M = run 159 103 [l0, l1, l2, l3, l4, l5, l6] (aI 0 :: st) M := e_iconst 0 d159_102 (by decide +kernel)
theorem d159_103 : decode (cod 159) 103 = .ok (.invokevirtual 150, 3) := by decide +kernel
theorem r159_103 (l0 l1 l2 l3 l4 l5 l6 : AV) (a0g a0i : Nat) (a1 : Int32) (a2 : Int32) (M : Mm) : run 159 103 [l0, l1, l2, l3, l4, l5, l6] [aI a2, aI a1, aR a0g 12 a0i] M = cbV (call 103 [aR a0g 12 a0i, aI a1, aI a2] M) (fun M => run 159 106 [l0, l1, l2, l3, l4, l5, l6] [] M) := call_V (n := 3) rfl false d159_103 rfl rfl rfl rfl rfl rfl rfl
theorem d159_106 : decode (cod 159) 106 = .ok (.iinc 5 1, 3) := by decide +kernel
theorem r159_106 (l0 l1 l2 l3 l4 l6 : AV) (x : Int32) (st : List AV) (M : Mm) : run 159 106 [l0, l1, l2, l3, l4, aI x, l6] st M = run 159 109 [l0, l1, l2, l3, l4, aI (x + 1), l6] st M := e_iinc 1 [l0, l1, l2, l3, l4, aI (x + 1), l6] d159_106 (by decide +kernel) rfl rfl
theorem d159_109 : decode (cod 159) 109 = .ok (.goto (-80), 3) := by decide +kernel
theorem r159_109 (l0 l1 l2 l3 l4 l5 l6 : AV) (st : List AV) (M : Mm) : run 159 109 [l0, l1, l2, l3, l4, l5, l6] st M = run 159 29 [l0, l1, l2, l3, l4, l5, l6] st M := e_goto 29 d159_109 (by decide)
theorem d159_112 : decode (cod 159) 112 = .ok (.iload 4, 2) := by decide +kernel
theorem r159_112 (l0 l1 l2 l3 l5 l6 : AV) (x : Int32) (st : List AV) (M : Mm) : run 159 112 [l0, l1, l2, l3, aI x, l5, l6] st M = run 159 114 [l0, l1, l2, l3, aI x, l5, l6] (aI x :: st) M := e_ild d159_112 rfl
theorem d159_114 : decode (cod 159) 114 = .ok (.ireturn, 1) := by decide +kernel
theorem r159_114 (l0 l1 l2 l3 l4 l5 l6 : AV) (v : Int32) (M : Mm) : run 159 114 [l0, l1, l2, l3, l4, l5, l6] [aI v] M = some (some v, M) := e_iret d159_114 rfl
theorem c160 (g0 i0 : Nat) (x1 : Int32) (M : Mm) : call 160 [aR g0 12 i0, aI x1] M = run 160 0 [aR g0 12 i0, aI x1] [] M := call_run 160 _ _
theorem d160_0 : decode (cod 160) 0 = .ok (.iload_n 1, 1) := by decide +kernel
theorem r160_0 (l0 : AV) (x : Int32) (st : List AV) (M : Mm) : run 160 0 [l0, aI x] st M = run 160 1 [l0, aI x] (aI x :: st) M := e_ildn d160_0 rfl
theorem d160_1 : decode (cod 160) 1 = .ok (.bipush 11, 2) := by decide +kernel
theorem r160_1 (l0 l1 : AV) (st : List AV) (M : Mm) : run 160 1 [l0, l1] st M = run 160 3 [l0, l1] (aI 11 :: st) M := e_bipush 11 d160_1 (by decide +kernel)
theorem d160_3 : decode (cod 160) 3 = .ok (.bipush 16, 2) := by decide +kernel
theorem r160_3 (l0 l1 : AV) (st : List AV) (M : Mm) : run 160 3 [l0, l1] st M = run 160 5 [l0, l1] (aI 16 :: st) M := e_bipush 16 d160_3 (by decide +kernel)
theorem d160_5 : decode (cod 160) 5 = .ok (.invokestatic 100, 3) := by decide +kernel
theorem r160_5 (l0 l1 : AV) (a0 : Int32) (a1 : Int32) (a2 : Int32) (M : Mm) : run 160 5 [l0, l1] [aI a2, aI a1, aI a0] M = cbI (call 83 [aI a0, aI a1, aI a2] M) (fun v M => run 160 8 [l0, l1] [aI v] M) := call_I (n := 3) rfl true d160_5 rfl rfl rfl rfl rfl rfl rfl
theorem d160_8 : decode (cod 160) 8 = .ok (.ifCond .eq 13, 3) := by decide +kernel
theorem r160_8 (l0 l1 : AV) (a : Int32) (st : List AV) (M : Mm) : run 160 8 [l0, l1] (aI a :: st) M = if a = 0 then run 160 21 [l0, l1] st M else run 160 11 [l0, l1] st M := e_eq1 21 d160_8 (by decide)
theorem d160_11 : decode (cod 160) 11 = .ok (.aload_n 0, 1) := by decide +kernel
theorem r160_11 (l1 : AV) (xg xi : Nat) (st : List AV) (M : Mm) : run 160 11 [aR xg 12 xi, l1] st M = run 160 12 [aR xg 12 xi, l1] (aR xg 12 xi :: st) M := e_aldn d160_11 rfl
theorem d160_12 : decode (cod 160) 12 = .ok (.getfield 7, 3) := by decide +kernel
theorem r160_12 (l0 l1 : AV) (xg xi : Nat) (st : List AV) (M : Mm) : run 160 12 [l0, l1] (aR xg 12 xi :: st) M = run 160 15 [l0, l1] (aR 4 13 0 :: st) M := e_gfr (fun g => (4, 13, 0)) d160_12 rfl rfl rfl
theorem d160_15 : decode (cod 160) 15 = .ok (.iload_n 1, 1) := by decide +kernel
theorem r160_15 (l0 : AV) (x : Int32) (st : List AV) (M : Mm) : run 160 15 [l0, aI x] st M = run 160 16 [l0, aI x] (aI x :: st) M := e_ildn d160_15 rfl
theorem d160_16 : decode (cod 160) 16 = .ok (.bipush 10, 2) := by decide +kernel
theorem r160_16 (l0 l1 : AV) (st : List AV) (M : Mm) : run 160 16 [l0, l1] st M = run 160 18 [l0, l1] (aI 10 :: st) M := e_bipush 10 d160_16 (by decide +kernel)
theorem d160_18 : decode (cod 160) 18 = .ok (.isub, 1) := by decide +kernel
theorem r160_18 (l0 l1 : AV) (a b : Int32) (st : List AV) (M : Mm) : run 160 18 [l0, l1] (aI b :: aI a :: st) M = run 160 19 [l0, l1] (aI (a - b) :: st) M := e_isub d160_18
theorem d160_19 : decode (cod 160) 19 = .ok (.iaload, 1) := by decide +kernel
theorem r160_19 (l0 l1 : AV) (i : Int32) (xg xi : Nat) (st : List AV) (M : Mm) : run 160 19 [l0, l1] (aI i :: aR xg 13 xi :: st) M = if vpB i 7 = true then run 160 20 [l0, l1] (aI (M xg 13 xi i.toNatClampNeg) :: st) M else none := e_ial d160_19 rfl rfl
theorem d160_20 : decode (cod 160) 20 = .ok (.ireturn, 1) := by decide +kernel
theorem r160_20 (l0 l1 : AV) (v : Int32) (M : Mm) : run 160 20 [l0, l1] [aI v] M = some (some v, M) := e_iret d160_20 rfl
theorem d160_21 : decode (cod 160) 21 = .ok (.iload_n 1, 1) := by decide +kernel
theorem r160_21 (l0 : AV) (x : Int32) (st : List AV) (M : Mm) : run 160 21 [l0, aI x] st M = run 160 22 [l0, aI x] (aI x :: st) M := e_ildn d160_21 rfl
theorem d160_22 : decode (cod 160) 22 = .ok (.tableswitch 102 0 8 #[50, 55, 62, 67, 74, 79, 87, 92, 97], 50) := by decide +kernel
theorem r160_22 (l0 l1 : AV) (x : Int32) (st : List AV) (M : Mm) : run 160 22 [l0, l1] (aI x :: st) M = if x = 0 then run 160 72 [l0, l1] st M else if x = 1 then run 160 77 [l0, l1] st M else if x = 2 then run 160 84 [l0, l1] st M else if x = 3 then run 160 89 [l0, l1] st M else if x = 4 then run 160 96 [l0, l1] st M else if x = 5 then run 160 101 [l0, l1] st M else if x = 6 then run 160 109 [l0, l1] st M else if x = 7 then run 160 114 [l0, l1] st M else if x = 8 then run 160 119 [l0, l1] st M else run 160 124 [l0, l1] st M := by
  rw [run_step d160_22 rfl]
  simp only [stpI, tsw]
  by_cases c0 : x = 0
  · subst c0
    rw [if_pos rfl]
    rfl
  rw [if_neg c0]
  by_cases c1 : x = 1
  · subst c1
    rw [if_pos rfl]
    rfl
  rw [if_neg c1]
  by_cases c2 : x = 2
  · subst c2
    rw [if_pos rfl]
    rfl
  rw [if_neg c2]
  by_cases c3 : x = 3
  · subst c3
    rw [if_pos rfl]
    rfl
  rw [if_neg c3]
  by_cases c4 : x = 4
  · subst c4
    rw [if_pos rfl]
    rfl
  rw [if_neg c4]
  by_cases c5 : x = 5
  · subst c5
    rw [if_pos rfl]
    rfl
  rw [if_neg c5]
  by_cases c6 : x = 6
  · subst c6
    rw [if_pos rfl]
    rfl
  rw [if_neg c6]
  by_cases c7 : x = 7
  · subst c7
    rw [if_pos rfl]
    rfl
  rw [if_neg c7]
  by_cases c8 : x = 8
  · subst c8
    rw [if_pos rfl]
    rfl
  rw [if_neg c8]
  have hx : x.toInt < 0 ∨ 8 < x.toInt := by
    have h : ∀ k : Int, ¬ x = Int32.ofInt k → -2147483648 ≤ k → k < 2147483648 → ¬ x.toInt = k := fun k hk hl hh e => hk (Int32.toInt_inj.mp (by rw [e, Int32.toInt_ofInt_of_le hl hh]))
    have fc0 := h 0 c0 (by decide) (by decide)
    have fc1 := h 1 c1 (by decide) (by decide)
    have fc2 := h 2 c2 (by decide) (by decide)
    have fc3 := h 3 c3 (by decide) (by decide)
    have fc4 := h 4 c4 (by decide) (by decide)
    have fc5 := h 5 c5 (by decide) (by decide)
    have fc6 := h 6 c6 (by decide) (by decide)
    have fc7 := h 7 c7 (by decide) (by decide)
    have fc8 := h 8 c8 (by decide) (by decide)
    omega
  rw [if_pos hx, jmp_run 124 (by decide)]
  rfl
theorem d160_72 : decode (cod 160) 72 = .ok (.aload_n 0, 1) := by decide +kernel
theorem r160_72 (l1 : AV) (xg xi : Nat) (st : List AV) (M : Mm) : run 160 72 [aR xg 12 xi, l1] st M = run 160 73 [aR xg 12 xi, l1] (aR xg 12 xi :: st) M := e_aldn d160_72 rfl
theorem d160_73 : decode (cod 160) 73 = .ok (.getfield 79, 3) := by decide +kernel
theorem r160_73 (l0 l1 : AV) (xg xi : Nat) (st : List AV) (M : Mm) : run 160 73 [l0, l1] (aR xg 12 xi :: st) M = run 160 76 [l0, l1] (aI (M xg 12 xi 10) :: st) M := e_gfi d160_73 rfl rfl rfl
theorem d160_76 : decode (cod 160) 76 = .ok (.ireturn, 1) := by decide +kernel
theorem r160_76 (l0 l1 : AV) (v : Int32) (M : Mm) : run 160 76 [l0, l1] [aI v] M = some (some v, M) := e_iret d160_76 rfl
theorem d160_77 : decode (cod 160) 77 = .ok (.aload_n 0, 1) := by decide +kernel
theorem r160_77 (l1 : AV) (xg xi : Nat) (st : List AV) (M : Mm) : run 160 77 [aR xg 12 xi, l1] st M = run 160 78 [aR xg 12 xi, l1] (aR xg 12 xi :: st) M := e_aldn d160_77 rfl
theorem d160_78 : decode (cod 160) 78 = .ok (.getfield 13, 3) := by decide +kernel
theorem r160_78 (l0 l1 : AV) (xg xi : Nat) (st : List AV) (M : Mm) : run 160 78 [l0, l1] (aR xg 12 xi :: st) M = run 160 81 [l0, l1] (aR 4 14 0 :: st) M := e_gfr (fun g => (4, 14, 0)) d160_78 rfl rfl rfl
theorem d160_81 : decode (cod 160) 81 = .ok (.iconst 0, 1) := by decide +kernel
theorem r160_81 (l0 l1 : AV) (st : List AV) (M : Mm) : run 160 81 [l0, l1] st M = run 160 82 [l0, l1] (aI 0 :: st) M := e_iconst 0 d160_81 (by decide +kernel)
theorem d160_82 : decode (cod 160) 82 = .ok (.iaload, 1) := by decide +kernel
theorem r160_82 (l0 l1 : AV) (i : Int32) (xg xi : Nat) (st : List AV) (M : Mm) : run 160 82 [l0, l1] (aI i :: aR xg 14 xi :: st) M = if vpB i 7 = true then run 160 83 [l0, l1] (aI (M xg 14 xi i.toNatClampNeg) :: st) M else none := e_ial d160_82 rfl rfl
theorem d160_83 : decode (cod 160) 83 = .ok (.ireturn, 1) := by decide +kernel
theorem r160_83 (l0 l1 : AV) (v : Int32) (M : Mm) : run 160 83 [l0, l1] [aI v] M = some (some v, M) := e_iret d160_83 rfl
theorem d160_84 : decode (cod 160) 84 = .ok (.aload_n 0, 1) := by decide +kernel
theorem r160_84 (l1 : AV) (xg xi : Nat) (st : List AV) (M : Mm) : run 160 84 [aR xg 12 xi, l1] st M = run 160 85 [aR xg 12 xi, l1] (aR xg 12 xi :: st) M := e_aldn d160_84 rfl
theorem d160_85 : decode (cod 160) 85 = .ok (.getfield 140, 3) := by decide +kernel
theorem r160_85 (l0 l1 : AV) (xg xi : Nat) (st : List AV) (M : Mm) : run 160 85 [l0, l1] (aR xg 12 xi :: st) M = run 160 88 [l0, l1] (aI (M xg 12 xi 11) :: st) M := e_gfi d160_85 rfl rfl rfl
theorem d160_88 : decode (cod 160) 88 = .ok (.ireturn, 1) := by decide +kernel
theorem r160_88 (l0 l1 : AV) (v : Int32) (M : Mm) : run 160 88 [l0, l1] [aI v] M = some (some v, M) := e_iret d160_88 rfl
theorem d160_89 : decode (cod 160) 89 = .ok (.aload_n 0, 1) := by decide +kernel
theorem r160_89 (l1 : AV) (xg xi : Nat) (st : List AV) (M : Mm) : run 160 89 [aR xg 12 xi, l1] st M = run 160 90 [aR xg 12 xi, l1] (aR xg 12 xi :: st) M := e_aldn d160_89 rfl
theorem d160_90 : decode (cod 160) 90 = .ok (.getfield 13, 3) := by decide +kernel
theorem r160_90 (l0 l1 : AV) (xg xi : Nat) (st : List AV) (M : Mm) : run 160 90 [l0, l1] (aR xg 12 xi :: st) M = run 160 93 [l0, l1] (aR 4 14 0 :: st) M := e_gfr (fun g => (4, 14, 0)) d160_90 rfl rfl rfl
theorem d160_93 : decode (cod 160) 93 = .ok (.iconst 5, 1) := by decide +kernel
theorem r160_93 (l0 l1 : AV) (st : List AV) (M : Mm) : run 160 93 [l0, l1] st M = run 160 94 [l0, l1] (aI 5 :: st) M := e_iconst 5 d160_93 (by decide +kernel)
theorem d160_94 : decode (cod 160) 94 = .ok (.iaload, 1) := by decide +kernel
theorem r160_94 (l0 l1 : AV) (i : Int32) (xg xi : Nat) (st : List AV) (M : Mm) : run 160 94 [l0, l1] (aI i :: aR xg 14 xi :: st) M = if vpB i 7 = true then run 160 95 [l0, l1] (aI (M xg 14 xi i.toNatClampNeg) :: st) M else none := e_ial d160_94 rfl rfl
theorem d160_95 : decode (cod 160) 95 = .ok (.ireturn, 1) := by decide +kernel
theorem r160_95 (l0 l1 : AV) (v : Int32) (M : Mm) : run 160 95 [l0, l1] [aI v] M = some (some v, M) := e_iret d160_95 rfl
theorem d160_96 : decode (cod 160) 96 = .ok (.aload_n 0, 1) := by decide +kernel
theorem r160_96 (l1 : AV) (xg xi : Nat) (st : List AV) (M : Mm) : run 160 96 [aR xg 12 xi, l1] st M = run 160 97 [aR xg 12 xi, l1] (aR xg 12 xi :: st) M := e_aldn d160_96 rfl
theorem d160_97 : decode (cod 160) 97 = .ok (.getfield 171, 3) := by decide +kernel
theorem r160_97 (l0 l1 : AV) (xg xi : Nat) (st : List AV) (M : Mm) : run 160 97 [l0, l1] (aR xg 12 xi :: st) M = run 160 100 [l0, l1] (aI (M xg 12 xi 13) :: st) M := e_gfi d160_97 rfl rfl rfl
theorem d160_100 : decode (cod 160) 100 = .ok (.ireturn, 1) := by decide +kernel
theorem r160_100 (l0 l1 : AV) (v : Int32) (M : Mm) : run 160 100 [l0, l1] [aI v] M = some (some v, M) := e_iret d160_100 rfl
theorem d160_101 : decode (cod 160) 101 = .ok (.aload_n 0, 1) := by decide +kernel
theorem r160_101 (l1 : AV) (xg xi : Nat) (st : List AV) (M : Mm) : run 160 101 [aR xg 12 xi, l1] st M = run 160 102 [aR xg 12 xi, l1] (aR xg 12 xi :: st) M := e_aldn d160_101 rfl
theorem d160_102 : decode (cod 160) 102 = .ok (.getfield 13, 3) := by decide +kernel
theorem r160_102 (l0 l1 : AV) (xg xi : Nat) (st : List AV) (M : Mm) : run 160 102 [l0, l1] (aR xg 12 xi :: st) M = run 160 105 [l0, l1] (aR 4 14 0 :: st) M := e_gfr (fun g => (4, 14, 0)) d160_102 rfl rfl rfl
theorem d160_105 : decode (cod 160) 105 = .ok (.bipush 6, 2) := by decide +kernel
theorem r160_105 (l0 l1 : AV) (st : List AV) (M : Mm) : run 160 105 [l0, l1] st M = run 160 107 [l0, l1] (aI 6 :: st) M := e_bipush 6 d160_105 (by decide +kernel)
theorem d160_107 : decode (cod 160) 107 = .ok (.iaload, 1) := by decide +kernel
theorem r160_107 (l0 l1 : AV) (i : Int32) (xg xi : Nat) (st : List AV) (M : Mm) : run 160 107 [l0, l1] (aI i :: aR xg 14 xi :: st) M = if vpB i 7 = true then run 160 108 [l0, l1] (aI (M xg 14 xi i.toNatClampNeg) :: st) M else none := e_ial d160_107 rfl rfl
theorem d160_108 : decode (cod 160) 108 = .ok (.ireturn, 1) := by decide +kernel
theorem r160_108 (l0 l1 : AV) (v : Int32) (M : Mm) : run 160 108 [l0, l1] [aI v] M = some (some v, M) := e_iret d160_108 rfl
theorem d160_109 : decode (cod 160) 109 = .ok (.aload_n 0, 1) := by decide +kernel
theorem r160_109 (l1 : AV) (xg xi : Nat) (st : List AV) (M : Mm) : run 160 109 [aR xg 12 xi, l1] st M = run 160 110 [aR xg 12 xi, l1] (aR xg 12 xi :: st) M := e_aldn d160_109 rfl
theorem d160_110 : decode (cod 160) 110 = .ok (.getfield 70, 3) := by decide +kernel
theorem r160_110 (l0 l1 : AV) (xg xi : Nat) (st : List AV) (M : Mm) : run 160 110 [l0, l1] (aR xg 12 xi :: st) M = run 160 113 [l0, l1] (aI (M xg 12 xi 12) :: st) M := e_gfi d160_110 rfl rfl rfl
theorem d160_113 : decode (cod 160) 113 = .ok (.ireturn, 1) := by decide +kernel
theorem r160_113 (l0 l1 : AV) (v : Int32) (M : Mm) : run 160 113 [l0, l1] [aI v] M = some (some v, M) := e_iret d160_113 rfl
theorem d160_114 : decode (cod 160) 114 = .ok (.aload_n 0, 1) := by decide +kernel
theorem r160_114 (l1 : AV) (xg xi : Nat) (st : List AV) (M : Mm) : run 160 114 [aR xg 12 xi, l1] st M = run 160 115 [aR xg 12 xi, l1] (aR xg 12 xi :: st) M := e_aldn d160_114 rfl
theorem d160_115 : decode (cod 160) 115 = .ok (.getfield 302, 3) := by decide +kernel
theorem r160_115 (l0 l1 : AV) (xg xi : Nat) (st : List AV) (M : Mm) : run 160 115 [l0, l1] (aR xg 12 xi :: st) M = run 160 118 [l0, l1] (aI (M xg 12 xi 42) :: st) M := e_gfi d160_115 rfl rfl rfl
theorem d160_118 : decode (cod 160) 118 = .ok (.ireturn, 1) := by decide +kernel
theorem r160_118 (l0 l1 : AV) (v : Int32) (M : Mm) : run 160 118 [l0, l1] [aI v] M = some (some v, M) := e_iret d160_118 rfl
theorem d160_119 : decode (cod 160) 119 = .ok (.aload_n 0, 1) := by decide +kernel
theorem r160_119 (l1 : AV) (xg xi : Nat) (st : List AV) (M : Mm) : run 160 119 [aR xg 12 xi, l1] st M = run 160 120 [aR xg 12 xi, l1] (aR xg 12 xi :: st) M := e_aldn d160_119 rfl
theorem d160_120 : decode (cod 160) 120 = .ok (.getfield 86, 3) := by decide +kernel
theorem r160_120 (l0 l1 : AV) (xg xi : Nat) (st : List AV) (M : Mm) : run 160 120 [l0, l1] (aR xg 12 xi :: st) M = run 160 123 [l0, l1] (aI (M xg 12 xi 18) :: st) M := e_gfi d160_120 rfl rfl rfl
theorem d160_123 : decode (cod 160) 123 = .ok (.ireturn, 1) := by decide +kernel
theorem r160_123 (l0 l1 : AV) (v : Int32) (M : Mm) : run 160 123 [l0, l1] [aI v] M = some (some v, M) := e_iret d160_123 rfl
theorem d160_124 : decode (cod 160) 124 = .ok (.bipush (-9), 2) := by decide +kernel
theorem r160_124 (l0 l1 : AV) (st : List AV) (M : Mm) : run 160 124 [l0, l1] st M = run 160 126 [l0, l1] (aI (-9) :: st) M := e_bipush (-9) d160_124 (by decide +kernel)
theorem d160_126 : decode (cod 160) 126 = .ok (.ireturn, 1) := by decide +kernel
theorem r160_126 (l0 l1 : AV) (v : Int32) (M : Mm) : run 160 126 [l0, l1] [aI v] M = some (some v, M) := e_iret d160_126 rfl
theorem c161 (g0 i0 : Nat) (x1 : Int32) (M : Mm) : call 161 [aR g0 8 i0, aI x1] M = run 161 0 [aR g0 8 i0, aI x1, none, none] [] M := call_run 161 _ _
theorem d161_0 : decode (cod 161) 0 = .ok (.iload_n 1, 1) := by decide +kernel
theorem r161_0 (l0 l2 l3 : AV) (x : Int32) (st : List AV) (M : Mm) : run 161 0 [l0, aI x, l2, l3] st M = run 161 1 [l0, aI x, l2, l3] (aI x :: st) M := e_ildn d161_0 rfl
theorem d161_1 : decode (cod 161) 1 = .ok (.aload_n 0, 1) := by decide +kernel
theorem r161_1 (l1 l2 l3 : AV) (xg xi : Nat) (st : List AV) (M : Mm) : run 161 1 [aR xg 8 xi, l1, l2, l3] st M = run 161 2 [aR xg 8 xi, l1, l2, l3] (aR xg 8 xi :: st) M := e_aldn d161_1 rfl
theorem d161_2 : decode (cod 161) 2 = .ok (.iload_n 1, 1) := by decide +kernel
theorem r161_2 (l0 l2 l3 : AV) (x : Int32) (st : List AV) (M : Mm) : run 161 2 [l0, aI x, l2, l3] st M = run 161 3 [l0, aI x, l2, l3] (aI x :: st) M := e_ildn d161_2 rfl
theorem d161_3 : decode (cod 161) 3 = .ok (.invokevirtual 26, 3) := by decide +kernel
theorem r161_3 (l0 l1 l2 l3 : AV) (a0g a0i : Nat) (a1 : Int32) (t0 : AV) (M : Mm) : run 161 3 [l0, l1, l2, l3] [aI a1, aR a0g 8 a0i, t0] M = cbI (call 35 [aR a0g 8 a0i, aI a1] M) (fun v M => run 161 6 [l0, l1, l2, l3] [aI v, t0] M) := call_I (n := 2) rfl false d161_3 rfl rfl rfl rfl rfl rfl rfl
theorem d161_6 : decode (cod 161) 6 = .ok (.iadd, 1) := by decide +kernel
theorem r161_6 (l0 l1 l2 l3 : AV) (a b : Int32) (st : List AV) (M : Mm) : run 161 6 [l0, l1, l2, l3] (aI b :: aI a :: st) M = run 161 7 [l0, l1, l2, l3] (aI (a + b) :: st) M := e_iadd d161_6
theorem d161_7 : decode (cod 161) 7 = .ok (.iconst 1, 1) := by decide +kernel
theorem r161_7 (l0 l1 l2 l3 : AV) (st : List AV) (M : Mm) : run 161 7 [l0, l1, l2, l3] st M = run 161 8 [l0, l1, l2, l3] (aI 1 :: st) M := e_iconst 1 d161_7 (by decide +kernel)
theorem d161_8 : decode (cod 161) 8 = .ok (.isub, 1) := by decide +kernel
theorem r161_8 (l0 l1 l2 l3 : AV) (a b : Int32) (st : List AV) (M : Mm) : run 161 8 [l0, l1, l2, l3] (aI b :: aI a :: st) M = run 161 9 [l0, l1, l2, l3] (aI (a - b) :: st) M := e_isub d161_8
theorem d161_9 : decode (cod 161) 9 = .ok (.istore_n 2, 1) := by decide +kernel
theorem r161_9 (l0 l1 l2 l3 : AV) (x : Int32) (st : List AV) (M : Mm) : run 161 9 [l0, l1, l2, l3] (aI x :: st) M = run 161 10 [l0, l1, aI x, l3] st M := e_istn [l0, l1, aI x, l3] d161_9 rfl rfl
theorem d161_10 : decode (cod 161) 10 = .ok (.iload_n 2, 1) := by decide +kernel
theorem r161_10 (l0 l1 l3 : AV) (x : Int32) (st : List AV) (M : Mm) : run 161 10 [l0, l1, aI x, l3] st M = run 161 11 [l0, l1, aI x, l3] (aI x :: st) M := e_ildn d161_10 rfl
theorem d161_11 : decode (cod 161) 11 = .ok (.iload_n 1, 1) := by decide +kernel
theorem r161_11 (l0 l2 l3 : AV) (x : Int32) (st : List AV) (M : Mm) : run 161 11 [l0, aI x, l2, l3] st M = run 161 12 [l0, aI x, l2, l3] (aI x :: st) M := e_ildn d161_11 rfl
theorem d161_12 : decode (cod 161) 12 = .ok (.if_icmp .ge 5, 3) := by decide +kernel
theorem r161_12 (l0 l1 l2 l3 : AV) (a b : Int32) (st : List AV) (M : Mm) : run 161 12 [l0, l1, l2, l3] (aI b :: aI a :: st) M = if a < b then run 161 15 [l0, l1, l2, l3] st M else run 161 17 [l0, l1, l2, l3] st M := e_ge2 17 d161_12 (by decide)
theorem d161_15 : decode (cod 161) 15 = .ok (.iload_n 1, 1) := by decide +kernel
theorem r161_15 (l0 l2 l3 : AV) (x : Int32) (st : List AV) (M : Mm) : run 161 15 [l0, aI x, l2, l3] st M = run 161 16 [l0, aI x, l2, l3] (aI x :: st) M := e_ildn d161_15 rfl
theorem d161_16 : decode (cod 161) 16 = .ok (.ireturn, 1) := by decide +kernel
theorem r161_16 (l0 l1 l2 l3 : AV) (v : Int32) (M : Mm) : run 161 16 [l0, l1, l2, l3] [aI v] M = some (some v, M) := e_iret d161_16 rfl
theorem d161_17 : decode (cod 161) 17 = .ok (.iload_n 1, 1) := by decide +kernel
theorem r161_17 (l0 l2 l3 : AV) (x : Int32) (st : List AV) (M : Mm) : run 161 17 [l0, aI x, l2, l3] st M = run 161 18 [l0, aI x, l2, l3] (aI x :: st) M := e_ildn d161_17 rfl
theorem d161_18 : decode (cod 161) 18 = .ok (.iconst 1, 1) := by decide +kernel
theorem r161_18 (l0 l1 l2 l3 : AV) (st : List AV) (M : Mm) : run 161 18 [l0, l1, l2, l3] st M = run 161 19 [l0, l1, l2, l3] (aI 1 :: st) M := e_iconst 1 d161_18 (by decide +kernel)
theorem d161_19 : decode (cod 161) 19 = .ok (.iadd, 1) := by decide +kernel
theorem r161_19 (l0 l1 l2 l3 : AV) (a b : Int32) (st : List AV) (M : Mm) : run 161 19 [l0, l1, l2, l3] (aI b :: aI a :: st) M = run 161 20 [l0, l1, l2, l3] (aI (a + b) :: st) M := e_iadd d161_19
theorem d161_20 : decode (cod 161) 20 = .ok (.istore_n 3, 1) := by decide +kernel
theorem r161_20 (l0 l1 l2 l3 : AV) (x : Int32) (st : List AV) (M : Mm) : run 161 20 [l0, l1, l2, l3] (aI x :: st) M = run 161 21 [l0, l1, l2, aI x] st M := e_istn [l0, l1, l2, aI x] d161_20 rfl rfl
theorem d161_21 : decode (cod 161) 21 = .ok (.iload_n 3, 1) := by decide +kernel
theorem r161_21 (l0 l1 l2 : AV) (x : Int32) (st : List AV) (M : Mm) : run 161 21 [l0, l1, l2, aI x] st M = run 161 22 [l0, l1, l2, aI x] (aI x :: st) M := e_ildn d161_21 rfl
theorem d161_22 : decode (cod 161) 22 = .ok (.iload_n 2, 1) := by decide +kernel
theorem r161_22 (l0 l1 l3 : AV) (x : Int32) (st : List AV) (M : Mm) : run 161 22 [l0, l1, aI x, l3] st M = run 161 23 [l0, l1, aI x, l3] (aI x :: st) M := e_ildn d161_22 rfl
theorem d161_23 : decode (cod 161) 23 = .ok (.if_icmp .ge 20, 3) := by decide +kernel
theorem r161_23 (l0 l1 l2 l3 : AV) (a b : Int32) (st : List AV) (M : Mm) : run 161 23 [l0, l1, l2, l3] (aI b :: aI a :: st) M = if a < b then run 161 26 [l0, l1, l2, l3] st M else run 161 43 [l0, l1, l2, l3] st M := e_ge2 43 d161_23 (by decide)
theorem d161_26 : decode (cod 161) 26 = .ok (.aload_n 0, 1) := by decide +kernel
theorem r161_26 (l1 l2 l3 : AV) (xg xi : Nat) (st : List AV) (M : Mm) : run 161 26 [aR xg 8 xi, l1, l2, l3] st M = run 161 27 [aR xg 8 xi, l1, l2, l3] (aR xg 8 xi :: st) M := e_aldn d161_26 rfl
theorem d161_27 : decode (cod 161) 27 = .ok (.iload_n 3, 1) := by decide +kernel
theorem r161_27 (l0 l1 l2 : AV) (x : Int32) (st : List AV) (M : Mm) : run 161 27 [l0, l1, l2, aI x] st M = run 161 28 [l0, l1, l2, aI x] (aI x :: st) M := e_ildn d161_27 rfl
theorem d161_28 : decode (cod 161) 28 = .ok (.iload_n 1, 1) := by decide +kernel
theorem r161_28 (l0 l2 l3 : AV) (x : Int32) (st : List AV) (M : Mm) : run 161 28 [l0, aI x, l2, l3] st M = run 161 29 [l0, aI x, l2, l3] (aI x :: st) M := e_ildn d161_28 rfl
theorem d161_29 : decode (cod 161) 29 = .ok (.invokevirtual 29, 3) := by decide +kernel
theorem r161_29 (l0 l1 l2 l3 : AV) (a0g a0i : Nat) (a1 : Int32) (a2 : Int32) (M : Mm) : run 161 29 [l0, l1, l2, l3] [aI a2, aI a1, aR a0g 8 a0i] M = cbI (call 36 [aR a0g 8 a0i, aI a1, aI a2] M) (fun v M => run 161 32 [l0, l1, l2, l3] [aI v] M) := call_I (n := 3) rfl false d161_29 rfl rfl rfl rfl rfl rfl rfl
theorem d161_32 : decode (cod 161) 32 = .ok (.ifCond .ne 5, 3) := by decide +kernel
theorem r161_32 (l0 l1 l2 l3 : AV) (a : Int32) (st : List AV) (M : Mm) : run 161 32 [l0, l1, l2, l3] (aI a :: st) M = if a = 0 then run 161 35 [l0, l1, l2, l3] st M else run 161 37 [l0, l1, l2, l3] st M := e_ne1 37 d161_32 (by decide)
theorem d161_35 : decode (cod 161) 35 = .ok (.iload_n 3, 1) := by decide +kernel
theorem r161_35 (l0 l1 l2 : AV) (x : Int32) (st : List AV) (M : Mm) : run 161 35 [l0, l1, l2, aI x] st M = run 161 36 [l0, l1, l2, aI x] (aI x :: st) M := e_ildn d161_35 rfl
theorem d161_36 : decode (cod 161) 36 = .ok (.ireturn, 1) := by decide +kernel
theorem r161_36 (l0 l1 l2 l3 : AV) (v : Int32) (M : Mm) : run 161 36 [l0, l1, l2, l3] [aI v] M = some (some v, M) := e_iret d161_36 rfl
theorem d161_37 : decode (cod 161) 37 = .ok (.iinc 3 1, 3) := by decide +kernel
theorem r161_37 (l0 l1 l2 : AV) (x : Int32) (st : List AV) (M : Mm) : run 161 37 [l0, l1, l2, aI x] st M = run 161 40 [l0, l1, l2, aI (x + 1)] st M := e_iinc 1 [l0, l1, l2, aI (x + 1)] d161_37 (by decide +kernel) rfl rfl
theorem d161_40 : decode (cod 161) 40 = .ok (.goto (-19), 3) := by decide +kernel
theorem r161_40 (l0 l1 l2 l3 : AV) (st : List AV) (M : Mm) : run 161 40 [l0, l1, l2, l3] st M = run 161 21 [l0, l1, l2, l3] st M := e_goto 21 d161_40 (by decide)
theorem d161_43 : decode (cod 161) 43 = .ok (.aload_n 0, 1) := by decide +kernel
theorem r161_43 (l1 l2 l3 : AV) (xg xi : Nat) (st : List AV) (M : Mm) : run 161 43 [aR xg 8 xi, l1, l2, l3] st M = run 161 44 [aR xg 8 xi, l1, l2, l3] (aR xg 8 xi :: st) M := e_aldn d161_43 rfl
theorem d161_44 : decode (cod 161) 44 = .ok (.iload_n 2, 1) := by decide +kernel
theorem r161_44 (l0 l1 l3 : AV) (x : Int32) (st : List AV) (M : Mm) : run 161 44 [l0, l1, aI x, l3] st M = run 161 45 [l0, l1, aI x, l3] (aI x :: st) M := e_ildn d161_44 rfl
theorem d161_45 : decode (cod 161) 45 = .ok (.invokevirtual 19, 3) := by decide +kernel
theorem r161_45 (l0 l1 l2 l3 : AV) (a0g a0i : Nat) (a1 : Int32) (M : Mm) : run 161 45 [l0, l1, l2, l3] [aI a1, aR a0g 8 a0i] M = cbI (call 32 [aR a0g 8 a0i, aI a1] M) (fun v M => run 161 48 [l0, l1, l2, l3] [aI v] M) := call_I (n := 2) rfl false d161_45 rfl rfl rfl rfl rfl rfl rfl
theorem d161_48 : decode (cod 161) 48 = .ok (.bipush 59, 2) := by decide +kernel
theorem r161_48 (l0 l1 l2 l3 : AV) (st : List AV) (M : Mm) : run 161 48 [l0, l1, l2, l3] st M = run 161 50 [l0, l1, l2, l3] (aI 59 :: st) M := e_bipush 59 d161_48 (by decide +kernel)
theorem d161_50 : decode (cod 161) 50 = .ok (.if_icmp .ne 7, 3) := by decide +kernel
theorem r161_50 (l0 l1 l2 l3 : AV) (a b : Int32) (st : List AV) (M : Mm) : run 161 50 [l0, l1, l2, l3] (aI b :: aI a :: st) M = if a = b then run 161 53 [l0, l1, l2, l3] st M else run 161 57 [l0, l1, l2, l3] st M := e_ne2 57 d161_50 (by decide)
theorem d161_53 : decode (cod 161) 53 = .ok (.iconst (-1), 1) := by decide +kernel
theorem r161_53 (l0 l1 l2 l3 : AV) (st : List AV) (M : Mm) : run 161 53 [l0, l1, l2, l3] st M = run 161 54 [l0, l1, l2, l3] (aI (-1) :: st) M := e_iconst (-1) d161_53 (by decide +kernel)
theorem d161_54 : decode (cod 161) 54 = .ok (.goto 4, 3) := by decide +kernel
theorem r161_54 (l0 l1 l2 l3 : AV) (st : List AV) (M : Mm) : run 161 54 [l0, l1, l2, l3] st M = run 161 58 [l0, l1, l2, l3] st M := e_goto 58 d161_54 (by decide)
theorem d161_57 : decode (cod 161) 57 = .ok (.iload_n 2, 1) := by decide +kernel
theorem r161_57 (l0 l1 l3 : AV) (x : Int32) (st : List AV) (M : Mm) : run 161 57 [l0, l1, aI x, l3] st M = run 161 58 [l0, l1, aI x, l3] (aI x :: st) M := e_ildn d161_57 rfl
theorem d161_58 : decode (cod 161) 58 = .ok (.ireturn, 1) := by decide +kernel
theorem r161_58 (l0 l1 l2 l3 : AV) (v : Int32) (M : Mm) : run 161 58 [l0, l1, l2, l3] [aI v] M = some (some v, M) := e_iret d161_58 rfl
theorem c162 (x0 : Int32) (x1 : Int32) (x2 : Int32) (M : Mm) : call 162 [aI x0, aI x1, aI x2] M = run 162 0 [aI x0, aI x1, aI x2] [] M := call_run 162 _ _
theorem d162_0 : decode (cod 162) 0 = .ok (.iload_n 2, 1) := by decide +kernel
theorem r162_0 (l0 l1 : AV) (x : Int32) (st : List AV) (M : Mm) : run 162 0 [l0, l1, aI x] st M = run 162 1 [l0, l1, aI x] (aI x :: st) M := e_ildn d162_0 rfl
theorem d162_1 : decode (cod 162) 1 = .ok (.ifCond .le 11, 3) := by decide +kernel
theorem r162_1 (l0 l1 l2 : AV) (a : Int32) (st : List AV) (M : Mm) : run 162 1 [l0, l1, l2] (aI a :: st) M = if 0 < a then run 162 4 [l0, l1, l2] st M else run 162 12 [l0, l1, l2] st M := e_le1 12 d162_1 (by decide)
theorem d162_4 : decode (cod 162) 4 = .ok (.iload_n 0, 1) := by decide +kernel
theorem r162_4 (l1 l2 : AV) (x : Int32) (st : List AV) (M : Mm) : run 162 4 [aI x, l1, l2] st M = run 162 5 [aI x, l1, l2] (aI x :: st) M := e_ildn d162_4 rfl
theorem d162_5 : decode (cod 162) 5 = .ok (.iload_n 1, 1) := by decide +kernel
theorem r162_5 (l0 l2 : AV) (x : Int32) (st : List AV) (M : Mm) : run 162 5 [l0, aI x, l2] st M = run 162 6 [l0, aI x, l2] (aI x :: st) M := e_ildn d162_5 rfl
theorem d162_6 : decode (cod 162) 6 = .ok (.imul, 1) := by decide +kernel
theorem r162_6 (l0 l1 l2 : AV) (a b : Int32) (st : List AV) (M : Mm) : run 162 6 [l0, l1, l2] (aI b :: aI a :: st) M = run 162 7 [l0, l1, l2] (aI (a * b) :: st) M := e_imul d162_6
theorem d162_7 : decode (cod 162) 7 = .ok (.iload_n 2, 1) := by decide +kernel
theorem r162_7 (l0 l1 : AV) (x : Int32) (st : List AV) (M : Mm) : run 162 7 [l0, l1, aI x] st M = run 162 8 [l0, l1, aI x] (aI x :: st) M := e_ildn d162_7 rfl
theorem d162_8 : decode (cod 162) 8 = .ok (.idiv, 1) := by decide +kernel
theorem r162_8 (l0 l1 l2 : AV) (a b : Int32) (st : List AV) (M : Mm) : run 162 8 [l0, l1, l2] (aI b :: aI a :: st) M = if b = 0 then none else run 162 9 [l0, l1, l2] (aI (a / b) :: st) M := e_idiv d162_8
theorem d162_9 : decode (cod 162) 9 = .ok (.goto 4, 3) := by decide +kernel
theorem r162_9 (l0 l1 l2 : AV) (st : List AV) (M : Mm) : run 162 9 [l0, l1, l2] st M = run 162 13 [l0, l1, l2] st M := e_goto 13 d162_9 (by decide)
theorem d162_12 : decode (cod 162) 12 = .ok (.iconst 0, 1) := by decide +kernel
theorem r162_12 (l0 l1 l2 : AV) (st : List AV) (M : Mm) : run 162 12 [l0, l1, l2] st M = run 162 13 [l0, l1, l2] (aI 0 :: st) M := e_iconst 0 d162_12 (by decide +kernel)
theorem d162_13 : decode (cod 162) 13 = .ok (.ireturn, 1) := by decide +kernel
theorem r162_13 (l0 l1 l2 : AV) (v : Int32) (M : Mm) : run 162 13 [l0, l1, l2] [aI v] M = some (some v, M) := e_iret d162_13 rfl
