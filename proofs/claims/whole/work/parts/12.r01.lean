theorem c22 (g0 i0 : Nat) (M : Mm) : call 22 [aR g0 0 i0] M = run 22 0 [aR g0 0 i0, none, none, none, none] [] M := call_run 22 _ _
theorem d22_0 : decode (cod 22) 0 = .ok (.bipush (-9), 2) := by decide +kernel
theorem r22_0 (l0 l1 l2 l3 l4 : AV) (st : List AV) (M : Mm) : run 22 0 [l0, l1, l2, l3, l4] st M = run 22 2 [l0, l1, l2, l3, l4] (aI (-9) :: st) M := e_bipush (-9) d22_0 (by decide +kernel)
theorem d22_2 : decode (cod 22) 2 = .ok (.istore_n 1, 1) := by decide +kernel
theorem r22_2 (l0 l1 l2 l3 l4 : AV) (x : Int32) (st : List AV) (M : Mm) : run 22 2 [l0, l1, l2, l3, l4] (aI x :: st) M = run 22 3 [l0, aI x, l2, l3, l4] st M := e_istn [l0, aI x, l2, l3, l4] d22_2 rfl rfl
theorem d22_3 : decode (cod 22) 3 = .ok (.iconst 0, 1) := by decide +kernel
theorem r22_3 (l0 l1 l2 l3 l4 : AV) (st : List AV) (M : Mm) : run 22 3 [l0, l1, l2, l3, l4] st M = run 22 4 [l0, l1, l2, l3, l4] (aI 0 :: st) M := e_iconst 0 d22_3 (by decide +kernel)
theorem d22_4 : decode (cod 22) 4 = .ok (.istore_n 2, 1) := by decide +kernel
theorem r22_4 (l0 l1 l2 l3 l4 : AV) (x : Int32) (st : List AV) (M : Mm) : run 22 4 [l0, l1, l2, l3, l4] (aI x :: st) M = run 22 5 [l0, l1, aI x, l3, l4] st M := e_istn [l0, l1, aI x, l3, l4] d22_4 rfl rfl
theorem d22_5 : decode (cod 22) 5 = .ok (.iconst 0, 1) := by decide +kernel
theorem r22_5 (l0 l1 l2 l3 l4 : AV) (st : List AV) (M : Mm) : run 22 5 [l0, l1, l2, l3, l4] st M = run 22 6 [l0, l1, l2, l3, l4] (aI 0 :: st) M := e_iconst 0 d22_5 (by decide +kernel)
theorem d22_6 : decode (cod 22) 6 = .ok (.istore_n 3, 1) := by decide +kernel
theorem r22_6 (l0 l1 l2 l3 l4 : AV) (x : Int32) (st : List AV) (M : Mm) : run 22 6 [l0, l1, l2, l3, l4] (aI x :: st) M = run 22 7 [l0, l1, l2, aI x, l4] st M := e_istn [l0, l1, l2, aI x, l4] d22_6 rfl rfl
theorem d22_7 : decode (cod 22) 7 = .ok (.iload_n 3, 1) := by decide +kernel
theorem r22_7 (l0 l1 l2 l4 : AV) (x : Int32) (st : List AV) (M : Mm) : run 22 7 [l0, l1, l2, aI x, l4] st M = run 22 8 [l0, l1, l2, aI x, l4] (aI x :: st) M := e_ildn d22_7 rfl
theorem d22_8 : decode (cod 22) 8 = .ok (.aload_n 0, 1) := by decide +kernel
theorem r22_8 (l1 l2 l3 l4 : AV) (xg xi : Nat) (st : List AV) (M : Mm) : run 22 8 [aR xg 0 xi, l1, l2, l3, l4] st M = run 22 9 [aR xg 0 xi, l1, l2, l3, l4] (aR xg 0 xi :: st) M := e_aldn d22_8 rfl
theorem d22_9 : decode (cod 22) 9 = .ok (.getfield 17, 3) := by decide +kernel
theorem r22_9 (l0 l1 l2 l3 l4 : AV) (xg xi : Nat) (st : List AV) (M : Mm) : run 22 9 [l0, l1, l2, l3, l4] (aR xg 0 xi :: st) M = run 22 12 [l0, l1, l2, l3, l4] (aI (M xg 0 xi 1) :: st) M := e_gfi d22_9 rfl rfl rfl
theorem d22_12 : decode (cod 22) 12 = .ok (.if_icmp .ge 41, 3) := by decide +kernel
theorem r22_12 (l0 l1 l2 l3 l4 : AV) (a b : Int32) (st : List AV) (M : Mm) : run 22 12 [l0, l1, l2, l3, l4] (aI b :: aI a :: st) M = if a < b then run 22 15 [l0, l1, l2, l3, l4] st M else run 22 53 [l0, l1, l2, l3, l4] st M := e_ge2 53 d22_12 (by decide)
theorem d22_15 : decode (cod 22) 15 = .ok (.aload_n 0, 1) := by decide +kernel
theorem r22_15 (l1 l2 l3 l4 : AV) (xg xi : Nat) (st : List AV) (M : Mm) : run 22 15 [aR xg 0 xi, l1, l2, l3, l4] st M = run 22 16 [aR xg 0 xi, l1, l2, l3, l4] (aR xg 0 xi :: st) M := e_aldn d22_15 rfl
theorem d22_16 : decode (cod 22) 16 = .ok (.iload_n 3, 1) := by decide +kernel
theorem r22_16 (l0 l1 l2 l4 : AV) (x : Int32) (st : List AV) (M : Mm) : run 22 16 [l0, l1, l2, aI x, l4] st M = run 22 17 [l0, l1, l2, aI x, l4] (aI x :: st) M := e_ildn d22_16 rfl
theorem d22_17 : decode (cod 22) 17 = .ok (.invokevirtual 141, 3) := by decide +kernel
theorem r22_17 (l0 l1 l2 l3 l4 : AV) (a0g a0i : Nat) (a1 : Int32) (M : Mm) : run 22 17 [l0, l1, l2, l3, l4] [aI a1, aR a0g 0 a0i] M = cbI (call 23 [aR a0g 0 a0i, aI a1] M) (fun v M => run 22 20 [l0, l1, l2, l3, l4] [aI v] M) := call_I (n := 2) rfl false d22_17 rfl rfl rfl rfl rfl rfl rfl
theorem d22_20 : decode (cod 22) 20 = .ok (.ifCond .eq 27, 3) := by decide +kernel
theorem r22_20 (l0 l1 l2 l3 l4 : AV) (a : Int32) (st : List AV) (M : Mm) : run 22 20 [l0, l1, l2, l3, l4] (aI a :: st) M = if a = 0 then run 22 47 [l0, l1, l2, l3, l4] st M else run 22 23 [l0, l1, l2, l3, l4] st M := e_eq1 47 d22_20 (by decide)
theorem d22_23 : decode (cod 22) 23 = .ok (.aload_n 0, 1) := by decide +kernel
theorem r22_23 (l1 l2 l3 l4 : AV) (xg xi : Nat) (st : List AV) (M : Mm) : run 22 23 [aR xg 0 xi, l1, l2, l3, l4] st M = run 22 24 [aR xg 0 xi, l1, l2, l3, l4] (aR xg 0 xi :: st) M := e_aldn d22_23 rfl
theorem d22_24 : decode (cod 22) 24 = .ok (.iload_n 3, 1) := by decide +kernel
theorem r22_24 (l0 l1 l2 l4 : AV) (x : Int32) (st : List AV) (M : Mm) : run 22 24 [l0, l1, l2, aI x, l4] st M = run 22 25 [l0, l1, l2, aI x, l4] (aI x :: st) M := e_ildn d22_24 rfl
theorem d22_25 : decode (cod 22) 25 = .ok (.invokevirtual 144, 3) := by decide +kernel
theorem r22_25 (l0 l1 l2 l3 l4 : AV) (a0g a0i : Nat) (a1 : Int32) (M : Mm) : run 22 25 [l0, l1, l2, l3, l4] [aI a1, aR a0g 0 a0i] M = cbI (call 24 [aR a0g 0 a0i, aI a1] M) (fun v M => run 22 28 [l0, l1, l2, l3, l4] [aI v] M) := call_I (n := 2) rfl false d22_25 rfl rfl rfl rfl rfl rfl rfl
theorem d22_28 : decode (cod 22) 28 = .ok (.istore 4, 2) := by decide +kernel
theorem r22_28 (l0 l1 l2 l3 l4 : AV) (x : Int32) (st : List AV) (M : Mm) : run 22 28 [l0, l1, l2, l3, l4] (aI x :: st) M = run 22 30 [l0, l1, l2, l3, aI x] st M := e_ist [l0, l1, l2, l3, aI x] d22_28 rfl rfl
theorem d22_30 : decode (cod 22) 30 = .ok (.iload_n 1, 1) := by decide +kernel
theorem r22_30 (l0 l2 l3 l4 : AV) (x : Int32) (st : List AV) (M : Mm) : run 22 30 [l0, aI x, l2, l3, l4] st M = run 22 31 [l0, aI x, l2, l3, l4] (aI x :: st) M := e_ildn d22_30 rfl
theorem d22_31 : decode (cod 22) 31 = .ok (.bipush (-9), 2) := by decide +kernel
theorem r22_31 (l0 l1 l2 l3 l4 : AV) (st : List AV) (M : Mm) : run 22 31 [l0, l1, l2, l3, l4] st M = run 22 33 [l0, l1, l2, l3, l4] (aI (-9) :: st) M := e_bipush (-9) d22_31 (by decide +kernel)
theorem d22_33 : decode (cod 22) 33 = .ok (.if_icmp .eq 9, 3) := by decide +kernel
theorem r22_33 (l0 l1 l2 l3 l4 : AV) (a b : Int32) (st : List AV) (M : Mm) : run 22 33 [l0, l1, l2, l3, l4] (aI b :: aI a :: st) M = if a = b then run 22 42 [l0, l1, l2, l3, l4] st M else run 22 36 [l0, l1, l2, l3, l4] st M := e_eq2 42 d22_33 (by decide)
theorem d22_36 : decode (cod 22) 36 = .ok (.iload 4, 2) := by decide +kernel
theorem r22_36 (l0 l1 l2 l3 : AV) (x : Int32) (st : List AV) (M : Mm) : run 22 36 [l0, l1, l2, l3, aI x] st M = run 22 38 [l0, l1, l2, l3, aI x] (aI x :: st) M := e_ild d22_36 rfl
theorem d22_38 : decode (cod 22) 38 = .ok (.iload_n 2, 1) := by decide +kernel
theorem r22_38 (l0 l1 l3 l4 : AV) (x : Int32) (st : List AV) (M : Mm) : run 22 38 [l0, l1, aI x, l3, l4] st M = run 22 39 [l0, l1, aI x, l3, l4] (aI x :: st) M := e_ildn d22_38 rfl
theorem d22_39 : decode (cod 22) 39 = .ok (.if_icmp .ge 8, 3) := by decide +kernel
theorem r22_39 (l0 l1 l2 l3 l4 : AV) (a b : Int32) (st : List AV) (M : Mm) : run 22 39 [l0, l1, l2, l3, l4] (aI b :: aI a :: st) M = if a < b then run 22 42 [l0, l1, l2, l3, l4] st M else run 22 47 [l0, l1, l2, l3, l4] st M := e_ge2 47 d22_39 (by decide)
theorem d22_42 : decode (cod 22) 42 = .ok (.iload_n 3, 1) := by decide +kernel
theorem r22_42 (l0 l1 l2 l4 : AV) (x : Int32) (st : List AV) (M : Mm) : run 22 42 [l0, l1, l2, aI x, l4] st M = run 22 43 [l0, l1, l2, aI x, l4] (aI x :: st) M := e_ildn d22_42 rfl
theorem d22_43 : decode (cod 22) 43 = .ok (.istore_n 1, 1) := by decide +kernel
theorem r22_43 (l0 l1 l2 l3 l4 : AV) (x : Int32) (st : List AV) (M : Mm) : run 22 43 [l0, l1, l2, l3, l4] (aI x :: st) M = run 22 44 [l0, aI x, l2, l3, l4] st M := e_istn [l0, aI x, l2, l3, l4] d22_43 rfl rfl
theorem d22_44 : decode (cod 22) 44 = .ok (.iload 4, 2) := by decide +kernel
theorem r22_44 (l0 l1 l2 l3 : AV) (x : Int32) (st : List AV) (M : Mm) : run 22 44 [l0, l1, l2, l3, aI x] st M = run 22 46 [l0, l1, l2, l3, aI x] (aI x :: st) M := e_ild d22_44 rfl
theorem d22_46 : decode (cod 22) 46 = .ok (.istore_n 2, 1) := by decide +kernel
theorem r22_46 (l0 l1 l2 l3 l4 : AV) (x : Int32) (st : List AV) (M : Mm) : run 22 46 [l0, l1, l2, l3, l4] (aI x :: st) M = run 22 47 [l0, l1, aI x, l3, l4] st M := e_istn [l0, l1, aI x, l3, l4] d22_46 rfl rfl
theorem d22_47 : decode (cod 22) 47 = .ok (.iinc 3 1, 3) := by decide +kernel
theorem r22_47 (l0 l1 l2 l4 : AV) (x : Int32) (st : List AV) (M : Mm) : run 22 47 [l0, l1, l2, aI x, l4] st M = run 22 50 [l0, l1, l2, aI (x + 1), l4] st M := e_iinc 1 [l0, l1, l2, aI (x + 1), l4] d22_47 (by decide +kernel) rfl rfl
theorem d22_50 : decode (cod 22) 50 = .ok (.goto (-43), 3) := by decide +kernel
theorem r22_50 (l0 l1 l2 l3 l4 : AV) (st : List AV) (M : Mm) : run 22 50 [l0, l1, l2, l3, l4] st M = run 22 7 [l0, l1, l2, l3, l4] st M := e_goto 7 d22_50 (by decide)
theorem d22_53 : decode (cod 22) 53 = .ok (.iload_n 1, 1) := by decide +kernel
theorem r22_53 (l0 l2 l3 l4 : AV) (x : Int32) (st : List AV) (M : Mm) : run 22 53 [l0, aI x, l2, l3, l4] st M = run 22 54 [l0, aI x, l2, l3, l4] (aI x :: st) M := e_ildn d22_53 rfl
theorem d22_54 : decode (cod 22) 54 = .ok (.ireturn, 1) := by decide +kernel
theorem r22_54 (l0 l1 l2 l3 l4 : AV) (v : Int32) (M : Mm) : run 22 54 [l0, l1, l2, l3, l4] [aI v] M = some (some v, M) := e_iret d22_54 rfl
theorem c23 (g0 i0 : Nat) (x1 : Int32) (M : Mm) : call 23 [aR g0 0 i0, aI x1] M = run 23 0 [aR g0 0 i0, aI x1, none] [] M := call_run 23 _ _
theorem d23_0 : decode (cod 23) 0 = .ok (.aload_n 0, 1) := by decide +kernel
theorem r23_0 (l1 l2 : AV) (xg xi : Nat) (st : List AV) (M : Mm) : run 23 0 [aR xg 0 xi, l1, l2] st M = run 23 1 [aR xg 0 xi, l1, l2] (aR xg 0 xi :: st) M := e_aldn d23_0 rfl
theorem d23_1 : decode (cod 23) 1 = .ok (.getfield 11, 3) := by decide +kernel
theorem r23_1 (l0 l1 l2 : AV) (xg xi : Nat) (st : List AV) (M : Mm) : run 23 1 [l0, l1, l2] (aR xg 0 xi :: st) M = run 23 4 [l0, l1, l2] (aR xg 1 0 :: st) M := e_gfr (fun g => (g, 1, 0)) d23_1 rfl rfl rfl
theorem d23_4 : decode (cod 23) 4 = .ok (.iload_n 1, 1) := by decide +kernel
theorem r23_4 (l0 l2 : AV) (x : Int32) (st : List AV) (M : Mm) : run 23 4 [l0, aI x, l2] st M = run 23 5 [l0, aI x, l2] (aI x :: st) M := e_ildn d23_4 rfl
theorem d23_5 : decode (cod 23) 5 = .ok (.aaload, 1) := by decide +kernel
theorem r23_5 (l0 l1 l2 : AV) (i : Int32) (xg xi : Nat) (st : List AV) (M : Mm) : run 23 5 [l0, l1, l2] (aI i :: aR xg 1 xi :: st) M = if vpB i 4 = true then run 23 6 [l0, l1, l2] (aR xg 2 i.toNatClampNeg :: st) M else none := e_aal1 d23_5
theorem d23_6 : decode (cod 23) 6 = .ok (.getfield 94, 3) := by decide +kernel
theorem r23_6 (l0 l1 l2 : AV) (xg xi : Nat) (st : List AV) (M : Mm) : run 23 6 [l0, l1, l2] (aR xg 2 xi :: st) M = run 23 9 [l0, l1, l2] (aI (M xg 2 xi 4) :: st) M := e_gfi d23_6 rfl rfl rfl
theorem d23_9 : decode (cod 23) 9 = .ok (.aload_n 0, 1) := by decide +kernel
theorem r23_9 (l1 l2 : AV) (xg xi : Nat) (st : List AV) (M : Mm) : run 23 9 [aR xg 0 xi, l1, l2] st M = run 23 10 [aR xg 0 xi, l1, l2] (aR xg 0 xi :: st) M := e_aldn d23_9 rfl
theorem d23_10 : decode (cod 23) 10 = .ok (.getfield 30, 3) := by decide +kernel
theorem r23_10 (l0 l1 l2 : AV) (xg xi : Nat) (st : List AV) (M : Mm) : run 23 10 [l0, l1, l2] (aR xg 0 xi :: st) M = run 23 13 [l0, l1, l2] (aI (M xg 0 xi 4) :: st) M := e_gfi d23_10 rfl rfl rfl
theorem d23_13 : decode (cod 23) 13 = .ok (.if_icmp .lt 21, 3) := by decide +kernel
theorem r23_13 (l0 l1 l2 : AV) (a b : Int32) (st : List AV) (M : Mm) : run 23 13 [l0, l1, l2] (aI b :: aI a :: st) M = if a < b then run 23 34 [l0, l1, l2] st M else run 23 16 [l0, l1, l2] st M := e_lt2 34 d23_13 (by decide)
theorem d23_16 : decode (cod 23) 16 = .ok (.aload_n 0, 1) := by decide +kernel
theorem r23_16 (l1 l2 : AV) (xg xi : Nat) (st : List AV) (M : Mm) : run 23 16 [aR xg 0 xi, l1, l2] st M = run 23 17 [aR xg 0 xi, l1, l2] (aR xg 0 xi :: st) M := e_aldn d23_16 rfl
theorem d23_17 : decode (cod 23) 17 = .ok (.getfield 11, 3) := by decide +kernel
theorem r23_17 (l0 l1 l2 : AV) (xg xi : Nat) (st : List AV) (M : Mm) : run 23 17 [l0, l1, l2] (aR xg 0 xi :: st) M = run 23 20 [l0, l1, l2] (aR xg 1 0 :: st) M := e_gfr (fun g => (g, 1, 0)) d23_17 rfl rfl rfl
theorem d23_20 : decode (cod 23) 20 = .ok (.iload_n 1, 1) := by decide +kernel
theorem r23_20 (l0 l2 : AV) (x : Int32) (st : List AV) (M : Mm) : run 23 20 [l0, aI x, l2] st M = run 23 21 [l0, aI x, l2] (aI x :: st) M := e_ildn d23_20 rfl
theorem d23_21 : decode (cod 23) 21 = .ok (.aaload, 1) := by decide +kernel
theorem r23_21 (l0 l1 l2 : AV) (i : Int32) (xg xi : Nat) (st : List AV) (M : Mm) : run 23 21 [l0, l1, l2] (aI i :: aR xg 1 xi :: st) M = if vpB i 4 = true then run 23 22 [l0, l1, l2] (aR xg 2 i.toNatClampNeg :: st) M else none := e_aal1 d23_21
theorem d23_22 : decode (cod 23) 22 = .ok (.getfield 130, 3) := by decide +kernel
theorem r23_22 (l0 l1 l2 : AV) (xg xi : Nat) (st : List AV) (M : Mm) : run 23 22 [l0, l1, l2] (aR xg 2 xi :: st) M = run 23 25 [l0, l1, l2] (aI (M xg 2 xi 5) :: st) M := e_gfi d23_22 rfl rfl rfl
theorem d23_25 : decode (cod 23) 25 = .ok (.aload_n 0, 1) := by decide +kernel
theorem r23_25 (l1 l2 : AV) (xg xi : Nat) (st : List AV) (M : Mm) : run 23 25 [aR xg 0 xi, l1, l2] st M = run 23 26 [aR xg 0 xi, l1, l2] (aR xg 0 xi :: st) M := e_aldn d23_25 rfl
theorem d23_26 : decode (cod 23) 26 = .ok (.getfield 30, 3) := by decide +kernel
theorem r23_26 (l0 l1 l2 : AV) (xg xi : Nat) (st : List AV) (M : Mm) : run 23 26 [l0, l1, l2] (aR xg 0 xi :: st) M = run 23 29 [l0, l1, l2] (aI (M xg 0 xi 4) :: st) M := e_gfi d23_26 rfl rfl rfl
theorem d23_29 : decode (cod 23) 29 = .ok (.if_icmp .lt 5, 3) := by decide +kernel
theorem r23_29 (l0 l1 l2 : AV) (a b : Int32) (st : List AV) (M : Mm) : run 23 29 [l0, l1, l2] (aI b :: aI a :: st) M = if a < b then run 23 34 [l0, l1, l2] st M else run 23 32 [l0, l1, l2] st M := e_lt2 34 d23_29 (by decide)
theorem d23_32 : decode (cod 23) 32 = .ok (.iconst 0, 1) := by decide +kernel
theorem r23_32 (l0 l1 l2 : AV) (st : List AV) (M : Mm) : run 23 32 [l0, l1, l2] st M = run 23 33 [l0, l1, l2] (aI 0 :: st) M := e_iconst 0 d23_32 (by decide +kernel)
theorem d23_33 : decode (cod 23) 33 = .ok (.ireturn, 1) := by decide +kernel
theorem r23_33 (l0 l1 l2 : AV) (v : Int32) (M : Mm) : run 23 33 [l0, l1, l2] [aI v] M = if v = 0 ∨ v = 1 then some (some v, M) else none := e_zret d23_33 rfl
theorem d23_34 : decode (cod 23) 34 = .ok (.iconst 0, 1) := by decide +kernel
theorem r23_34 (l0 l1 l2 : AV) (st : List AV) (M : Mm) : run 23 34 [l0, l1, l2] st M = run 23 35 [l0, l1, l2] (aI 0 :: st) M := e_iconst 0 d23_34 (by decide +kernel)
theorem d23_35 : decode (cod 23) 35 = .ok (.istore_n 2, 1) := by decide +kernel
theorem r23_35 (l0 l1 l2 : AV) (x : Int32) (st : List AV) (M : Mm) : run 23 35 [l0, l1, l2] (aI x :: st) M = run 23 36 [l0, l1, aI x] st M := e_istn [l0, l1, aI x] d23_35 rfl rfl
theorem d23_36 : decode (cod 23) 36 = .ok (.iload_n 2, 1) := by decide +kernel
theorem r23_36 (l0 l1 : AV) (x : Int32) (st : List AV) (M : Mm) : run 23 36 [l0, l1, aI x] st M = run 23 37 [l0, l1, aI x] (aI x :: st) M := e_ildn d23_36 rfl
theorem d23_37 : decode (cod 23) 37 = .ok (.aload_n 0, 1) := by decide +kernel
theorem r23_37 (l1 l2 : AV) (xg xi : Nat) (st : List AV) (M : Mm) : run 23 37 [aR xg 0 xi, l1, l2] st M = run 23 38 [aR xg 0 xi, l1, l2] (aR xg 0 xi :: st) M := e_aldn d23_37 rfl
theorem d23_38 : decode (cod 23) 38 = .ok (.getfield 27, 3) := by decide +kernel
theorem r23_38 (l0 l1 l2 : AV) (xg xi : Nat) (st : List AV) (M : Mm) : run 23 38 [l0, l1, l2] (aR xg 0 xi :: st) M = run 23 41 [l0, l1, l2] (aI (M xg 0 xi 3) :: st) M := e_gfi d23_38 rfl rfl rfl
theorem d23_41 : decode (cod 23) 41 = .ok (.if_icmp .ge 24, 3) := by decide +kernel
theorem r23_41 (l0 l1 l2 : AV) (a b : Int32) (st : List AV) (M : Mm) : run 23 41 [l0, l1, l2] (aI b :: aI a :: st) M = if a < b then run 23 44 [l0, l1, l2] st M else run 23 65 [l0, l1, l2] st M := e_ge2 65 d23_41 (by decide)
theorem d23_44 : decode (cod 23) 44 = .ok (.aload_n 0, 1) := by decide +kernel
theorem r23_44 (l1 l2 : AV) (xg xi : Nat) (st : List AV) (M : Mm) : run 23 44 [aR xg 0 xi, l1, l2] st M = run 23 45 [aR xg 0 xi, l1, l2] (aR xg 0 xi :: st) M := e_aldn d23_44 rfl
theorem d23_45 : decode (cod 23) 45 = .ok (.getfield 23, 3) := by decide +kernel
theorem r23_45 (l0 l1 l2 : AV) (xg xi : Nat) (st : List AV) (M : Mm) : run 23 45 [l0, l1, l2] (aR xg 0 xi :: st) M = run 23 48 [l0, l1, l2] (aR xg 3 0 :: st) M := e_gfr (fun g => (g, 3, 0)) d23_45 rfl rfl rfl
theorem d23_48 : decode (cod 23) 48 = .ok (.iload_n 2, 1) := by decide +kernel
theorem r23_48 (l0 l1 : AV) (x : Int32) (st : List AV) (M : Mm) : run 23 48 [l0, l1, aI x] st M = run 23 49 [l0, l1, aI x] (aI x :: st) M := e_ildn d23_48 rfl
theorem d23_49 : decode (cod 23) 49 = .ok (.aaload, 1) := by decide +kernel
theorem r23_49 (l0 l1 l2 : AV) (i : Int32) (xg xi : Nat) (st : List AV) (M : Mm) : run 23 49 [l0, l1, l2] (aI i :: aR xg 3 xi :: st) M = if vpB i 3 = true then run 23 50 [l0, l1, l2] (aR xg 4 i.toNatClampNeg :: st) M else none := e_aal3 d23_49
theorem d23_50 : decode (cod 23) 50 = .ok (.getfield 148, 3) := by decide +kernel
theorem r23_50 (l0 l1 l2 : AV) (xg xi : Nat) (st : List AV) (M : Mm) : run 23 50 [l0, l1, l2] (aR xg 4 xi :: st) M = run 23 53 [l0, l1, l2] (aI (M xg 4 xi 2) :: st) M := e_gfi d23_50 rfl rfl rfl
theorem d23_53 : decode (cod 23) 53 = .ok (.iload_n 1, 1) := by decide +kernel
theorem r23_53 (l0 l2 : AV) (x : Int32) (st : List AV) (M : Mm) : run 23 53 [l0, aI x, l2] st M = run 23 54 [l0, aI x, l2] (aI x :: st) M := e_ildn d23_53 rfl
theorem d23_54 : decode (cod 23) 54 = .ok (.if_icmp .ne 5, 3) := by decide +kernel
theorem r23_54 (l0 l1 l2 : AV) (a b : Int32) (st : List AV) (M : Mm) : run 23 54 [l0, l1, l2] (aI b :: aI a :: st) M = if a = b then run 23 57 [l0, l1, l2] st M else run 23 59 [l0, l1, l2] st M := e_ne2 59 d23_54 (by decide)
theorem d23_57 : decode (cod 23) 57 = .ok (.iconst 0, 1) := by decide +kernel
theorem r23_57 (l0 l1 l2 : AV) (st : List AV) (M : Mm) : run 23 57 [l0, l1, l2] st M = run 23 58 [l0, l1, l2] (aI 0 :: st) M := e_iconst 0 d23_57 (by decide +kernel)
theorem d23_58 : decode (cod 23) 58 = .ok (.ireturn, 1) := by decide +kernel
theorem r23_58 (l0 l1 l2 : AV) (v : Int32) (M : Mm) : run 23 58 [l0, l1, l2] [aI v] M = if v = 0 ∨ v = 1 then some (some v, M) else none := e_zret d23_58 rfl
theorem d23_59 : decode (cod 23) 59 = .ok (.iinc 2 1, 3) := by decide +kernel
theorem r23_59 (l0 l1 : AV) (x : Int32) (st : List AV) (M : Mm) : run 23 59 [l0, l1, aI x] st M = run 23 62 [l0, l1, aI (x + 1)] st M := e_iinc 1 [l0, l1, aI (x + 1)] d23_59 (by decide +kernel) rfl rfl
theorem d23_62 : decode (cod 23) 62 = .ok (.goto (-26), 3) := by decide +kernel
theorem r23_62 (l0 l1 l2 : AV) (st : List AV) (M : Mm) : run 23 62 [l0, l1, l2] st M = run 23 36 [l0, l1, l2] st M := e_goto 36 d23_62 (by decide)
theorem d23_65 : decode (cod 23) 65 = .ok (.iconst 1, 1) := by decide +kernel
theorem r23_65 (l0 l1 l2 : AV) (st : List AV) (M : Mm) : run 23 65 [l0, l1, l2] st M = run 23 66 [l0, l1, l2] (aI 1 :: st) M := e_iconst 1 d23_65 (by decide +kernel)
theorem d23_66 : decode (cod 23) 66 = .ok (.ireturn, 1) := by decide +kernel
theorem r23_66 (l0 l1 l2 : AV) (v : Int32) (M : Mm) : run 23 66 [l0, l1, l2] [aI v] M = if v = 0 ∨ v = 1 then some (some v, M) else none := e_zret d23_66 rfl
theorem c24 (g0 i0 : Nat) (x1 : Int32) (M : Mm) : call 24 [aR g0 0 i0, aI x1] M = run 24 0 [aR g0 0 i0, aI x1, none] [] M := call_run 24 _ _
theorem d24_0 : decode (cod 24) 0 = .ok (.aload_n 0, 1) := by decide +kernel
theorem r24_0 (l1 l2 : AV) (xg xi : Nat) (st : List AV) (M : Mm) : run 24 0 [aR xg 0 xi, l1, l2] st M = run 24 1 [aR xg 0 xi, l1, l2] (aR xg 0 xi :: st) M := e_aldn d24_0 rfl
theorem d24_1 : decode (cod 24) 1 = .ok (.getfield 11, 3) := by decide +kernel
theorem r24_1 (l0 l1 l2 : AV) (xg xi : Nat) (st : List AV) (M : Mm) : run 24 1 [l0, l1, l2] (aR xg 0 xi :: st) M = run 24 4 [l0, l1, l2] (aR xg 1 0 :: st) M := e_gfr (fun g => (g, 1, 0)) d24_1 rfl rfl rfl
theorem d24_4 : decode (cod 24) 4 = .ok (.iload_n 1, 1) := by decide +kernel
theorem r24_4 (l0 l2 : AV) (x : Int32) (st : List AV) (M : Mm) : run 24 4 [l0, aI x, l2] st M = run 24 5 [l0, aI x, l2] (aI x :: st) M := e_ildn d24_4 rfl
theorem d24_5 : decode (cod 24) 5 = .ok (.aaload, 1) := by decide +kernel
theorem r24_5 (l0 l1 l2 : AV) (i : Int32) (xg xi : Nat) (st : List AV) (M : Mm) : run 24 5 [l0, l1, l2] (aI i :: aR xg 1 xi :: st) M = if vpB i 4 = true then run 24 6 [l0, l1, l2] (aR xg 2 i.toNatClampNeg :: st) M else none := e_aal1 d24_5
theorem d24_6 : decode (cod 24) 6 = .ok (.astore_n 2, 1) := by decide +kernel
theorem r24_6 (l0 l1 l2 : AV) (xg xi : Nat) (st : List AV) (M : Mm) : run 24 6 [l0, l1, l2] (aR xg 2 xi :: st) M = run 24 7 [l0, l1, aR xg 2 xi] st M := e_astn [l0, l1, aR xg 2 xi] d24_6 rfl rfl
theorem d24_7 : decode (cod 24) 7 = .ok (.aload_n 0, 1) := by decide +kernel
theorem r24_7 (l1 l2 : AV) (xg xi : Nat) (st : List AV) (M : Mm) : run 24 7 [aR xg 0 xi, l1, l2] st M = run 24 8 [aR xg 0 xi, l1, l2] (aR xg 0 xi :: st) M := e_aldn d24_7 rfl
theorem d24_8 : decode (cod 24) 8 = .ok (.getfield 45, 3) := by decide +kernel
theorem r24_8 (l0 l1 l2 : AV) (xg xi : Nat) (st : List AV) (M : Mm) : run 24 8 [l0, l1, l2] (aR xg 0 xi :: st) M = run 24 11 [l0, l1, l2] (aI (M xg 0 xi 9) :: st) M := e_gfi d24_8 rfl rfl rfl
theorem d24_11 : decode (cod 24) 11 = .ok (.tableswitch 86 1 5 #[33, 56, 72, 78, 83], 33) := by decide +kernel
theorem r24_11 (l0 l1 l2 : AV) (x : Int32) (st : List AV) (M : Mm) : run 24 11 [l0, l1, l2] (aI x :: st) M = if x = 1 then run 24 44 [l0, l1, l2] st M else if x = 2 then run 24 67 [l0, l1, l2] st M else if x = 3 then run 24 83 [l0, l1, l2] st M else if x = 4 then run 24 89 [l0, l1, l2] st M else if x = 5 then run 24 94 [l0, l1, l2] st M else run 24 97 [l0, l1, l2] st M := by
  rw [run_step d24_11 rfl]
  simp only [stpI, tsw]
  by_cases c0 : x = 1
  · subst c0
    rw [if_pos rfl]
    rfl
  rw [if_neg c0]
  by_cases c1 : x = 2
  · subst c1
    rw [if_pos rfl]
    rfl
  rw [if_neg c1]
  by_cases c2 : x = 3
  · subst c2
    rw [if_pos rfl]
    rfl
  rw [if_neg c2]
  by_cases c3 : x = 4
  · subst c3
    rw [if_pos rfl]
    rfl
  rw [if_neg c3]
  by_cases c4 : x = 5
  · subst c4
    rw [if_pos rfl]
    rfl
  rw [if_neg c4]
  have hx : x.toInt < 1 ∨ 5 < x.toInt := by
    have h : ∀ k : Int, ¬ x = Int32.ofInt k → -2147483648 ≤ k → k < 2147483648 → ¬ x.toInt = k := fun k hk hl hh e => hk (Int32.toInt_inj.mp (by rw [e, Int32.toInt_ofInt_of_le hl hh]))
    have fc0 := h 1 c0 (by decide) (by decide)
    have fc1 := h 2 c1 (by decide) (by decide)
    have fc2 := h 3 c2 (by decide) (by decide)
    have fc3 := h 4 c3 (by decide) (by decide)
    have fc4 := h 5 c4 (by decide) (by decide)
    omega
  rw [if_pos hx, jmp_run 97 (by decide)]
  rfl
theorem d24_44 : decode (cod 24) 44 = .ok (.aload_n 2, 1) := by decide +kernel
theorem r24_44 (l0 l1 : AV) (xg xi : Nat) (st : List AV) (M : Mm) : run 24 44 [l0, l1, aR xg 2 xi] st M = run 24 45 [l0, l1, aR xg 2 xi] (aR xg 2 xi :: st) M := e_aldn d24_44 rfl
theorem d24_45 : decode (cod 24) 45 = .ok (.getfield 94, 3) := by decide +kernel
theorem r24_45 (l0 l1 l2 : AV) (xg xi : Nat) (st : List AV) (M : Mm) : run 24 45 [l0, l1, l2] (aR xg 2 xi :: st) M = run 24 48 [l0, l1, l2] (aI (M xg 2 xi 4) :: st) M := e_gfi d24_45 rfl rfl rfl
theorem d24_48 : decode (cod 24) 48 = .ok (.aload_n 2, 1) := by decide +kernel
theorem r24_48 (l0 l1 : AV) (xg xi : Nat) (st : List AV) (M : Mm) : run 24 48 [l0, l1, aR xg 2 xi] st M = run 24 49 [l0, l1, aR xg 2 xi] (aR xg 2 xi :: st) M := e_aldn d24_48 rfl
theorem d24_49 : decode (cod 24) 49 = .ok (.getfield 130, 3) := by decide +kernel
theorem r24_49 (l0 l1 l2 : AV) (xg xi : Nat) (st : List AV) (M : Mm) : run 24 49 [l0, l1, l2] (aR xg 2 xi :: st) M = run 24 52 [l0, l1, l2] (aI (M xg 2 xi 5) :: st) M := e_gfi d24_49 rfl rfl rfl
theorem d24_52 : decode (cod 24) 52 = .ok (.if_icmp .ge 10, 3) := by decide +kernel
theorem r24_52 (l0 l1 l2 : AV) (a b : Int32) (st : List AV) (M : Mm) : run 24 52 [l0, l1, l2] (aI b :: aI a :: st) M = if a < b then run 24 55 [l0, l1, l2] st M else run 24 62 [l0, l1, l2] st M := e_ge2 62 d24_52 (by decide)
theorem d24_55 : decode (cod 24) 55 = .ok (.aload_n 2, 1) := by decide +kernel
theorem r24_55 (l0 l1 : AV) (xg xi : Nat) (st : List AV) (M : Mm) : run 24 55 [l0, l1, aR xg 2 xi] st M = run 24 56 [l0, l1, aR xg 2 xi] (aR xg 2 xi :: st) M := e_aldn d24_55 rfl
theorem d24_56 : decode (cod 24) 56 = .ok (.getfield 94, 3) := by decide +kernel
theorem r24_56 (l0 l1 l2 : AV) (xg xi : Nat) (st : List AV) (M : Mm) : run 24 56 [l0, l1, l2] (aR xg 2 xi :: st) M = run 24 59 [l0, l1, l2] (aI (M xg 2 xi 4) :: st) M := e_gfi d24_56 rfl rfl rfl
theorem d24_59 : decode (cod 24) 59 = .ok (.goto 7, 3) := by decide +kernel
theorem r24_59 (l0 l1 l2 : AV) (st : List AV) (M : Mm) : run 24 59 [l0, l1, l2] st M = run 24 66 [l0, l1, l2] st M := e_goto 66 d24_59 (by decide)
theorem d24_62 : decode (cod 24) 62 = .ok (.aload_n 2, 1) := by decide +kernel
theorem r24_62 (l0 l1 : AV) (xg xi : Nat) (st : List AV) (M : Mm) : run 24 62 [l0, l1, aR xg 2 xi] st M = run 24 63 [l0, l1, aR xg 2 xi] (aR xg 2 xi :: st) M := e_aldn d24_62 rfl
theorem d24_63 : decode (cod 24) 63 = .ok (.getfield 130, 3) := by decide +kernel
theorem r24_63 (l0 l1 l2 : AV) (xg xi : Nat) (st : List AV) (M : Mm) : run 24 63 [l0, l1, l2] (aR xg 2 xi :: st) M = run 24 66 [l0, l1, l2] (aI (M xg 2 xi 5) :: st) M := e_gfi d24_63 rfl rfl rfl
theorem d24_66 : decode (cod 24) 66 = .ok (.ireturn, 1) := by decide +kernel
theorem r24_66 (l0 l1 l2 : AV) (v : Int32) (M : Mm) : run 24 66 [l0, l1, l2] [aI v] M = some (some v, M) := e_iret d24_66 rfl
theorem d24_67 : decode (cod 24) 67 = .ok (.iload_n 1, 1) := by decide +kernel
theorem r24_67 (l0 l2 : AV) (x : Int32) (st : List AV) (M : Mm) : run 24 67 [l0, aI x, l2] st M = run 24 68 [l0, aI x, l2] (aI x :: st) M := e_ildn d24_67 rfl
theorem d24_68 : decode (cod 24) 68 = .ok (.aload_n 0, 1) := by decide +kernel
theorem r24_68 (l1 l2 : AV) (xg xi : Nat) (st : List AV) (M : Mm) : run 24 68 [aR xg 0 xi, l1, l2] st M = run 24 69 [aR xg 0 xi, l1, l2] (aR xg 0 xi :: st) M := e_aldn d24_68 rfl
theorem d24_69 : decode (cod 24) 69 = .ok (.getfield 54, 3) := by decide +kernel
theorem r24_69 (l0 l1 l2 : AV) (xg xi : Nat) (st : List AV) (M : Mm) : run 24 69 [l0, l1, l2] (aR xg 0 xi :: st) M = run 24 72 [l0, l1, l2] (aI (M xg 0 xi 12) :: st) M := e_gfi d24_69 rfl rfl rfl
theorem d24_72 : decode (cod 24) 72 = .ok (.if_icmp .le 7, 3) := by decide +kernel
theorem r24_72 (l0 l1 l2 : AV) (a b : Int32) (st : List AV) (M : Mm) : run 24 72 [l0, l1, l2] (aI b :: aI a :: st) M = if b < a then run 24 75 [l0, l1, l2] st M else run 24 79 [l0, l1, l2] st M := e_le2 79 d24_72 (by decide)
theorem d24_75 : decode (cod 24) 75 = .ok (.iload_n 1, 1) := by decide +kernel
theorem r24_75 (l0 l2 : AV) (x : Int32) (st : List AV) (M : Mm) : run 24 75 [l0, aI x, l2] st M = run 24 76 [l0, aI x, l2] (aI x :: st) M := e_ildn d24_75 rfl
theorem d24_76 : decode (cod 24) 76 = .ok (.goto 6, 3) := by decide +kernel
theorem r24_76 (l0 l1 l2 : AV) (st : List AV) (M : Mm) : run 24 76 [l0, l1, l2] st M = run 24 82 [l0, l1, l2] st M := e_goto 82 d24_76 (by decide)
theorem d24_79 : decode (cod 24) 79 = .ok (.iload_n 1, 1) := by decide +kernel
theorem r24_79 (l0 l2 : AV) (x : Int32) (st : List AV) (M : Mm) : run 24 79 [l0, aI x, l2] st M = run 24 80 [l0, aI x, l2] (aI x :: st) M := e_ildn d24_79 rfl
theorem d24_80 : decode (cod 24) 80 = .ok (.iconst 4, 1) := by decide +kernel
theorem r24_80 (l0 l1 l2 : AV) (st : List AV) (M : Mm) : run 24 80 [l0, l1, l2] st M = run 24 81 [l0, l1, l2] (aI 4 :: st) M := e_iconst 4 d24_80 (by decide +kernel)
theorem d24_81 : decode (cod 24) 81 = .ok (.iadd, 1) := by decide +kernel
theorem r24_81 (l0 l1 l2 : AV) (a b : Int32) (st : List AV) (M : Mm) : run 24 81 [l0, l1, l2] (aI b :: aI a :: st) M = run 24 82 [l0, l1, l2] (aI (a + b) :: st) M := e_iadd d24_81
theorem d24_82 : decode (cod 24) 82 = .ok (.ireturn, 1) := by decide +kernel
theorem r24_82 (l0 l1 l2 : AV) (v : Int32) (M : Mm) : run 24 82 [l0, l1, l2] [aI v] M = some (some v, M) := e_iret d24_82 rfl
theorem d24_83 : decode (cod 24) 83 = .ok (.aload_n 2, 1) := by decide +kernel
theorem r24_83 (l0 l1 : AV) (xg xi : Nat) (st : List AV) (M : Mm) : run 24 83 [l0, l1, aR xg 2 xi] st M = run 24 84 [l0, l1, aR xg 2 xi] (aR xg 2 xi :: st) M := e_aldn d24_83 rfl
theorem d24_84 : decode (cod 24) 84 = .ok (.getfield 151, 3) := by decide +kernel
theorem r24_84 (l0 l1 l2 : AV) (xg xi : Nat) (st : List AV) (M : Mm) : run 24 84 [l0, l1, l2] (aR xg 2 xi :: st) M = run 24 87 [l0, l1, l2] (aI (M xg 2 xi 1) :: st) M := e_gfi d24_84 rfl rfl rfl
theorem d24_87 : decode (cod 24) 87 = .ok (.ineg, 1) := by decide +kernel
theorem r24_87 (l0 l1 l2 : AV) (a : Int32) (st : List AV) (M : Mm) : run 24 87 [l0, l1, l2] (aI a :: st) M = run 24 88 [l0, l1, l2] (aI (-a) :: st) M := e_ineg d24_87
theorem d24_88 : decode (cod 24) 88 = .ok (.ireturn, 1) := by decide +kernel
theorem r24_88 (l0 l1 l2 : AV) (v : Int32) (M : Mm) : run 24 88 [l0, l1, l2] [aI v] M = some (some v, M) := e_iret d24_88 rfl
theorem d24_89 : decode (cod 24) 89 = .ok (.aload_n 2, 1) := by decide +kernel
theorem r24_89 (l0 l1 : AV) (xg xi : Nat) (st : List AV) (M : Mm) : run 24 89 [l0, l1, aR xg 2 xi] st M = run 24 90 [l0, l1, aR xg 2 xi] (aR xg 2 xi :: st) M := e_aldn d24_89 rfl
theorem d24_90 : decode (cod 24) 90 = .ok (.invokevirtual 154, 3) := by decide +kernel
theorem r24_90 (l0 l1 l2 : AV) (a0g a0i : Nat) (M : Mm) : run 24 90 [l0, l1, l2] [aR a0g 2 a0i] M = cbI (call 4 [aR a0g 2 a0i] M) (fun v M => run 24 93 [l0, l1, l2] [aI v] M) := call_I (n := 1) rfl false d24_90 rfl rfl rfl rfl rfl rfl rfl
theorem d24_93 : decode (cod 24) 93 = .ok (.ireturn, 1) := by decide +kernel
theorem r24_93 (l0 l1 l2 : AV) (v : Int32) (M : Mm) : run 24 93 [l0, l1, l2] [aI v] M = some (some v, M) := e_iret d24_93 rfl
theorem d24_94 : decode (cod 24) 94 = .ok (.iload_n 1, 1) := by decide +kernel
theorem r24_94 (l0 l2 : AV) (x : Int32) (st : List AV) (M : Mm) : run 24 94 [l0, aI x, l2] st M = run 24 95 [l0, aI x, l2] (aI x :: st) M := e_ildn d24_94 rfl
theorem d24_95 : decode (cod 24) 95 = .ok (.ineg, 1) := by decide +kernel
theorem r24_95 (l0 l1 l2 : AV) (a : Int32) (st : List AV) (M : Mm) : run 24 95 [l0, l1, l2] (aI a :: st) M = run 24 96 [l0, l1, l2] (aI (-a) :: st) M := e_ineg d24_95
theorem d24_96 : decode (cod 24) 96 = .ok (.ireturn, 1) := by decide +kernel
theorem r24_96 (l0 l1 l2 : AV) (v : Int32) (M : Mm) : run 24 96 [l0, l1, l2] [aI v] M = some (some v, M) := e_iret d24_96 rfl
theorem d24_97 : decode (cod 24) 97 = .ok (.iload_n 1, 1) := by decide +kernel
theorem r24_97 (l0 l2 : AV) (x : Int32) (st : List AV) (M : Mm) : run 24 97 [l0, aI x, l2] st M = run 24 98 [l0, aI x, l2] (aI x :: st) M := e_ildn d24_97 rfl
theorem d24_98 : decode (cod 24) 98 = .ok (.ireturn, 1) := by decide +kernel
theorem r24_98 (l0 l1 l2 : AV) (v : Int32) (M : Mm) : run 24 98 [l0, l1, l2] [aI v] M = some (some v, M) := e_iret d24_98 rfl
theorem c25 (g0 i0 : Nat) (M : Mm) : call 25 [aR g0 0 i0] M = run 25 0 [aR g0 0 i0, none, none, none, none] [] M := call_run 25 _ _
theorem d25_0 : decode (cod 25) 0 = .ok (.iconst 0, 1) := by decide +kernel
theorem r25_0 (l0 l1 l2 l3 l4 : AV) (st : List AV) (M : Mm) : run 25 0 [l0, l1, l2, l3, l4] st M = run 25 1 [l0, l1, l2, l3, l4] (aI 0 :: st) M := e_iconst 0 d25_0 (by decide +kernel)
theorem d25_1 : decode (cod 25) 1 = .ok (.istore_n 1, 1) := by decide +kernel
theorem r25_1 (l0 l1 l2 l3 l4 : AV) (x : Int32) (st : List AV) (M : Mm) : run 25 1 [l0, l1, l2, l3, l4] (aI x :: st) M = run 25 2 [l0, aI x, l2, l3, l4] st M := e_istn [l0, aI x, l2, l3, l4] d25_1 rfl rfl
theorem d25_2 : decode (cod 25) 2 = .ok (.bipush (-9), 2) := by decide +kernel
theorem r25_2 (l0 l1 l2 l3 l4 : AV) (st : List AV) (M : Mm) : run 25 2 [l0, l1, l2, l3, l4] st M = run 25 4 [l0, l1, l2, l3, l4] (aI (-9) :: st) M := e_bipush (-9) d25_2 (by decide +kernel)
theorem d25_4 : decode (cod 25) 4 = .ok (.istore_n 2, 1) := by decide +kernel
theorem r25_4 (l0 l1 l2 l3 l4 : AV) (x : Int32) (st : List AV) (M : Mm) : run 25 4 [l0, l1, l2, l3, l4] (aI x :: st) M = run 25 5 [l0, l1, aI x, l3, l4] st M := e_istn [l0, l1, aI x, l3, l4] d25_4 rfl rfl
theorem d25_5 : decode (cod 25) 5 = .ok (.iconst 0, 1) := by decide +kernel
theorem r25_5 (l0 l1 l2 l3 l4 : AV) (st : List AV) (M : Mm) : run 25 5 [l0, l1, l2, l3, l4] st M = run 25 6 [l0, l1, l2, l3, l4] (aI 0 :: st) M := e_iconst 0 d25_5 (by decide +kernel)
theorem d25_6 : decode (cod 25) 6 = .ok (.istore_n 3, 1) := by decide +kernel
theorem r25_6 (l0 l1 l2 l3 l4 : AV) (x : Int32) (st : List AV) (M : Mm) : run 25 6 [l0, l1, l2, l3, l4] (aI x :: st) M = run 25 7 [l0, l1, l2, aI x, l4] st M := e_istn [l0, l1, l2, aI x, l4] d25_6 rfl rfl
theorem d25_7 : decode (cod 25) 7 = .ok (.iload_n 3, 1) := by decide +kernel
theorem r25_7 (l0 l1 l2 l4 : AV) (x : Int32) (st : List AV) (M : Mm) : run 25 7 [l0, l1, l2, aI x, l4] st M = run 25 8 [l0, l1, l2, aI x, l4] (aI x :: st) M := e_ildn d25_7 rfl
theorem d25_8 : decode (cod 25) 8 = .ok (.aload_n 0, 1) := by decide +kernel
theorem r25_8 (l1 l2 l3 l4 : AV) (xg xi : Nat) (st : List AV) (M : Mm) : run 25 8 [aR xg 0 xi, l1, l2, l3, l4] st M = run 25 9 [aR xg 0 xi, l1, l2, l3, l4] (aR xg 0 xi :: st) M := e_aldn d25_8 rfl
theorem d25_9 : decode (cod 25) 9 = .ok (.getfield 17, 3) := by decide +kernel
theorem r25_9 (l0 l1 l2 l3 l4 : AV) (xg xi : Nat) (st : List AV) (M : Mm) : run 25 9 [l0, l1, l2, l3, l4] (aR xg 0 xi :: st) M = run 25 12 [l0, l1, l2, l3, l4] (aI (M xg 0 xi 1) :: st) M := e_gfi d25_9 rfl rfl rfl
theorem d25_12 : decode (cod 25) 12 = .ok (.if_icmp .ge 74, 3) := by decide +kernel
theorem r25_12 (l0 l1 l2 l3 l4 : AV) (a b : Int32) (st : List AV) (M : Mm) : run 25 12 [l0, l1, l2, l3, l4] (aI b :: aI a :: st) M = if a < b then run 25 15 [l0, l1, l2, l3, l4] st M else run 25 86 [l0, l1, l2, l3, l4] st M := e_ge2 86 d25_12 (by decide)
theorem d25_15 : decode (cod 25) 15 = .ok (.aload_n 0, 1) := by decide +kernel
theorem r25_15 (l1 l2 l3 l4 : AV) (xg xi : Nat) (st : List AV) (M : Mm) : run 25 15 [aR xg 0 xi, l1, l2, l3, l4] st M = run 25 16 [aR xg 0 xi, l1, l2, l3, l4] (aR xg 0 xi :: st) M := e_aldn d25_15 rfl
theorem d25_16 : decode (cod 25) 16 = .ok (.getfield 11, 3) := by decide +kernel
theorem r25_16 (l0 l1 l2 l3 l4 : AV) (xg xi : Nat) (st : List AV) (M : Mm) : run 25 16 [l0, l1, l2, l3, l4] (aR xg 0 xi :: st) M = run 25 19 [l0, l1, l2, l3, l4] (aR xg 1 0 :: st) M := e_gfr (fun g => (g, 1, 0)) d25_16 rfl rfl rfl
theorem d25_19 : decode (cod 25) 19 = .ok (.iload_n 3, 1) := by decide +kernel
theorem r25_19 (l0 l1 l2 l4 : AV) (x : Int32) (st : List AV) (M : Mm) : run 25 19 [l0, l1, l2, aI x, l4] st M = run 25 20 [l0, l1, l2, aI x, l4] (aI x :: st) M := e_ildn d25_19 rfl
theorem d25_20 : decode (cod 25) 20 = .ok (.aaload, 1) := by decide +kernel
theorem r25_20 (l0 l1 l2 l3 l4 : AV) (i : Int32) (xg xi : Nat) (st : List AV) (M : Mm) : run 25 20 [l0, l1, l2, l3, l4] (aI i :: aR xg 1 xi :: st) M = if vpB i 4 = true then run 25 21 [l0, l1, l2, l3, l4] (aR xg 2 i.toNatClampNeg :: st) M else none := e_aal1 d25_20
theorem d25_21 : decode (cod 25) 21 = .ok (.getfield 100, 3) := by decide +kernel
theorem r25_21 (l0 l1 l2 l3 l4 : AV) (xg xi : Nat) (st : List AV) (M : Mm) : run 25 21 [l0, l1, l2, l3, l4] (aR xg 2 xi :: st) M = run 25 24 [l0, l1, l2, l3, l4] (aI (M xg 2 xi 6) :: st) M := e_gfi d25_21 rfl rfl rfl
theorem d25_24 : decode (cod 25) 24 = .ok (.istore 4, 2) := by decide +kernel
theorem r25_24 (l0 l1 l2 l3 l4 : AV) (x : Int32) (st : List AV) (M : Mm) : run 25 24 [l0, l1, l2, l3, l4] (aI x :: st) M = run 25 26 [l0, l1, l2, l3, aI x] st M := e_ist [l0, l1, l2, l3, aI x] d25_24 rfl rfl
theorem d25_26 : decode (cod 25) 26 = .ok (.aload_n 0, 1) := by decide +kernel
theorem r25_26 (l1 l2 l3 l4 : AV) (xg xi : Nat) (st : List AV) (M : Mm) : run 25 26 [aR xg 0 xi, l1, l2, l3, l4] st M = run 25 27 [aR xg 0 xi, l1, l2, l3, l4] (aR xg 0 xi :: st) M := e_aldn d25_26 rfl
theorem d25_27 : decode (cod 25) 27 = .ok (.getfield 67, 3) := by decide +kernel
theorem r25_27 (l0 l1 l2 l3 l4 : AV) (xg xi : Nat) (st : List AV) (M : Mm) : run 25 27 [l0, l1, l2, l3, l4] (aR xg 0 xi :: st) M = run 25 30 [l0, l1, l2, l3, l4] (aR xg 5 0 :: st) M := e_gfr (fun g => (g, 5, 0)) d25_27 rfl rfl rfl
theorem d25_30 : decode (cod 25) 30 = .ok (.dup, 1) := by decide +kernel
theorem r25_30 (l0 l1 l2 l3 l4 : AV) (xg xi : Nat) (st : List AV) (M : Mm) : run 25 30 [l0, l1, l2, l3, l4] (aR xg 5 xi :: st) M = run 25 31 [l0, l1, l2, l3, l4] (aR xg 5 xi :: aR xg 5 xi :: st) M := e_dup d25_30
theorem d25_31 : decode (cod 25) 31 = .ok (.getfield 123, 3) := by decide +kernel
theorem r25_31 (l0 l1 l2 l3 l4 : AV) (xg xi : Nat) (st : List AV) (M : Mm) : run 25 31 [l0, l1, l2, l3, l4] (aR xg 5 xi :: st) M = run 25 34 [l0, l1, l2, l3, l4] (aI (M xg 5 xi 1) :: st) M := e_gfi d25_31 rfl rfl rfl
theorem d25_34 : decode (cod 25) 34 = .ok (.aload_n 0, 1) := by decide +kernel
theorem r25_34 (l1 l2 l3 l4 : AV) (xg xi : Nat) (st : List AV) (M : Mm) : run 25 34 [aR xg 0 xi, l1, l2, l3, l4] st M = run 25 35 [aR xg 0 xi, l1, l2, l3, l4] (aR xg 0 xi :: st) M := e_aldn d25_34 rfl
theorem d25_35 : decode (cod 25) 35 = .ok (.getfield 11, 3) := by decide +kernel
theorem r25_35 (l0 l1 l2 l3 l4 : AV) (xg xi : Nat) (st : List AV) (M : Mm) : run 25 35 [l0, l1, l2, l3, l4] (aR xg 0 xi :: st) M = run 25 38 [l0, l1, l2, l3, l4] (aR xg 1 0 :: st) M := e_gfr (fun g => (g, 1, 0)) d25_35 rfl rfl rfl
theorem d25_38 : decode (cod 25) 38 = .ok (.iload_n 3, 1) := by decide +kernel
theorem r25_38 (l0 l1 l2 l4 : AV) (x : Int32) (st : List AV) (M : Mm) : run 25 38 [l0, l1, l2, aI x, l4] st M = run 25 39 [l0, l1, l2, aI x, l4] (aI x :: st) M := e_ildn d25_38 rfl
theorem d25_39 : decode (cod 25) 39 = .ok (.aaload, 1) := by decide +kernel
theorem r25_39 (l0 l1 l2 l3 l4 : AV) (i : Int32) (xg xi : Nat) (st : List AV) (M : Mm) : run 25 39 [l0, l1, l2, l3, l4] (aI i :: aR xg 1 xi :: st) M = if vpB i 4 = true then run 25 40 [l0, l1, l2, l3, l4] (aR xg 2 i.toNatClampNeg :: st) M else none := e_aal1 d25_39
theorem d25_40 : decode (cod 25) 40 = .ok (.aload_n 0, 1) := by decide +kernel
theorem r25_40 (l1 l2 l3 l4 : AV) (xg xi : Nat) (st : List AV) (M : Mm) : run 25 40 [aR xg 0 xi, l1, l2, l3, l4] st M = run 25 41 [aR xg 0 xi, l1, l2, l3, l4] (aR xg 0 xi :: st) M := e_aldn d25_40 rfl
theorem d25_41 : decode (cod 25) 41 = .ok (.getfield 48, 3) := by decide +kernel
theorem r25_41 (l0 l1 l2 l3 l4 : AV) (xg xi : Nat) (st : List AV) (M : Mm) : run 25 41 [l0, l1, l2, l3, l4] (aR xg 0 xi :: st) M = run 25 44 [l0, l1, l2, l3, l4] (aI (M xg 0 xi 10) :: st) M := e_gfi d25_41 rfl rfl rfl
theorem d25_44 : decode (cod 25) 44 = .ok (.invokevirtual 157, 3) := by decide +kernel
theorem r25_44 (l0 l1 l2 l3 l4 : AV) (a0g a0i : Nat) (a1 : Int32) (t0 t1 : AV) (M : Mm) : run 25 44 [l0, l1, l2, l3, l4] [aI a1, aR a0g 2 a0i, t0, t1] M = cbI (call 5 [aR a0g 2 a0i, aI a1] M) (fun v M => run 25 47 [l0, l1, l2, l3, l4] [aI v, t0, t1] M) := call_I (n := 2) rfl false d25_44 rfl rfl rfl rfl rfl rfl rfl
theorem d25_47 : decode (cod 25) 47 = .ok (.iadd, 1) := by decide +kernel
theorem r25_47 (l0 l1 l2 l3 l4 : AV) (a b : Int32) (st : List AV) (M : Mm) : run 25 47 [l0, l1, l2, l3, l4] (aI b :: aI a :: st) M = run 25 48 [l0, l1, l2, l3, l4] (aI (a + b) :: st) M := e_iadd d25_47
theorem d25_48 : decode (cod 25) 48 = .ok (.putfield 123, 3) := by decide +kernel
theorem r25_48 (l0 l1 l2 l3 l4 : AV) (v : Int32) (xg xi : Nat) (st : List AV) (M : Mm) : run 25 48 [l0, l1, l2, l3, l4] (aI v :: aR xg 5 xi :: st) M = run 25 51 [l0, l1, l2, l3, l4] st (wr M xg 5 xi 1 v) := e_pfi d25_48 rfl rfl rfl rfl
theorem d25_51 : decode (cod 25) 51 = .ok (.aload_n 0, 1) := by decide +kernel
theorem r25_51 (l1 l2 l3 l4 : AV) (xg xi : Nat) (st : List AV) (M : Mm) : run 25 51 [aR xg 0 xi, l1, l2, l3, l4] st M = run 25 52 [aR xg 0 xi, l1, l2, l3, l4] (aR xg 0 xi :: st) M := e_aldn d25_51 rfl
theorem d25_52 : decode (cod 25) 52 = .ok (.getfield 11, 3) := by decide +kernel
theorem r25_52 (l0 l1 l2 l3 l4 : AV) (xg xi : Nat) (st : List AV) (M : Mm) : run 25 52 [l0, l1, l2, l3, l4] (aR xg 0 xi :: st) M = run 25 55 [l0, l1, l2, l3, l4] (aR xg 1 0 :: st) M := e_gfr (fun g => (g, 1, 0)) d25_52 rfl rfl rfl
theorem d25_55 : decode (cod 25) 55 = .ok (.iload_n 3, 1) := by decide +kernel
theorem r25_55 (l0 l1 l2 l4 : AV) (x : Int32) (st : List AV) (M : Mm) : run 25 55 [l0, l1, l2, aI x, l4] st M = run 25 56 [l0, l1, l2, aI x, l4] (aI x :: st) M := e_ildn d25_55 rfl
theorem d25_56 : decode (cod 25) 56 = .ok (.aaload, 1) := by decide +kernel
theorem r25_56 (l0 l1 l2 l3 l4 : AV) (i : Int32) (xg xi : Nat) (st : List AV) (M : Mm) : run 25 56 [l0, l1, l2, l3, l4] (aI i :: aR xg 1 xi :: st) M = if vpB i 4 = true then run 25 57 [l0, l1, l2, l3, l4] (aR xg 2 i.toNatClampNeg :: st) M else none := e_aal1 d25_56
theorem d25_57 : decode (cod 25) 57 = .ok (.getfield 100, 3) := by decide +kernel
theorem r25_57 (l0 l1 l2 l3 l4 : AV) (xg xi : Nat) (st : List AV) (M : Mm) : run 25 57 [l0, l1, l2, l3, l4] (aR xg 2 xi :: st) M = run 25 60 [l0, l1, l2, l3, l4] (aI (M xg 2 xi 6) :: st) M := e_gfi d25_57 rfl rfl rfl
theorem d25_60 : decode (cod 25) 60 = .ok (.iload 4, 2) := by decide +kernel
theorem r25_60 (l0 l1 l2 l3 : AV) (x : Int32) (st : List AV) (M : Mm) : run 25 60 [l0, l1, l2, l3, aI x] st M = run 25 62 [l0, l1, l2, l3, aI x] (aI x :: st) M := e_ild d25_60 rfl
theorem d25_62 : decode (cod 25) 62 = .ok (.if_icmp .le 18, 3) := by decide +kernel
theorem r25_62 (l0 l1 l2 l3 l4 : AV) (a b : Int32) (st : List AV) (M : Mm) : run 25 62 [l0, l1, l2, l3, l4] (aI b :: aI a :: st) M = if b < a then run 25 65 [l0, l1, l2, l3, l4] st M else run 25 80 [l0, l1, l2, l3, l4] st M := e_le2 80 d25_62 (by decide)
theorem d25_65 : decode (cod 25) 65 = .ok (.iinc 1 1, 3) := by decide +kernel
theorem r25_65 (l0 l2 l3 l4 : AV) (x : Int32) (st : List AV) (M : Mm) : run 25 65 [l0, aI x, l2, l3, l4] st M = run 25 68 [l0, aI (x + 1), l2, l3, l4] st M := e_iinc 1 [l0, aI (x + 1), l2, l3, l4] d25_65 (by decide +kernel) rfl rfl
theorem d25_68 : decode (cod 25) 68 = .ok (.iload_n 2, 1) := by decide +kernel
theorem r25_68 (l0 l1 l3 l4 : AV) (x : Int32) (st : List AV) (M : Mm) : run 25 68 [l0, l1, aI x, l3, l4] st M = run 25 69 [l0, l1, aI x, l3, l4] (aI x :: st) M := e_ildn d25_68 rfl
theorem d25_69 : decode (cod 25) 69 = .ok (.bipush (-9), 2) := by decide +kernel
theorem r25_69 (l0 l1 l2 l3 l4 : AV) (st : List AV) (M : Mm) : run 25 69 [l0, l1, l2, l3, l4] st M = run 25 71 [l0, l1, l2, l3, l4] (aI (-9) :: st) M := e_bipush (-9) d25_69 (by decide +kernel)
theorem d25_71 : decode (cod 25) 71 = .ok (.if_icmp .ne 7, 3) := by decide +kernel
theorem r25_71 (l0 l1 l2 l3 l4 : AV) (a b : Int32) (st : List AV) (M : Mm) : run 25 71 [l0, l1, l2, l3, l4] (aI b :: aI a :: st) M = if a = b then run 25 74 [l0, l1, l2, l3, l4] st M else run 25 78 [l0, l1, l2, l3, l4] st M := e_ne2 78 d25_71 (by decide)
theorem d25_74 : decode (cod 25) 74 = .ok (.iload_n 3, 1) := by decide +kernel
theorem r25_74 (l0 l1 l2 l4 : AV) (x : Int32) (st : List AV) (M : Mm) : run 25 74 [l0, l1, l2, aI x, l4] st M = run 25 75 [l0, l1, l2, aI x, l4] (aI x :: st) M := e_ildn d25_74 rfl
theorem d25_75 : decode (cod 25) 75 = .ok (.goto 4, 3) := by decide +kernel
theorem r25_75 (l0 l1 l2 l3 l4 : AV) (st : List AV) (M : Mm) : run 25 75 [l0, l1, l2, l3, l4] st M = run 25 79 [l0, l1, l2, l3, l4] st M := e_goto 79 d25_75 (by decide)
theorem d25_78 : decode (cod 25) 78 = .ok (.iload_n 2, 1) := by decide +kernel
theorem r25_78 (l0 l1 l3 l4 : AV) (x : Int32) (st : List AV) (M : Mm) : run 25 78 [l0, l1, aI x, l3, l4] st M = run 25 79 [l0, l1, aI x, l3, l4] (aI x :: st) M := e_ildn d25_78 rfl
theorem d25_79 : decode (cod 25) 79 = .ok (.istore_n 2, 1) := by decide +kernel
theorem r25_79 (l0 l1 l2 l3 l4 : AV) (x : Int32) (st : List AV) (M : Mm) : run 25 79 [l0, l1, l2, l3, l4] (aI x :: st) M = run 25 80 [l0, l1, aI x, l3, l4] st M := e_istn [l0, l1, aI x, l3, l4] d25_79 rfl rfl
theorem d25_80 : decode (cod 25) 80 = .ok (.iinc 3 1, 3) := by decide +kernel
theorem r25_80 (l0 l1 l2 l4 : AV) (x : Int32) (st : List AV) (M : Mm) : run 25 80 [l0, l1, l2, aI x, l4] st M = run 25 83 [l0, l1, l2, aI (x + 1), l4] st M := e_iinc 1 [l0, l1, l2, aI (x + 1), l4] d25_80 (by decide +kernel) rfl rfl
theorem d25_83 : decode (cod 25) 83 = .ok (.goto (-76), 3) := by decide +kernel
theorem r25_83 (l0 l1 l2 l3 l4 : AV) (st : List AV) (M : Mm) : run 25 83 [l0, l1, l2, l3, l4] st M = run 25 7 [l0, l1, l2, l3, l4] st M := e_goto 7 d25_83 (by decide)
theorem d25_86 : decode (cod 25) 86 = .ok (.aload_n 0, 1) := by decide +kernel
theorem r25_86 (l1 l2 l3 l4 : AV) (xg xi : Nat) (st : List AV) (M : Mm) : run 25 86 [aR xg 0 xi, l1, l2, l3, l4] st M = run 25 87 [aR xg 0 xi, l1, l2, l3, l4] (aR xg 0 xi :: st) M := e_aldn d25_86 rfl
theorem d25_87 : decode (cod 25) 87 = .ok (.getfield 67, 3) := by decide +kernel
theorem r25_87 (l0 l1 l2 l3 l4 : AV) (xg xi : Nat) (st : List AV) (M : Mm) : run 25 87 [l0, l1, l2, l3, l4] (aR xg 0 xi :: st) M = run 25 90 [l0, l1, l2, l3, l4] (aR xg 5 0 :: st) M := e_gfr (fun g => (g, 5, 0)) d25_87 rfl rfl rfl
theorem d25_90 : decode (cod 25) 90 = .ok (.iload_n 1, 1) := by decide +kernel
theorem r25_90 (l0 l2 l3 l4 : AV) (x : Int32) (st : List AV) (M : Mm) : run 25 90 [l0, aI x, l2, l3, l4] st M = run 25 91 [l0, aI x, l2, l3, l4] (aI x :: st) M := e_ildn d25_90 rfl
theorem d25_91 : decode (cod 25) 91 = .ok (.iload_n 2, 1) := by decide +kernel
theorem r25_91 (l0 l1 l3 l4 : AV) (x : Int32) (st : List AV) (M : Mm) : run 25 91 [l0, l1, aI x, l3, l4] st M = run 25 92 [l0, l1, aI x, l3, l4] (aI x :: st) M := e_ildn d25_91 rfl
theorem d25_92 : decode (cod 25) 92 = .ok (.invokevirtual 160, 3) := by decide +kernel
theorem r25_92 (l0 l1 l2 l3 l4 : AV) (a0g a0i : Nat) (a1 : Int32) (a2 : Int32) (M : Mm) : run 25 92 [l0, l1, l2, l3, l4] [aI a2, aI a1, aR a0g 5 a0i] M = cbV (call 30 [aR a0g 5 a0i, aI a1, aI a2] M) (fun M => run 25 95 [l0, l1, l2, l3, l4] [] M) := call_V (n := 3) rfl false d25_92 rfl rfl rfl rfl rfl rfl rfl
theorem d25_95 : decode (cod 25) 95 = .ok (.return_, 1) := by decide +kernel
theorem r25_95 (l0 l1 l2 l3 l4 : AV) (M : Mm) : run 25 95 [l0, l1, l2, l3, l4] [] M = some (none, M) := e_vret d25_95 rfl
theorem c26 (g0 i0 : Nat) (g1 i1 : Nat) (M : Mm) : call 26 [aR g0 0 i0, aR g1 4 i1] M = run 26 0 [aR g0 0 i0, aR g1 4 i1] [] M := call_run 26 _ _
theorem d26_0 : decode (cod 26) 0 = .ok (.aload_n 1, 1) := by decide +kernel
theorem r26_0 (l0 : AV) (xg xi : Nat) (st : List AV) (M : Mm) : run 26 0 [l0, aR xg 4 xi] st M = run 26 1 [l0, aR xg 4 xi] (aR xg 4 xi :: st) M := e_aldn d26_0 rfl
theorem d26_1 : decode (cod 26) 1 = .ok (.dup, 1) := by decide +kernel
theorem r26_1 (l0 l1 : AV) (xg xi : Nat) (st : List AV) (M : Mm) : run 26 1 [l0, l1] (aR xg 4 xi :: st) M = run 26 2 [l0, l1] (aR xg 4 xi :: aR xg 4 xi :: st) M := e_dup d26_1
theorem d26_2 : decode (cod 26) 2 = .ok (.getfield 163, 3) := by decide +kernel
theorem r26_2 (l0 l1 : AV) (xg xi : Nat) (st : List AV) (M : Mm) : run 26 2 [l0, l1] (aR xg 4 xi :: st) M = run 26 5 [l0, l1] (aI (M xg 4 xi 1) :: st) M := e_gfi d26_2 rfl rfl rfl
theorem d26_5 : decode (cod 26) 5 = .ok (.iconst 1, 1) := by decide +kernel
theorem r26_5 (l0 l1 : AV) (st : List AV) (M : Mm) : run 26 5 [l0, l1] st M = run 26 6 [l0, l1] (aI 1 :: st) M := e_iconst 1 d26_5 (by decide +kernel)
theorem d26_6 : decode (cod 26) 6 = .ok (.isub, 1) := by decide +kernel
theorem r26_6 (l0 l1 : AV) (a b : Int32) (st : List AV) (M : Mm) : run 26 6 [l0, l1] (aI b :: aI a :: st) M = run 26 7 [l0, l1] (aI (a - b) :: st) M := e_isub d26_6
theorem d26_7 : decode (cod 26) 7 = .ok (.putfield 163, 3) := by decide +kernel
theorem r26_7 (l0 l1 : AV) (v : Int32) (xg xi : Nat) (st : List AV) (M : Mm) : run 26 7 [l0, l1] (aI v :: aR xg 4 xi :: st) M = run 26 10 [l0, l1] st (wr M xg 4 xi 1 v) := e_pfi d26_7 rfl rfl rfl rfl
theorem d26_10 : decode (cod 26) 10 = .ok (.aload_n 1, 1) := by decide +kernel
theorem r26_10 (l0 : AV) (xg xi : Nat) (st : List AV) (M : Mm) : run 26 10 [l0, aR xg 4 xi] st M = run 26 11 [l0, aR xg 4 xi] (aR xg 4 xi :: st) M := e_aldn d26_10 rfl
theorem d26_11 : decode (cod 26) 11 = .ok (.getfield 163, 3) := by decide +kernel
theorem r26_11 (l0 l1 : AV) (xg xi : Nat) (st : List AV) (M : Mm) : run 26 11 [l0, l1] (aR xg 4 xi :: st) M = run 26 14 [l0, l1] (aI (M xg 4 xi 1) :: st) M := e_gfi d26_11 rfl rfl rfl
theorem d26_14 : decode (cod 26) 14 = .ok (.ifCond .le 4, 3) := by decide +kernel
theorem r26_14 (l0 l1 : AV) (a : Int32) (st : List AV) (M : Mm) : run 26 14 [l0, l1] (aI a :: st) M = if 0 < a then run 26 17 [l0, l1] st M else run 26 18 [l0, l1] st M := e_le1 18 d26_14 (by decide)
theorem d26_17 : decode (cod 26) 17 = .ok (.return_, 1) := by decide +kernel
theorem r26_17 (l0 l1 : AV) (M : Mm) : run 26 17 [l0, l1] [] M = some (none, M) := e_vret d26_17 rfl
theorem d26_18 : decode (cod 26) 18 = .ok (.aload_n 1, 1) := by decide +kernel
theorem r26_18 (l0 : AV) (xg xi : Nat) (st : List AV) (M : Mm) : run 26 18 [l0, aR xg 4 xi] st M = run 26 19 [l0, aR xg 4 xi] (aR xg 4 xi :: st) M := e_aldn d26_18 rfl
theorem d26_19 : decode (cod 26) 19 = .ok (.getfield 80, 3) := by decide +kernel
theorem r26_19 (l0 l1 : AV) (xg xi : Nat) (st : List AV) (M : Mm) : run 26 19 [l0, l1] (aR xg 4 xi :: st) M = run 26 22 [l0, l1] (aI (M xg 4 xi 0) :: st) M := e_gfi d26_19 rfl rfl rfl
theorem d26_22 : decode (cod 26) 22 = .ok (.iconst 2, 1) := by decide +kernel
theorem r26_22 (l0 l1 : AV) (st : List AV) (M : Mm) : run 26 22 [l0, l1] st M = run 26 23 [l0, l1] (aI 2 :: st) M := e_iconst 2 d26_22 (by decide +kernel)
theorem d26_23 : decode (cod 26) 23 = .ok (.if_icmp .ne 18, 3) := by decide +kernel
theorem r26_23 (l0 l1 : AV) (a b : Int32) (st : List AV) (M : Mm) : run 26 23 [l0, l1] (aI b :: aI a :: st) M = if a = b then run 26 26 [l0, l1] st M else run 26 41 [l0, l1] st M := e_ne2 41 d26_23 (by decide)
theorem d26_26 : decode (cod 26) 26 = .ok (.aload_n 0, 1) := by decide +kernel
theorem r26_26 (l1 : AV) (xg xi : Nat) (st : List AV) (M : Mm) : run 26 26 [aR xg 0 xi, l1] st M = run 26 27 [aR xg 0 xi, l1] (aR xg 0 xi :: st) M := e_aldn d26_26 rfl
theorem d26_27 : decode (cod 26) 27 = .ok (.aload_n 1, 1) := by decide +kernel
theorem r26_27 (l0 : AV) (xg xi : Nat) (st : List AV) (M : Mm) : run 26 27 [l0, aR xg 4 xi] st M = run 26 28 [l0, aR xg 4 xi] (aR xg 4 xi :: st) M := e_aldn d26_27 rfl
theorem d26_28 : decode (cod 26) 28 = .ok (.invokevirtual 164, 3) := by decide +kernel
theorem r26_28 (l0 l1 : AV) (a0g a0i : Nat) (a1g a1i : Nat) (M : Mm) : run 26 28 [l0, l1] [aR a1g 4 a1i, aR a0g 0 a0i] M = cbV (call 27 [aR a0g 0 a0i, aR a1g 4 a1i] M) (fun M => run 26 31 [l0, l1] [] M) := call_V (n := 2) rfl false d26_28 rfl rfl rfl rfl rfl rfl rfl
theorem d26_31 : decode (cod 26) 31 = .ok (.aload_n 1, 1) := by decide +kernel
theorem r26_31 (l0 : AV) (xg xi : Nat) (st : List AV) (M : Mm) : run 26 31 [l0, aR xg 4 xi] st M = run 26 32 [l0, aR xg 4 xi] (aR xg 4 xi :: st) M := e_aldn d26_31 rfl
theorem d26_32 : decode (cod 26) 32 = .ok (.iconst 3, 1) := by decide +kernel
theorem r26_32 (l0 l1 : AV) (st : List AV) (M : Mm) : run 26 32 [l0, l1] st M = run 26 33 [l0, l1] (aI 3 :: st) M := e_iconst 3 d26_32 (by decide +kernel)
theorem d26_33 : decode (cod 26) 33 = .ok (.aload_n 0, 1) := by decide +kernel
theorem r26_33 (l1 : AV) (xg xi : Nat) (st : List AV) (M : Mm) : run 26 33 [aR xg 0 xi, l1] st M = run 26 34 [aR xg 0 xi, l1] (aR xg 0 xi :: st) M := e_aldn d26_33 rfl
theorem d26_34 : decode (cod 26) 34 = .ok (.getfield 33, 3) := by decide +kernel
theorem r26_34 (l0 l1 : AV) (xg xi : Nat) (st : List AV) (M : Mm) : run 26 34 [l0, l1] (aR xg 0 xi :: st) M = run 26 37 [l0, l1] (aI (M xg 0 xi 5) :: st) M := e_gfi d26_34 rfl rfl rfl
theorem d26_37 : decode (cod 26) 37 = .ok (.invokevirtual 83, 3) := by decide +kernel
theorem r26_37 (l0 l1 : AV) (a0g a0i : Nat) (a1 : Int32) (a2 : Int32) (M : Mm) : run 26 37 [l0, l1] [aI a2, aI a1, aR a0g 4 a0i] M = cbV (call 9 [aR a0g 4 a0i, aI a1, aI a2] M) (fun M => run 26 40 [l0, l1] [] M) := call_V (n := 3) rfl false d26_37 rfl rfl rfl rfl rfl rfl rfl
theorem d26_40 : decode (cod 26) 40 = .ok (.return_, 1) := by decide +kernel
theorem r26_40 (l0 l1 : AV) (M : Mm) : run 26 40 [l0, l1] [] M = some (none, M) := e_vret d26_40 rfl
theorem d26_41 : decode (cod 26) 41 = .ok (.aload_n 1, 1) := by decide +kernel
theorem r26_41 (l0 : AV) (xg xi : Nat) (st : List AV) (M : Mm) : run 26 41 [l0, aR xg 4 xi] st M = run 26 42 [l0, aR xg 4 xi] (aR xg 4 xi :: st) M := e_aldn d26_41 rfl
theorem d26_42 : decode (cod 26) 42 = .ok (.getfield 80, 3) := by decide +kernel
theorem r26_42 (l0 l1 : AV) (xg xi : Nat) (st : List AV) (M : Mm) : run 26 42 [l0, l1] (aR xg 4 xi :: st) M = run 26 45 [l0, l1] (aI (M xg 4 xi 0) :: st) M := e_gfi d26_42 rfl rfl rfl
theorem d26_45 : decode (cod 26) 45 = .ok (.iconst 1, 1) := by decide +kernel
theorem r26_45 (l0 l1 : AV) (st : List AV) (M : Mm) : run 26 45 [l0, l1] st M = run 26 46 [l0, l1] (aI 1 :: st) M := e_iconst 1 d26_45 (by decide +kernel)
theorem d26_46 : decode (cod 26) 46 = .ok (.if_icmp .ne 22, 3) := by decide +kernel
theorem r26_46 (l0 l1 : AV) (a b : Int32) (st : List AV) (M : Mm) : run 26 46 [l0, l1] (aI b :: aI a :: st) M = if a = b then run 26 49 [l0, l1] st M else run 26 68 [l0, l1] st M := e_ne2 68 d26_46 (by decide)
theorem d26_49 : decode (cod 26) 49 = .ok (.aload_n 0, 1) := by decide +kernel
theorem r26_49 (l1 : AV) (xg xi : Nat) (st : List AV) (M : Mm) : run 26 49 [aR xg 0 xi, l1] st M = run 26 50 [aR xg 0 xi, l1] (aR xg 0 xi :: st) M := e_aldn d26_49 rfl
theorem d26_50 : decode (cod 26) 50 = .ok (.aload_n 0, 1) := by decide +kernel
theorem r26_50 (l1 : AV) (xg xi : Nat) (st : List AV) (M : Mm) : run 26 50 [aR xg 0 xi, l1] st M = run 26 51 [aR xg 0 xi, l1] (aR xg 0 xi :: st) M := e_aldn d26_50 rfl
theorem d26_51 : decode (cod 26) 51 = .ok (.getfield 42, 3) := by decide +kernel
theorem r26_51 (l0 l1 : AV) (xg xi : Nat) (st : List AV) (M : Mm) : run 26 51 [l0, l1] (aR xg 0 xi :: st) M = run 26 54 [l0, l1] (aI (M xg 0 xi 8) :: st) M := e_gfi d26_51 rfl rfl rfl
theorem d26_54 : decode (cod 26) 54 = .ok (.aload_n 0, 1) := by decide +kernel
theorem r26_54 (l1 : AV) (xg xi : Nat) (st : List AV) (M : Mm) : run 26 54 [aR xg 0 xi, l1] st M = run 26 55 [aR xg 0 xi, l1] (aR xg 0 xi :: st) M := e_aldn d26_54 rfl
theorem d26_55 : decode (cod 26) 55 = .ok (.getfield 39, 3) := by decide +kernel
theorem r26_55 (l0 l1 : AV) (xg xi : Nat) (st : List AV) (M : Mm) : run 26 55 [l0, l1] (aR xg 0 xi :: st) M = run 26 58 [l0, l1] (aI (M xg 0 xi 7) :: st) M := e_gfi d26_55 rfl rfl rfl
theorem d26_58 : decode (cod 26) 58 = .ok (.iadd, 1) := by decide +kernel
theorem r26_58 (l0 l1 : AV) (a b : Int32) (st : List AV) (M : Mm) : run 26 58 [l0, l1] (aI b :: aI a :: st) M = run 26 59 [l0, l1] (aI (a + b) :: st) M := e_iadd d26_58
theorem d26_59 : decode (cod 26) 59 = .ok (.sipush 240, 3) := by decide +kernel
theorem r26_59 (l0 l1 : AV) (st : List AV) (M : Mm) : run 26 59 [l0, l1] st M = run 26 62 [l0, l1] (aI 240 :: st) M := e_sipush 240 d26_59 (by decide +kernel)
theorem d26_62 : decode (cod 26) 62 = .ok (.invokestatic 167, 3) := by decide +kernel
theorem r26_62 (l0 l1 : AV) (a b : Int32) (t0 : AV) (M : Mm) : run 26 62 [l0, l1] [aI b, aI a, t0] M = run 26 65 [l0, l1] [aI (if b < a then b else a), t0] M := e_min d26_62 rfl rfl
theorem d26_65 : decode (cod 26) 65 = .ok (.putfield 42, 3) := by decide +kernel
theorem r26_65 (l0 l1 : AV) (v : Int32) (xg xi : Nat) (st : List AV) (M : Mm) : run 26 65 [l0, l1] (aI v :: aR xg 0 xi :: st) M = run 26 68 [l0, l1] st (wr M xg 0 xi 8 v) := e_pfi d26_65 rfl rfl rfl rfl
theorem d26_68 : decode (cod 26) 68 = .ok (.aload_n 1, 1) := by decide +kernel
theorem r26_68 (l0 : AV) (xg xi : Nat) (st : List AV) (M : Mm) : run 26 68 [l0, aR xg 4 xi] st M = run 26 69 [l0, aR xg 4 xi] (aR xg 4 xi :: st) M := e_aldn d26_68 rfl
theorem d26_69 : decode (cod 26) 69 = .ok (.iconst 0, 1) := by decide +kernel
theorem r26_69 (l0 l1 : AV) (st : List AV) (M : Mm) : run 26 69 [l0, l1] st M = run 26 70 [l0, l1] (aI 0 :: st) M := e_iconst 0 d26_69 (by decide +kernel)
theorem d26_70 : decode (cod 26) 70 = .ok (.iconst 0, 1) := by decide +kernel
theorem r26_70 (l0 l1 : AV) (st : List AV) (M : Mm) : run 26 70 [l0, l1] st M = run 26 71 [l0, l1] (aI 0 :: st) M := e_iconst 0 d26_70 (by decide +kernel)
theorem d26_71 : decode (cod 26) 71 = .ok (.invokevirtual 83, 3) := by decide +kernel
theorem r26_71 (l0 l1 : AV) (a0g a0i : Nat) (a1 : Int32) (a2 : Int32) (M : Mm) : run 26 71 [l0, l1] [aI a2, aI a1, aR a0g 4 a0i] M = cbV (call 9 [aR a0g 4 a0i, aI a1, aI a2] M) (fun M => run 26 74 [l0, l1] [] M) := call_V (n := 3) rfl false d26_71 rfl rfl rfl rfl rfl rfl rfl
theorem d26_74 : decode (cod 26) 74 = .ok (.return_, 1) := by decide +kernel
theorem r26_74 (l0 l1 : AV) (M : Mm) : run 26 74 [l0, l1] [] M = some (none, M) := e_vret d26_74 rfl
theorem c27 (g0 i0 : Nat) (g1 i1 : Nat) (M : Mm) : call 27 [aR g0 0 i0, aR g1 4 i1] M = run 27 0 [aR g0 0 i0, aR g1 4 i1, none] [] M := call_run 27 _ _
theorem d27_0 : decode (cod 27) 0 = .ok (.aload_n 0, 1) := by decide +kernel
theorem r27_0 (l1 l2 : AV) (xg xi : Nat) (st : List AV) (M : Mm) : run 27 0 [aR xg 0 xi, l1, l2] st M = run 27 1 [aR xg 0 xi, l1, l2] (aR xg 0 xi :: st) M := e_aldn d27_0 rfl
theorem d27_1 : decode (cod 27) 1 = .ok (.aload_n 1, 1) := by decide +kernel
theorem r27_1 (l0 l2 : AV) (xg xi : Nat) (st : List AV) (M : Mm) : run 27 1 [l0, aR xg 4 xi, l2] st M = run 27 2 [l0, aR xg 4 xi, l2] (aR xg 4 xi :: st) M := e_aldn d27_1 rfl
theorem d27_2 : decode (cod 27) 2 = .ok (.getfield 148, 3) := by decide +kernel
theorem r27_2 (l0 l1 l2 : AV) (xg xi : Nat) (st : List AV) (M : Mm) : run 27 2 [l0, l1, l2] (aR xg 4 xi :: st) M = run 27 5 [l0, l1, l2] (aI (M xg 4 xi 2) :: st) M := e_gfi d27_2 rfl rfl rfl
theorem d27_5 : decode (cod 27) 5 = .ok (.invokevirtual 126, 3) := by decide +kernel
theorem r27_5 (l0 l1 l2 : AV) (a0g a0i : Nat) (a1 : Int32) (M : Mm) : run 27 5 [l0, l1, l2] [aI a1, aR a0g 0 a0i] M = cbI (call 12 [aR a0g 0 a0i, aI a1] M) (fun v M => run 27 8 [l0, l1, l2] [aI v] M) := call_I (n := 2) rfl false d27_5 rfl rfl rfl rfl rfl rfl rfl
theorem d27_8 : decode (cod 27) 8 = .ok (.ifCond .ne 4, 3) := by decide +kernel
theorem r27_8 (l0 l1 l2 : AV) (a : Int32) (st : List AV) (M : Mm) : run 27 8 [l0, l1, l2] (aI a :: st) M = if a = 0 then run 27 11 [l0, l1, l2] st M else run 27 12 [l0, l1, l2] st M := e_ne1 12 d27_8 (by decide)
theorem d27_11 : decode (cod 27) 11 = .ok (.return_, 1) := by decide +kernel
theorem r27_11 (l0 l1 l2 : AV) (M : Mm) : run 27 11 [l0, l1, l2] [] M = some (none, M) := e_vret d27_11 rfl
theorem d27_12 : decode (cod 27) 12 = .ok (.aload_n 0, 1) := by decide +kernel
theorem r27_12 (l1 l2 : AV) (xg xi : Nat) (st : List AV) (M : Mm) : run 27 12 [aR xg 0 xi, l1, l2] st M = run 27 13 [aR xg 0 xi, l1, l2] (aR xg 0 xi :: st) M := e_aldn d27_12 rfl
theorem d27_13 : decode (cod 27) 13 = .ok (.getfield 11, 3) := by decide +kernel
theorem r27_13 (l0 l1 l2 : AV) (xg xi : Nat) (st : List AV) (M : Mm) : run 27 13 [l0, l1, l2] (aR xg 0 xi :: st) M = run 27 16 [l0, l1, l2] (aR xg 1 0 :: st) M := e_gfr (fun g => (g, 1, 0)) d27_13 rfl rfl rfl
theorem d27_16 : decode (cod 27) 16 = .ok (.aload_n 1, 1) := by decide +kernel
theorem r27_16 (l0 l2 : AV) (xg xi : Nat) (st : List AV) (M : Mm) : run 27 16 [l0, aR xg 4 xi, l2] st M = run 27 17 [l0, aR xg 4 xi, l2] (aR xg 4 xi :: st) M := e_aldn d27_16 rfl
theorem d27_17 : decode (cod 27) 17 = .ok (.getfield 148, 3) := by decide +kernel
theorem r27_17 (l0 l1 l2 : AV) (xg xi : Nat) (st : List AV) (M : Mm) : run 27 17 [l0, l1, l2] (aR xg 4 xi :: st) M = run 27 20 [l0, l1, l2] (aI (M xg 4 xi 2) :: st) M := e_gfi d27_17 rfl rfl rfl
theorem d27_20 : decode (cod 27) 20 = .ok (.aaload, 1) := by decide +kernel
theorem r27_20 (l0 l1 l2 : AV) (i : Int32) (xg xi : Nat) (st : List AV) (M : Mm) : run 27 20 [l0, l1, l2] (aI i :: aR xg 1 xi :: st) M = if vpB i 4 = true then run 27 21 [l0, l1, l2] (aR xg 2 i.toNatClampNeg :: st) M else none := e_aal1 d27_20
theorem d27_21 : decode (cod 27) 21 = .ok (.astore_n 2, 1) := by decide +kernel
theorem r27_21 (l0 l1 l2 : AV) (xg xi : Nat) (st : List AV) (M : Mm) : run 27 21 [l0, l1, l2] (aR xg 2 xi :: st) M = run 27 22 [l0, l1, aR xg 2 xi] st M := e_astn [l0, l1, aR xg 2 xi] d27_21 rfl rfl
theorem d27_22 : decode (cod 27) 22 = .ok (.aload_n 0, 1) := by decide +kernel
theorem r27_22 (l1 l2 : AV) (xg xi : Nat) (st : List AV) (M : Mm) : run 27 22 [aR xg 0 xi, l1, l2] st M = run 27 23 [aR xg 0 xi, l1, l2] (aR xg 0 xi :: st) M := e_aldn d27_22 rfl
theorem d27_23 : decode (cod 27) 23 = .ok (.getfield 67, 3) := by decide +kernel
theorem r27_23 (l0 l1 l2 : AV) (xg xi : Nat) (st : List AV) (M : Mm) : run 27 23 [l0, l1, l2] (aR xg 0 xi :: st) M = run 27 26 [l0, l1, l2] (aR xg 5 0 :: st) M := e_gfr (fun g => (g, 5, 0)) d27_23 rfl rfl rfl
theorem d27_26 : decode (cod 27) 26 = .ok (.dup, 1) := by decide +kernel
theorem r27_26 (l0 l1 l2 : AV) (xg xi : Nat) (st : List AV) (M : Mm) : run 27 26 [l0, l1, l2] (aR xg 5 xi :: st) M = run 27 27 [l0, l1, l2] (aR xg 5 xi :: aR xg 5 xi :: st) M := e_dup d27_26
theorem d27_27 : decode (cod 27) 27 = .ok (.getfield 173, 3) := by decide +kernel
theorem r27_27 (l0 l1 l2 : AV) (xg xi : Nat) (st : List AV) (M : Mm) : run 27 27 [l0, l1, l2] (aR xg 5 xi :: st) M = run 27 30 [l0, l1, l2] (aI (M xg 5 xi 8) :: st) M := e_gfi d27_27 rfl rfl rfl
theorem d27_30 : decode (cod 27) 30 = .ok (.aload_n 1, 1) := by decide +kernel
theorem r27_30 (l0 l2 : AV) (xg xi : Nat) (st : List AV) (M : Mm) : run 27 30 [l0, aR xg 4 xi, l2] st M = run 27 31 [l0, aR xg 4 xi, l2] (aR xg 4 xi :: st) M := e_aldn d27_30 rfl
theorem d27_31 : decode (cod 27) 31 = .ok (.getfield 176, 3) := by decide +kernel
theorem r27_31 (l0 l1 l2 : AV) (xg xi : Nat) (st : List AV) (M : Mm) : run 27 31 [l0, l1, l2] (aR xg 4 xi :: st) M = run 27 34 [l0, l1, l2] (aI (M xg 4 xi 3) :: st) M := e_gfi d27_31 rfl rfl rfl
theorem d27_34 : decode (cod 27) 34 = .ok (.ifCond .eq 19, 3) := by decide +kernel
theorem r27_34 (l0 l1 l2 : AV) (a : Int32) (st : List AV) (M : Mm) : run 27 34 [l0, l1, l2] (aI a :: st) M = if a = 0 then run 27 53 [l0, l1, l2] st M else run 27 37 [l0, l1, l2] st M := e_eq1 53 d27_34 (by decide)
theorem d27_37 : decode (cod 27) 37 = .ok (.aload_n 2, 1) := by decide +kernel
theorem r27_37 (l0 l1 : AV) (xg xi : Nat) (st : List AV) (M : Mm) : run 27 37 [l0, l1, aR xg 2 xi] st M = run 27 38 [l0, l1, aR xg 2 xi] (aR xg 2 xi :: st) M := e_aldn d27_37 rfl
theorem d27_38 : decode (cod 27) 38 = .ok (.aload_n 0, 1) := by decide +kernel
theorem r27_38 (l1 l2 : AV) (xg xi : Nat) (st : List AV) (M : Mm) : run 27 38 [aR xg 0 xi, l1, l2] st M = run 27 39 [aR xg 0 xi, l1, l2] (aR xg 0 xi :: st) M := e_aldn d27_38 rfl
theorem d27_39 : decode (cod 27) 39 = .ok (.getfield 30, 3) := by decide +kernel
theorem r27_39 (l0 l1 l2 : AV) (xg xi : Nat) (st : List AV) (M : Mm) : run 27 39 [l0, l1, l2] (aR xg 0 xi :: st) M = run 27 42 [l0, l1, l2] (aI (M xg 0 xi 4) :: st) M := e_gfi d27_39 rfl rfl rfl
theorem d27_42 : decode (cod 27) 42 = .ok (.aload_n 0, 1) := by decide +kernel
theorem r27_42 (l1 l2 : AV) (xg xi : Nat) (st : List AV) (M : Mm) : run 27 42 [aR xg 0 xi, l1, l2] st M = run 27 43 [aR xg 0 xi, l1, l2] (aR xg 0 xi :: st) M := e_aldn d27_42 rfl
theorem d27_43 : decode (cod 27) 43 = .ok (.getfield 57, 3) := by decide +kernel
theorem r27_43 (l0 l1 l2 : AV) (xg xi : Nat) (st : List AV) (M : Mm) : run 27 43 [l0, l1, l2] (aR xg 0 xi :: st) M = run 27 46 [l0, l1, l2] (aI (M xg 0 xi 13) :: st) M := e_gfi d27_43 rfl rfl rfl
theorem d27_46 : decode (cod 27) 46 = .ok (.iadd, 1) := by decide +kernel
theorem r27_46 (l0 l1 l2 : AV) (a b : Int32) (st : List AV) (M : Mm) : run 27 46 [l0, l1, l2] (aI b :: aI a :: st) M = run 27 47 [l0, l1, l2] (aI (a + b) :: st) M := e_iadd d27_46
theorem d27_47 : decode (cod 27) 47 = .ok (.invokevirtual 180, 3) := by decide +kernel
theorem r27_47 (l0 l1 l2 : AV) (a0g a0i : Nat) (a1 : Int32) (t0 t1 : AV) (M : Mm) : run 27 47 [l0, l1, l2] [aI a1, aR a0g 2 a0i, t0, t1] M = cbI (call 6 [aR a0g 2 a0i, aI a1] M) (fun v M => run 27 50 [l0, l1, l2] [aI v, t0, t1] M) := call_I (n := 2) rfl false d27_47 rfl rfl rfl rfl rfl rfl rfl
theorem d27_50 : decode (cod 27) 50 = .ok (.goto 11, 3) := by decide +kernel
theorem r27_50 (l0 l1 l2 : AV) (st : List AV) (M : Mm) : run 27 50 [l0, l1, l2] st M = run 27 61 [l0, l1, l2] st M := e_goto 61 d27_50 (by decide)
theorem d27_53 : decode (cod 27) 53 = .ok (.aload_n 2, 1) := by decide +kernel
theorem r27_53 (l0 l1 : AV) (xg xi : Nat) (st : List AV) (M : Mm) : run 27 53 [l0, l1, aR xg 2 xi] st M = run 27 54 [l0, l1, aR xg 2 xi] (aR xg 2 xi :: st) M := e_aldn d27_53 rfl
theorem d27_54 : decode (cod 27) 54 = .ok (.aload_n 0, 1) := by decide +kernel
theorem r27_54 (l1 l2 : AV) (xg xi : Nat) (st : List AV) (M : Mm) : run 27 54 [aR xg 0 xi, l1, l2] st M = run 27 55 [aR xg 0 xi, l1, l2] (aR xg 0 xi :: st) M := e_aldn d27_54 rfl
theorem d27_55 : decode (cod 27) 55 = .ok (.getfield 30, 3) := by decide +kernel
theorem r27_55 (l0 l1 l2 : AV) (xg xi : Nat) (st : List AV) (M : Mm) : run 27 55 [l0, l1, l2] (aR xg 0 xi :: st) M = run 27 58 [l0, l1, l2] (aI (M xg 0 xi 4) :: st) M := e_gfi d27_55 rfl rfl rfl
theorem d27_58 : decode (cod 27) 58 = .ok (.invokevirtual 183, 3) := by decide +kernel
theorem r27_58 (l0 l1 l2 : AV) (a0g a0i : Nat) (a1 : Int32) (t0 t1 : AV) (M : Mm) : run 27 58 [l0, l1, l2] [aI a1, aR a0g 2 a0i, t0, t1] M = cbI (call 7 [aR a0g 2 a0i, aI a1] M) (fun v M => run 27 61 [l0, l1, l2] [aI v, t0, t1] M) := call_I (n := 2) rfl false d27_58 rfl rfl rfl rfl rfl rfl rfl
theorem d27_61 : decode (cod 27) 61 = .ok (.iadd, 1) := by decide +kernel
theorem r27_61 (l0 l1 l2 : AV) (a b : Int32) (st : List AV) (M : Mm) : run 27 61 [l0, l1, l2] (aI b :: aI a :: st) M = run 27 62 [l0, l1, l2] (aI (a + b) :: st) M := e_iadd d27_61
theorem d27_62 : decode (cod 27) 62 = .ok (.putfield 173, 3) := by decide +kernel
theorem r27_62 (l0 l1 l2 : AV) (v : Int32) (xg xi : Nat) (st : List AV) (M : Mm) : run 27 62 [l0, l1, l2] (aI v :: aR xg 5 xi :: st) M = run 27 65 [l0, l1, l2] st (wr M xg 5 xi 8 v) := e_pfi d27_62 rfl rfl rfl rfl
theorem d27_65 : decode (cod 27) 65 = .ok (.return_, 1) := by decide +kernel
theorem r27_65 (l0 l1 l2 : AV) (M : Mm) : run 27 65 [l0, l1, l2] [] M = some (none, M) := e_vret d27_65 rfl
theorem c28 (g0 i0 : Nat) (M : Mm) : call 28 [aR g0 5 i0] M = run 28 0 [aR g0 5 i0] [] M := call_run 28 _ _
theorem d28_0 : decode (cod 28) 0 = .ok (.aload_n 0, 1) := by decide +kernel
theorem r28_0 (xg xi : Nat) (st : List AV) (M : Mm) : run 28 0 [aR xg 5 xi] st M = run 28 1 [aR xg 5 xi] (aR xg 5 xi :: st) M := e_aldn d28_0 rfl
theorem d28_1 : decode (cod 28) 1 = .ok (.iconst 0, 1) := by decide +kernel
theorem r28_1 (l0 : AV) (st : List AV) (M : Mm) : run 28 1 [l0] st M = run 28 2 [l0] (aI 0 :: st) M := e_iconst 0 d28_1 (by decide +kernel)
theorem d28_2 : decode (cod 28) 2 = .ok (.putfield 15, 3) := by decide +kernel
theorem r28_2 (l0 : AV) (v : Int32) (xg xi : Nat) (st : List AV) (M : Mm) : run 28 2 [l0] (aI v :: aR xg 5 xi :: st) M = run 28 5 [l0] st (wr M xg 5 xi 0 v) := e_pfi d28_2 rfl rfl rfl rfl
theorem d28_5 : decode (cod 28) 5 = .ok (.aload_n 0, 1) := by decide +kernel
theorem r28_5 (xg xi : Nat) (st : List AV) (M : Mm) : run 28 5 [aR xg 5 xi] st M = run 28 6 [aR xg 5 xi] (aR xg 5 xi :: st) M := e_aldn d28_5 rfl
theorem d28_6 : decode (cod 28) 6 = .ok (.iconst 0, 1) := by decide +kernel
theorem r28_6 (l0 : AV) (st : List AV) (M : Mm) : run 28 6 [l0] st M = run 28 7 [l0] (aI 0 :: st) M := e_iconst 0 d28_6 (by decide +kernel)
theorem d28_7 : decode (cod 28) 7 = .ok (.putfield 19, 3) := by decide +kernel
theorem r28_7 (l0 : AV) (v : Int32) (xg xi : Nat) (st : List AV) (M : Mm) : run 28 7 [l0] (aI v :: aR xg 5 xi :: st) M = run 28 10 [l0] st (wr M xg 5 xi 1 v) := e_pfi d28_7 rfl rfl rfl rfl
theorem d28_10 : decode (cod 28) 10 = .ok (.aload_n 0, 1) := by decide +kernel
theorem r28_10 (xg xi : Nat) (st : List AV) (M : Mm) : run 28 10 [aR xg 5 xi] st M = run 28 11 [aR xg 5 xi] (aR xg 5 xi :: st) M := e_aldn d28_10 rfl
theorem d28_11 : decode (cod 28) 11 = .ok (.iconst 0, 1) := by decide +kernel
theorem r28_11 (l0 : AV) (st : List AV) (M : Mm) : run 28 11 [l0] st M = run 28 12 [l0] (aI 0 :: st) M := e_iconst 0 d28_11 (by decide +kernel)
theorem d28_12 : decode (cod 28) 12 = .ok (.putfield 22, 3) := by decide +kernel
theorem r28_12 (l0 : AV) (v : Int32) (xg xi : Nat) (st : List AV) (M : Mm) : run 28 12 [l0] (aI v :: aR xg 5 xi :: st) M = run 28 15 [l0] st (wr M xg 5 xi 2 v) := e_pfi d28_12 rfl rfl rfl rfl
theorem d28_15 : decode (cod 28) 15 = .ok (.aload_n 0, 1) := by decide +kernel
theorem r28_15 (xg xi : Nat) (st : List AV) (M : Mm) : run 28 15 [aR xg 5 xi] st M = run 28 16 [aR xg 5 xi] (aR xg 5 xi :: st) M := e_aldn d28_15 rfl
theorem d28_16 : decode (cod 28) 16 = .ok (.iconst 0, 1) := by decide +kernel
theorem r28_16 (l0 : AV) (st : List AV) (M : Mm) : run 28 16 [l0] st M = run 28 17 [l0] (aI 0 :: st) M := e_iconst 0 d28_16 (by decide +kernel)
theorem d28_17 : decode (cod 28) 17 = .ok (.putfield 25, 3) := by decide +kernel
theorem r28_17 (l0 : AV) (v : Int32) (xg xi : Nat) (st : List AV) (M : Mm) : run 28 17 [l0] (aI v :: aR xg 5 xi :: st) M = run 28 20 [l0] st (wr M xg 5 xi 3 v) := e_pfi d28_17 rfl rfl rfl rfl
theorem d28_20 : decode (cod 28) 20 = .ok (.aload_n 0, 1) := by decide +kernel
theorem r28_20 (xg xi : Nat) (st : List AV) (M : Mm) : run 28 20 [aR xg 5 xi] st M = run 28 21 [aR xg 5 xi] (aR xg 5 xi :: st) M := e_aldn d28_20 rfl
theorem d28_21 : decode (cod 28) 21 = .ok (.bipush (-9), 2) := by decide +kernel
theorem r28_21 (l0 : AV) (st : List AV) (M : Mm) : run 28 21 [l0] st M = run 28 23 [l0] (aI (-9) :: st) M := e_bipush (-9) d28_21 (by decide +kernel)
theorem d28_23 : decode (cod 28) 23 = .ok (.putfield 28, 3) := by decide +kernel
theorem r28_23 (l0 : AV) (v : Int32) (xg xi : Nat) (st : List AV) (M : Mm) : run 28 23 [l0] (aI v :: aR xg 5 xi :: st) M = run 28 26 [l0] st (wr M xg 5 xi 4 v) := e_pfi d28_23 rfl rfl rfl rfl
theorem d28_26 : decode (cod 28) 26 = .ok (.aload_n 0, 1) := by decide +kernel
theorem r28_26 (xg xi : Nat) (st : List AV) (M : Mm) : run 28 26 [aR xg 5 xi] st M = run 28 27 [aR xg 5 xi] (aR xg 5 xi :: st) M := e_aldn d28_26 rfl
theorem d28_27 : decode (cod 28) 27 = .ok (.bipush (-9), 2) := by decide +kernel
theorem r28_27 (l0 : AV) (st : List AV) (M : Mm) : run 28 27 [l0] st M = run 28 29 [l0] (aI (-9) :: st) M := e_bipush (-9) d28_27 (by decide +kernel)
theorem d28_29 : decode (cod 28) 29 = .ok (.putfield 31, 3) := by decide +kernel
theorem r28_29 (l0 : AV) (v : Int32) (xg xi : Nat) (st : List AV) (M : Mm) : run 28 29 [l0] (aI v :: aR xg 5 xi :: st) M = run 28 32 [l0] st (wr M xg 5 xi 5 v) := e_pfi d28_29 rfl rfl rfl rfl
theorem d28_32 : decode (cod 28) 32 = .ok (.aload_n 0, 1) := by decide +kernel
theorem r28_32 (xg xi : Nat) (st : List AV) (M : Mm) : run 28 32 [aR xg 5 xi] st M = run 28 33 [aR xg 5 xi] (aR xg 5 xi :: st) M := e_aldn d28_32 rfl
theorem d28_33 : decode (cod 28) 33 = .ok (.iconst 0, 1) := by decide +kernel
theorem r28_33 (l0 : AV) (st : List AV) (M : Mm) : run 28 33 [l0] st M = run 28 34 [l0] (aI 0 :: st) M := e_iconst 0 d28_33 (by decide +kernel)
theorem d28_34 : decode (cod 28) 34 = .ok (.putfield 34, 3) := by decide +kernel
theorem r28_34 (l0 : AV) (v : Int32) (xg xi : Nat) (st : List AV) (M : Mm) : run 28 34 [l0] (aI v :: aR xg 5 xi :: st) M = run 28 37 [l0] st (wr M xg 5 xi 6 v) := e_pfi d28_34 rfl rfl rfl rfl
theorem d28_37 : decode (cod 28) 37 = .ok (.aload_n 0, 1) := by decide +kernel
theorem r28_37 (xg xi : Nat) (st : List AV) (M : Mm) : run 28 37 [aR xg 5 xi] st M = run 28 38 [aR xg 5 xi] (aR xg 5 xi :: st) M := e_aldn d28_37 rfl
theorem d28_38 : decode (cod 28) 38 = .ok (.iconst 0, 1) := by decide +kernel
theorem r28_38 (l0 : AV) (st : List AV) (M : Mm) : run 28 38 [l0] st M = run 28 39 [l0] (aI 0 :: st) M := e_iconst 0 d28_38 (by decide +kernel)
theorem d28_39 : decode (cod 28) 39 = .ok (.putfield 37, 3) := by decide +kernel
theorem r28_39 (l0 : AV) (v : Int32) (xg xi : Nat) (st : List AV) (M : Mm) : run 28 39 [l0] (aI v :: aR xg 5 xi :: st) M = run 28 42 [l0] st (wr M xg 5 xi 7 v) := e_pfi d28_39 rfl rfl rfl rfl
theorem d28_42 : decode (cod 28) 42 = .ok (.aload_n 0, 1) := by decide +kernel
theorem r28_42 (xg xi : Nat) (st : List AV) (M : Mm) : run 28 42 [aR xg 5 xi] st M = run 28 43 [aR xg 5 xi] (aR xg 5 xi :: st) M := e_aldn d28_42 rfl
theorem d28_43 : decode (cod 28) 43 = .ok (.iconst 0, 1) := by decide +kernel
theorem r28_43 (l0 : AV) (st : List AV) (M : Mm) : run 28 43 [l0] st M = run 28 44 [l0] (aI 0 :: st) M := e_iconst 0 d28_43 (by decide +kernel)
theorem d28_44 : decode (cod 28) 44 = .ok (.putfield 40, 3) := by decide +kernel
theorem r28_44 (l0 : AV) (v : Int32) (xg xi : Nat) (st : List AV) (M : Mm) : run 28 44 [l0] (aI v :: aR xg 5 xi :: st) M = run 28 47 [l0] st (wr M xg 5 xi 8 v) := e_pfi d28_44 rfl rfl rfl rfl
theorem d28_47 : decode (cod 28) 47 = .ok (.aload_n 0, 1) := by decide +kernel
theorem r28_47 (xg xi : Nat) (st : List AV) (M : Mm) : run 28 47 [aR xg 5 xi] st M = run 28 48 [aR xg 5 xi] (aR xg 5 xi :: st) M := e_aldn d28_47 rfl
theorem d28_48 : decode (cod 28) 48 = .ok (.iconst 0, 1) := by decide +kernel
theorem r28_48 (l0 : AV) (st : List AV) (M : Mm) : run 28 48 [l0] st M = run 28 49 [l0] (aI 0 :: st) M := e_iconst 0 d28_48 (by decide +kernel)
theorem d28_49 : decode (cod 28) 49 = .ok (.putfield 43, 3) := by decide +kernel
theorem r28_49 (l0 : AV) (v : Int32) (xg xi : Nat) (st : List AV) (M : Mm) : run 28 49 [l0] (aI v :: aR xg 5 xi :: st) M = run 28 52 [l0] st (wr M xg 5 xi 10 v) := e_pfi d28_49 rfl rfl rfl rfl
theorem d28_52 : decode (cod 28) 52 = .ok (.return_, 1) := by decide +kernel
theorem r28_52 (l0 : AV) (M : Mm) : run 28 52 [l0] [] M = some (none, M) := e_vret d28_52 rfl
theorem c29 (g0 i0 : Nat) (x1 : Int32) (M : Mm) : call 29 [aR g0 5 i0, aI x1] M = run 29 0 [aR g0 5 i0, aI x1] [] M := call_run 29 _ _
theorem d29_0 : decode (cod 29) 0 = .ok (.iload_n 1, 1) := by decide +kernel
theorem r29_0 (l0 : AV) (x : Int32) (st : List AV) (M : Mm) : run 29 0 [l0, aI x] st M = run 29 1 [l0, aI x] (aI x :: st) M := e_ildn d29_0 rfl
theorem d29_1 : decode (cod 29) 1 = .ok (.bipush 9, 2) := by decide +kernel
theorem r29_1 (l0 l1 : AV) (st : List AV) (M : Mm) : run 29 1 [l0, l1] st M = run 29 3 [l0, l1] (aI 9 :: st) M := e_bipush 9 d29_1 (by decide +kernel)
theorem d29_3 : decode (cod 29) 3 = .ok (.if_icmp .ne 16, 3) := by decide +kernel
theorem r29_3 (l0 l1 : AV) (a b : Int32) (st : List AV) (M : Mm) : run 29 3 [l0, l1] (aI b :: aI a :: st) M = if a = b then run 29 6 [l0, l1] st M else run 29 19 [l0, l1] st M := e_ne2 19 d29_3 (by decide)
theorem d29_6 : decode (cod 29) 6 = .ok (.aload_n 0, 1) := by decide +kernel
theorem r29_6 (l1 : AV) (xg xi : Nat) (st : List AV) (M : Mm) : run 29 6 [aR xg 5 xi, l1] st M = run 29 7 [aR xg 5 xi, l1] (aR xg 5 xi :: st) M := e_aldn d29_6 rfl
theorem d29_7 : decode (cod 29) 7 = .ok (.dup, 1) := by decide +kernel
theorem r29_7 (l0 l1 : AV) (xg xi : Nat) (st : List AV) (M : Mm) : run 29 7 [l0, l1] (aR xg 5 xi :: st) M = run 29 8 [l0, l1] (aR xg 5 xi :: aR xg 5 xi :: st) M := e_dup d29_7
theorem d29_8 : decode (cod 29) 8 = .ok (.getfield 37, 3) := by decide +kernel
theorem r29_8 (l0 l1 : AV) (xg xi : Nat) (st : List AV) (M : Mm) : run 29 8 [l0, l1] (aR xg 5 xi :: st) M = run 29 11 [l0, l1] (aI (M xg 5 xi 7) :: st) M := e_gfi d29_8 rfl rfl rfl
theorem d29_11 : decode (cod 29) 11 = .ok (.iconst 1, 1) := by decide +kernel
theorem r29_11 (l0 l1 : AV) (st : List AV) (M : Mm) : run 29 11 [l0, l1] st M = run 29 12 [l0, l1] (aI 1 :: st) M := e_iconst 1 d29_11 (by decide +kernel)
theorem d29_12 : decode (cod 29) 12 = .ok (.iadd, 1) := by decide +kernel
theorem r29_12 (l0 l1 : AV) (a b : Int32) (st : List AV) (M : Mm) : run 29 12 [l0, l1] (aI b :: aI a :: st) M = run 29 13 [l0, l1] (aI (a + b) :: st) M := e_iadd d29_12
theorem d29_13 : decode (cod 29) 13 = .ok (.putfield 37, 3) := by decide +kernel
theorem r29_13 (l0 l1 : AV) (v : Int32) (xg xi : Nat) (st : List AV) (M : Mm) : run 29 13 [l0, l1] (aI v :: aR xg 5 xi :: st) M = run 29 16 [l0, l1] st (wr M xg 5 xi 7 v) := e_pfi d29_13 rfl rfl rfl rfl
theorem d29_16 : decode (cod 29) 16 = .ok (.goto 13, 3) := by decide +kernel
theorem r29_16 (l0 l1 : AV) (st : List AV) (M : Mm) : run 29 16 [l0, l1] st M = run 29 29 [l0, l1] st M := e_goto 29 d29_16 (by decide)
theorem d29_19 : decode (cod 29) 19 = .ok (.aload_n 0, 1) := by decide +kernel
theorem r29_19 (l1 : AV) (xg xi : Nat) (st : List AV) (M : Mm) : run 29 19 [aR xg 5 xi, l1] st M = run 29 20 [aR xg 5 xi, l1] (aR xg 5 xi :: st) M := e_aldn d29_19 rfl
theorem d29_20 : decode (cod 29) 20 = .ok (.dup, 1) := by decide +kernel
theorem r29_20 (l0 l1 : AV) (xg xi : Nat) (st : List AV) (M : Mm) : run 29 20 [l0, l1] (aR xg 5 xi :: st) M = run 29 21 [l0, l1] (aR xg 5 xi :: aR xg 5 xi :: st) M := e_dup d29_20
theorem d29_21 : decode (cod 29) 21 = .ok (.getfield 34, 3) := by decide +kernel
theorem r29_21 (l0 l1 : AV) (xg xi : Nat) (st : List AV) (M : Mm) : run 29 21 [l0, l1] (aR xg 5 xi :: st) M = run 29 24 [l0, l1] (aI (M xg 5 xi 6) :: st) M := e_gfi d29_21 rfl rfl rfl
theorem d29_24 : decode (cod 29) 24 = .ok (.iconst 1, 1) := by decide +kernel
theorem r29_24 (l0 l1 : AV) (st : List AV) (M : Mm) : run 29 24 [l0, l1] st M = run 29 25 [l0, l1] (aI 1 :: st) M := e_iconst 1 d29_24 (by decide +kernel)
theorem d29_25 : decode (cod 29) 25 = .ok (.iadd, 1) := by decide +kernel
theorem r29_25 (l0 l1 : AV) (a b : Int32) (st : List AV) (M : Mm) : run 29 25 [l0, l1] (aI b :: aI a :: st) M = run 29 26 [l0, l1] (aI (a + b) :: st) M := e_iadd d29_25
theorem d29_26 : decode (cod 29) 26 = .ok (.putfield 34, 3) := by decide +kernel
theorem r29_26 (l0 l1 : AV) (v : Int32) (xg xi : Nat) (st : List AV) (M : Mm) : run 29 26 [l0, l1] (aI v :: aR xg 5 xi :: st) M = run 29 29 [l0, l1] st (wr M xg 5 xi 6 v) := e_pfi d29_26 rfl rfl rfl rfl
theorem d29_29 : decode (cod 29) 29 = .ok (.aload_n 0, 1) := by decide +kernel
theorem r29_29 (l1 : AV) (xg xi : Nat) (st : List AV) (M : Mm) : run 29 29 [aR xg 5 xi, l1] st M = run 29 30 [aR xg 5 xi, l1] (aR xg 5 xi :: st) M := e_aldn d29_29 rfl
theorem d29_30 : decode (cod 29) 30 = .ok (.getfield 43, 3) := by decide +kernel
theorem r29_30 (l0 l1 : AV) (xg xi : Nat) (st : List AV) (M : Mm) : run 29 30 [l0, l1] (aR xg 5 xi :: st) M = run 29 33 [l0, l1] (aI (M xg 5 xi 10) :: st) M := e_gfi d29_30 rfl rfl rfl
theorem d29_33 : decode (cod 29) 33 = .ok (.aload_n 0, 1) := by decide +kernel
theorem r29_33 (l1 : AV) (xg xi : Nat) (st : List AV) (M : Mm) : run 29 33 [aR xg 5 xi, l1] st M = run 29 34 [aR xg 5 xi, l1] (aR xg 5 xi :: st) M := e_aldn d29_33 rfl
theorem d29_34 : decode (cod 29) 34 = .ok (.getfield 9, 3) := by decide +kernel
theorem r29_34 (l0 l1 : AV) (xg xi : Nat) (st : List AV) (M : Mm) : run 29 34 [l0, l1] (aR xg 5 xi :: st) M = run 29 37 [l0, l1] (aR xg 6 0 :: st) M := e_gfr (fun g => (g, 6, 0)) d29_34 rfl rfl rfl
theorem d29_37 : decode (cod 29) 37 = .ok (.arraylength, 1) := by decide +kernel
theorem r29_37 (l0 l1 : AV) (xg xi : Nat) (st : List AV) (M : Mm) : run 29 37 [l0, l1] (aR xg 6 xi :: st) M = run 29 38 [l0, l1] (aI 20 :: st) M := e_aln d29_37 rfl rfl
theorem d29_38 : decode (cod 29) 38 = .ok (.if_icmp .ge 23, 3) := by decide +kernel
theorem r29_38 (l0 l1 : AV) (a b : Int32) (st : List AV) (M : Mm) : run 29 38 [l0, l1] (aI b :: aI a :: st) M = if a < b then run 29 41 [l0, l1] st M else run 29 61 [l0, l1] st M := e_ge2 61 d29_38 (by decide)
theorem d29_41 : decode (cod 29) 41 = .ok (.aload_n 0, 1) := by decide +kernel
theorem r29_41 (l1 : AV) (xg xi : Nat) (st : List AV) (M : Mm) : run 29 41 [aR xg 5 xi, l1] st M = run 29 42 [aR xg 5 xi, l1] (aR xg 5 xi :: st) M := e_aldn d29_41 rfl
theorem d29_42 : decode (cod 29) 42 = .ok (.getfield 9, 3) := by decide +kernel
theorem r29_42 (l0 l1 : AV) (xg xi : Nat) (st : List AV) (M : Mm) : run 29 42 [l0, l1] (aR xg 5 xi :: st) M = run 29 45 [l0, l1] (aR xg 6 0 :: st) M := e_gfr (fun g => (g, 6, 0)) d29_42 rfl rfl rfl
theorem d29_45 : decode (cod 29) 45 = .ok (.aload_n 0, 1) := by decide +kernel
theorem r29_45 (l1 : AV) (xg xi : Nat) (st : List AV) (M : Mm) : run 29 45 [aR xg 5 xi, l1] st M = run 29 46 [aR xg 5 xi, l1] (aR xg 5 xi :: st) M := e_aldn d29_45 rfl
theorem d29_46 : decode (cod 29) 46 = .ok (.getfield 43, 3) := by decide +kernel
theorem r29_46 (l0 l1 : AV) (xg xi : Nat) (st : List AV) (M : Mm) : run 29 46 [l0, l1] (aR xg 5 xi :: st) M = run 29 49 [l0, l1] (aI (M xg 5 xi 10) :: st) M := e_gfi d29_46 rfl rfl rfl
theorem d29_49 : decode (cod 29) 49 = .ok (.iload_n 1, 1) := by decide +kernel
theorem r29_49 (l0 : AV) (x : Int32) (st : List AV) (M : Mm) : run 29 49 [l0, aI x] st M = run 29 50 [l0, aI x] (aI x :: st) M := e_ildn d29_49 rfl
theorem d29_50 : decode (cod 29) 50 = .ok (.iastore, 1) := by decide +kernel
theorem r29_50 (l0 l1 : AV) (v i : Int32) (xg xi : Nat) (st : List AV) (M : Mm) : run 29 50 [l0, l1] (aI v :: aI i :: aR xg 6 xi :: st) M = if vpB i 20 = true then run 29 51 [l0, l1] st (wr M xg 6 xi i.toNatClampNeg v) else none := e_ias d29_50 rfl rfl
theorem d29_51 : decode (cod 29) 51 = .ok (.aload_n 0, 1) := by decide +kernel
theorem r29_51 (l1 : AV) (xg xi : Nat) (st : List AV) (M : Mm) : run 29 51 [aR xg 5 xi, l1] st M = run 29 52 [aR xg 5 xi, l1] (aR xg 5 xi :: st) M := e_aldn d29_51 rfl
theorem d29_52 : decode (cod 29) 52 = .ok (.dup, 1) := by decide +kernel
theorem r29_52 (l0 l1 : AV) (xg xi : Nat) (st : List AV) (M : Mm) : run 29 52 [l0, l1] (aR xg 5 xi :: st) M = run 29 53 [l0, l1] (aR xg 5 xi :: aR xg 5 xi :: st) M := e_dup d29_52
theorem d29_53 : decode (cod 29) 53 = .ok (.getfield 43, 3) := by decide +kernel
theorem r29_53 (l0 l1 : AV) (xg xi : Nat) (st : List AV) (M : Mm) : run 29 53 [l0, l1] (aR xg 5 xi :: st) M = run 29 56 [l0, l1] (aI (M xg 5 xi 10) :: st) M := e_gfi d29_53 rfl rfl rfl
theorem d29_56 : decode (cod 29) 56 = .ok (.iconst 1, 1) := by decide +kernel
theorem r29_56 (l0 l1 : AV) (st : List AV) (M : Mm) : run 29 56 [l0, l1] st M = run 29 57 [l0, l1] (aI 1 :: st) M := e_iconst 1 d29_56 (by decide +kernel)
theorem d29_57 : decode (cod 29) 57 = .ok (.iadd, 1) := by decide +kernel
theorem r29_57 (l0 l1 : AV) (a b : Int32) (st : List AV) (M : Mm) : run 29 57 [l0, l1] (aI b :: aI a :: st) M = run 29 58 [l0, l1] (aI (a + b) :: st) M := e_iadd d29_57
theorem d29_58 : decode (cod 29) 58 = .ok (.putfield 43, 3) := by decide +kernel
theorem r29_58 (l0 l1 : AV) (v : Int32) (xg xi : Nat) (st : List AV) (M : Mm) : run 29 58 [l0, l1] (aI v :: aR xg 5 xi :: st) M = run 29 61 [l0, l1] st (wr M xg 5 xi 10 v) := e_pfi d29_58 rfl rfl rfl rfl
theorem d29_61 : decode (cod 29) 61 = .ok (.return_, 1) := by decide +kernel
theorem r29_61 (l0 l1 : AV) (M : Mm) : run 29 61 [l0, l1] [] M = some (none, M) := e_vret d29_61 rfl
theorem c30 (g0 i0 : Nat) (x1 : Int32) (x2 : Int32) (M : Mm) : call 30 [aR g0 5 i0, aI x1, aI x2] M = run 30 0 [aR g0 5 i0, aI x1, aI x2] [] M := call_run 30 _ _
theorem d30_0 : decode (cod 30) 0 = .ok (.aload_n 0, 1) := by decide +kernel
theorem r30_0 (l1 l2 : AV) (xg xi : Nat) (st : List AV) (M : Mm) : run 30 0 [aR xg 5 xi, l1, l2] st M = run 30 1 [aR xg 5 xi, l1, l2] (aR xg 5 xi :: st) M := e_aldn d30_0 rfl
theorem d30_1 : decode (cod 30) 1 = .ok (.dup, 1) := by decide +kernel
theorem r30_1 (l0 l1 l2 : AV) (xg xi : Nat) (st : List AV) (M : Mm) : run 30 1 [l0, l1, l2] (aR xg 5 xi :: st) M = run 30 2 [l0, l1, l2] (aR xg 5 xi :: aR xg 5 xi :: st) M := e_dup d30_1
theorem d30_2 : decode (cod 30) 2 = .ok (.getfield 22, 3) := by decide +kernel
theorem r30_2 (l0 l1 l2 : AV) (xg xi : Nat) (st : List AV) (M : Mm) : run 30 2 [l0, l1, l2] (aR xg 5 xi :: st) M = run 30 5 [l0, l1, l2] (aI (M xg 5 xi 2) :: st) M := e_gfi d30_2 rfl rfl rfl
theorem d30_5 : decode (cod 30) 5 = .ok (.iload_n 1, 1) := by decide +kernel
theorem r30_5 (l0 l2 : AV) (x : Int32) (st : List AV) (M : Mm) : run 30 5 [l0, aI x, l2] st M = run 30 6 [l0, aI x, l2] (aI x :: st) M := e_ildn d30_5 rfl
theorem d30_6 : decode (cod 30) 6 = .ok (.iadd, 1) := by decide +kernel
theorem r30_6 (l0 l1 l2 : AV) (a b : Int32) (st : List AV) (M : Mm) : run 30 6 [l0, l1, l2] (aI b :: aI a :: st) M = run 30 7 [l0, l1, l2] (aI (a + b) :: st) M := e_iadd d30_6
theorem d30_7 : decode (cod 30) 7 = .ok (.putfield 22, 3) := by decide +kernel
theorem r30_7 (l0 l1 l2 : AV) (v : Int32) (xg xi : Nat) (st : List AV) (M : Mm) : run 30 7 [l0, l1, l2] (aI v :: aR xg 5 xi :: st) M = run 30 10 [l0, l1, l2] st (wr M xg 5 xi 2 v) := e_pfi d30_7 rfl rfl rfl rfl
theorem d30_10 : decode (cod 30) 10 = .ok (.iload_n 1, 1) := by decide +kernel
theorem r30_10 (l0 l2 : AV) (x : Int32) (st : List AV) (M : Mm) : run 30 10 [l0, aI x, l2] st M = run 30 11 [l0, aI x, l2] (aI x :: st) M := e_ildn d30_10 rfl
theorem d30_11 : decode (cod 30) 11 = .ok (.iconst 1, 1) := by decide +kernel
theorem r30_11 (l0 l1 l2 : AV) (st : List AV) (M : Mm) : run 30 11 [l0, l1, l2] st M = run 30 12 [l0, l1, l2] (aI 1 :: st) M := e_iconst 1 d30_11 (by decide +kernel)
theorem d30_12 : decode (cod 30) 12 = .ok (.if_icmp .le 13, 3) := by decide +kernel
theorem r30_12 (l0 l1 l2 : AV) (a b : Int32) (st : List AV) (M : Mm) : run 30 12 [l0, l1, l2] (aI b :: aI a :: st) M = if b < a then run 30 15 [l0, l1, l2] st M else run 30 25 [l0, l1, l2] st M := e_le2 25 d30_12 (by decide)
theorem d30_15 : decode (cod 30) 15 = .ok (.aload_n 0, 1) := by decide +kernel
theorem r30_15 (l1 l2 : AV) (xg xi : Nat) (st : List AV) (M : Mm) : run 30 15 [aR xg 5 xi, l1, l2] st M = run 30 16 [aR xg 5 xi, l1, l2] (aR xg 5 xi :: st) M := e_aldn d30_15 rfl
theorem d30_16 : decode (cod 30) 16 = .ok (.dup, 1) := by decide +kernel
theorem r30_16 (l0 l1 l2 : AV) (xg xi : Nat) (st : List AV) (M : Mm) : run 30 16 [l0, l1, l2] (aR xg 5 xi :: st) M = run 30 17 [l0, l1, l2] (aR xg 5 xi :: aR xg 5 xi :: st) M := e_dup d30_16
theorem d30_17 : decode (cod 30) 17 = .ok (.getfield 25, 3) := by decide +kernel
theorem r30_17 (l0 l1 l2 : AV) (xg xi : Nat) (st : List AV) (M : Mm) : run 30 17 [l0, l1, l2] (aR xg 5 xi :: st) M = run 30 20 [l0, l1, l2] (aI (M xg 5 xi 3) :: st) M := e_gfi d30_17 rfl rfl rfl
theorem d30_20 : decode (cod 30) 20 = .ok (.iconst 1, 1) := by decide +kernel
theorem r30_20 (l0 l1 l2 : AV) (st : List AV) (M : Mm) : run 30 20 [l0, l1, l2] st M = run 30 21 [l0, l1, l2] (aI 1 :: st) M := e_iconst 1 d30_20 (by decide +kernel)
theorem d30_21 : decode (cod 30) 21 = .ok (.iadd, 1) := by decide +kernel
theorem r30_21 (l0 l1 l2 : AV) (a b : Int32) (st : List AV) (M : Mm) : run 30 21 [l0, l1, l2] (aI b :: aI a :: st) M = run 30 22 [l0, l1, l2] (aI (a + b) :: st) M := e_iadd d30_21
theorem d30_22 : decode (cod 30) 22 = .ok (.putfield 25, 3) := by decide +kernel
theorem r30_22 (l0 l1 l2 : AV) (v : Int32) (xg xi : Nat) (st : List AV) (M : Mm) : run 30 22 [l0, l1, l2] (aI v :: aR xg 5 xi :: st) M = run 30 25 [l0, l1, l2] st (wr M xg 5 xi 3 v) := e_pfi d30_22 rfl rfl rfl rfl
theorem d30_25 : decode (cod 30) 25 = .ok (.iload_n 1, 1) := by decide +kernel
theorem r30_25 (l0 l2 : AV) (x : Int32) (st : List AV) (M : Mm) : run 30 25 [l0, aI x, l2] st M = run 30 26 [l0, aI x, l2] (aI x :: st) M := e_ildn d30_25 rfl
theorem d30_26 : decode (cod 30) 26 = .ok (.ifCond .le 25, 3) := by decide +kernel
theorem r30_26 (l0 l1 l2 : AV) (a : Int32) (st : List AV) (M : Mm) : run 30 26 [l0, l1, l2] (aI a :: st) M = if 0 < a then run 30 29 [l0, l1, l2] st M else run 30 51 [l0, l1, l2] st M := e_le1 51 d30_26 (by decide)
theorem d30_29 : decode (cod 30) 29 = .ok (.aload_n 0, 1) := by decide +kernel
theorem r30_29 (l1 l2 : AV) (xg xi : Nat) (st : List AV) (M : Mm) : run 30 29 [aR xg 5 xi, l1, l2] st M = run 30 30 [aR xg 5 xi, l1, l2] (aR xg 5 xi :: st) M := e_aldn d30_29 rfl
theorem d30_30 : decode (cod 30) 30 = .ok (.getfield 28, 3) := by decide +kernel
theorem r30_30 (l0 l1 l2 : AV) (xg xi : Nat) (st : List AV) (M : Mm) : run 30 30 [l0, l1, l2] (aR xg 5 xi :: st) M = run 30 33 [l0, l1, l2] (aI (M xg 5 xi 4) :: st) M := e_gfi d30_30 rfl rfl rfl
theorem d30_33 : decode (cod 30) 33 = .ok (.bipush (-9), 2) := by decide +kernel
theorem r30_33 (l0 l1 l2 : AV) (st : List AV) (M : Mm) : run 30 33 [l0, l1, l2] st M = run 30 35 [l0, l1, l2] (aI (-9) :: st) M := e_bipush (-9) d30_33 (by decide +kernel)
theorem d30_35 : decode (cod 30) 35 = .ok (.if_icmp .ne 16, 3) := by decide +kernel
theorem r30_35 (l0 l1 l2 : AV) (a b : Int32) (st : List AV) (M : Mm) : run 30 35 [l0, l1, l2] (aI b :: aI a :: st) M = if a = b then run 30 38 [l0, l1, l2] st M else run 30 51 [l0, l1, l2] st M := e_ne2 51 d30_35 (by decide)
theorem d30_38 : decode (cod 30) 38 = .ok (.aload_n 0, 1) := by decide +kernel
theorem r30_38 (l1 l2 : AV) (xg xi : Nat) (st : List AV) (M : Mm) : run 30 38 [aR xg 5 xi, l1, l2] st M = run 30 39 [aR xg 5 xi, l1, l2] (aR xg 5 xi :: st) M := e_aldn d30_38 rfl
theorem d30_39 : decode (cod 30) 39 = .ok (.iload_n 2, 1) := by decide +kernel
theorem r30_39 (l0 l1 : AV) (x : Int32) (st : List AV) (M : Mm) : run 30 39 [l0, l1, aI x] st M = run 30 40 [l0, l1, aI x] (aI x :: st) M := e_ildn d30_39 rfl
theorem d30_40 : decode (cod 30) 40 = .ok (.putfield 28, 3) := by decide +kernel
theorem r30_40 (l0 l1 l2 : AV) (v : Int32) (xg xi : Nat) (st : List AV) (M : Mm) : run 30 40 [l0, l1, l2] (aI v :: aR xg 5 xi :: st) M = run 30 43 [l0, l1, l2] st (wr M xg 5 xi 4 v) := e_pfi d30_40 rfl rfl rfl rfl
theorem d30_43 : decode (cod 30) 43 = .ok (.aload_n 0, 1) := by decide +kernel
theorem r30_43 (l1 l2 : AV) (xg xi : Nat) (st : List AV) (M : Mm) : run 30 43 [aR xg 5 xi, l1, l2] st M = run 30 44 [aR xg 5 xi, l1, l2] (aR xg 5 xi :: st) M := e_aldn d30_43 rfl
theorem d30_44 : decode (cod 30) 44 = .ok (.aload_n 0, 1) := by decide +kernel
theorem r30_44 (l1 l2 : AV) (xg xi : Nat) (st : List AV) (M : Mm) : run 30 44 [aR xg 5 xi, l1, l2] st M = run 30 45 [aR xg 5 xi, l1, l2] (aR xg 5 xi :: st) M := e_aldn d30_44 rfl
theorem d30_45 : decode (cod 30) 45 = .ok (.getfield 15, 3) := by decide +kernel
theorem r30_45 (l0 l1 l2 : AV) (xg xi : Nat) (st : List AV) (M : Mm) : run 30 45 [l0, l1, l2] (aR xg 5 xi :: st) M = run 30 48 [l0, l1, l2] (aI (M xg 5 xi 0) :: st) M := e_gfi d30_45 rfl rfl rfl
theorem d30_48 : decode (cod 30) 48 = .ok (.putfield 31, 3) := by decide +kernel
theorem r30_48 (l0 l1 l2 : AV) (v : Int32) (xg xi : Nat) (st : List AV) (M : Mm) : run 30 48 [l0, l1, l2] (aI v :: aR xg 5 xi :: st) M = run 30 51 [l0, l1, l2] st (wr M xg 5 xi 5 v) := e_pfi d30_48 rfl rfl rfl rfl
theorem d30_51 : decode (cod 30) 51 = .ok (.return_, 1) := by decide +kernel
theorem r30_51 (l0 l1 l2 : AV) (M : Mm) : run 30 51 [l0, l1, l2] [] M = some (none, M) := e_vret d30_51 rfl
theorem c31 (g0 i0 : Nat) (x1 : Int32) (M : Mm) : call 31 [aR g0 8 i0, aI x1] M = run 31 0 [aR g0 8 i0, aI x1] [] M := call_run 31 _ _
theorem d31_0 : decode (cod 31) 0 = .ok (.aload_n 0, 1) := by decide +kernel
theorem r31_0 (l1 : AV) (xg xi : Nat) (st : List AV) (M : Mm) : run 31 0 [aR xg 8 xi, l1] st M = run 31 1 [aR xg 8 xi, l1] (aR xg 8 xi :: st) M := e_aldn d31_0 rfl
theorem d31_1 : decode (cod 31) 1 = .ok (.getfield 15, 3) := by decide +kernel
theorem r31_1 (l0 l1 : AV) (xg xi : Nat) (st : List AV) (M : Mm) : run 31 1 [l0, l1] (aR xg 8 xi :: st) M = run 31 4 [l0, l1] (aI (M xg 8 xi 1) :: st) M := e_gfi d31_1 rfl rfl rfl
theorem d31_4 : decode (cod 31) 4 = .ok (.aload_n 0, 1) := by decide +kernel
theorem r31_4 (l1 : AV) (xg xi : Nat) (st : List AV) (M : Mm) : run 31 4 [aR xg 8 xi, l1] st M = run 31 5 [aR xg 8 xi, l1] (aR xg 8 xi :: st) M := e_aldn d31_4 rfl
theorem d31_5 : decode (cod 31) 5 = .ok (.getfield 9, 3) := by decide +kernel
theorem r31_5 (l0 l1 : AV) (xg xi : Nat) (st : List AV) (M : Mm) : run 31 5 [l0, l1] (aR xg 8 xi :: st) M = run 31 8 [l0, l1] (aR 0 9 0 :: st) M := e_gfr (fun g => (0, 9, 0)) d31_5 rfl rfl rfl
theorem d31_8 : decode (cod 31) 8 = .ok (.arraylength, 1) := by decide +kernel
theorem r31_8 (l0 l1 : AV) (xg xi : Nat) (st : List AV) (M : Mm) : run 31 8 [l0, l1] (aR xg 9 xi :: st) M = run 31 9 [l0, l1] (aI 96 :: st) M := e_aln d31_8 rfl rfl
theorem d31_9 : decode (cod 31) 9 = .ok (.if_icmp .ge 23, 3) := by decide +kernel
theorem r31_9 (l0 l1 : AV) (a b : Int32) (st : List AV) (M : Mm) : run 31 9 [l0, l1] (aI b :: aI a :: st) M = if a < b then run 31 12 [l0, l1] st M else run 31 32 [l0, l1] st M := e_ge2 32 d31_9 (by decide)
theorem d31_12 : decode (cod 31) 12 = .ok (.aload_n 0, 1) := by decide +kernel
theorem r31_12 (l1 : AV) (xg xi : Nat) (st : List AV) (M : Mm) : run 31 12 [aR xg 8 xi, l1] st M = run 31 13 [aR xg 8 xi, l1] (aR xg 8 xi :: st) M := e_aldn d31_12 rfl
theorem d31_13 : decode (cod 31) 13 = .ok (.getfield 9, 3) := by decide +kernel
theorem r31_13 (l0 l1 : AV) (xg xi : Nat) (st : List AV) (M : Mm) : run 31 13 [l0, l1] (aR xg 8 xi :: st) M = run 31 16 [l0, l1] (aR 0 9 0 :: st) M := e_gfr (fun g => (0, 9, 0)) d31_13 rfl rfl rfl
theorem d31_16 : decode (cod 31) 16 = .ok (.aload_n 0, 1) := by decide +kernel
theorem r31_16 (l1 : AV) (xg xi : Nat) (st : List AV) (M : Mm) : run 31 16 [aR xg 8 xi, l1] st M = run 31 17 [aR xg 8 xi, l1] (aR xg 8 xi :: st) M := e_aldn d31_16 rfl
theorem d31_17 : decode (cod 31) 17 = .ok (.getfield 15, 3) := by decide +kernel
theorem r31_17 (l0 l1 : AV) (xg xi : Nat) (st : List AV) (M : Mm) : run 31 17 [l0, l1] (aR xg 8 xi :: st) M = run 31 20 [l0, l1] (aI (M xg 8 xi 1) :: st) M := e_gfi d31_17 rfl rfl rfl
theorem d31_20 : decode (cod 31) 20 = .ok (.iload_n 1, 1) := by decide +kernel
theorem r31_20 (l0 : AV) (x : Int32) (st : List AV) (M : Mm) : run 31 20 [l0, aI x] st M = run 31 21 [l0, aI x] (aI x :: st) M := e_ildn d31_20 rfl
theorem d31_21 : decode (cod 31) 21 = .ok (.iastore, 1) := by decide +kernel
theorem r31_21 (l0 l1 : AV) (v i : Int32) (xg xi : Nat) (st : List AV) (M : Mm) : run 31 21 [l0, l1] (aI v :: aI i :: aR xg 9 xi :: st) M = if vpB i 96 = true then run 31 22 [l0, l1] st (wr M xg 9 xi i.toNatClampNeg v) else none := e_ias d31_21 rfl rfl
theorem d31_22 : decode (cod 31) 22 = .ok (.aload_n 0, 1) := by decide +kernel
theorem r31_22 (l1 : AV) (xg xi : Nat) (st : List AV) (M : Mm) : run 31 22 [aR xg 8 xi, l1] st M = run 31 23 [aR xg 8 xi, l1] (aR xg 8 xi :: st) M := e_aldn d31_22 rfl
theorem d31_23 : decode (cod 31) 23 = .ok (.dup, 1) := by decide +kernel
theorem r31_23 (l0 l1 : AV) (xg xi : Nat) (st : List AV) (M : Mm) : run 31 23 [l0, l1] (aR xg 8 xi :: st) M = run 31 24 [l0, l1] (aR xg 8 xi :: aR xg 8 xi :: st) M := e_dup d31_23
theorem d31_24 : decode (cod 31) 24 = .ok (.getfield 15, 3) := by decide +kernel
theorem r31_24 (l0 l1 : AV) (xg xi : Nat) (st : List AV) (M : Mm) : run 31 24 [l0, l1] (aR xg 8 xi :: st) M = run 31 27 [l0, l1] (aI (M xg 8 xi 1) :: st) M := e_gfi d31_24 rfl rfl rfl
theorem d31_27 : decode (cod 31) 27 = .ok (.iconst 1, 1) := by decide +kernel
theorem r31_27 (l0 l1 : AV) (st : List AV) (M : Mm) : run 31 27 [l0, l1] st M = run 31 28 [l0, l1] (aI 1 :: st) M := e_iconst 1 d31_27 (by decide +kernel)
theorem d31_28 : decode (cod 31) 28 = .ok (.iadd, 1) := by decide +kernel
theorem r31_28 (l0 l1 : AV) (a b : Int32) (st : List AV) (M : Mm) : run 31 28 [l0, l1] (aI b :: aI a :: st) M = run 31 29 [l0, l1] (aI (a + b) :: st) M := e_iadd d31_28
theorem d31_29 : decode (cod 31) 29 = .ok (.putfield 15, 3) := by decide +kernel
theorem r31_29 (l0 l1 : AV) (v : Int32) (xg xi : Nat) (st : List AV) (M : Mm) : run 31 29 [l0, l1] (aI v :: aR xg 8 xi :: st) M = run 31 32 [l0, l1] st (wr M xg 8 xi 1 v) := e_pfi d31_29 rfl rfl rfl rfl
theorem d31_32 : decode (cod 31) 32 = .ok (.return_, 1) := by decide +kernel
theorem r31_32 (l0 l1 : AV) (M : Mm) : run 31 32 [l0, l1] [] M = some (none, M) := e_vret d31_32 rfl
theorem c32 (g0 i0 : Nat) (x1 : Int32) (M : Mm) : call 32 [aR g0 8 i0, aI x1] M = run 32 0 [aR g0 8 i0, aI x1] [] M := call_run 32 _ _
theorem d32_0 : decode (cod 32) 0 = .ok (.iload_n 1, 1) := by decide +kernel
theorem r32_0 (l0 : AV) (x : Int32) (st : List AV) (M : Mm) : run 32 0 [l0, aI x] st M = run 32 1 [l0, aI x] (aI x :: st) M := e_ildn d32_0 rfl
theorem d32_1 : decode (cod 32) 1 = .ok (.ifCond .lt 20, 3) := by decide +kernel
theorem r32_1 (l0 l1 : AV) (a : Int32) (st : List AV) (M : Mm) : run 32 1 [l0, l1] (aI a :: st) M = if a < 0 then run 32 21 [l0, l1] st M else run 32 4 [l0, l1] st M := e_lt1 21 d32_1 (by decide)
theorem d32_4 : decode (cod 32) 4 = .ok (.iload_n 1, 1) := by decide +kernel
theorem r32_4 (l0 : AV) (x : Int32) (st : List AV) (M : Mm) : run 32 4 [l0, aI x] st M = run 32 5 [l0, aI x] (aI x :: st) M := e_ildn d32_4 rfl
theorem d32_5 : decode (cod 32) 5 = .ok (.aload_n 0, 1) := by decide +kernel
theorem r32_5 (l1 : AV) (xg xi : Nat) (st : List AV) (M : Mm) : run 32 5 [aR xg 8 xi, l1] st M = run 32 6 [aR xg 8 xi, l1] (aR xg 8 xi :: st) M := e_aldn d32_5 rfl
theorem d32_6 : decode (cod 32) 6 = .ok (.getfield 15, 3) := by decide +kernel
theorem r32_6 (l0 l1 : AV) (xg xi : Nat) (st : List AV) (M : Mm) : run 32 6 [l0, l1] (aR xg 8 xi :: st) M = run 32 9 [l0, l1] (aI (M xg 8 xi 1) :: st) M := e_gfi d32_6 rfl rfl rfl
theorem d32_9 : decode (cod 32) 9 = .ok (.if_icmp .ge 12, 3) := by decide +kernel
theorem r32_9 (l0 l1 : AV) (a b : Int32) (st : List AV) (M : Mm) : run 32 9 [l0, l1] (aI b :: aI a :: st) M = if a < b then run 32 12 [l0, l1] st M else run 32 21 [l0, l1] st M := e_ge2 21 d32_9 (by decide)
theorem d32_12 : decode (cod 32) 12 = .ok (.aload_n 0, 1) := by decide +kernel
theorem r32_12 (l1 : AV) (xg xi : Nat) (st : List AV) (M : Mm) : run 32 12 [aR xg 8 xi, l1] st M = run 32 13 [aR xg 8 xi, l1] (aR xg 8 xi :: st) M := e_aldn d32_12 rfl
theorem d32_13 : decode (cod 32) 13 = .ok (.getfield 9, 3) := by decide +kernel
theorem r32_13 (l0 l1 : AV) (xg xi : Nat) (st : List AV) (M : Mm) : run 32 13 [l0, l1] (aR xg 8 xi :: st) M = run 32 16 [l0, l1] (aR 0 9 0 :: st) M := e_gfr (fun g => (0, 9, 0)) d32_13 rfl rfl rfl
theorem d32_16 : decode (cod 32) 16 = .ok (.iload_n 1, 1) := by decide +kernel
theorem r32_16 (l0 : AV) (x : Int32) (st : List AV) (M : Mm) : run 32 16 [l0, aI x] st M = run 32 17 [l0, aI x] (aI x :: st) M := e_ildn d32_16 rfl
theorem d32_17 : decode (cod 32) 17 = .ok (.iaload, 1) := by decide +kernel
theorem r32_17 (l0 l1 : AV) (i : Int32) (xg xi : Nat) (st : List AV) (M : Mm) : run 32 17 [l0, l1] (aI i :: aR xg 9 xi :: st) M = if vpB i 96 = true then run 32 18 [l0, l1] (aI (M xg 9 xi i.toNatClampNeg) :: st) M else none := e_ial d32_17 rfl rfl
theorem d32_18 : decode (cod 32) 18 = .ok (.goto 4, 3) := by decide +kernel
theorem r32_18 (l0 l1 : AV) (st : List AV) (M : Mm) : run 32 18 [l0, l1] st M = run 32 22 [l0, l1] st M := e_goto 22 d32_18 (by decide)
theorem d32_21 : decode (cod 32) 21 = .ok (.iconst (-1), 1) := by decide +kernel
theorem r32_21 (l0 l1 : AV) (st : List AV) (M : Mm) : run 32 21 [l0, l1] st M = run 32 22 [l0, l1] (aI (-1) :: st) M := e_iconst (-1) d32_21 (by decide +kernel)
theorem d32_22 : decode (cod 32) 22 = .ok (.ireturn, 1) := by decide +kernel
theorem r32_22 (l0 l1 : AV) (v : Int32) (M : Mm) : run 32 22 [l0, l1] [aI v] M = some (some v, M) := e_iret d32_22 rfl
theorem c33 (g0 i0 : Nat) (x1 : Int32) (x2 : Int32) (M : Mm) : call 33 [aR g0 8 i0, aI x1, aI x2] M = run 33 0 [aR g0 8 i0, aI x1, aI x2, none, none] [] M := call_run 33 _ _
theorem d33_0 : decode (cod 33) 0 = .ok (.iconst 0, 1) := by decide +kernel
theorem r33_0 (l0 l1 l2 l3 l4 : AV) (st : List AV) (M : Mm) : run 33 0 [l0, l1, l2, l3, l4] st M = run 33 1 [l0, l1, l2, l3, l4] (aI 0 :: st) M := e_iconst 0 d33_0 (by decide +kernel)
theorem d33_1 : decode (cod 33) 1 = .ok (.istore_n 3, 1) := by decide +kernel
theorem r33_1 (l0 l1 l2 l3 l4 : AV) (x : Int32) (st : List AV) (M : Mm) : run 33 1 [l0, l1, l2, l3, l4] (aI x :: st) M = run 33 2 [l0, l1, l2, aI x, l4] st M := e_istn [l0, l1, l2, aI x, l4] d33_1 rfl rfl
theorem d33_2 : decode (cod 33) 2 = .ok (.iconst 0, 1) := by decide +kernel
theorem r33_2 (l0 l1 l2 l3 l4 : AV) (st : List AV) (M : Mm) : run 33 2 [l0, l1, l2, l3, l4] st M = run 33 3 [l0, l1, l2, l3, l4] (aI 0 :: st) M := e_iconst 0 d33_2 (by decide +kernel)
theorem d33_3 : decode (cod 33) 3 = .ok (.istore 4, 2) := by decide +kernel
theorem r33_3 (l0 l1 l2 l3 l4 : AV) (x : Int32) (st : List AV) (M : Mm) : run 33 3 [l0, l1, l2, l3, l4] (aI x :: st) M = run 33 5 [l0, l1, l2, l3, aI x] st M := e_ist [l0, l1, l2, l3, aI x] d33_3 rfl rfl
theorem d33_5 : decode (cod 33) 5 = .ok (.iload 4, 2) := by decide +kernel
theorem r33_5 (l0 l1 l2 l3 : AV) (x : Int32) (st : List AV) (M : Mm) : run 33 5 [l0, l1, l2, l3, aI x] st M = run 33 7 [l0, l1, l2, l3, aI x] (aI x :: st) M := e_ild d33_5 rfl
theorem d33_7 : decode (cod 33) 7 = .ok (.iload_n 2, 1) := by decide +kernel
theorem r33_7 (l0 l1 l3 l4 : AV) (x : Int32) (st : List AV) (M : Mm) : run 33 7 [l0, l1, aI x, l3, l4] st M = run 33 8 [l0, l1, aI x, l3, l4] (aI x :: st) M := e_ildn d33_7 rfl
theorem d33_8 : decode (cod 33) 8 = .ok (.if_icmp .ge 26, 3) := by decide +kernel
theorem r33_8 (l0 l1 l2 l3 l4 : AV) (a b : Int32) (st : List AV) (M : Mm) : run 33 8 [l0, l1, l2, l3, l4] (aI b :: aI a :: st) M = if a < b then run 33 11 [l0, l1, l2, l3, l4] st M else run 33 34 [l0, l1, l2, l3, l4] st M := e_ge2 34 d33_8 (by decide)
theorem d33_11 : decode (cod 33) 11 = .ok (.iload_n 3, 1) := by decide +kernel
theorem r33_11 (l0 l1 l2 l4 : AV) (x : Int32) (st : List AV) (M : Mm) : run 33 11 [l0, l1, l2, aI x, l4] st M = run 33 12 [l0, l1, l2, aI x, l4] (aI x :: st) M := e_ildn d33_11 rfl
theorem d33_12 : decode (cod 33) 12 = .ok (.bipush 10, 2) := by decide +kernel
theorem r33_12 (l0 l1 l2 l3 l4 : AV) (st : List AV) (M : Mm) : run 33 12 [l0, l1, l2, l3, l4] st M = run 33 14 [l0, l1, l2, l3, l4] (aI 10 :: st) M := e_bipush 10 d33_12 (by decide +kernel)
theorem d33_14 : decode (cod 33) 14 = .ok (.imul, 1) := by decide +kernel
theorem r33_14 (l0 l1 l2 l3 l4 : AV) (a b : Int32) (st : List AV) (M : Mm) : run 33 14 [l0, l1, l2, l3, l4] (aI b :: aI a :: st) M = run 33 15 [l0, l1, l2, l3, l4] (aI (a * b) :: st) M := e_imul d33_14
theorem d33_15 : decode (cod 33) 15 = .ok (.aload_n 0, 1) := by decide +kernel
theorem r33_15 (l1 l2 l3 l4 : AV) (xg xi : Nat) (st : List AV) (M : Mm) : run 33 15 [aR xg 8 xi, l1, l2, l3, l4] st M = run 33 16 [aR xg 8 xi, l1, l2, l3, l4] (aR xg 8 xi :: st) M := e_aldn d33_15 rfl
theorem d33_16 : decode (cod 33) 16 = .ok (.iload_n 1, 1) := by decide +kernel
theorem r33_16 (l0 l2 l3 l4 : AV) (x : Int32) (st : List AV) (M : Mm) : run 33 16 [l0, aI x, l2, l3, l4] st M = run 33 17 [l0, aI x, l2, l3, l4] (aI x :: st) M := e_ildn d33_16 rfl
theorem d33_17 : decode (cod 33) 17 = .ok (.iload 4, 2) := by decide +kernel
theorem r33_17 (l0 l1 l2 l3 : AV) (x : Int32) (st : List AV) (M : Mm) : run 33 17 [l0, l1, l2, l3, aI x] st M = run 33 19 [l0, l1, l2, l3, aI x] (aI x :: st) M := e_ild d33_17 rfl
theorem d33_19 : decode (cod 33) 19 = .ok (.iadd, 1) := by decide +kernel
theorem r33_19 (l0 l1 l2 l3 l4 : AV) (a b : Int32) (st : List AV) (M : Mm) : run 33 19 [l0, l1, l2, l3, l4] (aI b :: aI a :: st) M = run 33 20 [l0, l1, l2, l3, l4] (aI (a + b) :: st) M := e_iadd d33_19
theorem d33_20 : decode (cod 33) 20 = .ok (.invokevirtual 19, 3) := by decide +kernel
theorem r33_20 (l0 l1 l2 l3 l4 : AV) (a0g a0i : Nat) (a1 : Int32) (t0 : AV) (M : Mm) : run 33 20 [l0, l1, l2, l3, l4] [aI a1, aR a0g 8 a0i, t0] M = cbI (call 32 [aR a0g 8 a0i, aI a1] M) (fun v M => run 33 23 [l0, l1, l2, l3, l4] [aI v, t0] M) := call_I (n := 2) rfl false d33_20 rfl rfl rfl rfl rfl rfl rfl
theorem d33_23 : decode (cod 33) 23 = .ok (.iadd, 1) := by decide +kernel
theorem r33_23 (l0 l1 l2 l3 l4 : AV) (a b : Int32) (st : List AV) (M : Mm) : run 33 23 [l0, l1, l2, l3, l4] (aI b :: aI a :: st) M = run 33 24 [l0, l1, l2, l3, l4] (aI (a + b) :: st) M := e_iadd d33_23
theorem d33_24 : decode (cod 33) 24 = .ok (.bipush 48, 2) := by decide +kernel
theorem r33_24 (l0 l1 l2 l3 l4 : AV) (st : List AV) (M : Mm) : run 33 24 [l0, l1, l2, l3, l4] st M = run 33 26 [l0, l1, l2, l3, l4] (aI 48 :: st) M := e_bipush 48 d33_24 (by decide +kernel)
theorem d33_26 : decode (cod 33) 26 = .ok (.isub, 1) := by decide +kernel
theorem r33_26 (l0 l1 l2 l3 l4 : AV) (a b : Int32) (st : List AV) (M : Mm) : run 33 26 [l0, l1, l2, l3, l4] (aI b :: aI a :: st) M = run 33 27 [l0, l1, l2, l3, l4] (aI (a - b) :: st) M := e_isub d33_26
theorem d33_27 : decode (cod 33) 27 = .ok (.istore_n 3, 1) := by decide +kernel
theorem r33_27 (l0 l1 l2 l3 l4 : AV) (x : Int32) (st : List AV) (M : Mm) : run 33 27 [l0, l1, l2, l3, l4] (aI x :: st) M = run 33 28 [l0, l1, l2, aI x, l4] st M := e_istn [l0, l1, l2, aI x, l4] d33_27 rfl rfl
theorem d33_28 : decode (cod 33) 28 = .ok (.iinc 4 1, 3) := by decide +kernel
theorem r33_28 (l0 l1 l2 l3 : AV) (x : Int32) (st : List AV) (M : Mm) : run 33 28 [l0, l1, l2, l3, aI x] st M = run 33 31 [l0, l1, l2, l3, aI (x + 1)] st M := e_iinc 1 [l0, l1, l2, l3, aI (x + 1)] d33_28 (by decide +kernel) rfl rfl
theorem d33_31 : decode (cod 33) 31 = .ok (.goto (-26), 3) := by decide +kernel
theorem r33_31 (l0 l1 l2 l3 l4 : AV) (st : List AV) (M : Mm) : run 33 31 [l0, l1, l2, l3, l4] st M = run 33 5 [l0, l1, l2, l3, l4] st M := e_goto 5 d33_31 (by decide)
theorem d33_34 : decode (cod 33) 34 = .ok (.iload_n 3, 1) := by decide +kernel
theorem r33_34 (l0 l1 l2 l4 : AV) (x : Int32) (st : List AV) (M : Mm) : run 33 34 [l0, l1, l2, aI x, l4] st M = run 33 35 [l0, l1, l2, aI x, l4] (aI x :: st) M := e_ildn d33_34 rfl
theorem d33_35 : decode (cod 33) 35 = .ok (.ireturn, 1) := by decide +kernel
theorem r33_35 (l0 l1 l2 l3 l4 : AV) (v : Int32) (M : Mm) : run 33 35 [l0, l1, l2, l3, l4] [aI v] M = some (some v, M) := e_iret d33_35 rfl
theorem c34 (g0 i0 : Nat) (M : Mm) : call 34 [aR g0 8 i0] M = run 34 0 [aR g0 8 i0, none, none, none] [] M := call_run 34 _ _
theorem d34_0 : decode (cod 34) 0 = .ok (.iconst 0, 1) := by decide +kernel
theorem r34_0 (l0 l1 l2 l3 : AV) (st : List AV) (M : Mm) : run 34 0 [l0, l1, l2, l3] st M = run 34 1 [l0, l1, l2, l3] (aI 0 :: st) M := e_iconst 0 d34_0 (by decide +kernel)
theorem d34_1 : decode (cod 34) 1 = .ok (.istore_n 1, 1) := by decide +kernel
theorem r34_1 (l0 l1 l2 l3 : AV) (x : Int32) (st : List AV) (M : Mm) : run 34 1 [l0, l1, l2, l3] (aI x :: st) M = run 34 2 [l0, aI x, l2, l3] st M := e_istn [l0, aI x, l2, l3] d34_1 rfl rfl
theorem d34_2 : decode (cod 34) 2 = .ok (.iconst 0, 1) := by decide +kernel
theorem r34_2 (l0 l1 l2 l3 : AV) (st : List AV) (M : Mm) : run 34 2 [l0, l1, l2, l3] st M = run 34 3 [l0, l1, l2, l3] (aI 0 :: st) M := e_iconst 0 d34_2 (by decide +kernel)
theorem d34_3 : decode (cod 34) 3 = .ok (.istore_n 2, 1) := by decide +kernel
theorem r34_3 (l0 l1 l2 l3 : AV) (x : Int32) (st : List AV) (M : Mm) : run 34 3 [l0, l1, l2, l3] (aI x :: st) M = run 34 4 [l0, l1, aI x, l3] st M := e_istn [l0, l1, aI x, l3] d34_3 rfl rfl
theorem d34_4 : decode (cod 34) 4 = .ok (.iload_n 2, 1) := by decide +kernel
theorem r34_4 (l0 l1 l3 : AV) (x : Int32) (st : List AV) (M : Mm) : run 34 4 [l0, l1, aI x, l3] st M = run 34 5 [l0, l1, aI x, l3] (aI x :: st) M := e_ildn d34_4 rfl
theorem d34_5 : decode (cod 34) 5 = .ok (.bipush 96, 2) := by decide +kernel
theorem r34_5 (l0 l1 l2 l3 : AV) (st : List AV) (M : Mm) : run 34 5 [l0, l1, l2, l3] st M = run 34 7 [l0, l1, l2, l3] (aI 96 :: st) M := e_bipush 96 d34_5 (by decide +kernel)
theorem d34_7 : decode (cod 34) 7 = .ok (.if_icmp .ge 39, 3) := by decide +kernel
theorem r34_7 (l0 l1 l2 l3 : AV) (a b : Int32) (st : List AV) (M : Mm) : run 34 7 [l0, l1, l2, l3] (aI b :: aI a :: st) M = if a < b then run 34 10 [l0, l1, l2, l3] st M else run 34 46 [l0, l1, l2, l3] st M := e_ge2 46 d34_7 (by decide)
theorem d34_10 : decode (cod 34) 10 = .ok (.aload_n 0, 1) := by decide +kernel
theorem r34_10 (l1 l2 l3 : AV) (xg xi : Nat) (st : List AV) (M : Mm) : run 34 10 [aR xg 8 xi, l1, l2, l3] st M = run 34 11 [aR xg 8 xi, l1, l2, l3] (aR xg 8 xi :: st) M := e_aldn d34_10 rfl
theorem d34_11 : decode (cod 34) 11 = .ok (.iload_n 1, 1) := by decide +kernel
theorem r34_11 (l0 l2 l3 : AV) (x : Int32) (st : List AV) (M : Mm) : run 34 11 [l0, aI x, l2, l3] st M = run 34 12 [l0, aI x, l2, l3] (aI x :: st) M := e_ildn d34_11 rfl
theorem d34_12 : decode (cod 34) 12 = .ok (.invokevirtual 23, 3) := by decide +kernel
theorem r34_12 (l0 l1 l2 l3 : AV) (a0g a0i : Nat) (a1 : Int32) (M : Mm) : run 34 12 [l0, l1, l2, l3] [aI a1, aR a0g 8 a0i] M = cbI (call 161 [aR a0g 8 a0i, aI a1] M) (fun v M => run 34 15 [l0, l1, l2, l3] [aI v] M) := call_I (n := 2) rfl false d34_12 rfl rfl rfl rfl rfl rfl rfl
theorem d34_15 : decode (cod 34) 15 = .ok (.istore_n 3, 1) := by decide +kernel
theorem r34_15 (l0 l1 l2 l3 : AV) (x : Int32) (st : List AV) (M : Mm) : run 34 15 [l0, l1, l2, l3] (aI x :: st) M = run 34 16 [l0, l1, l2, aI x] st M := e_istn [l0, l1, l2, aI x] d34_15 rfl rfl
theorem d34_16 : decode (cod 34) 16 = .ok (.iload_n 3, 1) := by decide +kernel
theorem r34_16 (l0 l1 l2 : AV) (x : Int32) (st : List AV) (M : Mm) : run 34 16 [l0, l1, l2, aI x] st M = run 34 17 [l0, l1, l2, aI x] (aI x :: st) M := e_ildn d34_16 rfl
theorem d34_17 : decode (cod 34) 17 = .ok (.ifCond .lt 5, 3) := by decide +kernel
theorem r34_17 (l0 l1 l2 l3 : AV) (a : Int32) (st : List AV) (M : Mm) : run 34 17 [l0, l1, l2, l3] (aI a :: st) M = if a < 0 then run 34 22 [l0, l1, l2, l3] st M else run 34 20 [l0, l1, l2, l3] st M := e_lt1 22 d34_17 (by decide)
theorem d34_20 : decode (cod 34) 20 = .ok (.iload_n 3, 1) := by decide +kernel
theorem r34_20 (l0 l1 l2 : AV) (x : Int32) (st : List AV) (M : Mm) : run 34 20 [l0, l1, l2, aI x] st M = run 34 21 [l0, l1, l2, aI x] (aI x :: st) M := e_ildn d34_20 rfl
theorem d34_21 : decode (cod 34) 21 = .ok (.ireturn, 1) := by decide +kernel
theorem r34_21 (l0 l1 l2 l3 : AV) (v : Int32) (M : Mm) : run 34 21 [l0, l1, l2, l3] [aI v] M = some (some v, M) := e_iret d34_21 rfl
theorem d34_22 : decode (cod 34) 22 = .ok (.iload_n 1, 1) := by decide +kernel
theorem r34_22 (l0 l2 l3 : AV) (x : Int32) (st : List AV) (M : Mm) : run 34 22 [l0, aI x, l2, l3] st M = run 34 23 [l0, aI x, l2, l3] (aI x :: st) M := e_ildn d34_22 rfl
theorem d34_23 : decode (cod 34) 23 = .ok (.aload_n 0, 1) := by decide +kernel
theorem r34_23 (l1 l2 l3 : AV) (xg xi : Nat) (st : List AV) (M : Mm) : run 34 23 [aR xg 8 xi, l1, l2, l3] st M = run 34 24 [aR xg 8 xi, l1, l2, l3] (aR xg 8 xi :: st) M := e_aldn d34_23 rfl
theorem d34_24 : decode (cod 34) 24 = .ok (.iload_n 1, 1) := by decide +kernel
theorem r34_24 (l0 l2 l3 : AV) (x : Int32) (st : List AV) (M : Mm) : run 34 24 [l0, aI x, l2, l3] st M = run 34 25 [l0, aI x, l2, l3] (aI x :: st) M := e_ildn d34_24 rfl
theorem d34_25 : decode (cod 34) 25 = .ok (.invokevirtual 26, 3) := by decide +kernel
theorem r34_25 (l0 l1 l2 l3 : AV) (a0g a0i : Nat) (a1 : Int32) (t0 : AV) (M : Mm) : run 34 25 [l0, l1, l2, l3] [aI a1, aR a0g 8 a0i, t0] M = cbI (call 35 [aR a0g 8 a0i, aI a1] M) (fun v M => run 34 28 [l0, l1, l2, l3] [aI v, t0] M) := call_I (n := 2) rfl false d34_25 rfl rfl rfl rfl rfl rfl rfl
theorem d34_28 : decode (cod 34) 28 = .ok (.iadd, 1) := by decide +kernel
theorem r34_28 (l0 l1 l2 l3 : AV) (a b : Int32) (st : List AV) (M : Mm) : run 34 28 [l0, l1, l2, l3] (aI b :: aI a :: st) M = run 34 29 [l0, l1, l2, l3] (aI (a + b) :: st) M := e_iadd d34_28
theorem d34_29 : decode (cod 34) 29 = .ok (.istore_n 1, 1) := by decide +kernel
theorem r34_29 (l0 l1 l2 l3 : AV) (x : Int32) (st : List AV) (M : Mm) : run 34 29 [l0, l1, l2, l3] (aI x :: st) M = run 34 30 [l0, aI x, l2, l3] st M := e_istn [l0, aI x, l2, l3] d34_29 rfl rfl
theorem d34_30 : decode (cod 34) 30 = .ok (.iload_n 1, 1) := by decide +kernel
theorem r34_30 (l0 l2 l3 : AV) (x : Int32) (st : List AV) (M : Mm) : run 34 30 [l0, aI x, l2, l3] st M = run 34 31 [l0, aI x, l2, l3] (aI x :: st) M := e_ildn d34_30 rfl
theorem d34_31 : decode (cod 34) 31 = .ok (.aload_n 0, 1) := by decide +kernel
theorem r34_31 (l1 l2 l3 : AV) (xg xi : Nat) (st : List AV) (M : Mm) : run 34 31 [aR xg 8 xi, l1, l2, l3] st M = run 34 32 [aR xg 8 xi, l1, l2, l3] (aR xg 8 xi :: st) M := e_aldn d34_31 rfl
theorem d34_32 : decode (cod 34) 32 = .ok (.getfield 15, 3) := by decide +kernel
theorem r34_32 (l0 l1 l2 l3 : AV) (xg xi : Nat) (st : List AV) (M : Mm) : run 34 32 [l0, l1, l2, l3] (aR xg 8 xi :: st) M = run 34 35 [l0, l1, l2, l3] (aI (M xg 8 xi 1) :: st) M := e_gfi d34_32 rfl rfl rfl
theorem d34_35 : decode (cod 34) 35 = .ok (.if_icmp .lt 5, 3) := by decide +kernel
theorem r34_35 (l0 l1 l2 l3 : AV) (a b : Int32) (st : List AV) (M : Mm) : run 34 35 [l0, l1, l2, l3] (aI b :: aI a :: st) M = if a < b then run 34 40 [l0, l1, l2, l3] st M else run 34 38 [l0, l1, l2, l3] st M := e_lt2 40 d34_35 (by decide)
theorem d34_38 : decode (cod 34) 38 = .ok (.iconst (-1), 1) := by decide +kernel
theorem r34_38 (l0 l1 l2 l3 : AV) (st : List AV) (M : Mm) : run 34 38 [l0, l1, l2, l3] st M = run 34 39 [l0, l1, l2, l3] (aI (-1) :: st) M := e_iconst (-1) d34_38 (by decide +kernel)
theorem d34_39 : decode (cod 34) 39 = .ok (.ireturn, 1) := by decide +kernel
theorem r34_39 (l0 l1 l2 l3 : AV) (v : Int32) (M : Mm) : run 34 39 [l0, l1, l2, l3] [aI v] M = some (some v, M) := e_iret d34_39 rfl
theorem d34_40 : decode (cod 34) 40 = .ok (.iinc 2 1, 3) := by decide +kernel
theorem r34_40 (l0 l1 l3 : AV) (x : Int32) (st : List AV) (M : Mm) : run 34 40 [l0, l1, aI x, l3] st M = run 34 43 [l0, l1, aI (x + 1), l3] st M := e_iinc 1 [l0, l1, aI (x + 1), l3] d34_40 (by decide +kernel) rfl rfl
theorem d34_43 : decode (cod 34) 43 = .ok (.goto (-39), 3) := by decide +kernel
theorem r34_43 (l0 l1 l2 l3 : AV) (st : List AV) (M : Mm) : run 34 43 [l0, l1, l2, l3] st M = run 34 4 [l0, l1, l2, l3] st M := e_goto 4 d34_43 (by decide)
theorem d34_46 : decode (cod 34) 46 = .ok (.iload_n 1, 1) := by decide +kernel
theorem r34_46 (l0 l2 l3 : AV) (x : Int32) (st : List AV) (M : Mm) : run 34 46 [l0, aI x, l2, l3] st M = run 34 47 [l0, aI x, l2, l3] (aI x :: st) M := e_ildn d34_46 rfl
theorem d34_47 : decode (cod 34) 47 = .ok (.ireturn, 1) := by decide +kernel
theorem r34_47 (l0 l1 l2 l3 : AV) (v : Int32) (M : Mm) : run 34 47 [l0, l1, l2, l3] [aI v] M = some (some v, M) := e_iret d34_47 rfl
theorem c35 (g0 i0 : Nat) (x1 : Int32) (M : Mm) : call 35 [aR g0 8 i0, aI x1] M = run 35 0 [aR g0 8 i0, aI x1] [] M := call_run 35 _ _
theorem d35_0 : decode (cod 35) 0 = .ok (.aload_n 0, 1) := by decide +kernel
theorem r35_0 (l1 : AV) (xg xi : Nat) (st : List AV) (M : Mm) : run 35 0 [aR xg 8 xi, l1] st M = run 35 1 [aR xg 8 xi, l1] (aR xg 8 xi :: st) M := e_aldn d35_0 rfl
theorem d35_1 : decode (cod 35) 1 = .ok (.iload_n 1, 1) := by decide +kernel
theorem r35_1 (l0 : AV) (x : Int32) (st : List AV) (M : Mm) : run 35 1 [l0, aI x] st M = run 35 2 [l0, aI x] (aI x :: st) M := e_ildn d35_1 rfl
theorem d35_2 : decode (cod 35) 2 = .ok (.invokevirtual 19, 3) := by decide +kernel
theorem r35_2 (l0 l1 : AV) (a0g a0i : Nat) (a1 : Int32) (M : Mm) : run 35 2 [l0, l1] [aI a1, aR a0g 8 a0i] M = cbI (call 32 [aR a0g 8 a0i, aI a1] M) (fun v M => run 35 5 [l0, l1] [aI v] M) := call_I (n := 2) rfl false d35_2 rfl rfl rfl rfl rfl rfl rfl
theorem d35_5 : decode (cod 35) 5 = .ok (.tableswitch 103 104 121 #[92, 103, 103, 103, 103, 90, 101, 103, 103, 103, 99, 103, 103, 97, 103, 103, 94, 87], 87) := by decide +kernel
theorem r35_5 (l0 l1 : AV) (x : Int32) (st : List AV) (M : Mm) : run 35 5 [l0, l1] (aI x :: st) M = if x = 104 then run 35 97 [l0, l1] st M else if x = 109 then run 35 95 [l0, l1] st M else if x = 110 then run 35 106 [l0, l1] st M else if x = 114 then run 35 104 [l0, l1] st M else if x = 117 then run 35 102 [l0, l1] st M else if x = 120 then run 35 99 [l0, l1] st M else if x = 121 then run 35 92 [l0, l1] st M else run 35 108 [l0, l1] st M := by
  rw [run_step d35_5 rfl]
  simp only [stpI, tsw]
  by_cases c0 : x = 104
  · subst c0
    rw [if_pos rfl]
    rfl
  rw [if_neg c0]
  by_cases c1 : x = 109
  · subst c1
    rw [if_pos rfl]
    rfl
  rw [if_neg c1]
  by_cases c2 : x = 110
  · subst c2
    rw [if_pos rfl]
    rfl
  rw [if_neg c2]
  by_cases c3 : x = 114
  · subst c3
    rw [if_pos rfl]
    rfl
  rw [if_neg c3]
  by_cases c4 : x = 117
  · subst c4
    rw [if_pos rfl]
    rfl
  rw [if_neg c4]
  by_cases c5 : x = 120
  · subst c5
    rw [if_pos rfl]
    rfl
  rw [if_neg c5]
  by_cases c6 : x = 121
  · subst c6
    rw [if_pos rfl]
    rfl
  rw [if_neg c6]
  by_cases e0 : x = 105
  · subst e0
    rfl
  by_cases e1 : x = 106
  · subst e1
    rfl
  by_cases e2 : x = 107
  · subst e2
    rfl
  by_cases e3 : x = 108
  · subst e3
    rfl
  by_cases e4 : x = 111
  · subst e4
    rfl
  by_cases e5 : x = 112
  · subst e5
    rfl
  by_cases e6 : x = 113
  · subst e6
    rfl
  by_cases e7 : x = 115
  · subst e7
    rfl
  by_cases e8 : x = 116
  · subst e8
    rfl
  by_cases e9 : x = 118
  · subst e9
    rfl
  by_cases e10 : x = 119
  · subst e10
    rfl
  have hx : x.toInt < 104 ∨ 121 < x.toInt := by
    have h : ∀ k : Int, ¬ x = Int32.ofInt k → -2147483648 ≤ k → k < 2147483648 → ¬ x.toInt = k := fun k hk hl hh e => hk (Int32.toInt_inj.mp (by rw [e, Int32.toInt_ofInt_of_le hl hh]))
    have fc0 := h 104 c0 (by decide) (by decide)
    have fc1 := h 109 c1 (by decide) (by decide)
    have fc2 := h 110 c2 (by decide) (by decide)
    have fc3 := h 114 c3 (by decide) (by decide)
    have fc4 := h 117 c4 (by decide) (by decide)
    have fc5 := h 120 c5 (by decide) (by decide)
    have fc6 := h 121 c6 (by decide) (by decide)
    have fe0 := h 105 e0 (by decide) (by decide)
    have fe1 := h 106 e1 (by decide) (by decide)
    have fe2 := h 107 e2 (by decide) (by decide)
    have fe3 := h 108 e3 (by decide) (by decide)
    have fe4 := h 111 e4 (by decide) (by decide)
    have fe5 := h 112 e5 (by decide) (by decide)
    have fe6 := h 113 e6 (by decide) (by decide)
    have fe7 := h 115 e7 (by decide) (by decide)
    have fe8 := h 116 e8 (by decide) (by decide)
    have fe9 := h 118 e9 (by decide) (by decide)
    have fe10 := h 119 e10 (by decide) (by decide)
    omega
  rw [if_pos hx, jmp_run 108 (by decide)]
  rfl
theorem d35_92 : decode (cod 35) 92 = .ok (.bipush 9, 2) := by decide +kernel
theorem r35_92 (l0 l1 : AV) (st : List AV) (M : Mm) : run 35 92 [l0, l1] st M = run 35 94 [l0, l1] (aI 9 :: st) M := e_bipush 9 d35_92 (by decide +kernel)
theorem d35_94 : decode (cod 35) 94 = .ok (.ireturn, 1) := by decide +kernel
theorem r35_94 (l0 l1 : AV) (v : Int32) (M : Mm) : run 35 94 [l0, l1] [aI v] M = some (some v, M) := e_iret d35_94 rfl
theorem d35_95 : decode (cod 35) 95 = .ok (.iconst 3, 1) := by decide +kernel
theorem r35_95 (l0 l1 : AV) (st : List AV) (M : Mm) : run 35 95 [l0, l1] st M = run 35 96 [l0, l1] (aI 3 :: st) M := e_iconst 3 d35_95 (by decide +kernel)
theorem d35_96 : decode (cod 35) 96 = .ok (.ireturn, 1) := by decide +kernel
theorem r35_96 (l0 l1 : AV) (v : Int32) (M : Mm) : run 35 96 [l0, l1] [aI v] M = some (some v, M) := e_iret d35_96 rfl
theorem d35_97 : decode (cod 35) 97 = .ok (.iconst 5, 1) := by decide +kernel
theorem r35_97 (l0 l1 : AV) (st : List AV) (M : Mm) : run 35 97 [l0, l1] st M = run 35 98 [l0, l1] (aI 5 :: st) M := e_iconst 5 d35_97 (by decide +kernel)
theorem d35_98 : decode (cod 35) 98 = .ok (.ireturn, 1) := by decide +kernel
theorem r35_98 (l0 l1 : AV) (v : Int32) (M : Mm) : run 35 98 [l0, l1] [aI v] M = some (some v, M) := e_iret d35_98 rfl
theorem d35_99 : decode (cod 35) 99 = .ok (.bipush 7, 2) := by decide +kernel
theorem r35_99 (l0 l1 : AV) (st : List AV) (M : Mm) : run 35 99 [l0, l1] st M = run 35 101 [l0, l1] (aI 7 :: st) M := e_bipush 7 d35_99 (by decide +kernel)
theorem d35_101 : decode (cod 35) 101 = .ok (.ireturn, 1) := by decide +kernel
theorem r35_101 (l0 l1 : AV) (v : Int32) (M : Mm) : run 35 101 [l0, l1] [aI v] M = some (some v, M) := e_iret d35_101 rfl
theorem d35_102 : decode (cod 35) 102 = .ok (.iconst 5, 1) := by decide +kernel
theorem r35_102 (l0 l1 : AV) (st : List AV) (M : Mm) : run 35 102 [l0, l1] st M = run 35 103 [l0, l1] (aI 5 :: st) M := e_iconst 5 d35_102 (by decide +kernel)
theorem d35_103 : decode (cod 35) 103 = .ok (.ireturn, 1) := by decide +kernel
theorem r35_103 (l0 l1 : AV) (v : Int32) (M : Mm) : run 35 103 [l0, l1] [aI v] M = some (some v, M) := e_iret d35_103 rfl
theorem d35_104 : decode (cod 35) 104 = .ok (.iconst 3, 1) := by decide +kernel
theorem r35_104 (l0 l1 : AV) (st : List AV) (M : Mm) : run 35 104 [l0, l1] st M = run 35 105 [l0, l1] (aI 3 :: st) M := e_iconst 3 d35_104 (by decide +kernel)
theorem d35_105 : decode (cod 35) 105 = .ok (.ireturn, 1) := by decide +kernel
theorem r35_105 (l0 l1 : AV) (v : Int32) (M : Mm) : run 35 105 [l0, l1] [aI v] M = some (some v, M) := e_iret d35_105 rfl
theorem d35_106 : decode (cod 35) 106 = .ok (.iconst 4, 1) := by decide +kernel
theorem r35_106 (l0 l1 : AV) (st : List AV) (M : Mm) : run 35 106 [l0, l1] st M = run 35 107 [l0, l1] (aI 4 :: st) M := e_iconst 4 d35_106 (by decide +kernel)
theorem d35_107 : decode (cod 35) 107 = .ok (.ireturn, 1) := by decide +kernel
theorem r35_107 (l0 l1 : AV) (v : Int32) (M : Mm) : run 35 107 [l0, l1] [aI v] M = some (some v, M) := e_iret d35_107 rfl
theorem d35_108 : decode (cod 35) 108 = .ok (.iconst 0, 1) := by decide +kernel
theorem r35_108 (l0 l1 : AV) (st : List AV) (M : Mm) : run 35 108 [l0, l1] st M = run 35 109 [l0, l1] (aI 0 :: st) M := e_iconst 0 d35_108 (by decide +kernel)
theorem d35_109 : decode (cod 35) 109 = .ok (.ireturn, 1) := by decide +kernel
theorem r35_109 (l0 l1 : AV) (v : Int32) (M : Mm) : run 35 109 [l0, l1] [aI v] M = some (some v, M) := e_iret d35_109 rfl
theorem c36 (g0 i0 : Nat) (x1 : Int32) (x2 : Int32) (M : Mm) : call 36 [aR g0 8 i0, aI x1, aI x2] M = run 36 0 [aR g0 8 i0, aI x1, aI x2, none] [] M := call_run 36 _ _
theorem d36_0 : decode (cod 36) 0 = .ok (.aload_n 0, 1) := by decide +kernel
theorem r36_0 (l1 l2 l3 : AV) (xg xi : Nat) (st : List AV) (M : Mm) : run 36 0 [aR xg 8 xi, l1, l2, l3] st M = run 36 1 [aR xg 8 xi, l1, l2, l3] (aR xg 8 xi :: st) M := e_aldn d36_0 rfl
theorem d36_1 : decode (cod 36) 1 = .ok (.iload_n 1, 1) := by decide +kernel
theorem r36_1 (l0 l2 l3 : AV) (x : Int32) (st : List AV) (M : Mm) : run 36 1 [l0, aI x, l2, l3] st M = run 36 2 [l0, aI x, l2, l3] (aI x :: st) M := e_ildn d36_1 rfl
theorem d36_2 : decode (cod 36) 2 = .ok (.invokevirtual 19, 3) := by decide +kernel
theorem r36_2 (l0 l1 l2 l3 : AV) (a0g a0i : Nat) (a1 : Int32) (M : Mm) : run 36 2 [l0, l1, l2, l3] [aI a1, aR a0g 8 a0i] M = cbI (call 32 [aR a0g 8 a0i, aI a1] M) (fun v M => run 36 5 [l0, l1, l2, l3] [aI v] M) := call_I (n := 2) rfl false d36_2 rfl rfl rfl rfl rfl rfl rfl
theorem d36_5 : decode (cod 36) 5 = .ok (.istore_n 3, 1) := by decide +kernel
theorem r36_5 (l0 l1 l2 l3 : AV) (x : Int32) (st : List AV) (M : Mm) : run 36 5 [l0, l1, l2, l3] (aI x :: st) M = run 36 6 [l0, l1, l2, aI x] st M := e_istn [l0, l1, l2, aI x] d36_5 rfl rfl
theorem d36_6 : decode (cod 36) 6 = .ok (.iload_n 3, 1) := by decide +kernel
theorem r36_6 (l0 l1 l2 : AV) (x : Int32) (st : List AV) (M : Mm) : run 36 6 [l0, l1, l2, aI x] st M = run 36 7 [l0, l1, l2, aI x] (aI x :: st) M := e_ildn d36_6 rfl
theorem d36_7 : decode (cod 36) 7 = .ok (.ifCond .ge 5, 3) := by decide +kernel
theorem r36_7 (l0 l1 l2 l3 : AV) (a : Int32) (st : List AV) (M : Mm) : run 36 7 [l0, l1, l2, l3] (aI a :: st) M = if a < 0 then run 36 10 [l0, l1, l2, l3] st M else run 36 12 [l0, l1, l2, l3] st M := e_ge1 12 d36_7 (by decide)
theorem d36_10 : decode (cod 36) 10 = .ok (.iconst 0, 1) := by decide +kernel
theorem r36_10 (l0 l1 l2 l3 : AV) (st : List AV) (M : Mm) : run 36 10 [l0, l1, l2, l3] st M = run 36 11 [l0, l1, l2, l3] (aI 0 :: st) M := e_iconst 0 d36_10 (by decide +kernel)
theorem d36_11 : decode (cod 36) 11 = .ok (.ireturn, 1) := by decide +kernel
theorem r36_11 (l0 l1 l2 l3 : AV) (v : Int32) (M : Mm) : run 36 11 [l0, l1, l2, l3] [aI v] M = if v = 0 ∨ v = 1 then some (some v, M) else none := e_zret d36_11 rfl
theorem d36_12 : decode (cod 36) 12 = .ok (.iload_n 1, 1) := by decide +kernel
theorem r36_12 (l0 l2 l3 : AV) (x : Int32) (st : List AV) (M : Mm) : run 36 12 [l0, aI x, l2, l3] st M = run 36 13 [l0, aI x, l2, l3] (aI x :: st) M := e_ildn d36_12 rfl
theorem d36_13 : decode (cod 36) 13 = .ok (.iload_n 2, 1) := by decide +kernel
theorem r36_13 (l0 l1 l3 : AV) (x : Int32) (st : List AV) (M : Mm) : run 36 13 [l0, l1, aI x, l3] st M = run 36 14 [l0, l1, aI x, l3] (aI x :: st) M := e_ildn d36_13 rfl
theorem d36_14 : decode (cod 36) 14 = .ok (.iconst 1, 1) := by decide +kernel
theorem r36_14 (l0 l1 l2 l3 : AV) (st : List AV) (M : Mm) : run 36 14 [l0, l1, l2, l3] st M = run 36 15 [l0, l1, l2, l3] (aI 1 :: st) M := e_iconst 1 d36_14 (by decide +kernel)
theorem d36_15 : decode (cod 36) 15 = .ok (.iadd, 1) := by decide +kernel
theorem r36_15 (l0 l1 l2 l3 : AV) (a b : Int32) (st : List AV) (M : Mm) : run 36 15 [l0, l1, l2, l3] (aI b :: aI a :: st) M = run 36 16 [l0, l1, l2, l3] (aI (a + b) :: st) M := e_iadd d36_15
theorem d36_16 : decode (cod 36) 16 = .ok (.if_icmp .ne 29, 3) := by decide +kernel
theorem r36_16 (l0 l1 l2 l3 : AV) (a b : Int32) (st : List AV) (M : Mm) : run 36 16 [l0, l1, l2, l3] (aI b :: aI a :: st) M = if a = b then run 36 19 [l0, l1, l2, l3] st M else run 36 45 [l0, l1, l2, l3] st M := e_ne2 45 d36_16 (by decide)
theorem d36_19 : decode (cod 36) 19 = .ok (.aload_n 0, 1) := by decide +kernel
theorem r36_19 (l1 l2 l3 : AV) (xg xi : Nat) (st : List AV) (M : Mm) : run 36 19 [aR xg 8 xi, l1, l2, l3] st M = run 36 20 [aR xg 8 xi, l1, l2, l3] (aR xg 8 xi :: st) M := e_aldn d36_19 rfl
theorem d36_20 : decode (cod 36) 20 = .ok (.iload_n 2, 1) := by decide +kernel
theorem r36_20 (l0 l1 l3 : AV) (x : Int32) (st : List AV) (M : Mm) : run 36 20 [l0, l1, aI x, l3] st M = run 36 21 [l0, l1, aI x, l3] (aI x :: st) M := e_ildn d36_20 rfl
theorem d36_21 : decode (cod 36) 21 = .ok (.invokevirtual 19, 3) := by decide +kernel
theorem r36_21 (l0 l1 l2 l3 : AV) (a0g a0i : Nat) (a1 : Int32) (M : Mm) : run 36 21 [l0, l1, l2, l3] [aI a1, aR a0g 8 a0i] M = cbI (call 32 [aR a0g 8 a0i, aI a1] M) (fun v M => run 36 24 [l0, l1, l2, l3] [aI v] M) := call_I (n := 2) rfl false d36_21 rfl rfl rfl rfl rfl rfl rfl
theorem d36_24 : decode (cod 36) 24 = .ok (.bipush 121, 2) := by decide +kernel
theorem r36_24 (l0 l1 l2 l3 : AV) (st : List AV) (M : Mm) : run 36 24 [l0, l1, l2, l3] st M = run 36 26 [l0, l1, l2, l3] (aI 121 :: st) M := e_bipush 121 d36_24 (by decide +kernel)
theorem d36_26 : decode (cod 36) 26 = .ok (.if_icmp .ne 19, 3) := by decide +kernel
theorem r36_26 (l0 l1 l2 l3 : AV) (a b : Int32) (st : List AV) (M : Mm) : run 36 26 [l0, l1, l2, l3] (aI b :: aI a :: st) M = if a = b then run 36 29 [l0, l1, l2, l3] st M else run 36 45 [l0, l1, l2, l3] st M := e_ne2 45 d36_26 (by decide)
theorem d36_29 : decode (cod 36) 29 = .ok (.ldc 33, 2) := by decide +kernel
theorem r36_29 (l0 l1 l2 l3 : AV) (st : List AV) (M : Mm) : run 36 29 [l0, l1, l2, l3] st M = run 36 31 [l0, l1, l2, l3] (aR 9 35 0 :: st) M := e_ldcS (k := 35) d36_29 rfl rfl
theorem d36_31 : decode (cod 36) 31 = .ok (.iload_n 3, 1) := by decide +kernel
theorem r36_31 (l0 l1 l2 : AV) (x : Int32) (st : List AV) (M : Mm) : run 36 31 [l0, l1, l2, aI x] st M = run 36 32 [l0, l1, l2, aI x] (aI x :: st) M := e_ildn d36_31 rfl
theorem d36_32 : decode (cod 36) 32 = .ok (.i2c, 1) := by decide +kernel
theorem r36_32 (l0 l1 l2 l3 : AV) (a : Int32) (st : List AV) (M : Mm) : run 36 32 [l0, l1, l2, l3] (aI a :: st) M = run 36 33 [l0, l1, l2, l3] (aI (a.toUInt32 % 65536).toInt32 :: st) M := e_i2c d36_32
theorem d36_33 : decode (cod 36) 33 = .ok (.invokevirtual 35, 3) := by decide +kernel
theorem r36_33 (l0 l1 l2 l3 : AV) (b : Int32) (xg xi : Nat) (M : Mm) : run 36 33 [l0, l1, l2, l3] [aI b, aR xg 35 xi] M = run 36 36 [l0, l1, l2, l3] [aI (ix 35 b)] M := e_ix d36_33 rfl rfl
theorem d36_36 : decode (cod 36) 36 = .ok (.ifCond .lt 7, 3) := by decide +kernel
theorem r36_36 (l0 l1 l2 l3 : AV) (a : Int32) (st : List AV) (M : Mm) : run 36 36 [l0, l1, l2, l3] (aI a :: st) M = if a < 0 then run 36 43 [l0, l1, l2, l3] st M else run 36 39 [l0, l1, l2, l3] st M := e_lt1 43 d36_36 (by decide)
theorem d36_39 : decode (cod 36) 39 = .ok (.iconst 1, 1) := by decide +kernel
theorem r36_39 (l0 l1 l2 l3 : AV) (st : List AV) (M : Mm) : run 36 39 [l0, l1, l2, l3] st M = run 36 40 [l0, l1, l2, l3] (aI 1 :: st) M := e_iconst 1 d36_39 (by decide +kernel)
theorem d36_40 : decode (cod 36) 40 = .ok (.goto 4, 3) := by decide +kernel
theorem r36_40 (l0 l1 l2 l3 : AV) (st : List AV) (M : Mm) : run 36 40 [l0, l1, l2, l3] st M = run 36 44 [l0, l1, l2, l3] st M := e_goto 44 d36_40 (by decide)
theorem d36_43 : decode (cod 36) 43 = .ok (.iconst 0, 1) := by decide +kernel
theorem r36_43 (l0 l1 l2 l3 : AV) (st : List AV) (M : Mm) : run 36 43 [l0, l1, l2, l3] st M = run 36 44 [l0, l1, l2, l3] (aI 0 :: st) M := e_iconst 0 d36_43 (by decide +kernel)
theorem d36_44 : decode (cod 36) 44 = .ok (.ireturn, 1) := by decide +kernel
theorem r36_44 (l0 l1 l2 l3 : AV) (v : Int32) (M : Mm) : run 36 44 [l0, l1, l2, l3] [aI v] M = if v = 0 ∨ v = 1 then some (some v, M) else none := e_zret d36_44 rfl
theorem d36_45 : decode (cod 36) 45 = .ok (.iload_n 1, 1) := by decide +kernel
theorem r36_45 (l0 l2 l3 : AV) (x : Int32) (st : List AV) (M : Mm) : run 36 45 [l0, aI x, l2, l3] st M = run 36 46 [l0, aI x, l2, l3] (aI x :: st) M := e_ildn d36_45 rfl
theorem d36_46 : decode (cod 36) 46 = .ok (.iload_n 2, 1) := by decide +kernel
theorem r36_46 (l0 l1 l3 : AV) (x : Int32) (st : List AV) (M : Mm) : run 36 46 [l0, l1, aI x, l3] st M = run 36 47 [l0, l1, aI x, l3] (aI x :: st) M := e_ildn d36_46 rfl
theorem d36_47 : decode (cod 36) 47 = .ok (.iconst 1, 1) := by decide +kernel
theorem r36_47 (l0 l1 l2 l3 : AV) (st : List AV) (M : Mm) : run 36 47 [l0, l1, l2, l3] st M = run 36 48 [l0, l1, l2, l3] (aI 1 :: st) M := e_iconst 1 d36_47 (by decide +kernel)
theorem d36_48 : decode (cod 36) 48 = .ok (.iadd, 1) := by decide +kernel
theorem r36_48 (l0 l1 l2 l3 : AV) (a b : Int32) (st : List AV) (M : Mm) : run 36 48 [l0, l1, l2, l3] (aI b :: aI a :: st) M = run 36 49 [l0, l1, l2, l3] (aI (a + b) :: st) M := e_iadd d36_48
theorem d36_49 : decode (cod 36) 49 = .ok (.if_icmp .ne 29, 3) := by decide +kernel
theorem r36_49 (l0 l1 l2 l3 : AV) (a b : Int32) (st : List AV) (M : Mm) : run 36 49 [l0, l1, l2, l3] (aI b :: aI a :: st) M = if a = b then run 36 52 [l0, l1, l2, l3] st M else run 36 78 [l0, l1, l2, l3] st M := e_ne2 78 d36_49 (by decide)
theorem d36_52 : decode (cod 36) 52 = .ok (.aload_n 0, 1) := by decide +kernel
theorem r36_52 (l1 l2 l3 : AV) (xg xi : Nat) (st : List AV) (M : Mm) : run 36 52 [aR xg 8 xi, l1, l2, l3] st M = run 36 53 [aR xg 8 xi, l1, l2, l3] (aR xg 8 xi :: st) M := e_aldn d36_52 rfl
theorem d36_53 : decode (cod 36) 53 = .ok (.iload_n 2, 1) := by decide +kernel
theorem r36_53 (l0 l1 l3 : AV) (x : Int32) (st : List AV) (M : Mm) : run 36 53 [l0, l1, aI x, l3] st M = run 36 54 [l0, l1, aI x, l3] (aI x :: st) M := e_ildn d36_53 rfl
theorem d36_54 : decode (cod 36) 54 = .ok (.invokevirtual 19, 3) := by decide +kernel
theorem r36_54 (l0 l1 l2 l3 : AV) (a0g a0i : Nat) (a1 : Int32) (M : Mm) : run 36 54 [l0, l1, l2, l3] [aI a1, aR a0g 8 a0i] M = cbI (call 32 [aR a0g 8 a0i, aI a1] M) (fun v M => run 36 57 [l0, l1, l2, l3] [aI v] M) := call_I (n := 2) rfl false d36_54 rfl rfl rfl rfl rfl rfl rfl
theorem d36_57 : decode (cod 36) 57 = .ok (.bipush 114, 2) := by decide +kernel
theorem r36_57 (l0 l1 l2 l3 : AV) (st : List AV) (M : Mm) : run 36 57 [l0, l1, l2, l3] st M = run 36 59 [l0, l1, l2, l3] (aI 114 :: st) M := e_bipush 114 d36_57 (by decide +kernel)
theorem d36_59 : decode (cod 36) 59 = .ok (.if_icmp .ne 19, 3) := by decide +kernel
theorem r36_59 (l0 l1 l2 l3 : AV) (a b : Int32) (st : List AV) (M : Mm) : run 36 59 [l0, l1, l2, l3] (aI b :: aI a :: st) M = if a = b then run 36 62 [l0, l1, l2, l3] st M else run 36 78 [l0, l1, l2, l3] st M := e_ne2 78 d36_59 (by decide)
theorem d36_62 : decode (cod 36) 62 = .ok (.ldc 40, 2) := by decide +kernel
theorem r36_62 (l0 l1 l2 l3 : AV) (st : List AV) (M : Mm) : run 36 62 [l0, l1, l2, l3] st M = run 36 64 [l0, l1, l2, l3] (aR 9 36 0 :: st) M := e_ldcS (k := 36) d36_62 rfl rfl
theorem d36_64 : decode (cod 36) 64 = .ok (.iload_n 3, 1) := by decide +kernel
theorem r36_64 (l0 l1 l2 : AV) (x : Int32) (st : List AV) (M : Mm) : run 36 64 [l0, l1, l2, aI x] st M = run 36 65 [l0, l1, l2, aI x] (aI x :: st) M := e_ildn d36_64 rfl
theorem d36_65 : decode (cod 36) 65 = .ok (.i2c, 1) := by decide +kernel
theorem r36_65 (l0 l1 l2 l3 : AV) (a : Int32) (st : List AV) (M : Mm) : run 36 65 [l0, l1, l2, l3] (aI a :: st) M = run 36 66 [l0, l1, l2, l3] (aI (a.toUInt32 % 65536).toInt32 :: st) M := e_i2c d36_65
theorem d36_66 : decode (cod 36) 66 = .ok (.invokevirtual 35, 3) := by decide +kernel
theorem r36_66 (l0 l1 l2 l3 : AV) (b : Int32) (xg xi : Nat) (M : Mm) : run 36 66 [l0, l1, l2, l3] [aI b, aR xg 36 xi] M = run 36 69 [l0, l1, l2, l3] [aI (ix 36 b)] M := e_ix d36_66 rfl rfl
theorem d36_69 : decode (cod 36) 69 = .ok (.ifCond .lt 7, 3) := by decide +kernel
theorem r36_69 (l0 l1 l2 l3 : AV) (a : Int32) (st : List AV) (M : Mm) : run 36 69 [l0, l1, l2, l3] (aI a :: st) M = if a < 0 then run 36 76 [l0, l1, l2, l3] st M else run 36 72 [l0, l1, l2, l3] st M := e_lt1 76 d36_69 (by decide)
theorem d36_72 : decode (cod 36) 72 = .ok (.iconst 1, 1) := by decide +kernel
theorem r36_72 (l0 l1 l2 l3 : AV) (st : List AV) (M : Mm) : run 36 72 [l0, l1, l2, l3] st M = run 36 73 [l0, l1, l2, l3] (aI 1 :: st) M := e_iconst 1 d36_72 (by decide +kernel)
theorem d36_73 : decode (cod 36) 73 = .ok (.goto 4, 3) := by decide +kernel
theorem r36_73 (l0 l1 l2 l3 : AV) (st : List AV) (M : Mm) : run 36 73 [l0, l1, l2, l3] st M = run 36 77 [l0, l1, l2, l3] st M := e_goto 77 d36_73 (by decide)
theorem d36_76 : decode (cod 36) 76 = .ok (.iconst 0, 1) := by decide +kernel
theorem r36_76 (l0 l1 l2 l3 : AV) (st : List AV) (M : Mm) : run 36 76 [l0, l1, l2, l3] st M = run 36 77 [l0, l1, l2, l3] (aI 0 :: st) M := e_iconst 0 d36_76 (by decide +kernel)
theorem d36_77 : decode (cod 36) 77 = .ok (.ireturn, 1) := by decide +kernel
theorem r36_77 (l0 l1 l2 l3 : AV) (v : Int32) (M : Mm) : run 36 77 [l0, l1, l2, l3] [aI v] M = if v = 0 ∨ v = 1 then some (some v, M) else none := e_zret d36_77 rfl
theorem d36_78 : decode (cod 36) 78 = .ok (.iload_n 3, 1) := by decide +kernel
theorem r36_78 (l0 l1 l2 : AV) (x : Int32) (st : List AV) (M : Mm) : run 36 78 [l0, l1, l2, aI x] st M = run 36 79 [l0, l1, l2, aI x] (aI x :: st) M := e_ildn d36_78 rfl
theorem d36_79 : decode (cod 36) 79 = .ok (.bipush 48, 2) := by decide +kernel
theorem r36_79 (l0 l1 l2 l3 : AV) (st : List AV) (M : Mm) : run 36 79 [l0, l1, l2, l3] st M = run 36 81 [l0, l1, l2, l3] (aI 48 :: st) M := e_bipush 48 d36_79 (by decide +kernel)
theorem d36_81 : decode (cod 36) 81 = .ok (.if_icmp .lt 13, 3) := by decide +kernel
theorem r36_81 (l0 l1 l2 l3 : AV) (a b : Int32) (st : List AV) (M : Mm) : run 36 81 [l0, l1, l2, l3] (aI b :: aI a :: st) M = if a < b then run 36 94 [l0, l1, l2, l3] st M else run 36 84 [l0, l1, l2, l3] st M := e_lt2 94 d36_81 (by decide)
theorem d36_84 : decode (cod 36) 84 = .ok (.iload_n 3, 1) := by decide +kernel
theorem r36_84 (l0 l1 l2 : AV) (x : Int32) (st : List AV) (M : Mm) : run 36 84 [l0, l1, l2, aI x] st M = run 36 85 [l0, l1, l2, aI x] (aI x :: st) M := e_ildn d36_84 rfl
theorem d36_85 : decode (cod 36) 85 = .ok (.bipush 57, 2) := by decide +kernel
theorem r36_85 (l0 l1 l2 l3 : AV) (st : List AV) (M : Mm) : run 36 85 [l0, l1, l2, l3] st M = run 36 87 [l0, l1, l2, l3] (aI 57 :: st) M := e_bipush 57 d36_85 (by decide +kernel)
theorem d36_87 : decode (cod 36) 87 = .ok (.if_icmp .gt 7, 3) := by decide +kernel
theorem r36_87 (l0 l1 l2 l3 : AV) (a b : Int32) (st : List AV) (M : Mm) : run 36 87 [l0, l1, l2, l3] (aI b :: aI a :: st) M = if b < a then run 36 94 [l0, l1, l2, l3] st M else run 36 90 [l0, l1, l2, l3] st M := e_gt2 94 d36_87 (by decide)
theorem d36_90 : decode (cod 36) 90 = .ok (.iconst 1, 1) := by decide +kernel
theorem r36_90 (l0 l1 l2 l3 : AV) (st : List AV) (M : Mm) : run 36 90 [l0, l1, l2, l3] st M = run 36 91 [l0, l1, l2, l3] (aI 1 :: st) M := e_iconst 1 d36_90 (by decide +kernel)
theorem d36_91 : decode (cod 36) 91 = .ok (.goto 4, 3) := by decide +kernel
theorem r36_91 (l0 l1 l2 l3 : AV) (st : List AV) (M : Mm) : run 36 91 [l0, l1, l2, l3] st M = run 36 95 [l0, l1, l2, l3] st M := e_goto 95 d36_91 (by decide)
theorem d36_94 : decode (cod 36) 94 = .ok (.iconst 0, 1) := by decide +kernel
theorem r36_94 (l0 l1 l2 l3 : AV) (st : List AV) (M : Mm) : run 36 94 [l0, l1, l2, l3] st M = run 36 95 [l0, l1, l2, l3] (aI 0 :: st) M := e_iconst 0 d36_94 (by decide +kernel)
theorem d36_95 : decode (cod 36) 95 = .ok (.ireturn, 1) := by decide +kernel
theorem r36_95 (l0 l1 l2 l3 : AV) (v : Int32) (M : Mm) : run 36 95 [l0, l1, l2, l3] [aI v] M = if v = 0 ∨ v = 1 then some (some v, M) else none := e_zret d36_95 rfl
theorem c37 (g0 i0 : Nat) (x1 : Int32) (M : Mm) : call 37 [aR g0 7 i0, aI x1] M = run 37 0 [aR g0 7 i0, aI x1] [] M := call_run 37 _ _
theorem d37_0 : decode (cod 37) 0 = .ok (.iload_n 1, 1) := by decide +kernel
theorem r37_0 (l0 : AV) (x : Int32) (st : List AV) (M : Mm) : run 37 0 [l0, aI x] st M = run 37 1 [l0, aI x] (aI x :: st) M := e_ildn d37_0 rfl
theorem d37_1 : decode (cod 37) 1 = .ok (.ifCond .ge 10, 3) := by decide +kernel
theorem r37_1 (l0 l1 : AV) (a : Int32) (st : List AV) (M : Mm) : run 37 1 [l0, l1] (aI a :: st) M = if a < 0 then run 37 4 [l0, l1] st M else run 37 11 [l0, l1] st M := e_ge1 11 d37_1 (by decide)
theorem d37_4 : decode (cod 37) 4 = .ok (.aload_n 0, 1) := by decide +kernel
theorem r37_4 (l1 : AV) (xg xi : Nat) (st : List AV) (M : Mm) : run 37 4 [aR xg 7 xi, l1] st M = run 37 5 [aR xg 7 xi, l1] (aR xg 7 xi :: st) M := e_aldn d37_4 rfl
theorem d37_5 : decode (cod 37) 5 = .ok (.bipush (-4), 2) := by decide +kernel
theorem r37_5 (l0 l1 : AV) (st : List AV) (M : Mm) : run 37 5 [l0, l1] st M = run 37 7 [l0, l1] (aI (-4) :: st) M := e_bipush (-4) d37_5 (by decide +kernel)
theorem d37_7 : decode (cod 37) 7 = .ok (.invokevirtual 44, 3) := by decide +kernel
theorem r37_7 (l0 l1 : AV) (a0g a0i : Nat) (a1 : Int32) (M : Mm) : run 37 7 [l0, l1] [aI a1, aR a0g 7 a0i] M = cbI (call 66 [aR a0g 7 a0i, aI a1] M) (fun v M => run 37 10 [l0, l1] [aI v] M) := call_I (n := 2) rfl false d37_7 rfl rfl rfl rfl rfl rfl rfl
theorem d37_10 : decode (cod 37) 10 = .ok (.ireturn, 1) := by decide +kernel
theorem r37_10 (l0 l1 : AV) (v : Int32) (M : Mm) : run 37 10 [l0, l1] [aI v] M = some (some v, M) := e_iret d37_10 rfl
theorem d37_11 : decode (cod 37) 11 = .ok (.iload_n 1, 1) := by decide +kernel
theorem r37_11 (l0 : AV) (x : Int32) (st : List AV) (M : Mm) : run 37 11 [l0, aI x] st M = run 37 12 [l0, aI x] (aI x :: st) M := e_ildn d37_11 rfl
theorem d37_12 : decode (cod 37) 12 = .ok (.sipush 255, 3) := by decide +kernel
theorem r37_12 (l0 l1 : AV) (st : List AV) (M : Mm) : run 37 12 [l0, l1] st M = run 37 15 [l0, l1] (aI 255 :: st) M := e_sipush 255 d37_12 (by decide +kernel)
theorem d37_15 : decode (cod 37) 15 = .ok (.if_icmp .gt 15, 3) := by decide +kernel
theorem r37_15 (l0 l1 : AV) (a b : Int32) (st : List AV) (M : Mm) : run 37 15 [l0, l1] (aI b :: aI a :: st) M = if b < a then run 37 30 [l0, l1] st M else run 37 18 [l0, l1] st M := e_gt2 30 d37_15 (by decide)
theorem d37_18 : decode (cod 37) 18 = .ok (.aload_n 0, 1) := by decide +kernel
theorem r37_18 (l1 : AV) (xg xi : Nat) (st : List AV) (M : Mm) : run 37 18 [aR xg 7 xi, l1] st M = run 37 19 [aR xg 7 xi, l1] (aR xg 7 xi :: st) M := e_aldn d37_18 rfl
theorem d37_19 : decode (cod 37) 19 = .ok (.getfield 29, 3) := by decide +kernel
theorem r37_19 (l0 l1 : AV) (xg xi : Nat) (st : List AV) (M : Mm) : run 37 19 [l0, l1] (aR xg 7 xi :: st) M = run 37 22 [l0, l1] (aR 0 8 0 :: st) M := e_gfr (fun g => (0, 8, 0)) d37_19 rfl rfl rfl
theorem d37_22 : decode (cod 37) 22 = .ok (.getfield 48, 3) := by decide +kernel
theorem r37_22 (l0 l1 : AV) (xg xi : Nat) (st : List AV) (M : Mm) : run 37 22 [l0, l1] (aR xg 8 xi :: st) M = run 37 25 [l0, l1] (aI (M xg 8 xi 1) :: st) M := e_gfi d37_22 rfl rfl rfl
theorem d37_25 : decode (cod 37) 25 = .ok (.bipush 96, 2) := by decide +kernel
theorem r37_25 (l0 l1 : AV) (st : List AV) (M : Mm) : run 37 25 [l0, l1] st M = run 37 27 [l0, l1] (aI 96 :: st) M := e_bipush 96 d37_25 (by decide +kernel)
theorem d37_27 : decode (cod 37) 27 = .ok (.if_icmp .lt 10, 3) := by decide +kernel
theorem r37_27 (l0 l1 : AV) (a b : Int32) (st : List AV) (M : Mm) : run 37 27 [l0, l1] (aI b :: aI a :: st) M = if a < b then run 37 37 [l0, l1] st M else run 37 30 [l0, l1] st M := e_lt2 37 d37_27 (by decide)
theorem d37_30 : decode (cod 37) 30 = .ok (.aload_n 0, 1) := by decide +kernel
theorem r37_30 (l1 : AV) (xg xi : Nat) (st : List AV) (M : Mm) : run 37 30 [aR xg 7 xi, l1] st M = run 37 31 [aR xg 7 xi, l1] (aR xg 7 xi :: st) M := e_aldn d37_30 rfl
theorem d37_31 : decode (cod 37) 31 = .ok (.bipush (-6), 2) := by decide +kernel
theorem r37_31 (l0 l1 : AV) (st : List AV) (M : Mm) : run 37 31 [l0, l1] st M = run 37 33 [l0, l1] (aI (-6) :: st) M := e_bipush (-6) d37_31 (by decide +kernel)
theorem d37_33 : decode (cod 37) 33 = .ok (.invokevirtual 44, 3) := by decide +kernel
theorem r37_33 (l0 l1 : AV) (a0g a0i : Nat) (a1 : Int32) (M : Mm) : run 37 33 [l0, l1] [aI a1, aR a0g 7 a0i] M = cbI (call 66 [aR a0g 7 a0i, aI a1] M) (fun v M => run 37 36 [l0, l1] [aI v] M) := call_I (n := 2) rfl false d37_33 rfl rfl rfl rfl rfl rfl rfl
theorem d37_36 : decode (cod 37) 36 = .ok (.ireturn, 1) := by decide +kernel
theorem r37_36 (l0 l1 : AV) (v : Int32) (M : Mm) : run 37 36 [l0, l1] [aI v] M = some (some v, M) := e_iret d37_36 rfl
theorem d37_37 : decode (cod 37) 37 = .ok (.aload_n 0, 1) := by decide +kernel
theorem r37_37 (l1 : AV) (xg xi : Nat) (st : List AV) (M : Mm) : run 37 37 [aR xg 7 xi, l1] st M = run 37 38 [aR xg 7 xi, l1] (aR xg 7 xi :: st) M := e_aldn d37_37 rfl
theorem d37_38 : decode (cod 37) 38 = .ok (.getfield 29, 3) := by decide +kernel
theorem r37_38 (l0 l1 : AV) (xg xi : Nat) (st : List AV) (M : Mm) : run 37 38 [l0, l1] (aR xg 7 xi :: st) M = run 37 41 [l0, l1] (aR 0 8 0 :: st) M := e_gfr (fun g => (0, 8, 0)) d37_38 rfl rfl rfl
theorem d37_41 : decode (cod 37) 41 = .ok (.iload_n 1, 1) := by decide +kernel
theorem r37_41 (l0 : AV) (x : Int32) (st : List AV) (M : Mm) : run 37 41 [l0, aI x] st M = run 37 42 [l0, aI x] (aI x :: st) M := e_ildn d37_41 rfl
theorem d37_42 : decode (cod 37) 42 = .ok (.invokevirtual 51, 3) := by decide +kernel
theorem r37_42 (l0 l1 : AV) (a0g a0i : Nat) (a1 : Int32) (M : Mm) : run 37 42 [l0, l1] [aI a1, aR a0g 8 a0i] M = cbV (call 31 [aR a0g 8 a0i, aI a1] M) (fun M => run 37 45 [l0, l1] [] M) := call_V (n := 2) rfl false d37_42 rfl rfl rfl rfl rfl rfl rfl
theorem d37_45 : decode (cod 37) 45 = .ok (.aload_n 0, 1) := by decide +kernel
theorem r37_45 (l1 : AV) (xg xi : Nat) (st : List AV) (M : Mm) : run 37 45 [aR xg 7 xi, l1] st M = run 37 46 [aR xg 7 xi, l1] (aR xg 7 xi :: st) M := e_aldn d37_45 rfl
theorem d37_46 : decode (cod 37) 46 = .ok (.getfield 29, 3) := by decide +kernel
theorem r37_46 (l0 l1 : AV) (xg xi : Nat) (st : List AV) (M : Mm) : run 37 46 [l0, l1] (aR xg 7 xi :: st) M = run 37 49 [l0, l1] (aR 0 8 0 :: st) M := e_gfr (fun g => (0, 8, 0)) d37_46 rfl rfl rfl
theorem d37_49 : decode (cod 37) 49 = .ok (.getfield 48, 3) := by decide +kernel
theorem r37_49 (l0 l1 : AV) (xg xi : Nat) (st : List AV) (M : Mm) : run 37 49 [l0, l1] (aR xg 8 xi :: st) M = run 37 52 [l0, l1] (aI (M xg 8 xi 1) :: st) M := e_gfi d37_49 rfl rfl rfl
theorem d37_52 : decode (cod 37) 52 = .ok (.ireturn, 1) := by decide +kernel
theorem r37_52 (l0 l1 : AV) (v : Int32) (M : Mm) : run 37 52 [l0, l1] [aI v] M = some (some v, M) := e_iret d37_52 rfl
theorem c38 (g0 i0 : Nat) (M : Mm) : call 38 [aR g0 7 i0] M = run 38 0 [aR g0 7 i0, none, none, none] [] M := call_run 38 _ _
theorem d38_0 : decode (cod 38) 0 = .ok (.aload_n 0, 1) := by decide +kernel
theorem r38_0 (l1 l2 l3 : AV) (xg xi : Nat) (st : List AV) (M : Mm) : run 38 0 [aR xg 7 xi, l1, l2, l3] st M = run 38 1 [aR xg 7 xi, l1, l2, l3] (aR xg 7 xi :: st) M := e_aldn d38_0 rfl
theorem d38_1 : decode (cod 38) 1 = .ok (.getfield 29, 3) := by decide +kernel
theorem r38_1 (l0 l1 l2 l3 : AV) (xg xi : Nat) (st : List AV) (M : Mm) : run 38 1 [l0, l1, l2, l3] (aR xg 7 xi :: st) M = run 38 4 [l0, l1, l2, l3] (aR 0 8 0 :: st) M := e_gfr (fun g => (0, 8, 0)) d38_1 rfl rfl rfl
theorem d38_4 : decode (cod 38) 4 = .ok (.invokevirtual 55, 3) := by decide +kernel
theorem r38_4 (l0 l1 l2 l3 : AV) (a0g a0i : Nat) (M : Mm) : run 38 4 [l0, l1, l2, l3] [aR a0g 8 a0i] M = cbI (call 34 [aR a0g 8 a0i] M) (fun v M => run 38 7 [l0, l1, l2, l3] [aI v] M) := call_I (n := 1) rfl false d38_4 rfl rfl rfl rfl rfl rfl rfl
theorem d38_7 : decode (cod 38) 7 = .ok (.istore_n 1, 1) := by decide +kernel
theorem r38_7 (l0 l1 l2 l3 : AV) (x : Int32) (st : List AV) (M : Mm) : run 38 7 [l0, l1, l2, l3] (aI x :: st) M = run 38 8 [l0, aI x, l2, l3] st M := e_istn [l0, aI x, l2, l3] d38_7 rfl rfl
theorem d38_8 : decode (cod 38) 8 = .ok (.iload_n 1, 1) := by decide +kernel
theorem r38_8 (l0 l2 l3 : AV) (x : Int32) (st : List AV) (M : Mm) : run 38 8 [l0, aI x, l2, l3] st M = run 38 9 [l0, aI x, l2, l3] (aI x :: st) M := e_ildn d38_8 rfl
theorem d38_9 : decode (cod 38) 9 = .ok (.ifCond .lt 17, 3) := by decide +kernel
theorem r38_9 (l0 l1 l2 l3 : AV) (a : Int32) (st : List AV) (M : Mm) : run 38 9 [l0, l1, l2, l3] (aI a :: st) M = if a < 0 then run 38 26 [l0, l1, l2, l3] st M else run 38 12 [l0, l1, l2, l3] st M := e_lt1 26 d38_9 (by decide)
theorem d38_12 : decode (cod 38) 12 = .ok (.aload_n 0, 1) := by decide +kernel
theorem r38_12 (l1 l2 l3 : AV) (xg xi : Nat) (st : List AV) (M : Mm) : run 38 12 [aR xg 7 xi, l1, l2, l3] st M = run 38 13 [aR xg 7 xi, l1, l2, l3] (aR xg 7 xi :: st) M := e_aldn d38_12 rfl
theorem d38_13 : decode (cod 38) 13 = .ok (.getfield 29, 3) := by decide +kernel
theorem r38_13 (l0 l1 l2 l3 : AV) (xg xi : Nat) (st : List AV) (M : Mm) : run 38 13 [l0, l1, l2, l3] (aR xg 7 xi :: st) M = run 38 16 [l0, l1, l2, l3] (aR 0 8 0 :: st) M := e_gfr (fun g => (0, 8, 0)) d38_13 rfl rfl rfl
theorem d38_16 : decode (cod 38) 16 = .ok (.iconst 0, 1) := by decide +kernel
theorem r38_16 (l0 l1 l2 l3 : AV) (st : List AV) (M : Mm) : run 38 16 [l0, l1, l2, l3] st M = run 38 17 [l0, l1, l2, l3] (aI 0 :: st) M := e_iconst 0 d38_16 (by decide +kernel)
theorem d38_17 : decode (cod 38) 17 = .ok (.putfield 48, 3) := by decide +kernel
theorem r38_17 (l0 l1 l2 l3 : AV) (v : Int32) (xg xi : Nat) (st : List AV) (M : Mm) : run 38 17 [l0, l1, l2, l3] (aI v :: aR xg 8 xi :: st) M = run 38 20 [l0, l1, l2, l3] st (wr M xg 8 xi 1 v) := e_pfi d38_17 rfl rfl rfl rfl
theorem d38_20 : decode (cod 38) 20 = .ok (.sipush (-1000), 3) := by decide +kernel
theorem r38_20 (l0 l1 l2 l3 : AV) (st : List AV) (M : Mm) : run 38 20 [l0, l1, l2, l3] st M = run 38 23 [l0, l1, l2, l3] (aI (-1000) :: st) M := e_sipush (-1000) d38_20 (by decide +kernel)
theorem d38_23 : decode (cod 38) 23 = .ok (.iload_n 1, 1) := by decide +kernel
theorem r38_23 (l0 l2 l3 : AV) (x : Int32) (st : List AV) (M : Mm) : run 38 23 [l0, aI x, l2, l3] st M = run 38 24 [l0, aI x, l2, l3] (aI x :: st) M := e_ildn d38_23 rfl
theorem d38_24 : decode (cod 38) 24 = .ok (.isub, 1) := by decide +kernel
theorem r38_24 (l0 l1 l2 l3 : AV) (a b : Int32) (st : List AV) (M : Mm) : run 38 24 [l0, l1, l2, l3] (aI b :: aI a :: st) M = run 38 25 [l0, l1, l2, l3] (aI (a - b) :: st) M := e_isub d38_24
theorem d38_25 : decode (cod 38) 25 = .ok (.ireturn, 1) := by decide +kernel
theorem r38_25 (l0 l1 l2 l3 : AV) (v : Int32) (M : Mm) : run 38 25 [l0, l1, l2, l3] [aI v] M = some (some v, M) := e_iret d38_25 rfl
theorem d38_26 : decode (cod 38) 26 = .ok (.aload_n 0, 1) := by decide +kernel
theorem r38_26 (l1 l2 l3 : AV) (xg xi : Nat) (st : List AV) (M : Mm) : run 38 26 [aR xg 7 xi, l1, l2, l3] st M = run 38 27 [aR xg 7 xi, l1, l2, l3] (aR xg 7 xi :: st) M := e_aldn d38_26 rfl
theorem d38_27 : decode (cod 38) 27 = .ok (.getfield 16, 3) := by decide +kernel
theorem r38_27 (l0 l1 l2 l3 : AV) (xg xi : Nat) (st : List AV) (M : Mm) : run 38 27 [l0, l1, l2, l3] (aR xg 7 xi :: st) M = run 38 30 [l0, l1, l2, l3] (aR 2 0 0 :: st) M := e_gfr (fun g => (2, 0, 0)) d38_27 rfl rfl rfl
theorem d38_30 : decode (cod 38) 30 = .ok (.aload_n 0, 1) := by decide +kernel
theorem r38_30 (l1 l2 l3 : AV) (xg xi : Nat) (st : List AV) (M : Mm) : run 38 30 [aR xg 7 xi, l1, l2, l3] st M = run 38 31 [aR xg 7 xi, l1, l2, l3] (aR xg 7 xi :: st) M := e_aldn d38_30 rfl
theorem d38_31 : decode (cod 38) 31 = .ok (.getfield 10, 3) := by decide +kernel
theorem r38_31 (l0 l1 l2 l3 : AV) (xg xi : Nat) (st : List AV) (M : Mm) : run 38 31 [l0, l1, l2, l3] (aR xg 7 xi :: st) M = run 38 34 [l0, l1, l2, l3] (aR 1 0 0 :: st) M := e_gfr (fun g => (1, 0, 0)) d38_31 rfl rfl rfl
theorem d38_34 : decode (cod 38) 34 = .ok (.invokevirtual 59, 3) := by decide +kernel
theorem r38_34 (l0 l1 l2 l3 : AV) (a0g a0i : Nat) (a1g a1i : Nat) (M : Mm) : run 38 34 [l0, l1, l2, l3] [aR a1g 0 a1i, aR a0g 0 a0i] M = cbV (call 11 [aR a0g 0 a0i, aR a1g 0 a1i] M) (fun M => run 38 37 [l0, l1, l2, l3] [] M) := call_V (n := 2) rfl false d38_34 rfl rfl rfl rfl rfl rfl rfl
theorem d38_37 : decode (cod 38) 37 = .ok (.iconst 0, 1) := by decide +kernel
theorem r38_37 (l0 l1 l2 l3 : AV) (st : List AV) (M : Mm) : run 38 37 [l0, l1, l2, l3] st M = run 38 38 [l0, l1, l2, l3] (aI 0 :: st) M := e_iconst 0 d38_37 (by decide +kernel)
theorem d38_38 : decode (cod 38) 38 = .ok (.istore_n 2, 1) := by decide +kernel
theorem r38_38 (l0 l1 l2 l3 : AV) (x : Int32) (st : List AV) (M : Mm) : run 38 38 [l0, l1, l2, l3] (aI x :: st) M = run 38 39 [l0, l1, aI x, l3] st M := e_istn [l0, l1, aI x, l3] d38_38 rfl rfl
theorem d38_39 : decode (cod 38) 39 = .ok (.iconst 0, 1) := by decide +kernel
theorem r38_39 (l0 l1 l2 l3 : AV) (st : List AV) (M : Mm) : run 38 39 [l0, l1, l2, l3] st M = run 38 40 [l0, l1, l2, l3] (aI 0 :: st) M := e_iconst 0 d38_39 (by decide +kernel)
theorem d38_40 : decode (cod 38) 40 = .ok (.istore_n 3, 1) := by decide +kernel
theorem r38_40 (l0 l1 l2 l3 : AV) (x : Int32) (st : List AV) (M : Mm) : run 38 40 [l0, l1, l2, l3] (aI x :: st) M = run 38 41 [l0, l1, l2, aI x] st M := e_istn [l0, l1, l2, aI x] d38_40 rfl rfl
theorem d38_41 : decode (cod 38) 41 = .ok (.iload_n 2, 1) := by decide +kernel
theorem r38_41 (l0 l1 l3 : AV) (x : Int32) (st : List AV) (M : Mm) : run 38 41 [l0, l1, aI x, l3] st M = run 38 42 [l0, l1, aI x, l3] (aI x :: st) M := e_ildn d38_41 rfl
theorem d38_42 : decode (cod 38) 42 = .ok (.aload_n 0, 1) := by decide +kernel
theorem r38_42 (l1 l2 l3 : AV) (xg xi : Nat) (st : List AV) (M : Mm) : run 38 42 [aR xg 7 xi, l1, l2, l3] st M = run 38 43 [aR xg 7 xi, l1, l2, l3] (aR xg 7 xi :: st) M := e_aldn d38_42 rfl
theorem d38_43 : decode (cod 38) 43 = .ok (.getfield 29, 3) := by decide +kernel
theorem r38_43 (l0 l1 l2 l3 : AV) (xg xi : Nat) (st : List AV) (M : Mm) : run 38 43 [l0, l1, l2, l3] (aR xg 7 xi :: st) M = run 38 46 [l0, l1, l2, l3] (aR 0 8 0 :: st) M := e_gfr (fun g => (0, 8, 0)) d38_43 rfl rfl rfl
theorem d38_46 : decode (cod 38) 46 = .ok (.getfield 48, 3) := by decide +kernel
theorem r38_46 (l0 l1 l2 l3 : AV) (xg xi : Nat) (st : List AV) (M : Mm) : run 38 46 [l0, l1, l2, l3] (aR xg 8 xi :: st) M = run 38 49 [l0, l1, l2, l3] (aI (M xg 8 xi 1) :: st) M := e_gfi d38_46 rfl rfl rfl
theorem d38_49 : decode (cod 38) 49 = .ok (.if_icmp .ge 48, 3) := by decide +kernel
theorem r38_49 (l0 l1 l2 l3 : AV) (a b : Int32) (st : List AV) (M : Mm) : run 38 49 [l0, l1, l2, l3] (aI b :: aI a :: st) M = if a < b then run 38 52 [l0, l1, l2, l3] st M else run 38 97 [l0, l1, l2, l3] st M := e_ge2 97 d38_49 (by decide)
theorem d38_52 : decode (cod 38) 52 = .ok (.iload_n 3, 1) := by decide +kernel
theorem r38_52 (l0 l1 l2 : AV) (x : Int32) (st : List AV) (M : Mm) : run 38 52 [l0, l1, l2, aI x] st M = run 38 53 [l0, l1, l2, aI x] (aI x :: st) M := e_ildn d38_52 rfl
theorem d38_53 : decode (cod 38) 53 = .ok (.bipush 96, 2) := by decide +kernel
theorem r38_53 (l0 l1 l2 l3 : AV) (st : List AV) (M : Mm) : run 38 53 [l0, l1, l2, l3] st M = run 38 55 [l0, l1, l2, l3] (aI 96 :: st) M := e_bipush 96 d38_53 (by decide +kernel)
theorem d38_55 : decode (cod 38) 55 = .ok (.if_icmp .ge 42, 3) := by decide +kernel
theorem r38_55 (l0 l1 l2 l3 : AV) (a b : Int32) (st : List AV) (M : Mm) : run 38 55 [l0, l1, l2, l3] (aI b :: aI a :: st) M = if a < b then run 38 58 [l0, l1, l2, l3] st M else run 38 97 [l0, l1, l2, l3] st M := e_ge2 97 d38_55 (by decide)
theorem d38_58 : decode (cod 38) 58 = .ok (.aload_n 0, 1) := by decide +kernel
theorem r38_58 (l1 l2 l3 : AV) (xg xi : Nat) (st : List AV) (M : Mm) : run 38 58 [aR xg 7 xi, l1, l2, l3] st M = run 38 59 [aR xg 7 xi, l1, l2, l3] (aR xg 7 xi :: st) M := e_aldn d38_58 rfl
theorem d38_59 : decode (cod 38) 59 = .ok (.iload_n 2, 1) := by decide +kernel
theorem r38_59 (l0 l1 l3 : AV) (x : Int32) (st : List AV) (M : Mm) : run 38 59 [l0, l1, aI x, l3] st M = run 38 60 [l0, l1, aI x, l3] (aI x :: st) M := e_ildn d38_59 rfl
theorem d38_60 : decode (cod 38) 60 = .ok (.invokevirtual 63, 3) := by decide +kernel
theorem r38_60 (l0 l1 l2 l3 : AV) (a0g a0i : Nat) (a1 : Int32) (M : Mm) : run 38 60 [l0, l1, l2, l3] [aI a1, aR a0g 7 a0i] M = cbI (call 79 [aR a0g 7 a0i, aI a1] M) (fun v M => run 38 63 [l0, l1, l2, l3] [aI v] M) := call_I (n := 2) rfl false d38_60 rfl rfl rfl rfl rfl rfl rfl
theorem d38_63 : decode (cod 38) 63 = .ok (.ifCond .ne 17, 3) := by decide +kernel
theorem r38_63 (l0 l1 l2 l3 : AV) (a : Int32) (st : List AV) (M : Mm) : run 38 63 [l0, l1, l2, l3] (aI a :: st) M = if a = 0 then run 38 66 [l0, l1, l2, l3] st M else run 38 80 [l0, l1, l2, l3] st M := e_ne1 80 d38_63 (by decide)
theorem d38_66 : decode (cod 38) 66 = .ok (.aload_n 0, 1) := by decide +kernel
theorem r38_66 (l1 l2 l3 : AV) (xg xi : Nat) (st : List AV) (M : Mm) : run 38 66 [aR xg 7 xi, l1, l2, l3] st M = run 38 67 [aR xg 7 xi, l1, l2, l3] (aR xg 7 xi :: st) M := e_aldn d38_66 rfl
theorem d38_67 : decode (cod 38) 67 = .ok (.getfield 29, 3) := by decide +kernel
theorem r38_67 (l0 l1 l2 l3 : AV) (xg xi : Nat) (st : List AV) (M : Mm) : run 38 67 [l0, l1, l2, l3] (aR xg 7 xi :: st) M = run 38 70 [l0, l1, l2, l3] (aR 0 8 0 :: st) M := e_gfr (fun g => (0, 8, 0)) d38_67 rfl rfl rfl
theorem d38_70 : decode (cod 38) 70 = .ok (.iconst 0, 1) := by decide +kernel
theorem r38_70 (l0 l1 l2 l3 : AV) (st : List AV) (M : Mm) : run 38 70 [l0, l1, l2, l3] st M = run 38 71 [l0, l1, l2, l3] (aI 0 :: st) M := e_iconst 0 d38_70 (by decide +kernel)
theorem d38_71 : decode (cod 38) 71 = .ok (.putfield 48, 3) := by decide +kernel
theorem r38_71 (l0 l1 l2 l3 : AV) (v : Int32) (xg xi : Nat) (st : List AV) (M : Mm) : run 38 71 [l0, l1, l2, l3] (aI v :: aR xg 8 xi :: st) M = run 38 74 [l0, l1, l2, l3] st (wr M xg 8 xi 1 v) := e_pfi d38_71 rfl rfl rfl rfl
theorem d38_74 : decode (cod 38) 74 = .ok (.sipush (-2000), 3) := by decide +kernel
theorem r38_74 (l0 l1 l2 l3 : AV) (st : List AV) (M : Mm) : run 38 74 [l0, l1, l2, l3] st M = run 38 77 [l0, l1, l2, l3] (aI (-2000) :: st) M := e_sipush (-2000) d38_74 (by decide +kernel)
theorem d38_77 : decode (cod 38) 77 = .ok (.iload_n 2, 1) := by decide +kernel
theorem r38_77 (l0 l1 l3 : AV) (x : Int32) (st : List AV) (M : Mm) : run 38 77 [l0, l1, aI x, l3] st M = run 38 78 [l0, l1, aI x, l3] (aI x :: st) M := e_ildn d38_77 rfl
theorem d38_78 : decode (cod 38) 78 = .ok (.isub, 1) := by decide +kernel
theorem r38_78 (l0 l1 l2 l3 : AV) (a b : Int32) (st : List AV) (M : Mm) : run 38 78 [l0, l1, l2, l3] (aI b :: aI a :: st) M = run 38 79 [l0, l1, l2, l3] (aI (a - b) :: st) M := e_isub d38_78
theorem d38_79 : decode (cod 38) 79 = .ok (.ireturn, 1) := by decide +kernel
theorem r38_79 (l0 l1 l2 l3 : AV) (v : Int32) (M : Mm) : run 38 79 [l0, l1, l2, l3] [aI v] M = some (some v, M) := e_iret d38_79 rfl
theorem d38_80 : decode (cod 38) 80 = .ok (.iload_n 2, 1) := by decide +kernel
theorem r38_80 (l0 l1 l3 : AV) (x : Int32) (st : List AV) (M : Mm) : run 38 80 [l0, l1, aI x, l3] st M = run 38 81 [l0, l1, aI x, l3] (aI x :: st) M := e_ildn d38_80 rfl
theorem d38_81 : decode (cod 38) 81 = .ok (.aload_n 0, 1) := by decide +kernel
theorem r38_81 (l1 l2 l3 : AV) (xg xi : Nat) (st : List AV) (M : Mm) : run 38 81 [aR xg 7 xi, l1, l2, l3] st M = run 38 82 [aR xg 7 xi, l1, l2, l3] (aR xg 7 xi :: st) M := e_aldn d38_81 rfl
theorem d38_82 : decode (cod 38) 82 = .ok (.getfield 29, 3) := by decide +kernel
theorem r38_82 (l0 l1 l2 l3 : AV) (xg xi : Nat) (st : List AV) (M : Mm) : run 38 82 [l0, l1, l2, l3] (aR xg 7 xi :: st) M = run 38 85 [l0, l1, l2, l3] (aR 0 8 0 :: st) M := e_gfr (fun g => (0, 8, 0)) d38_82 rfl rfl rfl
theorem d38_85 : decode (cod 38) 85 = .ok (.iload_n 2, 1) := by decide +kernel
theorem r38_85 (l0 l1 l3 : AV) (x : Int32) (st : List AV) (M : Mm) : run 38 85 [l0, l1, aI x, l3] st M = run 38 86 [l0, l1, aI x, l3] (aI x :: st) M := e_ildn d38_85 rfl
theorem d38_86 : decode (cod 38) 86 = .ok (.invokevirtual 67, 3) := by decide +kernel
theorem r38_86 (l0 l1 l2 l3 : AV) (a0g a0i : Nat) (a1 : Int32) (t0 : AV) (M : Mm) : run 38 86 [l0, l1, l2, l3] [aI a1, aR a0g 8 a0i, t0] M = cbI (call 35 [aR a0g 8 a0i, aI a1] M) (fun v M => run 38 89 [l0, l1, l2, l3] [aI v, t0] M) := call_I (n := 2) rfl false d38_86 rfl rfl rfl rfl rfl rfl rfl
theorem d38_89 : decode (cod 38) 89 = .ok (.iadd, 1) := by decide +kernel
theorem r38_89 (l0 l1 l2 l3 : AV) (a b : Int32) (st : List AV) (M : Mm) : run 38 89 [l0, l1, l2, l3] (aI b :: aI a :: st) M = run 38 90 [l0, l1, l2, l3] (aI (a + b) :: st) M := e_iadd d38_89
theorem d38_90 : decode (cod 38) 90 = .ok (.istore_n 2, 1) := by decide +kernel
theorem r38_90 (l0 l1 l2 l3 : AV) (x : Int32) (st : List AV) (M : Mm) : run 38 90 [l0, l1, l2, l3] (aI x :: st) M = run 38 91 [l0, l1, aI x, l3] st M := e_istn [l0, l1, aI x, l3] d38_90 rfl rfl
theorem d38_91 : decode (cod 38) 91 = .ok (.iinc 3 1, 3) := by decide +kernel
theorem r38_91 (l0 l1 l2 : AV) (x : Int32) (st : List AV) (M : Mm) : run 38 91 [l0, l1, l2, aI x] st M = run 38 94 [l0, l1, l2, aI (x + 1)] st M := e_iinc 1 [l0, l1, l2, aI (x + 1)] d38_91 (by decide +kernel) rfl rfl
theorem d38_94 : decode (cod 38) 94 = .ok (.goto (-53), 3) := by decide +kernel
theorem r38_94 (l0 l1 l2 l3 : AV) (st : List AV) (M : Mm) : run 38 94 [l0, l1, l2, l3] st M = run 38 41 [l0, l1, l2, l3] st M := e_goto 41 d38_94 (by decide)
theorem d38_97 : decode (cod 38) 97 = .ok (.aload_n 0, 1) := by decide +kernel
theorem r38_97 (l1 l2 l3 : AV) (xg xi : Nat) (st : List AV) (M : Mm) : run 38 97 [aR xg 7 xi, l1, l2, l3] st M = run 38 98 [aR xg 7 xi, l1, l2, l3] (aR xg 7 xi :: st) M := e_aldn d38_97 rfl
theorem d38_98 : decode (cod 38) 98 = .ok (.getfield 10, 3) := by decide +kernel
theorem r38_98 (l0 l1 l2 l3 : AV) (xg xi : Nat) (st : List AV) (M : Mm) : run 38 98 [l0, l1, l2, l3] (aR xg 7 xi :: st) M = run 38 101 [l0, l1, l2, l3] (aR 1 0 0 :: st) M := e_gfr (fun g => (1, 0, 0)) d38_98 rfl rfl rfl
theorem d38_101 : decode (cod 38) 101 = .ok (.aload_n 0, 1) := by decide +kernel
theorem r38_101 (l1 l2 l3 : AV) (xg xi : Nat) (st : List AV) (M : Mm) : run 38 101 [aR xg 7 xi, l1, l2, l3] st M = run 38 102 [aR xg 7 xi, l1, l2, l3] (aR xg 7 xi :: st) M := e_aldn d38_101 rfl
theorem d38_102 : decode (cod 38) 102 = .ok (.getfield 16, 3) := by decide +kernel
theorem r38_102 (l0 l1 l2 l3 : AV) (xg xi : Nat) (st : List AV) (M : Mm) : run 38 102 [l0, l1, l2, l3] (aR xg 7 xi :: st) M = run 38 105 [l0, l1, l2, l3] (aR 2 0 0 :: st) M := e_gfr (fun g => (2, 0, 0)) d38_102 rfl rfl rfl
theorem d38_105 : decode (cod 38) 105 = .ok (.invokevirtual 59, 3) := by decide +kernel
theorem r38_105 (l0 l1 l2 l3 : AV) (a0g a0i : Nat) (a1g a1i : Nat) (M : Mm) : run 38 105 [l0, l1, l2, l3] [aR a1g 0 a1i, aR a0g 0 a0i] M = cbV (call 11 [aR a0g 0 a0i, aR a1g 0 a1i] M) (fun M => run 38 108 [l0, l1, l2, l3] [] M) := call_V (n := 2) rfl false d38_105 rfl rfl rfl rfl rfl rfl rfl
theorem d38_108 : decode (cod 38) 108 = .ok (.aload_n 0, 1) := by decide +kernel
theorem r38_108 (l1 l2 l3 : AV) (xg xi : Nat) (st : List AV) (M : Mm) : run 38 108 [aR xg 7 xi, l1, l2, l3] st M = run 38 109 [aR xg 7 xi, l1, l2, l3] (aR xg 7 xi :: st) M := e_aldn d38_108 rfl
theorem d38_109 : decode (cod 38) 109 = .ok (.getfield 29, 3) := by decide +kernel
theorem r38_109 (l0 l1 l2 l3 : AV) (xg xi : Nat) (st : List AV) (M : Mm) : run 38 109 [l0, l1, l2, l3] (aR xg 7 xi :: st) M = run 38 112 [l0, l1, l2, l3] (aR 0 8 0 :: st) M := e_gfr (fun g => (0, 8, 0)) d38_109 rfl rfl rfl
theorem d38_112 : decode (cod 38) 112 = .ok (.iconst 0, 1) := by decide +kernel
theorem r38_112 (l0 l1 l2 l3 : AV) (st : List AV) (M : Mm) : run 38 112 [l0, l1, l2, l3] st M = run 38 113 [l0, l1, l2, l3] (aI 0 :: st) M := e_iconst 0 d38_112 (by decide +kernel)
theorem d38_113 : decode (cod 38) 113 = .ok (.putfield 48, 3) := by decide +kernel
theorem r38_113 (l0 l1 l2 l3 : AV) (v : Int32) (xg xi : Nat) (st : List AV) (M : Mm) : run 38 113 [l0, l1, l2, l3] (aI v :: aR xg 8 xi :: st) M = run 38 116 [l0, l1, l2, l3] st (wr M xg 8 xi 1 v) := e_pfi d38_113 rfl rfl rfl rfl
theorem d38_116 : decode (cod 38) 116 = .ok (.iload_n 3, 1) := by decide +kernel
theorem r38_116 (l0 l1 l2 : AV) (x : Int32) (st : List AV) (M : Mm) : run 38 116 [l0, l1, l2, aI x] st M = run 38 117 [l0, l1, l2, aI x] (aI x :: st) M := e_ildn d38_116 rfl
theorem d38_117 : decode (cod 38) 117 = .ok (.ireturn, 1) := by decide +kernel
theorem r38_117 (l0 l1 l2 l3 : AV) (v : Int32) (M : Mm) : run 38 117 [l0, l1, l2, l3] [aI v] M = some (some v, M) := e_iret d38_117 rfl
theorem c39 (g0 i0 : Nat) (x1 : Int32) (x2 : Int32) (M : Mm) : call 39 [aR g0 7 i0, aI x1, aI x2] M = run 39 0 [aR g0 7 i0, aI x1, aI x2, none] [] M := call_run 39 _ _
theorem d39_0 : decode (cod 39) 0 = .ok (.aload_n 0, 1) := by decide +kernel
theorem r39_0 (l1 l2 l3 : AV) (xg xi : Nat) (st : List AV) (M : Mm) : run 39 0 [aR xg 7 xi, l1, l2, l3] st M = run 39 1 [aR xg 7 xi, l1, l2, l3] (aR xg 7 xi :: st) M := e_aldn d39_0 rfl
theorem d39_1 : decode (cod 39) 1 = .ok (.getfield 10, 3) := by decide +kernel
theorem r39_1 (l0 l1 l2 l3 : AV) (xg xi : Nat) (st : List AV) (M : Mm) : run 39 1 [l0, l1, l2, l3] (aR xg 7 xi :: st) M = run 39 4 [l0, l1, l2, l3] (aR 1 0 0 :: st) M := e_gfr (fun g => (1, 0, 0)) d39_1 rfl rfl rfl
theorem d39_4 : decode (cod 39) 4 = .ok (.iload_n 1, 1) := by decide +kernel
theorem r39_4 (l0 l2 l3 : AV) (x : Int32) (st : List AV) (M : Mm) : run 39 4 [l0, aI x, l2, l3] st M = run 39 5 [l0, aI x, l2, l3] (aI x :: st) M := e_ildn d39_4 rfl
theorem d39_5 : decode (cod 39) 5 = .ok (.invokevirtual 70, 3) := by decide +kernel
theorem r39_5 (l0 l1 l2 l3 : AV) (a0g a0i : Nat) (a1 : Int32) (M : Mm) : run 39 5 [l0, l1, l2, l3] [aI a1, aR a0g 0 a0i] M = cbI (call 12 [aR a0g 0 a0i, aI a1] M) (fun v M => run 39 8 [l0, l1, l2, l3] [aI v] M) := call_I (n := 2) rfl false d39_5 rfl rfl rfl rfl rfl rfl rfl
theorem d39_8 : decode (cod 39) 8 = .ok (.ifCond .ne 9, 3) := by decide +kernel
theorem r39_8 (l0 l1 l2 l3 : AV) (a : Int32) (st : List AV) (M : Mm) : run 39 8 [l0, l1, l2, l3] (aI a :: st) M = if a = 0 then run 39 11 [l0, l1, l2, l3] st M else run 39 17 [l0, l1, l2, l3] st M := e_ne1 17 d39_8 (by decide)
theorem d39_11 : decode (cod 39) 11 = .ok (.aload_n 0, 1) := by decide +kernel
theorem r39_11 (l1 l2 l3 : AV) (xg xi : Nat) (st : List AV) (M : Mm) : run 39 11 [aR xg 7 xi, l1, l2, l3] st M = run 39 12 [aR xg 7 xi, l1, l2, l3] (aR xg 7 xi :: st) M := e_aldn d39_11 rfl
theorem d39_12 : decode (cod 39) 12 = .ok (.iconst (-1), 1) := by decide +kernel
theorem r39_12 (l0 l1 l2 l3 : AV) (st : List AV) (M : Mm) : run 39 12 [l0, l1, l2, l3] st M = run 39 13 [l0, l1, l2, l3] (aI (-1) :: st) M := e_iconst (-1) d39_12 (by decide +kernel)
theorem d39_13 : decode (cod 39) 13 = .ok (.invokevirtual 44, 3) := by decide +kernel
theorem r39_13 (l0 l1 l2 l3 : AV) (a0g a0i : Nat) (a1 : Int32) (M : Mm) : run 39 13 [l0, l1, l2, l3] [aI a1, aR a0g 7 a0i] M = cbI (call 66 [aR a0g 7 a0i, aI a1] M) (fun v M => run 39 16 [l0, l1, l2, l3] [aI v] M) := call_I (n := 2) rfl false d39_13 rfl rfl rfl rfl rfl rfl rfl
theorem d39_16 : decode (cod 39) 16 = .ok (.ireturn, 1) := by decide +kernel
theorem r39_16 (l0 l1 l2 l3 : AV) (v : Int32) (M : Mm) : run 39 16 [l0, l1, l2, l3] [aI v] M = some (some v, M) := e_iret d39_16 rfl
theorem d39_17 : decode (cod 39) 17 = .ok (.aload_n 0, 1) := by decide +kernel
theorem r39_17 (l1 l2 l3 : AV) (xg xi : Nat) (st : List AV) (M : Mm) : run 39 17 [aR xg 7 xi, l1, l2, l3] st M = run 39 18 [aR xg 7 xi, l1, l2, l3] (aR xg 7 xi :: st) M := e_aldn d39_17 rfl
theorem d39_18 : decode (cod 39) 18 = .ok (.getfield 10, 3) := by decide +kernel
theorem r39_18 (l0 l1 l2 l3 : AV) (xg xi : Nat) (st : List AV) (M : Mm) : run 39 18 [l0, l1, l2, l3] (aR xg 7 xi :: st) M = run 39 21 [l0, l1, l2, l3] (aR 1 0 0 :: st) M := e_gfr (fun g => (1, 0, 0)) d39_18 rfl rfl rfl
theorem d39_21 : decode (cod 39) 21 = .ok (.getfield 73, 3) := by decide +kernel
theorem r39_21 (l0 l1 l2 l3 : AV) (xg xi : Nat) (st : List AV) (M : Mm) : run 39 21 [l0, l1, l2, l3] (aR xg 0 xi :: st) M = run 39 24 [l0, l1, l2, l3] (aR xg 1 0 :: st) M := e_gfr (fun g => (g, 1, 0)) d39_21 rfl rfl rfl
theorem d39_24 : decode (cod 39) 24 = .ok (.iload_n 1, 1) := by decide +kernel
theorem r39_24 (l0 l2 l3 : AV) (x : Int32) (st : List AV) (M : Mm) : run 39 24 [l0, aI x, l2, l3] st M = run 39 25 [l0, aI x, l2, l3] (aI x :: st) M := e_ildn d39_24 rfl
theorem d39_25 : decode (cod 39) 25 = .ok (.aaload, 1) := by decide +kernel
theorem r39_25 (l0 l1 l2 l3 : AV) (i : Int32) (xg xi : Nat) (st : List AV) (M : Mm) : run 39 25 [l0, l1, l2, l3] (aI i :: aR xg 1 xi :: st) M = if vpB i 4 = true then run 39 26 [l0, l1, l2, l3] (aR xg 2 i.toNatClampNeg :: st) M else none := e_aal1 d39_25
theorem d39_26 : decode (cod 39) 26 = .ok (.astore_n 3, 1) := by decide +kernel
theorem r39_26 (l0 l1 l2 l3 : AV) (xg xi : Nat) (st : List AV) (M : Mm) : run 39 26 [l0, l1, l2, l3] (aR xg 2 xi :: st) M = run 39 27 [l0, l1, l2, aR xg 2 xi] st M := e_astn [l0, l1, l2, aR xg 2 xi] d39_26 rfl rfl
theorem d39_27 : decode (cod 39) 27 = .ok (.iload_n 2, 1) := by decide +kernel
theorem r39_27 (l0 l1 l3 : AV) (x : Int32) (st : List AV) (M : Mm) : run 39 27 [l0, l1, aI x, l3] st M = run 39 28 [l0, l1, aI x, l3] (aI x :: st) M := e_ildn d39_27 rfl
theorem d39_28 : decode (cod 39) 28 = .ok (.tableswitch 77 0 5 #[40, 45, 50, 55, 60, 72], 40) := by decide +kernel
theorem r39_28 (l0 l1 l2 l3 : AV) (x : Int32) (st : List AV) (M : Mm) : run 39 28 [l0, l1, l2, l3] (aI x :: st) M = if x = 0 then run 39 68 [l0, l1, l2, l3] st M else if x = 1 then run 39 73 [l0, l1, l2, l3] st M else if x = 2 then run 39 78 [l0, l1, l2, l3] st M else if x = 3 then run 39 83 [l0, l1, l2, l3] st M else if x = 4 then run 39 88 [l0, l1, l2, l3] st M else if x = 5 then run 39 100 [l0, l1, l2, l3] st M else run 39 105 [l0, l1, l2, l3] st M := by
  rw [run_step d39_28 rfl]
  simp only [stpI, tsw]
  by_cases c0 : x = 0
  · subst c0
    rw [if_pos rfl]
    rfl
  rw [if_neg c0]
  by_cases c1 : x = 1
  · subst c1
    rw [if_pos rfl]
    rfl
  rw [if_neg c1]
  by_cases c2 : x = 2
  · subst c2
    rw [if_pos rfl]
    rfl
  rw [if_neg c2]
  by_cases c3 : x = 3
  · subst c3
    rw [if_pos rfl]
    rfl
  rw [if_neg c3]
  by_cases c4 : x = 4
  · subst c4
    rw [if_pos rfl]
    rfl
  rw [if_neg c4]
  by_cases c5 : x = 5
  · subst c5
    rw [if_pos rfl]
    rfl
  rw [if_neg c5]
  have hx : x.toInt < 0 ∨ 5 < x.toInt := by
    have h : ∀ k : Int, ¬ x = Int32.ofInt k → -2147483648 ≤ k → k < 2147483648 → ¬ x.toInt = k := fun k hk hl hh e => hk (Int32.toInt_inj.mp (by rw [e, Int32.toInt_ofInt_of_le hl hh]))
    have fc0 := h 0 c0 (by decide) (by decide)
    have fc1 := h 1 c1 (by decide) (by decide)
    have fc2 := h 2 c2 (by decide) (by decide)
    have fc3 := h 3 c3 (by decide) (by decide)
    have fc4 := h 4 c4 (by decide) (by decide)
    have fc5 := h 5 c5 (by decide) (by decide)
    omega
  rw [if_pos hx, jmp_run 105 (by decide)]
  rfl
theorem d39_68 : decode (cod 39) 68 = .ok (.aload_n 3, 1) := by decide +kernel
theorem r39_68 (l0 l1 l2 : AV) (xg xi : Nat) (st : List AV) (M : Mm) : run 39 68 [l0, l1, l2, aR xg 2 xi] st M = run 39 69 [l0, l1, l2, aR xg 2 xi] (aR xg 2 xi :: st) M := e_aldn d39_68 rfl
theorem d39_69 : decode (cod 39) 69 = .ok (.getfield 77, 3) := by decide +kernel
theorem r39_69 (l0 l1 l2 l3 : AV) (xg xi : Nat) (st : List AV) (M : Mm) : run 39 69 [l0, l1, l2, l3] (aR xg 2 xi :: st) M = run 39 72 [l0, l1, l2, l3] (aI (M xg 2 xi 0) :: st) M := e_gfi d39_69 rfl rfl rfl
theorem d39_72 : decode (cod 39) 72 = .ok (.ireturn, 1) := by decide +kernel
theorem r39_72 (l0 l1 l2 l3 : AV) (v : Int32) (M : Mm) : run 39 72 [l0, l1, l2, l3] [aI v] M = some (some v, M) := e_iret d39_72 rfl
theorem d39_73 : decode (cod 39) 73 = .ok (.aload_n 3, 1) := by decide +kernel
theorem r39_73 (l0 l1 l2 : AV) (xg xi : Nat) (st : List AV) (M : Mm) : run 39 73 [l0, l1, l2, aR xg 2 xi] st M = run 39 74 [l0, l1, l2, aR xg 2 xi] (aR xg 2 xi :: st) M := e_aldn d39_73 rfl
theorem d39_74 : decode (cod 39) 74 = .ok (.getfield 82, 3) := by decide +kernel
theorem r39_74 (l0 l1 l2 l3 : AV) (xg xi : Nat) (st : List AV) (M : Mm) : run 39 74 [l0, l1, l2, l3] (aR xg 2 xi :: st) M = run 39 77 [l0, l1, l2, l3] (aI (M xg 2 xi 1) :: st) M := e_gfi d39_74 rfl rfl rfl
theorem d39_77 : decode (cod 39) 77 = .ok (.ireturn, 1) := by decide +kernel
theorem r39_77 (l0 l1 l2 l3 : AV) (v : Int32) (M : Mm) : run 39 77 [l0, l1, l2, l3] [aI v] M = some (some v, M) := e_iret d39_77 rfl
theorem d39_78 : decode (cod 39) 78 = .ok (.aload_n 3, 1) := by decide +kernel
theorem r39_78 (l0 l1 l2 : AV) (xg xi : Nat) (st : List AV) (M : Mm) : run 39 78 [l0, l1, l2, aR xg 2 xi] st M = run 39 79 [l0, l1, l2, aR xg 2 xi] (aR xg 2 xi :: st) M := e_aldn d39_78 rfl
theorem d39_79 : decode (cod 39) 79 = .ok (.getfield 85, 3) := by decide +kernel
theorem r39_79 (l0 l1 l2 l3 : AV) (xg xi : Nat) (st : List AV) (M : Mm) : run 39 79 [l0, l1, l2, l3] (aR xg 2 xi :: st) M = run 39 82 [l0, l1, l2, l3] (aI (M xg 2 xi 4) :: st) M := e_gfi d39_79 rfl rfl rfl
theorem d39_82 : decode (cod 39) 82 = .ok (.ireturn, 1) := by decide +kernel
theorem r39_82 (l0 l1 l2 l3 : AV) (v : Int32) (M : Mm) : run 39 82 [l0, l1, l2, l3] [aI v] M = some (some v, M) := e_iret d39_82 rfl
theorem d39_83 : decode (cod 39) 83 = .ok (.aload_n 3, 1) := by decide +kernel
theorem r39_83 (l0 l1 l2 : AV) (xg xi : Nat) (st : List AV) (M : Mm) : run 39 83 [l0, l1, l2, aR xg 2 xi] st M = run 39 84 [l0, l1, l2, aR xg 2 xi] (aR xg 2 xi :: st) M := e_aldn d39_83 rfl
theorem d39_84 : decode (cod 39) 84 = .ok (.getfield 88, 3) := by decide +kernel
theorem r39_84 (l0 l1 l2 l3 : AV) (xg xi : Nat) (st : List AV) (M : Mm) : run 39 84 [l0, l1, l2, l3] (aR xg 2 xi :: st) M = run 39 87 [l0, l1, l2, l3] (aI (M xg 2 xi 5) :: st) M := e_gfi d39_84 rfl rfl rfl
theorem d39_87 : decode (cod 39) 87 = .ok (.ireturn, 1) := by decide +kernel
theorem r39_87 (l0 l1 l2 l3 : AV) (v : Int32) (M : Mm) : run 39 87 [l0, l1, l2, l3] [aI v] M = some (some v, M) := e_iret d39_87 rfl
theorem d39_88 : decode (cod 39) 88 = .ok (.aload_n 3, 1) := by decide +kernel
theorem r39_88 (l0 l1 l2 : AV) (xg xi : Nat) (st : List AV) (M : Mm) : run 39 88 [l0, l1, l2, aR xg 2 xi] st M = run 39 89 [l0, l1, l2, aR xg 2 xi] (aR xg 2 xi :: st) M := e_aldn d39_88 rfl
theorem d39_89 : decode (cod 39) 89 = .ok (.aload_n 0, 1) := by decide +kernel
theorem r39_89 (l1 l2 l3 : AV) (xg xi : Nat) (st : List AV) (M : Mm) : run 39 89 [aR xg 7 xi, l1, l2, l3] st M = run 39 90 [aR xg 7 xi, l1, l2, l3] (aR xg 7 xi :: st) M := e_aldn d39_89 rfl
theorem d39_90 : decode (cod 39) 90 = .ok (.getfield 10, 3) := by decide +kernel
theorem r39_90 (l0 l1 l2 l3 : AV) (xg xi : Nat) (st : List AV) (M : Mm) : run 39 90 [l0, l1, l2, l3] (aR xg 7 xi :: st) M = run 39 93 [l0, l1, l2, l3] (aR 1 0 0 :: st) M := e_gfr (fun g => (1, 0, 0)) d39_90 rfl rfl rfl
theorem d39_93 : decode (cod 39) 93 = .ok (.getfield 91, 3) := by decide +kernel
theorem r39_93 (l0 l1 l2 l3 : AV) (xg xi : Nat) (st : List AV) (M : Mm) : run 39 93 [l0, l1, l2, l3] (aR xg 0 xi :: st) M = run 39 96 [l0, l1, l2, l3] (aI (M xg 0 xi 10) :: st) M := e_gfi d39_93 rfl rfl rfl
theorem d39_96 : decode (cod 39) 96 = .ok (.invokevirtual 94, 3) := by decide +kernel
theorem r39_96 (l0 l1 l2 l3 : AV) (a0g a0i : Nat) (a1 : Int32) (M : Mm) : run 39 96 [l0, l1, l2, l3] [aI a1, aR a0g 2 a0i] M = cbI (call 3 [aR a0g 2 a0i, aI a1] M) (fun v M => run 39 99 [l0, l1, l2, l3] [aI v] M) := call_I (n := 2) rfl false d39_96 rfl rfl rfl rfl rfl rfl rfl
theorem d39_99 : decode (cod 39) 99 = .ok (.ireturn, 1) := by decide +kernel
theorem r39_99 (l0 l1 l2 l3 : AV) (v : Int32) (M : Mm) : run 39 99 [l0, l1, l2, l3] [aI v] M = some (some v, M) := e_iret d39_99 rfl
theorem d39_100 : decode (cod 39) 100 = .ok (.aload_n 3, 1) := by decide +kernel
theorem r39_100 (l0 l1 l2 : AV) (xg xi : Nat) (st : List AV) (M : Mm) : run 39 100 [l0, l1, l2, aR xg 2 xi] st M = run 39 101 [l0, l1, l2, aR xg 2 xi] (aR xg 2 xi :: st) M := e_aldn d39_100 rfl
theorem d39_101 : decode (cod 39) 101 = .ok (.getfield 97, 3) := by decide +kernel
theorem r39_101 (l0 l1 l2 l3 : AV) (xg xi : Nat) (st : List AV) (M : Mm) : run 39 101 [l0, l1, l2, l3] (aR xg 2 xi :: st) M = run 39 104 [l0, l1, l2, l3] (aI (M xg 2 xi 3) :: st) M := e_gfi d39_101 rfl rfl rfl
theorem d39_104 : decode (cod 39) 104 = .ok (.ireturn, 1) := by decide +kernel
theorem r39_104 (l0 l1 l2 l3 : AV) (v : Int32) (M : Mm) : run 39 104 [l0, l1, l2, l3] [aI v] M = some (some v, M) := e_iret d39_104 rfl
theorem d39_105 : decode (cod 39) 105 = .ok (.aload_n 0, 1) := by decide +kernel
theorem r39_105 (l1 l2 l3 : AV) (xg xi : Nat) (st : List AV) (M : Mm) : run 39 105 [aR xg 7 xi, l1, l2, l3] st M = run 39 106 [aR xg 7 xi, l1, l2, l3] (aR xg 7 xi :: st) M := e_aldn d39_105 rfl
theorem d39_106 : decode (cod 39) 106 = .ok (.bipush (-2), 2) := by decide +kernel
theorem r39_106 (l0 l1 l2 l3 : AV) (st : List AV) (M : Mm) : run 39 106 [l0, l1, l2, l3] st M = run 39 108 [l0, l1, l2, l3] (aI (-2) :: st) M := e_bipush (-2) d39_106 (by decide +kernel)
theorem d39_108 : decode (cod 39) 108 = .ok (.invokevirtual 44, 3) := by decide +kernel
theorem r39_108 (l0 l1 l2 l3 : AV) (a0g a0i : Nat) (a1 : Int32) (M : Mm) : run 39 108 [l0, l1, l2, l3] [aI a1, aR a0g 7 a0i] M = cbI (call 66 [aR a0g 7 a0i, aI a1] M) (fun v M => run 39 111 [l0, l1, l2, l3] [aI v] M) := call_I (n := 2) rfl false d39_108 rfl rfl rfl rfl rfl rfl rfl
theorem d39_111 : decode (cod 39) 111 = .ok (.ireturn, 1) := by decide +kernel
theorem r39_111 (l0 l1 l2 l3 : AV) (v : Int32) (M : Mm) : run 39 111 [l0, l1, l2, l3] [aI v] M = some (some v, M) := e_iret d39_111 rfl
theorem c40 (g0 i0 : Nat) (x1 : Int32) (x2 : Int32) (x3 : Int32) (M : Mm) : call 40 [aR g0 7 i0, aI x1, aI x2, aI x3] M = run 40 0 [aR g0 7 i0, aI x1, aI x2, aI x3, none, none, none] [] M := call_run 40 _ _
theorem d40_0 : decode (cod 40) 0 = .ok (.aload_n 0, 1) := by decide +kernel
theorem r40_0 (l1 l2 l3 l4 l5 l6 : AV) (xg xi : Nat) (st : List AV) (M : Mm) : run 40 0 [aR xg 7 xi, l1, l2, l3, l4, l5, l6] st M = run 40 1 [aR xg 7 xi, l1, l2, l3, l4, l5, l6] (aR xg 7 xi :: st) M := e_aldn d40_0 rfl
theorem d40_1 : decode (cod 40) 1 = .ok (.getfield 10, 3) := by decide +kernel
theorem r40_1 (l0 l1 l2 l3 l4 l5 l6 : AV) (xg xi : Nat) (st : List AV) (M : Mm) : run 40 1 [l0, l1, l2, l3, l4, l5, l6] (aR xg 7 xi :: st) M = run 40 4 [l0, l1, l2, l3, l4, l5, l6] (aR 1 0 0 :: st) M := e_gfr (fun g => (1, 0, 0)) d40_1 rfl rfl rfl
theorem d40_4 : decode (cod 40) 4 = .ok (.iload_n 1, 1) := by decide +kernel
theorem r40_4 (l0 l2 l3 l4 l5 l6 : AV) (x : Int32) (st : List AV) (M : Mm) : run 40 4 [l0, aI x, l2, l3, l4, l5, l6] st M = run 40 5 [l0, aI x, l2, l3, l4, l5, l6] (aI x :: st) M := e_ildn d40_4 rfl
theorem d40_5 : decode (cod 40) 5 = .ok (.invokevirtual 70, 3) := by decide +kernel
theorem r40_5 (l0 l1 l2 l3 l4 l5 l6 : AV) (a0g a0i : Nat) (a1 : Int32) (M : Mm) : run 40 5 [l0, l1, l2, l3, l4, l5, l6] [aI a1, aR a0g 0 a0i] M = cbI (call 12 [aR a0g 0 a0i, aI a1] M) (fun v M => run 40 8 [l0, l1, l2, l3, l4, l5, l6] [aI v] M) := call_I (n := 2) rfl false d40_5 rfl rfl rfl rfl rfl rfl rfl
theorem d40_8 : decode (cod 40) 8 = .ok (.ifCond .ne 9, 3) := by decide +kernel
theorem r40_8 (l0 l1 l2 l3 l4 l5 l6 : AV) (a : Int32) (st : List AV) (M : Mm) : run 40 8 [l0, l1, l2, l3, l4, l5, l6] (aI a :: st) M = if a = 0 then run 40 11 [l0, l1, l2, l3, l4, l5, l6] st M else run 40 17 [l0, l1, l2, l3, l4, l5, l6] st M := e_ne1 17 d40_8 (by decide)
theorem d40_11 : decode (cod 40) 11 = .ok (.aload_n 0, 1) := by decide +kernel
theorem r40_11 (l1 l2 l3 l4 l5 l6 : AV) (xg xi : Nat) (st : List AV) (M : Mm) : run 40 11 [aR xg 7 xi, l1, l2, l3, l4, l5, l6] st M = run 40 12 [aR xg 7 xi, l1, l2, l3, l4, l5, l6] (aR xg 7 xi :: st) M := e_aldn d40_11 rfl
theorem d40_12 : decode (cod 40) 12 = .ok (.iconst (-1), 1) := by decide +kernel
theorem r40_12 (l0 l1 l2 l3 l4 l5 l6 : AV) (st : List AV) (M : Mm) : run 40 12 [l0, l1, l2, l3, l4, l5, l6] st M = run 40 13 [l0, l1, l2, l3, l4, l5, l6] (aI (-1) :: st) M := e_iconst (-1) d40_12 (by decide +kernel)
theorem d40_13 : decode (cod 40) 13 = .ok (.invokevirtual 44, 3) := by decide +kernel
theorem r40_13 (l0 l1 l2 l3 l4 l5 l6 : AV) (a0g a0i : Nat) (a1 : Int32) (M : Mm) : run 40 13 [l0, l1, l2, l3, l4, l5, l6] [aI a1, aR a0g 7 a0i] M = cbI (call 66 [aR a0g 7 a0i, aI a1] M) (fun v M => run 40 16 [l0, l1, l2, l3, l4, l5, l6] [aI v] M) := call_I (n := 2) rfl false d40_13 rfl rfl rfl rfl rfl rfl rfl
theorem d40_16 : decode (cod 40) 16 = .ok (.ireturn, 1) := by decide +kernel
theorem r40_16 (l0 l1 l2 l3 l4 l5 l6 : AV) (v : Int32) (M : Mm) : run 40 16 [l0, l1, l2, l3, l4, l5, l6] [aI v] M = some (some v, M) := e_iret d40_16 rfl
theorem d40_17 : decode (cod 40) 17 = .ok (.iload_n 2, 1) := by decide +kernel
theorem r40_17 (l0 l1 l3 l4 l5 l6 : AV) (x : Int32) (st : List AV) (M : Mm) : run 40 17 [l0, l1, aI x, l3, l4, l5, l6] st M = run 40 18 [l0, l1, aI x, l3, l4, l5, l6] (aI x :: st) M := e_ildn d40_17 rfl
theorem d40_18 : decode (cod 40) 18 = .ok (.ifCond .lt 8, 3) := by decide +kernel
theorem r40_18 (l0 l1 l2 l3 l4 l5 l6 : AV) (a : Int32) (st : List AV) (M : Mm) : run 40 18 [l0, l1, l2, l3, l4, l5, l6] (aI a :: st) M = if a < 0 then run 40 26 [l0, l1, l2, l3, l4, l5, l6] st M else run 40 21 [l0, l1, l2, l3, l4, l5, l6] st M := e_lt1 26 d40_18 (by decide)
theorem d40_21 : decode (cod 40) 21 = .ok (.iload_n 2, 1) := by decide +kernel
theorem r40_21 (l0 l1 l3 l4 l5 l6 : AV) (x : Int32) (st : List AV) (M : Mm) : run 40 21 [l0, l1, aI x, l3, l4, l5, l6] st M = run 40 22 [l0, l1, aI x, l3, l4, l5, l6] (aI x :: st) M := e_ildn d40_21 rfl
theorem d40_22 : decode (cod 40) 22 = .ok (.iconst 1, 1) := by decide +kernel
theorem r40_22 (l0 l1 l2 l3 l4 l5 l6 : AV) (st : List AV) (M : Mm) : run 40 22 [l0, l1, l2, l3, l4, l5, l6] st M = run 40 23 [l0, l1, l2, l3, l4, l5, l6] (aI 1 :: st) M := e_iconst 1 d40_22 (by decide +kernel)
theorem d40_23 : decode (cod 40) 23 = .ok (.if_icmp .le 10, 3) := by decide +kernel
theorem r40_23 (l0 l1 l2 l3 l4 l5 l6 : AV) (a b : Int32) (st : List AV) (M : Mm) : run 40 23 [l0, l1, l2, l3, l4, l5, l6] (aI b :: aI a :: st) M = if b < a then run 40 26 [l0, l1, l2, l3, l4, l5, l6] st M else run 40 33 [l0, l1, l2, l3, l4, l5, l6] st M := e_le2 33 d40_23 (by decide)
theorem d40_26 : decode (cod 40) 26 = .ok (.aload_n 0, 1) := by decide +kernel
theorem r40_26 (l1 l2 l3 l4 l5 l6 : AV) (xg xi : Nat) (st : List AV) (M : Mm) : run 40 26 [aR xg 7 xi, l1, l2, l3, l4, l5, l6] st M = run 40 27 [aR xg 7 xi, l1, l2, l3, l4, l5, l6] (aR xg 7 xi :: st) M := e_aldn d40_26 rfl
theorem d40_27 : decode (cod 40) 27 = .ok (.bipush (-2), 2) := by decide +kernel
theorem r40_27 (l0 l1 l2 l3 l4 l5 l6 : AV) (st : List AV) (M : Mm) : run 40 27 [l0, l1, l2, l3, l4, l5, l6] st M = run 40 29 [l0, l1, l2, l3, l4, l5, l6] (aI (-2) :: st) M := e_bipush (-2) d40_27 (by decide +kernel)
theorem d40_29 : decode (cod 40) 29 = .ok (.invokevirtual 44, 3) := by decide +kernel
theorem r40_29 (l0 l1 l2 l3 l4 l5 l6 : AV) (a0g a0i : Nat) (a1 : Int32) (M : Mm) : run 40 29 [l0, l1, l2, l3, l4, l5, l6] [aI a1, aR a0g 7 a0i] M = cbI (call 66 [aR a0g 7 a0i, aI a1] M) (fun v M => run 40 32 [l0, l1, l2, l3, l4, l5, l6] [aI v] M) := call_I (n := 2) rfl false d40_29 rfl rfl rfl rfl rfl rfl rfl
theorem d40_32 : decode (cod 40) 32 = .ok (.ireturn, 1) := by decide +kernel
theorem r40_32 (l0 l1 l2 l3 l4 l5 l6 : AV) (v : Int32) (M : Mm) : run 40 32 [l0, l1, l2, l3, l4, l5, l6] [aI v] M = some (some v, M) := e_iret d40_32 rfl
theorem d40_33 : decode (cod 40) 33 = .ok (.iload_n 3, 1) := by decide +kernel
theorem r40_33 (l0 l1 l2 l4 l5 l6 : AV) (x : Int32) (st : List AV) (M : Mm) : run 40 33 [l0, l1, l2, aI x, l4, l5, l6] st M = run 40 34 [l0, l1, l2, aI x, l4, l5, l6] (aI x :: st) M := e_ildn d40_33 rfl
theorem d40_34 : decode (cod 40) 34 = .ok (.iconst 0, 1) := by decide +kernel
theorem r40_34 (l0 l1 l2 l3 l4 l5 l6 : AV) (st : List AV) (M : Mm) : run 40 34 [l0, l1, l2, l3, l4, l5, l6] st M = run 40 35 [l0, l1, l2, l3, l4, l5, l6] (aI 0 :: st) M := e_iconst 0 d40_34 (by decide +kernel)
theorem d40_35 : decode (cod 40) 35 = .ok (.iload_n 2, 1) := by decide +kernel
theorem r40_35 (l0 l1 l3 l4 l5 l6 : AV) (x : Int32) (st : List AV) (M : Mm) : run 40 35 [l0, l1, aI x, l3, l4, l5, l6] st M = run 40 36 [l0, l1, aI x, l3, l4, l5, l6] (aI x :: st) M := e_ildn d40_35 rfl
theorem d40_36 : decode (cod 40) 36 = .ok (.ifCond .ne 8, 3) := by decide +kernel
theorem r40_36 (l0 l1 l2 l3 l4 l5 l6 : AV) (a : Int32) (st : List AV) (M : Mm) : run 40 36 [l0, l1, l2, l3, l4, l5, l6] (aI a :: st) M = if a = 0 then run 40 39 [l0, l1, l2, l3, l4, l5, l6] st M else run 40 44 [l0, l1, l2, l3, l4, l5, l6] st M := e_ne1 44 d40_36 (by decide)
theorem d40_39 : decode (cod 40) 39 = .ok (.bipush 60, 2) := by decide +kernel
theorem r40_39 (l0 l1 l2 l3 l4 l5 l6 : AV) (st : List AV) (M : Mm) : run 40 39 [l0, l1, l2, l3, l4, l5, l6] st M = run 40 41 [l0, l1, l2, l3, l4, l5, l6] (aI 60 :: st) M := e_bipush 60 d40_39 (by decide +kernel)
theorem d40_41 : decode (cod 40) 41 = .ok (.goto 6, 3) := by decide +kernel
theorem r40_41 (l0 l1 l2 l3 l4 l5 l6 : AV) (st : List AV) (M : Mm) : run 40 41 [l0, l1, l2, l3, l4, l5, l6] st M = run 40 47 [l0, l1, l2, l3, l4, l5, l6] st M := e_goto 47 d40_41 (by decide)
theorem d40_44 : decode (cod 40) 44 = .ok (.sipush 240, 3) := by decide +kernel
theorem r40_44 (l0 l1 l2 l3 l4 l5 l6 : AV) (st : List AV) (M : Mm) : run 40 44 [l0, l1, l2, l3, l4, l5, l6] st M = run 40 47 [l0, l1, l2, l3, l4, l5, l6] (aI 240 :: st) M := e_sipush 240 d40_44 (by decide +kernel)
theorem d40_47 : decode (cod 40) 47 = .ok (.invokestatic 100, 3) := by decide +kernel
theorem r40_47 (l0 l1 l2 l3 l4 l5 l6 : AV) (a0 : Int32) (a1 : Int32) (a2 : Int32) (M : Mm) : run 40 47 [l0, l1, l2, l3, l4, l5, l6] [aI a2, aI a1, aI a0] M = cbI (call 67 [aI a0, aI a1, aI a2] M) (fun v M => run 40 50 [l0, l1, l2, l3, l4, l5, l6] [aI v] M) := call_I (n := 3) rfl true d40_47 rfl rfl rfl rfl rfl rfl rfl
theorem d40_50 : decode (cod 40) 50 = .ok (.istore 4, 2) := by decide +kernel
theorem r40_50 (l0 l1 l2 l3 l4 l5 l6 : AV) (x : Int32) (st : List AV) (M : Mm) : run 40 50 [l0, l1, l2, l3, l4, l5, l6] (aI x :: st) M = run 40 52 [l0, l1, l2, l3, aI x, l5, l6] st M := e_ist [l0, l1, l2, l3, aI x, l5, l6] d40_50 rfl rfl
theorem d40_52 : decode (cod 40) 52 = .ok (.iload 4, 2) := by decide +kernel
theorem r40_52 (l0 l1 l2 l3 l5 l6 : AV) (x : Int32) (st : List AV) (M : Mm) : run 40 52 [l0, l1, l2, l3, aI x, l5, l6] st M = run 40 54 [l0, l1, l2, l3, aI x, l5, l6] (aI x :: st) M := e_ild d40_52 rfl
theorem d40_54 : decode (cod 40) 54 = .ok (.ifCond .eq 10, 3) := by decide +kernel
theorem r40_54 (l0 l1 l2 l3 l4 l5 l6 : AV) (a : Int32) (st : List AV) (M : Mm) : run 40 54 [l0, l1, l2, l3, l4, l5, l6] (aI a :: st) M = if a = 0 then run 40 64 [l0, l1, l2, l3, l4, l5, l6] st M else run 40 57 [l0, l1, l2, l3, l4, l5, l6] st M := e_eq1 64 d40_54 (by decide)
theorem d40_57 : decode (cod 40) 57 = .ok (.aload_n 0, 1) := by decide +kernel
theorem r40_57 (l1 l2 l3 l4 l5 l6 : AV) (xg xi : Nat) (st : List AV) (M : Mm) : run 40 57 [aR xg 7 xi, l1, l2, l3, l4, l5, l6] st M = run 40 58 [aR xg 7 xi, l1, l2, l3, l4, l5, l6] (aR xg 7 xi :: st) M := e_aldn d40_57 rfl
theorem d40_58 : decode (cod 40) 58 = .ok (.iload 4, 2) := by decide +kernel
theorem r40_58 (l0 l1 l2 l3 l5 l6 : AV) (x : Int32) (st : List AV) (M : Mm) : run 40 58 [l0, l1, l2, l3, aI x, l5, l6] st M = run 40 60 [l0, l1, l2, l3, aI x, l5, l6] (aI x :: st) M := e_ild d40_58 rfl
theorem d40_60 : decode (cod 40) 60 = .ok (.invokevirtual 44, 3) := by decide +kernel
theorem r40_60 (l0 l1 l2 l3 l4 l5 l6 : AV) (a0g a0i : Nat) (a1 : Int32) (M : Mm) : run 40 60 [l0, l1, l2, l3, l4, l5, l6] [aI a1, aR a0g 7 a0i] M = cbI (call 66 [aR a0g 7 a0i, aI a1] M) (fun v M => run 40 63 [l0, l1, l2, l3, l4, l5, l6] [aI v] M) := call_I (n := 2) rfl false d40_60 rfl rfl rfl rfl rfl rfl rfl
theorem d40_63 : decode (cod 40) 63 = .ok (.ireturn, 1) := by decide +kernel
theorem r40_63 (l0 l1 l2 l3 l4 l5 l6 : AV) (v : Int32) (M : Mm) : run 40 63 [l0, l1, l2, l3, l4, l5, l6] [aI v] M = some (some v, M) := e_iret d40_63 rfl
theorem d40_64 : decode (cod 40) 64 = .ok (.aload_n 0, 1) := by decide +kernel
theorem r40_64 (l1 l2 l3 l4 l5 l6 : AV) (xg xi : Nat) (st : List AV) (M : Mm) : run 40 64 [aR xg 7 xi, l1, l2, l3, l4, l5, l6] st M = run 40 65 [aR xg 7 xi, l1, l2, l3, l4, l5, l6] (aR xg 7 xi :: st) M := e_aldn d40_64 rfl
theorem d40_65 : decode (cod 40) 65 = .ok (.getfield 10, 3) := by decide +kernel
theorem r40_65 (l0 l1 l2 l3 l4 l5 l6 : AV) (xg xi : Nat) (st : List AV) (M : Mm) : run 40 65 [l0, l1, l2, l3, l4, l5, l6] (aR xg 7 xi :: st) M = run 40 68 [l0, l1, l2, l3, l4, l5, l6] (aR 1 0 0 :: st) M := e_gfr (fun g => (1, 0, 0)) d40_65 rfl rfl rfl
theorem d40_68 : decode (cod 40) 68 = .ok (.getfield 73, 3) := by decide +kernel
theorem r40_68 (l0 l1 l2 l3 l4 l5 l6 : AV) (xg xi : Nat) (st : List AV) (M : Mm) : run 40 68 [l0, l1, l2, l3, l4, l5, l6] (aR xg 0 xi :: st) M = run 40 71 [l0, l1, l2, l3, l4, l5, l6] (aR xg 1 0 :: st) M := e_gfr (fun g => (g, 1, 0)) d40_68 rfl rfl rfl
theorem d40_71 : decode (cod 40) 71 = .ok (.iload_n 1, 1) := by decide +kernel
theorem r40_71 (l0 l2 l3 l4 l5 l6 : AV) (x : Int32) (st : List AV) (M : Mm) : run 40 71 [l0, aI x, l2, l3, l4, l5, l6] st M = run 40 72 [l0, aI x, l2, l3, l4, l5, l6] (aI x :: st) M := e_ildn d40_71 rfl
theorem d40_72 : decode (cod 40) 72 = .ok (.aaload, 1) := by decide +kernel
theorem r40_72 (l0 l1 l2 l3 l4 l5 l6 : AV) (i : Int32) (xg xi : Nat) (st : List AV) (M : Mm) : run 40 72 [l0, l1, l2, l3, l4, l5, l6] (aI i :: aR xg 1 xi :: st) M = if vpB i 4 = true then run 40 73 [l0, l1, l2, l3, l4, l5, l6] (aR xg 2 i.toNatClampNeg :: st) M else none := e_aal1 d40_72
theorem d40_73 : decode (cod 40) 73 = .ok (.astore 5, 2) := by decide +kernel
theorem r40_73 (l0 l1 l2 l3 l4 l5 l6 : AV) (xg xi : Nat) (st : List AV) (M : Mm) : run 40 73 [l0, l1, l2, l3, l4, l5, l6] (aR xg 2 xi :: st) M = run 40 75 [l0, l1, l2, l3, l4, aR xg 2 xi, l6] st M := e_ast [l0, l1, l2, l3, l4, aR xg 2 xi, l6] d40_73 rfl rfl
theorem d40_75 : decode (cod 40) 75 = .ok (.iload_n 2, 1) := by decide +kernel
theorem r40_75 (l0 l1 l3 l4 l5 l6 : AV) (x : Int32) (st : List AV) (M : Mm) : run 40 75 [l0, l1, aI x, l3, l4, l5, l6] st M = run 40 76 [l0, l1, aI x, l3, l4, l5, l6] (aI x :: st) M := e_ildn d40_75 rfl
theorem d40_76 : decode (cod 40) 76 = .ok (.ifCond .ne 11, 3) := by decide +kernel
theorem r40_76 (l0 l1 l2 l3 l4 l5 l6 : AV) (a : Int32) (st : List AV) (M : Mm) : run 40 76 [l0, l1, l2, l3, l4, l5, l6] (aI a :: st) M = if a = 0 then run 40 79 [l0, l1, l2, l3, l4, l5, l6] st M else run 40 87 [l0, l1, l2, l3, l4, l5, l6] st M := e_ne1 87 d40_76 (by decide)
theorem d40_79 : decode (cod 40) 79 = .ok (.aload 5, 2) := by decide +kernel
theorem r40_79 (l0 l1 l2 l3 l4 l6 : AV) (xg xi : Nat) (st : List AV) (M : Mm) : run 40 79 [l0, l1, l2, l3, l4, aR xg 2 xi, l6] st M = run 40 81 [l0, l1, l2, l3, l4, aR xg 2 xi, l6] (aR xg 2 xi :: st) M := e_ald d40_79 rfl
theorem d40_81 : decode (cod 40) 81 = .ok (.getfield 85, 3) := by decide +kernel
theorem r40_81 (l0 l1 l2 l3 l4 l5 l6 : AV) (xg xi : Nat) (st : List AV) (M : Mm) : run 40 81 [l0, l1, l2, l3, l4, l5, l6] (aR xg 2 xi :: st) M = run 40 84 [l0, l1, l2, l3, l4, l5, l6] (aI (M xg 2 xi 4) :: st) M := e_gfi d40_81 rfl rfl rfl
theorem d40_84 : decode (cod 40) 84 = .ok (.goto 8, 3) := by decide +kernel
theorem r40_84 (l0 l1 l2 l3 l4 l5 l6 : AV) (st : List AV) (M : Mm) : run 40 84 [l0, l1, l2, l3, l4, l5, l6] st M = run 40 92 [l0, l1, l2, l3, l4, l5, l6] st M := e_goto 92 d40_84 (by decide)
theorem d40_87 : decode (cod 40) 87 = .ok (.aload 5, 2) := by decide +kernel
theorem r40_87 (l0 l1 l2 l3 l4 l6 : AV) (xg xi : Nat) (st : List AV) (M : Mm) : run 40 87 [l0, l1, l2, l3, l4, aR xg 2 xi, l6] st M = run 40 89 [l0, l1, l2, l3, l4, aR xg 2 xi, l6] (aR xg 2 xi :: st) M := e_ald d40_87 rfl
theorem d40_89 : decode (cod 40) 89 = .ok (.getfield 88, 3) := by decide +kernel
theorem r40_89 (l0 l1 l2 l3 l4 l5 l6 : AV) (xg xi : Nat) (st : List AV) (M : Mm) : run 40 89 [l0, l1, l2, l3, l4, l5, l6] (aR xg 2 xi :: st) M = run 40 92 [l0, l1, l2, l3, l4, l5, l6] (aI (M xg 2 xi 5) :: st) M := e_gfi d40_89 rfl rfl rfl
theorem d40_92 : decode (cod 40) 92 = .ok (.istore 6, 2) := by decide +kernel
theorem r40_92 (l0 l1 l2 l3 l4 l5 l6 : AV) (x : Int32) (st : List AV) (M : Mm) : run 40 92 [l0, l1, l2, l3, l4, l5, l6] (aI x :: st) M = run 40 94 [l0, l1, l2, l3, l4, l5, aI x] st M := e_ist [l0, l1, l2, l3, l4, l5, aI x] d40_92 rfl rfl
theorem d40_94 : decode (cod 40) 94 = .ok (.iload_n 2, 1) := by decide +kernel
theorem r40_94 (l0 l1 l3 l4 l5 l6 : AV) (x : Int32) (st : List AV) (M : Mm) : run 40 94 [l0, l1, aI x, l3, l4, l5, l6] st M = run 40 95 [l0, l1, aI x, l3, l4, l5, l6] (aI x :: st) M := e_ildn d40_94 rfl
theorem d40_95 : decode (cod 40) 95 = .ok (.ifCond .ne 12, 3) := by decide +kernel
theorem r40_95 (l0 l1 l2 l3 l4 l5 l6 : AV) (a : Int32) (st : List AV) (M : Mm) : run 40 95 [l0, l1, l2, l3, l4, l5, l6] (aI a :: st) M = if a = 0 then run 40 98 [l0, l1, l2, l3, l4, l5, l6] st M else run 40 107 [l0, l1, l2, l3, l4, l5, l6] st M := e_ne1 107 d40_95 (by decide)
theorem d40_98 : decode (cod 40) 98 = .ok (.aload 5, 2) := by decide +kernel
theorem r40_98 (l0 l1 l2 l3 l4 l6 : AV) (xg xi : Nat) (st : List AV) (M : Mm) : run 40 98 [l0, l1, l2, l3, l4, aR xg 2 xi, l6] st M = run 40 100 [l0, l1, l2, l3, l4, aR xg 2 xi, l6] (aR xg 2 xi :: st) M := e_ald d40_98 rfl
theorem d40_100 : decode (cod 40) 100 = .ok (.iload_n 3, 1) := by decide +kernel
theorem r40_100 (l0 l1 l2 l4 l5 l6 : AV) (x : Int32) (st : List AV) (M : Mm) : run 40 100 [l0, l1, l2, aI x, l4, l5, l6] st M = run 40 101 [l0, l1, l2, aI x, l4, l5, l6] (aI x :: st) M := e_ildn d40_100 rfl
theorem d40_101 : decode (cod 40) 101 = .ok (.putfield 85, 3) := by decide +kernel
theorem r40_101 (l0 l1 l2 l3 l4 l5 l6 : AV) (v : Int32) (xg xi : Nat) (st : List AV) (M : Mm) : run 40 101 [l0, l1, l2, l3, l4, l5, l6] (aI v :: aR xg 2 xi :: st) M = run 40 104 [l0, l1, l2, l3, l4, l5, l6] st (wr M xg 2 xi 4 v) := e_pfi d40_101 rfl rfl rfl rfl
theorem d40_104 : decode (cod 40) 104 = .ok (.goto 9, 3) := by decide +kernel
theorem r40_104 (l0 l1 l2 l3 l4 l5 l6 : AV) (st : List AV) (M : Mm) : run 40 104 [l0, l1, l2, l3, l4, l5, l6] st M = run 40 113 [l0, l1, l2, l3, l4, l5, l6] st M := e_goto 113 d40_104 (by decide)
theorem d40_107 : decode (cod 40) 107 = .ok (.aload 5, 2) := by decide +kernel
theorem r40_107 (l0 l1 l2 l3 l4 l6 : AV) (xg xi : Nat) (st : List AV) (M : Mm) : run 40 107 [l0, l1, l2, l3, l4, aR xg 2 xi, l6] st M = run 40 109 [l0, l1, l2, l3, l4, aR xg 2 xi, l6] (aR xg 2 xi :: st) M := e_ald d40_107 rfl
theorem d40_109 : decode (cod 40) 109 = .ok (.iload_n 3, 1) := by decide +kernel
theorem r40_109 (l0 l1 l2 l4 l5 l6 : AV) (x : Int32) (st : List AV) (M : Mm) : run 40 109 [l0, l1, l2, aI x, l4, l5, l6] st M = run 40 110 [l0, l1, l2, aI x, l4, l5, l6] (aI x :: st) M := e_ildn d40_109 rfl
theorem d40_110 : decode (cod 40) 110 = .ok (.putfield 88, 3) := by decide +kernel
theorem r40_110 (l0 l1 l2 l3 l4 l5 l6 : AV) (v : Int32) (xg xi : Nat) (st : List AV) (M : Mm) : run 40 110 [l0, l1, l2, l3, l4, l5, l6] (aI v :: aR xg 2 xi :: st) M = run 40 113 [l0, l1, l2, l3, l4, l5, l6] st (wr M xg 2 xi 5 v) := e_pfi d40_110 rfl rfl rfl rfl
theorem d40_113 : decode (cod 40) 113 = .ok (.iload 6, 2) := by decide +kernel
theorem r40_113 (l0 l1 l2 l3 l4 l5 : AV) (x : Int32) (st : List AV) (M : Mm) : run 40 113 [l0, l1, l2, l3, l4, l5, aI x] st M = run 40 115 [l0, l1, l2, l3, l4, l5, aI x] (aI x :: st) M := e_ild d40_113 rfl
theorem d40_115 : decode (cod 40) 115 = .ok (.ireturn, 1) := by decide +kernel
theorem r40_115 (l0 l1 l2 l3 l4 l5 l6 : AV) (v : Int32) (M : Mm) : run 40 115 [l0, l1, l2, l3, l4, l5, l6] [aI v] M = some (some v, M) := e_iret d40_115 rfl
