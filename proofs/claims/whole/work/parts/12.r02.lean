theorem c41 (g0 i0 : Nat) (x1 : Int32) (x2 : Int32) (M : Mm) : call 41 [aR g0 7 i0, aI x1, aI x2] M = run 41 0 [aR g0 7 i0, aI x1, aI x2, none, none] [] M := call_run 41 _ _
theorem d41_0 : decode (cod 41) 0 = .ok (.iload_n 1, 1) := by decide +kernel
theorem r41_0 (l0 l2 l3 l4 : AV) (x : Int32) (st : List AV) (M : Mm) : run 41 0 [l0, aI x, l2, l3, l4] st M = run 41 1 [l0, aI x, l2, l3, l4] (aI x :: st) M := e_ildn d41_0 rfl
theorem d41_1 : decode (cod 41) 1 = .ok (.ifCond .lt 9, 3) := by decide +kernel
theorem r41_1 (l0 l1 l2 l3 l4 : AV) (a : Int32) (st : List AV) (M : Mm) : run 41 1 [l0, l1, l2, l3, l4] (aI a :: st) M = if a < 0 then run 41 10 [l0, l1, l2, l3, l4] st M else run 41 4 [l0, l1, l2, l3, l4] st M := e_lt1 10 d41_1 (by decide)
theorem d41_4 : decode (cod 41) 4 = .ok (.iload_n 1, 1) := by decide +kernel
theorem r41_4 (l0 l2 l3 l4 : AV) (x : Int32) (st : List AV) (M : Mm) : run 41 4 [l0, aI x, l2, l3, l4] st M = run 41 5 [l0, aI x, l2, l3, l4] (aI x :: st) M := e_ildn d41_4 rfl
theorem d41_5 : decode (cod 41) 5 = .ok (.bipush 6, 2) := by decide +kernel
theorem r41_5 (l0 l1 l2 l3 l4 : AV) (st : List AV) (M : Mm) : run 41 5 [l0, l1, l2, l3, l4] st M = run 41 7 [l0, l1, l2, l3, l4] (aI 6 :: st) M := e_bipush 6 d41_5 (by decide +kernel)
theorem d41_7 : decode (cod 41) 7 = .ok (.if_icmp .le 10, 3) := by decide +kernel
theorem r41_7 (l0 l1 l2 l3 l4 : AV) (a b : Int32) (st : List AV) (M : Mm) : run 41 7 [l0, l1, l2, l3, l4] (aI b :: aI a :: st) M = if b < a then run 41 10 [l0, l1, l2, l3, l4] st M else run 41 17 [l0, l1, l2, l3, l4] st M := e_le2 17 d41_7 (by decide)
theorem d41_10 : decode (cod 41) 10 = .ok (.aload_n 0, 1) := by decide +kernel
theorem r41_10 (l1 l2 l3 l4 : AV) (xg xi : Nat) (st : List AV) (M : Mm) : run 41 10 [aR xg 7 xi, l1, l2, l3, l4] st M = run 41 11 [aR xg 7 xi, l1, l2, l3, l4] (aR xg 7 xi :: st) M := e_aldn d41_10 rfl
theorem d41_11 : decode (cod 41) 11 = .ok (.bipush (-2), 2) := by decide +kernel
theorem r41_11 (l0 l1 l2 l3 l4 : AV) (st : List AV) (M : Mm) : run 41 11 [l0, l1, l2, l3, l4] st M = run 41 13 [l0, l1, l2, l3, l4] (aI (-2) :: st) M := e_bipush (-2) d41_11 (by decide +kernel)
theorem d41_13 : decode (cod 41) 13 = .ok (.invokevirtual 44, 3) := by decide +kernel
theorem r41_13 (l0 l1 l2 l3 l4 : AV) (a0g a0i : Nat) (a1 : Int32) (M : Mm) : run 41 13 [l0, l1, l2, l3, l4] [aI a1, aR a0g 7 a0i] M = cbI (call 66 [aR a0g 7 a0i, aI a1] M) (fun v M => run 41 16 [l0, l1, l2, l3, l4] [aI v] M) := call_I (n := 2) rfl false d41_13 rfl rfl rfl rfl rfl rfl rfl
theorem d41_16 : decode (cod 41) 16 = .ok (.ireturn, 1) := by decide +kernel
theorem r41_16 (l0 l1 l2 l3 l4 : AV) (v : Int32) (M : Mm) : run 41 16 [l0, l1, l2, l3, l4] [aI v] M = some (some v, M) := e_iret d41_16 rfl
theorem d41_17 : decode (cod 41) 17 = .ok (.iload_n 1, 1) := by decide +kernel
theorem r41_17 (l0 l2 l3 l4 : AV) (x : Int32) (st : List AV) (M : Mm) : run 41 17 [l0, aI x, l2, l3, l4] st M = run 41 18 [l0, aI x, l2, l3, l4] (aI x :: st) M := e_ildn d41_17 rfl
theorem d41_18 : decode (cod 41) 18 = .ok (.ifCond .ne 20, 3) := by decide +kernel
theorem r41_18 (l0 l1 l2 l3 l4 : AV) (a : Int32) (st : List AV) (M : Mm) : run 41 18 [l0, l1, l2, l3, l4] (aI a :: st) M = if a = 0 then run 41 21 [l0, l1, l2, l3, l4] st M else run 41 38 [l0, l1, l2, l3, l4] st M := e_ne1 38 d41_18 (by decide)
theorem d41_21 : decode (cod 41) 21 = .ok (.aload_n 0, 1) := by decide +kernel
theorem r41_21 (l1 l2 l3 l4 : AV) (xg xi : Nat) (st : List AV) (M : Mm) : run 41 21 [aR xg 7 xi, l1, l2, l3, l4] st M = run 41 22 [aR xg 7 xi, l1, l2, l3, l4] (aR xg 7 xi :: st) M := e_aldn d41_21 rfl
theorem d41_22 : decode (cod 41) 22 = .ok (.getfield 10, 3) := by decide +kernel
theorem r41_22 (l0 l1 l2 l3 l4 : AV) (xg xi : Nat) (st : List AV) (M : Mm) : run 41 22 [l0, l1, l2, l3, l4] (aR xg 7 xi :: st) M = run 41 25 [l0, l1, l2, l3, l4] (aR 1 0 0 :: st) M := e_gfr (fun g => (1, 0, 0)) d41_22 rfl rfl rfl
theorem d41_25 : decode (cod 41) 25 = .ok (.invokevirtual 104, 3) := by decide +kernel
theorem r41_25 (l0 l1 l2 l3 l4 : AV) (a0g a0i : Nat) (M : Mm) : run 41 25 [l0, l1, l2, l3, l4] [aR a0g 0 a0i] M = cbI (call 14 [aR a0g 0 a0i] M) (fun v M => run 41 28 [l0, l1, l2, l3, l4] [aI v] M) := call_I (n := 1) rfl false d41_25 rfl rfl rfl rfl rfl rfl rfl
theorem d41_28 : decode (cod 41) 28 = .ok (.ifCond .eq 10, 3) := by decide +kernel
theorem r41_28 (l0 l1 l2 l3 l4 : AV) (a : Int32) (st : List AV) (M : Mm) : run 41 28 [l0, l1, l2, l3, l4] (aI a :: st) M = if a = 0 then run 41 38 [l0, l1, l2, l3, l4] st M else run 41 31 [l0, l1, l2, l3, l4] st M := e_eq1 38 d41_28 (by decide)
theorem d41_31 : decode (cod 41) 31 = .ok (.aload_n 0, 1) := by decide +kernel
theorem r41_31 (l1 l2 l3 l4 : AV) (xg xi : Nat) (st : List AV) (M : Mm) : run 41 31 [aR xg 7 xi, l1, l2, l3, l4] st M = run 41 32 [aR xg 7 xi, l1, l2, l3, l4] (aR xg 7 xi :: st) M := e_aldn d41_31 rfl
theorem d41_32 : decode (cod 41) 32 = .ok (.bipush (-3), 2) := by decide +kernel
theorem r41_32 (l0 l1 l2 l3 l4 : AV) (st : List AV) (M : Mm) : run 41 32 [l0, l1, l2, l3, l4] st M = run 41 34 [l0, l1, l2, l3, l4] (aI (-3) :: st) M := e_bipush (-3) d41_32 (by decide +kernel)
theorem d41_34 : decode (cod 41) 34 = .ok (.invokevirtual 44, 3) := by decide +kernel
theorem r41_34 (l0 l1 l2 l3 l4 : AV) (a0g a0i : Nat) (a1 : Int32) (M : Mm) : run 41 34 [l0, l1, l2, l3, l4] [aI a1, aR a0g 7 a0i] M = cbI (call 66 [aR a0g 7 a0i, aI a1] M) (fun v M => run 41 37 [l0, l1, l2, l3, l4] [aI v] M) := call_I (n := 2) rfl false d41_34 rfl rfl rfl rfl rfl rfl rfl
theorem d41_37 : decode (cod 41) 37 = .ok (.ireturn, 1) := by decide +kernel
theorem r41_37 (l0 l1 l2 l3 l4 : AV) (v : Int32) (M : Mm) : run 41 37 [l0, l1, l2, l3, l4] [aI v] M = some (some v, M) := e_iret d41_37 rfl
theorem d41_38 : decode (cod 41) 38 = .ok (.iload_n 2, 1) := by decide +kernel
theorem r41_38 (l0 l1 l3 l4 : AV) (x : Int32) (st : List AV) (M : Mm) : run 41 38 [l0, l1, aI x, l3, l4] st M = run 41 39 [l0, l1, aI x, l3, l4] (aI x :: st) M := e_ildn d41_38 rfl
theorem d41_39 : decode (cod 41) 39 = .ok (.getstatic 108, 3) := by decide +kernel
theorem r41_39 (l0 l1 l2 l3 l4 : AV) (st : List AV) (M : Mm) : run 41 39 [l0, l1, l2, l3, l4] st M = run 41 42 [l0, l1, l2, l3, l4] (aR 9 33 0 :: st) M := e_gst (k := 33) (pl := 489) d41_39 rfl
theorem d41_42 : decode (cod 41) 42 = .ok (.iload_n 1, 1) := by decide +kernel
theorem r41_42 (l0 l2 l3 l4 : AV) (x : Int32) (st : List AV) (M : Mm) : run 41 42 [l0, aI x, l2, l3, l4] st M = run 41 43 [l0, aI x, l2, l3, l4] (aI x :: st) M := e_ildn d41_42 rfl
theorem d41_43 : decode (cod 41) 43 = .ok (.iaload, 1) := by decide +kernel
theorem r41_43 (l0 l1 l2 l3 l4 : AV) (i : Int32) (xg xi : Nat) (st : List AV) (M : Mm) : run 41 43 [l0, l1, l2, l3, l4] (aI i :: aR xg 33 xi :: st) M = if vpB i 7 = true then run 41 44 [l0, l1, l2, l3, l4] (aI (stV 33 i.toNatClampNeg) :: st) M else none := e_ialk d41_43
theorem d41_44 : decode (cod 41) 44 = .ok (.getstatic 111, 3) := by decide +kernel
theorem r41_44 (l0 l1 l2 l3 l4 : AV) (st : List AV) (M : Mm) : run 41 44 [l0, l1, l2, l3, l4] st M = run 41 47 [l0, l1, l2, l3, l4] (aR 9 34 0 :: st) M := e_gst (k := 34) (pl := 491) d41_44 rfl
theorem d41_47 : decode (cod 41) 47 = .ok (.iload_n 1, 1) := by decide +kernel
theorem r41_47 (l0 l2 l3 l4 : AV) (x : Int32) (st : List AV) (M : Mm) : run 41 47 [l0, aI x, l2, l3, l4] st M = run 41 48 [l0, aI x, l2, l3, l4] (aI x :: st) M := e_ildn d41_47 rfl
theorem d41_48 : decode (cod 41) 48 = .ok (.iaload, 1) := by decide +kernel
theorem r41_48 (l0 l1 l2 l3 l4 : AV) (i : Int32) (xg xi : Nat) (st : List AV) (M : Mm) : run 41 48 [l0, l1, l2, l3, l4] (aI i :: aR xg 34 xi :: st) M = if vpB i 7 = true then run 41 49 [l0, l1, l2, l3, l4] (aI (stV 34 i.toNatClampNeg) :: st) M else none := e_ialk d41_48
theorem d41_49 : decode (cod 41) 49 = .ok (.invokestatic 100, 3) := by decide +kernel
theorem r41_49 (l0 l1 l2 l3 l4 : AV) (a0 : Int32) (a1 : Int32) (a2 : Int32) (M : Mm) : run 41 49 [l0, l1, l2, l3, l4] [aI a2, aI a1, aI a0] M = cbI (call 67 [aI a0, aI a1, aI a2] M) (fun v M => run 41 52 [l0, l1, l2, l3, l4] [aI v] M) := call_I (n := 3) rfl true d41_49 rfl rfl rfl rfl rfl rfl rfl
theorem d41_52 : decode (cod 41) 52 = .ok (.istore_n 3, 1) := by decide +kernel
theorem r41_52 (l0 l1 l2 l3 l4 : AV) (x : Int32) (st : List AV) (M : Mm) : run 41 52 [l0, l1, l2, l3, l4] (aI x :: st) M = run 41 53 [l0, l1, l2, aI x, l4] st M := e_istn [l0, l1, l2, aI x, l4] d41_52 rfl rfl
theorem d41_53 : decode (cod 41) 53 = .ok (.iload_n 3, 1) := by decide +kernel
theorem r41_53 (l0 l1 l2 l4 : AV) (x : Int32) (st : List AV) (M : Mm) : run 41 53 [l0, l1, l2, aI x, l4] st M = run 41 54 [l0, l1, l2, aI x, l4] (aI x :: st) M := e_ildn d41_53 rfl
theorem d41_54 : decode (cod 41) 54 = .ok (.ifCond .eq 9, 3) := by decide +kernel
theorem r41_54 (l0 l1 l2 l3 l4 : AV) (a : Int32) (st : List AV) (M : Mm) : run 41 54 [l0, l1, l2, l3, l4] (aI a :: st) M = if a = 0 then run 41 63 [l0, l1, l2, l3, l4] st M else run 41 57 [l0, l1, l2, l3, l4] st M := e_eq1 63 d41_54 (by decide)
theorem d41_57 : decode (cod 41) 57 = .ok (.aload_n 0, 1) := by decide +kernel
theorem r41_57 (l1 l2 l3 l4 : AV) (xg xi : Nat) (st : List AV) (M : Mm) : run 41 57 [aR xg 7 xi, l1, l2, l3, l4] st M = run 41 58 [aR xg 7 xi, l1, l2, l3, l4] (aR xg 7 xi :: st) M := e_aldn d41_57 rfl
theorem d41_58 : decode (cod 41) 58 = .ok (.iload_n 3, 1) := by decide +kernel
theorem r41_58 (l0 l1 l2 l4 : AV) (x : Int32) (st : List AV) (M : Mm) : run 41 58 [l0, l1, l2, aI x, l4] st M = run 41 59 [l0, l1, l2, aI x, l4] (aI x :: st) M := e_ildn d41_58 rfl
theorem d41_59 : decode (cod 41) 59 = .ok (.invokevirtual 44, 3) := by decide +kernel
theorem r41_59 (l0 l1 l2 l3 l4 : AV) (a0g a0i : Nat) (a1 : Int32) (M : Mm) : run 41 59 [l0, l1, l2, l3, l4] [aI a1, aR a0g 7 a0i] M = cbI (call 66 [aR a0g 7 a0i, aI a1] M) (fun v M => run 41 62 [l0, l1, l2, l3, l4] [aI v] M) := call_I (n := 2) rfl false d41_59 rfl rfl rfl rfl rfl rfl rfl
theorem d41_62 : decode (cod 41) 62 = .ok (.ireturn, 1) := by decide +kernel
theorem r41_62 (l0 l1 l2 l3 l4 : AV) (v : Int32) (M : Mm) : run 41 62 [l0, l1, l2, l3, l4] [aI v] M = some (some v, M) := e_iret d41_62 rfl
theorem d41_63 : decode (cod 41) 63 = .ok (.aload_n 0, 1) := by decide +kernel
theorem r41_63 (l1 l2 l3 l4 : AV) (xg xi : Nat) (st : List AV) (M : Mm) : run 41 63 [aR xg 7 xi, l1, l2, l3, l4] st M = run 41 64 [aR xg 7 xi, l1, l2, l3, l4] (aR xg 7 xi :: st) M := e_aldn d41_63 rfl
theorem d41_64 : decode (cod 41) 64 = .ok (.getfield 10, 3) := by decide +kernel
theorem r41_64 (l0 l1 l2 l3 l4 : AV) (xg xi : Nat) (st : List AV) (M : Mm) : run 41 64 [l0, l1, l2, l3, l4] (aR xg 7 xi :: st) M = run 41 67 [l0, l1, l2, l3, l4] (aR 1 0 0 :: st) M := e_gfr (fun g => (1, 0, 0)) d41_64 rfl rfl rfl
theorem d41_67 : decode (cod 41) 67 = .ok (.iload_n 1, 1) := by decide +kernel
theorem r41_67 (l0 l2 l3 l4 : AV) (x : Int32) (st : List AV) (M : Mm) : run 41 67 [l0, aI x, l2, l3, l4] st M = run 41 68 [l0, aI x, l2, l3, l4] (aI x :: st) M := e_ildn d41_67 rfl
theorem d41_68 : decode (cod 41) 68 = .ok (.invokevirtual 114, 3) := by decide +kernel
theorem r41_68 (l0 l1 l2 l3 l4 : AV) (a0g a0i : Nat) (a1 : Int32) (M : Mm) : run 41 68 [l0, l1, l2, l3, l4] [aI a1, aR a0g 0 a0i] M = cbI (call 16 [aR a0g 0 a0i, aI a1] M) (fun v M => run 41 71 [l0, l1, l2, l3, l4] [aI v] M) := call_I (n := 2) rfl false d41_68 rfl rfl rfl rfl rfl rfl rfl
theorem d41_71 : decode (cod 41) 71 = .ok (.istore 4, 2) := by decide +kernel
theorem r41_71 (l0 l1 l2 l3 l4 : AV) (x : Int32) (st : List AV) (M : Mm) : run 41 71 [l0, l1, l2, l3, l4] (aI x :: st) M = run 41 73 [l0, l1, l2, l3, aI x] st M := e_ist [l0, l1, l2, l3, aI x] d41_71 rfl rfl
theorem d41_73 : decode (cod 41) 73 = .ok (.aload_n 0, 1) := by decide +kernel
theorem r41_73 (l1 l2 l3 l4 : AV) (xg xi : Nat) (st : List AV) (M : Mm) : run 41 73 [aR xg 7 xi, l1, l2, l3, l4] st M = run 41 74 [aR xg 7 xi, l1, l2, l3, l4] (aR xg 7 xi :: st) M := e_aldn d41_73 rfl
theorem d41_74 : decode (cod 41) 74 = .ok (.getfield 10, 3) := by decide +kernel
theorem r41_74 (l0 l1 l2 l3 l4 : AV) (xg xi : Nat) (st : List AV) (M : Mm) : run 41 74 [l0, l1, l2, l3, l4] (aR xg 7 xi :: st) M = run 41 77 [l0, l1, l2, l3, l4] (aR 1 0 0 :: st) M := e_gfr (fun g => (1, 0, 0)) d41_74 rfl rfl rfl
theorem d41_77 : decode (cod 41) 77 = .ok (.iload_n 1, 1) := by decide +kernel
theorem r41_77 (l0 l2 l3 l4 : AV) (x : Int32) (st : List AV) (M : Mm) : run 41 77 [l0, aI x, l2, l3, l4] st M = run 41 78 [l0, aI x, l2, l3, l4] (aI x :: st) M := e_ildn d41_77 rfl
theorem d41_78 : decode (cod 41) 78 = .ok (.iload_n 2, 1) := by decide +kernel
theorem r41_78 (l0 l1 l3 l4 : AV) (x : Int32) (st : List AV) (M : Mm) : run 41 78 [l0, l1, aI x, l3, l4] st M = run 41 79 [l0, l1, aI x, l3, l4] (aI x :: st) M := e_ildn d41_78 rfl
theorem d41_79 : decode (cod 41) 79 = .ok (.invokevirtual 117, 3) := by decide +kernel
theorem r41_79 (l0 l1 l2 l3 l4 : AV) (a0g a0i : Nat) (a1 : Int32) (a2 : Int32) (M : Mm) : run 41 79 [l0, l1, l2, l3, l4] [aI a2, aI a1, aR a0g 0 a0i] M = cbV (call 17 [aR a0g 0 a0i, aI a1, aI a2] M) (fun M => run 41 82 [l0, l1, l2, l3, l4] [] M) := call_V (n := 3) rfl false d41_79 rfl rfl rfl rfl rfl rfl rfl
theorem d41_82 : decode (cod 41) 82 = .ok (.iload 4, 2) := by decide +kernel
theorem r41_82 (l0 l1 l2 l3 : AV) (x : Int32) (st : List AV) (M : Mm) : run 41 82 [l0, l1, l2, l3, aI x] st M = run 41 84 [l0, l1, l2, l3, aI x] (aI x :: st) M := e_ild d41_82 rfl
theorem d41_84 : decode (cod 41) 84 = .ok (.ireturn, 1) := by decide +kernel
theorem r41_84 (l0 l1 l2 l3 l4 : AV) (v : Int32) (M : Mm) : run 41 84 [l0, l1, l2, l3, l4] [aI v] M = some (some v, M) := e_iret d41_84 rfl
theorem c42 (g0 i0 : Nat) (x1 : Int32) (M : Mm) : call 42 [aR g0 7 i0, aI x1] M = run 42 0 [aR g0 7 i0, aI x1] [] M := call_run 42 _ _
theorem d42_0 : decode (cod 42) 0 = .ok (.aload_n 0, 1) := by decide +kernel
theorem r42_0 (l1 : AV) (xg xi : Nat) (st : List AV) (M : Mm) : run 42 0 [aR xg 7 xi, l1] st M = run 42 1 [aR xg 7 xi, l1] (aR xg 7 xi :: st) M := e_aldn d42_0 rfl
theorem d42_1 : decode (cod 42) 1 = .ok (.getfield 10, 3) := by decide +kernel
theorem r42_1 (l0 l1 : AV) (xg xi : Nat) (st : List AV) (M : Mm) : run 42 1 [l0, l1] (aR xg 7 xi :: st) M = run 42 4 [l0, l1] (aR 1 0 0 :: st) M := e_gfr (fun g => (1, 0, 0)) d42_1 rfl rfl rfl
theorem d42_4 : decode (cod 42) 4 = .ok (.iload_n 1, 1) := by decide +kernel
theorem r42_4 (l0 : AV) (x : Int32) (st : List AV) (M : Mm) : run 42 4 [l0, aI x] st M = run 42 5 [l0, aI x] (aI x :: st) M := e_ildn d42_4 rfl
theorem d42_5 : decode (cod 42) 5 = .ok (.invokevirtual 121, 3) := by decide +kernel
theorem r42_5 (l0 l1 : AV) (a0g a0i : Nat) (a1 : Int32) (M : Mm) : run 42 5 [l0, l1] [aI a1, aR a0g 0 a0i] M = cbI (call 13 [aR a0g 0 a0i, aI a1] M) (fun v M => run 42 8 [l0, l1] [aI v] M) := call_I (n := 2) rfl false d42_5 rfl rfl rfl rfl rfl rfl rfl
theorem d42_8 : decode (cod 42) 8 = .ok (.ifCond .ne 20, 3) := by decide +kernel
theorem r42_8 (l0 l1 : AV) (a : Int32) (st : List AV) (M : Mm) : run 42 8 [l0, l1] (aI a :: st) M = if a = 0 then run 42 11 [l0, l1] st M else run 42 28 [l0, l1] st M := e_ne1 28 d42_8 (by decide)
theorem d42_11 : decode (cod 42) 11 = .ok (.aload_n 0, 1) := by decide +kernel
theorem r42_11 (l1 : AV) (xg xi : Nat) (st : List AV) (M : Mm) : run 42 11 [aR xg 7 xi, l1] st M = run 42 12 [aR xg 7 xi, l1] (aR xg 7 xi :: st) M := e_aldn d42_11 rfl
theorem d42_12 : decode (cod 42) 12 = .ok (.iload_n 1, 1) := by decide +kernel
theorem r42_12 (l0 : AV) (x : Int32) (st : List AV) (M : Mm) : run 42 12 [l0, aI x] st M = run 42 13 [l0, aI x] (aI x :: st) M := e_ildn d42_12 rfl
theorem d42_13 : decode (cod 42) 13 = .ok (.iconst 1, 1) := by decide +kernel
theorem r42_13 (l0 l1 : AV) (st : List AV) (M : Mm) : run 42 13 [l0, l1] st M = run 42 14 [l0, l1] (aI 1 :: st) M := e_iconst 1 d42_13 (by decide +kernel)
theorem d42_14 : decode (cod 42) 14 = .ok (.if_icmp .ge 8, 3) := by decide +kernel
theorem r42_14 (l0 l1 : AV) (a b : Int32) (st : List AV) (M : Mm) : run 42 14 [l0, l1] (aI b :: aI a :: st) M = if a < b then run 42 17 [l0, l1] st M else run 42 22 [l0, l1] st M := e_ge2 22 d42_14 (by decide)
theorem d42_17 : decode (cod 42) 17 = .ok (.bipush (-4), 2) := by decide +kernel
theorem r42_17 (l0 l1 : AV) (st : List AV) (M : Mm) : run 42 17 [l0, l1] st M = run 42 19 [l0, l1] (aI (-4) :: st) M := e_bipush (-4) d42_17 (by decide +kernel)
theorem d42_19 : decode (cod 42) 19 = .ok (.goto 5, 3) := by decide +kernel
theorem r42_19 (l0 l1 : AV) (st : List AV) (M : Mm) : run 42 19 [l0, l1] st M = run 42 24 [l0, l1] st M := e_goto 24 d42_19 (by decide)
theorem d42_22 : decode (cod 42) 22 = .ok (.bipush (-6), 2) := by decide +kernel
theorem r42_22 (l0 l1 : AV) (st : List AV) (M : Mm) : run 42 22 [l0, l1] st M = run 42 24 [l0, l1] (aI (-6) :: st) M := e_bipush (-6) d42_22 (by decide +kernel)
theorem d42_24 : decode (cod 42) 24 = .ok (.invokevirtual 44, 3) := by decide +kernel
theorem r42_24 (l0 l1 : AV) (a0g a0i : Nat) (a1 : Int32) (M : Mm) : run 42 24 [l0, l1] [aI a1, aR a0g 7 a0i] M = cbI (call 66 [aR a0g 7 a0i, aI a1] M) (fun v M => run 42 27 [l0, l1] [aI v] M) := call_I (n := 2) rfl false d42_24 rfl rfl rfl rfl rfl rfl rfl
theorem d42_27 : decode (cod 42) 27 = .ok (.ireturn, 1) := by decide +kernel
theorem r42_27 (l0 l1 : AV) (v : Int32) (M : Mm) : run 42 27 [l0, l1] [aI v] M = some (some v, M) := e_iret d42_27 rfl
theorem d42_28 : decode (cod 42) 28 = .ok (.aload_n 0, 1) := by decide +kernel
theorem r42_28 (l1 : AV) (xg xi : Nat) (st : List AV) (M : Mm) : run 42 28 [aR xg 7 xi, l1] st M = run 42 29 [aR xg 7 xi, l1] (aR xg 7 xi :: st) M := e_aldn d42_28 rfl
theorem d42_29 : decode (cod 42) 29 = .ok (.getfield 10, 3) := by decide +kernel
theorem r42_29 (l0 l1 : AV) (xg xi : Nat) (st : List AV) (M : Mm) : run 42 29 [l0, l1] (aR xg 7 xi :: st) M = run 42 32 [l0, l1] (aR 1 0 0 :: st) M := e_gfr (fun g => (1, 0, 0)) d42_29 rfl rfl rfl
theorem d42_32 : decode (cod 42) 32 = .ok (.iload_n 1, 1) := by decide +kernel
theorem r42_32 (l0 : AV) (x : Int32) (st : List AV) (M : Mm) : run 42 32 [l0, aI x] st M = run 42 33 [l0, aI x] (aI x :: st) M := e_ildn d42_32 rfl
theorem d42_33 : decode (cod 42) 33 = .ok (.invokevirtual 124, 3) := by decide +kernel
theorem r42_33 (l0 l1 : AV) (a0g a0i : Nat) (a1 : Int32) (M : Mm) : run 42 33 [l0, l1] [aI a1, aR a0g 0 a0i] M = cbV (call 20 [aR a0g 0 a0i, aI a1] M) (fun M => run 42 36 [l0, l1] [] M) := call_V (n := 2) rfl false d42_33 rfl rfl rfl rfl rfl rfl rfl
theorem d42_36 : decode (cod 42) 36 = .ok (.aload_n 0, 1) := by decide +kernel
theorem r42_36 (l1 : AV) (xg xi : Nat) (st : List AV) (M : Mm) : run 42 36 [aR xg 7 xi, l1] st M = run 42 37 [aR xg 7 xi, l1] (aR xg 7 xi :: st) M := e_aldn d42_36 rfl
theorem d42_37 : decode (cod 42) 37 = .ok (.getfield 10, 3) := by decide +kernel
theorem r42_37 (l0 l1 : AV) (xg xi : Nat) (st : List AV) (M : Mm) : run 42 37 [l0, l1] (aR xg 7 xi :: st) M = run 42 40 [l0, l1] (aR 1 0 0 :: st) M := e_gfr (fun g => (1, 0, 0)) d42_37 rfl rfl rfl
theorem d42_40 : decode (cod 42) 40 = .ok (.getfield 127, 3) := by decide +kernel
theorem r42_40 (l0 l1 : AV) (xg xi : Nat) (st : List AV) (M : Mm) : run 42 40 [l0, l1] (aR xg 0 xi :: st) M = run 42 43 [l0, l1] (aR xg 5 0 :: st) M := e_gfr (fun g => (g, 5, 0)) d42_40 rfl rfl rfl
theorem d42_43 : decode (cod 42) 43 = .ok (.getfield 131, 3) := by decide +kernel
theorem r42_43 (l0 l1 : AV) (xg xi : Nat) (st : List AV) (M : Mm) : run 42 43 [l0, l1] (aR xg 5 xi :: st) M = run 42 46 [l0, l1] (aI (M xg 5 xi 1) :: st) M := e_gfi d42_43 rfl rfl rfl
theorem d42_46 : decode (cod 42) 46 = .ok (.ireturn, 1) := by decide +kernel
theorem r42_46 (l0 l1 : AV) (v : Int32) (M : Mm) : run 42 46 [l0, l1] [aI v] M = some (some v, M) := e_iret d42_46 rfl
theorem c43 (g0 i0 : Nat) (x1 : Int32) (x2 : Int32) (M : Mm) : call 43 [aR g0 7 i0, aI x1, aI x2] M = run 43 0 [aR g0 7 i0, aI x1, aI x2, none] [] M := call_run 43 _ _
theorem d43_0 : decode (cod 43) 0 = .ok (.iload_n 1, 1) := by decide +kernel
theorem r43_0 (l0 l2 l3 : AV) (x : Int32) (st : List AV) (M : Mm) : run 43 0 [l0, aI x, l2, l3] st M = run 43 1 [l0, aI x, l2, l3] (aI x :: st) M := e_ildn d43_0 rfl
theorem d43_1 : decode (cod 43) 1 = .ok (.ifCond .lt 14, 3) := by decide +kernel
theorem r43_1 (l0 l1 l2 l3 : AV) (a : Int32) (st : List AV) (M : Mm) : run 43 1 [l0, l1, l2, l3] (aI a :: st) M = if a < 0 then run 43 15 [l0, l1, l2, l3] st M else run 43 4 [l0, l1, l2, l3] st M := e_lt1 15 d43_1 (by decide)
theorem d43_4 : decode (cod 43) 4 = .ok (.iload_n 1, 1) := by decide +kernel
theorem r43_4 (l0 l2 l3 : AV) (x : Int32) (st : List AV) (M : Mm) : run 43 4 [l0, aI x, l2, l3] st M = run 43 5 [l0, aI x, l2, l3] (aI x :: st) M := e_ildn d43_4 rfl
theorem d43_5 : decode (cod 43) 5 = .ok (.aload_n 0, 1) := by decide +kernel
theorem r43_5 (l1 l2 l3 : AV) (xg xi : Nat) (st : List AV) (M : Mm) : run 43 5 [aR xg 7 xi, l1, l2, l3] st M = run 43 6 [aR xg 7 xi, l1, l2, l3] (aR xg 7 xi :: st) M := e_aldn d43_5 rfl
theorem d43_6 : decode (cod 43) 6 = .ok (.getfield 10, 3) := by decide +kernel
theorem r43_6 (l0 l1 l2 l3 : AV) (xg xi : Nat) (st : List AV) (M : Mm) : run 43 6 [l0, l1, l2, l3] (aR xg 7 xi :: st) M = run 43 9 [l0, l1, l2, l3] (aR 1 0 0 :: st) M := e_gfr (fun g => (1, 0, 0)) d43_6 rfl rfl rfl
theorem d43_9 : decode (cod 43) 9 = .ok (.getfield 136, 3) := by decide +kernel
theorem r43_9 (l0 l1 l2 l3 : AV) (xg xi : Nat) (st : List AV) (M : Mm) : run 43 9 [l0, l1, l2, l3] (aR xg 0 xi :: st) M = run 43 12 [l0, l1, l2, l3] (aI (M xg 0 xi 3) :: st) M := e_gfi d43_9 rfl rfl rfl
theorem d43_12 : decode (cod 43) 12 = .ok (.if_icmp .lt 9, 3) := by decide +kernel
theorem r43_12 (l0 l1 l2 l3 : AV) (a b : Int32) (st : List AV) (M : Mm) : run 43 12 [l0, l1, l2, l3] (aI b :: aI a :: st) M = if a < b then run 43 21 [l0, l1, l2, l3] st M else run 43 15 [l0, l1, l2, l3] st M := e_lt2 21 d43_12 (by decide)
theorem d43_15 : decode (cod 43) 15 = .ok (.aload_n 0, 1) := by decide +kernel
theorem r43_15 (l1 l2 l3 : AV) (xg xi : Nat) (st : List AV) (M : Mm) : run 43 15 [aR xg 7 xi, l1, l2, l3] st M = run 43 16 [aR xg 7 xi, l1, l2, l3] (aR xg 7 xi :: st) M := e_aldn d43_15 rfl
theorem d43_16 : decode (cod 43) 16 = .ok (.iconst (-1), 1) := by decide +kernel
theorem r43_16 (l0 l1 l2 l3 : AV) (st : List AV) (M : Mm) : run 43 16 [l0, l1, l2, l3] st M = run 43 17 [l0, l1, l2, l3] (aI (-1) :: st) M := e_iconst (-1) d43_16 (by decide +kernel)
theorem d43_17 : decode (cod 43) 17 = .ok (.invokevirtual 44, 3) := by decide +kernel
theorem r43_17 (l0 l1 l2 l3 : AV) (a0g a0i : Nat) (a1 : Int32) (M : Mm) : run 43 17 [l0, l1, l2, l3] [aI a1, aR a0g 7 a0i] M = cbI (call 66 [aR a0g 7 a0i, aI a1] M) (fun v M => run 43 20 [l0, l1, l2, l3] [aI v] M) := call_I (n := 2) rfl false d43_17 rfl rfl rfl rfl rfl rfl rfl
theorem d43_20 : decode (cod 43) 20 = .ok (.ireturn, 1) := by decide +kernel
theorem r43_20 (l0 l1 l2 l3 : AV) (v : Int32) (M : Mm) : run 43 20 [l0, l1, l2, l3] [aI v] M = some (some v, M) := e_iret d43_20 rfl
theorem d43_21 : decode (cod 43) 21 = .ok (.aload_n 0, 1) := by decide +kernel
theorem r43_21 (l1 l2 l3 : AV) (xg xi : Nat) (st : List AV) (M : Mm) : run 43 21 [aR xg 7 xi, l1, l2, l3] st M = run 43 22 [aR xg 7 xi, l1, l2, l3] (aR xg 7 xi :: st) M := e_aldn d43_21 rfl
theorem d43_22 : decode (cod 43) 22 = .ok (.getfield 10, 3) := by decide +kernel
theorem r43_22 (l0 l1 l2 l3 : AV) (xg xi : Nat) (st : List AV) (M : Mm) : run 43 22 [l0, l1, l2, l3] (aR xg 7 xi :: st) M = run 43 25 [l0, l1, l2, l3] (aR 1 0 0 :: st) M := e_gfr (fun g => (1, 0, 0)) d43_22 rfl rfl rfl
theorem d43_25 : decode (cod 43) 25 = .ok (.getfield 139, 3) := by decide +kernel
theorem r43_25 (l0 l1 l2 l3 : AV) (xg xi : Nat) (st : List AV) (M : Mm) : run 43 25 [l0, l1, l2, l3] (aR xg 0 xi :: st) M = run 43 28 [l0, l1, l2, l3] (aR xg 3 0 :: st) M := e_gfr (fun g => (g, 3, 0)) d43_25 rfl rfl rfl
theorem d43_28 : decode (cod 43) 28 = .ok (.iload_n 1, 1) := by decide +kernel
theorem r43_28 (l0 l2 l3 : AV) (x : Int32) (st : List AV) (M : Mm) : run 43 28 [l0, aI x, l2, l3] st M = run 43 29 [l0, aI x, l2, l3] (aI x :: st) M := e_ildn d43_28 rfl
theorem d43_29 : decode (cod 43) 29 = .ok (.aaload, 1) := by decide +kernel
theorem r43_29 (l0 l1 l2 l3 : AV) (i : Int32) (xg xi : Nat) (st : List AV) (M : Mm) : run 43 29 [l0, l1, l2, l3] (aI i :: aR xg 3 xi :: st) M = if vpB i 3 = true then run 43 30 [l0, l1, l2, l3] (aR xg 4 i.toNatClampNeg :: st) M else none := e_aal3 d43_29
theorem d43_30 : decode (cod 43) 30 = .ok (.astore_n 3, 1) := by decide +kernel
theorem r43_30 (l0 l1 l2 l3 : AV) (xg xi : Nat) (st : List AV) (M : Mm) : run 43 30 [l0, l1, l2, l3] (aR xg 4 xi :: st) M = run 43 31 [l0, l1, l2, aR xg 4 xi] st M := e_astn [l0, l1, l2, aR xg 4 xi] d43_30 rfl rfl
theorem d43_31 : decode (cod 43) 31 = .ok (.iload_n 2, 1) := by decide +kernel
theorem r43_31 (l0 l1 l3 : AV) (x : Int32) (st : List AV) (M : Mm) : run 43 31 [l0, l1, aI x, l3] st M = run 43 32 [l0, l1, aI x, l3] (aI x :: st) M := e_ildn d43_31 rfl
theorem d43_32 : decode (cod 43) 32 = .ok (.tableswitch 51 0 2 #[28, 33, 38], 28) := by decide +kernel
theorem r43_32 (l0 l1 l2 l3 : AV) (x : Int32) (st : List AV) (M : Mm) : run 43 32 [l0, l1, l2, l3] (aI x :: st) M = if x = 0 then run 43 60 [l0, l1, l2, l3] st M else if x = 1 then run 43 65 [l0, l1, l2, l3] st M else if x = 2 then run 43 70 [l0, l1, l2, l3] st M else run 43 83 [l0, l1, l2, l3] st M := by
  rw [run_step d43_32 rfl]
  simp only [stpI, tsw]
  by_cases c0 : x = 0
  · subst c0
    rw [if_pos rfl]
    rfl
  rw [if_neg c0]
  by_cases c1 : x = 1
  · subst c1
    rw [if_pos rfl]
    rfl
  rw [if_neg c1]
  by_cases c2 : x = 2
  · subst c2
    rw [if_pos rfl]
    rfl
  rw [if_neg c2]
  have hx : x.toInt < 0 ∨ 2 < x.toInt := by
    have h : ∀ k : Int, ¬ x = Int32.ofInt k → -2147483648 ≤ k → k < 2147483648 → ¬ x.toInt = k := fun k hk hl hh e => hk (Int32.toInt_inj.mp (by rw [e, Int32.toInt_ofInt_of_le hl hh]))
    have fc0 := h 0 c0 (by decide) (by decide)
    have fc1 := h 1 c1 (by decide) (by decide)
    have fc2 := h 2 c2 (by decide) (by decide)
    omega
  rw [if_pos hx, jmp_run 83 (by decide)]
  rfl
theorem d43_60 : decode (cod 43) 60 = .ok (.aload_n 3, 1) := by decide +kernel
theorem r43_60 (l0 l1 l2 : AV) (xg xi : Nat) (st : List AV) (M : Mm) : run 43 60 [l0, l1, l2, aR xg 4 xi] st M = run 43 61 [l0, l1, l2, aR xg 4 xi] (aR xg 4 xi :: st) M := e_aldn d43_60 rfl
theorem d43_61 : decode (cod 43) 61 = .ok (.getfield 143, 3) := by decide +kernel
theorem r43_61 (l0 l1 l2 l3 : AV) (xg xi : Nat) (st : List AV) (M : Mm) : run 43 61 [l0, l1, l2, l3] (aR xg 4 xi :: st) M = run 43 64 [l0, l1, l2, l3] (aI (M xg 4 xi 1) :: st) M := e_gfi d43_61 rfl rfl rfl
theorem d43_64 : decode (cod 43) 64 = .ok (.ireturn, 1) := by decide +kernel
theorem r43_64 (l0 l1 l2 l3 : AV) (v : Int32) (M : Mm) : run 43 64 [l0, l1, l2, l3] [aI v] M = some (some v, M) := e_iret d43_64 rfl
theorem d43_65 : decode (cod 43) 65 = .ok (.aload_n 3, 1) := by decide +kernel
theorem r43_65 (l0 l1 l2 : AV) (xg xi : Nat) (st : List AV) (M : Mm) : run 43 65 [l0, l1, l2, aR xg 4 xi] st M = run 43 66 [l0, l1, l2, aR xg 4 xi] (aR xg 4 xi :: st) M := e_aldn d43_65 rfl
theorem d43_66 : decode (cod 43) 66 = .ok (.getfield 148, 3) := by decide +kernel
theorem r43_66 (l0 l1 l2 l3 : AV) (xg xi : Nat) (st : List AV) (M : Mm) : run 43 66 [l0, l1, l2, l3] (aR xg 4 xi :: st) M = run 43 69 [l0, l1, l2, l3] (aI (M xg 4 xi 2) :: st) M := e_gfi d43_66 rfl rfl rfl
theorem d43_69 : decode (cod 43) 69 = .ok (.ireturn, 1) := by decide +kernel
theorem r43_69 (l0 l1 l2 l3 : AV) (v : Int32) (M : Mm) : run 43 69 [l0, l1, l2, l3] [aI v] M = some (some v, M) := e_iret d43_69 rfl
theorem d43_70 : decode (cod 43) 70 = .ok (.aload_n 3, 1) := by decide +kernel
theorem r43_70 (l0 l1 l2 : AV) (xg xi : Nat) (st : List AV) (M : Mm) : run 43 70 [l0, l1, l2, aR xg 4 xi] st M = run 43 71 [l0, l1, l2, aR xg 4 xi] (aR xg 4 xi :: st) M := e_aldn d43_70 rfl
theorem d43_71 : decode (cod 43) 71 = .ok (.getfield 151, 3) := by decide +kernel
theorem r43_71 (l0 l1 l2 l3 : AV) (xg xi : Nat) (st : List AV) (M : Mm) : run 43 71 [l0, l1, l2, l3] (aR xg 4 xi :: st) M = run 43 74 [l0, l1, l2, l3] (aI (M xg 4 xi 3) :: st) M := e_gfi d43_71 rfl rfl rfl
theorem d43_74 : decode (cod 43) 74 = .ok (.ifCond .eq 7, 3) := by decide +kernel
theorem r43_74 (l0 l1 l2 l3 : AV) (a : Int32) (st : List AV) (M : Mm) : run 43 74 [l0, l1, l2, l3] (aI a :: st) M = if a = 0 then run 43 81 [l0, l1, l2, l3] st M else run 43 77 [l0, l1, l2, l3] st M := e_eq1 81 d43_74 (by decide)
theorem d43_77 : decode (cod 43) 77 = .ok (.iconst 1, 1) := by decide +kernel
theorem r43_77 (l0 l1 l2 l3 : AV) (st : List AV) (M : Mm) : run 43 77 [l0, l1, l2, l3] st M = run 43 78 [l0, l1, l2, l3] (aI 1 :: st) M := e_iconst 1 d43_77 (by decide +kernel)
theorem d43_78 : decode (cod 43) 78 = .ok (.goto 4, 3) := by decide +kernel
theorem r43_78 (l0 l1 l2 l3 : AV) (st : List AV) (M : Mm) : run 43 78 [l0, l1, l2, l3] st M = run 43 82 [l0, l1, l2, l3] st M := e_goto 82 d43_78 (by decide)
theorem d43_81 : decode (cod 43) 81 = .ok (.iconst 0, 1) := by decide +kernel
theorem r43_81 (l0 l1 l2 l3 : AV) (st : List AV) (M : Mm) : run 43 81 [l0, l1, l2, l3] st M = run 43 82 [l0, l1, l2, l3] (aI 0 :: st) M := e_iconst 0 d43_81 (by decide +kernel)
theorem d43_82 : decode (cod 43) 82 = .ok (.ireturn, 1) := by decide +kernel
theorem r43_82 (l0 l1 l2 l3 : AV) (v : Int32) (M : Mm) : run 43 82 [l0, l1, l2, l3] [aI v] M = some (some v, M) := e_iret d43_82 rfl
theorem d43_83 : decode (cod 43) 83 = .ok (.aload_n 0, 1) := by decide +kernel
theorem r43_83 (l1 l2 l3 : AV) (xg xi : Nat) (st : List AV) (M : Mm) : run 43 83 [aR xg 7 xi, l1, l2, l3] st M = run 43 84 [aR xg 7 xi, l1, l2, l3] (aR xg 7 xi :: st) M := e_aldn d43_83 rfl
theorem d43_84 : decode (cod 43) 84 = .ok (.bipush (-2), 2) := by decide +kernel
theorem r43_84 (l0 l1 l2 l3 : AV) (st : List AV) (M : Mm) : run 43 84 [l0, l1, l2, l3] st M = run 43 86 [l0, l1, l2, l3] (aI (-2) :: st) M := e_bipush (-2) d43_84 (by decide +kernel)
theorem d43_86 : decode (cod 43) 86 = .ok (.invokevirtual 44, 3) := by decide +kernel
theorem r43_86 (l0 l1 l2 l3 : AV) (a0g a0i : Nat) (a1 : Int32) (M : Mm) : run 43 86 [l0, l1, l2, l3] [aI a1, aR a0g 7 a0i] M = cbI (call 66 [aR a0g 7 a0i, aI a1] M) (fun v M => run 43 89 [l0, l1, l2, l3] [aI v] M) := call_I (n := 2) rfl false d43_86 rfl rfl rfl rfl rfl rfl rfl
theorem d43_89 : decode (cod 43) 89 = .ok (.ireturn, 1) := by decide +kernel
theorem r43_89 (l0 l1 l2 l3 : AV) (v : Int32) (M : Mm) : run 43 89 [l0, l1, l2, l3] [aI v] M = some (some v, M) := e_iret d43_89 rfl
theorem c44 (g0 i0 : Nat) (x1 : Int32) (x2 : Int32) (M : Mm) : call 44 [aR g0 7 i0, aI x1, aI x2] M = run 44 0 [aR g0 7 i0, aI x1, aI x2, none] [] M := call_run 44 _ _
theorem d44_0 : decode (cod 44) 0 = .ok (.iload_n 1, 1) := by decide +kernel
theorem r44_0 (l0 l2 l3 : AV) (x : Int32) (st : List AV) (M : Mm) : run 44 0 [l0, aI x, l2, l3] st M = run 44 1 [l0, aI x, l2, l3] (aI x :: st) M := e_ildn d44_0 rfl
theorem d44_1 : decode (cod 44) 1 = .ok (.iconst 0, 1) := by decide +kernel
theorem r44_1 (l0 l1 l2 l3 : AV) (st : List AV) (M : Mm) : run 44 1 [l0, l1, l2, l3] st M = run 44 2 [l0, l1, l2, l3] (aI 0 :: st) M := e_iconst 0 d44_1 (by decide +kernel)
theorem d44_2 : decode (cod 44) 2 = .ok (.sipush 240, 3) := by decide +kernel
theorem r44_2 (l0 l1 l2 l3 : AV) (st : List AV) (M : Mm) : run 44 2 [l0, l1, l2, l3] st M = run 44 5 [l0, l1, l2, l3] (aI 240 :: st) M := e_sipush 240 d44_2 (by decide +kernel)
theorem d44_5 : decode (cod 44) 5 = .ok (.invokestatic 100, 3) := by decide +kernel
theorem r44_5 (l0 l1 l2 l3 : AV) (a0 : Int32) (a1 : Int32) (a2 : Int32) (M : Mm) : run 44 5 [l0, l1, l2, l3] [aI a2, aI a1, aI a0] M = cbI (call 67 [aI a0, aI a1, aI a2] M) (fun v M => run 44 8 [l0, l1, l2, l3] [aI v] M) := call_I (n := 3) rfl true d44_5 rfl rfl rfl rfl rfl rfl rfl
theorem d44_8 : decode (cod 44) 8 = .ok (.istore_n 3, 1) := by decide +kernel
theorem r44_8 (l0 l1 l2 l3 : AV) (x : Int32) (st : List AV) (M : Mm) : run 44 8 [l0, l1, l2, l3] (aI x :: st) M = run 44 9 [l0, l1, l2, aI x] st M := e_istn [l0, l1, l2, aI x] d44_8 rfl rfl
theorem d44_9 : decode (cod 44) 9 = .ok (.iload_n 3, 1) := by decide +kernel
theorem r44_9 (l0 l1 l2 : AV) (x : Int32) (st : List AV) (M : Mm) : run 44 9 [l0, l1, l2, aI x] st M = run 44 10 [l0, l1, l2, aI x] (aI x :: st) M := e_ildn d44_9 rfl
theorem d44_10 : decode (cod 44) 10 = .ok (.ifCond .ne 15, 3) := by decide +kernel
theorem r44_10 (l0 l1 l2 l3 : AV) (a : Int32) (st : List AV) (M : Mm) : run 44 10 [l0, l1, l2, l3] (aI a :: st) M = if a = 0 then run 44 13 [l0, l1, l2, l3] st M else run 44 25 [l0, l1, l2, l3] st M := e_ne1 25 d44_10 (by decide)
theorem d44_13 : decode (cod 44) 13 = .ok (.iload_n 2, 1) := by decide +kernel
theorem r44_13 (l0 l1 l3 : AV) (x : Int32) (st : List AV) (M : Mm) : run 44 13 [l0, l1, aI x, l3] st M = run 44 14 [l0, l1, aI x, l3] (aI x :: st) M := e_ildn d44_13 rfl
theorem d44_14 : decode (cod 44) 14 = .ok (.ifCond .lt 8, 3) := by decide +kernel
theorem r44_14 (l0 l1 l2 l3 : AV) (a : Int32) (st : List AV) (M : Mm) : run 44 14 [l0, l1, l2, l3] (aI a :: st) M = if a < 0 then run 44 22 [l0, l1, l2, l3] st M else run 44 17 [l0, l1, l2, l3] st M := e_lt1 22 d44_14 (by decide)
theorem d44_17 : decode (cod 44) 17 = .ok (.iload_n 2, 1) := by decide +kernel
theorem r44_17 (l0 l1 l3 : AV) (x : Int32) (st : List AV) (M : Mm) : run 44 17 [l0, l1, aI x, l3] st M = run 44 18 [l0, l1, aI x, l3] (aI x :: st) M := e_ildn d44_17 rfl
theorem d44_18 : decode (cod 44) 18 = .ok (.iconst 5, 1) := by decide +kernel
theorem r44_18 (l0 l1 l2 l3 : AV) (st : List AV) (M : Mm) : run 44 18 [l0, l1, l2, l3] st M = run 44 19 [l0, l1, l2, l3] (aI 5 :: st) M := e_iconst 5 d44_18 (by decide +kernel)
theorem d44_19 : decode (cod 44) 19 = .ok (.if_icmp .le 6, 3) := by decide +kernel
theorem r44_19 (l0 l1 l2 l3 : AV) (a b : Int32) (st : List AV) (M : Mm) : run 44 19 [l0, l1, l2, l3] (aI b :: aI a :: st) M = if b < a then run 44 22 [l0, l1, l2, l3] st M else run 44 25 [l0, l1, l2, l3] st M := e_le2 25 d44_19 (by decide)
theorem d44_22 : decode (cod 44) 22 = .ok (.bipush (-2), 2) := by decide +kernel
theorem r44_22 (l0 l1 l2 l3 : AV) (st : List AV) (M : Mm) : run 44 22 [l0, l1, l2, l3] st M = run 44 24 [l0, l1, l2, l3] (aI (-2) :: st) M := e_bipush (-2) d44_22 (by decide +kernel)
theorem d44_24 : decode (cod 44) 24 = .ok (.istore_n 3, 1) := by decide +kernel
theorem r44_24 (l0 l1 l2 l3 : AV) (x : Int32) (st : List AV) (M : Mm) : run 44 24 [l0, l1, l2, l3] (aI x :: st) M = run 44 25 [l0, l1, l2, aI x] st M := e_istn [l0, l1, l2, aI x] d44_24 rfl rfl
theorem d44_25 : decode (cod 44) 25 = .ok (.iload_n 3, 1) := by decide +kernel
theorem r44_25 (l0 l1 l2 : AV) (x : Int32) (st : List AV) (M : Mm) : run 44 25 [l0, l1, l2, aI x] st M = run 44 26 [l0, l1, l2, aI x] (aI x :: st) M := e_ildn d44_25 rfl
theorem d44_26 : decode (cod 44) 26 = .ok (.ifCond .eq 9, 3) := by decide +kernel
theorem r44_26 (l0 l1 l2 l3 : AV) (a : Int32) (st : List AV) (M : Mm) : run 44 26 [l0, l1, l2, l3] (aI a :: st) M = if a = 0 then run 44 35 [l0, l1, l2, l3] st M else run 44 29 [l0, l1, l2, l3] st M := e_eq1 35 d44_26 (by decide)
theorem d44_29 : decode (cod 44) 29 = .ok (.aload_n 0, 1) := by decide +kernel
theorem r44_29 (l1 l2 l3 : AV) (xg xi : Nat) (st : List AV) (M : Mm) : run 44 29 [aR xg 7 xi, l1, l2, l3] st M = run 44 30 [aR xg 7 xi, l1, l2, l3] (aR xg 7 xi :: st) M := e_aldn d44_29 rfl
theorem d44_30 : decode (cod 44) 30 = .ok (.iload_n 3, 1) := by decide +kernel
theorem r44_30 (l0 l1 l2 : AV) (x : Int32) (st : List AV) (M : Mm) : run 44 30 [l0, l1, l2, aI x] st M = run 44 31 [l0, l1, l2, aI x] (aI x :: st) M := e_ildn d44_30 rfl
theorem d44_31 : decode (cod 44) 31 = .ok (.invokevirtual 44, 3) := by decide +kernel
theorem r44_31 (l0 l1 l2 l3 : AV) (a0g a0i : Nat) (a1 : Int32) (M : Mm) : run 44 31 [l0, l1, l2, l3] [aI a1, aR a0g 7 a0i] M = cbI (call 66 [aR a0g 7 a0i, aI a1] M) (fun v M => run 44 34 [l0, l1, l2, l3] [aI v] M) := call_I (n := 2) rfl false d44_31 rfl rfl rfl rfl rfl rfl rfl
theorem d44_34 : decode (cod 44) 34 = .ok (.ireturn, 1) := by decide +kernel
theorem r44_34 (l0 l1 l2 l3 : AV) (v : Int32) (M : Mm) : run 44 34 [l0, l1, l2, l3] [aI v] M = some (some v, M) := e_iret d44_34 rfl
theorem d44_35 : decode (cod 44) 35 = .ok (.aload_n 0, 1) := by decide +kernel
theorem r44_35 (l1 l2 l3 : AV) (xg xi : Nat) (st : List AV) (M : Mm) : run 44 35 [aR xg 7 xi, l1, l2, l3] st M = run 44 36 [aR xg 7 xi, l1, l2, l3] (aR xg 7 xi :: st) M := e_aldn d44_35 rfl
theorem d44_36 : decode (cod 44) 36 = .ok (.iload_n 1, 1) := by decide +kernel
theorem r44_36 (l0 l2 l3 : AV) (x : Int32) (st : List AV) (M : Mm) : run 44 36 [l0, aI x, l2, l3] st M = run 44 37 [l0, aI x, l2, l3] (aI x :: st) M := e_ildn d44_36 rfl
theorem d44_37 : decode (cod 44) 37 = .ok (.invokevirtual 154, 3) := by decide +kernel
theorem r44_37 (l0 l1 l2 l3 : AV) (a0g a0i : Nat) (a1 : Int32) (M : Mm) : run 44 37 [l0, l1, l2, l3] [aI a1, aR a0g 7 a0i] M = cbV (call 70 [aR a0g 7 a0i, aI a1] M) (fun M => run 44 40 [l0, l1, l2, l3] [] M) := call_V (n := 2) rfl false d44_37 rfl rfl rfl rfl rfl rfl rfl
theorem d44_40 : decode (cod 44) 40 = .ok (.iload_n 2, 1) := by decide +kernel
theorem r44_40 (l0 l1 l3 : AV) (x : Int32) (st : List AV) (M : Mm) : run 44 40 [l0, l1, aI x, l3] st M = run 44 41 [l0, l1, aI x, l3] (aI x :: st) M := e_ildn d44_40 rfl
theorem d44_41 : decode (cod 44) 41 = .ok (.tableswitch 90 0 4 #[35, 46, 57, 68, 79], 35) := by decide +kernel
theorem r44_41 (l0 l1 l2 l3 : AV) (x : Int32) (st : List AV) (M : Mm) : run 44 41 [l0, l1, l2, l3] (aI x :: st) M = if x = 0 then run 44 76 [l0, l1, l2, l3] st M else if x = 1 then run 44 87 [l0, l1, l2, l3] st M else if x = 2 then run 44 98 [l0, l1, l2, l3] st M else if x = 3 then run 44 109 [l0, l1, l2, l3] st M else if x = 4 then run 44 120 [l0, l1, l2, l3] st M else run 44 131 [l0, l1, l2, l3] st M := by
  rw [run_step d44_41 rfl]
  simp only [stpI, tsw]
  by_cases c0 : x = 0
  · subst c0
    rw [if_pos rfl]
    rfl
  rw [if_neg c0]
  by_cases c1 : x = 1
  · subst c1
    rw [if_pos rfl]
    rfl
  rw [if_neg c1]
  by_cases c2 : x = 2
  · subst c2
    rw [if_pos rfl]
    rfl
  rw [if_neg c2]
  by_cases c3 : x = 3
  · subst c3
    rw [if_pos rfl]
    rfl
  rw [if_neg c3]
  by_cases c4 : x = 4
  · subst c4
    rw [if_pos rfl]
    rfl
  rw [if_neg c4]
  have hx : x.toInt < 0 ∨ 4 < x.toInt := by
    have h : ∀ k : Int, ¬ x = Int32.ofInt k → -2147483648 ≤ k → k < 2147483648 → ¬ x.toInt = k := fun k hk hl hh e => hk (Int32.toInt_inj.mp (by rw [e, Int32.toInt_ofInt_of_le hl hh]))
    have fc0 := h 0 c0 (by decide) (by decide)
    have fc1 := h 1 c1 (by decide) (by decide)
    have fc2 := h 2 c2 (by decide) (by decide)
    have fc3 := h 3 c3 (by decide) (by decide)
    have fc4 := h 4 c4 (by decide) (by decide)
    omega
  rw [if_pos hx, jmp_run 131 (by decide)]
  rfl
theorem d44_76 : decode (cod 44) 76 = .ok (.aload_n 0, 1) := by decide +kernel
theorem r44_76 (l1 l2 l3 : AV) (xg xi : Nat) (st : List AV) (M : Mm) : run 44 76 [aR xg 7 xi, l1, l2, l3] st M = run 44 77 [aR xg 7 xi, l1, l2, l3] (aR xg 7 xi :: st) M := e_aldn d44_76 rfl
theorem d44_77 : decode (cod 44) 77 = .ok (.getfield 16, 3) := by decide +kernel
theorem r44_77 (l0 l1 l2 l3 : AV) (xg xi : Nat) (st : List AV) (M : Mm) : run 44 77 [l0, l1, l2, l3] (aR xg 7 xi :: st) M = run 44 80 [l0, l1, l2, l3] (aR 2 0 0 :: st) M := e_gfr (fun g => (2, 0, 0)) d44_77 rfl rfl rfl
theorem d44_80 : decode (cod 44) 80 = .ok (.getfield 127, 3) := by decide +kernel
theorem r44_80 (l0 l1 l2 l3 : AV) (xg xi : Nat) (st : List AV) (M : Mm) : run 44 80 [l0, l1, l2, l3] (aR xg 0 xi :: st) M = run 44 83 [l0, l1, l2, l3] (aR xg 5 0 :: st) M := e_gfr (fun g => (g, 5, 0)) d44_80 rfl rfl rfl
theorem d44_83 : decode (cod 44) 83 = .ok (.getfield 131, 3) := by decide +kernel
theorem r44_83 (l0 l1 l2 l3 : AV) (xg xi : Nat) (st : List AV) (M : Mm) : run 44 83 [l0, l1, l2, l3] (aR xg 5 xi :: st) M = run 44 86 [l0, l1, l2, l3] (aI (M xg 5 xi 1) :: st) M := e_gfi d44_83 rfl rfl rfl
theorem d44_86 : decode (cod 44) 86 = .ok (.ireturn, 1) := by decide +kernel
theorem r44_86 (l0 l1 l2 l3 : AV) (v : Int32) (M : Mm) : run 44 86 [l0, l1, l2, l3] [aI v] M = some (some v, M) := e_iret d44_86 rfl
theorem d44_87 : decode (cod 44) 87 = .ok (.aload_n 0, 1) := by decide +kernel
theorem r44_87 (l1 l2 l3 : AV) (xg xi : Nat) (st : List AV) (M : Mm) : run 44 87 [aR xg 7 xi, l1, l2, l3] st M = run 44 88 [aR xg 7 xi, l1, l2, l3] (aR xg 7 xi :: st) M := e_aldn d44_87 rfl
theorem d44_88 : decode (cod 44) 88 = .ok (.getfield 16, 3) := by decide +kernel
theorem r44_88 (l0 l1 l2 l3 : AV) (xg xi : Nat) (st : List AV) (M : Mm) : run 44 88 [l0, l1, l2, l3] (aR xg 7 xi :: st) M = run 44 91 [l0, l1, l2, l3] (aR 2 0 0 :: st) M := e_gfr (fun g => (2, 0, 0)) d44_88 rfl rfl rfl
theorem d44_91 : decode (cod 44) 91 = .ok (.getfield 127, 3) := by decide +kernel
theorem r44_91 (l0 l1 l2 l3 : AV) (xg xi : Nat) (st : List AV) (M : Mm) : run 44 91 [l0, l1, l2, l3] (aR xg 0 xi :: st) M = run 44 94 [l0, l1, l2, l3] (aR xg 5 0 :: st) M := e_gfr (fun g => (g, 5, 0)) d44_91 rfl rfl rfl
theorem d44_94 : decode (cod 44) 94 = .ok (.getfield 157, 3) := by decide +kernel
theorem r44_94 (l0 l1 l2 l3 : AV) (xg xi : Nat) (st : List AV) (M : Mm) : run 44 94 [l0, l1, l2, l3] (aR xg 5 xi :: st) M = run 44 97 [l0, l1, l2, l3] (aI (M xg 5 xi 2) :: st) M := e_gfi d44_94 rfl rfl rfl
theorem d44_97 : decode (cod 44) 97 = .ok (.ireturn, 1) := by decide +kernel
theorem r44_97 (l0 l1 l2 l3 : AV) (v : Int32) (M : Mm) : run 44 97 [l0, l1, l2, l3] [aI v] M = some (some v, M) := e_iret d44_97 rfl
theorem d44_98 : decode (cod 44) 98 = .ok (.aload_n 0, 1) := by decide +kernel
theorem r44_98 (l1 l2 l3 : AV) (xg xi : Nat) (st : List AV) (M : Mm) : run 44 98 [aR xg 7 xi, l1, l2, l3] st M = run 44 99 [aR xg 7 xi, l1, l2, l3] (aR xg 7 xi :: st) M := e_aldn d44_98 rfl
theorem d44_99 : decode (cod 44) 99 = .ok (.getfield 16, 3) := by decide +kernel
theorem r44_99 (l0 l1 l2 l3 : AV) (xg xi : Nat) (st : List AV) (M : Mm) : run 44 99 [l0, l1, l2, l3] (aR xg 7 xi :: st) M = run 44 102 [l0, l1, l2, l3] (aR 2 0 0 :: st) M := e_gfr (fun g => (2, 0, 0)) d44_99 rfl rfl rfl
theorem d44_102 : decode (cod 44) 102 = .ok (.getfield 127, 3) := by decide +kernel
theorem r44_102 (l0 l1 l2 l3 : AV) (xg xi : Nat) (st : List AV) (M : Mm) : run 44 102 [l0, l1, l2, l3] (aR xg 0 xi :: st) M = run 44 105 [l0, l1, l2, l3] (aR xg 5 0 :: st) M := e_gfr (fun g => (g, 5, 0)) d44_102 rfl rfl rfl
theorem d44_105 : decode (cod 44) 105 = .ok (.getfield 160, 3) := by decide +kernel
theorem r44_105 (l0 l1 l2 l3 : AV) (xg xi : Nat) (st : List AV) (M : Mm) : run 44 105 [l0, l1, l2, l3] (aR xg 5 xi :: st) M = run 44 108 [l0, l1, l2, l3] (aI (M xg 5 xi 6) :: st) M := e_gfi d44_105 rfl rfl rfl
theorem d44_108 : decode (cod 44) 108 = .ok (.ireturn, 1) := by decide +kernel
theorem r44_108 (l0 l1 l2 l3 : AV) (v : Int32) (M : Mm) : run 44 108 [l0, l1, l2, l3] [aI v] M = some (some v, M) := e_iret d44_108 rfl
theorem d44_109 : decode (cod 44) 109 = .ok (.aload_n 0, 1) := by decide +kernel
theorem r44_109 (l1 l2 l3 : AV) (xg xi : Nat) (st : List AV) (M : Mm) : run 44 109 [aR xg 7 xi, l1, l2, l3] st M = run 44 110 [aR xg 7 xi, l1, l2, l3] (aR xg 7 xi :: st) M := e_aldn d44_109 rfl
theorem d44_110 : decode (cod 44) 110 = .ok (.getfield 16, 3) := by decide +kernel
theorem r44_110 (l0 l1 l2 l3 : AV) (xg xi : Nat) (st : List AV) (M : Mm) : run 44 110 [l0, l1, l2, l3] (aR xg 7 xi :: st) M = run 44 113 [l0, l1, l2, l3] (aR 2 0 0 :: st) M := e_gfr (fun g => (2, 0, 0)) d44_110 rfl rfl rfl
theorem d44_113 : decode (cod 44) 113 = .ok (.getfield 127, 3) := by decide +kernel
theorem r44_113 (l0 l1 l2 l3 : AV) (xg xi : Nat) (st : List AV) (M : Mm) : run 44 113 [l0, l1, l2, l3] (aR xg 0 xi :: st) M = run 44 116 [l0, l1, l2, l3] (aR xg 5 0 :: st) M := e_gfr (fun g => (g, 5, 0)) d44_113 rfl rfl rfl
theorem d44_116 : decode (cod 44) 116 = .ok (.getfield 163, 3) := by decide +kernel
theorem r44_116 (l0 l1 l2 l3 : AV) (xg xi : Nat) (st : List AV) (M : Mm) : run 44 116 [l0, l1, l2, l3] (aR xg 5 xi :: st) M = run 44 119 [l0, l1, l2, l3] (aI (M xg 5 xi 7) :: st) M := e_gfi d44_116 rfl rfl rfl
theorem d44_119 : decode (cod 44) 119 = .ok (.ireturn, 1) := by decide +kernel
theorem r44_119 (l0 l1 l2 l3 : AV) (v : Int32) (M : Mm) : run 44 119 [l0, l1, l2, l3] [aI v] M = some (some v, M) := e_iret d44_119 rfl
theorem d44_120 : decode (cod 44) 120 = .ok (.aload_n 0, 1) := by decide +kernel
theorem r44_120 (l1 l2 l3 : AV) (xg xi : Nat) (st : List AV) (M : Mm) : run 44 120 [aR xg 7 xi, l1, l2, l3] st M = run 44 121 [aR xg 7 xi, l1, l2, l3] (aR xg 7 xi :: st) M := e_aldn d44_120 rfl
theorem d44_121 : decode (cod 44) 121 = .ok (.getfield 16, 3) := by decide +kernel
theorem r44_121 (l0 l1 l2 l3 : AV) (xg xi : Nat) (st : List AV) (M : Mm) : run 44 121 [l0, l1, l2, l3] (aR xg 7 xi :: st) M = run 44 124 [l0, l1, l2, l3] (aR 2 0 0 :: st) M := e_gfr (fun g => (2, 0, 0)) d44_121 rfl rfl rfl
theorem d44_124 : decode (cod 44) 124 = .ok (.getfield 127, 3) := by decide +kernel
theorem r44_124 (l0 l1 l2 l3 : AV) (xg xi : Nat) (st : List AV) (M : Mm) : run 44 124 [l0, l1, l2, l3] (aR xg 0 xi :: st) M = run 44 127 [l0, l1, l2, l3] (aR xg 5 0 :: st) M := e_gfr (fun g => (g, 5, 0)) d44_124 rfl rfl rfl
theorem d44_127 : decode (cod 44) 127 = .ok (.getfield 166, 3) := by decide +kernel
theorem r44_127 (l0 l1 l2 l3 : AV) (xg xi : Nat) (st : List AV) (M : Mm) : run 44 127 [l0, l1, l2, l3] (aR xg 5 xi :: st) M = run 44 130 [l0, l1, l2, l3] (aI (M xg 5 xi 8) :: st) M := e_gfi d44_127 rfl rfl rfl
theorem d44_130 : decode (cod 44) 130 = .ok (.ireturn, 1) := by decide +kernel
theorem r44_130 (l0 l1 l2 l3 : AV) (v : Int32) (M : Mm) : run 44 130 [l0, l1, l2, l3] [aI v] M = some (some v, M) := e_iret d44_130 rfl
theorem d44_131 : decode (cod 44) 131 = .ok (.aload_n 0, 1) := by decide +kernel
theorem r44_131 (l1 l2 l3 : AV) (xg xi : Nat) (st : List AV) (M : Mm) : run 44 131 [aR xg 7 xi, l1, l2, l3] st M = run 44 132 [aR xg 7 xi, l1, l2, l3] (aR xg 7 xi :: st) M := e_aldn d44_131 rfl
theorem d44_132 : decode (cod 44) 132 = .ok (.getfield 16, 3) := by decide +kernel
theorem r44_132 (l0 l1 l2 l3 : AV) (xg xi : Nat) (st : List AV) (M : Mm) : run 44 132 [l0, l1, l2, l3] (aR xg 7 xi :: st) M = run 44 135 [l0, l1, l2, l3] (aR 2 0 0 :: st) M := e_gfr (fun g => (2, 0, 0)) d44_132 rfl rfl rfl
theorem d44_135 : decode (cod 44) 135 = .ok (.invokevirtual 169, 3) := by decide +kernel
theorem r44_135 (l0 l1 l2 l3 : AV) (a0g a0i : Nat) (M : Mm) : run 44 135 [l0, l1, l2, l3] [aR a0g 0 a0i] M = cbI (call 19 [aR a0g 0 a0i] M) (fun v M => run 44 138 [l0, l1, l2, l3] [aI v] M) := call_I (n := 1) rfl false d44_135 rfl rfl rfl rfl rfl rfl rfl
theorem d44_138 : decode (cod 44) 138 = .ok (.ireturn, 1) := by decide +kernel
theorem r44_138 (l0 l1 l2 l3 : AV) (v : Int32) (M : Mm) : run 44 138 [l0, l1, l2, l3] [aI v] M = some (some v, M) := e_iret d44_138 rfl
theorem c45 (g0 i0 : Nat) (x1 : Int32) (x2 : Int32) (M : Mm) : call 45 [aR g0 7 i0, aI x1, aI x2] M = run 45 0 [aR g0 7 i0, aI x1, aI x2, none] [] M := call_run 45 _ _
theorem d45_0 : decode (cod 45) 0 = .ok (.iload_n 1, 1) := by decide +kernel
theorem r45_0 (l0 l2 l3 : AV) (x : Int32) (st : List AV) (M : Mm) : run 45 0 [l0, aI x, l2, l3] st M = run 45 1 [l0, aI x, l2, l3] (aI x :: st) M := e_ildn d45_0 rfl
theorem d45_1 : decode (cod 45) 1 = .ok (.iconst 0, 1) := by decide +kernel
theorem r45_1 (l0 l1 l2 l3 : AV) (st : List AV) (M : Mm) : run 45 1 [l0, l1, l2, l3] st M = run 45 2 [l0, l1, l2, l3] (aI 0 :: st) M := e_iconst 0 d45_1 (by decide +kernel)
theorem d45_2 : decode (cod 45) 2 = .ok (.sipush 240, 3) := by decide +kernel
theorem r45_2 (l0 l1 l2 l3 : AV) (st : List AV) (M : Mm) : run 45 2 [l0, l1, l2, l3] st M = run 45 5 [l0, l1, l2, l3] (aI 240 :: st) M := e_sipush 240 d45_2 (by decide +kernel)
theorem d45_5 : decode (cod 45) 5 = .ok (.invokestatic 100, 3) := by decide +kernel
theorem r45_5 (l0 l1 l2 l3 : AV) (a0 : Int32) (a1 : Int32) (a2 : Int32) (M : Mm) : run 45 5 [l0, l1, l2, l3] [aI a2, aI a1, aI a0] M = cbI (call 67 [aI a0, aI a1, aI a2] M) (fun v M => run 45 8 [l0, l1, l2, l3] [aI v] M) := call_I (n := 3) rfl true d45_5 rfl rfl rfl rfl rfl rfl rfl
theorem d45_8 : decode (cod 45) 8 = .ok (.istore_n 3, 1) := by decide +kernel
theorem r45_8 (l0 l1 l2 l3 : AV) (x : Int32) (st : List AV) (M : Mm) : run 45 8 [l0, l1, l2, l3] (aI x :: st) M = run 45 9 [l0, l1, l2, aI x] st M := e_istn [l0, l1, l2, aI x] d45_8 rfl rfl
theorem d45_9 : decode (cod 45) 9 = .ok (.iload_n 3, 1) := by decide +kernel
theorem r45_9 (l0 l1 l2 : AV) (x : Int32) (st : List AV) (M : Mm) : run 45 9 [l0, l1, l2, aI x] st M = run 45 10 [l0, l1, l2, aI x] (aI x :: st) M := e_ildn d45_9 rfl
theorem d45_10 : decode (cod 45) 10 = .ok (.ifCond .ne 16, 3) := by decide +kernel
theorem r45_10 (l0 l1 l2 l3 : AV) (a : Int32) (st : List AV) (M : Mm) : run 45 10 [l0, l1, l2, l3] (aI a :: st) M = if a = 0 then run 45 13 [l0, l1, l2, l3] st M else run 45 26 [l0, l1, l2, l3] st M := e_ne1 26 d45_10 (by decide)
theorem d45_13 : decode (cod 45) 13 = .ok (.aload_n 0, 1) := by decide +kernel
theorem r45_13 (l1 l2 l3 : AV) (xg xi : Nat) (st : List AV) (M : Mm) : run 45 13 [aR xg 7 xi, l1, l2, l3] st M = run 45 14 [aR xg 7 xi, l1, l2, l3] (aR xg 7 xi :: st) M := e_aldn d45_13 rfl
theorem d45_14 : decode (cod 45) 14 = .ok (.getfield 10, 3) := by decide +kernel
theorem r45_14 (l0 l1 l2 l3 : AV) (xg xi : Nat) (st : List AV) (M : Mm) : run 45 14 [l0, l1, l2, l3] (aR xg 7 xi :: st) M = run 45 17 [l0, l1, l2, l3] (aR 1 0 0 :: st) M := e_gfr (fun g => (1, 0, 0)) d45_14 rfl rfl rfl
theorem d45_17 : decode (cod 45) 17 = .ok (.iload_n 2, 1) := by decide +kernel
theorem r45_17 (l0 l1 l3 : AV) (x : Int32) (st : List AV) (M : Mm) : run 45 17 [l0, l1, aI x, l3] st M = run 45 18 [l0, l1, aI x, l3] (aI x :: st) M := e_ildn d45_17 rfl
theorem d45_18 : decode (cod 45) 18 = .ok (.invokevirtual 70, 3) := by decide +kernel
theorem r45_18 (l0 l1 l2 l3 : AV) (a0g a0i : Nat) (a1 : Int32) (M : Mm) : run 45 18 [l0, l1, l2, l3] [aI a1, aR a0g 0 a0i] M = cbI (call 12 [aR a0g 0 a0i, aI a1] M) (fun v M => run 45 21 [l0, l1, l2, l3] [aI v] M) := call_I (n := 2) rfl false d45_18 rfl rfl rfl rfl rfl rfl rfl
theorem d45_21 : decode (cod 45) 21 = .ok (.ifCond .ne 5, 3) := by decide +kernel
theorem r45_21 (l0 l1 l2 l3 : AV) (a : Int32) (st : List AV) (M : Mm) : run 45 21 [l0, l1, l2, l3] (aI a :: st) M = if a = 0 then run 45 24 [l0, l1, l2, l3] st M else run 45 26 [l0, l1, l2, l3] st M := e_ne1 26 d45_21 (by decide)
theorem d45_24 : decode (cod 45) 24 = .ok (.iconst (-1), 1) := by decide +kernel
theorem r45_24 (l0 l1 l2 l3 : AV) (st : List AV) (M : Mm) : run 45 24 [l0, l1, l2, l3] st M = run 45 25 [l0, l1, l2, l3] (aI (-1) :: st) M := e_iconst (-1) d45_24 (by decide +kernel)
theorem d45_25 : decode (cod 45) 25 = .ok (.istore_n 3, 1) := by decide +kernel
theorem r45_25 (l0 l1 l2 l3 : AV) (x : Int32) (st : List AV) (M : Mm) : run 45 25 [l0, l1, l2, l3] (aI x :: st) M = run 45 26 [l0, l1, l2, aI x] st M := e_istn [l0, l1, l2, aI x] d45_25 rfl rfl
theorem d45_26 : decode (cod 45) 26 = .ok (.iload_n 3, 1) := by decide +kernel
theorem r45_26 (l0 l1 l2 : AV) (x : Int32) (st : List AV) (M : Mm) : run 45 26 [l0, l1, l2, aI x] st M = run 45 27 [l0, l1, l2, aI x] (aI x :: st) M := e_ildn d45_26 rfl
theorem d45_27 : decode (cod 45) 27 = .ok (.ifCond .eq 9, 3) := by decide +kernel
theorem r45_27 (l0 l1 l2 l3 : AV) (a : Int32) (st : List AV) (M : Mm) : run 45 27 [l0, l1, l2, l3] (aI a :: st) M = if a = 0 then run 45 36 [l0, l1, l2, l3] st M else run 45 30 [l0, l1, l2, l3] st M := e_eq1 36 d45_27 (by decide)
theorem d45_30 : decode (cod 45) 30 = .ok (.aload_n 0, 1) := by decide +kernel
theorem r45_30 (l1 l2 l3 : AV) (xg xi : Nat) (st : List AV) (M : Mm) : run 45 30 [aR xg 7 xi, l1, l2, l3] st M = run 45 31 [aR xg 7 xi, l1, l2, l3] (aR xg 7 xi :: st) M := e_aldn d45_30 rfl
theorem d45_31 : decode (cod 45) 31 = .ok (.iload_n 3, 1) := by decide +kernel
theorem r45_31 (l0 l1 l2 : AV) (x : Int32) (st : List AV) (M : Mm) : run 45 31 [l0, l1, l2, aI x] st M = run 45 32 [l0, l1, l2, aI x] (aI x :: st) M := e_ildn d45_31 rfl
theorem d45_32 : decode (cod 45) 32 = .ok (.invokevirtual 44, 3) := by decide +kernel
theorem r45_32 (l0 l1 l2 l3 : AV) (a0g a0i : Nat) (a1 : Int32) (M : Mm) : run 45 32 [l0, l1, l2, l3] [aI a1, aR a0g 7 a0i] M = cbI (call 66 [aR a0g 7 a0i, aI a1] M) (fun v M => run 45 35 [l0, l1, l2, l3] [aI v] M) := call_I (n := 2) rfl false d45_32 rfl rfl rfl rfl rfl rfl rfl
theorem d45_35 : decode (cod 45) 35 = .ok (.ireturn, 1) := by decide +kernel
theorem r45_35 (l0 l1 l2 l3 : AV) (v : Int32) (M : Mm) : run 45 35 [l0, l1, l2, l3] [aI v] M = some (some v, M) := e_iret d45_35 rfl
theorem d45_36 : decode (cod 45) 36 = .ok (.aload_n 0, 1) := by decide +kernel
theorem r45_36 (l1 l2 l3 : AV) (xg xi : Nat) (st : List AV) (M : Mm) : run 45 36 [aR xg 7 xi, l1, l2, l3] st M = run 45 37 [aR xg 7 xi, l1, l2, l3] (aR xg 7 xi :: st) M := e_aldn d45_36 rfl
theorem d45_37 : decode (cod 45) 37 = .ok (.iload_n 1, 1) := by decide +kernel
theorem r45_37 (l0 l2 l3 : AV) (x : Int32) (st : List AV) (M : Mm) : run 45 37 [l0, aI x, l2, l3] st M = run 45 38 [l0, aI x, l2, l3] (aI x :: st) M := e_ildn d45_37 rfl
theorem d45_38 : decode (cod 45) 38 = .ok (.invokevirtual 154, 3) := by decide +kernel
theorem r45_38 (l0 l1 l2 l3 : AV) (a0g a0i : Nat) (a1 : Int32) (M : Mm) : run 45 38 [l0, l1, l2, l3] [aI a1, aR a0g 7 a0i] M = cbV (call 70 [aR a0g 7 a0i, aI a1] M) (fun M => run 45 41 [l0, l1, l2, l3] [] M) := call_V (n := 2) rfl false d45_38 rfl rfl rfl rfl rfl rfl rfl
theorem d45_41 : decode (cod 45) 41 = .ok (.aload_n 0, 1) := by decide +kernel
theorem r45_41 (l1 l2 l3 : AV) (xg xi : Nat) (st : List AV) (M : Mm) : run 45 41 [aR xg 7 xi, l1, l2, l3] st M = run 45 42 [aR xg 7 xi, l1, l2, l3] (aR xg 7 xi :: st) M := e_aldn d45_41 rfl
theorem d45_42 : decode (cod 45) 42 = .ok (.getfield 16, 3) := by decide +kernel
theorem r45_42 (l0 l1 l2 l3 : AV) (xg xi : Nat) (st : List AV) (M : Mm) : run 45 42 [l0, l1, l2, l3] (aR xg 7 xi :: st) M = run 45 45 [l0, l1, l2, l3] (aR 2 0 0 :: st) M := e_gfr (fun g => (2, 0, 0)) d45_42 rfl rfl rfl
theorem d45_45 : decode (cod 45) 45 = .ok (.getfield 73, 3) := by decide +kernel
theorem r45_45 (l0 l1 l2 l3 : AV) (xg xi : Nat) (st : List AV) (M : Mm) : run 45 45 [l0, l1, l2, l3] (aR xg 0 xi :: st) M = run 45 48 [l0, l1, l2, l3] (aR xg 1 0 :: st) M := e_gfr (fun g => (g, 1, 0)) d45_45 rfl rfl rfl
theorem d45_48 : decode (cod 45) 48 = .ok (.iload_n 2, 1) := by decide +kernel
theorem r45_48 (l0 l1 l3 : AV) (x : Int32) (st : List AV) (M : Mm) : run 45 48 [l0, l1, aI x, l3] st M = run 45 49 [l0, l1, aI x, l3] (aI x :: st) M := e_ildn d45_48 rfl
theorem d45_49 : decode (cod 45) 49 = .ok (.aaload, 1) := by decide +kernel
theorem r45_49 (l0 l1 l2 l3 : AV) (i : Int32) (xg xi : Nat) (st : List AV) (M : Mm) : run 45 49 [l0, l1, l2, l3] (aI i :: aR xg 1 xi :: st) M = if vpB i 4 = true then run 45 50 [l0, l1, l2, l3] (aR xg 2 i.toNatClampNeg :: st) M else none := e_aal1 d45_49
theorem d45_50 : decode (cod 45) 50 = .ok (.getfield 172, 3) := by decide +kernel
theorem r45_50 (l0 l1 l2 l3 : AV) (xg xi : Nat) (st : List AV) (M : Mm) : run 45 50 [l0, l1, l2, l3] (aR xg 2 xi :: st) M = run 45 53 [l0, l1, l2, l3] (aI (M xg 2 xi 6) :: st) M := e_gfi d45_50 rfl rfl rfl
theorem d45_53 : decode (cod 45) 53 = .ok (.ireturn, 1) := by decide +kernel
theorem r45_53 (l0 l1 l2 l3 : AV) (v : Int32) (M : Mm) : run 45 53 [l0, l1, l2, l3] [aI v] M = some (some v, M) := e_iret d45_53 rfl
theorem c46 (g0 i0 : Nat) (x1 : Int32) (x2 : Int32) (x3 : Int32) (M : Mm) : call 46 [aR g0 7 i0, aI x1, aI x2, aI x3] M = run 46 0 [aR g0 7 i0, aI x1, aI x2, aI x3, none, none] [] M := call_run 46 _ _
theorem d46_0 : decode (cod 46) 0 = .ok (.aload_n 0, 1) := by decide +kernel
theorem r46_0 (l1 l2 l3 l4 l5 : AV) (xg xi : Nat) (st : List AV) (M : Mm) : run 46 0 [aR xg 7 xi, l1, l2, l3, l4, l5] st M = run 46 1 [aR xg 7 xi, l1, l2, l3, l4, l5] (aR xg 7 xi :: st) M := e_aldn d46_0 rfl
theorem d46_1 : decode (cod 46) 1 = .ok (.iload_n 1, 1) := by decide +kernel
theorem r46_1 (l0 l2 l3 l4 l5 : AV) (x : Int32) (st : List AV) (M : Mm) : run 46 1 [l0, aI x, l2, l3, l4, l5] st M = run 46 2 [l0, aI x, l2, l3, l4, l5] (aI x :: st) M := e_ildn d46_1 rfl
theorem d46_2 : decode (cod 46) 2 = .ok (.iload_n 2, 1) := by decide +kernel
theorem r46_2 (l0 l1 l3 l4 l5 : AV) (x : Int32) (st : List AV) (M : Mm) : run 46 2 [l0, l1, aI x, l3, l4, l5] st M = run 46 3 [l0, l1, aI x, l3, l4, l5] (aI x :: st) M := e_ildn d46_2 rfl
theorem d46_3 : decode (cod 46) 3 = .ok (.iload_n 3, 1) := by decide +kernel
theorem r46_3 (l0 l1 l2 l4 l5 : AV) (x : Int32) (st : List AV) (M : Mm) : run 46 3 [l0, l1, l2, aI x, l4, l5] st M = run 46 4 [l0, l1, l2, aI x, l4, l5] (aI x :: st) M := e_ildn d46_3 rfl
theorem d46_4 : decode (cod 46) 4 = .ok (.invokevirtual 173, 3) := by decide +kernel
theorem r46_4 (l0 l1 l2 l3 l4 l5 : AV) (a0g a0i : Nat) (a1 : Int32) (a2 : Int32) (a3 : Int32) (M : Mm) : run 46 4 [l0, l1, l2, l3, l4, l5] [aI a3, aI a2, aI a1, aR a0g 7 a0i] M = cbI (call 69 [aR a0g 7 a0i, aI a1, aI a2, aI a3] M) (fun v M => run 46 7 [l0, l1, l2, l3, l4, l5] [aI v] M) := call_I (n := 4) rfl false d46_4 rfl rfl rfl rfl rfl rfl rfl
theorem d46_7 : decode (cod 46) 7 = .ok (.istore 4, 2) := by decide +kernel
theorem r46_7 (l0 l1 l2 l3 l4 l5 : AV) (x : Int32) (st : List AV) (M : Mm) : run 46 7 [l0, l1, l2, l3, l4, l5] (aI x :: st) M = run 46 9 [l0, l1, l2, l3, aI x, l5] st M := e_ist [l0, l1, l2, l3, aI x, l5] d46_7 rfl rfl
theorem d46_9 : decode (cod 46) 9 = .ok (.iload 4, 2) := by decide +kernel
theorem r46_9 (l0 l1 l2 l3 l5 : AV) (x : Int32) (st : List AV) (M : Mm) : run 46 9 [l0, l1, l2, l3, aI x, l5] st M = run 46 11 [l0, l1, l2, l3, aI x, l5] (aI x :: st) M := e_ild d46_9 rfl
theorem d46_11 : decode (cod 46) 11 = .ok (.ifCond .eq 10, 3) := by decide +kernel
theorem r46_11 (l0 l1 l2 l3 l4 l5 : AV) (a : Int32) (st : List AV) (M : Mm) : run 46 11 [l0, l1, l2, l3, l4, l5] (aI a :: st) M = if a = 0 then run 46 21 [l0, l1, l2, l3, l4, l5] st M else run 46 14 [l0, l1, l2, l3, l4, l5] st M := e_eq1 21 d46_11 (by decide)
theorem d46_14 : decode (cod 46) 14 = .ok (.aload_n 0, 1) := by decide +kernel
theorem r46_14 (l1 l2 l3 l4 l5 : AV) (xg xi : Nat) (st : List AV) (M : Mm) : run 46 14 [aR xg 7 xi, l1, l2, l3, l4, l5] st M = run 46 15 [aR xg 7 xi, l1, l2, l3, l4, l5] (aR xg 7 xi :: st) M := e_aldn d46_14 rfl
theorem d46_15 : decode (cod 46) 15 = .ok (.iload 4, 2) := by decide +kernel
theorem r46_15 (l0 l1 l2 l3 l5 : AV) (x : Int32) (st : List AV) (M : Mm) : run 46 15 [l0, l1, l2, l3, aI x, l5] st M = run 46 17 [l0, l1, l2, l3, aI x, l5] (aI x :: st) M := e_ild d46_15 rfl
theorem d46_17 : decode (cod 46) 17 = .ok (.invokevirtual 44, 3) := by decide +kernel
theorem r46_17 (l0 l1 l2 l3 l4 l5 : AV) (a0g a0i : Nat) (a1 : Int32) (M : Mm) : run 46 17 [l0, l1, l2, l3, l4, l5] [aI a1, aR a0g 7 a0i] M = cbI (call 66 [aR a0g 7 a0i, aI a1] M) (fun v M => run 46 20 [l0, l1, l2, l3, l4, l5] [aI v] M) := call_I (n := 2) rfl false d46_17 rfl rfl rfl rfl rfl rfl rfl
theorem d46_20 : decode (cod 46) 20 = .ok (.ireturn, 1) := by decide +kernel
theorem r46_20 (l0 l1 l2 l3 l4 l5 : AV) (v : Int32) (M : Mm) : run 46 20 [l0, l1, l2, l3, l4, l5] [aI v] M = some (some v, M) := e_iret d46_20 rfl
theorem d46_21 : decode (cod 46) 21 = .ok (.aload_n 0, 1) := by decide +kernel
theorem r46_21 (l1 l2 l3 l4 l5 : AV) (xg xi : Nat) (st : List AV) (M : Mm) : run 46 21 [aR xg 7 xi, l1, l2, l3, l4, l5] st M = run 46 22 [aR xg 7 xi, l1, l2, l3, l4, l5] (aR xg 7 xi :: st) M := e_aldn d46_21 rfl
theorem d46_22 : decode (cod 46) 22 = .ok (.iload_n 1, 1) := by decide +kernel
theorem r46_22 (l0 l2 l3 l4 l5 : AV) (x : Int32) (st : List AV) (M : Mm) : run 46 22 [l0, aI x, l2, l3, l4, l5] st M = run 46 23 [l0, aI x, l2, l3, l4, l5] (aI x :: st) M := e_ildn d46_22 rfl
theorem d46_23 : decode (cod 46) 23 = .ok (.invokevirtual 154, 3) := by decide +kernel
theorem r46_23 (l0 l1 l2 l3 l4 l5 : AV) (a0g a0i : Nat) (a1 : Int32) (M : Mm) : run 46 23 [l0, l1, l2, l3, l4, l5] [aI a1, aR a0g 7 a0i] M = cbV (call 70 [aR a0g 7 a0i, aI a1] M) (fun M => run 46 26 [l0, l1, l2, l3, l4, l5] [] M) := call_V (n := 2) rfl false d46_23 rfl rfl rfl rfl rfl rfl rfl
theorem d46_26 : decode (cod 46) 26 = .ok (.aload_n 0, 1) := by decide +kernel
theorem r46_26 (l1 l2 l3 l4 l5 : AV) (xg xi : Nat) (st : List AV) (M : Mm) : run 46 26 [aR xg 7 xi, l1, l2, l3, l4, l5] st M = run 46 27 [aR xg 7 xi, l1, l2, l3, l4, l5] (aR xg 7 xi :: st) M := e_aldn d46_26 rfl
theorem d46_27 : decode (cod 46) 27 = .ok (.getfield 16, 3) := by decide +kernel
theorem r46_27 (l0 l1 l2 l3 l4 l5 : AV) (xg xi : Nat) (st : List AV) (M : Mm) : run 46 27 [l0, l1, l2, l3, l4, l5] (aR xg 7 xi :: st) M = run 46 30 [l0, l1, l2, l3, l4, l5] (aR 2 0 0 :: st) M := e_gfr (fun g => (2, 0, 0)) d46_27 rfl rfl rfl
theorem d46_30 : decode (cod 46) 30 = .ok (.getfield 73, 3) := by decide +kernel
theorem r46_30 (l0 l1 l2 l3 l4 l5 : AV) (xg xi : Nat) (st : List AV) (M : Mm) : run 46 30 [l0, l1, l2, l3, l4, l5] (aR xg 0 xi :: st) M = run 46 33 [l0, l1, l2, l3, l4, l5] (aR xg 1 0 :: st) M := e_gfr (fun g => (g, 1, 0)) d46_30 rfl rfl rfl
theorem d46_33 : decode (cod 46) 33 = .ok (.iload_n 2, 1) := by decide +kernel
theorem r46_33 (l0 l1 l3 l4 l5 : AV) (x : Int32) (st : List AV) (M : Mm) : run 46 33 [l0, l1, aI x, l3, l4, l5] st M = run 46 34 [l0, l1, aI x, l3, l4, l5] (aI x :: st) M := e_ildn d46_33 rfl
theorem d46_34 : decode (cod 46) 34 = .ok (.aaload, 1) := by decide +kernel
theorem r46_34 (l0 l1 l2 l3 l4 l5 : AV) (i : Int32) (xg xi : Nat) (st : List AV) (M : Mm) : run 46 34 [l0, l1, l2, l3, l4, l5] (aI i :: aR xg 1 xi :: st) M = if vpB i 4 = true then run 46 35 [l0, l1, l2, l3, l4, l5] (aR xg 2 i.toNatClampNeg :: st) M else none := e_aal1 d46_34
theorem d46_35 : decode (cod 46) 35 = .ok (.astore 5, 2) := by decide +kernel
theorem r46_35 (l0 l1 l2 l3 l4 l5 : AV) (xg xi : Nat) (st : List AV) (M : Mm) : run 46 35 [l0, l1, l2, l3, l4, l5] (aR xg 2 xi :: st) M = run 46 37 [l0, l1, l2, l3, l4, aR xg 2 xi] st M := e_ast [l0, l1, l2, l3, l4, aR xg 2 xi] d46_35 rfl rfl
theorem d46_37 : decode (cod 46) 37 = .ok (.iload_n 3, 1) := by decide +kernel
theorem r46_37 (l0 l1 l2 l4 l5 : AV) (x : Int32) (st : List AV) (M : Mm) : run 46 37 [l0, l1, l2, aI x, l4, l5] st M = run 46 38 [l0, l1, l2, aI x, l4, l5] (aI x :: st) M := e_ildn d46_37 rfl
theorem d46_38 : decode (cod 46) 38 = .ok (.ifCond .ne 11, 3) := by decide +kernel
theorem r46_38 (l0 l1 l2 l3 l4 l5 : AV) (a : Int32) (st : List AV) (M : Mm) : run 46 38 [l0, l1, l2, l3, l4, l5] (aI a :: st) M = if a = 0 then run 46 41 [l0, l1, l2, l3, l4, l5] st M else run 46 49 [l0, l1, l2, l3, l4, l5] st M := e_ne1 49 d46_38 (by decide)
theorem d46_41 : decode (cod 46) 41 = .ok (.aload 5, 2) := by decide +kernel
theorem r46_41 (l0 l1 l2 l3 l4 : AV) (xg xi : Nat) (st : List AV) (M : Mm) : run 46 41 [l0, l1, l2, l3, l4, aR xg 2 xi] st M = run 46 43 [l0, l1, l2, l3, l4, aR xg 2 xi] (aR xg 2 xi :: st) M := e_ald d46_41 rfl
theorem d46_43 : decode (cod 46) 43 = .ok (.getfield 85, 3) := by decide +kernel
theorem r46_43 (l0 l1 l2 l3 l4 l5 : AV) (xg xi : Nat) (st : List AV) (M : Mm) : run 46 43 [l0, l1, l2, l3, l4, l5] (aR xg 2 xi :: st) M = run 46 46 [l0, l1, l2, l3, l4, l5] (aI (M xg 2 xi 4) :: st) M := e_gfi d46_43 rfl rfl rfl
theorem d46_46 : decode (cod 46) 46 = .ok (.goto 8, 3) := by decide +kernel
theorem r46_46 (l0 l1 l2 l3 l4 l5 : AV) (st : List AV) (M : Mm) : run 46 46 [l0, l1, l2, l3, l4, l5] st M = run 46 54 [l0, l1, l2, l3, l4, l5] st M := e_goto 54 d46_46 (by decide)
theorem d46_49 : decode (cod 46) 49 = .ok (.aload 5, 2) := by decide +kernel
theorem r46_49 (l0 l1 l2 l3 l4 : AV) (xg xi : Nat) (st : List AV) (M : Mm) : run 46 49 [l0, l1, l2, l3, l4, aR xg 2 xi] st M = run 46 51 [l0, l1, l2, l3, l4, aR xg 2 xi] (aR xg 2 xi :: st) M := e_ald d46_49 rfl
theorem d46_51 : decode (cod 46) 51 = .ok (.getfield 88, 3) := by decide +kernel
theorem r46_51 (l0 l1 l2 l3 l4 l5 : AV) (xg xi : Nat) (st : List AV) (M : Mm) : run 46 51 [l0, l1, l2, l3, l4, l5] (aR xg 2 xi :: st) M = run 46 54 [l0, l1, l2, l3, l4, l5] (aI (M xg 2 xi 5) :: st) M := e_gfi d46_51 rfl rfl rfl
theorem d46_54 : decode (cod 46) 54 = .ok (.ireturn, 1) := by decide +kernel
theorem r46_54 (l0 l1 l2 l3 l4 l5 : AV) (v : Int32) (M : Mm) : run 46 54 [l0, l1, l2, l3, l4, l5] [aI v] M = some (some v, M) := e_iret d46_54 rfl
theorem c47 (g0 i0 : Nat) (x1 : Int32) (M : Mm) : call 47 [aR g0 7 i0, aI x1] M = run 47 0 [aR g0 7 i0, aI x1, none, none, none, none, none, none, none] [] M := call_run 47 _ _
theorem d47_0 : decode (cod 47) 0 = .ok (.iload_n 1, 1) := by decide +kernel
theorem r47_0 (l0 l2 l3 l4 l5 l6 l7 l8 : AV) (x : Int32) (st : List AV) (M : Mm) : run 47 0 [l0, aI x, l2, l3, l4, l5, l6, l7, l8] st M = run 47 1 [l0, aI x, l2, l3, l4, l5, l6, l7, l8] (aI x :: st) M := e_ildn d47_0 rfl
theorem d47_1 : decode (cod 47) 1 = .ok (.iconst 0, 1) := by decide +kernel
theorem r47_1 (l0 l1 l2 l3 l4 l5 l6 l7 l8 : AV) (st : List AV) (M : Mm) : run 47 1 [l0, l1, l2, l3, l4, l5, l6, l7, l8] st M = run 47 2 [l0, l1, l2, l3, l4, l5, l6, l7, l8] (aI 0 :: st) M := e_iconst 0 d47_1 (by decide +kernel)
theorem d47_2 : decode (cod 47) 2 = .ok (.sipush 240, 3) := by decide +kernel
theorem r47_2 (l0 l1 l2 l3 l4 l5 l6 l7 l8 : AV) (st : List AV) (M : Mm) : run 47 2 [l0, l1, l2, l3, l4, l5, l6, l7, l8] st M = run 47 5 [l0, l1, l2, l3, l4, l5, l6, l7, l8] (aI 240 :: st) M := e_sipush 240 d47_2 (by decide +kernel)
theorem d47_5 : decode (cod 47) 5 = .ok (.invokestatic 100, 3) := by decide +kernel
theorem r47_5 (l0 l1 l2 l3 l4 l5 l6 l7 l8 : AV) (a0 : Int32) (a1 : Int32) (a2 : Int32) (M : Mm) : run 47 5 [l0, l1, l2, l3, l4, l5, l6, l7, l8] [aI a2, aI a1, aI a0] M = cbI (call 67 [aI a0, aI a1, aI a2] M) (fun v M => run 47 8 [l0, l1, l2, l3, l4, l5, l6, l7, l8] [aI v] M) := call_I (n := 3) rfl true d47_5 rfl rfl rfl rfl rfl rfl rfl
theorem d47_8 : decode (cod 47) 8 = .ok (.istore_n 2, 1) := by decide +kernel
theorem r47_8 (l0 l1 l2 l3 l4 l5 l6 l7 l8 : AV) (x : Int32) (st : List AV) (M : Mm) : run 47 8 [l0, l1, l2, l3, l4, l5, l6, l7, l8] (aI x :: st) M = run 47 9 [l0, l1, aI x, l3, l4, l5, l6, l7, l8] st M := e_istn [l0, l1, aI x, l3, l4, l5, l6, l7, l8] d47_8 rfl rfl
theorem d47_9 : decode (cod 47) 9 = .ok (.iload_n 2, 1) := by decide +kernel
theorem r47_9 (l0 l1 l3 l4 l5 l6 l7 l8 : AV) (x : Int32) (st : List AV) (M : Mm) : run 47 9 [l0, l1, aI x, l3, l4, l5, l6, l7, l8] st M = run 47 10 [l0, l1, aI x, l3, l4, l5, l6, l7, l8] (aI x :: st) M := e_ildn d47_9 rfl
theorem d47_10 : decode (cod 47) 10 = .ok (.ifCond .eq 9, 3) := by decide +kernel
theorem r47_10 (l0 l1 l2 l3 l4 l5 l6 l7 l8 : AV) (a : Int32) (st : List AV) (M : Mm) : run 47 10 [l0, l1, l2, l3, l4, l5, l6, l7, l8] (aI a :: st) M = if a = 0 then run 47 19 [l0, l1, l2, l3, l4, l5, l6, l7, l8] st M else run 47 13 [l0, l1, l2, l3, l4, l5, l6, l7, l8] st M := e_eq1 19 d47_10 (by decide)
theorem d47_13 : decode (cod 47) 13 = .ok (.aload_n 0, 1) := by decide +kernel
theorem r47_13 (l1 l2 l3 l4 l5 l6 l7 l8 : AV) (xg xi : Nat) (st : List AV) (M : Mm) : run 47 13 [aR xg 7 xi, l1, l2, l3, l4, l5, l6, l7, l8] st M = run 47 14 [aR xg 7 xi, l1, l2, l3, l4, l5, l6, l7, l8] (aR xg 7 xi :: st) M := e_aldn d47_13 rfl
theorem d47_14 : decode (cod 47) 14 = .ok (.iload_n 2, 1) := by decide +kernel
theorem r47_14 (l0 l1 l3 l4 l5 l6 l7 l8 : AV) (x : Int32) (st : List AV) (M : Mm) : run 47 14 [l0, l1, aI x, l3, l4, l5, l6, l7, l8] st M = run 47 15 [l0, l1, aI x, l3, l4, l5, l6, l7, l8] (aI x :: st) M := e_ildn d47_14 rfl
theorem d47_15 : decode (cod 47) 15 = .ok (.invokevirtual 44, 3) := by decide +kernel
theorem r47_15 (l0 l1 l2 l3 l4 l5 l6 l7 l8 : AV) (a0g a0i : Nat) (a1 : Int32) (M : Mm) : run 47 15 [l0, l1, l2, l3, l4, l5, l6, l7, l8] [aI a1, aR a0g 7 a0i] M = cbI (call 66 [aR a0g 7 a0i, aI a1] M) (fun v M => run 47 18 [l0, l1, l2, l3, l4, l5, l6, l7, l8] [aI v] M) := call_I (n := 2) rfl false d47_15 rfl rfl rfl rfl rfl rfl rfl
theorem d47_18 : decode (cod 47) 18 = .ok (.ireturn, 1) := by decide +kernel
theorem r47_18 (l0 l1 l2 l3 l4 l5 l6 l7 l8 : AV) (v : Int32) (M : Mm) : run 47 18 [l0, l1, l2, l3, l4, l5, l6, l7, l8] [aI v] M = some (some v, M) := e_iret d47_18 rfl
theorem d47_19 : decode (cod 47) 19 = .ok (.iconst 0, 1) := by decide +kernel
theorem r47_19 (l0 l1 l2 l3 l4 l5 l6 l7 l8 : AV) (st : List AV) (M : Mm) : run 47 19 [l0, l1, l2, l3, l4, l5, l6, l7, l8] st M = run 47 20 [l0, l1, l2, l3, l4, l5, l6, l7, l8] (aI 0 :: st) M := e_iconst 0 d47_19 (by decide +kernel)
theorem d47_20 : decode (cod 47) 20 = .ok (.istore_n 3, 1) := by decide +kernel
theorem r47_20 (l0 l1 l2 l3 l4 l5 l6 l7 l8 : AV) (x : Int32) (st : List AV) (M : Mm) : run 47 20 [l0, l1, l2, l3, l4, l5, l6, l7, l8] (aI x :: st) M = run 47 21 [l0, l1, l2, aI x, l4, l5, l6, l7, l8] st M := e_istn [l0, l1, l2, aI x, l4, l5, l6, l7, l8] d47_20 rfl rfl
theorem d47_21 : decode (cod 47) 21 = .ok (.iconst (-1), 1) := by decide +kernel
theorem r47_21 (l0 l1 l2 l3 l4 l5 l6 l7 l8 : AV) (st : List AV) (M : Mm) : run 47 21 [l0, l1, l2, l3, l4, l5, l6, l7, l8] st M = run 47 22 [l0, l1, l2, l3, l4, l5, l6, l7, l8] (aI (-1) :: st) M := e_iconst (-1) d47_21 (by decide +kernel)
theorem d47_22 : decode (cod 47) 22 = .ok (.istore 4, 2) := by decide +kernel
theorem r47_22 (l0 l1 l2 l3 l4 l5 l6 l7 l8 : AV) (x : Int32) (st : List AV) (M : Mm) : run 47 22 [l0, l1, l2, l3, l4, l5, l6, l7, l8] (aI x :: st) M = run 47 24 [l0, l1, l2, l3, aI x, l5, l6, l7, l8] st M := e_ist [l0, l1, l2, l3, aI x, l5, l6, l7, l8] d47_22 rfl rfl
theorem d47_24 : decode (cod 47) 24 = .ok (.iconst 0, 1) := by decide +kernel
theorem r47_24 (l0 l1 l2 l3 l4 l5 l6 l7 l8 : AV) (st : List AV) (M : Mm) : run 47 24 [l0, l1, l2, l3, l4, l5, l6, l7, l8] st M = run 47 25 [l0, l1, l2, l3, l4, l5, l6, l7, l8] (aI 0 :: st) M := e_iconst 0 d47_24 (by decide +kernel)
theorem d47_25 : decode (cod 47) 25 = .ok (.istore 5, 2) := by decide +kernel
theorem r47_25 (l0 l1 l2 l3 l4 l5 l6 l7 l8 : AV) (x : Int32) (st : List AV) (M : Mm) : run 47 25 [l0, l1, l2, l3, l4, l5, l6, l7, l8] (aI x :: st) M = run 47 27 [l0, l1, l2, l3, l4, aI x, l6, l7, l8] st M := e_ist [l0, l1, l2, l3, l4, aI x, l6, l7, l8] d47_25 rfl rfl
theorem d47_27 : decode (cod 47) 27 = .ok (.iconst 0, 1) := by decide +kernel
theorem r47_27 (l0 l1 l2 l3 l4 l5 l6 l7 l8 : AV) (st : List AV) (M : Mm) : run 47 27 [l0, l1, l2, l3, l4, l5, l6, l7, l8] st M = run 47 28 [l0, l1, l2, l3, l4, l5, l6, l7, l8] (aI 0 :: st) M := e_iconst 0 d47_27 (by decide +kernel)
theorem d47_28 : decode (cod 47) 28 = .ok (.istore 6, 2) := by decide +kernel
theorem r47_28 (l0 l1 l2 l3 l4 l5 l6 l7 l8 : AV) (x : Int32) (st : List AV) (M : Mm) : run 47 28 [l0, l1, l2, l3, l4, l5, l6, l7, l8] (aI x :: st) M = run 47 30 [l0, l1, l2, l3, l4, l5, aI x, l7, l8] st M := e_ist [l0, l1, l2, l3, l4, l5, aI x, l7, l8] d47_28 rfl rfl
theorem d47_30 : decode (cod 47) 30 = .ok (.iload 6, 2) := by decide +kernel
theorem r47_30 (l0 l1 l2 l3 l4 l5 l7 l8 : AV) (x : Int32) (st : List AV) (M : Mm) : run 47 30 [l0, l1, l2, l3, l4, l5, aI x, l7, l8] st M = run 47 32 [l0, l1, l2, l3, l4, l5, aI x, l7, l8] (aI x :: st) M := e_ild d47_30 rfl
theorem d47_32 : decode (cod 47) 32 = .ok (.getstatic 111, 3) := by decide +kernel
theorem r47_32 (l0 l1 l2 l3 l4 l5 l6 l7 l8 : AV) (st : List AV) (M : Mm) : run 47 32 [l0, l1, l2, l3, l4, l5, l6, l7, l8] st M = run 47 35 [l0, l1, l2, l3, l4, l5, l6, l7, l8] (aR 9 34 0 :: st) M := e_gst (k := 34) (pl := 491) d47_32 rfl
theorem d47_35 : decode (cod 47) 35 = .ok (.bipush 6, 2) := by decide +kernel
theorem r47_35 (l0 l1 l2 l3 l4 l5 l6 l7 l8 : AV) (st : List AV) (M : Mm) : run 47 35 [l0, l1, l2, l3, l4, l5, l6, l7, l8] st M = run 47 37 [l0, l1, l2, l3, l4, l5, l6, l7, l8] (aI 6 :: st) M := e_bipush 6 d47_35 (by decide +kernel)
theorem d47_37 : decode (cod 47) 37 = .ok (.iaload, 1) := by decide +kernel
theorem r47_37 (l0 l1 l2 l3 l4 l5 l6 l7 l8 : AV) (i : Int32) (xg xi : Nat) (st : List AV) (M : Mm) : run 47 37 [l0, l1, l2, l3, l4, l5, l6, l7, l8] (aI i :: aR xg 34 xi :: st) M = if vpB i 7 = true then run 47 38 [l0, l1, l2, l3, l4, l5, l6, l7, l8] (aI (stV 34 i.toNatClampNeg) :: st) M else none := e_ialk d47_37
theorem d47_38 : decode (cod 47) 38 = .ok (.if_icmp .gt 64, 3) := by decide +kernel
theorem r47_38 (l0 l1 l2 l3 l4 l5 l6 l7 l8 : AV) (a b : Int32) (st : List AV) (M : Mm) : run 47 38 [l0, l1, l2, l3, l4, l5, l6, l7, l8] (aI b :: aI a :: st) M = if b < a then run 47 102 [l0, l1, l2, l3, l4, l5, l6, l7, l8] st M else run 47 41 [l0, l1, l2, l3, l4, l5, l6, l7, l8] st M := e_gt2 102 d47_38 (by decide)
theorem d47_41 : decode (cod 47) 41 = .ok (.aload_n 0, 1) := by decide +kernel
theorem r47_41 (l1 l2 l3 l4 l5 l6 l7 l8 : AV) (xg xi : Nat) (st : List AV) (M : Mm) : run 47 41 [aR xg 7 xi, l1, l2, l3, l4, l5, l6, l7, l8] st M = run 47 42 [aR xg 7 xi, l1, l2, l3, l4, l5, l6, l7, l8] (aR xg 7 xi :: st) M := e_aldn d47_41 rfl
theorem d47_42 : decode (cod 47) 42 = .ok (.bipush 6, 2) := by decide +kernel
theorem r47_42 (l0 l1 l2 l3 l4 l5 l6 l7 l8 : AV) (st : List AV) (M : Mm) : run 47 42 [l0, l1, l2, l3, l4, l5, l6, l7, l8] st M = run 47 44 [l0, l1, l2, l3, l4, l5, l6, l7, l8] (aI 6 :: st) M := e_bipush 6 d47_42 (by decide +kernel)
theorem d47_44 : decode (cod 47) 44 = .ok (.iload 6, 2) := by decide +kernel
theorem r47_44 (l0 l1 l2 l3 l4 l5 l7 l8 : AV) (x : Int32) (st : List AV) (M : Mm) : run 47 44 [l0, l1, l2, l3, l4, l5, aI x, l7, l8] st M = run 47 46 [l0, l1, l2, l3, l4, l5, aI x, l7, l8] (aI x :: st) M := e_ild d47_44 rfl
theorem d47_46 : decode (cod 47) 46 = .ok (.iload_n 1, 1) := by decide +kernel
theorem r47_46 (l0 l2 l3 l4 l5 l6 l7 l8 : AV) (x : Int32) (st : List AV) (M : Mm) : run 47 46 [l0, aI x, l2, l3, l4, l5, l6, l7, l8] st M = run 47 47 [l0, aI x, l2, l3, l4, l5, l6, l7, l8] (aI x :: st) M := e_ildn d47_46 rfl
theorem d47_47 : decode (cod 47) 47 = .ok (.invokevirtual 176, 3) := by decide +kernel
theorem r47_47 (l0 l1 l2 l3 l4 l5 l6 l7 l8 : AV) (a0g a0i : Nat) (a1 : Int32) (a2 : Int32) (a3 : Int32) (M : Mm) : run 47 47 [l0, l1, l2, l3, l4, l5, l6, l7, l8] [aI a3, aI a2, aI a1, aR a0g 7 a0i] M = cbI (call 72 [aR a0g 7 a0i, aI a1, aI a2, aI a3] M) (fun v M => run 47 50 [l0, l1, l2, l3, l4, l5, l6, l7, l8] [aI v] M) := call_I (n := 4) rfl false d47_47 rfl rfl rfl rfl rfl rfl rfl
theorem d47_50 : decode (cod 47) 50 = .ok (.istore 7, 2) := by decide +kernel
theorem r47_50 (l0 l1 l2 l3 l4 l5 l6 l7 l8 : AV) (x : Int32) (st : List AV) (M : Mm) : run 47 50 [l0, l1, l2, l3, l4, l5, l6, l7, l8] (aI x :: st) M = run 47 52 [l0, l1, l2, l3, l4, l5, l6, aI x, l8] st M := e_ist [l0, l1, l2, l3, l4, l5, l6, aI x, l8] d47_50 rfl rfl
theorem d47_52 : decode (cod 47) 52 = .ok (.aload_n 0, 1) := by decide +kernel
theorem r47_52 (l1 l2 l3 l4 l5 l6 l7 l8 : AV) (xg xi : Nat) (st : List AV) (M : Mm) : run 47 52 [aR xg 7 xi, l1, l2, l3, l4, l5, l6, l7, l8] st M = run 47 53 [aR xg 7 xi, l1, l2, l3, l4, l5, l6, l7, l8] (aR xg 7 xi :: st) M := e_aldn d47_52 rfl
theorem d47_53 : decode (cod 47) 53 = .ok (.getfield 16, 3) := by decide +kernel
theorem r47_53 (l0 l1 l2 l3 l4 l5 l6 l7 l8 : AV) (xg xi : Nat) (st : List AV) (M : Mm) : run 47 53 [l0, l1, l2, l3, l4, l5, l6, l7, l8] (aR xg 7 xi :: st) M = run 47 56 [l0, l1, l2, l3, l4, l5, l6, l7, l8] (aR 2 0 0 :: st) M := e_gfr (fun g => (2, 0, 0)) d47_53 rfl rfl rfl
theorem d47_56 : decode (cod 47) 56 = .ok (.getfield 127, 3) := by decide +kernel
theorem r47_56 (l0 l1 l2 l3 l4 l5 l6 l7 l8 : AV) (xg xi : Nat) (st : List AV) (M : Mm) : run 47 56 [l0, l1, l2, l3, l4, l5, l6, l7, l8] (aR xg 0 xi :: st) M = run 47 59 [l0, l1, l2, l3, l4, l5, l6, l7, l8] (aR xg 5 0 :: st) M := e_gfr (fun g => (g, 5, 0)) d47_56 rfl rfl rfl
theorem d47_59 : decode (cod 47) 59 = .ok (.getfield 157, 3) := by decide +kernel
theorem r47_59 (l0 l1 l2 l3 l4 l5 l6 l7 l8 : AV) (xg xi : Nat) (st : List AV) (M : Mm) : run 47 59 [l0, l1, l2, l3, l4, l5, l6, l7, l8] (aR xg 5 xi :: st) M = run 47 62 [l0, l1, l2, l3, l4, l5, l6, l7, l8] (aI (M xg 5 xi 2) :: st) M := e_gfi d47_59 rfl rfl rfl
theorem d47_62 : decode (cod 47) 62 = .ok (.istore 8, 2) := by decide +kernel
theorem r47_62 (l0 l1 l2 l3 l4 l5 l6 l7 l8 : AV) (x : Int32) (st : List AV) (M : Mm) : run 47 62 [l0, l1, l2, l3, l4, l5, l6, l7, l8] (aI x :: st) M = run 47 64 [l0, l1, l2, l3, l4, l5, l6, l7, aI x] st M := e_ist [l0, l1, l2, l3, l4, l5, l6, l7, aI x] d47_62 rfl rfl
theorem d47_64 : decode (cod 47) 64 = .ok (.iload 7, 2) := by decide +kernel
theorem r47_64 (l0 l1 l2 l3 l4 l5 l6 l8 : AV) (x : Int32) (st : List AV) (M : Mm) : run 47 64 [l0, l1, l2, l3, l4, l5, l6, aI x, l8] st M = run 47 66 [l0, l1, l2, l3, l4, l5, l6, aI x, l8] (aI x :: st) M := e_ild d47_64 rfl
theorem d47_66 : decode (cod 47) 66 = .ok (.iload 4, 2) := by decide +kernel
theorem r47_66 (l0 l1 l2 l3 l5 l6 l7 l8 : AV) (x : Int32) (st : List AV) (M : Mm) : run 47 66 [l0, l1, l2, l3, aI x, l5, l6, l7, l8] st M = run 47 68 [l0, l1, l2, l3, aI x, l5, l6, l7, l8] (aI x :: st) M := e_ild d47_66 rfl
theorem d47_68 : decode (cod 47) 68 = .ok (.if_icmp .gt 17, 3) := by decide +kernel
theorem r47_68 (l0 l1 l2 l3 l4 l5 l6 l7 l8 : AV) (a b : Int32) (st : List AV) (M : Mm) : run 47 68 [l0, l1, l2, l3, l4, l5, l6, l7, l8] (aI b :: aI a :: st) M = if b < a then run 47 85 [l0, l1, l2, l3, l4, l5, l6, l7, l8] st M else run 47 71 [l0, l1, l2, l3, l4, l5, l6, l7, l8] st M := e_gt2 85 d47_68 (by decide)
theorem d47_71 : decode (cod 47) 71 = .ok (.iload 7, 2) := by decide +kernel
theorem r47_71 (l0 l1 l2 l3 l4 l5 l6 l8 : AV) (x : Int32) (st : List AV) (M : Mm) : run 47 71 [l0, l1, l2, l3, l4, l5, l6, aI x, l8] st M = run 47 73 [l0, l1, l2, l3, l4, l5, l6, aI x, l8] (aI x :: st) M := e_ild d47_71 rfl
theorem d47_73 : decode (cod 47) 73 = .ok (.iload 4, 2) := by decide +kernel
theorem r47_73 (l0 l1 l2 l3 l5 l6 l7 l8 : AV) (x : Int32) (st : List AV) (M : Mm) : run 47 73 [l0, l1, l2, l3, aI x, l5, l6, l7, l8] st M = run 47 75 [l0, l1, l2, l3, aI x, l5, l6, l7, l8] (aI x :: st) M := e_ild d47_73 rfl
theorem d47_75 : decode (cod 47) 75 = .ok (.if_icmp .ne 21, 3) := by decide +kernel
theorem r47_75 (l0 l1 l2 l3 l4 l5 l6 l7 l8 : AV) (a b : Int32) (st : List AV) (M : Mm) : run 47 75 [l0, l1, l2, l3, l4, l5, l6, l7, l8] (aI b :: aI a :: st) M = if a = b then run 47 78 [l0, l1, l2, l3, l4, l5, l6, l7, l8] st M else run 47 96 [l0, l1, l2, l3, l4, l5, l6, l7, l8] st M := e_ne2 96 d47_75 (by decide)
theorem d47_78 : decode (cod 47) 78 = .ok (.iload 8, 2) := by decide +kernel
theorem r47_78 (l0 l1 l2 l3 l4 l5 l6 l7 : AV) (x : Int32) (st : List AV) (M : Mm) : run 47 78 [l0, l1, l2, l3, l4, l5, l6, l7, aI x] st M = run 47 80 [l0, l1, l2, l3, l4, l5, l6, l7, aI x] (aI x :: st) M := e_ild d47_78 rfl
theorem d47_80 : decode (cod 47) 80 = .ok (.iload 5, 2) := by decide +kernel
theorem r47_80 (l0 l1 l2 l3 l4 l6 l7 l8 : AV) (x : Int32) (st : List AV) (M : Mm) : run 47 80 [l0, l1, l2, l3, l4, aI x, l6, l7, l8] st M = run 47 82 [l0, l1, l2, l3, l4, aI x, l6, l7, l8] (aI x :: st) M := e_ild d47_80 rfl
theorem d47_82 : decode (cod 47) 82 = .ok (.if_icmp .ge 14, 3) := by decide +kernel
theorem r47_82 (l0 l1 l2 l3 l4 l5 l6 l7 l8 : AV) (a b : Int32) (st : List AV) (M : Mm) : run 47 82 [l0, l1, l2, l3, l4, l5, l6, l7, l8] (aI b :: aI a :: st) M = if a < b then run 47 85 [l0, l1, l2, l3, l4, l5, l6, l7, l8] st M else run 47 96 [l0, l1, l2, l3, l4, l5, l6, l7, l8] st M := e_ge2 96 d47_82 (by decide)
theorem d47_85 : decode (cod 47) 85 = .ok (.iload 6, 2) := by decide +kernel
theorem r47_85 (l0 l1 l2 l3 l4 l5 l7 l8 : AV) (x : Int32) (st : List AV) (M : Mm) : run 47 85 [l0, l1, l2, l3, l4, l5, aI x, l7, l8] st M = run 47 87 [l0, l1, l2, l3, l4, l5, aI x, l7, l8] (aI x :: st) M := e_ild d47_85 rfl
theorem d47_87 : decode (cod 47) 87 = .ok (.istore_n 3, 1) := by decide +kernel
theorem r47_87 (l0 l1 l2 l3 l4 l5 l6 l7 l8 : AV) (x : Int32) (st : List AV) (M : Mm) : run 47 87 [l0, l1, l2, l3, l4, l5, l6, l7, l8] (aI x :: st) M = run 47 88 [l0, l1, l2, aI x, l4, l5, l6, l7, l8] st M := e_istn [l0, l1, l2, aI x, l4, l5, l6, l7, l8] d47_87 rfl rfl
theorem d47_88 : decode (cod 47) 88 = .ok (.iload 7, 2) := by decide +kernel
theorem r47_88 (l0 l1 l2 l3 l4 l5 l6 l8 : AV) (x : Int32) (st : List AV) (M : Mm) : run 47 88 [l0, l1, l2, l3, l4, l5, l6, aI x, l8] st M = run 47 90 [l0, l1, l2, l3, l4, l5, l6, aI x, l8] (aI x :: st) M := e_ild d47_88 rfl
theorem d47_90 : decode (cod 47) 90 = .ok (.istore 4, 2) := by decide +kernel
theorem r47_90 (l0 l1 l2 l3 l4 l5 l6 l7 l8 : AV) (x : Int32) (st : List AV) (M : Mm) : run 47 90 [l0, l1, l2, l3, l4, l5, l6, l7, l8] (aI x :: st) M = run 47 92 [l0, l1, l2, l3, aI x, l5, l6, l7, l8] st M := e_ist [l0, l1, l2, l3, aI x, l5, l6, l7, l8] d47_90 rfl rfl
theorem d47_92 : decode (cod 47) 92 = .ok (.iload 8, 2) := by decide +kernel
theorem r47_92 (l0 l1 l2 l3 l4 l5 l6 l7 : AV) (x : Int32) (st : List AV) (M : Mm) : run 47 92 [l0, l1, l2, l3, l4, l5, l6, l7, aI x] st M = run 47 94 [l0, l1, l2, l3, l4, l5, l6, l7, aI x] (aI x :: st) M := e_ild d47_92 rfl
theorem d47_94 : decode (cod 47) 94 = .ok (.istore 5, 2) := by decide +kernel
theorem r47_94 (l0 l1 l2 l3 l4 l5 l6 l7 l8 : AV) (x : Int32) (st : List AV) (M : Mm) : run 47 94 [l0, l1, l2, l3, l4, l5, l6, l7, l8] (aI x :: st) M = run 47 96 [l0, l1, l2, l3, l4, aI x, l6, l7, l8] st M := e_ist [l0, l1, l2, l3, l4, aI x, l6, l7, l8] d47_94 rfl rfl
theorem d47_96 : decode (cod 47) 96 = .ok (.iinc 6 1, 3) := by decide +kernel
theorem r47_96 (l0 l1 l2 l3 l4 l5 l7 l8 : AV) (x : Int32) (st : List AV) (M : Mm) : run 47 96 [l0, l1, l2, l3, l4, l5, aI x, l7, l8] st M = run 47 99 [l0, l1, l2, l3, l4, l5, aI (x + 1), l7, l8] st M := e_iinc 1 [l0, l1, l2, l3, l4, l5, aI (x + 1), l7, l8] d47_96 (by decide +kernel) rfl rfl
theorem d47_99 : decode (cod 47) 99 = .ok (.goto (-69), 3) := by decide +kernel
theorem r47_99 (l0 l1 l2 l3 l4 l5 l6 l7 l8 : AV) (st : List AV) (M : Mm) : run 47 99 [l0, l1, l2, l3, l4, l5, l6, l7, l8] st M = run 47 30 [l0, l1, l2, l3, l4, l5, l6, l7, l8] st M := e_goto 30 d47_99 (by decide)
theorem d47_102 : decode (cod 47) 102 = .ok (.iload_n 3, 1) := by decide +kernel
theorem r47_102 (l0 l1 l2 l4 l5 l6 l7 l8 : AV) (x : Int32) (st : List AV) (M : Mm) : run 47 102 [l0, l1, l2, aI x, l4, l5, l6, l7, l8] st M = run 47 103 [l0, l1, l2, aI x, l4, l5, l6, l7, l8] (aI x :: st) M := e_ildn d47_102 rfl
theorem d47_103 : decode (cod 47) 103 = .ok (.ireturn, 1) := by decide +kernel
theorem r47_103 (l0 l1 l2 l3 l4 l5 l6 l7 l8 : AV) (v : Int32) (M : Mm) : run 47 103 [l0, l1, l2, l3, l4, l5, l6, l7, l8] [aI v] M = some (some v, M) := e_iret d47_103 rfl
theorem c48 (g0 i0 : Nat) (x1 : Int32) (M : Mm) : call 48 [aR g0 7 i0, aI x1] M = run 48 0 [aR g0 7 i0, aI x1, none] [] M := call_run 48 _ _
theorem d48_0 : decode (cod 48) 0 = .ok (.iload_n 1, 1) := by decide +kernel
theorem r48_0 (l0 l2 : AV) (x : Int32) (st : List AV) (M : Mm) : run 48 0 [l0, aI x, l2] st M = run 48 1 [l0, aI x, l2] (aI x :: st) M := e_ildn d48_0 rfl
theorem d48_1 : decode (cod 48) 1 = .ok (.iconst 0, 1) := by decide +kernel
theorem r48_1 (l0 l1 l2 : AV) (st : List AV) (M : Mm) : run 48 1 [l0, l1, l2] st M = run 48 2 [l0, l1, l2] (aI 0 :: st) M := e_iconst 0 d48_1 (by decide +kernel)
theorem d48_2 : decode (cod 48) 2 = .ok (.sipush 240, 3) := by decide +kernel
theorem r48_2 (l0 l1 l2 : AV) (st : List AV) (M : Mm) : run 48 2 [l0, l1, l2] st M = run 48 5 [l0, l1, l2] (aI 240 :: st) M := e_sipush 240 d48_2 (by decide +kernel)
theorem d48_5 : decode (cod 48) 5 = .ok (.invokestatic 100, 3) := by decide +kernel
theorem r48_5 (l0 l1 l2 : AV) (a0 : Int32) (a1 : Int32) (a2 : Int32) (M : Mm) : run 48 5 [l0, l1, l2] [aI a2, aI a1, aI a0] M = cbI (call 67 [aI a0, aI a1, aI a2] M) (fun v M => run 48 8 [l0, l1, l2] [aI v] M) := call_I (n := 3) rfl true d48_5 rfl rfl rfl rfl rfl rfl rfl
theorem d48_8 : decode (cod 48) 8 = .ok (.istore_n 2, 1) := by decide +kernel
theorem r48_8 (l0 l1 l2 : AV) (x : Int32) (st : List AV) (M : Mm) : run 48 8 [l0, l1, l2] (aI x :: st) M = run 48 9 [l0, l1, aI x] st M := e_istn [l0, l1, aI x] d48_8 rfl rfl
theorem d48_9 : decode (cod 48) 9 = .ok (.iload_n 2, 1) := by decide +kernel
theorem r48_9 (l0 l1 : AV) (x : Int32) (st : List AV) (M : Mm) : run 48 9 [l0, l1, aI x] st M = run 48 10 [l0, l1, aI x] (aI x :: st) M := e_ildn d48_9 rfl
theorem d48_10 : decode (cod 48) 10 = .ok (.ifCond .eq 11, 3) := by decide +kernel
theorem r48_10 (l0 l1 l2 : AV) (a : Int32) (st : List AV) (M : Mm) : run 48 10 [l0, l1, l2] (aI a :: st) M = if a = 0 then run 48 21 [l0, l1, l2] st M else run 48 13 [l0, l1, l2] st M := e_eq1 21 d48_10 (by decide)
theorem d48_13 : decode (cod 48) 13 = .ok (.aload_n 0, 1) := by decide +kernel
theorem r48_13 (l1 l2 : AV) (xg xi : Nat) (st : List AV) (M : Mm) : run 48 13 [aR xg 7 xi, l1, l2] st M = run 48 14 [aR xg 7 xi, l1, l2] (aR xg 7 xi :: st) M := e_aldn d48_13 rfl
theorem d48_14 : decode (cod 48) 14 = .ok (.iload_n 2, 1) := by decide +kernel
theorem r48_14 (l0 l1 : AV) (x : Int32) (st : List AV) (M : Mm) : run 48 14 [l0, l1, aI x] st M = run 48 15 [l0, l1, aI x] (aI x :: st) M := e_ildn d48_14 rfl
theorem d48_15 : decode (cod 48) 15 = .ok (.invokevirtual 44, 3) := by decide +kernel
theorem r48_15 (l0 l1 l2 : AV) (a0g a0i : Nat) (a1 : Int32) (M : Mm) : run 48 15 [l0, l1, l2] [aI a1, aR a0g 7 a0i] M = cbI (call 66 [aR a0g 7 a0i, aI a1] M) (fun v M => run 48 18 [l0, l1, l2] [aI v] M) := call_I (n := 2) rfl false d48_15 rfl rfl rfl rfl rfl rfl rfl
theorem d48_18 : decode (cod 48) 18 = .ok (.goto 10, 3) := by decide +kernel
theorem r48_18 (l0 l1 l2 : AV) (st : List AV) (M : Mm) : run 48 18 [l0, l1, l2] st M = run 48 28 [l0, l1, l2] st M := e_goto 28 d48_18 (by decide)
theorem d48_21 : decode (cod 48) 21 = .ok (.aload_n 0, 1) := by decide +kernel
theorem r48_21 (l1 l2 : AV) (xg xi : Nat) (st : List AV) (M : Mm) : run 48 21 [aR xg 7 xi, l1, l2] st M = run 48 22 [aR xg 7 xi, l1, l2] (aR xg 7 xi :: st) M := e_aldn d48_21 rfl
theorem d48_22 : decode (cod 48) 22 = .ok (.iconst 1, 1) := by decide +kernel
theorem r48_22 (l0 l1 l2 : AV) (st : List AV) (M : Mm) : run 48 22 [l0, l1, l2] st M = run 48 23 [l0, l1, l2] (aI 1 :: st) M := e_iconst 1 d48_22 (by decide +kernel)
theorem d48_23 : decode (cod 48) 23 = .ok (.iconst 1, 1) := by decide +kernel
theorem r48_23 (l0 l1 l2 : AV) (st : List AV) (M : Mm) : run 48 23 [l0, l1, l2] st M = run 48 24 [l0, l1, l2] (aI 1 :: st) M := e_iconst 1 d48_23 (by decide +kernel)
theorem d48_24 : decode (cod 48) 24 = .ok (.iload_n 1, 1) := by decide +kernel
theorem r48_24 (l0 l2 : AV) (x : Int32) (st : List AV) (M : Mm) : run 48 24 [l0, aI x, l2] st M = run 48 25 [l0, aI x, l2] (aI x :: st) M := e_ildn d48_24 rfl
theorem d48_25 : decode (cod 48) 25 = .ok (.invokevirtual 179, 3) := by decide +kernel
theorem r48_25 (l0 l1 l2 : AV) (a0g a0i : Nat) (a1 : Int32) (a2 : Int32) (a3 : Int32) (M : Mm) : run 48 25 [l0, l1, l2] [aI a3, aI a2, aI a1, aR a0g 7 a0i] M = cbI (call 74 [aR a0g 7 a0i, aI a1, aI a2, aI a3] M) (fun v M => run 48 28 [l0, l1, l2] [aI v] M) := call_I (n := 4) rfl false d48_25 rfl rfl rfl rfl rfl rfl rfl
theorem d48_28 : decode (cod 48) 28 = .ok (.ireturn, 1) := by decide +kernel
theorem r48_28 (l0 l1 l2 : AV) (v : Int32) (M : Mm) : run 48 28 [l0, l1, l2] [aI v] M = some (some v, M) := e_iret d48_28 rfl
theorem c49 (g0 i0 : Nat) (x1 : Int32) (M : Mm) : call 49 [aR g0 7 i0, aI x1] M = run 49 0 [aR g0 7 i0, aI x1, none] [] M := call_run 49 _ _
theorem d49_0 : decode (cod 49) 0 = .ok (.iload_n 1, 1) := by decide +kernel
theorem r49_0 (l0 l2 : AV) (x : Int32) (st : List AV) (M : Mm) : run 49 0 [l0, aI x, l2] st M = run 49 1 [l0, aI x, l2] (aI x :: st) M := e_ildn d49_0 rfl
theorem d49_1 : decode (cod 49) 1 = .ok (.iconst 0, 1) := by decide +kernel
theorem r49_1 (l0 l1 l2 : AV) (st : List AV) (M : Mm) : run 49 1 [l0, l1, l2] st M = run 49 2 [l0, l1, l2] (aI 0 :: st) M := e_iconst 0 d49_1 (by decide +kernel)
theorem d49_2 : decode (cod 49) 2 = .ok (.sipush 240, 3) := by decide +kernel
theorem r49_2 (l0 l1 l2 : AV) (st : List AV) (M : Mm) : run 49 2 [l0, l1, l2] st M = run 49 5 [l0, l1, l2] (aI 240 :: st) M := e_sipush 240 d49_2 (by decide +kernel)
theorem d49_5 : decode (cod 49) 5 = .ok (.invokestatic 100, 3) := by decide +kernel
theorem r49_5 (l0 l1 l2 : AV) (a0 : Int32) (a1 : Int32) (a2 : Int32) (M : Mm) : run 49 5 [l0, l1, l2] [aI a2, aI a1, aI a0] M = cbI (call 67 [aI a0, aI a1, aI a2] M) (fun v M => run 49 8 [l0, l1, l2] [aI v] M) := call_I (n := 3) rfl true d49_5 rfl rfl rfl rfl rfl rfl rfl
theorem d49_8 : decode (cod 49) 8 = .ok (.istore_n 2, 1) := by decide +kernel
theorem r49_8 (l0 l1 l2 : AV) (x : Int32) (st : List AV) (M : Mm) : run 49 8 [l0, l1, l2] (aI x :: st) M = run 49 9 [l0, l1, aI x] st M := e_istn [l0, l1, aI x] d49_8 rfl rfl
theorem d49_9 : decode (cod 49) 9 = .ok (.iload_n 2, 1) := by decide +kernel
theorem r49_9 (l0 l1 : AV) (x : Int32) (st : List AV) (M : Mm) : run 49 9 [l0, l1, aI x] st M = run 49 10 [l0, l1, aI x] (aI x :: st) M := e_ildn d49_9 rfl
theorem d49_10 : decode (cod 49) 10 = .ok (.ifCond .eq 11, 3) := by decide +kernel
theorem r49_10 (l0 l1 l2 : AV) (a : Int32) (st : List AV) (M : Mm) : run 49 10 [l0, l1, l2] (aI a :: st) M = if a = 0 then run 49 21 [l0, l1, l2] st M else run 49 13 [l0, l1, l2] st M := e_eq1 21 d49_10 (by decide)
theorem d49_13 : decode (cod 49) 13 = .ok (.aload_n 0, 1) := by decide +kernel
theorem r49_13 (l1 l2 : AV) (xg xi : Nat) (st : List AV) (M : Mm) : run 49 13 [aR xg 7 xi, l1, l2] st M = run 49 14 [aR xg 7 xi, l1, l2] (aR xg 7 xi :: st) M := e_aldn d49_13 rfl
theorem d49_14 : decode (cod 49) 14 = .ok (.iload_n 2, 1) := by decide +kernel
theorem r49_14 (l0 l1 : AV) (x : Int32) (st : List AV) (M : Mm) : run 49 14 [l0, l1, aI x] st M = run 49 15 [l0, l1, aI x] (aI x :: st) M := e_ildn d49_14 rfl
theorem d49_15 : decode (cod 49) 15 = .ok (.invokevirtual 44, 3) := by decide +kernel
theorem r49_15 (l0 l1 l2 : AV) (a0g a0i : Nat) (a1 : Int32) (M : Mm) : run 49 15 [l0, l1, l2] [aI a1, aR a0g 7 a0i] M = cbI (call 66 [aR a0g 7 a0i, aI a1] M) (fun v M => run 49 18 [l0, l1, l2] [aI v] M) := call_I (n := 2) rfl false d49_15 rfl rfl rfl rfl rfl rfl rfl
theorem d49_18 : decode (cod 49) 18 = .ok (.goto 11, 3) := by decide +kernel
theorem r49_18 (l0 l1 l2 : AV) (st : List AV) (M : Mm) : run 49 18 [l0, l1, l2] st M = run 49 29 [l0, l1, l2] st M := e_goto 29 d49_18 (by decide)
theorem d49_21 : decode (cod 49) 21 = .ok (.aload_n 0, 1) := by decide +kernel
theorem r49_21 (l1 l2 : AV) (xg xi : Nat) (st : List AV) (M : Mm) : run 49 21 [aR xg 7 xi, l1, l2] st M = run 49 22 [aR xg 7 xi, l1, l2] (aR xg 7 xi :: st) M := e_aldn d49_21 rfl
theorem d49_22 : decode (cod 49) 22 = .ok (.iconst 4, 1) := by decide +kernel
theorem r49_22 (l0 l1 l2 : AV) (st : List AV) (M : Mm) : run 49 22 [l0, l1, l2] st M = run 49 23 [l0, l1, l2] (aI 4 :: st) M := e_iconst 4 d49_22 (by decide +kernel)
theorem d49_23 : decode (cod 49) 23 = .ok (.bipush 10, 2) := by decide +kernel
theorem r49_23 (l0 l1 l2 : AV) (st : List AV) (M : Mm) : run 49 23 [l0, l1, l2] st M = run 49 25 [l0, l1, l2] (aI 10 :: st) M := e_bipush 10 d49_23 (by decide +kernel)
theorem d49_25 : decode (cod 49) 25 = .ok (.iload_n 1, 1) := by decide +kernel
theorem r49_25 (l0 l2 : AV) (x : Int32) (st : List AV) (M : Mm) : run 49 25 [l0, aI x, l2] st M = run 49 26 [l0, aI x, l2] (aI x :: st) M := e_ildn d49_25 rfl
theorem d49_26 : decode (cod 49) 26 = .ok (.invokevirtual 179, 3) := by decide +kernel
theorem r49_26 (l0 l1 l2 : AV) (a0g a0i : Nat) (a1 : Int32) (a2 : Int32) (a3 : Int32) (M : Mm) : run 49 26 [l0, l1, l2] [aI a3, aI a2, aI a1, aR a0g 7 a0i] M = cbI (call 74 [aR a0g 7 a0i, aI a1, aI a2, aI a3] M) (fun v M => run 49 29 [l0, l1, l2] [aI v] M) := call_I (n := 4) rfl false d49_26 rfl rfl rfl rfl rfl rfl rfl
theorem d49_29 : decode (cod 49) 29 = .ok (.ireturn, 1) := by decide +kernel
theorem r49_29 (l0 l1 l2 : AV) (v : Int32) (M : Mm) : run 49 29 [l0, l1, l2] [aI v] M = some (some v, M) := e_iret d49_29 rfl
theorem c50 (g0 i0 : Nat) (x1 : Int32) (M : Mm) : call 50 [aR g0 7 i0, aI x1] M = run 50 0 [aR g0 7 i0, aI x1, none] [] M := call_run 50 _ _
theorem d50_0 : decode (cod 50) 0 = .ok (.iload_n 1, 1) := by decide +kernel
theorem r50_0 (l0 l2 : AV) (x : Int32) (st : List AV) (M : Mm) : run 50 0 [l0, aI x, l2] st M = run 50 1 [l0, aI x, l2] (aI x :: st) M := e_ildn d50_0 rfl
theorem d50_1 : decode (cod 50) 1 = .ok (.iconst 0, 1) := by decide +kernel
theorem r50_1 (l0 l1 l2 : AV) (st : List AV) (M : Mm) : run 50 1 [l0, l1, l2] st M = run 50 2 [l0, l1, l2] (aI 0 :: st) M := e_iconst 0 d50_1 (by decide +kernel)
theorem d50_2 : decode (cod 50) 2 = .ok (.sipush 240, 3) := by decide +kernel
theorem r50_2 (l0 l1 l2 : AV) (st : List AV) (M : Mm) : run 50 2 [l0, l1, l2] st M = run 50 5 [l0, l1, l2] (aI 240 :: st) M := e_sipush 240 d50_2 (by decide +kernel)
theorem d50_5 : decode (cod 50) 5 = .ok (.invokestatic 100, 3) := by decide +kernel
theorem r50_5 (l0 l1 l2 : AV) (a0 : Int32) (a1 : Int32) (a2 : Int32) (M : Mm) : run 50 5 [l0, l1, l2] [aI a2, aI a1, aI a0] M = cbI (call 67 [aI a0, aI a1, aI a2] M) (fun v M => run 50 8 [l0, l1, l2] [aI v] M) := call_I (n := 3) rfl true d50_5 rfl rfl rfl rfl rfl rfl rfl
theorem d50_8 : decode (cod 50) 8 = .ok (.istore_n 2, 1) := by decide +kernel
theorem r50_8 (l0 l1 l2 : AV) (x : Int32) (st : List AV) (M : Mm) : run 50 8 [l0, l1, l2] (aI x :: st) M = run 50 9 [l0, l1, aI x] st M := e_istn [l0, l1, aI x] d50_8 rfl rfl
theorem d50_9 : decode (cod 50) 9 = .ok (.iload_n 2, 1) := by decide +kernel
theorem r50_9 (l0 l1 : AV) (x : Int32) (st : List AV) (M : Mm) : run 50 9 [l0, l1, aI x] st M = run 50 10 [l0, l1, aI x] (aI x :: st) M := e_ildn d50_9 rfl
theorem d50_10 : decode (cod 50) 10 = .ok (.ifCond .ne 17, 3) := by decide +kernel
theorem r50_10 (l0 l1 l2 : AV) (a : Int32) (st : List AV) (M : Mm) : run 50 10 [l0, l1, l2] (aI a :: st) M = if a = 0 then run 50 13 [l0, l1, l2] st M else run 50 27 [l0, l1, l2] st M := e_ne1 27 d50_10 (by decide)
theorem d50_13 : decode (cod 50) 13 = .ok (.aload_n 0, 1) := by decide +kernel
theorem r50_13 (l1 l2 : AV) (xg xi : Nat) (st : List AV) (M : Mm) : run 50 13 [aR xg 7 xi, l1, l2] st M = run 50 14 [aR xg 7 xi, l1, l2] (aR xg 7 xi :: st) M := e_aldn d50_13 rfl
theorem d50_14 : decode (cod 50) 14 = .ok (.getfield 10, 3) := by decide +kernel
theorem r50_14 (l0 l1 l2 : AV) (xg xi : Nat) (st : List AV) (M : Mm) : run 50 14 [l0, l1, l2] (aR xg 7 xi :: st) M = run 50 17 [l0, l1, l2] (aR 1 0 0 :: st) M := e_gfr (fun g => (1, 0, 0)) d50_14 rfl rfl rfl
theorem d50_17 : decode (cod 50) 17 = .ok (.getfield 136, 3) := by decide +kernel
theorem r50_17 (l0 l1 l2 : AV) (xg xi : Nat) (st : List AV) (M : Mm) : run 50 17 [l0, l1, l2] (aR xg 0 xi :: st) M = run 50 20 [l0, l1, l2] (aI (M xg 0 xi 3) :: st) M := e_gfi d50_17 rfl rfl rfl
theorem d50_20 : decode (cod 50) 20 = .ok (.iconst 3, 1) := by decide +kernel
theorem r50_20 (l0 l1 l2 : AV) (st : List AV) (M : Mm) : run 50 20 [l0, l1, l2] st M = run 50 21 [l0, l1, l2] (aI 3 :: st) M := e_iconst 3 d50_20 (by decide +kernel)
theorem d50_21 : decode (cod 50) 21 = .ok (.if_icmp .lt 6, 3) := by decide +kernel
theorem r50_21 (l0 l1 l2 : AV) (a b : Int32) (st : List AV) (M : Mm) : run 50 21 [l0, l1, l2] (aI b :: aI a :: st) M = if a < b then run 50 27 [l0, l1, l2] st M else run 50 24 [l0, l1, l2] st M := e_lt2 27 d50_21 (by decide)
theorem d50_24 : decode (cod 50) 24 = .ok (.bipush (-3), 2) := by decide +kernel
theorem r50_24 (l0 l1 l2 : AV) (st : List AV) (M : Mm) : run 50 24 [l0, l1, l2] st M = run 50 26 [l0, l1, l2] (aI (-3) :: st) M := e_bipush (-3) d50_24 (by decide +kernel)
theorem d50_26 : decode (cod 50) 26 = .ok (.istore_n 2, 1) := by decide +kernel
theorem r50_26 (l0 l1 l2 : AV) (x : Int32) (st : List AV) (M : Mm) : run 50 26 [l0, l1, l2] (aI x :: st) M = run 50 27 [l0, l1, aI x] st M := e_istn [l0, l1, aI x] d50_26 rfl rfl
theorem d50_27 : decode (cod 50) 27 = .ok (.iload_n 2, 1) := by decide +kernel
theorem r50_27 (l0 l1 : AV) (x : Int32) (st : List AV) (M : Mm) : run 50 27 [l0, l1, aI x] st M = run 50 28 [l0, l1, aI x] (aI x :: st) M := e_ildn d50_27 rfl
theorem d50_28 : decode (cod 50) 28 = .ok (.ifCond .eq 12, 3) := by decide +kernel
theorem r50_28 (l0 l1 l2 : AV) (a : Int32) (st : List AV) (M : Mm) : run 50 28 [l0, l1, l2] (aI a :: st) M = if a = 0 then run 50 40 [l0, l1, l2] st M else run 50 31 [l0, l1, l2] st M := e_eq1 40 d50_28 (by decide)
theorem d50_31 : decode (cod 50) 31 = .ok (.ldc 182, 2) := by decide +kernel
theorem r50_31 (l0 l1 l2 : AV) (st : List AV) (M : Mm) : run 50 31 [l0, l1, l2] st M = run 50 33 [l0, l1, l2] (aI 1000000000 :: st) M := e_ldc d50_31 rfl
theorem d50_33 : decode (cod 50) 33 = .ok (.aload_n 0, 1) := by decide +kernel
theorem r50_33 (l1 l2 : AV) (xg xi : Nat) (st : List AV) (M : Mm) : run 50 33 [aR xg 7 xi, l1, l2] st M = run 50 34 [aR xg 7 xi, l1, l2] (aR xg 7 xi :: st) M := e_aldn d50_33 rfl
theorem d50_34 : decode (cod 50) 34 = .ok (.iload_n 2, 1) := by decide +kernel
theorem r50_34 (l0 l1 : AV) (x : Int32) (st : List AV) (M : Mm) : run 50 34 [l0, l1, aI x] st M = run 50 35 [l0, l1, aI x] (aI x :: st) M := e_ildn d50_34 rfl
theorem d50_35 : decode (cod 50) 35 = .ok (.invokevirtual 44, 3) := by decide +kernel
theorem r50_35 (l0 l1 l2 : AV) (a0g a0i : Nat) (a1 : Int32) (t0 : AV) (M : Mm) : run 50 35 [l0, l1, l2] [aI a1, aR a0g 7 a0i, t0] M = cbI (call 66 [aR a0g 7 a0i, aI a1] M) (fun v M => run 50 38 [l0, l1, l2] [aI v, t0] M) := call_I (n := 2) rfl false d50_35 rfl rfl rfl rfl rfl rfl rfl
theorem d50_38 : decode (cod 50) 38 = .ok (.isub, 1) := by decide +kernel
theorem r50_38 (l0 l1 l2 : AV) (a b : Int32) (st : List AV) (M : Mm) : run 50 38 [l0, l1, l2] (aI b :: aI a :: st) M = run 50 39 [l0, l1, l2] (aI (a - b) :: st) M := e_isub d50_38
theorem d50_39 : decode (cod 50) 39 = .ok (.ireturn, 1) := by decide +kernel
theorem r50_39 (l0 l1 l2 : AV) (v : Int32) (M : Mm) : run 50 39 [l0, l1, l2] [aI v] M = some (some v, M) := e_iret d50_39 rfl
theorem d50_40 : decode (cod 50) 40 = .ok (.aload_n 0, 1) := by decide +kernel
theorem r50_40 (l1 l2 : AV) (xg xi : Nat) (st : List AV) (M : Mm) : run 50 40 [aR xg 7 xi, l1, l2] st M = run 50 41 [aR xg 7 xi, l1, l2] (aR xg 7 xi :: st) M := e_aldn d50_40 rfl
theorem d50_41 : decode (cod 50) 41 = .ok (.iconst 0, 1) := by decide +kernel
theorem r50_41 (l0 l1 l2 : AV) (st : List AV) (M : Mm) : run 50 41 [l0, l1, l2] st M = run 50 42 [l0, l1, l2] (aI 0 :: st) M := e_iconst 0 d50_41 (by decide +kernel)
theorem d50_42 : decode (cod 50) 42 = .ok (.aload_n 0, 1) := by decide +kernel
theorem r50_42 (l1 l2 : AV) (xg xi : Nat) (st : List AV) (M : Mm) : run 50 42 [aR xg 7 xi, l1, l2] st M = run 50 43 [aR xg 7 xi, l1, l2] (aR xg 7 xi :: st) M := e_aldn d50_42 rfl
theorem d50_43 : decode (cod 50) 43 = .ok (.getfield 10, 3) := by decide +kernel
theorem r50_43 (l0 l1 l2 : AV) (xg xi : Nat) (st : List AV) (M : Mm) : run 50 43 [l0, l1, l2] (aR xg 7 xi :: st) M = run 50 46 [l0, l1, l2] (aR 1 0 0 :: st) M := e_gfr (fun g => (1, 0, 0)) d50_43 rfl rfl rfl
theorem d50_46 : decode (cod 50) 46 = .ok (.getfield 136, 3) := by decide +kernel
theorem r50_46 (l0 l1 l2 : AV) (xg xi : Nat) (st : List AV) (M : Mm) : run 50 46 [l0, l1, l2] (aR xg 0 xi :: st) M = run 50 49 [l0, l1, l2] (aI (M xg 0 xi 3) :: st) M := e_gfi d50_46 rfl rfl rfl
theorem d50_49 : decode (cod 50) 49 = .ok (.iconst 1, 1) := by decide +kernel
theorem r50_49 (l0 l1 l2 : AV) (st : List AV) (M : Mm) : run 50 49 [l0, l1, l2] st M = run 50 50 [l0, l1, l2] (aI 1 :: st) M := e_iconst 1 d50_49 (by decide +kernel)
theorem d50_50 : decode (cod 50) 50 = .ok (.iadd, 1) := by decide +kernel
theorem r50_50 (l0 l1 l2 : AV) (a b : Int32) (st : List AV) (M : Mm) : run 50 50 [l0, l1, l2] (aI b :: aI a :: st) M = run 50 51 [l0, l1, l2] (aI (a + b) :: st) M := e_iadd d50_50
theorem d50_51 : decode (cod 50) 51 = .ok (.iload_n 1, 1) := by decide +kernel
theorem r50_51 (l0 l2 : AV) (x : Int32) (st : List AV) (M : Mm) : run 50 51 [l0, aI x, l2] st M = run 50 52 [l0, aI x, l2] (aI x :: st) M := e_ildn d50_51 rfl
theorem d50_52 : decode (cod 50) 52 = .ok (.invokevirtual 176, 3) := by decide +kernel
theorem r50_52 (l0 l1 l2 : AV) (a0g a0i : Nat) (a1 : Int32) (a2 : Int32) (a3 : Int32) (M : Mm) : run 50 52 [l0, l1, l2] [aI a3, aI a2, aI a1, aR a0g 7 a0i] M = cbI (call 72 [aR a0g 7 a0i, aI a1, aI a2, aI a3] M) (fun v M => run 50 55 [l0, l1, l2] [aI v] M) := call_I (n := 4) rfl false d50_52 rfl rfl rfl rfl rfl rfl rfl
theorem d50_55 : decode (cod 50) 55 = .ok (.aload_n 0, 1) := by decide +kernel
theorem r50_55 (l1 l2 : AV) (xg xi : Nat) (st : List AV) (M : Mm) : run 50 55 [aR xg 7 xi, l1, l2] st M = run 50 56 [aR xg 7 xi, l1, l2] (aR xg 7 xi :: st) M := e_aldn d50_55 rfl
theorem d50_56 : decode (cod 50) 56 = .ok (.iload_n 1, 1) := by decide +kernel
theorem r50_56 (l0 l2 : AV) (x : Int32) (st : List AV) (M : Mm) : run 50 56 [l0, aI x, l2] st M = run 50 57 [l0, aI x, l2] (aI x :: st) M := e_ildn d50_56 rfl
theorem d50_57 : decode (cod 50) 57 = .ok (.invokevirtual 183, 3) := by decide +kernel
theorem r50_57 (l0 l1 l2 : AV) (a0g a0i : Nat) (a1 : Int32) (t0 : AV) (M : Mm) : run 50 57 [l0, l1, l2] [aI a1, aR a0g 7 a0i, t0] M = cbI (call 71 [aR a0g 7 a0i, aI a1] M) (fun v M => run 50 60 [l0, l1, l2] [aI v, t0] M) := call_I (n := 2) rfl false d50_57 rfl rfl rfl rfl rfl rfl rfl
theorem d50_60 : decode (cod 50) 60 = .ok (.isub, 1) := by decide +kernel
theorem r50_60 (l0 l1 l2 : AV) (a b : Int32) (st : List AV) (M : Mm) : run 50 60 [l0, l1, l2] (aI b :: aI a :: st) M = run 50 61 [l0, l1, l2] (aI (a - b) :: st) M := e_isub d50_60
theorem d50_61 : decode (cod 50) 61 = .ok (.ireturn, 1) := by decide +kernel
theorem r50_61 (l0 l1 l2 : AV) (v : Int32) (M : Mm) : run 50 61 [l0, l1, l2] [aI v] M = some (some v, M) := e_iret d50_61 rfl
theorem c51 (g0 i0 : Nat) (x1 : Int32) (M : Mm) : call 51 [aR g0 7 i0, aI x1] M = run 51 0 [aR g0 7 i0, aI x1, none] [] M := call_run 51 _ _
theorem d51_0 : decode (cod 51) 0 = .ok (.iload_n 1, 1) := by decide +kernel
theorem r51_0 (l0 l2 : AV) (x : Int32) (st : List AV) (M : Mm) : run 51 0 [l0, aI x, l2] st M = run 51 1 [l0, aI x, l2] (aI x :: st) M := e_ildn d51_0 rfl
theorem d51_1 : decode (cod 51) 1 = .ok (.iconst 0, 1) := by decide +kernel
theorem r51_1 (l0 l1 l2 : AV) (st : List AV) (M : Mm) : run 51 1 [l0, l1, l2] st M = run 51 2 [l0, l1, l2] (aI 0 :: st) M := e_iconst 0 d51_1 (by decide +kernel)
theorem d51_2 : decode (cod 51) 2 = .ok (.sipush 240, 3) := by decide +kernel
theorem r51_2 (l0 l1 l2 : AV) (st : List AV) (M : Mm) : run 51 2 [l0, l1, l2] st M = run 51 5 [l0, l1, l2] (aI 240 :: st) M := e_sipush 240 d51_2 (by decide +kernel)
theorem d51_5 : decode (cod 51) 5 = .ok (.invokestatic 100, 3) := by decide +kernel
theorem r51_5 (l0 l1 l2 : AV) (a0 : Int32) (a1 : Int32) (a2 : Int32) (M : Mm) : run 51 5 [l0, l1, l2] [aI a2, aI a1, aI a0] M = cbI (call 67 [aI a0, aI a1, aI a2] M) (fun v M => run 51 8 [l0, l1, l2] [aI v] M) := call_I (n := 3) rfl true d51_5 rfl rfl rfl rfl rfl rfl rfl
theorem d51_8 : decode (cod 51) 8 = .ok (.istore_n 2, 1) := by decide +kernel
theorem r51_8 (l0 l1 l2 : AV) (x : Int32) (st : List AV) (M : Mm) : run 51 8 [l0, l1, l2] (aI x :: st) M = run 51 9 [l0, l1, aI x] st M := e_istn [l0, l1, aI x] d51_8 rfl rfl
theorem d51_9 : decode (cod 51) 9 = .ok (.iload_n 2, 1) := by decide +kernel
theorem r51_9 (l0 l1 : AV) (x : Int32) (st : List AV) (M : Mm) : run 51 9 [l0, l1, aI x] st M = run 51 10 [l0, l1, aI x] (aI x :: st) M := e_ildn d51_9 rfl
theorem d51_10 : decode (cod 51) 10 = .ok (.ifCond .eq 12, 3) := by decide +kernel
theorem r51_10 (l0 l1 l2 : AV) (a : Int32) (st : List AV) (M : Mm) : run 51 10 [l0, l1, l2] (aI a :: st) M = if a = 0 then run 51 22 [l0, l1, l2] st M else run 51 13 [l0, l1, l2] st M := e_eq1 22 d51_10 (by decide)
theorem d51_13 : decode (cod 51) 13 = .ok (.ldc 182, 2) := by decide +kernel
theorem r51_13 (l0 l1 l2 : AV) (st : List AV) (M : Mm) : run 51 13 [l0, l1, l2] st M = run 51 15 [l0, l1, l2] (aI 1000000000 :: st) M := e_ldc d51_13 rfl
theorem d51_15 : decode (cod 51) 15 = .ok (.aload_n 0, 1) := by decide +kernel
theorem r51_15 (l1 l2 : AV) (xg xi : Nat) (st : List AV) (M : Mm) : run 51 15 [aR xg 7 xi, l1, l2] st M = run 51 16 [aR xg 7 xi, l1, l2] (aR xg 7 xi :: st) M := e_aldn d51_15 rfl
theorem d51_16 : decode (cod 51) 16 = .ok (.iload_n 2, 1) := by decide +kernel
theorem r51_16 (l0 l1 : AV) (x : Int32) (st : List AV) (M : Mm) : run 51 16 [l0, l1, aI x] st M = run 51 17 [l0, l1, aI x] (aI x :: st) M := e_ildn d51_16 rfl
theorem d51_17 : decode (cod 51) 17 = .ok (.invokevirtual 44, 3) := by decide +kernel
theorem r51_17 (l0 l1 l2 : AV) (a0g a0i : Nat) (a1 : Int32) (t0 : AV) (M : Mm) : run 51 17 [l0, l1, l2] [aI a1, aR a0g 7 a0i, t0] M = cbI (call 66 [aR a0g 7 a0i, aI a1] M) (fun v M => run 51 20 [l0, l1, l2] [aI v, t0] M) := call_I (n := 2) rfl false d51_17 rfl rfl rfl rfl rfl rfl rfl
theorem d51_20 : decode (cod 51) 20 = .ok (.isub, 1) := by decide +kernel
theorem r51_20 (l0 l1 l2 : AV) (a b : Int32) (st : List AV) (M : Mm) : run 51 20 [l0, l1, l2] (aI b :: aI a :: st) M = run 51 21 [l0, l1, l2] (aI (a - b) :: st) M := e_isub d51_20
theorem d51_21 : decode (cod 51) 21 = .ok (.ireturn, 1) := by decide +kernel
theorem r51_21 (l0 l1 l2 : AV) (v : Int32) (M : Mm) : run 51 21 [l0, l1, l2] [aI v] M = some (some v, M) := e_iret d51_21 rfl
theorem d51_22 : decode (cod 51) 22 = .ok (.aload_n 0, 1) := by decide +kernel
theorem r51_22 (l1 l2 : AV) (xg xi : Nat) (st : List AV) (M : Mm) : run 51 22 [aR xg 7 xi, l1, l2] st M = run 51 23 [aR xg 7 xi, l1, l2] (aR xg 7 xi :: st) M := e_aldn d51_22 rfl
theorem d51_23 : decode (cod 51) 23 = .ok (.iconst 2, 1) := by decide +kernel
theorem r51_23 (l0 l1 l2 : AV) (st : List AV) (M : Mm) : run 51 23 [l0, l1, l2] st M = run 51 24 [l0, l1, l2] (aI 2 :: st) M := e_iconst 2 d51_23 (by decide +kernel)
theorem d51_24 : decode (cod 51) 24 = .ok (.iconst 1, 1) := by decide +kernel
theorem r51_24 (l0 l1 l2 : AV) (st : List AV) (M : Mm) : run 51 24 [l0, l1, l2] st M = run 51 25 [l0, l1, l2] (aI 1 :: st) M := e_iconst 1 d51_24 (by decide +kernel)
theorem d51_25 : decode (cod 51) 25 = .ok (.iload_n 1, 1) := by decide +kernel
theorem r51_25 (l0 l2 : AV) (x : Int32) (st : List AV) (M : Mm) : run 51 25 [l0, aI x, l2] st M = run 51 26 [l0, aI x, l2] (aI x :: st) M := e_ildn d51_25 rfl
theorem d51_26 : decode (cod 51) 26 = .ok (.invokevirtual 176, 3) := by decide +kernel
theorem r51_26 (l0 l1 l2 : AV) (a0g a0i : Nat) (a1 : Int32) (a2 : Int32) (a3 : Int32) (M : Mm) : run 51 26 [l0, l1, l2] [aI a3, aI a2, aI a1, aR a0g 7 a0i] M = cbI (call 72 [aR a0g 7 a0i, aI a1, aI a2, aI a3] M) (fun v M => run 51 29 [l0, l1, l2] [aI v] M) := call_I (n := 4) rfl false d51_26 rfl rfl rfl rfl rfl rfl rfl
theorem d51_29 : decode (cod 51) 29 = .ok (.aload_n 0, 1) := by decide +kernel
theorem r51_29 (l1 l2 : AV) (xg xi : Nat) (st : List AV) (M : Mm) : run 51 29 [aR xg 7 xi, l1, l2] st M = run 51 30 [aR xg 7 xi, l1, l2] (aR xg 7 xi :: st) M := e_aldn d51_29 rfl
theorem d51_30 : decode (cod 51) 30 = .ok (.iload_n 1, 1) := by decide +kernel
theorem r51_30 (l0 l2 : AV) (x : Int32) (st : List AV) (M : Mm) : run 51 30 [l0, aI x, l2] st M = run 51 31 [l0, aI x, l2] (aI x :: st) M := e_ildn d51_30 rfl
theorem d51_31 : decode (cod 51) 31 = .ok (.invokevirtual 183, 3) := by decide +kernel
theorem r51_31 (l0 l1 l2 : AV) (a0g a0i : Nat) (a1 : Int32) (t0 : AV) (M : Mm) : run 51 31 [l0, l1, l2] [aI a1, aR a0g 7 a0i, t0] M = cbI (call 71 [aR a0g 7 a0i, aI a1] M) (fun v M => run 51 34 [l0, l1, l2] [aI v, t0] M) := call_I (n := 2) rfl false d51_31 rfl rfl rfl rfl rfl rfl rfl
theorem d51_34 : decode (cod 51) 34 = .ok (.isub, 1) := by decide +kernel
theorem r51_34 (l0 l1 l2 : AV) (a b : Int32) (st : List AV) (M : Mm) : run 51 34 [l0, l1, l2] (aI b :: aI a :: st) M = run 51 35 [l0, l1, l2] (aI (a - b) :: st) M := e_isub d51_34
theorem d51_35 : decode (cod 51) 35 = .ok (.ireturn, 1) := by decide +kernel
theorem r51_35 (l0 l1 l2 : AV) (v : Int32) (M : Mm) : run 51 35 [l0, l1, l2] [aI v] M = some (some v, M) := e_iret d51_35 rfl
theorem c52 (g0 i0 : Nat) (x1 : Int32) (x2 : Int32) (M : Mm) : call 52 [aR g0 7 i0, aI x1, aI x2] M = run 52 0 [aR g0 7 i0, aI x1, aI x2, none, none, none] [] M := call_run 52 _ _
theorem d52_0 : decode (cod 52) 0 = .ok (.iload_n 1, 1) := by decide +kernel
theorem r52_0 (l0 l2 l3 l4 l5 : AV) (x : Int32) (st : List AV) (M : Mm) : run 52 0 [l0, aI x, l2, l3, l4, l5] st M = run 52 1 [l0, aI x, l2, l3, l4, l5] (aI x :: st) M := e_ildn d52_0 rfl
theorem d52_1 : decode (cod 52) 1 = .ok (.iload_n 2, 1) := by decide +kernel
theorem r52_1 (l0 l1 l3 l4 l5 : AV) (x : Int32) (st : List AV) (M : Mm) : run 52 1 [l0, l1, aI x, l3, l4, l5] st M = run 52 2 [l0, l1, aI x, l3, l4, l5] (aI x :: st) M := e_ildn d52_1 rfl
theorem d52_2 : decode (cod 52) 2 = .ok (.bipush 99, 2) := by decide +kernel
theorem r52_2 (l0 l1 l2 l3 l4 l5 : AV) (st : List AV) (M : Mm) : run 52 2 [l0, l1, l2, l3, l4, l5] st M = run 52 4 [l0, l1, l2, l3, l4, l5] (aI 99 :: st) M := e_bipush 99 d52_2 (by decide +kernel)
theorem d52_4 : decode (cod 52) 4 = .ok (.invokestatic 186, 3) := by decide +kernel
theorem r52_4 (l0 l1 l2 l3 l4 l5 : AV) (a0 : Int32) (a1 : Int32) (a2 : Int32) (M : Mm) : run 52 4 [l0, l1, l2, l3, l4, l5] [aI a2, aI a1, aI a0] M = cbI (call 68 [aI a0, aI a1, aI a2] M) (fun v M => run 52 7 [l0, l1, l2, l3, l4, l5] [aI v] M) := call_I (n := 3) rfl true d52_4 rfl rfl rfl rfl rfl rfl rfl
theorem d52_7 : decode (cod 52) 7 = .ok (.istore_n 3, 1) := by decide +kernel
theorem r52_7 (l0 l1 l2 l3 l4 l5 : AV) (x : Int32) (st : List AV) (M : Mm) : run 52 7 [l0, l1, l2, l3, l4, l5] (aI x :: st) M = run 52 8 [l0, l1, l2, aI x, l4, l5] st M := e_istn [l0, l1, l2, aI x, l4, l5] d52_7 rfl rfl
theorem d52_8 : decode (cod 52) 8 = .ok (.iload_n 3, 1) := by decide +kernel
theorem r52_8 (l0 l1 l2 l4 l5 : AV) (x : Int32) (st : List AV) (M : Mm) : run 52 8 [l0, l1, l2, aI x, l4, l5] st M = run 52 9 [l0, l1, l2, aI x, l4, l5] (aI x :: st) M := e_ildn d52_8 rfl
theorem d52_9 : decode (cod 52) 9 = .ok (.ifCond .eq 12, 3) := by decide +kernel
theorem r52_9 (l0 l1 l2 l3 l4 l5 : AV) (a : Int32) (st : List AV) (M : Mm) : run 52 9 [l0, l1, l2, l3, l4, l5] (aI a :: st) M = if a = 0 then run 52 21 [l0, l1, l2, l3, l4, l5] st M else run 52 12 [l0, l1, l2, l3, l4, l5] st M := e_eq1 21 d52_9 (by decide)
theorem d52_12 : decode (cod 52) 12 = .ok (.ldc 182, 2) := by decide +kernel
theorem r52_12 (l0 l1 l2 l3 l4 l5 : AV) (st : List AV) (M : Mm) : run 52 12 [l0, l1, l2, l3, l4, l5] st M = run 52 14 [l0, l1, l2, l3, l4, l5] (aI 1000000000 :: st) M := e_ldc d52_12 rfl
theorem d52_14 : decode (cod 52) 14 = .ok (.aload_n 0, 1) := by decide +kernel
theorem r52_14 (l1 l2 l3 l4 l5 : AV) (xg xi : Nat) (st : List AV) (M : Mm) : run 52 14 [aR xg 7 xi, l1, l2, l3, l4, l5] st M = run 52 15 [aR xg 7 xi, l1, l2, l3, l4, l5] (aR xg 7 xi :: st) M := e_aldn d52_14 rfl
theorem d52_15 : decode (cod 52) 15 = .ok (.iload_n 3, 1) := by decide +kernel
theorem r52_15 (l0 l1 l2 l4 l5 : AV) (x : Int32) (st : List AV) (M : Mm) : run 52 15 [l0, l1, l2, aI x, l4, l5] st M = run 52 16 [l0, l1, l2, aI x, l4, l5] (aI x :: st) M := e_ildn d52_15 rfl
theorem d52_16 : decode (cod 52) 16 = .ok (.invokevirtual 44, 3) := by decide +kernel
theorem r52_16 (l0 l1 l2 l3 l4 l5 : AV) (a0g a0i : Nat) (a1 : Int32) (t0 : AV) (M : Mm) : run 52 16 [l0, l1, l2, l3, l4, l5] [aI a1, aR a0g 7 a0i, t0] M = cbI (call 66 [aR a0g 7 a0i, aI a1] M) (fun v M => run 52 19 [l0, l1, l2, l3, l4, l5] [aI v, t0] M) := call_I (n := 2) rfl false d52_16 rfl rfl rfl rfl rfl rfl rfl
theorem d52_19 : decode (cod 52) 19 = .ok (.isub, 1) := by decide +kernel
theorem r52_19 (l0 l1 l2 l3 l4 l5 : AV) (a b : Int32) (st : List AV) (M : Mm) : run 52 19 [l0, l1, l2, l3, l4, l5] (aI b :: aI a :: st) M = run 52 20 [l0, l1, l2, l3, l4, l5] (aI (a - b) :: st) M := e_isub d52_19
theorem d52_20 : decode (cod 52) 20 = .ok (.ireturn, 1) := by decide +kernel
theorem r52_20 (l0 l1 l2 l3 l4 l5 : AV) (v : Int32) (M : Mm) : run 52 20 [l0, l1, l2, l3, l4, l5] [aI v] M = some (some v, M) := e_iret d52_20 rfl
theorem d52_21 : decode (cod 52) 21 = .ok (.aload_n 0, 1) := by decide +kernel
theorem r52_21 (l1 l2 l3 l4 l5 : AV) (xg xi : Nat) (st : List AV) (M : Mm) : run 52 21 [aR xg 7 xi, l1, l2, l3, l4, l5] st M = run 52 22 [aR xg 7 xi, l1, l2, l3, l4, l5] (aR xg 7 xi :: st) M := e_aldn d52_21 rfl
theorem d52_22 : decode (cod 52) 22 = .ok (.iload_n 1, 1) := by decide +kernel
theorem r52_22 (l0 l2 l3 l4 l5 : AV) (x : Int32) (st : List AV) (M : Mm) : run 52 22 [l0, aI x, l2, l3, l4, l5] st M = run 52 23 [l0, aI x, l2, l3, l4, l5] (aI x :: st) M := e_ildn d52_22 rfl
theorem d52_23 : decode (cod 52) 23 = .ok (.invokevirtual 154, 3) := by decide +kernel
theorem r52_23 (l0 l1 l2 l3 l4 l5 : AV) (a0g a0i : Nat) (a1 : Int32) (M : Mm) : run 52 23 [l0, l1, l2, l3, l4, l5] [aI a1, aR a0g 7 a0i] M = cbV (call 70 [aR a0g 7 a0i, aI a1] M) (fun M => run 52 26 [l0, l1, l2, l3, l4, l5] [] M) := call_V (n := 2) rfl false d52_23 rfl rfl rfl rfl rfl rfl rfl
theorem d52_26 : decode (cod 52) 26 = .ok (.aload_n 0, 1) := by decide +kernel
theorem r52_26 (l1 l2 l3 l4 l5 : AV) (xg xi : Nat) (st : List AV) (M : Mm) : run 52 26 [aR xg 7 xi, l1, l2, l3, l4, l5] st M = run 52 27 [aR xg 7 xi, l1, l2, l3, l4, l5] (aR xg 7 xi :: st) M := e_aldn d52_26 rfl
theorem d52_27 : decode (cod 52) 27 = .ok (.getfield 16, 3) := by decide +kernel
theorem r52_27 (l0 l1 l2 l3 l4 l5 : AV) (xg xi : Nat) (st : List AV) (M : Mm) : run 52 27 [l0, l1, l2, l3, l4, l5] (aR xg 7 xi :: st) M = run 52 30 [l0, l1, l2, l3, l4, l5] (aR 2 0 0 :: st) M := e_gfr (fun g => (2, 0, 0)) d52_27 rfl rfl rfl
theorem d52_30 : decode (cod 52) 30 = .ok (.getfield 127, 3) := by decide +kernel
theorem r52_30 (l0 l1 l2 l3 l4 l5 : AV) (xg xi : Nat) (st : List AV) (M : Mm) : run 52 30 [l0, l1, l2, l3, l4, l5] (aR xg 0 xi :: st) M = run 52 33 [l0, l1, l2, l3, l4, l5] (aR xg 5 0 :: st) M := e_gfr (fun g => (g, 5, 0)) d52_30 rfl rfl rfl
theorem d52_33 : decode (cod 52) 33 = .ok (.getfield 157, 3) := by decide +kernel
theorem r52_33 (l0 l1 l2 l3 l4 l5 : AV) (xg xi : Nat) (st : List AV) (M : Mm) : run 52 33 [l0, l1, l2, l3, l4, l5] (aR xg 5 xi :: st) M = run 52 36 [l0, l1, l2, l3, l4, l5] (aI (M xg 5 xi 2) :: st) M := e_gfi d52_33 rfl rfl rfl
theorem d52_36 : decode (cod 52) 36 = .ok (.istore 4, 2) := by decide +kernel
theorem r52_36 (l0 l1 l2 l3 l4 l5 : AV) (x : Int32) (st : List AV) (M : Mm) : run 52 36 [l0, l1, l2, l3, l4, l5] (aI x :: st) M = run 52 38 [l0, l1, l2, l3, aI x, l5] st M := e_ist [l0, l1, l2, l3, aI x, l5] d52_36 rfl rfl
theorem d52_38 : decode (cod 52) 38 = .ok (.aload_n 0, 1) := by decide +kernel
theorem r52_38 (l1 l2 l3 l4 l5 : AV) (xg xi : Nat) (st : List AV) (M : Mm) : run 52 38 [aR xg 7 xi, l1, l2, l3, l4, l5] st M = run 52 39 [aR xg 7 xi, l1, l2, l3, l4, l5] (aR xg 7 xi :: st) M := e_aldn d52_38 rfl
theorem d52_39 : decode (cod 52) 39 = .ok (.getfield 16, 3) := by decide +kernel
theorem r52_39 (l0 l1 l2 l3 l4 l5 : AV) (xg xi : Nat) (st : List AV) (M : Mm) : run 52 39 [l0, l1, l2, l3, l4, l5] (aR xg 7 xi :: st) M = run 52 42 [l0, l1, l2, l3, l4, l5] (aR 2 0 0 :: st) M := e_gfr (fun g => (2, 0, 0)) d52_39 rfl rfl rfl
theorem d52_42 : decode (cod 52) 42 = .ok (.aload_n 0, 1) := by decide +kernel
theorem r52_42 (l1 l2 l3 l4 l5 : AV) (xg xi : Nat) (st : List AV) (M : Mm) : run 52 42 [aR xg 7 xi, l1, l2, l3, l4, l5] st M = run 52 43 [aR xg 7 xi, l1, l2, l3, l4, l5] (aR xg 7 xi :: st) M := e_aldn d52_42 rfl
theorem d52_43 : decode (cod 52) 43 = .ok (.getfield 10, 3) := by decide +kernel
theorem r52_43 (l0 l1 l2 l3 l4 l5 : AV) (xg xi : Nat) (st : List AV) (M : Mm) : run 52 43 [l0, l1, l2, l3, l4, l5] (aR xg 7 xi :: st) M = run 52 46 [l0, l1, l2, l3, l4, l5] (aR 1 0 0 :: st) M := e_gfr (fun g => (1, 0, 0)) d52_43 rfl rfl rfl
theorem d52_46 : decode (cod 52) 46 = .ok (.invokevirtual 59, 3) := by decide +kernel
theorem r52_46 (l0 l1 l2 l3 l4 l5 : AV) (a0g a0i : Nat) (a1g a1i : Nat) (M : Mm) : run 52 46 [l0, l1, l2, l3, l4, l5] [aR a1g 0 a1i, aR a0g 0 a0i] M = cbV (call 11 [aR a0g 0 a0i, aR a1g 0 a1i] M) (fun M => run 52 49 [l0, l1, l2, l3, l4, l5] [] M) := call_V (n := 2) rfl false d52_46 rfl rfl rfl rfl rfl rfl rfl
theorem d52_49 : decode (cod 52) 49 = .ok (.iconst 0, 1) := by decide +kernel
theorem r52_49 (l0 l1 l2 l3 l4 l5 : AV) (st : List AV) (M : Mm) : run 52 49 [l0, l1, l2, l3, l4, l5] st M = run 52 50 [l0, l1, l2, l3, l4, l5] (aI 0 :: st) M := e_iconst 0 d52_49 (by decide +kernel)
theorem d52_50 : decode (cod 52) 50 = .ok (.istore 5, 2) := by decide +kernel
theorem r52_50 (l0 l1 l2 l3 l4 l5 : AV) (x : Int32) (st : List AV) (M : Mm) : run 52 50 [l0, l1, l2, l3, l4, l5] (aI x :: st) M = run 52 52 [l0, l1, l2, l3, l4, aI x] st M := e_ist [l0, l1, l2, l3, l4, aI x] d52_50 rfl rfl
theorem d52_52 : decode (cod 52) 52 = .ok (.iload 5, 2) := by decide +kernel
theorem r52_52 (l0 l1 l2 l3 l4 : AV) (x : Int32) (st : List AV) (M : Mm) : run 52 52 [l0, l1, l2, l3, l4, aI x] st M = run 52 54 [l0, l1, l2, l3, l4, aI x] (aI x :: st) M := e_ild d52_52 rfl
theorem d52_54 : decode (cod 52) 54 = .ok (.aload_n 0, 1) := by decide +kernel
theorem r52_54 (l1 l2 l3 l4 l5 : AV) (xg xi : Nat) (st : List AV) (M : Mm) : run 52 54 [aR xg 7 xi, l1, l2, l3, l4, l5] st M = run 52 55 [aR xg 7 xi, l1, l2, l3, l4, l5] (aR xg 7 xi :: st) M := e_aldn d52_54 rfl
theorem d52_55 : decode (cod 52) 55 = .ok (.getfield 16, 3) := by decide +kernel
theorem r52_55 (l0 l1 l2 l3 l4 l5 : AV) (xg xi : Nat) (st : List AV) (M : Mm) : run 52 55 [l0, l1, l2, l3, l4, l5] (aR xg 7 xi :: st) M = run 52 58 [l0, l1, l2, l3, l4, l5] (aR 2 0 0 :: st) M := e_gfr (fun g => (2, 0, 0)) d52_55 rfl rfl rfl
theorem d52_58 : decode (cod 52) 58 = .ok (.getfield 189, 3) := by decide +kernel
theorem r52_58 (l0 l1 l2 l3 l4 l5 : AV) (xg xi : Nat) (st : List AV) (M : Mm) : run 52 58 [l0, l1, l2, l3, l4, l5] (aR xg 0 xi :: st) M = run 52 61 [l0, l1, l2, l3, l4, l5] (aI (M xg 0 xi 1) :: st) M := e_gfi d52_58 rfl rfl rfl
theorem d52_61 : decode (cod 52) 61 = .ok (.if_icmp .ge 24, 3) := by decide +kernel
theorem r52_61 (l0 l1 l2 l3 l4 l5 : AV) (a b : Int32) (st : List AV) (M : Mm) : run 52 61 [l0, l1, l2, l3, l4, l5] (aI b :: aI a :: st) M = if a < b then run 52 64 [l0, l1, l2, l3, l4, l5] st M else run 52 85 [l0, l1, l2, l3, l4, l5] st M := e_ge2 85 d52_61 (by decide)
theorem d52_64 : decode (cod 52) 64 = .ok (.aload_n 0, 1) := by decide +kernel
theorem r52_64 (l1 l2 l3 l4 l5 : AV) (xg xi : Nat) (st : List AV) (M : Mm) : run 52 64 [aR xg 7 xi, l1, l2, l3, l4, l5] st M = run 52 65 [aR xg 7 xi, l1, l2, l3, l4, l5] (aR xg 7 xi :: st) M := e_aldn d52_64 rfl
theorem d52_65 : decode (cod 52) 65 = .ok (.getfield 16, 3) := by decide +kernel
theorem r52_65 (l0 l1 l2 l3 l4 l5 : AV) (xg xi : Nat) (st : List AV) (M : Mm) : run 52 65 [l0, l1, l2, l3, l4, l5] (aR xg 7 xi :: st) M = run 52 68 [l0, l1, l2, l3, l4, l5] (aR 2 0 0 :: st) M := e_gfr (fun g => (2, 0, 0)) d52_65 rfl rfl rfl
theorem d52_68 : decode (cod 52) 68 = .ok (.getfield 73, 3) := by decide +kernel
theorem r52_68 (l0 l1 l2 l3 l4 l5 : AV) (xg xi : Nat) (st : List AV) (M : Mm) : run 52 68 [l0, l1, l2, l3, l4, l5] (aR xg 0 xi :: st) M = run 52 71 [l0, l1, l2, l3, l4, l5] (aR xg 1 0 :: st) M := e_gfr (fun g => (g, 1, 0)) d52_68 rfl rfl rfl
theorem d52_71 : decode (cod 52) 71 = .ok (.iload 5, 2) := by decide +kernel
theorem r52_71 (l0 l1 l2 l3 l4 : AV) (x : Int32) (st : List AV) (M : Mm) : run 52 71 [l0, l1, l2, l3, l4, aI x] st M = run 52 73 [l0, l1, l2, l3, l4, aI x] (aI x :: st) M := e_ild d52_71 rfl
theorem d52_73 : decode (cod 52) 73 = .ok (.aaload, 1) := by decide +kernel
theorem r52_73 (l0 l1 l2 l3 l4 l5 : AV) (i : Int32) (xg xi : Nat) (st : List AV) (M : Mm) : run 52 73 [l0, l1, l2, l3, l4, l5] (aI i :: aR xg 1 xi :: st) M = if vpB i 4 = true then run 52 74 [l0, l1, l2, l3, l4, l5] (aR xg 2 i.toNatClampNeg :: st) M else none := e_aal1 d52_73
theorem d52_74 : decode (cod 52) 74 = .ok (.iload_n 2, 1) := by decide +kernel
theorem r52_74 (l0 l1 l3 l4 l5 : AV) (x : Int32) (st : List AV) (M : Mm) : run 52 74 [l0, l1, aI x, l3, l4, l5] st M = run 52 75 [l0, l1, aI x, l3, l4, l5] (aI x :: st) M := e_ildn d52_74 rfl
theorem d52_75 : decode (cod 52) 75 = .ok (.invokevirtual 192, 3) := by decide +kernel
theorem r52_75 (l0 l1 l2 l3 l4 l5 : AV) (a0g a0i : Nat) (a1 : Int32) (M : Mm) : run 52 75 [l0, l1, l2, l3, l4, l5] [aI a1, aR a0g 2 a0i] M = cbI (call 7 [aR a0g 2 a0i, aI a1] M) (fun v M => run 52 78 [l0, l1, l2, l3, l4, l5] [aI v] M) := call_I (n := 2) rfl false d52_75 rfl rfl rfl rfl rfl rfl rfl
theorem d52_78 : decode (cod 52) 78 = .ok (.pop, 1) := by decide +kernel
theorem r52_78 (l0 l1 l2 l3 l4 l5 : AV) (x : Int32) (st : List AV) (M : Mm) : run 52 78 [l0, l1, l2, l3, l4, l5] (aI x :: st) M = run 52 79 [l0, l1, l2, l3, l4, l5] st M := e_pop d52_78
theorem d52_79 : decode (cod 52) 79 = .ok (.iinc 5 1, 3) := by decide +kernel
theorem r52_79 (l0 l1 l2 l3 l4 : AV) (x : Int32) (st : List AV) (M : Mm) : run 52 79 [l0, l1, l2, l3, l4, aI x] st M = run 52 82 [l0, l1, l2, l3, l4, aI (x + 1)] st M := e_iinc 1 [l0, l1, l2, l3, l4, aI (x + 1)] d52_79 (by decide +kernel) rfl rfl
theorem d52_82 : decode (cod 52) 82 = .ok (.goto (-30), 3) := by decide +kernel
theorem r52_82 (l0 l1 l2 l3 l4 l5 : AV) (st : List AV) (M : Mm) : run 52 82 [l0, l1, l2, l3, l4, l5] st M = run 52 52 [l0, l1, l2, l3, l4, l5] st M := e_goto 52 d52_82 (by decide)
theorem d52_85 : decode (cod 52) 85 = .ok (.aload_n 0, 1) := by decide +kernel
theorem r52_85 (l1 l2 l3 l4 l5 : AV) (xg xi : Nat) (st : List AV) (M : Mm) : run 52 85 [aR xg 7 xi, l1, l2, l3, l4, l5] st M = run 52 86 [aR xg 7 xi, l1, l2, l3, l4, l5] (aR xg 7 xi :: st) M := e_aldn d52_85 rfl
theorem d52_86 : decode (cod 52) 86 = .ok (.getfield 16, 3) := by decide +kernel
theorem r52_86 (l0 l1 l2 l3 l4 l5 : AV) (xg xi : Nat) (st : List AV) (M : Mm) : run 52 86 [l0, l1, l2, l3, l4, l5] (aR xg 7 xi :: st) M = run 52 89 [l0, l1, l2, l3, l4, l5] (aR 2 0 0 :: st) M := e_gfr (fun g => (2, 0, 0)) d52_86 rfl rfl rfl
theorem d52_89 : decode (cod 52) 89 = .ok (.iload_n 1, 1) := by decide +kernel
theorem r52_89 (l0 l2 l3 l4 l5 : AV) (x : Int32) (st : List AV) (M : Mm) : run 52 89 [l0, aI x, l2, l3, l4, l5] st M = run 52 90 [l0, aI x, l2, l3, l4, l5] (aI x :: st) M := e_ildn d52_89 rfl
theorem d52_90 : decode (cod 52) 90 = .ok (.invokevirtual 124, 3) := by decide +kernel
theorem r52_90 (l0 l1 l2 l3 l4 l5 : AV) (a0g a0i : Nat) (a1 : Int32) (M : Mm) : run 52 90 [l0, l1, l2, l3, l4, l5] [aI a1, aR a0g 0 a0i] M = cbV (call 20 [aR a0g 0 a0i, aI a1] M) (fun M => run 52 93 [l0, l1, l2, l3, l4, l5] [] M) := call_V (n := 2) rfl false d52_90 rfl rfl rfl rfl rfl rfl rfl
theorem d52_93 : decode (cod 52) 93 = .ok (.iload 4, 2) := by decide +kernel
theorem r52_93 (l0 l1 l2 l3 l5 : AV) (x : Int32) (st : List AV) (M : Mm) : run 52 93 [l0, l1, l2, l3, aI x, l5] st M = run 52 95 [l0, l1, l2, l3, aI x, l5] (aI x :: st) M := e_ild d52_93 rfl
theorem d52_95 : decode (cod 52) 95 = .ok (.aload_n 0, 1) := by decide +kernel
theorem r52_95 (l1 l2 l3 l4 l5 : AV) (xg xi : Nat) (st : List AV) (M : Mm) : run 52 95 [aR xg 7 xi, l1, l2, l3, l4, l5] st M = run 52 96 [aR xg 7 xi, l1, l2, l3, l4, l5] (aR xg 7 xi :: st) M := e_aldn d52_95 rfl
theorem d52_96 : decode (cod 52) 96 = .ok (.getfield 16, 3) := by decide +kernel
theorem r52_96 (l0 l1 l2 l3 l4 l5 : AV) (xg xi : Nat) (st : List AV) (M : Mm) : run 52 96 [l0, l1, l2, l3, l4, l5] (aR xg 7 xi :: st) M = run 52 99 [l0, l1, l2, l3, l4, l5] (aR 2 0 0 :: st) M := e_gfr (fun g => (2, 0, 0)) d52_96 rfl rfl rfl
theorem d52_99 : decode (cod 52) 99 = .ok (.getfield 127, 3) := by decide +kernel
theorem r52_99 (l0 l1 l2 l3 l4 l5 : AV) (xg xi : Nat) (st : List AV) (M : Mm) : run 52 99 [l0, l1, l2, l3, l4, l5] (aR xg 0 xi :: st) M = run 52 102 [l0, l1, l2, l3, l4, l5] (aR xg 5 0 :: st) M := e_gfr (fun g => (g, 5, 0)) d52_99 rfl rfl rfl
theorem d52_102 : decode (cod 52) 102 = .ok (.getfield 157, 3) := by decide +kernel
theorem r52_102 (l0 l1 l2 l3 l4 l5 : AV) (xg xi : Nat) (st : List AV) (M : Mm) : run 52 102 [l0, l1, l2, l3, l4, l5] (aR xg 5 xi :: st) M = run 52 105 [l0, l1, l2, l3, l4, l5] (aI (M xg 5 xi 2) :: st) M := e_gfi d52_102 rfl rfl rfl
theorem d52_105 : decode (cod 52) 105 = .ok (.isub, 1) := by decide +kernel
theorem r52_105 (l0 l1 l2 l3 l4 l5 : AV) (a b : Int32) (st : List AV) (M : Mm) : run 52 105 [l0, l1, l2, l3, l4, l5] (aI b :: aI a :: st) M = run 52 106 [l0, l1, l2, l3, l4, l5] (aI (a - b) :: st) M := e_isub d52_105
theorem d52_106 : decode (cod 52) 106 = .ok (.ireturn, 1) := by decide +kernel
theorem r52_106 (l0 l1 l2 l3 l4 l5 : AV) (v : Int32) (M : Mm) : run 52 106 [l0, l1, l2, l3, l4, l5] [aI v] M = some (some v, M) := e_iret d52_106 rfl
theorem c53 (g0 i0 : Nat) (x1 : Int32) (M : Mm) : call 53 [aR g0 7 i0, aI x1] M = run 53 0 [aR g0 7 i0, aI x1, none] [] M := call_run 53 _ _
theorem d53_0 : decode (cod 53) 0 = .ok (.iload_n 1, 1) := by decide +kernel
theorem r53_0 (l0 l2 : AV) (x : Int32) (st : List AV) (M : Mm) : run 53 0 [l0, aI x, l2] st M = run 53 1 [l0, aI x, l2] (aI x :: st) M := e_ildn d53_0 rfl
theorem d53_1 : decode (cod 53) 1 = .ok (.iconst 0, 1) := by decide +kernel
theorem r53_1 (l0 l1 l2 : AV) (st : List AV) (M : Mm) : run 53 1 [l0, l1, l2] st M = run 53 2 [l0, l1, l2] (aI 0 :: st) M := e_iconst 0 d53_1 (by decide +kernel)
theorem d53_2 : decode (cod 53) 2 = .ok (.sipush 240, 3) := by decide +kernel
theorem r53_2 (l0 l1 l2 : AV) (st : List AV) (M : Mm) : run 53 2 [l0, l1, l2] st M = run 53 5 [l0, l1, l2] (aI 240 :: st) M := e_sipush 240 d53_2 (by decide +kernel)
theorem d53_5 : decode (cod 53) 5 = .ok (.invokestatic 100, 3) := by decide +kernel
theorem r53_5 (l0 l1 l2 : AV) (a0 : Int32) (a1 : Int32) (a2 : Int32) (M : Mm) : run 53 5 [l0, l1, l2] [aI a2, aI a1, aI a0] M = cbI (call 67 [aI a0, aI a1, aI a2] M) (fun v M => run 53 8 [l0, l1, l2] [aI v] M) := call_I (n := 3) rfl true d53_5 rfl rfl rfl rfl rfl rfl rfl
theorem d53_8 : decode (cod 53) 8 = .ok (.istore_n 2, 1) := by decide +kernel
theorem r53_8 (l0 l1 l2 : AV) (x : Int32) (st : List AV) (M : Mm) : run 53 8 [l0, l1, l2] (aI x :: st) M = run 53 9 [l0, l1, aI x] st M := e_istn [l0, l1, aI x] d53_8 rfl rfl
theorem d53_9 : decode (cod 53) 9 = .ok (.iload_n 2, 1) := by decide +kernel
theorem r53_9 (l0 l1 : AV) (x : Int32) (st : List AV) (M : Mm) : run 53 9 [l0, l1, aI x] st M = run 53 10 [l0, l1, aI x] (aI x :: st) M := e_ildn d53_9 rfl
theorem d53_10 : decode (cod 53) 10 = .ok (.ifCond .eq 9, 3) := by decide +kernel
theorem r53_10 (l0 l1 l2 : AV) (a : Int32) (st : List AV) (M : Mm) : run 53 10 [l0, l1, l2] (aI a :: st) M = if a = 0 then run 53 19 [l0, l1, l2] st M else run 53 13 [l0, l1, l2] st M := e_eq1 19 d53_10 (by decide)
theorem d53_13 : decode (cod 53) 13 = .ok (.aload_n 0, 1) := by decide +kernel
theorem r53_13 (l1 l2 : AV) (xg xi : Nat) (st : List AV) (M : Mm) : run 53 13 [aR xg 7 xi, l1, l2] st M = run 53 14 [aR xg 7 xi, l1, l2] (aR xg 7 xi :: st) M := e_aldn d53_13 rfl
theorem d53_14 : decode (cod 53) 14 = .ok (.iload_n 2, 1) := by decide +kernel
theorem r53_14 (l0 l1 : AV) (x : Int32) (st : List AV) (M : Mm) : run 53 14 [l0, l1, aI x] st M = run 53 15 [l0, l1, aI x] (aI x :: st) M := e_ildn d53_14 rfl
theorem d53_15 : decode (cod 53) 15 = .ok (.invokevirtual 44, 3) := by decide +kernel
theorem r53_15 (l0 l1 l2 : AV) (a0g a0i : Nat) (a1 : Int32) (M : Mm) : run 53 15 [l0, l1, l2] [aI a1, aR a0g 7 a0i] M = cbI (call 66 [aR a0g 7 a0i, aI a1] M) (fun v M => run 53 18 [l0, l1, l2] [aI v] M) := call_I (n := 2) rfl false d53_15 rfl rfl rfl rfl rfl rfl rfl
theorem d53_18 : decode (cod 53) 18 = .ok (.ireturn, 1) := by decide +kernel
theorem r53_18 (l0 l1 l2 : AV) (v : Int32) (M : Mm) : run 53 18 [l0, l1, l2] [aI v] M = some (some v, M) := e_iret d53_18 rfl
theorem d53_19 : decode (cod 53) 19 = .ok (.aload_n 0, 1) := by decide +kernel
theorem r53_19 (l1 l2 : AV) (xg xi : Nat) (st : List AV) (M : Mm) : run 53 19 [aR xg 7 xi, l1, l2] st M = run 53 20 [aR xg 7 xi, l1, l2] (aR xg 7 xi :: st) M := e_aldn d53_19 rfl
theorem d53_20 : decode (cod 53) 20 = .ok (.iload_n 1, 1) := by decide +kernel
theorem r53_20 (l0 l2 : AV) (x : Int32) (st : List AV) (M : Mm) : run 53 20 [l0, aI x, l2] st M = run 53 21 [l0, aI x, l2] (aI x :: st) M := e_ildn d53_20 rfl
theorem d53_21 : decode (cod 53) 21 = .ok (.invokevirtual 154, 3) := by decide +kernel
theorem r53_21 (l0 l1 l2 : AV) (a0g a0i : Nat) (a1 : Int32) (M : Mm) : run 53 21 [l0, l1, l2] [aI a1, aR a0g 7 a0i] M = cbV (call 70 [aR a0g 7 a0i, aI a1] M) (fun M => run 53 24 [l0, l1, l2] [] M) := call_V (n := 2) rfl false d53_21 rfl rfl rfl rfl rfl rfl rfl
theorem d53_24 : decode (cod 53) 24 = .ok (.aload_n 0, 1) := by decide +kernel
theorem r53_24 (l1 l2 : AV) (xg xi : Nat) (st : List AV) (M : Mm) : run 53 24 [aR xg 7 xi, l1, l2] st M = run 53 25 [aR xg 7 xi, l1, l2] (aR xg 7 xi :: st) M := e_aldn d53_24 rfl
theorem d53_25 : decode (cod 53) 25 = .ok (.getfield 16, 3) := by decide +kernel
theorem r53_25 (l0 l1 l2 : AV) (xg xi : Nat) (st : List AV) (M : Mm) : run 53 25 [l0, l1, l2] (aR xg 7 xi :: st) M = run 53 28 [l0, l1, l2] (aR 2 0 0 :: st) M := e_gfr (fun g => (2, 0, 0)) d53_25 rfl rfl rfl
theorem d53_28 : decode (cod 53) 28 = .ok (.getfield 127, 3) := by decide +kernel
theorem r53_28 (l0 l1 l2 : AV) (xg xi : Nat) (st : List AV) (M : Mm) : run 53 28 [l0, l1, l2] (aR xg 0 xi :: st) M = run 53 31 [l0, l1, l2] (aR xg 5 0 :: st) M := e_gfr (fun g => (g, 5, 0)) d53_28 rfl rfl rfl
theorem d53_31 : decode (cod 53) 31 = .ok (.getfield 195, 3) := by decide +kernel
theorem r53_31 (l0 l1 l2 : AV) (xg xi : Nat) (st : List AV) (M : Mm) : run 53 31 [l0, l1, l2] (aR xg 5 xi :: st) M = run 53 34 [l0, l1, l2] (aI (M xg 5 xi 3) :: st) M := e_gfi d53_31 rfl rfl rfl
theorem d53_34 : decode (cod 53) 34 = .ok (.ireturn, 1) := by decide +kernel
theorem r53_34 (l0 l1 l2 : AV) (v : Int32) (M : Mm) : run 53 34 [l0, l1, l2] [aI v] M = some (some v, M) := e_iret d53_34 rfl
theorem c54 (g0 i0 : Nat) (x1 : Int32) (M : Mm) : call 54 [aR g0 7 i0, aI x1] M = run 54 0 [aR g0 7 i0, aI x1, none, none] [] M := call_run 54 _ _
theorem d54_0 : decode (cod 54) 0 = .ok (.iload_n 1, 1) := by decide +kernel
theorem r54_0 (l0 l2 l3 : AV) (x : Int32) (st : List AV) (M : Mm) : run 54 0 [l0, aI x, l2, l3] st M = run 54 1 [l0, aI x, l2, l3] (aI x :: st) M := e_ildn d54_0 rfl
theorem d54_1 : decode (cod 54) 1 = .ok (.iconst 0, 1) := by decide +kernel
theorem r54_1 (l0 l1 l2 l3 : AV) (st : List AV) (M : Mm) : run 54 1 [l0, l1, l2, l3] st M = run 54 2 [l0, l1, l2, l3] (aI 0 :: st) M := e_iconst 0 d54_1 (by decide +kernel)
theorem d54_2 : decode (cod 54) 2 = .ok (.sipush 240, 3) := by decide +kernel
theorem r54_2 (l0 l1 l2 l3 : AV) (st : List AV) (M : Mm) : run 54 2 [l0, l1, l2, l3] st M = run 54 5 [l0, l1, l2, l3] (aI 240 :: st) M := e_sipush 240 d54_2 (by decide +kernel)
theorem d54_5 : decode (cod 54) 5 = .ok (.invokestatic 100, 3) := by decide +kernel
theorem r54_5 (l0 l1 l2 l3 : AV) (a0 : Int32) (a1 : Int32) (a2 : Int32) (M : Mm) : run 54 5 [l0, l1, l2, l3] [aI a2, aI a1, aI a0] M = cbI (call 67 [aI a0, aI a1, aI a2] M) (fun v M => run 54 8 [l0, l1, l2, l3] [aI v] M) := call_I (n := 3) rfl true d54_5 rfl rfl rfl rfl rfl rfl rfl
theorem d54_8 : decode (cod 54) 8 = .ok (.istore_n 2, 1) := by decide +kernel
theorem r54_8 (l0 l1 l2 l3 : AV) (x : Int32) (st : List AV) (M : Mm) : run 54 8 [l0, l1, l2, l3] (aI x :: st) M = run 54 9 [l0, l1, aI x, l3] st M := e_istn [l0, l1, aI x, l3] d54_8 rfl rfl
theorem d54_9 : decode (cod 54) 9 = .ok (.iload_n 2, 1) := by decide +kernel
theorem r54_9 (l0 l1 l3 : AV) (x : Int32) (st : List AV) (M : Mm) : run 54 9 [l0, l1, aI x, l3] st M = run 54 10 [l0, l1, aI x, l3] (aI x :: st) M := e_ildn d54_9 rfl
theorem d54_10 : decode (cod 54) 10 = .ok (.ifCond .eq 9, 3) := by decide +kernel
theorem r54_10 (l0 l1 l2 l3 : AV) (a : Int32) (st : List AV) (M : Mm) : run 54 10 [l0, l1, l2, l3] (aI a :: st) M = if a = 0 then run 54 19 [l0, l1, l2, l3] st M else run 54 13 [l0, l1, l2, l3] st M := e_eq1 19 d54_10 (by decide)
theorem d54_13 : decode (cod 54) 13 = .ok (.aload_n 0, 1) := by decide +kernel
theorem r54_13 (l1 l2 l3 : AV) (xg xi : Nat) (st : List AV) (M : Mm) : run 54 13 [aR xg 7 xi, l1, l2, l3] st M = run 54 14 [aR xg 7 xi, l1, l2, l3] (aR xg 7 xi :: st) M := e_aldn d54_13 rfl
theorem d54_14 : decode (cod 54) 14 = .ok (.iload_n 2, 1) := by decide +kernel
theorem r54_14 (l0 l1 l3 : AV) (x : Int32) (st : List AV) (M : Mm) : run 54 14 [l0, l1, aI x, l3] st M = run 54 15 [l0, l1, aI x, l3] (aI x :: st) M := e_ildn d54_14 rfl
theorem d54_15 : decode (cod 54) 15 = .ok (.invokevirtual 44, 3) := by decide +kernel
theorem r54_15 (l0 l1 l2 l3 : AV) (a0g a0i : Nat) (a1 : Int32) (M : Mm) : run 54 15 [l0, l1, l2, l3] [aI a1, aR a0g 7 a0i] M = cbI (call 66 [aR a0g 7 a0i, aI a1] M) (fun v M => run 54 18 [l0, l1, l2, l3] [aI v] M) := call_I (n := 2) rfl false d54_15 rfl rfl rfl rfl rfl rfl rfl
theorem d54_18 : decode (cod 54) 18 = .ok (.ireturn, 1) := by decide +kernel
theorem r54_18 (l0 l1 l2 l3 : AV) (v : Int32) (M : Mm) : run 54 18 [l0, l1, l2, l3] [aI v] M = some (some v, M) := e_iret d54_18 rfl
theorem d54_19 : decode (cod 54) 19 = .ok (.aload_n 0, 1) := by decide +kernel
theorem r54_19 (l1 l2 l3 : AV) (xg xi : Nat) (st : List AV) (M : Mm) : run 54 19 [aR xg 7 xi, l1, l2, l3] st M = run 54 20 [aR xg 7 xi, l1, l2, l3] (aR xg 7 xi :: st) M := e_aldn d54_19 rfl
theorem d54_20 : decode (cod 54) 20 = .ok (.getfield 10, 3) := by decide +kernel
theorem r54_20 (l0 l1 l2 l3 : AV) (xg xi : Nat) (st : List AV) (M : Mm) : run 54 20 [l0, l1, l2, l3] (aR xg 7 xi :: st) M = run 54 23 [l0, l1, l2, l3] (aR 1 0 0 :: st) M := e_gfr (fun g => (1, 0, 0)) d54_20 rfl rfl rfl
theorem d54_23 : decode (cod 54) 23 = .ok (.getfield 189, 3) := by decide +kernel
theorem r54_23 (l0 l1 l2 l3 : AV) (xg xi : Nat) (st : List AV) (M : Mm) : run 54 23 [l0, l1, l2, l3] (aR xg 0 xi :: st) M = run 54 26 [l0, l1, l2, l3] (aI (M xg 0 xi 1) :: st) M := e_gfi d54_23 rfl rfl rfl
theorem d54_26 : decode (cod 54) 26 = .ok (.istore_n 3, 1) := by decide +kernel
theorem r54_26 (l0 l1 l2 l3 : AV) (x : Int32) (st : List AV) (M : Mm) : run 54 26 [l0, l1, l2, l3] (aI x :: st) M = run 54 27 [l0, l1, l2, aI x] st M := e_istn [l0, l1, l2, aI x] d54_26 rfl rfl
theorem d54_27 : decode (cod 54) 27 = .ok (.iload_n 3, 1) := by decide +kernel
theorem r54_27 (l0 l1 l2 : AV) (x : Int32) (st : List AV) (M : Mm) : run 54 27 [l0, l1, l2, aI x] st M = run 54 28 [l0, l1, l2, aI x] (aI x :: st) M := e_ildn d54_27 rfl
theorem d54_28 : decode (cod 54) 28 = .ok (.ifCond .le 58, 3) := by decide +kernel
theorem r54_28 (l0 l1 l2 l3 : AV) (a : Int32) (st : List AV) (M : Mm) : run 54 28 [l0, l1, l2, l3] (aI a :: st) M = if 0 < a then run 54 31 [l0, l1, l2, l3] st M else run 54 86 [l0, l1, l2, l3] st M := e_le1 86 d54_28 (by decide)
theorem d54_31 : decode (cod 54) 31 = .ok (.aload_n 0, 1) := by decide +kernel
theorem r54_31 (l1 l2 l3 : AV) (xg xi : Nat) (st : List AV) (M : Mm) : run 54 31 [aR xg 7 xi, l1, l2, l3] st M = run 54 32 [aR xg 7 xi, l1, l2, l3] (aR xg 7 xi :: st) M := e_aldn d54_31 rfl
theorem d54_32 : decode (cod 54) 32 = .ok (.getfield 16, 3) := by decide +kernel
theorem r54_32 (l0 l1 l2 l3 : AV) (xg xi : Nat) (st : List AV) (M : Mm) : run 54 32 [l0, l1, l2, l3] (aR xg 7 xi :: st) M = run 54 35 [l0, l1, l2, l3] (aR 2 0 0 :: st) M := e_gfr (fun g => (2, 0, 0)) d54_32 rfl rfl rfl
theorem d54_35 : decode (cod 54) 35 = .ok (.aload_n 0, 1) := by decide +kernel
theorem r54_35 (l1 l2 l3 : AV) (xg xi : Nat) (st : List AV) (M : Mm) : run 54 35 [aR xg 7 xi, l1, l2, l3] st M = run 54 36 [aR xg 7 xi, l1, l2, l3] (aR xg 7 xi :: st) M := e_aldn d54_35 rfl
theorem d54_36 : decode (cod 54) 36 = .ok (.getfield 10, 3) := by decide +kernel
theorem r54_36 (l0 l1 l2 l3 : AV) (xg xi : Nat) (st : List AV) (M : Mm) : run 54 36 [l0, l1, l2, l3] (aR xg 7 xi :: st) M = run 54 39 [l0, l1, l2, l3] (aR 1 0 0 :: st) M := e_gfr (fun g => (1, 0, 0)) d54_36 rfl rfl rfl
theorem d54_39 : decode (cod 54) 39 = .ok (.invokevirtual 59, 3) := by decide +kernel
theorem r54_39 (l0 l1 l2 l3 : AV) (a0g a0i : Nat) (a1g a1i : Nat) (M : Mm) : run 54 39 [l0, l1, l2, l3] [aR a1g 0 a1i, aR a0g 0 a0i] M = cbV (call 11 [aR a0g 0 a0i, aR a1g 0 a1i] M) (fun M => run 54 42 [l0, l1, l2, l3] [] M) := call_V (n := 2) rfl false d54_39 rfl rfl rfl rfl rfl rfl rfl
theorem d54_42 : decode (cod 54) 42 = .ok (.aload_n 0, 1) := by decide +kernel
theorem r54_42 (l1 l2 l3 : AV) (xg xi : Nat) (st : List AV) (M : Mm) : run 54 42 [aR xg 7 xi, l1, l2, l3] st M = run 54 43 [aR xg 7 xi, l1, l2, l3] (aR xg 7 xi :: st) M := e_aldn d54_42 rfl
theorem d54_43 : decode (cod 54) 43 = .ok (.getfield 16, 3) := by decide +kernel
theorem r54_43 (l0 l1 l2 l3 : AV) (xg xi : Nat) (st : List AV) (M : Mm) : run 54 43 [l0, l1, l2, l3] (aR xg 7 xi :: st) M = run 54 46 [l0, l1, l2, l3] (aR 2 0 0 :: st) M := e_gfr (fun g => (2, 0, 0)) d54_43 rfl rfl rfl
theorem d54_46 : decode (cod 54) 46 = .ok (.iload_n 3, 1) := by decide +kernel
theorem r54_46 (l0 l1 l2 : AV) (x : Int32) (st : List AV) (M : Mm) : run 54 46 [l0, l1, l2, aI x] st M = run 54 47 [l0, l1, l2, aI x] (aI x :: st) M := e_ildn d54_46 rfl
theorem d54_47 : decode (cod 54) 47 = .ok (.putfield 189, 3) := by decide +kernel
theorem r54_47 (l0 l1 l2 l3 : AV) (v : Int32) (xg xi : Nat) (st : List AV) (M : Mm) : run 54 47 [l0, l1, l2, l3] (aI v :: aR xg 0 xi :: st) M = run 54 50 [l0, l1, l2, l3] st (wr M xg 0 xi 1 v) := e_pfi d54_47 rfl rfl rfl rfl
theorem d54_50 : decode (cod 54) 50 = .ok (.aload_n 0, 1) := by decide +kernel
theorem r54_50 (l1 l2 l3 : AV) (xg xi : Nat) (st : List AV) (M : Mm) : run 54 50 [aR xg 7 xi, l1, l2, l3] st M = run 54 51 [aR xg 7 xi, l1, l2, l3] (aR xg 7 xi :: st) M := e_aldn d54_50 rfl
theorem d54_51 : decode (cod 54) 51 = .ok (.getfield 16, 3) := by decide +kernel
theorem r54_51 (l0 l1 l2 l3 : AV) (xg xi : Nat) (st : List AV) (M : Mm) : run 54 51 [l0, l1, l2, l3] (aR xg 7 xi :: st) M = run 54 54 [l0, l1, l2, l3] (aR 2 0 0 :: st) M := e_gfr (fun g => (2, 0, 0)) d54_51 rfl rfl rfl
theorem d54_54 : decode (cod 54) 54 = .ok (.invokevirtual 198, 3) := by decide +kernel
theorem r54_54 (l0 l1 l2 l3 : AV) (a0g a0i : Nat) (M : Mm) : run 54 54 [l0, l1, l2, l3] [aR a0g 0 a0i] M = cbV (call 15 [aR a0g 0 a0i] M) (fun M => run 54 57 [l0, l1, l2, l3] [] M) := call_V (n := 1) rfl false d54_54 rfl rfl rfl rfl rfl rfl rfl
theorem d54_57 : decode (cod 54) 57 = .ok (.aload_n 0, 1) := by decide +kernel
theorem r54_57 (l1 l2 l3 : AV) (xg xi : Nat) (st : List AV) (M : Mm) : run 54 57 [aR xg 7 xi, l1, l2, l3] st M = run 54 58 [aR xg 7 xi, l1, l2, l3] (aR xg 7 xi :: st) M := e_aldn d54_57 rfl
theorem d54_58 : decode (cod 54) 58 = .ok (.getfield 16, 3) := by decide +kernel
theorem r54_58 (l0 l1 l2 l3 : AV) (xg xi : Nat) (st : List AV) (M : Mm) : run 54 58 [l0, l1, l2, l3] (aR xg 7 xi :: st) M = run 54 61 [l0, l1, l2, l3] (aR 2 0 0 :: st) M := e_gfr (fun g => (2, 0, 0)) d54_58 rfl rfl rfl
theorem d54_61 : decode (cod 54) 61 = .ok (.iload_n 1, 1) := by decide +kernel
theorem r54_61 (l0 l2 l3 : AV) (x : Int32) (st : List AV) (M : Mm) : run 54 61 [l0, aI x, l2, l3] st M = run 54 62 [l0, aI x, l2, l3] (aI x :: st) M := e_ildn d54_61 rfl
theorem d54_62 : decode (cod 54) 62 = .ok (.invokevirtual 124, 3) := by decide +kernel
theorem r54_62 (l0 l1 l2 l3 : AV) (a0g a0i : Nat) (a1 : Int32) (M : Mm) : run 54 62 [l0, l1, l2, l3] [aI a1, aR a0g 0 a0i] M = cbV (call 20 [aR a0g 0 a0i, aI a1] M) (fun M => run 54 65 [l0, l1, l2, l3] [] M) := call_V (n := 2) rfl false d54_62 rfl rfl rfl rfl rfl rfl rfl
theorem d54_65 : decode (cod 54) 65 = .ok (.aload_n 0, 1) := by decide +kernel
theorem r54_65 (l1 l2 l3 : AV) (xg xi : Nat) (st : List AV) (M : Mm) : run 54 65 [aR xg 7 xi, l1, l2, l3] st M = run 54 66 [aR xg 7 xi, l1, l2, l3] (aR xg 7 xi :: st) M := e_aldn d54_65 rfl
theorem d54_66 : decode (cod 54) 66 = .ok (.getfield 16, 3) := by decide +kernel
theorem r54_66 (l0 l1 l2 l3 : AV) (xg xi : Nat) (st : List AV) (M : Mm) : run 54 66 [l0, l1, l2, l3] (aR xg 7 xi :: st) M = run 54 69 [l0, l1, l2, l3] (aR 2 0 0 :: st) M := e_gfr (fun g => (2, 0, 0)) d54_66 rfl rfl rfl
theorem d54_69 : decode (cod 54) 69 = .ok (.getfield 127, 3) := by decide +kernel
theorem r54_69 (l0 l1 l2 l3 : AV) (xg xi : Nat) (st : List AV) (M : Mm) : run 54 69 [l0, l1, l2, l3] (aR xg 0 xi :: st) M = run 54 72 [l0, l1, l2, l3] (aR xg 5 0 :: st) M := e_gfr (fun g => (g, 5, 0)) d54_69 rfl rfl rfl
theorem d54_72 : decode (cod 54) 72 = .ok (.getfield 157, 3) := by decide +kernel
theorem r54_72 (l0 l1 l2 l3 : AV) (xg xi : Nat) (st : List AV) (M : Mm) : run 54 72 [l0, l1, l2, l3] (aR xg 5 xi :: st) M = run 54 75 [l0, l1, l2, l3] (aI (M xg 5 xi 2) :: st) M := e_gfi d54_72 rfl rfl rfl
theorem d54_75 : decode (cod 54) 75 = .ok (.ifCond .ne 5, 3) := by decide +kernel
theorem r54_75 (l0 l1 l2 l3 : AV) (a : Int32) (st : List AV) (M : Mm) : run 54 75 [l0, l1, l2, l3] (aI a :: st) M = if a = 0 then run 54 78 [l0, l1, l2, l3] st M else run 54 80 [l0, l1, l2, l3] st M := e_ne1 80 d54_75 (by decide)
theorem d54_78 : decode (cod 54) 78 = .ok (.iload_n 3, 1) := by decide +kernel
theorem r54_78 (l0 l1 l2 : AV) (x : Int32) (st : List AV) (M : Mm) : run 54 78 [l0, l1, l2, aI x] st M = run 54 79 [l0, l1, l2, aI x] (aI x :: st) M := e_ildn d54_78 rfl
theorem d54_79 : decode (cod 54) 79 = .ok (.ireturn, 1) := by decide +kernel
theorem r54_79 (l0 l1 l2 l3 : AV) (v : Int32) (M : Mm) : run 54 79 [l0, l1, l2, l3] [aI v] M = some (some v, M) := e_iret d54_79 rfl
theorem d54_80 : decode (cod 54) 80 = .ok (.iinc 3 (-1), 3) := by decide +kernel
theorem r54_80 (l0 l1 l2 : AV) (x : Int32) (st : List AV) (M : Mm) : run 54 80 [l0, l1, l2, aI x] st M = run 54 83 [l0, l1, l2, aI (x + (-1))] st M := e_iinc (-1) [l0, l1, l2, aI (x + (-1))] d54_80 (by decide +kernel) rfl rfl
theorem d54_83 : decode (cod 54) 83 = .ok (.goto (-56), 3) := by decide +kernel
theorem r54_83 (l0 l1 l2 l3 : AV) (st : List AV) (M : Mm) : run 54 83 [l0, l1, l2, l3] st M = run 54 27 [l0, l1, l2, l3] st M := e_goto 27 d54_83 (by decide)
theorem d54_86 : decode (cod 54) 86 = .ok (.iconst 0, 1) := by decide +kernel
theorem r54_86 (l0 l1 l2 l3 : AV) (st : List AV) (M : Mm) : run 54 86 [l0, l1, l2, l3] st M = run 54 87 [l0, l1, l2, l3] (aI 0 :: st) M := e_iconst 0 d54_86 (by decide +kernel)
theorem d54_87 : decode (cod 54) 87 = .ok (.ireturn, 1) := by decide +kernel
theorem r54_87 (l0 l1 l2 l3 : AV) (v : Int32) (M : Mm) : run 54 87 [l0, l1, l2, l3] [aI v] M = some (some v, M) := e_iret d54_87 rfl
theorem c55 (g0 i0 : Nat) (x1 : Int32) (M : Mm) : call 55 [aR g0 7 i0, aI x1] M = run 55 0 [aR g0 7 i0, aI x1] [] M := call_run 55 _ _
theorem d55_0 : decode (cod 55) 0 = .ok (.iload_n 1, 1) := by decide +kernel
theorem r55_0 (l0 : AV) (x : Int32) (st : List AV) (M : Mm) : run 55 0 [l0, aI x] st M = run 55 1 [l0, aI x] (aI x :: st) M := e_ildn d55_0 rfl
theorem d55_1 : decode (cod 55) 1 = .ok (.ifCond .lt 8, 3) := by decide +kernel
theorem r55_1 (l0 l1 : AV) (a : Int32) (st : List AV) (M : Mm) : run 55 1 [l0, l1] (aI a :: st) M = if a < 0 then run 55 9 [l0, l1] st M else run 55 4 [l0, l1] st M := e_lt1 9 d55_1 (by decide)
theorem d55_4 : decode (cod 55) 4 = .ok (.iload_n 1, 1) := by decide +kernel
theorem r55_4 (l0 : AV) (x : Int32) (st : List AV) (M : Mm) : run 55 4 [l0, aI x] st M = run 55 5 [l0, aI x] (aI x :: st) M := e_ildn d55_4 rfl
theorem d55_5 : decode (cod 55) 5 = .ok (.iconst 1, 1) := by decide +kernel
theorem r55_5 (l0 l1 : AV) (st : List AV) (M : Mm) : run 55 5 [l0, l1] st M = run 55 6 [l0, l1] (aI 1 :: st) M := e_iconst 1 d55_5 (by decide +kernel)
theorem d55_6 : decode (cod 55) 6 = .ok (.if_icmp .le 10, 3) := by decide +kernel
theorem r55_6 (l0 l1 : AV) (a b : Int32) (st : List AV) (M : Mm) : run 55 6 [l0, l1] (aI b :: aI a :: st) M = if b < a then run 55 9 [l0, l1] st M else run 55 16 [l0, l1] st M := e_le2 16 d55_6 (by decide)
theorem d55_9 : decode (cod 55) 9 = .ok (.aload_n 0, 1) := by decide +kernel
theorem r55_9 (l1 : AV) (xg xi : Nat) (st : List AV) (M : Mm) : run 55 9 [aR xg 7 xi, l1] st M = run 55 10 [aR xg 7 xi, l1] (aR xg 7 xi :: st) M := e_aldn d55_9 rfl
theorem d55_10 : decode (cod 55) 10 = .ok (.bipush (-2), 2) := by decide +kernel
theorem r55_10 (l0 l1 : AV) (st : List AV) (M : Mm) : run 55 10 [l0, l1] st M = run 55 12 [l0, l1] (aI (-2) :: st) M := e_bipush (-2) d55_10 (by decide +kernel)
theorem d55_12 : decode (cod 55) 12 = .ok (.invokevirtual 44, 3) := by decide +kernel
theorem r55_12 (l0 l1 : AV) (a0g a0i : Nat) (a1 : Int32) (M : Mm) : run 55 12 [l0, l1] [aI a1, aR a0g 7 a0i] M = cbI (call 66 [aR a0g 7 a0i, aI a1] M) (fun v M => run 55 15 [l0, l1] [aI v] M) := call_I (n := 2) rfl false d55_12 rfl rfl rfl rfl rfl rfl rfl
theorem d55_15 : decode (cod 55) 15 = .ok (.ireturn, 1) := by decide +kernel
theorem r55_15 (l0 l1 : AV) (v : Int32) (M : Mm) : run 55 15 [l0, l1] [aI v] M = some (some v, M) := e_iret d55_15 rfl
theorem d55_16 : decode (cod 55) 16 = .ok (.aload_n 0, 1) := by decide +kernel
theorem r55_16 (l1 : AV) (xg xi : Nat) (st : List AV) (M : Mm) : run 55 16 [aR xg 7 xi, l1] st M = run 55 17 [aR xg 7 xi, l1] (aR xg 7 xi :: st) M := e_aldn d55_16 rfl
theorem d55_17 : decode (cod 55) 17 = .ok (.sipush 240, 3) := by decide +kernel
theorem r55_17 (l0 l1 : AV) (st : List AV) (M : Mm) : run 55 17 [l0, l1] st M = run 55 20 [l0, l1] (aI 240 :: st) M := e_sipush 240 d55_17 (by decide +kernel)
theorem d55_20 : decode (cod 55) 20 = .ok (.invokevirtual 154, 3) := by decide +kernel
theorem r55_20 (l0 l1 : AV) (a0g a0i : Nat) (a1 : Int32) (M : Mm) : run 55 20 [l0, l1] [aI a1, aR a0g 7 a0i] M = cbV (call 70 [aR a0g 7 a0i, aI a1] M) (fun M => run 55 23 [l0, l1] [] M) := call_V (n := 2) rfl false d55_20 rfl rfl rfl rfl rfl rfl rfl
theorem d55_23 : decode (cod 55) 23 = .ok (.iload_n 1, 1) := by decide +kernel
theorem r55_23 (l0 : AV) (x : Int32) (st : List AV) (M : Mm) : run 55 23 [l0, aI x] st M = run 55 24 [l0, aI x] (aI x :: st) M := e_ildn d55_23 rfl
theorem d55_24 : decode (cod 55) 24 = .ok (.ifCond .ne 16, 3) := by decide +kernel
theorem r55_24 (l0 l1 : AV) (a : Int32) (st : List AV) (M : Mm) : run 55 24 [l0, l1] (aI a :: st) M = if a = 0 then run 55 27 [l0, l1] st M else run 55 40 [l0, l1] st M := e_ne1 40 d55_24 (by decide)
theorem d55_27 : decode (cod 55) 27 = .ok (.aload_n 0, 1) := by decide +kernel
theorem r55_27 (l1 : AV) (xg xi : Nat) (st : List AV) (M : Mm) : run 55 27 [aR xg 7 xi, l1] st M = run 55 28 [aR xg 7 xi, l1] (aR xg 7 xi :: st) M := e_aldn d55_27 rfl
theorem d55_28 : decode (cod 55) 28 = .ok (.getfield 16, 3) := by decide +kernel
theorem r55_28 (l0 l1 : AV) (xg xi : Nat) (st : List AV) (M : Mm) : run 55 28 [l0, l1] (aR xg 7 xi :: st) M = run 55 31 [l0, l1] (aR 2 0 0 :: st) M := e_gfr (fun g => (2, 0, 0)) d55_28 rfl rfl rfl
theorem d55_31 : decode (cod 55) 31 = .ok (.getfield 127, 3) := by decide +kernel
theorem r55_31 (l0 l1 : AV) (xg xi : Nat) (st : List AV) (M : Mm) : run 55 31 [l0, l1] (aR xg 0 xi :: st) M = run 55 34 [l0, l1] (aR xg 5 0 :: st) M := e_gfr (fun g => (g, 5, 0)) d55_31 rfl rfl rfl
theorem d55_34 : decode (cod 55) 34 = .ok (.getfield 201, 3) := by decide +kernel
theorem r55_34 (l0 l1 : AV) (xg xi : Nat) (st : List AV) (M : Mm) : run 55 34 [l0, l1] (aR xg 5 xi :: st) M = run 55 37 [l0, l1] (aI (M xg 5 xi 4) :: st) M := e_gfi d55_34 rfl rfl rfl
theorem d55_37 : decode (cod 55) 37 = .ok (.goto 13, 3) := by decide +kernel
theorem r55_37 (l0 l1 : AV) (st : List AV) (M : Mm) : run 55 37 [l0, l1] st M = run 55 50 [l0, l1] st M := e_goto 50 d55_37 (by decide)
theorem d55_40 : decode (cod 55) 40 = .ok (.aload_n 0, 1) := by decide +kernel
theorem r55_40 (l1 : AV) (xg xi : Nat) (st : List AV) (M : Mm) : run 55 40 [aR xg 7 xi, l1] st M = run 55 41 [aR xg 7 xi, l1] (aR xg 7 xi :: st) M := e_aldn d55_40 rfl
theorem d55_41 : decode (cod 55) 41 = .ok (.getfield 16, 3) := by decide +kernel
theorem r55_41 (l0 l1 : AV) (xg xi : Nat) (st : List AV) (M : Mm) : run 55 41 [l0, l1] (aR xg 7 xi :: st) M = run 55 44 [l0, l1] (aR 2 0 0 :: st) M := e_gfr (fun g => (2, 0, 0)) d55_41 rfl rfl rfl
theorem d55_44 : decode (cod 55) 44 = .ok (.getfield 127, 3) := by decide +kernel
theorem r55_44 (l0 l1 : AV) (xg xi : Nat) (st : List AV) (M : Mm) : run 55 44 [l0, l1] (aR xg 0 xi :: st) M = run 55 47 [l0, l1] (aR xg 5 0 :: st) M := e_gfr (fun g => (g, 5, 0)) d55_44 rfl rfl rfl
theorem d55_47 : decode (cod 55) 47 = .ok (.getfield 204, 3) := by decide +kernel
theorem r55_47 (l0 l1 : AV) (xg xi : Nat) (st : List AV) (M : Mm) : run 55 47 [l0, l1] (aR xg 5 xi :: st) M = run 55 50 [l0, l1] (aI (M xg 5 xi 5) :: st) M := e_gfi d55_47 rfl rfl rfl
theorem d55_50 : decode (cod 55) 50 = .ok (.ireturn, 1) := by decide +kernel
theorem r55_50 (l0 l1 : AV) (v : Int32) (M : Mm) : run 55 50 [l0, l1] [aI v] M = some (some v, M) := e_iret d55_50 rfl
theorem c56 (g0 i0 : Nat) (x1 : Int32) (x2 : Int32) (M : Mm) : call 56 [aR g0 7 i0, aI x1, aI x2] M = run 56 0 [aR g0 7 i0, aI x1, aI x2, none, none, none] [] M := call_run 56 _ _
theorem d56_0 : decode (cod 56) 0 = .ok (.iload_n 1, 1) := by decide +kernel
theorem r56_0 (l0 l2 l3 l4 l5 : AV) (x : Int32) (st : List AV) (M : Mm) : run 56 0 [l0, aI x, l2, l3, l4, l5] st M = run 56 1 [l0, aI x, l2, l3, l4, l5] (aI x :: st) M := e_ildn d56_0 rfl
theorem d56_1 : decode (cod 56) 1 = .ok (.iconst 0, 1) := by decide +kernel
theorem r56_1 (l0 l1 l2 l3 l4 l5 : AV) (st : List AV) (M : Mm) : run 56 1 [l0, l1, l2, l3, l4, l5] st M = run 56 2 [l0, l1, l2, l3, l4, l5] (aI 0 :: st) M := e_iconst 0 d56_1 (by decide +kernel)
theorem d56_2 : decode (cod 56) 2 = .ok (.bipush 60, 2) := by decide +kernel
theorem r56_2 (l0 l1 l2 l3 l4 l5 : AV) (st : List AV) (M : Mm) : run 56 2 [l0, l1, l2, l3, l4, l5] st M = run 56 4 [l0, l1, l2, l3, l4, l5] (aI 60 :: st) M := e_bipush 60 d56_2 (by decide +kernel)
theorem d56_4 : decode (cod 56) 4 = .ok (.invokestatic 100, 3) := by decide +kernel
theorem r56_4 (l0 l1 l2 l3 l4 l5 : AV) (a0 : Int32) (a1 : Int32) (a2 : Int32) (M : Mm) : run 56 4 [l0, l1, l2, l3, l4, l5] [aI a2, aI a1, aI a0] M = cbI (call 67 [aI a0, aI a1, aI a2] M) (fun v M => run 56 7 [l0, l1, l2, l3, l4, l5] [aI v] M) := call_I (n := 3) rfl true d56_4 rfl rfl rfl rfl rfl rfl rfl
theorem d56_7 : decode (cod 56) 7 = .ok (.istore_n 3, 1) := by decide +kernel
theorem r56_7 (l0 l1 l2 l3 l4 l5 : AV) (x : Int32) (st : List AV) (M : Mm) : run 56 7 [l0, l1, l2, l3, l4, l5] (aI x :: st) M = run 56 8 [l0, l1, l2, aI x, l4, l5] st M := e_istn [l0, l1, l2, aI x, l4, l5] d56_7 rfl rfl
theorem d56_8 : decode (cod 56) 8 = .ok (.iload_n 3, 1) := by decide +kernel
theorem r56_8 (l0 l1 l2 l4 l5 : AV) (x : Int32) (st : List AV) (M : Mm) : run 56 8 [l0, l1, l2, aI x, l4, l5] st M = run 56 9 [l0, l1, l2, aI x, l4, l5] (aI x :: st) M := e_ildn d56_8 rfl
theorem d56_9 : decode (cod 56) 9 = .ok (.ifCond .ne 15, 3) := by decide +kernel
theorem r56_9 (l0 l1 l2 l3 l4 l5 : AV) (a : Int32) (st : List AV) (M : Mm) : run 56 9 [l0, l1, l2, l3, l4, l5] (aI a :: st) M = if a = 0 then run 56 12 [l0, l1, l2, l3, l4, l5] st M else run 56 24 [l0, l1, l2, l3, l4, l5] st M := e_ne1 24 d56_9 (by decide)
theorem d56_12 : decode (cod 56) 12 = .ok (.iload_n 2, 1) := by decide +kernel
theorem r56_12 (l0 l1 l3 l4 l5 : AV) (x : Int32) (st : List AV) (M : Mm) : run 56 12 [l0, l1, aI x, l3, l4, l5] st M = run 56 13 [l0, l1, aI x, l3, l4, l5] (aI x :: st) M := e_ildn d56_12 rfl
theorem d56_13 : decode (cod 56) 13 = .ok (.ifCond .lt 8, 3) := by decide +kernel
theorem r56_13 (l0 l1 l2 l3 l4 l5 : AV) (a : Int32) (st : List AV) (M : Mm) : run 56 13 [l0, l1, l2, l3, l4, l5] (aI a :: st) M = if a < 0 then run 56 21 [l0, l1, l2, l3, l4, l5] st M else run 56 16 [l0, l1, l2, l3, l4, l5] st M := e_lt1 21 d56_13 (by decide)
theorem d56_16 : decode (cod 56) 16 = .ok (.iload_n 2, 1) := by decide +kernel
theorem r56_16 (l0 l1 l3 l4 l5 : AV) (x : Int32) (st : List AV) (M : Mm) : run 56 16 [l0, l1, aI x, l3, l4, l5] st M = run 56 17 [l0, l1, aI x, l3, l4, l5] (aI x :: st) M := e_ildn d56_16 rfl
theorem d56_17 : decode (cod 56) 17 = .ok (.iconst 1, 1) := by decide +kernel
theorem r56_17 (l0 l1 l2 l3 l4 l5 : AV) (st : List AV) (M : Mm) : run 56 17 [l0, l1, l2, l3, l4, l5] st M = run 56 18 [l0, l1, l2, l3, l4, l5] (aI 1 :: st) M := e_iconst 1 d56_17 (by decide +kernel)
theorem d56_18 : decode (cod 56) 18 = .ok (.if_icmp .le 6, 3) := by decide +kernel
theorem r56_18 (l0 l1 l2 l3 l4 l5 : AV) (a b : Int32) (st : List AV) (M : Mm) : run 56 18 [l0, l1, l2, l3, l4, l5] (aI b :: aI a :: st) M = if b < a then run 56 21 [l0, l1, l2, l3, l4, l5] st M else run 56 24 [l0, l1, l2, l3, l4, l5] st M := e_le2 24 d56_18 (by decide)
theorem d56_21 : decode (cod 56) 21 = .ok (.bipush (-2), 2) := by decide +kernel
theorem r56_21 (l0 l1 l2 l3 l4 l5 : AV) (st : List AV) (M : Mm) : run 56 21 [l0, l1, l2, l3, l4, l5] st M = run 56 23 [l0, l1, l2, l3, l4, l5] (aI (-2) :: st) M := e_bipush (-2) d56_21 (by decide +kernel)
theorem d56_23 : decode (cod 56) 23 = .ok (.istore_n 3, 1) := by decide +kernel
theorem r56_23 (l0 l1 l2 l3 l4 l5 : AV) (x : Int32) (st : List AV) (M : Mm) : run 56 23 [l0, l1, l2, l3, l4, l5] (aI x :: st) M = run 56 24 [l0, l1, l2, aI x, l4, l5] st M := e_istn [l0, l1, l2, aI x, l4, l5] d56_23 rfl rfl
theorem d56_24 : decode (cod 56) 24 = .ok (.iload_n 3, 1) := by decide +kernel
theorem r56_24 (l0 l1 l2 l4 l5 : AV) (x : Int32) (st : List AV) (M : Mm) : run 56 24 [l0, l1, l2, aI x, l4, l5] st M = run 56 25 [l0, l1, l2, aI x, l4, l5] (aI x :: st) M := e_ildn d56_24 rfl
theorem d56_25 : decode (cod 56) 25 = .ok (.ifCond .eq 9, 3) := by decide +kernel
theorem r56_25 (l0 l1 l2 l3 l4 l5 : AV) (a : Int32) (st : List AV) (M : Mm) : run 56 25 [l0, l1, l2, l3, l4, l5] (aI a :: st) M = if a = 0 then run 56 34 [l0, l1, l2, l3, l4, l5] st M else run 56 28 [l0, l1, l2, l3, l4, l5] st M := e_eq1 34 d56_25 (by decide)
theorem d56_28 : decode (cod 56) 28 = .ok (.aload_n 0, 1) := by decide +kernel
theorem r56_28 (l1 l2 l3 l4 l5 : AV) (xg xi : Nat) (st : List AV) (M : Mm) : run 56 28 [aR xg 7 xi, l1, l2, l3, l4, l5] st M = run 56 29 [aR xg 7 xi, l1, l2, l3, l4, l5] (aR xg 7 xi :: st) M := e_aldn d56_28 rfl
theorem d56_29 : decode (cod 56) 29 = .ok (.iload_n 3, 1) := by decide +kernel
theorem r56_29 (l0 l1 l2 l4 l5 : AV) (x : Int32) (st : List AV) (M : Mm) : run 56 29 [l0, l1, l2, aI x, l4, l5] st M = run 56 30 [l0, l1, l2, aI x, l4, l5] (aI x :: st) M := e_ildn d56_29 rfl
theorem d56_30 : decode (cod 56) 30 = .ok (.invokevirtual 44, 3) := by decide +kernel
theorem r56_30 (l0 l1 l2 l3 l4 l5 : AV) (a0g a0i : Nat) (a1 : Int32) (M : Mm) : run 56 30 [l0, l1, l2, l3, l4, l5] [aI a1, aR a0g 7 a0i] M = cbI (call 66 [aR a0g 7 a0i, aI a1] M) (fun v M => run 56 33 [l0, l1, l2, l3, l4, l5] [aI v] M) := call_I (n := 2) rfl false d56_30 rfl rfl rfl rfl rfl rfl rfl
theorem d56_33 : decode (cod 56) 33 = .ok (.ireturn, 1) := by decide +kernel
theorem r56_33 (l0 l1 l2 l3 l4 l5 : AV) (v : Int32) (M : Mm) : run 56 33 [l0, l1, l2, l3, l4, l5] [aI v] M = some (some v, M) := e_iret d56_33 rfl
theorem d56_34 : decode (cod 56) 34 = .ok (.aload_n 0, 1) := by decide +kernel
theorem r56_34 (l1 l2 l3 l4 l5 : AV) (xg xi : Nat) (st : List AV) (M : Mm) : run 56 34 [aR xg 7 xi, l1, l2, l3, l4, l5] st M = run 56 35 [aR xg 7 xi, l1, l2, l3, l4, l5] (aR xg 7 xi :: st) M := e_aldn d56_34 rfl
theorem d56_35 : decode (cod 56) 35 = .ok (.iload_n 1, 1) := by decide +kernel
theorem r56_35 (l0 l2 l3 l4 l5 : AV) (x : Int32) (st : List AV) (M : Mm) : run 56 35 [l0, aI x, l2, l3, l4, l5] st M = run 56 36 [l0, aI x, l2, l3, l4, l5] (aI x :: st) M := e_ildn d56_35 rfl
theorem d56_36 : decode (cod 56) 36 = .ok (.invokevirtual 183, 3) := by decide +kernel
theorem r56_36 (l0 l1 l2 l3 l4 l5 : AV) (a0g a0i : Nat) (a1 : Int32) (M : Mm) : run 56 36 [l0, l1, l2, l3, l4, l5] [aI a1, aR a0g 7 a0i] M = cbI (call 71 [aR a0g 7 a0i, aI a1] M) (fun v M => run 56 39 [l0, l1, l2, l3, l4, l5] [aI v] M) := call_I (n := 2) rfl false d56_36 rfl rfl rfl rfl rfl rfl rfl
theorem d56_39 : decode (cod 56) 39 = .ok (.istore 4, 2) := by decide +kernel
theorem r56_39 (l0 l1 l2 l3 l4 l5 : AV) (x : Int32) (st : List AV) (M : Mm) : run 56 39 [l0, l1, l2, l3, l4, l5] (aI x :: st) M = run 56 41 [l0, l1, l2, l3, aI x, l5] st M := e_ist [l0, l1, l2, l3, aI x, l5] d56_39 rfl rfl
theorem d56_41 : decode (cod 56) 41 = .ok (.iconst 0, 1) := by decide +kernel
theorem r56_41 (l0 l1 l2 l3 l4 l5 : AV) (st : List AV) (M : Mm) : run 56 41 [l0, l1, l2, l3, l4, l5] st M = run 56 42 [l0, l1, l2, l3, l4, l5] (aI 0 :: st) M := e_iconst 0 d56_41 (by decide +kernel)
theorem d56_42 : decode (cod 56) 42 = .ok (.istore 5, 2) := by decide +kernel
theorem r56_42 (l0 l1 l2 l3 l4 l5 : AV) (x : Int32) (st : List AV) (M : Mm) : run 56 42 [l0, l1, l2, l3, l4, l5] (aI x :: st) M = run 56 44 [l0, l1, l2, l3, l4, aI x] st M := e_ist [l0, l1, l2, l3, l4, aI x] d56_42 rfl rfl
theorem d56_44 : decode (cod 56) 44 = .ok (.aload_n 0, 1) := by decide +kernel
theorem r56_44 (l1 l2 l3 l4 l5 : AV) (xg xi : Nat) (st : List AV) (M : Mm) : run 56 44 [aR xg 7 xi, l1, l2, l3, l4, l5] st M = run 56 45 [aR xg 7 xi, l1, l2, l3, l4, l5] (aR xg 7 xi :: st) M := e_aldn d56_44 rfl
theorem d56_45 : decode (cod 56) 45 = .ok (.iload 5, 2) := by decide +kernel
theorem r56_45 (l0 l1 l2 l3 l4 : AV) (x : Int32) (st : List AV) (M : Mm) : run 56 45 [l0, l1, l2, l3, l4, aI x] st M = run 56 47 [l0, l1, l2, l3, l4, aI x] (aI x :: st) M := e_ild d56_45 rfl
theorem d56_47 : decode (cod 56) 47 = .ok (.iload_n 1, 1) := by decide +kernel
theorem r56_47 (l0 l2 l3 l4 l5 : AV) (x : Int32) (st : List AV) (M : Mm) : run 56 47 [l0, aI x, l2, l3, l4, l5] st M = run 56 48 [l0, aI x, l2, l3, l4, l5] (aI x :: st) M := e_ildn d56_47 rfl
theorem d56_48 : decode (cod 56) 48 = .ok (.invokevirtual 207, 3) := by decide +kernel
theorem r56_48 (l0 l1 l2 l3 l4 l5 : AV) (a0g a0i : Nat) (a1 : Int32) (a2 : Int32) (M : Mm) : run 56 48 [l0, l1, l2, l3, l4, l5] [aI a2, aI a1, aR a0g 7 a0i] M = cbV (call 73 [aR a0g 7 a0i, aI a1, aI a2] M) (fun M => run 56 51 [l0, l1, l2, l3, l4, l5] [] M) := call_V (n := 3) rfl false d56_48 rfl rfl rfl rfl rfl rfl rfl
theorem d56_51 : decode (cod 56) 51 = .ok (.iload 5, 2) := by decide +kernel
theorem r56_51 (l0 l1 l2 l3 l4 : AV) (x : Int32) (st : List AV) (M : Mm) : run 56 51 [l0, l1, l2, l3, l4, aI x] st M = run 56 53 [l0, l1, l2, l3, l4, aI x] (aI x :: st) M := e_ild d56_51 rfl
theorem d56_53 : decode (cod 56) 53 = .ok (.iload_n 1, 1) := by decide +kernel
theorem r56_53 (l0 l2 l3 l4 l5 : AV) (x : Int32) (st : List AV) (M : Mm) : run 56 53 [l0, aI x, l2, l3, l4, l5] st M = run 56 54 [l0, aI x, l2, l3, l4, l5] (aI x :: st) M := e_ildn d56_53 rfl
theorem d56_54 : decode (cod 56) 54 = .ok (.if_icmp .ge 31, 3) := by decide +kernel
theorem r56_54 (l0 l1 l2 l3 l4 l5 : AV) (a b : Int32) (st : List AV) (M : Mm) : run 56 54 [l0, l1, l2, l3, l4, l5] (aI b :: aI a :: st) M = if a < b then run 56 57 [l0, l1, l2, l3, l4, l5] st M else run 56 85 [l0, l1, l2, l3, l4, l5] st M := e_ge2 85 d56_54 (by decide)
theorem d56_57 : decode (cod 56) 57 = .ok (.aload_n 0, 1) := by decide +kernel
theorem r56_57 (l1 l2 l3 l4 l5 : AV) (xg xi : Nat) (st : List AV) (M : Mm) : run 56 57 [aR xg 7 xi, l1, l2, l3, l4, l5] st M = run 56 58 [aR xg 7 xi, l1, l2, l3, l4, l5] (aR xg 7 xi :: st) M := e_aldn d56_57 rfl
theorem d56_58 : decode (cod 56) 58 = .ok (.getfield 16, 3) := by decide +kernel
theorem r56_58 (l0 l1 l2 l3 l4 l5 : AV) (xg xi : Nat) (st : List AV) (M : Mm) : run 56 58 [l0, l1, l2, l3, l4, l5] (aR xg 7 xi :: st) M = run 56 61 [l0, l1, l2, l3, l4, l5] (aR 2 0 0 :: st) M := e_gfr (fun g => (2, 0, 0)) d56_58 rfl rfl rfl
theorem d56_61 : decode (cod 56) 61 = .ok (.getfield 127, 3) := by decide +kernel
theorem r56_61 (l0 l1 l2 l3 l4 l5 : AV) (xg xi : Nat) (st : List AV) (M : Mm) : run 56 61 [l0, l1, l2, l3, l4, l5] (aR xg 0 xi :: st) M = run 56 64 [l0, l1, l2, l3, l4, l5] (aR xg 5 0 :: st) M := e_gfr (fun g => (g, 5, 0)) d56_61 rfl rfl rfl
theorem d56_64 : decode (cod 56) 64 = .ok (.getfield 131, 3) := by decide +kernel
theorem r56_64 (l0 l1 l2 l3 l4 l5 : AV) (xg xi : Nat) (st : List AV) (M : Mm) : run 56 64 [l0, l1, l2, l3, l4, l5] (aR xg 5 xi :: st) M = run 56 67 [l0, l1, l2, l3, l4, l5] (aI (M xg 5 xi 1) :: st) M := e_gfi d56_64 rfl rfl rfl
theorem d56_67 : decode (cod 56) 67 = .ok (.iload 4, 2) := by decide +kernel
theorem r56_67 (l0 l1 l2 l3 l5 : AV) (x : Int32) (st : List AV) (M : Mm) : run 56 67 [l0, l1, l2, l3, aI x, l5] st M = run 56 69 [l0, l1, l2, l3, aI x, l5] (aI x :: st) M := e_ild d56_67 rfl
theorem d56_69 : decode (cod 56) 69 = .ok (.if_icmp .ge 16, 3) := by decide +kernel
theorem r56_69 (l0 l1 l2 l3 l4 l5 : AV) (a b : Int32) (st : List AV) (M : Mm) : run 56 69 [l0, l1, l2, l3, l4, l5] (aI b :: aI a :: st) M = if a < b then run 56 72 [l0, l1, l2, l3, l4, l5] st M else run 56 85 [l0, l1, l2, l3, l4, l5] st M := e_ge2 85 d56_69 (by decide)
theorem d56_72 : decode (cod 56) 72 = .ok (.iinc 5 1, 3) := by decide +kernel
theorem r56_72 (l0 l1 l2 l3 l4 : AV) (x : Int32) (st : List AV) (M : Mm) : run 56 72 [l0, l1, l2, l3, l4, aI x] st M = run 56 75 [l0, l1, l2, l3, l4, aI (x + 1)] st M := e_iinc 1 [l0, l1, l2, l3, l4, aI (x + 1)] d56_72 (by decide +kernel) rfl rfl
theorem d56_75 : decode (cod 56) 75 = .ok (.aload_n 0, 1) := by decide +kernel
theorem r56_75 (l1 l2 l3 l4 l5 : AV) (xg xi : Nat) (st : List AV) (M : Mm) : run 56 75 [aR xg 7 xi, l1, l2, l3, l4, l5] st M = run 56 76 [aR xg 7 xi, l1, l2, l3, l4, l5] (aR xg 7 xi :: st) M := e_aldn d56_75 rfl
theorem d56_76 : decode (cod 56) 76 = .ok (.iload 5, 2) := by decide +kernel
theorem r56_76 (l0 l1 l2 l3 l4 : AV) (x : Int32) (st : List AV) (M : Mm) : run 56 76 [l0, l1, l2, l3, l4, aI x] st M = run 56 78 [l0, l1, l2, l3, l4, aI x] (aI x :: st) M := e_ild d56_76 rfl
theorem d56_78 : decode (cod 56) 78 = .ok (.iload_n 1, 1) := by decide +kernel
theorem r56_78 (l0 l2 l3 l4 l5 : AV) (x : Int32) (st : List AV) (M : Mm) : run 56 78 [l0, aI x, l2, l3, l4, l5] st M = run 56 79 [l0, aI x, l2, l3, l4, l5] (aI x :: st) M := e_ildn d56_78 rfl
theorem d56_79 : decode (cod 56) 79 = .ok (.invokevirtual 207, 3) := by decide +kernel
theorem r56_79 (l0 l1 l2 l3 l4 l5 : AV) (a0g a0i : Nat) (a1 : Int32) (a2 : Int32) (M : Mm) : run 56 79 [l0, l1, l2, l3, l4, l5] [aI a2, aI a1, aR a0g 7 a0i] M = cbV (call 73 [aR a0g 7 a0i, aI a1, aI a2] M) (fun M => run 56 82 [l0, l1, l2, l3, l4, l5] [] M) := call_V (n := 3) rfl false d56_79 rfl rfl rfl rfl rfl rfl rfl
theorem d56_82 : decode (cod 56) 82 = .ok (.goto (-31), 3) := by decide +kernel
theorem r56_82 (l0 l1 l2 l3 l4 l5 : AV) (st : List AV) (M : Mm) : run 56 82 [l0, l1, l2, l3, l4, l5] st M = run 56 51 [l0, l1, l2, l3, l4, l5] st M := e_goto 51 d56_82 (by decide)
theorem d56_85 : decode (cod 56) 85 = .ok (.iload_n 2, 1) := by decide +kernel
theorem r56_85 (l0 l1 l3 l4 l5 : AV) (x : Int32) (st : List AV) (M : Mm) : run 56 85 [l0, l1, aI x, l3, l4, l5] st M = run 56 86 [l0, l1, aI x, l3, l4, l5] (aI x :: st) M := e_ildn d56_85 rfl
theorem d56_86 : decode (cod 56) 86 = .ok (.ifCond .ne 8, 3) := by decide +kernel
theorem r56_86 (l0 l1 l2 l3 l4 l5 : AV) (a : Int32) (st : List AV) (M : Mm) : run 56 86 [l0, l1, l2, l3, l4, l5] (aI a :: st) M = if a = 0 then run 56 89 [l0, l1, l2, l3, l4, l5] st M else run 56 94 [l0, l1, l2, l3, l4, l5] st M := e_ne1 94 d56_86 (by decide)
theorem d56_89 : decode (cod 56) 89 = .ok (.iload 5, 2) := by decide +kernel
theorem r56_89 (l0 l1 l2 l3 l4 : AV) (x : Int32) (st : List AV) (M : Mm) : run 56 89 [l0, l1, l2, l3, l4, aI x] st M = run 56 91 [l0, l1, l2, l3, l4, aI x] (aI x :: st) M := e_ild d56_89 rfl
theorem d56_91 : decode (cod 56) 91 = .ok (.goto 10, 3) := by decide +kernel
theorem r56_91 (l0 l1 l2 l3 l4 l5 : AV) (st : List AV) (M : Mm) : run 56 91 [l0, l1, l2, l3, l4, l5] st M = run 56 101 [l0, l1, l2, l3, l4, l5] st M := e_goto 101 d56_91 (by decide)
theorem d56_94 : decode (cod 56) 94 = .ok (.aload_n 0, 1) := by decide +kernel
theorem r56_94 (l1 l2 l3 l4 l5 : AV) (xg xi : Nat) (st : List AV) (M : Mm) : run 56 94 [aR xg 7 xi, l1, l2, l3, l4, l5] st M = run 56 95 [aR xg 7 xi, l1, l2, l3, l4, l5] (aR xg 7 xi :: st) M := e_aldn d56_94 rfl
theorem d56_95 : decode (cod 56) 95 = .ok (.getfield 16, 3) := by decide +kernel
theorem r56_95 (l0 l1 l2 l3 l4 l5 : AV) (xg xi : Nat) (st : List AV) (M : Mm) : run 56 95 [l0, l1, l2, l3, l4, l5] (aR xg 7 xi :: st) M = run 56 98 [l0, l1, l2, l3, l4, l5] (aR 2 0 0 :: st) M := e_gfr (fun g => (2, 0, 0)) d56_95 rfl rfl rfl
theorem d56_98 : decode (cod 56) 98 = .ok (.invokevirtual 169, 3) := by decide +kernel
theorem r56_98 (l0 l1 l2 l3 l4 l5 : AV) (a0g a0i : Nat) (M : Mm) : run 56 98 [l0, l1, l2, l3, l4, l5] [aR a0g 0 a0i] M = cbI (call 19 [aR a0g 0 a0i] M) (fun v M => run 56 101 [l0, l1, l2, l3, l4, l5] [aI v] M) := call_I (n := 1) rfl false d56_98 rfl rfl rfl rfl rfl rfl rfl
theorem d56_101 : decode (cod 56) 101 = .ok (.ireturn, 1) := by decide +kernel
theorem r56_101 (l0 l1 l2 l3 l4 l5 : AV) (v : Int32) (M : Mm) : run 56 101 [l0, l1, l2, l3, l4, l5] [aI v] M = some (some v, M) := e_iret d56_101 rfl
theorem c57 (g0 i0 : Nat) (x1 : Int32) (x2 : Int32) (x3 : Int32) (M : Mm) : call 57 [aR g0 7 i0, aI x1, aI x2, aI x3] M = run 57 0 [aR g0 7 i0, aI x1, aI x2, aI x3, none, none] [] M := call_run 57 _ _
theorem d57_0 : decode (cod 57) 0 = .ok (.aload_n 0, 1) := by decide +kernel
theorem r57_0 (l1 l2 l3 l4 l5 : AV) (xg xi : Nat) (st : List AV) (M : Mm) : run 57 0 [aR xg 7 xi, l1, l2, l3, l4, l5] st M = run 57 1 [aR xg 7 xi, l1, l2, l3, l4, l5] (aR xg 7 xi :: st) M := e_aldn d57_0 rfl
theorem d57_1 : decode (cod 57) 1 = .ok (.iload_n 1, 1) := by decide +kernel
theorem r57_1 (l0 l2 l3 l4 l5 : AV) (x : Int32) (st : List AV) (M : Mm) : run 57 1 [l0, aI x, l2, l3, l4, l5] st M = run 57 2 [l0, aI x, l2, l3, l4, l5] (aI x :: st) M := e_ildn d57_1 rfl
theorem d57_2 : decode (cod 57) 2 = .ok (.iload_n 2, 1) := by decide +kernel
theorem r57_2 (l0 l1 l3 l4 l5 : AV) (x : Int32) (st : List AV) (M : Mm) : run 57 2 [l0, l1, aI x, l3, l4, l5] st M = run 57 3 [l0, l1, aI x, l3, l4, l5] (aI x :: st) M := e_ildn d57_2 rfl
theorem d57_3 : decode (cod 57) 3 = .ok (.iload_n 3, 1) := by decide +kernel
theorem r57_3 (l0 l1 l2 l4 l5 : AV) (x : Int32) (st : List AV) (M : Mm) : run 57 3 [l0, l1, l2, aI x, l4, l5] st M = run 57 4 [l0, l1, l2, aI x, l4, l5] (aI x :: st) M := e_ildn d57_3 rfl
theorem d57_4 : decode (cod 57) 4 = .ok (.invokevirtual 173, 3) := by decide +kernel
theorem r57_4 (l0 l1 l2 l3 l4 l5 : AV) (a0g a0i : Nat) (a1 : Int32) (a2 : Int32) (a3 : Int32) (M : Mm) : run 57 4 [l0, l1, l2, l3, l4, l5] [aI a3, aI a2, aI a1, aR a0g 7 a0i] M = cbI (call 69 [aR a0g 7 a0i, aI a1, aI a2, aI a3] M) (fun v M => run 57 7 [l0, l1, l2, l3, l4, l5] [aI v] M) := call_I (n := 4) rfl false d57_4 rfl rfl rfl rfl rfl rfl rfl
theorem d57_7 : decode (cod 57) 7 = .ok (.istore 4, 2) := by decide +kernel
theorem r57_7 (l0 l1 l2 l3 l4 l5 : AV) (x : Int32) (st : List AV) (M : Mm) : run 57 7 [l0, l1, l2, l3, l4, l5] (aI x :: st) M = run 57 9 [l0, l1, l2, l3, aI x, l5] st M := e_ist [l0, l1, l2, l3, aI x, l5] d57_7 rfl rfl
theorem d57_9 : decode (cod 57) 9 = .ok (.iload 4, 2) := by decide +kernel
theorem r57_9 (l0 l1 l2 l3 l5 : AV) (x : Int32) (st : List AV) (M : Mm) : run 57 9 [l0, l1, l2, l3, aI x, l5] st M = run 57 11 [l0, l1, l2, l3, aI x, l5] (aI x :: st) M := e_ild d57_9 rfl
theorem d57_11 : decode (cod 57) 11 = .ok (.ifCond .eq 10, 3) := by decide +kernel
theorem r57_11 (l0 l1 l2 l3 l4 l5 : AV) (a : Int32) (st : List AV) (M : Mm) : run 57 11 [l0, l1, l2, l3, l4, l5] (aI a :: st) M = if a = 0 then run 57 21 [l0, l1, l2, l3, l4, l5] st M else run 57 14 [l0, l1, l2, l3, l4, l5] st M := e_eq1 21 d57_11 (by decide)
theorem d57_14 : decode (cod 57) 14 = .ok (.aload_n 0, 1) := by decide +kernel
theorem r57_14 (l1 l2 l3 l4 l5 : AV) (xg xi : Nat) (st : List AV) (M : Mm) : run 57 14 [aR xg 7 xi, l1, l2, l3, l4, l5] st M = run 57 15 [aR xg 7 xi, l1, l2, l3, l4, l5] (aR xg 7 xi :: st) M := e_aldn d57_14 rfl
theorem d57_15 : decode (cod 57) 15 = .ok (.iload 4, 2) := by decide +kernel
theorem r57_15 (l0 l1 l2 l3 l5 : AV) (x : Int32) (st : List AV) (M : Mm) : run 57 15 [l0, l1, l2, l3, aI x, l5] st M = run 57 17 [l0, l1, l2, l3, aI x, l5] (aI x :: st) M := e_ild d57_15 rfl
theorem d57_17 : decode (cod 57) 17 = .ok (.invokevirtual 44, 3) := by decide +kernel
theorem r57_17 (l0 l1 l2 l3 l4 l5 : AV) (a0g a0i : Nat) (a1 : Int32) (M : Mm) : run 57 17 [l0, l1, l2, l3, l4, l5] [aI a1, aR a0g 7 a0i] M = cbI (call 66 [aR a0g 7 a0i, aI a1] M) (fun v M => run 57 20 [l0, l1, l2, l3, l4, l5] [aI v] M) := call_I (n := 2) rfl false d57_17 rfl rfl rfl rfl rfl rfl rfl
theorem d57_20 : decode (cod 57) 20 = .ok (.ireturn, 1) := by decide +kernel
theorem r57_20 (l0 l1 l2 l3 l4 l5 : AV) (v : Int32) (M : Mm) : run 57 20 [l0, l1, l2, l3, l4, l5] [aI v] M = some (some v, M) := e_iret d57_20 rfl
theorem d57_21 : decode (cod 57) 21 = .ok (.aload_n 0, 1) := by decide +kernel
theorem r57_21 (l1 l2 l3 l4 l5 : AV) (xg xi : Nat) (st : List AV) (M : Mm) : run 57 21 [aR xg 7 xi, l1, l2, l3, l4, l5] st M = run 57 22 [aR xg 7 xi, l1, l2, l3, l4, l5] (aR xg 7 xi :: st) M := e_aldn d57_21 rfl
theorem d57_22 : decode (cod 57) 22 = .ok (.iload_n 1, 1) := by decide +kernel
theorem r57_22 (l0 l2 l3 l4 l5 : AV) (x : Int32) (st : List AV) (M : Mm) : run 57 22 [l0, aI x, l2, l3, l4, l5] st M = run 57 23 [l0, aI x, l2, l3, l4, l5] (aI x :: st) M := e_ildn d57_22 rfl
theorem d57_23 : decode (cod 57) 23 = .ok (.invokevirtual 154, 3) := by decide +kernel
theorem r57_23 (l0 l1 l2 l3 l4 l5 : AV) (a0g a0i : Nat) (a1 : Int32) (M : Mm) : run 57 23 [l0, l1, l2, l3, l4, l5] [aI a1, aR a0g 7 a0i] M = cbV (call 70 [aR a0g 7 a0i, aI a1] M) (fun M => run 57 26 [l0, l1, l2, l3, l4, l5] [] M) := call_V (n := 2) rfl false d57_23 rfl rfl rfl rfl rfl rfl rfl
theorem d57_26 : decode (cod 57) 26 = .ok (.aload_n 0, 1) := by decide +kernel
theorem r57_26 (l1 l2 l3 l4 l5 : AV) (xg xi : Nat) (st : List AV) (M : Mm) : run 57 26 [aR xg 7 xi, l1, l2, l3, l4, l5] st M = run 57 27 [aR xg 7 xi, l1, l2, l3, l4, l5] (aR xg 7 xi :: st) M := e_aldn d57_26 rfl
theorem d57_27 : decode (cod 57) 27 = .ok (.getfield 16, 3) := by decide +kernel
theorem r57_27 (l0 l1 l2 l3 l4 l5 : AV) (xg xi : Nat) (st : List AV) (M : Mm) : run 57 27 [l0, l1, l2, l3, l4, l5] (aR xg 7 xi :: st) M = run 57 30 [l0, l1, l2, l3, l4, l5] (aR 2 0 0 :: st) M := e_gfr (fun g => (2, 0, 0)) d57_27 rfl rfl rfl
theorem d57_30 : decode (cod 57) 30 = .ok (.getfield 73, 3) := by decide +kernel
theorem r57_30 (l0 l1 l2 l3 l4 l5 : AV) (xg xi : Nat) (st : List AV) (M : Mm) : run 57 30 [l0, l1, l2, l3, l4, l5] (aR xg 0 xi :: st) M = run 57 33 [l0, l1, l2, l3, l4, l5] (aR xg 1 0 :: st) M := e_gfr (fun g => (g, 1, 0)) d57_30 rfl rfl rfl
theorem d57_33 : decode (cod 57) 33 = .ok (.iload_n 2, 1) := by decide +kernel
theorem r57_33 (l0 l1 l3 l4 l5 : AV) (x : Int32) (st : List AV) (M : Mm) : run 57 33 [l0, l1, aI x, l3, l4, l5] st M = run 57 34 [l0, l1, aI x, l3, l4, l5] (aI x :: st) M := e_ildn d57_33 rfl
theorem d57_34 : decode (cod 57) 34 = .ok (.aaload, 1) := by decide +kernel
theorem r57_34 (l0 l1 l2 l3 l4 l5 : AV) (i : Int32) (xg xi : Nat) (st : List AV) (M : Mm) : run 57 34 [l0, l1, l2, l3, l4, l5] (aI i :: aR xg 1 xi :: st) M = if vpB i 4 = true then run 57 35 [l0, l1, l2, l3, l4, l5] (aR xg 2 i.toNatClampNeg :: st) M else none := e_aal1 d57_34
theorem d57_35 : decode (cod 57) 35 = .ok (.astore 5, 2) := by decide +kernel
theorem r57_35 (l0 l1 l2 l3 l4 l5 : AV) (xg xi : Nat) (st : List AV) (M : Mm) : run 57 35 [l0, l1, l2, l3, l4, l5] (aR xg 2 xi :: st) M = run 57 37 [l0, l1, l2, l3, l4, aR xg 2 xi] st M := e_ast [l0, l1, l2, l3, l4, aR xg 2 xi] d57_35 rfl rfl
theorem d57_37 : decode (cod 57) 37 = .ok (.iload_n 3, 1) := by decide +kernel
theorem r57_37 (l0 l1 l2 l4 l5 : AV) (x : Int32) (st : List AV) (M : Mm) : run 57 37 [l0, l1, l2, aI x, l4, l5] st M = run 57 38 [l0, l1, l2, aI x, l4, l5] (aI x :: st) M := e_ildn d57_37 rfl
theorem d57_38 : decode (cod 57) 38 = .ok (.ifCond .ne 11, 3) := by decide +kernel
theorem r57_38 (l0 l1 l2 l3 l4 l5 : AV) (a : Int32) (st : List AV) (M : Mm) : run 57 38 [l0, l1, l2, l3, l4, l5] (aI a :: st) M = if a = 0 then run 57 41 [l0, l1, l2, l3, l4, l5] st M else run 57 49 [l0, l1, l2, l3, l4, l5] st M := e_ne1 49 d57_38 (by decide)
theorem d57_41 : decode (cod 57) 41 = .ok (.aload 5, 2) := by decide +kernel
theorem r57_41 (l0 l1 l2 l3 l4 : AV) (xg xi : Nat) (st : List AV) (M : Mm) : run 57 41 [l0, l1, l2, l3, l4, aR xg 2 xi] st M = run 57 43 [l0, l1, l2, l3, l4, aR xg 2 xi] (aR xg 2 xi :: st) M := e_ald d57_41 rfl
theorem d57_43 : decode (cod 57) 43 = .ok (.getfield 210, 3) := by decide +kernel
theorem r57_43 (l0 l1 l2 l3 l4 l5 : AV) (xg xi : Nat) (st : List AV) (M : Mm) : run 57 43 [l0, l1, l2, l3, l4, l5] (aR xg 2 xi :: st) M = run 57 46 [l0, l1, l2, l3, l4, l5] (aI (M xg 2 xi 7) :: st) M := e_gfi d57_43 rfl rfl rfl
theorem d57_46 : decode (cod 57) 46 = .ok (.goto 14, 3) := by decide +kernel
theorem r57_46 (l0 l1 l2 l3 l4 l5 : AV) (st : List AV) (M : Mm) : run 57 46 [l0, l1, l2, l3, l4, l5] st M = run 57 60 [l0, l1, l2, l3, l4, l5] st M := e_goto 60 d57_46 (by decide)
theorem d57_49 : decode (cod 57) 49 = .ok (.aload 5, 2) := by decide +kernel
theorem r57_49 (l0 l1 l2 l3 l4 : AV) (xg xi : Nat) (st : List AV) (M : Mm) : run 57 49 [l0, l1, l2, l3, l4, aR xg 2 xi] st M = run 57 51 [l0, l1, l2, l3, l4, aR xg 2 xi] (aR xg 2 xi :: st) M := e_ald d57_49 rfl
theorem d57_51 : decode (cod 57) 51 = .ok (.getfield 172, 3) := by decide +kernel
theorem r57_51 (l0 l1 l2 l3 l4 l5 : AV) (xg xi : Nat) (st : List AV) (M : Mm) : run 57 51 [l0, l1, l2, l3, l4, l5] (aR xg 2 xi :: st) M = run 57 54 [l0, l1, l2, l3, l4, l5] (aI (M xg 2 xi 6) :: st) M := e_gfi d57_51 rfl rfl rfl
theorem d57_54 : decode (cod 57) 54 = .ok (.aload 5, 2) := by decide +kernel
theorem r57_54 (l0 l1 l2 l3 l4 : AV) (xg xi : Nat) (st : List AV) (M : Mm) : run 57 54 [l0, l1, l2, l3, l4, aR xg 2 xi] st M = run 57 56 [l0, l1, l2, l3, l4, aR xg 2 xi] (aR xg 2 xi :: st) M := e_ald d57_54 rfl
theorem d57_56 : decode (cod 57) 56 = .ok (.getfield 210, 3) := by decide +kernel
theorem r57_56 (l0 l1 l2 l3 l4 l5 : AV) (xg xi : Nat) (st : List AV) (M : Mm) : run 57 56 [l0, l1, l2, l3, l4, l5] (aR xg 2 xi :: st) M = run 57 59 [l0, l1, l2, l3, l4, l5] (aI (M xg 2 xi 7) :: st) M := e_gfi d57_56 rfl rfl rfl
theorem d57_59 : decode (cod 57) 59 = .ok (.isub, 1) := by decide +kernel
theorem r57_59 (l0 l1 l2 l3 l4 l5 : AV) (a b : Int32) (st : List AV) (M : Mm) : run 57 59 [l0, l1, l2, l3, l4, l5] (aI b :: aI a :: st) M = run 57 60 [l0, l1, l2, l3, l4, l5] (aI (a - b) :: st) M := e_isub d57_59
theorem d57_60 : decode (cod 57) 60 = .ok (.ireturn, 1) := by decide +kernel
theorem r57_60 (l0 l1 l2 l3 l4 l5 : AV) (v : Int32) (M : Mm) : run 57 60 [l0, l1, l2, l3, l4, l5] [aI v] M = some (some v, M) := e_iret d57_60 rfl
theorem c58 (g0 i0 : Nat) (x1 : Int32) (x2 : Int32) (x3 : Int32) (M : Mm) : call 58 [aR g0 7 i0, aI x1, aI x2, aI x3] M = run 58 0 [aR g0 7 i0, aI x1, aI x2, aI x3, none, none, none] [] M := call_run 58 _ _
theorem d58_0 : decode (cod 58) 0 = .ok (.iload_n 1, 1) := by decide +kernel
theorem r58_0 (l0 l2 l3 l4 l5 l6 : AV) (x : Int32) (st : List AV) (M : Mm) : run 58 0 [l0, aI x, l2, l3, l4, l5, l6] st M = run 58 1 [l0, aI x, l2, l3, l4, l5, l6] (aI x :: st) M := e_ildn d58_0 rfl
theorem d58_1 : decode (cod 58) 1 = .ok (.iload_n 2, 1) := by decide +kernel
theorem r58_1 (l0 l1 l3 l4 l5 l6 : AV) (x : Int32) (st : List AV) (M : Mm) : run 58 1 [l0, l1, aI x, l3, l4, l5, l6] st M = run 58 2 [l0, l1, aI x, l3, l4, l5, l6] (aI x :: st) M := e_ildn d58_1 rfl
theorem d58_2 : decode (cod 58) 2 = .ok (.bipush 9, 2) := by decide +kernel
theorem r58_2 (l0 l1 l2 l3 l4 l5 l6 : AV) (st : List AV) (M : Mm) : run 58 2 [l0, l1, l2, l3, l4, l5, l6] st M = run 58 4 [l0, l1, l2, l3, l4, l5, l6] (aI 9 :: st) M := e_bipush 9 d58_2 (by decide +kernel)
theorem d58_4 : decode (cod 58) 4 = .ok (.invokestatic 186, 3) := by decide +kernel
theorem r58_4 (l0 l1 l2 l3 l4 l5 l6 : AV) (a0 : Int32) (a1 : Int32) (a2 : Int32) (M : Mm) : run 58 4 [l0, l1, l2, l3, l4, l5, l6] [aI a2, aI a1, aI a0] M = cbI (call 68 [aI a0, aI a1, aI a2] M) (fun v M => run 58 7 [l0, l1, l2, l3, l4, l5, l6] [aI v] M) := call_I (n := 3) rfl true d58_4 rfl rfl rfl rfl rfl rfl rfl
theorem d58_7 : decode (cod 58) 7 = .ok (.istore 4, 2) := by decide +kernel
theorem r58_7 (l0 l1 l2 l3 l4 l5 l6 : AV) (x : Int32) (st : List AV) (M : Mm) : run 58 7 [l0, l1, l2, l3, l4, l5, l6] (aI x :: st) M = run 58 9 [l0, l1, l2, l3, aI x, l5, l6] st M := e_ist [l0, l1, l2, l3, aI x, l5, l6] d58_7 rfl rfl
theorem d58_9 : decode (cod 58) 9 = .ok (.iload 4, 2) := by decide +kernel
theorem r58_9 (l0 l1 l2 l3 l5 l6 : AV) (x : Int32) (st : List AV) (M : Mm) : run 58 9 [l0, l1, l2, l3, aI x, l5, l6] st M = run 58 11 [l0, l1, l2, l3, aI x, l5, l6] (aI x :: st) M := e_ild d58_9 rfl
theorem d58_11 : decode (cod 58) 11 = .ok (.ifCond .ne 16, 3) := by decide +kernel
theorem r58_11 (l0 l1 l2 l3 l4 l5 l6 : AV) (a : Int32) (st : List AV) (M : Mm) : run 58 11 [l0, l1, l2, l3, l4, l5, l6] (aI a :: st) M = if a = 0 then run 58 14 [l0, l1, l2, l3, l4, l5, l6] st M else run 58 27 [l0, l1, l2, l3, l4, l5, l6] st M := e_ne1 27 d58_11 (by decide)
theorem d58_14 : decode (cod 58) 14 = .ok (.iload_n 3, 1) := by decide +kernel
theorem r58_14 (l0 l1 l2 l4 l5 l6 : AV) (x : Int32) (st : List AV) (M : Mm) : run 58 14 [l0, l1, l2, aI x, l4, l5, l6] st M = run 58 15 [l0, l1, l2, aI x, l4, l5, l6] (aI x :: st) M := e_ildn d58_14 rfl
theorem d58_15 : decode (cod 58) 15 = .ok (.ifCond .lt 8, 3) := by decide +kernel
theorem r58_15 (l0 l1 l2 l3 l4 l5 l6 : AV) (a : Int32) (st : List AV) (M : Mm) : run 58 15 [l0, l1, l2, l3, l4, l5, l6] (aI a :: st) M = if a < 0 then run 58 23 [l0, l1, l2, l3, l4, l5, l6] st M else run 58 18 [l0, l1, l2, l3, l4, l5, l6] st M := e_lt1 23 d58_15 (by decide)
theorem d58_18 : decode (cod 58) 18 = .ok (.iload_n 3, 1) := by decide +kernel
theorem r58_18 (l0 l1 l2 l4 l5 l6 : AV) (x : Int32) (st : List AV) (M : Mm) : run 58 18 [l0, l1, l2, aI x, l4, l5, l6] st M = run 58 19 [l0, l1, l2, aI x, l4, l5, l6] (aI x :: st) M := e_ildn d58_18 rfl
theorem d58_19 : decode (cod 58) 19 = .ok (.iconst 1, 1) := by decide +kernel
theorem r58_19 (l0 l1 l2 l3 l4 l5 l6 : AV) (st : List AV) (M : Mm) : run 58 19 [l0, l1, l2, l3, l4, l5, l6] st M = run 58 20 [l0, l1, l2, l3, l4, l5, l6] (aI 1 :: st) M := e_iconst 1 d58_19 (by decide +kernel)
theorem d58_20 : decode (cod 58) 20 = .ok (.if_icmp .le 7, 3) := by decide +kernel
theorem r58_20 (l0 l1 l2 l3 l4 l5 l6 : AV) (a b : Int32) (st : List AV) (M : Mm) : run 58 20 [l0, l1, l2, l3, l4, l5, l6] (aI b :: aI a :: st) M = if b < a then run 58 23 [l0, l1, l2, l3, l4, l5, l6] st M else run 58 27 [l0, l1, l2, l3, l4, l5, l6] st M := e_le2 27 d58_20 (by decide)
theorem d58_23 : decode (cod 58) 23 = .ok (.bipush (-2), 2) := by decide +kernel
theorem r58_23 (l0 l1 l2 l3 l4 l5 l6 : AV) (st : List AV) (M : Mm) : run 58 23 [l0, l1, l2, l3, l4, l5, l6] st M = run 58 25 [l0, l1, l2, l3, l4, l5, l6] (aI (-2) :: st) M := e_bipush (-2) d58_23 (by decide +kernel)
theorem d58_25 : decode (cod 58) 25 = .ok (.istore 4, 2) := by decide +kernel
theorem r58_25 (l0 l1 l2 l3 l4 l5 l6 : AV) (x : Int32) (st : List AV) (M : Mm) : run 58 25 [l0, l1, l2, l3, l4, l5, l6] (aI x :: st) M = run 58 27 [l0, l1, l2, l3, aI x, l5, l6] st M := e_ist [l0, l1, l2, l3, aI x, l5, l6] d58_25 rfl rfl
theorem d58_27 : decode (cod 58) 27 = .ok (.iload 4, 2) := by decide +kernel
theorem r58_27 (l0 l1 l2 l3 l5 l6 : AV) (x : Int32) (st : List AV) (M : Mm) : run 58 27 [l0, l1, l2, l3, aI x, l5, l6] st M = run 58 29 [l0, l1, l2, l3, aI x, l5, l6] (aI x :: st) M := e_ild d58_27 rfl
theorem d58_29 : decode (cod 58) 29 = .ok (.ifCond .eq 13, 3) := by decide +kernel
theorem r58_29 (l0 l1 l2 l3 l4 l5 l6 : AV) (a : Int32) (st : List AV) (M : Mm) : run 58 29 [l0, l1, l2, l3, l4, l5, l6] (aI a :: st) M = if a = 0 then run 58 42 [l0, l1, l2, l3, l4, l5, l6] st M else run 58 32 [l0, l1, l2, l3, l4, l5, l6] st M := e_eq1 42 d58_29 (by decide)
theorem d58_32 : decode (cod 58) 32 = .ok (.ldc 182, 2) := by decide +kernel
theorem r58_32 (l0 l1 l2 l3 l4 l5 l6 : AV) (st : List AV) (M : Mm) : run 58 32 [l0, l1, l2, l3, l4, l5, l6] st M = run 58 34 [l0, l1, l2, l3, l4, l5, l6] (aI 1000000000 :: st) M := e_ldc d58_32 rfl
theorem d58_34 : decode (cod 58) 34 = .ok (.aload_n 0, 1) := by decide +kernel
theorem r58_34 (l1 l2 l3 l4 l5 l6 : AV) (xg xi : Nat) (st : List AV) (M : Mm) : run 58 34 [aR xg 7 xi, l1, l2, l3, l4, l5, l6] st M = run 58 35 [aR xg 7 xi, l1, l2, l3, l4, l5, l6] (aR xg 7 xi :: st) M := e_aldn d58_34 rfl
theorem d58_35 : decode (cod 58) 35 = .ok (.iload 4, 2) := by decide +kernel
theorem r58_35 (l0 l1 l2 l3 l5 l6 : AV) (x : Int32) (st : List AV) (M : Mm) : run 58 35 [l0, l1, l2, l3, aI x, l5, l6] st M = run 58 37 [l0, l1, l2, l3, aI x, l5, l6] (aI x :: st) M := e_ild d58_35 rfl
theorem d58_37 : decode (cod 58) 37 = .ok (.invokevirtual 44, 3) := by decide +kernel
theorem r58_37 (l0 l1 l2 l3 l4 l5 l6 : AV) (a0g a0i : Nat) (a1 : Int32) (t0 : AV) (M : Mm) : run 58 37 [l0, l1, l2, l3, l4, l5, l6] [aI a1, aR a0g 7 a0i, t0] M = cbI (call 66 [aR a0g 7 a0i, aI a1] M) (fun v M => run 58 40 [l0, l1, l2, l3, l4, l5, l6] [aI v, t0] M) := call_I (n := 2) rfl false d58_37 rfl rfl rfl rfl rfl rfl rfl
theorem d58_40 : decode (cod 58) 40 = .ok (.isub, 1) := by decide +kernel
theorem r58_40 (l0 l1 l2 l3 l4 l5 l6 : AV) (a b : Int32) (st : List AV) (M : Mm) : run 58 40 [l0, l1, l2, l3, l4, l5, l6] (aI b :: aI a :: st) M = run 58 41 [l0, l1, l2, l3, l4, l5, l6] (aI (a - b) :: st) M := e_isub d58_40
theorem d58_41 : decode (cod 58) 41 = .ok (.ireturn, 1) := by decide +kernel
theorem r58_41 (l0 l1 l2 l3 l4 l5 l6 : AV) (v : Int32) (M : Mm) : run 58 41 [l0, l1, l2, l3, l4, l5, l6] [aI v] M = some (some v, M) := e_iret d58_41 rfl
theorem d58_42 : decode (cod 58) 42 = .ok (.aload_n 0, 1) := by decide +kernel
theorem r58_42 (l1 l2 l3 l4 l5 l6 : AV) (xg xi : Nat) (st : List AV) (M : Mm) : run 58 42 [aR xg 7 xi, l1, l2, l3, l4, l5, l6] st M = run 58 43 [aR xg 7 xi, l1, l2, l3, l4, l5, l6] (aR xg 7 xi :: st) M := e_aldn d58_42 rfl
theorem d58_43 : decode (cod 58) 43 = .ok (.iload_n 1, 1) := by decide +kernel
theorem r58_43 (l0 l2 l3 l4 l5 l6 : AV) (x : Int32) (st : List AV) (M : Mm) : run 58 43 [l0, aI x, l2, l3, l4, l5, l6] st M = run 58 44 [l0, aI x, l2, l3, l4, l5, l6] (aI x :: st) M := e_ildn d58_43 rfl
theorem d58_44 : decode (cod 58) 44 = .ok (.invokevirtual 183, 3) := by decide +kernel
theorem r58_44 (l0 l1 l2 l3 l4 l5 l6 : AV) (a0g a0i : Nat) (a1 : Int32) (M : Mm) : run 58 44 [l0, l1, l2, l3, l4, l5, l6] [aI a1, aR a0g 7 a0i] M = cbI (call 71 [aR a0g 7 a0i, aI a1] M) (fun v M => run 58 47 [l0, l1, l2, l3, l4, l5, l6] [aI v] M) := call_I (n := 2) rfl false d58_44 rfl rfl rfl rfl rfl rfl rfl
theorem d58_47 : decode (cod 58) 47 = .ok (.istore 5, 2) := by decide +kernel
theorem r58_47 (l0 l1 l2 l3 l4 l5 l6 : AV) (x : Int32) (st : List AV) (M : Mm) : run 58 47 [l0, l1, l2, l3, l4, l5, l6] (aI x :: st) M = run 58 49 [l0, l1, l2, l3, l4, aI x, l6] st M := e_ist [l0, l1, l2, l3, l4, aI x, l6] d58_47 rfl rfl
theorem d58_49 : decode (cod 58) 49 = .ok (.aload_n 0, 1) := by decide +kernel
theorem r58_49 (l1 l2 l3 l4 l5 l6 : AV) (xg xi : Nat) (st : List AV) (M : Mm) : run 58 49 [aR xg 7 xi, l1, l2, l3, l4, l5, l6] st M = run 58 50 [aR xg 7 xi, l1, l2, l3, l4, l5, l6] (aR xg 7 xi :: st) M := e_aldn d58_49 rfl
theorem d58_50 : decode (cod 58) 50 = .ok (.getfield 16, 3) := by decide +kernel
theorem r58_50 (l0 l1 l2 l3 l4 l5 l6 : AV) (xg xi : Nat) (st : List AV) (M : Mm) : run 58 50 [l0, l1, l2, l3, l4, l5, l6] (aR xg 7 xi :: st) M = run 58 53 [l0, l1, l2, l3, l4, l5, l6] (aR 2 0 0 :: st) M := e_gfr (fun g => (2, 0, 0)) d58_50 rfl rfl rfl
theorem d58_53 : decode (cod 58) 53 = .ok (.aload_n 0, 1) := by decide +kernel
theorem r58_53 (l1 l2 l3 l4 l5 l6 : AV) (xg xi : Nat) (st : List AV) (M : Mm) : run 58 53 [aR xg 7 xi, l1, l2, l3, l4, l5, l6] st M = run 58 54 [aR xg 7 xi, l1, l2, l3, l4, l5, l6] (aR xg 7 xi :: st) M := e_aldn d58_53 rfl
theorem d58_54 : decode (cod 58) 54 = .ok (.getfield 10, 3) := by decide +kernel
theorem r58_54 (l0 l1 l2 l3 l4 l5 l6 : AV) (xg xi : Nat) (st : List AV) (M : Mm) : run 58 54 [l0, l1, l2, l3, l4, l5, l6] (aR xg 7 xi :: st) M = run 58 57 [l0, l1, l2, l3, l4, l5, l6] (aR 1 0 0 :: st) M := e_gfr (fun g => (1, 0, 0)) d58_54 rfl rfl rfl
theorem d58_57 : decode (cod 58) 57 = .ok (.invokevirtual 59, 3) := by decide +kernel
theorem r58_57 (l0 l1 l2 l3 l4 l5 l6 : AV) (a0g a0i : Nat) (a1g a1i : Nat) (M : Mm) : run 58 57 [l0, l1, l2, l3, l4, l5, l6] [aR a1g 0 a1i, aR a0g 0 a0i] M = cbV (call 11 [aR a0g 0 a0i, aR a1g 0 a1i] M) (fun M => run 58 60 [l0, l1, l2, l3, l4, l5, l6] [] M) := call_V (n := 2) rfl false d58_57 rfl rfl rfl rfl rfl rfl rfl
theorem d58_60 : decode (cod 58) 60 = .ok (.aload_n 0, 1) := by decide +kernel
theorem r58_60 (l1 l2 l3 l4 l5 l6 : AV) (xg xi : Nat) (st : List AV) (M : Mm) : run 58 60 [aR xg 7 xi, l1, l2, l3, l4, l5, l6] st M = run 58 61 [aR xg 7 xi, l1, l2, l3, l4, l5, l6] (aR xg 7 xi :: st) M := e_aldn d58_60 rfl
theorem d58_61 : decode (cod 58) 61 = .ok (.getfield 16, 3) := by decide +kernel
theorem r58_61 (l0 l1 l2 l3 l4 l5 l6 : AV) (xg xi : Nat) (st : List AV) (M : Mm) : run 58 61 [l0, l1, l2, l3, l4, l5, l6] (aR xg 7 xi :: st) M = run 58 64 [l0, l1, l2, l3, l4, l5, l6] (aR 2 0 0 :: st) M := e_gfr (fun g => (2, 0, 0)) d58_61 rfl rfl rfl
theorem d58_64 : decode (cod 58) 64 = .ok (.iload_n 2, 1) := by decide +kernel
theorem r58_64 (l0 l1 l3 l4 l5 l6 : AV) (x : Int32) (st : List AV) (M : Mm) : run 58 64 [l0, l1, aI x, l3, l4, l5, l6] st M = run 58 65 [l0, l1, aI x, l3, l4, l5, l6] (aI x :: st) M := e_ildn d58_64 rfl
theorem d58_65 : decode (cod 58) 65 = .ok (.putfield 213, 3) := by decide +kernel
theorem r58_65 (l0 l1 l2 l3 l4 l5 l6 : AV) (v : Int32) (xg xi : Nat) (st : List AV) (M : Mm) : run 58 65 [l0, l1, l2, l3, l4, l5, l6] (aI v :: aR xg 0 xi :: st) M = run 58 68 [l0, l1, l2, l3, l4, l5, l6] st (wr M xg 0 xi 13 v) := e_pfi d58_65 rfl rfl rfl rfl
theorem d58_68 : decode (cod 58) 68 = .ok (.aload_n 0, 1) := by decide +kernel
theorem r58_68 (l1 l2 l3 l4 l5 l6 : AV) (xg xi : Nat) (st : List AV) (M : Mm) : run 58 68 [aR xg 7 xi, l1, l2, l3, l4, l5, l6] st M = run 58 69 [aR xg 7 xi, l1, l2, l3, l4, l5, l6] (aR xg 7 xi :: st) M := e_aldn d58_68 rfl
theorem d58_69 : decode (cod 58) 69 = .ok (.getfield 16, 3) := by decide +kernel
theorem r58_69 (l0 l1 l2 l3 l4 l5 l6 : AV) (xg xi : Nat) (st : List AV) (M : Mm) : run 58 69 [l0, l1, l2, l3, l4, l5, l6] (aR xg 7 xi :: st) M = run 58 72 [l0, l1, l2, l3, l4, l5, l6] (aR 2 0 0 :: st) M := e_gfr (fun g => (2, 0, 0)) d58_69 rfl rfl rfl
theorem d58_72 : decode (cod 58) 72 = .ok (.iload_n 1, 1) := by decide +kernel
theorem r58_72 (l0 l2 l3 l4 l5 l6 : AV) (x : Int32) (st : List AV) (M : Mm) : run 58 72 [l0, aI x, l2, l3, l4, l5, l6] st M = run 58 73 [l0, aI x, l2, l3, l4, l5, l6] (aI x :: st) M := e_ildn d58_72 rfl
theorem d58_73 : decode (cod 58) 73 = .ok (.invokevirtual 124, 3) := by decide +kernel
theorem r58_73 (l0 l1 l2 l3 l4 l5 l6 : AV) (a0g a0i : Nat) (a1 : Int32) (M : Mm) : run 58 73 [l0, l1, l2, l3, l4, l5, l6] [aI a1, aR a0g 0 a0i] M = cbV (call 20 [aR a0g 0 a0i, aI a1] M) (fun M => run 58 76 [l0, l1, l2, l3, l4, l5, l6] [] M) := call_V (n := 2) rfl false d58_73 rfl rfl rfl rfl rfl rfl rfl
theorem d58_76 : decode (cod 58) 76 = .ok (.aload_n 0, 1) := by decide +kernel
theorem r58_76 (l1 l2 l3 l4 l5 l6 : AV) (xg xi : Nat) (st : List AV) (M : Mm) : run 58 76 [aR xg 7 xi, l1, l2, l3, l4, l5, l6] st M = run 58 77 [aR xg 7 xi, l1, l2, l3, l4, l5, l6] (aR xg 7 xi :: st) M := e_aldn d58_76 rfl
theorem d58_77 : decode (cod 58) 77 = .ok (.getfield 16, 3) := by decide +kernel
theorem r58_77 (l0 l1 l2 l3 l4 l5 l6 : AV) (xg xi : Nat) (st : List AV) (M : Mm) : run 58 77 [l0, l1, l2, l3, l4, l5, l6] (aR xg 7 xi :: st) M = run 58 80 [l0, l1, l2, l3, l4, l5, l6] (aR 2 0 0 :: st) M := e_gfr (fun g => (2, 0, 0)) d58_77 rfl rfl rfl
theorem d58_80 : decode (cod 58) 80 = .ok (.getfield 127, 3) := by decide +kernel
theorem r58_80 (l0 l1 l2 l3 l4 l5 l6 : AV) (xg xi : Nat) (st : List AV) (M : Mm) : run 58 80 [l0, l1, l2, l3, l4, l5, l6] (aR xg 0 xi :: st) M = run 58 83 [l0, l1, l2, l3, l4, l5, l6] (aR xg 5 0 :: st) M := e_gfr (fun g => (g, 5, 0)) d58_80 rfl rfl rfl
theorem d58_83 : decode (cod 58) 83 = .ok (.getfield 131, 3) := by decide +kernel
theorem r58_83 (l0 l1 l2 l3 l4 l5 l6 : AV) (xg xi : Nat) (st : List AV) (M : Mm) : run 58 83 [l0, l1, l2, l3, l4, l5, l6] (aR xg 5 xi :: st) M = run 58 86 [l0, l1, l2, l3, l4, l5, l6] (aI (M xg 5 xi 1) :: st) M := e_gfi d58_83 rfl rfl rfl
theorem d58_86 : decode (cod 58) 86 = .ok (.istore 6, 2) := by decide +kernel
theorem r58_86 (l0 l1 l2 l3 l4 l5 l6 : AV) (x : Int32) (st : List AV) (M : Mm) : run 58 86 [l0, l1, l2, l3, l4, l5, l6] (aI x :: st) M = run 58 88 [l0, l1, l2, l3, l4, l5, aI x] st M := e_ist [l0, l1, l2, l3, l4, l5, aI x] d58_86 rfl rfl
theorem d58_88 : decode (cod 58) 88 = .ok (.iload_n 3, 1) := by decide +kernel
theorem r58_88 (l0 l1 l2 l4 l5 l6 : AV) (x : Int32) (st : List AV) (M : Mm) : run 58 88 [l0, l1, l2, aI x, l4, l5, l6] st M = run 58 89 [l0, l1, l2, aI x, l4, l5, l6] (aI x :: st) M := e_ildn d58_88 rfl
theorem d58_89 : decode (cod 58) 89 = .ok (.ifCond .ne 11, 3) := by decide +kernel
theorem r58_89 (l0 l1 l2 l3 l4 l5 l6 : AV) (a : Int32) (st : List AV) (M : Mm) : run 58 89 [l0, l1, l2, l3, l4, l5, l6] (aI a :: st) M = if a = 0 then run 58 92 [l0, l1, l2, l3, l4, l5, l6] st M else run 58 100 [l0, l1, l2, l3, l4, l5, l6] st M := e_ne1 100 d58_89 (by decide)
theorem d58_92 : decode (cod 58) 92 = .ok (.iload 6, 2) := by decide +kernel
theorem r58_92 (l0 l1 l2 l3 l4 l5 : AV) (x : Int32) (st : List AV) (M : Mm) : run 58 92 [l0, l1, l2, l3, l4, l5, aI x] st M = run 58 94 [l0, l1, l2, l3, l4, l5, aI x] (aI x :: st) M := e_ild d58_92 rfl
theorem d58_94 : decode (cod 58) 94 = .ok (.iload 5, 2) := by decide +kernel
theorem r58_94 (l0 l1 l2 l3 l4 l6 : AV) (x : Int32) (st : List AV) (M : Mm) : run 58 94 [l0, l1, l2, l3, l4, aI x, l6] st M = run 58 96 [l0, l1, l2, l3, l4, aI x, l6] (aI x :: st) M := e_ild d58_94 rfl
theorem d58_96 : decode (cod 58) 96 = .ok (.isub, 1) := by decide +kernel
theorem r58_96 (l0 l1 l2 l3 l4 l5 l6 : AV) (a b : Int32) (st : List AV) (M : Mm) : run 58 96 [l0, l1, l2, l3, l4, l5, l6] (aI b :: aI a :: st) M = run 58 97 [l0, l1, l2, l3, l4, l5, l6] (aI (a - b) :: st) M := e_isub d58_96
theorem d58_97 : decode (cod 58) 97 = .ok (.goto 18, 3) := by decide +kernel
theorem r58_97 (l0 l1 l2 l3 l4 l5 l6 : AV) (st : List AV) (M : Mm) : run 58 97 [l0, l1, l2, l3, l4, l5, l6] st M = run 58 115 [l0, l1, l2, l3, l4, l5, l6] st M := e_goto 115 d58_97 (by decide)
theorem d58_100 : decode (cod 58) 100 = .ok (.iload 6, 2) := by decide +kernel
theorem r58_100 (l0 l1 l2 l3 l4 l5 : AV) (x : Int32) (st : List AV) (M : Mm) : run 58 100 [l0, l1, l2, l3, l4, l5, aI x] st M = run 58 102 [l0, l1, l2, l3, l4, l5, aI x] (aI x :: st) M := e_ild d58_100 rfl
theorem d58_102 : decode (cod 58) 102 = .ok (.iload_n 2, 1) := by decide +kernel
theorem r58_102 (l0 l1 l3 l4 l5 l6 : AV) (x : Int32) (st : List AV) (M : Mm) : run 58 102 [l0, l1, aI x, l3, l4, l5, l6] st M = run 58 103 [l0, l1, aI x, l3, l4, l5, l6] (aI x :: st) M := e_ildn d58_102 rfl
theorem d58_103 : decode (cod 58) 103 = .ok (.aload_n 0, 1) := by decide +kernel
theorem r58_103 (l1 l2 l3 l4 l5 l6 : AV) (xg xi : Nat) (st : List AV) (M : Mm) : run 58 103 [aR xg 7 xi, l1, l2, l3, l4, l5, l6] st M = run 58 104 [aR xg 7 xi, l1, l2, l3, l4, l5, l6] (aR xg 7 xi :: st) M := e_aldn d58_103 rfl
theorem d58_104 : decode (cod 58) 104 = .ok (.getfield 10, 3) := by decide +kernel
theorem r58_104 (l0 l1 l2 l3 l4 l5 l6 : AV) (xg xi : Nat) (st : List AV) (M : Mm) : run 58 104 [l0, l1, l2, l3, l4, l5, l6] (aR xg 7 xi :: st) M = run 58 107 [l0, l1, l2, l3, l4, l5, l6] (aR 1 0 0 :: st) M := e_gfr (fun g => (1, 0, 0)) d58_104 rfl rfl rfl
theorem d58_107 : decode (cod 58) 107 = .ok (.getfield 216, 3) := by decide +kernel
theorem r58_107 (l0 l1 l2 l3 l4 l5 l6 : AV) (xg xi : Nat) (st : List AV) (M : Mm) : run 58 107 [l0, l1, l2, l3, l4, l5, l6] (aR xg 0 xi :: st) M = run 58 110 [l0, l1, l2, l3, l4, l5, l6] (aI (M xg 0 xi 4) :: st) M := e_gfi d58_107 rfl rfl rfl
theorem d58_110 : decode (cod 58) 110 = .ok (.iload_n 2, 1) := by decide +kernel
theorem r58_110 (l0 l1 l3 l4 l5 l6 : AV) (x : Int32) (st : List AV) (M : Mm) : run 58 110 [l0, l1, aI x, l3, l4, l5, l6] st M = run 58 111 [l0, l1, aI x, l3, l4, l5, l6] (aI x :: st) M := e_ildn d58_110 rfl
theorem d58_111 : decode (cod 58) 111 = .ok (.iadd, 1) := by decide +kernel
theorem r58_111 (l0 l1 l2 l3 l4 l5 l6 : AV) (a b : Int32) (st : List AV) (M : Mm) : run 58 111 [l0, l1, l2, l3, l4, l5, l6] (aI b :: aI a :: st) M = run 58 112 [l0, l1, l2, l3, l4, l5, l6] (aI (a + b) :: st) M := e_iadd d58_111
theorem d58_112 : decode (cod 58) 112 = .ok (.invokestatic 219, 3) := by decide +kernel
theorem r58_112 (l0 l1 l2 l3 l4 l5 l6 : AV) (a0 : Int32) (a1 : Int32) (a2 : Int32) (M : Mm) : run 58 112 [l0, l1, l2, l3, l4, l5, l6] [aI a2, aI a1, aI a0] M = cbI (call 162 [aI a0, aI a1, aI a2] M) (fun v M => run 58 115 [l0, l1, l2, l3, l4, l5, l6] [aI v] M) := call_I (n := 3) rfl true d58_112 rfl rfl rfl rfl rfl rfl rfl
theorem d58_115 : decode (cod 58) 115 = .ok (.ireturn, 1) := by decide +kernel
theorem r58_115 (l0 l1 l2 l3 l4 l5 l6 : AV) (v : Int32) (M : Mm) : run 58 115 [l0, l1, l2, l3, l4, l5, l6] [aI v] M = some (some v, M) := e_iret d58_115 rfl
