theorem c123 (g0 i0 : Nat) (x1 : Int32) (M : Mm) : call 123 [aR g0 12 i0, aI x1] M = run 123 0 [aR g0 12 i0, aI x1, none, none] [] M := call_run 123 _ _
theorem d123_0 : decode (cod 123) 0 = .ok (.aload_n 0, 1) := by decide +kernel
theorem r123_0 (l1 l2 l3 : AV) (xg xi : Nat) (st : List AV) (M : Mm) : run 123 0 [aR xg 12 xi, l1, l2, l3] st M = run 123 1 [aR xg 12 xi, l1, l2, l3] (aR xg 12 xi :: st) M := e_aldn d123_0 rfl
theorem d123_1 : decode (cod 123) 1 = .ok (.iload_n 1, 1) := by decide +kernel
theorem r123_1 (l0 l2 l3 : AV) (x : Int32) (st : List AV) (M : Mm) : run 123 1 [l0, aI x, l2, l3] st M = run 123 2 [l0, aI x, l2, l3] (aI x :: st) M := e_ildn d123_1 rfl
theorem d123_2 : decode (cod 123) 2 = .ok (.invokevirtual 180, 3) := by decide +kernel
theorem r123_2 (l0 l1 l2 l3 : AV) (a0g a0i : Nat) (a1 : Int32) (M : Mm) : run 123 2 [l0, l1, l2, l3] [aI a1, aR a0g 12 a0i] M = cbI (call 108 [aR a0g 12 a0i, aI a1] M) (fun v M => run 123 5 [l0, l1, l2, l3] [aI v] M) := call_I (n := 2) rfl false d123_2 rfl rfl rfl rfl rfl rfl rfl
theorem d123_5 : decode (cod 123) 5 = .ok (.istore_n 2, 1) := by decide +kernel
theorem r123_5 (l0 l1 l2 l3 : AV) (x : Int32) (st : List AV) (M : Mm) : run 123 5 [l0, l1, l2, l3] (aI x :: st) M = run 123 6 [l0, l1, aI x, l3] st M := e_istn [l0, l1, aI x, l3] d123_5 rfl rfl
theorem d123_6 : decode (cod 123) 6 = .ok (.aload_n 0, 1) := by decide +kernel
theorem r123_6 (l1 l2 l3 : AV) (xg xi : Nat) (st : List AV) (M : Mm) : run 123 6 [aR xg 12 xi, l1, l2, l3] st M = run 123 7 [aR xg 12 xi, l1, l2, l3] (aR xg 12 xi :: st) M := e_aldn d123_6 rfl
theorem d123_7 : decode (cod 123) 7 = .ok (.iload_n 1, 1) := by decide +kernel
theorem r123_7 (l0 l2 l3 : AV) (x : Int32) (st : List AV) (M : Mm) : run 123 7 [l0, aI x, l2, l3] st M = run 123 8 [l0, aI x, l2, l3] (aI x :: st) M := e_ildn d123_7 rfl
theorem d123_8 : decode (cod 123) 8 = .ok (.invokevirtual 239, 3) := by decide +kernel
theorem r123_8 (l0 l1 l2 l3 : AV) (a0g a0i : Nat) (a1 : Int32) (M : Mm) : run 123 8 [l0, l1, l2, l3] [aI a1, aR a0g 12 a0i] M = cbI (call 110 [aR a0g 12 a0i, aI a1] M) (fun v M => run 123 11 [l0, l1, l2, l3] [aI v] M) := call_I (n := 2) rfl false d123_8 rfl rfl rfl rfl rfl rfl rfl
theorem d123_11 : decode (cod 123) 11 = .ok (.istore_n 3, 1) := by decide +kernel
theorem r123_11 (l0 l1 l2 l3 : AV) (x : Int32) (st : List AV) (M : Mm) : run 123 11 [l0, l1, l2, l3] (aI x :: st) M = run 123 12 [l0, l1, l2, aI x] st M := e_istn [l0, l1, l2, aI x] d123_11 rfl rfl
theorem d123_12 : decode (cod 123) 12 = .ok (.iload_n 3, 1) := by decide +kernel
theorem r123_12 (l0 l1 l2 : AV) (x : Int32) (st : List AV) (M : Mm) : run 123 12 [l0, l1, l2, aI x] st M = run 123 13 [l0, l1, l2, aI x] (aI x :: st) M := e_ildn d123_12 rfl
theorem d123_13 : decode (cod 123) 13 = .ok (.iload_n 2, 1) := by decide +kernel
theorem r123_13 (l0 l1 l3 : AV) (x : Int32) (st : List AV) (M : Mm) : run 123 13 [l0, l1, aI x, l3] st M = run 123 14 [l0, l1, aI x, l3] (aI x :: st) M := e_ildn d123_13 rfl
theorem d123_14 : decode (cod 123) 14 = .ok (.if_icmp .ge 56, 3) := by decide +kernel
theorem r123_14 (l0 l1 l2 l3 : AV) (a b : Int32) (st : List AV) (M : Mm) : run 123 14 [l0, l1, l2, l3] (aI b :: aI a :: st) M = if a < b then run 123 17 [l0, l1, l2, l3] st M else run 123 70 [l0, l1, l2, l3] st M := e_ge2 70 d123_14 (by decide)
theorem d123_17 : decode (cod 123) 17 = .ok (.aload_n 0, 1) := by decide +kernel
theorem r123_17 (l1 l2 l3 : AV) (xg xi : Nat) (st : List AV) (M : Mm) : run 123 17 [aR xg 12 xi, l1, l2, l3] st M = run 123 18 [aR xg 12 xi, l1, l2, l3] (aR xg 12 xi :: st) M := e_aldn d123_17 rfl
theorem d123_18 : decode (cod 123) 18 = .ok (.getfield 55, 3) := by decide +kernel
theorem r123_18 (l0 l1 l2 l3 : AV) (xg xi : Nat) (st : List AV) (M : Mm) : run 123 18 [l0, l1, l2, l3] (aR xg 12 xi :: st) M = run 123 21 [l0, l1, l2, l3] (aR 4 28 0 :: st) M := e_gfr (fun g => (4, 28, 0)) d123_18 rfl rfl rfl
theorem d123_21 : decode (cod 123) 21 = .ok (.iload_n 1, 1) := by decide +kernel
theorem r123_21 (l0 l2 l3 : AV) (x : Int32) (st : List AV) (M : Mm) : run 123 21 [l0, aI x, l2, l3] st M = run 123 22 [l0, aI x, l2, l3] (aI x :: st) M := e_ildn d123_21 rfl
theorem d123_22 : decode (cod 123) 22 = .ok (.dup2, 1) := by decide +kernel
theorem r123_22 (l0 l1 l2 l3 : AV) (x : Int32) (zg zi : Nat) (st : List AV) (M : Mm) : run 123 22 [l0, l1, l2, l3] (aI x :: aR zg 28 zi :: st) M = run 123 23 [l0, l1, l2, l3] (aI x :: aR zg 28 zi :: aI x :: aR zg 28 zi :: st) M := e_dup2 d123_22
theorem d123_23 : decode (cod 123) 23 = .ok (.iaload, 1) := by decide +kernel
theorem r123_23 (l0 l1 l2 l3 : AV) (i : Int32) (xg xi : Nat) (st : List AV) (M : Mm) : run 123 23 [l0, l1, l2, l3] (aI i :: aR xg 28 xi :: st) M = if vpB i 4 = true then run 123 24 [l0, l1, l2, l3] (aI (M xg 28 xi i.toNatClampNeg) :: st) M else none := e_ial d123_23 rfl rfl
theorem d123_24 : decode (cod 123) 24 = .ok (.iconst 1, 1) := by decide +kernel
theorem r123_24 (l0 l1 l2 l3 : AV) (st : List AV) (M : Mm) : run 123 24 [l0, l1, l2, l3] st M = run 123 25 [l0, l1, l2, l3] (aI 1 :: st) M := e_iconst 1 d123_24 (by decide +kernel)
theorem d123_25 : decode (cod 123) 25 = .ok (.iadd, 1) := by decide +kernel
theorem r123_25 (l0 l1 l2 l3 : AV) (a b : Int32) (st : List AV) (M : Mm) : run 123 25 [l0, l1, l2, l3] (aI b :: aI a :: st) M = run 123 26 [l0, l1, l2, l3] (aI (a + b) :: st) M := e_iadd d123_25
theorem d123_26 : decode (cod 123) 26 = .ok (.iastore, 1) := by decide +kernel
theorem r123_26 (l0 l1 l2 l3 : AV) (v i : Int32) (xg xi : Nat) (st : List AV) (M : Mm) : run 123 26 [l0, l1, l2, l3] (aI v :: aI i :: aR xg 28 xi :: st) M = if vpB i 4 = true then run 123 27 [l0, l1, l2, l3] st (wr M xg 28 xi i.toNatClampNeg v) else none := e_ias d123_26 rfl rfl
theorem d123_27 : decode (cod 123) 27 = .ok (.aload_n 0, 1) := by decide +kernel
theorem r123_27 (l1 l2 l3 : AV) (xg xi : Nat) (st : List AV) (M : Mm) : run 123 27 [aR xg 12 xi, l1, l2, l3] st M = run 123 28 [aR xg 12 xi, l1, l2, l3] (aR xg 12 xi :: st) M := e_aldn d123_27 rfl
theorem d123_28 : decode (cod 123) 28 = .ok (.getfield 22, 3) := by decide +kernel
theorem r123_28 (l0 l1 l2 l3 : AV) (xg xi : Nat) (st : List AV) (M : Mm) : run 123 28 [l0, l1, l2, l3] (aR xg 12 xi :: st) M = run 123 31 [l0, l1, l2, l3] (aR 4 17 0 :: st) M := e_gfr (fun g => (4, 17, 0)) d123_28 rfl rfl rfl
theorem d123_31 : decode (cod 123) 31 = .ok (.iload_n 1, 1) := by decide +kernel
theorem r123_31 (l0 l2 l3 : AV) (x : Int32) (st : List AV) (M : Mm) : run 123 31 [l0, aI x, l2, l3] st M = run 123 32 [l0, aI x, l2, l3] (aI x :: st) M := e_ildn d123_31 rfl
theorem d123_32 : decode (cod 123) 32 = .ok (.iaload, 1) := by decide +kernel
theorem r123_32 (l0 l1 l2 l3 : AV) (i : Int32) (xg xi : Nat) (st : List AV) (M : Mm) : run 123 32 [l0, l1, l2, l3] (aI i :: aR xg 17 xi :: st) M = if vpB i 4 = true then run 123 33 [l0, l1, l2, l3] (aI (M xg 17 xi i.toNatClampNeg) :: st) M else none := e_ial d123_32 rfl rfl
theorem d123_33 : decode (cod 123) 33 = .ok (.aload_n 0, 1) := by decide +kernel
theorem r123_33 (l1 l2 l3 : AV) (xg xi : Nat) (st : List AV) (M : Mm) : run 123 33 [aR xg 12 xi, l1, l2, l3] st M = run 123 34 [aR xg 12 xi, l1, l2, l3] (aR xg 12 xi :: st) M := e_aldn d123_33 rfl
theorem d123_34 : decode (cod 123) 34 = .ok (.getfield 16, 3) := by decide +kernel
theorem r123_34 (l0 l1 l2 l3 : AV) (xg xi : Nat) (st : List AV) (M : Mm) : run 123 34 [l0, l1, l2, l3] (aR xg 12 xi :: st) M = run 123 37 [l0, l1, l2, l3] (aR 4 15 0 :: st) M := e_gfr (fun g => (4, 15, 0)) d123_34 rfl rfl rfl
theorem d123_37 : decode (cod 123) 37 = .ok (.iload_n 1, 1) := by decide +kernel
theorem r123_37 (l0 l2 l3 : AV) (x : Int32) (st : List AV) (M : Mm) : run 123 37 [l0, aI x, l2, l3] st M = run 123 38 [l0, aI x, l2, l3] (aI x :: st) M := e_ildn d123_37 rfl
theorem d123_38 : decode (cod 123) 38 = .ok (.iaload, 1) := by decide +kernel
theorem r123_38 (l0 l1 l2 l3 : AV) (i : Int32) (xg xi : Nat) (st : List AV) (M : Mm) : run 123 38 [l0, l1, l2, l3] (aI i :: aR xg 15 xi :: st) M = if vpB i 4 = true then run 123 39 [l0, l1, l2, l3] (aI (M xg 15 xi i.toNatClampNeg) :: st) M else none := e_ial d123_38 rfl rfl
theorem d123_39 : decode (cod 123) 39 = .ok (.invokestatic 183, 3) := by decide +kernel
theorem r123_39 (l0 l1 l2 l3 : AV) (a0 : Int32) (t0 : AV) (M : Mm) : run 123 39 [l0, l1, l2, l3] [aI a0, t0] M = cbI (call 107 [aI a0] M) (fun v M => run 123 42 [l0, l1, l2, l3] [aI v, t0] M) := call_I (n := 1) rfl true d123_39 rfl rfl rfl rfl rfl rfl rfl
theorem d123_42 : decode (cod 123) 42 = .ok (.idiv, 1) := by decide +kernel
theorem r123_42 (l0 l1 l2 l3 : AV) (a b : Int32) (st : List AV) (M : Mm) : run 123 42 [l0, l1, l2, l3] (aI b :: aI a :: st) M = if b = 0 then none else run 123 43 [l0, l1, l2, l3] (aI (a / b) :: st) M := e_idiv d123_42
theorem d123_43 : decode (cod 123) 43 = .ok (.iload_n 2, 1) := by decide +kernel
theorem r123_43 (l0 l1 l3 : AV) (x : Int32) (st : List AV) (M : Mm) : run 123 43 [l0, l1, aI x, l3] st M = run 123 44 [l0, l1, aI x, l3] (aI x :: st) M := e_ildn d123_43 rfl
theorem d123_44 : decode (cod 123) 44 = .ok (.if_icmp .ge 16, 3) := by decide +kernel
theorem r123_44 (l0 l1 l2 l3 : AV) (a b : Int32) (st : List AV) (M : Mm) : run 123 44 [l0, l1, l2, l3] (aI b :: aI a :: st) M = if a < b then run 123 47 [l0, l1, l2, l3] st M else run 123 60 [l0, l1, l2, l3] st M := e_ge2 60 d123_44 (by decide)
theorem d123_47 : decode (cod 123) 47 = .ok (.aload_n 0, 1) := by decide +kernel
theorem r123_47 (l1 l2 l3 : AV) (xg xi : Nat) (st : List AV) (M : Mm) : run 123 47 [aR xg 12 xi, l1, l2, l3] st M = run 123 48 [aR xg 12 xi, l1, l2, l3] (aR xg 12 xi :: st) M := e_aldn d123_47 rfl
theorem d123_48 : decode (cod 123) 48 = .ok (.getfield 58, 3) := by decide +kernel
theorem r123_48 (l0 l1 l2 l3 : AV) (xg xi : Nat) (st : List AV) (M : Mm) : run 123 48 [l0, l1, l2, l3] (aR xg 12 xi :: st) M = run 123 51 [l0, l1, l2, l3] (aR 4 29 0 :: st) M := e_gfr (fun g => (4, 29, 0)) d123_48 rfl rfl rfl
theorem d123_51 : decode (cod 123) 51 = .ok (.iload_n 1, 1) := by decide +kernel
theorem r123_51 (l0 l2 l3 : AV) (x : Int32) (st : List AV) (M : Mm) : run 123 51 [l0, aI x, l2, l3] st M = run 123 52 [l0, aI x, l2, l3] (aI x :: st) M := e_ildn d123_51 rfl
theorem d123_52 : decode (cod 123) 52 = .ok (.dup2, 1) := by decide +kernel
theorem r123_52 (l0 l1 l2 l3 : AV) (x : Int32) (zg zi : Nat) (st : List AV) (M : Mm) : run 123 52 [l0, l1, l2, l3] (aI x :: aR zg 29 zi :: st) M = run 123 53 [l0, l1, l2, l3] (aI x :: aR zg 29 zi :: aI x :: aR zg 29 zi :: st) M := e_dup2 d123_52
theorem d123_53 : decode (cod 123) 53 = .ok (.iaload, 1) := by decide +kernel
theorem r123_53 (l0 l1 l2 l3 : AV) (i : Int32) (xg xi : Nat) (st : List AV) (M : Mm) : run 123 53 [l0, l1, l2, l3] (aI i :: aR xg 29 xi :: st) M = if vpB i 4 = true then run 123 54 [l0, l1, l2, l3] (aI (M xg 29 xi i.toNatClampNeg) :: st) M else none := e_ial d123_53 rfl rfl
theorem d123_54 : decode (cod 123) 54 = .ok (.iconst 1, 1) := by decide +kernel
theorem r123_54 (l0 l1 l2 l3 : AV) (st : List AV) (M : Mm) : run 123 54 [l0, l1, l2, l3] st M = run 123 55 [l0, l1, l2, l3] (aI 1 :: st) M := e_iconst 1 d123_54 (by decide +kernel)
theorem d123_55 : decode (cod 123) 55 = .ok (.iadd, 1) := by decide +kernel
theorem r123_55 (l0 l1 l2 l3 : AV) (a b : Int32) (st : List AV) (M : Mm) : run 123 55 [l0, l1, l2, l3] (aI b :: aI a :: st) M = run 123 56 [l0, l1, l2, l3] (aI (a + b) :: st) M := e_iadd d123_55
theorem d123_56 : decode (cod 123) 56 = .ok (.iastore, 1) := by decide +kernel
theorem r123_56 (l0 l1 l2 l3 : AV) (v i : Int32) (xg xi : Nat) (st : List AV) (M : Mm) : run 123 56 [l0, l1, l2, l3] (aI v :: aI i :: aR xg 29 xi :: st) M = if vpB i 4 = true then run 123 57 [l0, l1, l2, l3] st (wr M xg 29 xi i.toNatClampNeg v) else none := e_ias d123_56 rfl rfl
theorem d123_57 : decode (cod 123) 57 = .ok (.goto 13, 3) := by decide +kernel
theorem r123_57 (l0 l1 l2 l3 : AV) (st : List AV) (M : Mm) : run 123 57 [l0, l1, l2, l3] st M = run 123 70 [l0, l1, l2, l3] st M := e_goto 70 d123_57 (by decide)
theorem d123_60 : decode (cod 123) 60 = .ok (.aload_n 0, 1) := by decide +kernel
theorem r123_60 (l1 l2 l3 : AV) (xg xi : Nat) (st : List AV) (M : Mm) : run 123 60 [aR xg 12 xi, l1, l2, l3] st M = run 123 61 [aR xg 12 xi, l1, l2, l3] (aR xg 12 xi :: st) M := e_aldn d123_60 rfl
theorem d123_61 : decode (cod 123) 61 = .ok (.getfield 61, 3) := by decide +kernel
theorem r123_61 (l0 l1 l2 l3 : AV) (xg xi : Nat) (st : List AV) (M : Mm) : run 123 61 [l0, l1, l2, l3] (aR xg 12 xi :: st) M = run 123 64 [l0, l1, l2, l3] (aR 4 30 0 :: st) M := e_gfr (fun g => (4, 30, 0)) d123_61 rfl rfl rfl
theorem d123_64 : decode (cod 123) 64 = .ok (.iload_n 1, 1) := by decide +kernel
theorem r123_64 (l0 l2 l3 : AV) (x : Int32) (st : List AV) (M : Mm) : run 123 64 [l0, aI x, l2, l3] st M = run 123 65 [l0, aI x, l2, l3] (aI x :: st) M := e_ildn d123_64 rfl
theorem d123_65 : decode (cod 123) 65 = .ok (.dup2, 1) := by decide +kernel
theorem r123_65 (l0 l1 l2 l3 : AV) (x : Int32) (zg zi : Nat) (st : List AV) (M : Mm) : run 123 65 [l0, l1, l2, l3] (aI x :: aR zg 30 zi :: st) M = run 123 66 [l0, l1, l2, l3] (aI x :: aR zg 30 zi :: aI x :: aR zg 30 zi :: st) M := e_dup2 d123_65
theorem d123_66 : decode (cod 123) 66 = .ok (.iaload, 1) := by decide +kernel
theorem r123_66 (l0 l1 l2 l3 : AV) (i : Int32) (xg xi : Nat) (st : List AV) (M : Mm) : run 123 66 [l0, l1, l2, l3] (aI i :: aR xg 30 xi :: st) M = if vpB i 4 = true then run 123 67 [l0, l1, l2, l3] (aI (M xg 30 xi i.toNatClampNeg) :: st) M else none := e_ial d123_66 rfl rfl
theorem d123_67 : decode (cod 123) 67 = .ok (.iconst 1, 1) := by decide +kernel
theorem r123_67 (l0 l1 l2 l3 : AV) (st : List AV) (M : Mm) : run 123 67 [l0, l1, l2, l3] st M = run 123 68 [l0, l1, l2, l3] (aI 1 :: st) M := e_iconst 1 d123_67 (by decide +kernel)
theorem d123_68 : decode (cod 123) 68 = .ok (.iadd, 1) := by decide +kernel
theorem r123_68 (l0 l1 l2 l3 : AV) (a b : Int32) (st : List AV) (M : Mm) : run 123 68 [l0, l1, l2, l3] (aI b :: aI a :: st) M = run 123 69 [l0, l1, l2, l3] (aI (a + b) :: st) M := e_iadd d123_68
theorem d123_69 : decode (cod 123) 69 = .ok (.iastore, 1) := by decide +kernel
theorem r123_69 (l0 l1 l2 l3 : AV) (v i : Int32) (xg xi : Nat) (st : List AV) (M : Mm) : run 123 69 [l0, l1, l2, l3] (aI v :: aI i :: aR xg 30 xi :: st) M = if vpB i 4 = true then run 123 70 [l0, l1, l2, l3] st (wr M xg 30 xi i.toNatClampNeg v) else none := e_ias d123_69 rfl rfl
theorem d123_70 : decode (cod 123) 70 = .ok (.aload_n 0, 1) := by decide +kernel
theorem r123_70 (l1 l2 l3 : AV) (xg xi : Nat) (st : List AV) (M : Mm) : run 123 70 [aR xg 12 xi, l1, l2, l3] st M = run 123 71 [aR xg 12 xi, l1, l2, l3] (aR xg 12 xi :: st) M := e_aldn d123_70 rfl
theorem d123_71 : decode (cod 123) 71 = .ok (.getfield 22, 3) := by decide +kernel
theorem r123_71 (l0 l1 l2 l3 : AV) (xg xi : Nat) (st : List AV) (M : Mm) : run 123 71 [l0, l1, l2, l3] (aR xg 12 xi :: st) M = run 123 74 [l0, l1, l2, l3] (aR 4 17 0 :: st) M := e_gfr (fun g => (4, 17, 0)) d123_71 rfl rfl rfl
theorem d123_74 : decode (cod 123) 74 = .ok (.iload_n 1, 1) := by decide +kernel
theorem r123_74 (l0 l2 l3 : AV) (x : Int32) (st : List AV) (M : Mm) : run 123 74 [l0, aI x, l2, l3] st M = run 123 75 [l0, aI x, l2, l3] (aI x :: st) M := e_ildn d123_74 rfl
theorem d123_75 : decode (cod 123) 75 = .ok (.dup2, 1) := by decide +kernel
theorem r123_75 (l0 l1 l2 l3 : AV) (x : Int32) (zg zi : Nat) (st : List AV) (M : Mm) : run 123 75 [l0, l1, l2, l3] (aI x :: aR zg 17 zi :: st) M = run 123 76 [l0, l1, l2, l3] (aI x :: aR zg 17 zi :: aI x :: aR zg 17 zi :: st) M := e_dup2 d123_75
theorem d123_76 : decode (cod 123) 76 = .ok (.iaload, 1) := by decide +kernel
theorem r123_76 (l0 l1 l2 l3 : AV) (i : Int32) (xg xi : Nat) (st : List AV) (M : Mm) : run 123 76 [l0, l1, l2, l3] (aI i :: aR xg 17 xi :: st) M = if vpB i 4 = true then run 123 77 [l0, l1, l2, l3] (aI (M xg 17 xi i.toNatClampNeg) :: st) M else none := e_ial d123_76 rfl rfl
theorem d123_77 : decode (cod 123) 77 = .ok (.iload_n 3, 1) := by decide +kernel
theorem r123_77 (l0 l1 l2 : AV) (x : Int32) (st : List AV) (M : Mm) : run 123 77 [l0, l1, l2, aI x] st M = run 123 78 [l0, l1, l2, aI x] (aI x :: st) M := e_ildn d123_77 rfl
theorem d123_78 : decode (cod 123) 78 = .ok (.aload_n 0, 1) := by decide +kernel
theorem r123_78 (l1 l2 l3 : AV) (xg xi : Nat) (st : List AV) (M : Mm) : run 123 78 [aR xg 12 xi, l1, l2, l3] st M = run 123 79 [aR xg 12 xi, l1, l2, l3] (aR xg 12 xi :: st) M := e_aldn d123_78 rfl
theorem d123_79 : decode (cod 123) 79 = .ok (.getfield 16, 3) := by decide +kernel
theorem r123_79 (l0 l1 l2 l3 : AV) (xg xi : Nat) (st : List AV) (M : Mm) : run 123 79 [l0, l1, l2, l3] (aR xg 12 xi :: st) M = run 123 82 [l0, l1, l2, l3] (aR 4 15 0 :: st) M := e_gfr (fun g => (4, 15, 0)) d123_79 rfl rfl rfl
theorem d123_82 : decode (cod 123) 82 = .ok (.iload_n 1, 1) := by decide +kernel
theorem r123_82 (l0 l2 l3 : AV) (x : Int32) (st : List AV) (M : Mm) : run 123 82 [l0, aI x, l2, l3] st M = run 123 83 [l0, aI x, l2, l3] (aI x :: st) M := e_ildn d123_82 rfl
theorem d123_83 : decode (cod 123) 83 = .ok (.iaload, 1) := by decide +kernel
theorem r123_83 (l0 l1 l2 l3 : AV) (i : Int32) (xg xi : Nat) (st : List AV) (M : Mm) : run 123 83 [l0, l1, l2, l3] (aI i :: aR xg 15 xi :: st) M = if vpB i 4 = true then run 123 84 [l0, l1, l2, l3] (aI (M xg 15 xi i.toNatClampNeg) :: st) M else none := e_ial d123_83 rfl rfl
theorem d123_84 : decode (cod 123) 84 = .ok (.invokestatic 183, 3) := by decide +kernel
theorem r123_84 (l0 l1 l2 l3 : AV) (a0 : Int32) (t0 t1 t2 t3 : AV) (M : Mm) : run 123 84 [l0, l1, l2, l3] [aI a0, t0, t1, t2, t3] M = cbI (call 107 [aI a0] M) (fun v M => run 123 87 [l0, l1, l2, l3] [aI v, t0, t1, t2, t3] M) := call_I (n := 1) rfl true d123_84 rfl rfl rfl rfl rfl rfl rfl
theorem d123_87 : decode (cod 123) 87 = .ok (.imul, 1) := by decide +kernel
theorem r123_87 (l0 l1 l2 l3 : AV) (a b : Int32) (st : List AV) (M : Mm) : run 123 87 [l0, l1, l2, l3] (aI b :: aI a :: st) M = run 123 88 [l0, l1, l2, l3] (aI (a * b) :: st) M := e_imul d123_87
theorem d123_88 : decode (cod 123) 88 = .ok (.isub, 1) := by decide +kernel
theorem r123_88 (l0 l1 l2 l3 : AV) (a b : Int32) (st : List AV) (M : Mm) : run 123 88 [l0, l1, l2, l3] (aI b :: aI a :: st) M = run 123 89 [l0, l1, l2, l3] (aI (a - b) :: st) M := e_isub d123_88
theorem d123_89 : decode (cod 123) 89 = .ok (.iastore, 1) := by decide +kernel
theorem r123_89 (l0 l1 l2 l3 : AV) (v i : Int32) (xg xi : Nat) (st : List AV) (M : Mm) : run 123 89 [l0, l1, l2, l3] (aI v :: aI i :: aR xg 17 xi :: st) M = if vpB i 4 = true then run 123 90 [l0, l1, l2, l3] st (wr M xg 17 xi i.toNatClampNeg v) else none := e_ias d123_89 rfl rfl
theorem d123_90 : decode (cod 123) 90 = .ok (.aload_n 0, 1) := by decide +kernel
theorem r123_90 (l1 l2 l3 : AV) (xg xi : Nat) (st : List AV) (M : Mm) : run 123 90 [aR xg 12 xi, l1, l2, l3] st M = run 123 91 [aR xg 12 xi, l1, l2, l3] (aR xg 12 xi :: st) M := e_aldn d123_90 rfl
theorem d123_91 : decode (cod 123) 91 = .ok (.getfield 25, 3) := by decide +kernel
theorem r123_91 (l0 l1 l2 l3 : AV) (xg xi : Nat) (st : List AV) (M : Mm) : run 123 91 [l0, l1, l2, l3] (aR xg 12 xi :: st) M = run 123 94 [l0, l1, l2, l3] (aR 4 18 0 :: st) M := e_gfr (fun g => (4, 18, 0)) d123_91 rfl rfl rfl
theorem d123_94 : decode (cod 123) 94 = .ok (.iload_n 1, 1) := by decide +kernel
theorem r123_94 (l0 l2 l3 : AV) (x : Int32) (st : List AV) (M : Mm) : run 123 94 [l0, aI x, l2, l3] st M = run 123 95 [l0, aI x, l2, l3] (aI x :: st) M := e_ildn d123_94 rfl
theorem d123_95 : decode (cod 123) 95 = .ok (.dup2, 1) := by decide +kernel
theorem r123_95 (l0 l1 l2 l3 : AV) (x : Int32) (zg zi : Nat) (st : List AV) (M : Mm) : run 123 95 [l0, l1, l2, l3] (aI x :: aR zg 18 zi :: st) M = run 123 96 [l0, l1, l2, l3] (aI x :: aR zg 18 zi :: aI x :: aR zg 18 zi :: st) M := e_dup2 d123_95
theorem d123_96 : decode (cod 123) 96 = .ok (.iaload, 1) := by decide +kernel
theorem r123_96 (l0 l1 l2 l3 : AV) (i : Int32) (xg xi : Nat) (st : List AV) (M : Mm) : run 123 96 [l0, l1, l2, l3] (aI i :: aR xg 18 xi :: st) M = if vpB i 4 = true then run 123 97 [l0, l1, l2, l3] (aI (M xg 18 xi i.toNatClampNeg) :: st) M else none := e_ial d123_96 rfl rfl
theorem d123_97 : decode (cod 123) 97 = .ok (.iload_n 3, 1) := by decide +kernel
theorem r123_97 (l0 l1 l2 : AV) (x : Int32) (st : List AV) (M : Mm) : run 123 97 [l0, l1, l2, aI x] st M = run 123 98 [l0, l1, l2, aI x] (aI x :: st) M := e_ildn d123_97 rfl
theorem d123_98 : decode (cod 123) 98 = .ok (.isub, 1) := by decide +kernel
theorem r123_98 (l0 l1 l2 l3 : AV) (a b : Int32) (st : List AV) (M : Mm) : run 123 98 [l0, l1, l2, l3] (aI b :: aI a :: st) M = run 123 99 [l0, l1, l2, l3] (aI (a - b) :: st) M := e_isub d123_98
theorem d123_99 : decode (cod 123) 99 = .ok (.iastore, 1) := by decide +kernel
theorem r123_99 (l0 l1 l2 l3 : AV) (v i : Int32) (xg xi : Nat) (st : List AV) (M : Mm) : run 123 99 [l0, l1, l2, l3] (aI v :: aI i :: aR xg 18 xi :: st) M = if vpB i 4 = true then run 123 100 [l0, l1, l2, l3] st (wr M xg 18 xi i.toNatClampNeg v) else none := e_ias d123_99 rfl rfl
theorem d123_100 : decode (cod 123) 100 = .ok (.aload_n 0, 1) := by decide +kernel
theorem r123_100 (l1 l2 l3 : AV) (xg xi : Nat) (st : List AV) (M : Mm) : run 123 100 [aR xg 12 xi, l1, l2, l3] st M = run 123 101 [aR xg 12 xi, l1, l2, l3] (aR xg 12 xi :: st) M := e_aldn d123_100 rfl
theorem d123_101 : decode (cod 123) 101 = .ok (.dup, 1) := by decide +kernel
theorem r123_101 (l0 l1 l2 l3 : AV) (xg xi : Nat) (st : List AV) (M : Mm) : run 123 101 [l0, l1, l2, l3] (aR xg 12 xi :: st) M = run 123 102 [l0, l1, l2, l3] (aR xg 12 xi :: aR xg 12 xi :: st) M := e_dup d123_101
theorem d123_102 : decode (cod 123) 102 = .ok (.getfield 242, 3) := by decide +kernel
theorem r123_102 (l0 l1 l2 l3 : AV) (xg xi : Nat) (st : List AV) (M : Mm) : run 123 102 [l0, l1, l2, l3] (aR xg 12 xi :: st) M = run 123 105 [l0, l1, l2, l3] (aI (M xg 12 xi 29) :: st) M := e_gfi d123_102 rfl rfl rfl
theorem d123_105 : decode (cod 123) 105 = .ok (.iload_n 3, 1) := by decide +kernel
theorem r123_105 (l0 l1 l2 : AV) (x : Int32) (st : List AV) (M : Mm) : run 123 105 [l0, l1, l2, aI x] st M = run 123 106 [l0, l1, l2, aI x] (aI x :: st) M := e_ildn d123_105 rfl
theorem d123_106 : decode (cod 123) 106 = .ok (.iadd, 1) := by decide +kernel
theorem r123_106 (l0 l1 l2 l3 : AV) (a b : Int32) (st : List AV) (M : Mm) : run 123 106 [l0, l1, l2, l3] (aI b :: aI a :: st) M = run 123 107 [l0, l1, l2, l3] (aI (a + b) :: st) M := e_iadd d123_106
theorem d123_107 : decode (cod 123) 107 = .ok (.putfield 242, 3) := by decide +kernel
theorem r123_107 (l0 l1 l2 l3 : AV) (v : Int32) (xg xi : Nat) (st : List AV) (M : Mm) : run 123 107 [l0, l1, l2, l3] (aI v :: aR xg 12 xi :: st) M = run 123 110 [l0, l1, l2, l3] st (wr M xg 12 xi 29 v) := e_pfi d123_107 rfl rfl rfl rfl
theorem d123_110 : decode (cod 123) 110 = .ok (.return_, 1) := by decide +kernel
theorem r123_110 (l0 l1 l2 l3 : AV) (M : Mm) : run 123 110 [l0, l1, l2, l3] [] M = some (none, M) := e_vret d123_110 rfl
theorem c124 (g0 i0 : Nat) (M : Mm) : call 124 [aR g0 12 i0] M = run 124 0 [aR g0 12 i0, none, none, none] [] M := call_run 124 _ _
theorem d124_0 : decode (cod 124) 0 = .ok (.aload_n 0, 1) := by decide +kernel
theorem r124_0 (l1 l2 l3 : AV) (xg xi : Nat) (st : List AV) (M : Mm) : run 124 0 [aR xg 12 xi, l1, l2, l3] st M = run 124 1 [aR xg 12 xi, l1, l2, l3] (aR xg 12 xi :: st) M := e_aldn d124_0 rfl
theorem d124_1 : decode (cod 124) 1 = .ok (.invokevirtual 245, 3) := by decide +kernel
theorem r124_1 (l0 l1 l2 l3 : AV) (a0g a0i : Nat) (M : Mm) : run 124 1 [l0, l1, l2, l3] [aR a0g 12 a0i] M = cbI (call 125 [aR a0g 12 a0i] M) (fun v M => run 124 4 [l0, l1, l2, l3] [aI v] M) := call_I (n := 1) rfl false d124_1 rfl rfl rfl rfl rfl rfl rfl
theorem d124_4 : decode (cod 124) 4 = .ok (.istore_n 1, 1) := by decide +kernel
theorem r124_4 (l0 l1 l2 l3 : AV) (x : Int32) (st : List AV) (M : Mm) : run 124 4 [l0, l1, l2, l3] (aI x :: st) M = run 124 5 [l0, aI x, l2, l3] st M := e_istn [l0, aI x, l2, l3] d124_4 rfl rfl
theorem d124_5 : decode (cod 124) 5 = .ok (.iconst 0, 1) := by decide +kernel
theorem r124_5 (l0 l1 l2 l3 : AV) (st : List AV) (M : Mm) : run 124 5 [l0, l1, l2, l3] st M = run 124 6 [l0, l1, l2, l3] (aI 0 :: st) M := e_iconst 0 d124_5 (by decide +kernel)
theorem d124_6 : decode (cod 124) 6 = .ok (.istore_n 2, 1) := by decide +kernel
theorem r124_6 (l0 l1 l2 l3 : AV) (x : Int32) (st : List AV) (M : Mm) : run 124 6 [l0, l1, l2, l3] (aI x :: st) M = run 124 7 [l0, l1, aI x, l3] st M := e_istn [l0, l1, aI x, l3] d124_6 rfl rfl
theorem d124_7 : decode (cod 124) 7 = .ok (.iload_n 2, 1) := by decide +kernel
theorem r124_7 (l0 l1 l3 : AV) (x : Int32) (st : List AV) (M : Mm) : run 124 7 [l0, l1, aI x, l3] st M = run 124 8 [l0, l1, aI x, l3] (aI x :: st) M := e_ildn d124_7 rfl
theorem d124_8 : decode (cod 124) 8 = .ok (.aload_n 0, 1) := by decide +kernel
theorem r124_8 (l1 l2 l3 : AV) (xg xi : Nat) (st : List AV) (M : Mm) : run 124 8 [aR xg 12 xi, l1, l2, l3] st M = run 124 9 [aR xg 12 xi, l1, l2, l3] (aR xg 12 xi :: st) M := e_aldn d124_8 rfl
theorem d124_9 : decode (cod 124) 9 = .ok (.getfield 13, 3) := by decide +kernel
theorem r124_9 (l0 l1 l2 l3 : AV) (xg xi : Nat) (st : List AV) (M : Mm) : run 124 9 [l0, l1, l2, l3] (aR xg 12 xi :: st) M = run 124 12 [l0, l1, l2, l3] (aR 4 14 0 :: st) M := e_gfr (fun g => (4, 14, 0)) d124_9 rfl rfl rfl
theorem d124_12 : decode (cod 124) 12 = .ok (.iconst 0, 1) := by decide +kernel
theorem r124_12 (l0 l1 l2 l3 : AV) (st : List AV) (M : Mm) : run 124 12 [l0, l1, l2, l3] st M = run 124 13 [l0, l1, l2, l3] (aI 0 :: st) M := e_iconst 0 d124_12 (by decide +kernel)
theorem d124_13 : decode (cod 124) 13 = .ok (.iaload, 1) := by decide +kernel
theorem r124_13 (l0 l1 l2 l3 : AV) (i : Int32) (xg xi : Nat) (st : List AV) (M : Mm) : run 124 13 [l0, l1, l2, l3] (aI i :: aR xg 14 xi :: st) M = if vpB i 7 = true then run 124 14 [l0, l1, l2, l3] (aI (M xg 14 xi i.toNatClampNeg) :: st) M else none := e_ial d124_13 rfl rfl
theorem d124_14 : decode (cod 124) 14 = .ok (.if_icmp .ge 23, 3) := by decide +kernel
theorem r124_14 (l0 l1 l2 l3 : AV) (a b : Int32) (st : List AV) (M : Mm) : run 124 14 [l0, l1, l2, l3] (aI b :: aI a :: st) M = if a < b then run 124 17 [l0, l1, l2, l3] st M else run 124 37 [l0, l1, l2, l3] st M := e_ge2 37 d124_14 (by decide)
theorem d124_17 : decode (cod 124) 17 = .ok (.aload_n 0, 1) := by decide +kernel
theorem r124_17 (l1 l2 l3 : AV) (xg xi : Nat) (st : List AV) (M : Mm) : run 124 17 [aR xg 12 xi, l1, l2, l3] st M = run 124 18 [aR xg 12 xi, l1, l2, l3] (aR xg 12 xi :: st) M := e_aldn d124_17 rfl
theorem d124_18 : decode (cod 124) 18 = .ok (.getfield 28, 3) := by decide +kernel
theorem r124_18 (l0 l1 l2 l3 : AV) (xg xi : Nat) (st : List AV) (M : Mm) : run 124 18 [l0, l1, l2, l3] (aR xg 12 xi :: st) M = run 124 21 [l0, l1, l2, l3] (aR 4 19 0 :: st) M := e_gfr (fun g => (4, 19, 0)) d124_18 rfl rfl rfl
theorem d124_21 : decode (cod 124) 21 = .ok (.iload_n 2, 1) := by decide +kernel
theorem r124_21 (l0 l1 l3 : AV) (x : Int32) (st : List AV) (M : Mm) : run 124 21 [l0, l1, aI x, l3] st M = run 124 22 [l0, l1, aI x, l3] (aI x :: st) M := e_ildn d124_21 rfl
theorem d124_22 : decode (cod 124) 22 = .ok (.iaload, 1) := by decide +kernel
theorem r124_22 (l0 l1 l2 l3 : AV) (i : Int32) (xg xi : Nat) (st : List AV) (M : Mm) : run 124 22 [l0, l1, l2, l3] (aI i :: aR xg 19 xi :: st) M = if vpB i 3 = true then run 124 23 [l0, l1, l2, l3] (aI (M xg 19 xi i.toNatClampNeg) :: st) M else none := e_ial d124_22 rfl rfl
theorem d124_23 : decode (cod 124) 23 = .ok (.ifCond .ne 8, 3) := by decide +kernel
theorem r124_23 (l0 l1 l2 l3 : AV) (a : Int32) (st : List AV) (M : Mm) : run 124 23 [l0, l1, l2, l3] (aI a :: st) M = if a = 0 then run 124 26 [l0, l1, l2, l3] st M else run 124 31 [l0, l1, l2, l3] st M := e_ne1 31 d124_23 (by decide)
theorem d124_26 : decode (cod 124) 26 = .ok (.aload_n 0, 1) := by decide +kernel
theorem r124_26 (l1 l2 l3 : AV) (xg xi : Nat) (st : List AV) (M : Mm) : run 124 26 [aR xg 12 xi, l1, l2, l3] st M = run 124 27 [aR xg 12 xi, l1, l2, l3] (aR xg 12 xi :: st) M := e_aldn d124_26 rfl
theorem d124_27 : decode (cod 124) 27 = .ok (.iload_n 2, 1) := by decide +kernel
theorem r124_27 (l0 l1 l3 : AV) (x : Int32) (st : List AV) (M : Mm) : run 124 27 [l0, l1, aI x, l3] st M = run 124 28 [l0, l1, aI x, l3] (aI x :: st) M := e_ildn d124_27 rfl
theorem d124_28 : decode (cod 124) 28 = .ok (.invokevirtual 248, 3) := by decide +kernel
theorem r124_28 (l0 l1 l2 l3 : AV) (a0g a0i : Nat) (a1 : Int32) (M : Mm) : run 124 28 [l0, l1, l2, l3] [aI a1, aR a0g 12 a0i] M = cbV (call 119 [aR a0g 12 a0i, aI a1] M) (fun M => run 124 31 [l0, l1, l2, l3] [] M) := call_V (n := 2) rfl false d124_28 rfl rfl rfl rfl rfl rfl rfl
theorem d124_31 : decode (cod 124) 31 = .ok (.iinc 2 1, 3) := by decide +kernel
theorem r124_31 (l0 l1 l3 : AV) (x : Int32) (st : List AV) (M : Mm) : run 124 31 [l0, l1, aI x, l3] st M = run 124 34 [l0, l1, aI (x + 1), l3] st M := e_iinc 1 [l0, l1, aI (x + 1), l3] d124_31 (by decide +kernel) rfl rfl
theorem d124_34 : decode (cod 124) 34 = .ok (.goto (-27), 3) := by decide +kernel
theorem r124_34 (l0 l1 l2 l3 : AV) (st : List AV) (M : Mm) : run 124 34 [l0, l1, l2, l3] st M = run 124 7 [l0, l1, l2, l3] st M := e_goto 7 d124_34 (by decide)
theorem d124_37 : decode (cod 124) 37 = .ok (.iconst 0, 1) := by decide +kernel
theorem r124_37 (l0 l1 l2 l3 : AV) (st : List AV) (M : Mm) : run 124 37 [l0, l1, l2, l3] st M = run 124 38 [l0, l1, l2, l3] (aI 0 :: st) M := e_iconst 0 d124_37 (by decide +kernel)
theorem d124_38 : decode (cod 124) 38 = .ok (.istore_n 2, 1) := by decide +kernel
theorem r124_38 (l0 l1 l2 l3 : AV) (x : Int32) (st : List AV) (M : Mm) : run 124 38 [l0, l1, l2, l3] (aI x :: st) M = run 124 39 [l0, l1, aI x, l3] st M := e_istn [l0, l1, aI x, l3] d124_38 rfl rfl
theorem d124_39 : decode (cod 124) 39 = .ok (.iload_n 2, 1) := by decide +kernel
theorem r124_39 (l0 l1 l3 : AV) (x : Int32) (st : List AV) (M : Mm) : run 124 39 [l0, l1, aI x, l3] st M = run 124 40 [l0, l1, aI x, l3] (aI x :: st) M := e_ildn d124_39 rfl
theorem d124_40 : decode (cod 124) 40 = .ok (.aload_n 0, 1) := by decide +kernel
theorem r124_40 (l1 l2 l3 : AV) (xg xi : Nat) (st : List AV) (M : Mm) : run 124 40 [aR xg 12 xi, l1, l2, l3] st M = run 124 41 [aR xg 12 xi, l1, l2, l3] (aR xg 12 xi :: st) M := e_aldn d124_40 rfl
theorem d124_41 : decode (cod 124) 41 = .ok (.getfield 79, 3) := by decide +kernel
theorem r124_41 (l0 l1 l2 l3 : AV) (xg xi : Nat) (st : List AV) (M : Mm) : run 124 41 [l0, l1, l2, l3] (aR xg 12 xi :: st) M = run 124 44 [l0, l1, l2, l3] (aI (M xg 12 xi 10) :: st) M := e_gfi d124_41 rfl rfl rfl
theorem d124_44 : decode (cod 124) 44 = .ok (.if_icmp .ge 51, 3) := by decide +kernel
theorem r124_44 (l0 l1 l2 l3 : AV) (a b : Int32) (st : List AV) (M : Mm) : run 124 44 [l0, l1, l2, l3] (aI b :: aI a :: st) M = if a < b then run 124 47 [l0, l1, l2, l3] st M else run 124 95 [l0, l1, l2, l3] st M := e_ge2 95 d124_44 (by decide)
theorem d124_47 : decode (cod 124) 47 = .ok (.aload_n 0, 1) := by decide +kernel
theorem r124_47 (l1 l2 l3 : AV) (xg xi : Nat) (st : List AV) (M : Mm) : run 124 47 [aR xg 12 xi, l1, l2, l3] st M = run 124 48 [aR xg 12 xi, l1, l2, l3] (aR xg 12 xi :: st) M := e_aldn d124_47 rfl
theorem d124_48 : decode (cod 124) 48 = .ok (.getfield 55, 3) := by decide +kernel
theorem r124_48 (l0 l1 l2 l3 : AV) (xg xi : Nat) (st : List AV) (M : Mm) : run 124 48 [l0, l1, l2, l3] (aR xg 12 xi :: st) M = run 124 51 [l0, l1, l2, l3] (aR 4 28 0 :: st) M := e_gfr (fun g => (4, 28, 0)) d124_48 rfl rfl rfl
theorem d124_51 : decode (cod 124) 51 = .ok (.iload_n 2, 1) := by decide +kernel
theorem r124_51 (l0 l1 l3 : AV) (x : Int32) (st : List AV) (M : Mm) : run 124 51 [l0, l1, aI x, l3] st M = run 124 52 [l0, l1, aI x, l3] (aI x :: st) M := e_ildn d124_51 rfl
theorem d124_52 : decode (cod 124) 52 = .ok (.iaload, 1) := by decide +kernel
theorem r124_52 (l0 l1 l2 l3 : AV) (i : Int32) (xg xi : Nat) (st : List AV) (M : Mm) : run 124 52 [l0, l1, l2, l3] (aI i :: aR xg 28 xi :: st) M = if vpB i 4 = true then run 124 53 [l0, l1, l2, l3] (aI (M xg 28 xi i.toNatClampNeg) :: st) M else none := e_ial d124_52 rfl rfl
theorem d124_53 : decode (cod 124) 53 = .ok (.istore_n 3, 1) := by decide +kernel
theorem r124_53 (l0 l1 l2 l3 : AV) (x : Int32) (st : List AV) (M : Mm) : run 124 53 [l0, l1, l2, l3] (aI x :: st) M = run 124 54 [l0, l1, l2, aI x] st M := e_istn [l0, l1, l2, aI x] d124_53 rfl rfl
theorem d124_54 : decode (cod 124) 54 = .ok (.aload_n 0, 1) := by decide +kernel
theorem r124_54 (l1 l2 l3 : AV) (xg xi : Nat) (st : List AV) (M : Mm) : run 124 54 [aR xg 12 xi, l1, l2, l3] st M = run 124 55 [aR xg 12 xi, l1, l2, l3] (aR xg 12 xi :: st) M := e_aldn d124_54 rfl
theorem d124_55 : decode (cod 124) 55 = .ok (.iload_n 2, 1) := by decide +kernel
theorem r124_55 (l0 l1 l3 : AV) (x : Int32) (st : List AV) (M : Mm) : run 124 55 [l0, l1, aI x, l3] st M = run 124 56 [l0, l1, aI x, l3] (aI x :: st) M := e_ildn d124_55 rfl
theorem d124_56 : decode (cod 124) 56 = .ok (.invokevirtual 251, 3) := by decide +kernel
theorem r124_56 (l0 l1 l2 l3 : AV) (a0g a0i : Nat) (a1 : Int32) (M : Mm) : run 124 56 [l0, l1, l2, l3] [aI a1, aR a0g 12 a0i] M = cbV (call 123 [aR a0g 12 a0i, aI a1] M) (fun M => run 124 59 [l0, l1, l2, l3] [] M) := call_V (n := 2) rfl false d124_56 rfl rfl rfl rfl rfl rfl rfl
theorem d124_59 : decode (cod 124) 59 = .ok (.aload_n 0, 1) := by decide +kernel
theorem r124_59 (l1 l2 l3 : AV) (xg xi : Nat) (st : List AV) (M : Mm) : run 124 59 [aR xg 12 xi, l1, l2, l3] st M = run 124 60 [aR xg 12 xi, l1, l2, l3] (aR xg 12 xi :: st) M := e_aldn d124_59 rfl
theorem d124_60 : decode (cod 124) 60 = .ok (.getfield 254, 3) := by decide +kernel
theorem r124_60 (l0 l1 l2 l3 : AV) (xg xi : Nat) (st : List AV) (M : Mm) : run 124 60 [l0, l1, l2, l3] (aR xg 12 xi :: st) M = run 124 63 [l0, l1, l2, l3] (aI (M xg 12 xi 35) :: st) M := e_gfi d124_60 rfl rfl rfl
theorem d124_63 : decode (cod 124) 63 = .ok (.ifCond .ge 26, 3) := by decide +kernel
theorem r124_63 (l0 l1 l2 l3 : AV) (a : Int32) (st : List AV) (M : Mm) : run 124 63 [l0, l1, l2, l3] (aI a :: st) M = if a < 0 then run 124 66 [l0, l1, l2, l3] st M else run 124 89 [l0, l1, l2, l3] st M := e_ge1 89 d124_63 (by decide)
theorem d124_66 : decode (cod 124) 66 = .ok (.aload_n 0, 1) := by decide +kernel
theorem r124_66 (l1 l2 l3 : AV) (xg xi : Nat) (st : List AV) (M : Mm) : run 124 66 [aR xg 12 xi, l1, l2, l3] st M = run 124 67 [aR xg 12 xi, l1, l2, l3] (aR xg 12 xi :: st) M := e_aldn d124_66 rfl
theorem d124_67 : decode (cod 124) 67 = .ok (.getfield 55, 3) := by decide +kernel
theorem r124_67 (l0 l1 l2 l3 : AV) (xg xi : Nat) (st : List AV) (M : Mm) : run 124 67 [l0, l1, l2, l3] (aR xg 12 xi :: st) M = run 124 70 [l0, l1, l2, l3] (aR 4 28 0 :: st) M := e_gfr (fun g => (4, 28, 0)) d124_67 rfl rfl rfl
theorem d124_70 : decode (cod 124) 70 = .ok (.iload_n 2, 1) := by decide +kernel
theorem r124_70 (l0 l1 l3 : AV) (x : Int32) (st : List AV) (M : Mm) : run 124 70 [l0, l1, aI x, l3] st M = run 124 71 [l0, l1, aI x, l3] (aI x :: st) M := e_ildn d124_70 rfl
theorem d124_71 : decode (cod 124) 71 = .ok (.iaload, 1) := by decide +kernel
theorem r124_71 (l0 l1 l2 l3 : AV) (i : Int32) (xg xi : Nat) (st : List AV) (M : Mm) : run 124 71 [l0, l1, l2, l3] (aI i :: aR xg 28 xi :: st) M = if vpB i 4 = true then run 124 72 [l0, l1, l2, l3] (aI (M xg 28 xi i.toNatClampNeg) :: st) M else none := e_ial d124_71 rfl rfl
theorem d124_72 : decode (cod 124) 72 = .ok (.iload_n 3, 1) := by decide +kernel
theorem r124_72 (l0 l1 l2 : AV) (x : Int32) (st : List AV) (M : Mm) : run 124 72 [l0, l1, l2, aI x] st M = run 124 73 [l0, l1, l2, aI x] (aI x :: st) M := e_ildn d124_72 rfl
theorem d124_73 : decode (cod 124) 73 = .ok (.if_icmp .le 16, 3) := by decide +kernel
theorem r124_73 (l0 l1 l2 l3 : AV) (a b : Int32) (st : List AV) (M : Mm) : run 124 73 [l0, l1, l2, l3] (aI b :: aI a :: st) M = if b < a then run 124 76 [l0, l1, l2, l3] st M else run 124 89 [l0, l1, l2, l3] st M := e_le2 89 d124_73 (by decide)
theorem d124_76 : decode (cod 124) 76 = .ok (.aload_n 0, 1) := by decide +kernel
theorem r124_76 (l1 l2 l3 : AV) (xg xi : Nat) (st : List AV) (M : Mm) : run 124 76 [aR xg 12 xi, l1, l2, l3] st M = run 124 77 [aR xg 12 xi, l1, l2, l3] (aR xg 12 xi :: st) M := e_aldn d124_76 rfl
theorem d124_77 : decode (cod 124) 77 = .ok (.iload_n 2, 1) := by decide +kernel
theorem r124_77 (l0 l1 l3 : AV) (x : Int32) (st : List AV) (M : Mm) : run 124 77 [l0, l1, aI x, l3] st M = run 124 78 [l0, l1, aI x, l3] (aI x :: st) M := e_ildn d124_77 rfl
theorem d124_78 : decode (cod 124) 78 = .ok (.putfield 254, 3) := by decide +kernel
theorem r124_78 (l0 l1 l2 l3 : AV) (v : Int32) (xg xi : Nat) (st : List AV) (M : Mm) : run 124 78 [l0, l1, l2, l3] (aI v :: aR xg 12 xi :: st) M = run 124 81 [l0, l1, l2, l3] st (wr M xg 12 xi 35 v) := e_pfi d124_78 rfl rfl rfl rfl
theorem d124_81 : decode (cod 124) 81 = .ok (.aload_n 0, 1) := by decide +kernel
theorem r124_81 (l1 l2 l3 : AV) (xg xi : Nat) (st : List AV) (M : Mm) : run 124 81 [aR xg 12 xi, l1, l2, l3] st M = run 124 82 [aR xg 12 xi, l1, l2, l3] (aR xg 12 xi :: st) M := e_aldn d124_81 rfl
theorem d124_82 : decode (cod 124) 82 = .ok (.aload_n 0, 1) := by decide +kernel
theorem r124_82 (l1 l2 l3 : AV) (xg xi : Nat) (st : List AV) (M : Mm) : run 124 82 [aR xg 12 xi, l1, l2, l3] st M = run 124 83 [aR xg 12 xi, l1, l2, l3] (aR xg 12 xi :: st) M := e_aldn d124_82 rfl
theorem d124_83 : decode (cod 124) 83 = .ok (.getfield 211, 3) := by decide +kernel
theorem r124_83 (l0 l1 l2 l3 : AV) (xg xi : Nat) (st : List AV) (M : Mm) : run 124 83 [l0, l1, l2, l3] (aR xg 12 xi :: st) M = run 124 86 [l0, l1, l2, l3] (aI (M xg 12 xi 39) :: st) M := e_gfi d124_83 rfl rfl rfl
theorem d124_86 : decode (cod 124) 86 = .ok (.putfield 257, 3) := by decide +kernel
theorem r124_86 (l0 l1 l2 l3 : AV) (v : Int32) (xg xi : Nat) (st : List AV) (M : Mm) : run 124 86 [l0, l1, l2, l3] (aI v :: aR xg 12 xi :: st) M = run 124 89 [l0, l1, l2, l3] st (wr M xg 12 xi 36 v) := e_pfi d124_86 rfl rfl rfl rfl
theorem d124_89 : decode (cod 124) 89 = .ok (.iinc 2 1, 3) := by decide +kernel
theorem r124_89 (l0 l1 l3 : AV) (x : Int32) (st : List AV) (M : Mm) : run 124 89 [l0, l1, aI x, l3] st M = run 124 92 [l0, l1, aI (x + 1), l3] st M := e_iinc 1 [l0, l1, aI (x + 1), l3] d124_89 (by decide +kernel) rfl rfl
theorem d124_92 : decode (cod 124) 92 = .ok (.goto (-53), 3) := by decide +kernel
theorem r124_92 (l0 l1 l2 l3 : AV) (st : List AV) (M : Mm) : run 124 92 [l0, l1, l2, l3] st M = run 124 39 [l0, l1, l2, l3] st M := e_goto 39 d124_92 (by decide)
theorem d124_95 : decode (cod 124) 95 = .ok (.aload_n 0, 1) := by decide +kernel
theorem r124_95 (l1 l2 l3 : AV) (xg xi : Nat) (st : List AV) (M : Mm) : run 124 95 [aR xg 12 xi, l1, l2, l3] st M = run 124 96 [aR xg 12 xi, l1, l2, l3] (aR xg 12 xi :: st) M := e_aldn d124_95 rfl
theorem d124_96 : decode (cod 124) 96 = .ok (.dup, 1) := by decide +kernel
theorem r124_96 (l0 l1 l2 l3 : AV) (xg xi : Nat) (st : List AV) (M : Mm) : run 124 96 [l0, l1, l2, l3] (aR xg 12 xi :: st) M = run 124 97 [l0, l1, l2, l3] (aR xg 12 xi :: aR xg 12 xi :: st) M := e_dup d124_96
theorem d124_97 : decode (cod 124) 97 = .ok (.getfield 260, 3) := by decide +kernel
theorem r124_97 (l0 l1 l2 l3 : AV) (xg xi : Nat) (st : List AV) (M : Mm) : run 124 97 [l0, l1, l2, l3] (aR xg 12 xi :: st) M = run 124 100 [l0, l1, l2, l3] (aI (M xg 12 xi 34) :: st) M := e_gfi d124_97 rfl rfl rfl
theorem d124_100 : decode (cod 124) 100 = .ok (.aload_n 0, 1) := by decide +kernel
theorem r124_100 (l1 l2 l3 : AV) (xg xi : Nat) (st : List AV) (M : Mm) : run 124 100 [aR xg 12 xi, l1, l2, l3] st M = run 124 101 [aR xg 12 xi, l1, l2, l3] (aR xg 12 xi :: st) M := e_aldn d124_100 rfl
theorem d124_101 : decode (cod 124) 101 = .ok (.invokevirtual 245, 3) := by decide +kernel
theorem r124_101 (l0 l1 l2 l3 : AV) (a0g a0i : Nat) (t0 t1 : AV) (M : Mm) : run 124 101 [l0, l1, l2, l3] [aR a0g 12 a0i, t0, t1] M = cbI (call 125 [aR a0g 12 a0i] M) (fun v M => run 124 104 [l0, l1, l2, l3] [aI v, t0, t1] M) := call_I (n := 1) rfl false d124_101 rfl rfl rfl rfl rfl rfl rfl
theorem d124_104 : decode (cod 124) 104 = .ok (.iload_n 1, 1) := by decide +kernel
theorem r124_104 (l0 l2 l3 : AV) (x : Int32) (st : List AV) (M : Mm) : run 124 104 [l0, aI x, l2, l3] st M = run 124 105 [l0, aI x, l2, l3] (aI x :: st) M := e_ildn d124_104 rfl
theorem d124_105 : decode (cod 124) 105 = .ok (.isub, 1) := by decide +kernel
theorem r124_105 (l0 l1 l2 l3 : AV) (a b : Int32) (st : List AV) (M : Mm) : run 124 105 [l0, l1, l2, l3] (aI b :: aI a :: st) M = run 124 106 [l0, l1, l2, l3] (aI (a - b) :: st) M := e_isub d124_105
theorem d124_106 : decode (cod 124) 106 = .ok (.iconst 1, 1) := by decide +kernel
theorem r124_106 (l0 l1 l2 l3 : AV) (st : List AV) (M : Mm) : run 124 106 [l0, l1, l2, l3] st M = run 124 107 [l0, l1, l2, l3] (aI 1 :: st) M := e_iconst 1 d124_106 (by decide +kernel)
theorem d124_107 : decode (cod 124) 107 = .ok (.if_icmp .le 7, 3) := by decide +kernel
theorem r124_107 (l0 l1 l2 l3 : AV) (a b : Int32) (st : List AV) (M : Mm) : run 124 107 [l0, l1, l2, l3] (aI b :: aI a :: st) M = if b < a then run 124 110 [l0, l1, l2, l3] st M else run 124 114 [l0, l1, l2, l3] st M := e_le2 114 d124_107 (by decide)
theorem d124_110 : decode (cod 124) 110 = .ok (.iconst 1, 1) := by decide +kernel
theorem r124_110 (l0 l1 l2 l3 : AV) (st : List AV) (M : Mm) : run 124 110 [l0, l1, l2, l3] st M = run 124 111 [l0, l1, l2, l3] (aI 1 :: st) M := e_iconst 1 d124_110 (by decide +kernel)
theorem d124_111 : decode (cod 124) 111 = .ok (.goto 4, 3) := by decide +kernel
theorem r124_111 (l0 l1 l2 l3 : AV) (st : List AV) (M : Mm) : run 124 111 [l0, l1, l2, l3] st M = run 124 115 [l0, l1, l2, l3] st M := e_goto 115 d124_111 (by decide)
theorem d124_114 : decode (cod 124) 114 = .ok (.iconst 0, 1) := by decide +kernel
theorem r124_114 (l0 l1 l2 l3 : AV) (st : List AV) (M : Mm) : run 124 114 [l0, l1, l2, l3] st M = run 124 115 [l0, l1, l2, l3] (aI 0 :: st) M := e_iconst 0 d124_114 (by decide +kernel)
theorem d124_115 : decode (cod 124) 115 = .ok (.iadd, 1) := by decide +kernel
theorem r124_115 (l0 l1 l2 l3 : AV) (a b : Int32) (st : List AV) (M : Mm) : run 124 115 [l0, l1, l2, l3] (aI b :: aI a :: st) M = run 124 116 [l0, l1, l2, l3] (aI (a + b) :: st) M := e_iadd d124_115
theorem d124_116 : decode (cod 124) 116 = .ok (.putfield 260, 3) := by decide +kernel
theorem r124_116 (l0 l1 l2 l3 : AV) (v : Int32) (xg xi : Nat) (st : List AV) (M : Mm) : run 124 116 [l0, l1, l2, l3] (aI v :: aR xg 12 xi :: st) M = run 124 119 [l0, l1, l2, l3] st (wr M xg 12 xi 34 v) := e_pfi d124_116 rfl rfl rfl rfl
theorem d124_119 : decode (cod 124) 119 = .ok (.iconst 0, 1) := by decide +kernel
theorem r124_119 (l0 l1 l2 l3 : AV) (st : List AV) (M : Mm) : run 124 119 [l0, l1, l2, l3] st M = run 124 120 [l0, l1, l2, l3] (aI 0 :: st) M := e_iconst 0 d124_119 (by decide +kernel)
theorem d124_120 : decode (cod 124) 120 = .ok (.istore_n 2, 1) := by decide +kernel
theorem r124_120 (l0 l1 l2 l3 : AV) (x : Int32) (st : List AV) (M : Mm) : run 124 120 [l0, l1, l2, l3] (aI x :: st) M = run 124 121 [l0, l1, aI x, l3] st M := e_istn [l0, l1, aI x, l3] d124_120 rfl rfl
theorem d124_121 : decode (cod 124) 121 = .ok (.iload_n 2, 1) := by decide +kernel
theorem r124_121 (l0 l1 l3 : AV) (x : Int32) (st : List AV) (M : Mm) : run 124 121 [l0, l1, aI x, l3] st M = run 124 122 [l0, l1, aI x, l3] (aI x :: st) M := e_ildn d124_121 rfl
theorem d124_122 : decode (cod 124) 122 = .ok (.aload_n 0, 1) := by decide +kernel
theorem r124_122 (l1 l2 l3 : AV) (xg xi : Nat) (st : List AV) (M : Mm) : run 124 122 [aR xg 12 xi, l1, l2, l3] st M = run 124 123 [aR xg 12 xi, l1, l2, l3] (aR xg 12 xi :: st) M := e_aldn d124_122 rfl
theorem d124_123 : decode (cod 124) 123 = .ok (.getfield 13, 3) := by decide +kernel
theorem r124_123 (l0 l1 l2 l3 : AV) (xg xi : Nat) (st : List AV) (M : Mm) : run 124 123 [l0, l1, l2, l3] (aR xg 12 xi :: st) M = run 124 126 [l0, l1, l2, l3] (aR 4 14 0 :: st) M := e_gfr (fun g => (4, 14, 0)) d124_123 rfl rfl rfl
theorem d124_126 : decode (cod 124) 126 = .ok (.iconst 0, 1) := by decide +kernel
theorem r124_126 (l0 l1 l2 l3 : AV) (st : List AV) (M : Mm) : run 124 126 [l0, l1, l2, l3] st M = run 124 127 [l0, l1, l2, l3] (aI 0 :: st) M := e_iconst 0 d124_126 (by decide +kernel)
theorem d124_127 : decode (cod 124) 127 = .ok (.iaload, 1) := by decide +kernel
theorem r124_127 (l0 l1 l2 l3 : AV) (i : Int32) (xg xi : Nat) (st : List AV) (M : Mm) : run 124 127 [l0, l1, l2, l3] (aI i :: aR xg 14 xi :: st) M = if vpB i 7 = true then run 124 128 [l0, l1, l2, l3] (aI (M xg 14 xi i.toNatClampNeg) :: st) M else none := e_ial d124_127 rfl rfl
theorem d124_128 : decode (cod 124) 128 = .ok (.if_icmp .ge 45, 3) := by decide +kernel
theorem r124_128 (l0 l1 l2 l3 : AV) (a b : Int32) (st : List AV) (M : Mm) : run 124 128 [l0, l1, l2, l3] (aI b :: aI a :: st) M = if a < b then run 124 131 [l0, l1, l2, l3] st M else run 124 173 [l0, l1, l2, l3] st M := e_ge2 173 d124_128 (by decide)
theorem d124_131 : decode (cod 124) 131 = .ok (.aload_n 0, 1) := by decide +kernel
theorem r124_131 (l1 l2 l3 : AV) (xg xi : Nat) (st : List AV) (M : Mm) : run 124 131 [aR xg 12 xi, l1, l2, l3] st M = run 124 132 [aR xg 12 xi, l1, l2, l3] (aR xg 12 xi :: st) M := e_aldn d124_131 rfl
theorem d124_132 : decode (cod 124) 132 = .ok (.getfield 28, 3) := by decide +kernel
theorem r124_132 (l0 l1 l2 l3 : AV) (xg xi : Nat) (st : List AV) (M : Mm) : run 124 132 [l0, l1, l2, l3] (aR xg 12 xi :: st) M = run 124 135 [l0, l1, l2, l3] (aR 4 19 0 :: st) M := e_gfr (fun g => (4, 19, 0)) d124_132 rfl rfl rfl
theorem d124_135 : decode (cod 124) 135 = .ok (.iload_n 2, 1) := by decide +kernel
theorem r124_135 (l0 l1 l3 : AV) (x : Int32) (st : List AV) (M : Mm) : run 124 135 [l0, l1, aI x, l3] st M = run 124 136 [l0, l1, aI x, l3] (aI x :: st) M := e_ildn d124_135 rfl
theorem d124_136 : decode (cod 124) 136 = .ok (.iaload, 1) := by decide +kernel
theorem r124_136 (l0 l1 l2 l3 : AV) (i : Int32) (xg xi : Nat) (st : List AV) (M : Mm) : run 124 136 [l0, l1, l2, l3] (aI i :: aR xg 19 xi :: st) M = if vpB i 3 = true then run 124 137 [l0, l1, l2, l3] (aI (M xg 19 xi i.toNatClampNeg) :: st) M else none := e_ial d124_136 rfl rfl
theorem d124_137 : decode (cod 124) 137 = .ok (.ifCond .ne 6, 3) := by decide +kernel
theorem r124_137 (l0 l1 l2 l3 : AV) (a : Int32) (st : List AV) (M : Mm) : run 124 137 [l0, l1, l2, l3] (aI a :: st) M = if a = 0 then run 124 140 [l0, l1, l2, l3] st M else run 124 143 [l0, l1, l2, l3] st M := e_ne1 143 d124_137 (by decide)
theorem d124_140 : decode (cod 124) 140 = .ok (.goto 27, 3) := by decide +kernel
theorem r124_140 (l0 l1 l2 l3 : AV) (st : List AV) (M : Mm) : run 124 140 [l0, l1, l2, l3] st M = run 124 167 [l0, l1, l2, l3] st M := e_goto 167 d124_140 (by decide)
theorem d124_143 : decode (cod 124) 143 = .ok (.aload_n 0, 1) := by decide +kernel
theorem r124_143 (l1 l2 l3 : AV) (xg xi : Nat) (st : List AV) (M : Mm) : run 124 143 [aR xg 12 xi, l1, l2, l3] st M = run 124 144 [aR xg 12 xi, l1, l2, l3] (aR xg 12 xi :: st) M := e_aldn d124_143 rfl
theorem d124_144 : decode (cod 124) 144 = .ok (.getfield 31, 3) := by decide +kernel
theorem r124_144 (l0 l1 l2 l3 : AV) (xg xi : Nat) (st : List AV) (M : Mm) : run 124 144 [l0, l1, l2, l3] (aR xg 12 xi :: st) M = run 124 147 [l0, l1, l2, l3] (aR 4 20 0 :: st) M := e_gfr (fun g => (4, 20, 0)) d124_144 rfl rfl rfl
theorem d124_147 : decode (cod 124) 147 = .ok (.iload_n 2, 1) := by decide +kernel
theorem r124_147 (l0 l1 l3 : AV) (x : Int32) (st : List AV) (M : Mm) : run 124 147 [l0, l1, aI x, l3] st M = run 124 148 [l0, l1, aI x, l3] (aI x :: st) M := e_ildn d124_147 rfl
theorem d124_148 : decode (cod 124) 148 = .ok (.dup2, 1) := by decide +kernel
theorem r124_148 (l0 l1 l2 l3 : AV) (x : Int32) (zg zi : Nat) (st : List AV) (M : Mm) : run 124 148 [l0, l1, l2, l3] (aI x :: aR zg 20 zi :: st) M = run 124 149 [l0, l1, l2, l3] (aI x :: aR zg 20 zi :: aI x :: aR zg 20 zi :: st) M := e_dup2 d124_148
theorem d124_149 : decode (cod 124) 149 = .ok (.iaload, 1) := by decide +kernel
theorem r124_149 (l0 l1 l2 l3 : AV) (i : Int32) (xg xi : Nat) (st : List AV) (M : Mm) : run 124 149 [l0, l1, l2, l3] (aI i :: aR xg 20 xi :: st) M = if vpB i 3 = true then run 124 150 [l0, l1, l2, l3] (aI (M xg 20 xi i.toNatClampNeg) :: st) M else none := e_ial d124_149 rfl rfl
theorem d124_150 : decode (cod 124) 150 = .ok (.iconst 1, 1) := by decide +kernel
theorem r124_150 (l0 l1 l2 l3 : AV) (st : List AV) (M : Mm) : run 124 150 [l0, l1, l2, l3] st M = run 124 151 [l0, l1, l2, l3] (aI 1 :: st) M := e_iconst 1 d124_150 (by decide +kernel)
theorem d124_151 : decode (cod 124) 151 = .ok (.isub, 1) := by decide +kernel
theorem r124_151 (l0 l1 l2 l3 : AV) (a b : Int32) (st : List AV) (M : Mm) : run 124 151 [l0, l1, l2, l3] (aI b :: aI a :: st) M = run 124 152 [l0, l1, l2, l3] (aI (a - b) :: st) M := e_isub d124_151
theorem d124_152 : decode (cod 124) 152 = .ok (.iastore, 1) := by decide +kernel
theorem r124_152 (l0 l1 l2 l3 : AV) (v i : Int32) (xg xi : Nat) (st : List AV) (M : Mm) : run 124 152 [l0, l1, l2, l3] (aI v :: aI i :: aR xg 20 xi :: st) M = if vpB i 3 = true then run 124 153 [l0, l1, l2, l3] st (wr M xg 20 xi i.toNatClampNeg v) else none := e_ias d124_152 rfl rfl
theorem d124_153 : decode (cod 124) 153 = .ok (.aload_n 0, 1) := by decide +kernel
theorem r124_153 (l1 l2 l3 : AV) (xg xi : Nat) (st : List AV) (M : Mm) : run 124 153 [aR xg 12 xi, l1, l2, l3] st M = run 124 154 [aR xg 12 xi, l1, l2, l3] (aR xg 12 xi :: st) M := e_aldn d124_153 rfl
theorem d124_154 : decode (cod 124) 154 = .ok (.getfield 31, 3) := by decide +kernel
theorem r124_154 (l0 l1 l2 l3 : AV) (xg xi : Nat) (st : List AV) (M : Mm) : run 124 154 [l0, l1, l2, l3] (aR xg 12 xi :: st) M = run 124 157 [l0, l1, l2, l3] (aR 4 20 0 :: st) M := e_gfr (fun g => (4, 20, 0)) d124_154 rfl rfl rfl
theorem d124_157 : decode (cod 124) 157 = .ok (.iload_n 2, 1) := by decide +kernel
theorem r124_157 (l0 l1 l3 : AV) (x : Int32) (st : List AV) (M : Mm) : run 124 157 [l0, l1, aI x, l3] st M = run 124 158 [l0, l1, aI x, l3] (aI x :: st) M := e_ildn d124_157 rfl
theorem d124_158 : decode (cod 124) 158 = .ok (.iaload, 1) := by decide +kernel
theorem r124_158 (l0 l1 l2 l3 : AV) (i : Int32) (xg xi : Nat) (st : List AV) (M : Mm) : run 124 158 [l0, l1, l2, l3] (aI i :: aR xg 20 xi :: st) M = if vpB i 3 = true then run 124 159 [l0, l1, l2, l3] (aI (M xg 20 xi i.toNatClampNeg) :: st) M else none := e_ial d124_158 rfl rfl
theorem d124_159 : decode (cod 124) 159 = .ok (.ifCond .ne 8, 3) := by decide +kernel
theorem r124_159 (l0 l1 l2 l3 : AV) (a : Int32) (st : List AV) (M : Mm) : run 124 159 [l0, l1, l2, l3] (aI a :: st) M = if a = 0 then run 124 162 [l0, l1, l2, l3] st M else run 124 167 [l0, l1, l2, l3] st M := e_ne1 167 d124_159 (by decide)
theorem d124_162 : decode (cod 124) 162 = .ok (.aload_n 0, 1) := by decide +kernel
theorem r124_162 (l1 l2 l3 : AV) (xg xi : Nat) (st : List AV) (M : Mm) : run 124 162 [aR xg 12 xi, l1, l2, l3] st M = run 124 163 [aR xg 12 xi, l1, l2, l3] (aR xg 12 xi :: st) M := e_aldn d124_162 rfl
theorem d124_163 : decode (cod 124) 163 = .ok (.iload_n 2, 1) := by decide +kernel
theorem r124_163 (l0 l1 l3 : AV) (x : Int32) (st : List AV) (M : Mm) : run 124 163 [l0, l1, aI x, l3] st M = run 124 164 [l0, l1, aI x, l3] (aI x :: st) M := e_ildn d124_163 rfl
theorem d124_164 : decode (cod 124) 164 = .ok (.invokevirtual 263, 3) := by decide +kernel
theorem r124_164 (l0 l1 l2 l3 : AV) (a0g a0i : Nat) (a1 : Int32) (M : Mm) : run 124 164 [l0, l1, l2, l3] [aI a1, aR a0g 12 a0i] M = cbV (call 122 [aR a0g 12 a0i, aI a1] M) (fun M => run 124 167 [l0, l1, l2, l3] [] M) := call_V (n := 2) rfl false d124_164 rfl rfl rfl rfl rfl rfl rfl
theorem d124_167 : decode (cod 124) 167 = .ok (.iinc 2 1, 3) := by decide +kernel
theorem r124_167 (l0 l1 l3 : AV) (x : Int32) (st : List AV) (M : Mm) : run 124 167 [l0, l1, aI x, l3] st M = run 124 170 [l0, l1, aI (x + 1), l3] st M := e_iinc 1 [l0, l1, aI (x + 1), l3] d124_167 (by decide +kernel) rfl rfl
theorem d124_170 : decode (cod 124) 170 = .ok (.goto (-49), 3) := by decide +kernel
theorem r124_170 (l0 l1 l2 l3 : AV) (st : List AV) (M : Mm) : run 124 170 [l0, l1, l2, l3] st M = run 124 121 [l0, l1, l2, l3] st M := e_goto 121 d124_170 (by decide)
theorem d124_173 : decode (cod 124) 173 = .ok (.aload_n 0, 1) := by decide +kernel
theorem r124_173 (l1 l2 l3 : AV) (xg xi : Nat) (st : List AV) (M : Mm) : run 124 173 [aR xg 12 xi, l1, l2, l3] st M = run 124 174 [aR xg 12 xi, l1, l2, l3] (aR xg 12 xi :: st) M := e_aldn d124_173 rfl
theorem d124_174 : decode (cod 124) 174 = .ok (.dup, 1) := by decide +kernel
theorem r124_174 (l0 l1 l2 l3 : AV) (xg xi : Nat) (st : List AV) (M : Mm) : run 124 174 [l0, l1, l2, l3] (aR xg 12 xi :: st) M = run 124 175 [l0, l1, l2, l3] (aR xg 12 xi :: aR xg 12 xi :: st) M := e_dup d124_174
theorem d124_175 : decode (cod 124) 175 = .ok (.getfield 140, 3) := by decide +kernel
theorem r124_175 (l0 l1 l2 l3 : AV) (xg xi : Nat) (st : List AV) (M : Mm) : run 124 175 [l0, l1, l2, l3] (aR xg 12 xi :: st) M = run 124 178 [l0, l1, l2, l3] (aI (M xg 12 xi 11) :: st) M := e_gfi d124_175 rfl rfl rfl
theorem d124_178 : decode (cod 124) 178 = .ok (.iconst 1, 1) := by decide +kernel
theorem r124_178 (l0 l1 l2 l3 : AV) (st : List AV) (M : Mm) : run 124 178 [l0, l1, l2, l3] st M = run 124 179 [l0, l1, l2, l3] (aI 1 :: st) M := e_iconst 1 d124_178 (by decide +kernel)
theorem d124_179 : decode (cod 124) 179 = .ok (.iadd, 1) := by decide +kernel
theorem r124_179 (l0 l1 l2 l3 : AV) (a b : Int32) (st : List AV) (M : Mm) : run 124 179 [l0, l1, l2, l3] (aI b :: aI a :: st) M = run 124 180 [l0, l1, l2, l3] (aI (a + b) :: st) M := e_iadd d124_179
theorem d124_180 : decode (cod 124) 180 = .ok (.putfield 140, 3) := by decide +kernel
theorem r124_180 (l0 l1 l2 l3 : AV) (v : Int32) (xg xi : Nat) (st : List AV) (M : Mm) : run 124 180 [l0, l1, l2, l3] (aI v :: aR xg 12 xi :: st) M = run 124 183 [l0, l1, l2, l3] st (wr M xg 12 xi 11 v) := e_pfi d124_180 rfl rfl rfl rfl
theorem d124_183 : decode (cod 124) 183 = .ok (.aload_n 0, 1) := by decide +kernel
theorem r124_183 (l1 l2 l3 : AV) (xg xi : Nat) (st : List AV) (M : Mm) : run 124 183 [aR xg 12 xi, l1, l2, l3] st M = run 124 184 [aR xg 12 xi, l1, l2, l3] (aR xg 12 xi :: st) M := e_aldn d124_183 rfl
theorem d124_184 : decode (cod 124) 184 = .ok (.dup, 1) := by decide +kernel
theorem r124_184 (l0 l1 l2 l3 : AV) (xg xi : Nat) (st : List AV) (M : Mm) : run 124 184 [l0, l1, l2, l3] (aR xg 12 xi :: st) M = run 124 185 [l0, l1, l2, l3] (aR xg 12 xi :: aR xg 12 xi :: st) M := e_dup d124_184
theorem d124_185 : decode (cod 124) 185 = .ok (.getfield 211, 3) := by decide +kernel
theorem r124_185 (l0 l1 l2 l3 : AV) (xg xi : Nat) (st : List AV) (M : Mm) : run 124 185 [l0, l1, l2, l3] (aR xg 12 xi :: st) M = run 124 188 [l0, l1, l2, l3] (aI (M xg 12 xi 39) :: st) M := e_gfi d124_185 rfl rfl rfl
theorem d124_188 : decode (cod 124) 188 = .ok (.iconst 1, 1) := by decide +kernel
theorem r124_188 (l0 l1 l2 l3 : AV) (st : List AV) (M : Mm) : run 124 188 [l0, l1, l2, l3] st M = run 124 189 [l0, l1, l2, l3] (aI 1 :: st) M := e_iconst 1 d124_188 (by decide +kernel)
theorem d124_189 : decode (cod 124) 189 = .ok (.iadd, 1) := by decide +kernel
theorem r124_189 (l0 l1 l2 l3 : AV) (a b : Int32) (st : List AV) (M : Mm) : run 124 189 [l0, l1, l2, l3] (aI b :: aI a :: st) M = run 124 190 [l0, l1, l2, l3] (aI (a + b) :: st) M := e_iadd d124_189
theorem d124_190 : decode (cod 124) 190 = .ok (.putfield 211, 3) := by decide +kernel
theorem r124_190 (l0 l1 l2 l3 : AV) (v : Int32) (xg xi : Nat) (st : List AV) (M : Mm) : run 124 190 [l0, l1, l2, l3] (aI v :: aR xg 12 xi :: st) M = run 124 193 [l0, l1, l2, l3] st (wr M xg 12 xi 39 v) := e_pfi d124_190 rfl rfl rfl rfl
theorem d124_193 : decode (cod 124) 193 = .ok (.return_, 1) := by decide +kernel
theorem r124_193 (l0 l1 l2 l3 : AV) (M : Mm) : run 124 193 [l0, l1, l2, l3] [] M = some (none, M) := e_vret d124_193 rfl
theorem c125 (g0 i0 : Nat) (M : Mm) : call 125 [aR g0 12 i0] M = run 125 0 [aR g0 12 i0, none, none] [] M := call_run 125 _ _
theorem d125_0 : decode (cod 125) 0 = .ok (.iconst 0, 1) := by decide +kernel
theorem r125_0 (l0 l1 l2 : AV) (st : List AV) (M : Mm) : run 125 0 [l0, l1, l2] st M = run 125 1 [l0, l1, l2] (aI 0 :: st) M := e_iconst 0 d125_0 (by decide +kernel)
theorem d125_1 : decode (cod 125) 1 = .ok (.istore_n 1, 1) := by decide +kernel
theorem r125_1 (l0 l1 l2 : AV) (x : Int32) (st : List AV) (M : Mm) : run 125 1 [l0, l1, l2] (aI x :: st) M = run 125 2 [l0, aI x, l2] st M := e_istn [l0, aI x, l2] d125_1 rfl rfl
theorem d125_2 : decode (cod 125) 2 = .ok (.iconst 0, 1) := by decide +kernel
theorem r125_2 (l0 l1 l2 : AV) (st : List AV) (M : Mm) : run 125 2 [l0, l1, l2] st M = run 125 3 [l0, l1, l2] (aI 0 :: st) M := e_iconst 0 d125_2 (by decide +kernel)
theorem d125_3 : decode (cod 125) 3 = .ok (.istore_n 2, 1) := by decide +kernel
theorem r125_3 (l0 l1 l2 : AV) (x : Int32) (st : List AV) (M : Mm) : run 125 3 [l0, l1, l2] (aI x :: st) M = run 125 4 [l0, l1, aI x] st M := e_istn [l0, l1, aI x] d125_3 rfl rfl
theorem d125_4 : decode (cod 125) 4 = .ok (.iload_n 2, 1) := by decide +kernel
theorem r125_4 (l0 l1 : AV) (x : Int32) (st : List AV) (M : Mm) : run 125 4 [l0, l1, aI x] st M = run 125 5 [l0, l1, aI x] (aI x :: st) M := e_ildn d125_4 rfl
theorem d125_5 : decode (cod 125) 5 = .ok (.iconst 4, 1) := by decide +kernel
theorem r125_5 (l0 l1 l2 : AV) (st : List AV) (M : Mm) : run 125 5 [l0, l1, l2] st M = run 125 6 [l0, l1, l2] (aI 4 :: st) M := e_iconst 4 d125_5 (by decide +kernel)
theorem d125_6 : decode (cod 125) 6 = .ok (.if_icmp .ge 18, 3) := by decide +kernel
theorem r125_6 (l0 l1 l2 : AV) (a b : Int32) (st : List AV) (M : Mm) : run 125 6 [l0, l1, l2] (aI b :: aI a :: st) M = if a < b then run 125 9 [l0, l1, l2] st M else run 125 24 [l0, l1, l2] st M := e_ge2 24 d125_6 (by decide)
theorem d125_9 : decode (cod 125) 9 = .ok (.iload_n 1, 1) := by decide +kernel
theorem r125_9 (l0 l2 : AV) (x : Int32) (st : List AV) (M : Mm) : run 125 9 [l0, aI x, l2] st M = run 125 10 [l0, aI x, l2] (aI x :: st) M := e_ildn d125_9 rfl
theorem d125_10 : decode (cod 125) 10 = .ok (.aload_n 0, 1) := by decide +kernel
theorem r125_10 (l1 l2 : AV) (xg xi : Nat) (st : List AV) (M : Mm) : run 125 10 [aR xg 12 xi, l1, l2] st M = run 125 11 [aR xg 12 xi, l1, l2] (aR xg 12 xi :: st) M := e_aldn d125_10 rfl
theorem d125_11 : decode (cod 125) 11 = .ok (.getfield 55, 3) := by decide +kernel
theorem r125_11 (l0 l1 l2 : AV) (xg xi : Nat) (st : List AV) (M : Mm) : run 125 11 [l0, l1, l2] (aR xg 12 xi :: st) M = run 125 14 [l0, l1, l2] (aR 4 28 0 :: st) M := e_gfr (fun g => (4, 28, 0)) d125_11 rfl rfl rfl
theorem d125_14 : decode (cod 125) 14 = .ok (.iload_n 2, 1) := by decide +kernel
theorem r125_14 (l0 l1 : AV) (x : Int32) (st : List AV) (M : Mm) : run 125 14 [l0, l1, aI x] st M = run 125 15 [l0, l1, aI x] (aI x :: st) M := e_ildn d125_14 rfl
theorem d125_15 : decode (cod 125) 15 = .ok (.iaload, 1) := by decide +kernel
theorem r125_15 (l0 l1 l2 : AV) (i : Int32) (xg xi : Nat) (st : List AV) (M : Mm) : run 125 15 [l0, l1, l2] (aI i :: aR xg 28 xi :: st) M = if vpB i 4 = true then run 125 16 [l0, l1, l2] (aI (M xg 28 xi i.toNatClampNeg) :: st) M else none := e_ial d125_15 rfl rfl
theorem d125_16 : decode (cod 125) 16 = .ok (.iadd, 1) := by decide +kernel
theorem r125_16 (l0 l1 l2 : AV) (a b : Int32) (st : List AV) (M : Mm) : run 125 16 [l0, l1, l2] (aI b :: aI a :: st) M = run 125 17 [l0, l1, l2] (aI (a + b) :: st) M := e_iadd d125_16
theorem d125_17 : decode (cod 125) 17 = .ok (.istore_n 1, 1) := by decide +kernel
theorem r125_17 (l0 l1 l2 : AV) (x : Int32) (st : List AV) (M : Mm) : run 125 17 [l0, l1, l2] (aI x :: st) M = run 125 18 [l0, aI x, l2] st M := e_istn [l0, aI x, l2] d125_17 rfl rfl
theorem d125_18 : decode (cod 125) 18 = .ok (.iinc 2 1, 3) := by decide +kernel
theorem r125_18 (l0 l1 : AV) (x : Int32) (st : List AV) (M : Mm) : run 125 18 [l0, l1, aI x] st M = run 125 21 [l0, l1, aI (x + 1)] st M := e_iinc 1 [l0, l1, aI (x + 1)] d125_18 (by decide +kernel) rfl rfl
theorem d125_21 : decode (cod 125) 21 = .ok (.goto (-17), 3) := by decide +kernel
theorem r125_21 (l0 l1 l2 : AV) (st : List AV) (M : Mm) : run 125 21 [l0, l1, l2] st M = run 125 4 [l0, l1, l2] st M := e_goto 4 d125_21 (by decide)
theorem d125_24 : decode (cod 125) 24 = .ok (.iload_n 1, 1) := by decide +kernel
theorem r125_24 (l0 l2 : AV) (x : Int32) (st : List AV) (M : Mm) : run 125 24 [l0, aI x, l2] st M = run 125 25 [l0, aI x, l2] (aI x :: st) M := e_ildn d125_24 rfl
theorem d125_25 : decode (cod 125) 25 = .ok (.ireturn, 1) := by decide +kernel
theorem r125_25 (l0 l1 l2 : AV) (v : Int32) (M : Mm) : run 125 25 [l0, l1, l2] [aI v] M = some (some v, M) := e_iret d125_25 rfl
theorem c126 (g0 i0 : Nat) (M : Mm) : call 126 [aR g0 12 i0] M = run 126 0 [aR g0 12 i0, none] [] M := call_run 126 _ _
theorem d126_0 : decode (cod 126) 0 = .ok (.iconst 0, 1) := by decide +kernel
theorem r126_0 (l0 l1 : AV) (st : List AV) (M : Mm) : run 126 0 [l0, l1] st M = run 126 1 [l0, l1] (aI 0 :: st) M := e_iconst 0 d126_0 (by decide +kernel)
theorem d126_1 : decode (cod 126) 1 = .ok (.istore_n 1, 1) := by decide +kernel
theorem r126_1 (l0 l1 : AV) (x : Int32) (st : List AV) (M : Mm) : run 126 1 [l0, l1] (aI x :: st) M = run 126 2 [l0, aI x] st M := e_istn [l0, aI x] d126_1 rfl rfl
theorem d126_2 : decode (cod 126) 2 = .ok (.iload_n 1, 1) := by decide +kernel
theorem r126_2 (l0 : AV) (x : Int32) (st : List AV) (M : Mm) : run 126 2 [l0, aI x] st M = run 126 3 [l0, aI x] (aI x :: st) M := e_ildn d126_2 rfl
theorem d126_3 : decode (cod 126) 3 = .ok (.iconst 4, 1) := by decide +kernel
theorem r126_3 (l0 l1 : AV) (st : List AV) (M : Mm) : run 126 3 [l0, l1] st M = run 126 4 [l0, l1] (aI 4 :: st) M := e_iconst 4 d126_3 (by decide +kernel)
theorem d126_4 : decode (cod 126) 4 = .ok (.if_icmp .ge 30, 3) := by decide +kernel
theorem r126_4 (l0 l1 : AV) (a b : Int32) (st : List AV) (M : Mm) : run 126 4 [l0, l1] (aI b :: aI a :: st) M = if a < b then run 126 7 [l0, l1] st M else run 126 34 [l0, l1] st M := e_ge2 34 d126_4 (by decide)
theorem d126_7 : decode (cod 126) 7 = .ok (.aload_n 0, 1) := by decide +kernel
theorem r126_7 (l1 : AV) (xg xi : Nat) (st : List AV) (M : Mm) : run 126 7 [aR xg 12 xi, l1] st M = run 126 8 [aR xg 12 xi, l1] (aR xg 12 xi :: st) M := e_aldn d126_7 rfl
theorem d126_8 : decode (cod 126) 8 = .ok (.getfield 55, 3) := by decide +kernel
theorem r126_8 (l0 l1 : AV) (xg xi : Nat) (st : List AV) (M : Mm) : run 126 8 [l0, l1] (aR xg 12 xi :: st) M = run 126 11 [l0, l1] (aR 4 28 0 :: st) M := e_gfr (fun g => (4, 28, 0)) d126_8 rfl rfl rfl
theorem d126_11 : decode (cod 126) 11 = .ok (.iload_n 1, 1) := by decide +kernel
theorem r126_11 (l0 : AV) (x : Int32) (st : List AV) (M : Mm) : run 126 11 [l0, aI x] st M = run 126 12 [l0, aI x] (aI x :: st) M := e_ildn d126_11 rfl
theorem d126_12 : decode (cod 126) 12 = .ok (.iconst 0, 1) := by decide +kernel
theorem r126_12 (l0 l1 : AV) (st : List AV) (M : Mm) : run 126 12 [l0, l1] st M = run 126 13 [l0, l1] (aI 0 :: st) M := e_iconst 0 d126_12 (by decide +kernel)
theorem d126_13 : decode (cod 126) 13 = .ok (.iastore, 1) := by decide +kernel
theorem r126_13 (l0 l1 : AV) (v i : Int32) (xg xi : Nat) (st : List AV) (M : Mm) : run 126 13 [l0, l1] (aI v :: aI i :: aR xg 28 xi :: st) M = if vpB i 4 = true then run 126 14 [l0, l1] st (wr M xg 28 xi i.toNatClampNeg v) else none := e_ias d126_13 rfl rfl
theorem d126_14 : decode (cod 126) 14 = .ok (.aload_n 0, 1) := by decide +kernel
theorem r126_14 (l1 : AV) (xg xi : Nat) (st : List AV) (M : Mm) : run 126 14 [aR xg 12 xi, l1] st M = run 126 15 [aR xg 12 xi, l1] (aR xg 12 xi :: st) M := e_aldn d126_14 rfl
theorem d126_15 : decode (cod 126) 15 = .ok (.getfield 58, 3) := by decide +kernel
theorem r126_15 (l0 l1 : AV) (xg xi : Nat) (st : List AV) (M : Mm) : run 126 15 [l0, l1] (aR xg 12 xi :: st) M = run 126 18 [l0, l1] (aR 4 29 0 :: st) M := e_gfr (fun g => (4, 29, 0)) d126_15 rfl rfl rfl
theorem d126_18 : decode (cod 126) 18 = .ok (.iload_n 1, 1) := by decide +kernel
theorem r126_18 (l0 : AV) (x : Int32) (st : List AV) (M : Mm) : run 126 18 [l0, aI x] st M = run 126 19 [l0, aI x] (aI x :: st) M := e_ildn d126_18 rfl
theorem d126_19 : decode (cod 126) 19 = .ok (.iconst 0, 1) := by decide +kernel
theorem r126_19 (l0 l1 : AV) (st : List AV) (M : Mm) : run 126 19 [l0, l1] st M = run 126 20 [l0, l1] (aI 0 :: st) M := e_iconst 0 d126_19 (by decide +kernel)
theorem d126_20 : decode (cod 126) 20 = .ok (.iastore, 1) := by decide +kernel
theorem r126_20 (l0 l1 : AV) (v i : Int32) (xg xi : Nat) (st : List AV) (M : Mm) : run 126 20 [l0, l1] (aI v :: aI i :: aR xg 29 xi :: st) M = if vpB i 4 = true then run 126 21 [l0, l1] st (wr M xg 29 xi i.toNatClampNeg v) else none := e_ias d126_20 rfl rfl
theorem d126_21 : decode (cod 126) 21 = .ok (.aload_n 0, 1) := by decide +kernel
theorem r126_21 (l1 : AV) (xg xi : Nat) (st : List AV) (M : Mm) : run 126 21 [aR xg 12 xi, l1] st M = run 126 22 [aR xg 12 xi, l1] (aR xg 12 xi :: st) M := e_aldn d126_21 rfl
theorem d126_22 : decode (cod 126) 22 = .ok (.getfield 61, 3) := by decide +kernel
theorem r126_22 (l0 l1 : AV) (xg xi : Nat) (st : List AV) (M : Mm) : run 126 22 [l0, l1] (aR xg 12 xi :: st) M = run 126 25 [l0, l1] (aR 4 30 0 :: st) M := e_gfr (fun g => (4, 30, 0)) d126_22 rfl rfl rfl
theorem d126_25 : decode (cod 126) 25 = .ok (.iload_n 1, 1) := by decide +kernel
theorem r126_25 (l0 : AV) (x : Int32) (st : List AV) (M : Mm) : run 126 25 [l0, aI x] st M = run 126 26 [l0, aI x] (aI x :: st) M := e_ildn d126_25 rfl
theorem d126_26 : decode (cod 126) 26 = .ok (.iconst 0, 1) := by decide +kernel
theorem r126_26 (l0 l1 : AV) (st : List AV) (M : Mm) : run 126 26 [l0, l1] st M = run 126 27 [l0, l1] (aI 0 :: st) M := e_iconst 0 d126_26 (by decide +kernel)
theorem d126_27 : decode (cod 126) 27 = .ok (.iastore, 1) := by decide +kernel
theorem r126_27 (l0 l1 : AV) (v i : Int32) (xg xi : Nat) (st : List AV) (M : Mm) : run 126 27 [l0, l1] (aI v :: aI i :: aR xg 30 xi :: st) M = if vpB i 4 = true then run 126 28 [l0, l1] st (wr M xg 30 xi i.toNatClampNeg v) else none := e_ias d126_27 rfl rfl
theorem d126_28 : decode (cod 126) 28 = .ok (.iinc 1 1, 3) := by decide +kernel
theorem r126_28 (l0 : AV) (x : Int32) (st : List AV) (M : Mm) : run 126 28 [l0, aI x] st M = run 126 31 [l0, aI (x + 1)] st M := e_iinc 1 [l0, aI (x + 1)] d126_28 (by decide +kernel) rfl rfl
theorem d126_31 : decode (cod 126) 31 = .ok (.goto (-29), 3) := by decide +kernel
theorem r126_31 (l0 l1 : AV) (st : List AV) (M : Mm) : run 126 31 [l0, l1] st M = run 126 2 [l0, l1] st M := e_goto 2 d126_31 (by decide)
theorem d126_34 : decode (cod 126) 34 = .ok (.aload_n 0, 1) := by decide +kernel
theorem r126_34 (l1 : AV) (xg xi : Nat) (st : List AV) (M : Mm) : run 126 34 [aR xg 12 xi, l1] st M = run 126 35 [aR xg 12 xi, l1] (aR xg 12 xi :: st) M := e_aldn d126_34 rfl
theorem d126_35 : decode (cod 126) 35 = .ok (.iconst 0, 1) := by decide +kernel
theorem r126_35 (l0 l1 : AV) (st : List AV) (M : Mm) : run 126 35 [l0, l1] st M = run 126 36 [l0, l1] (aI 0 :: st) M := e_iconst 0 d126_35 (by decide +kernel)
theorem d126_36 : decode (cod 126) 36 = .ok (.putfield 242, 3) := by decide +kernel
theorem r126_36 (l0 l1 : AV) (v : Int32) (xg xi : Nat) (st : List AV) (M : Mm) : run 126 36 [l0, l1] (aI v :: aR xg 12 xi :: st) M = run 126 39 [l0, l1] st (wr M xg 12 xi 29 v) := e_pfi d126_36 rfl rfl rfl rfl
theorem d126_39 : decode (cod 126) 39 = .ok (.aload_n 0, 1) := by decide +kernel
theorem r126_39 (l1 : AV) (xg xi : Nat) (st : List AV) (M : Mm) : run 126 39 [aR xg 12 xi, l1] st M = run 126 40 [aR xg 12 xi, l1] (aR xg 12 xi :: st) M := e_aldn d126_39 rfl
theorem d126_40 : decode (cod 126) 40 = .ok (.iconst 0, 1) := by decide +kernel
theorem r126_40 (l0 l1 : AV) (st : List AV) (M : Mm) : run 126 40 [l0, l1] st M = run 126 41 [l0, l1] (aI 0 :: st) M := e_iconst 0 d126_40 (by decide +kernel)
theorem d126_41 : decode (cod 126) 41 = .ok (.putfield 224, 3) := by decide +kernel
theorem r126_41 (l0 l1 : AV) (v : Int32) (xg xi : Nat) (st : List AV) (M : Mm) : run 126 41 [l0, l1] (aI v :: aR xg 12 xi :: st) M = run 126 44 [l0, l1] st (wr M xg 12 xi 30 v) := e_pfi d126_41 rfl rfl rfl rfl
theorem d126_44 : decode (cod 126) 44 = .ok (.aload_n 0, 1) := by decide +kernel
theorem r126_44 (l1 : AV) (xg xi : Nat) (st : List AV) (M : Mm) : run 126 44 [aR xg 12 xi, l1] st M = run 126 45 [aR xg 12 xi, l1] (aR xg 12 xi :: st) M := e_aldn d126_44 rfl
theorem d126_45 : decode (cod 126) 45 = .ok (.iconst 0, 1) := by decide +kernel
theorem r126_45 (l0 l1 : AV) (st : List AV) (M : Mm) : run 126 45 [l0, l1] st M = run 126 46 [l0, l1] (aI 0 :: st) M := e_iconst 0 d126_45 (by decide +kernel)
theorem d126_46 : decode (cod 126) 46 = .ok (.putfield 218, 3) := by decide +kernel
theorem r126_46 (l0 l1 : AV) (v : Int32) (xg xi : Nat) (st : List AV) (M : Mm) : run 126 46 [l0, l1] (aI v :: aR xg 12 xi :: st) M = run 126 49 [l0, l1] st (wr M xg 12 xi 31 v) := e_pfi d126_46 rfl rfl rfl rfl
theorem d126_49 : decode (cod 126) 49 = .ok (.aload_n 0, 1) := by decide +kernel
theorem r126_49 (l1 : AV) (xg xi : Nat) (st : List AV) (M : Mm) : run 126 49 [aR xg 12 xi, l1] st M = run 126 50 [aR xg 12 xi, l1] (aR xg 12 xi :: st) M := e_aldn d126_49 rfl
theorem d126_50 : decode (cod 126) 50 = .ok (.iconst 0, 1) := by decide +kernel
theorem r126_50 (l0 l1 : AV) (st : List AV) (M : Mm) : run 126 50 [l0, l1] st M = run 126 51 [l0, l1] (aI 0 :: st) M := e_iconst 0 d126_50 (by decide +kernel)
theorem d126_51 : decode (cod 126) 51 = .ok (.putfield 227, 3) := by decide +kernel
theorem r126_51 (l0 l1 : AV) (v : Int32) (xg xi : Nat) (st : List AV) (M : Mm) : run 126 51 [l0, l1] (aI v :: aR xg 12 xi :: st) M = run 126 54 [l0, l1] st (wr M xg 12 xi 32 v) := e_pfi d126_51 rfl rfl rfl rfl
theorem d126_54 : decode (cod 126) 54 = .ok (.aload_n 0, 1) := by decide +kernel
theorem r126_54 (l1 : AV) (xg xi : Nat) (st : List AV) (M : Mm) : run 126 54 [aR xg 12 xi, l1] st M = run 126 55 [aR xg 12 xi, l1] (aR xg 12 xi :: st) M := e_aldn d126_54 rfl
theorem d126_55 : decode (cod 126) 55 = .ok (.iconst 0, 1) := by decide +kernel
theorem r126_55 (l0 l1 : AV) (st : List AV) (M : Mm) : run 126 55 [l0, l1] st M = run 126 56 [l0, l1] (aI 0 :: st) M := e_iconst 0 d126_55 (by decide +kernel)
theorem d126_56 : decode (cod 126) 56 = .ok (.putfield 205, 3) := by decide +kernel
theorem r126_56 (l0 l1 : AV) (v : Int32) (xg xi : Nat) (st : List AV) (M : Mm) : run 126 56 [l0, l1] (aI v :: aR xg 12 xi :: st) M = run 126 59 [l0, l1] st (wr M xg 12 xi 33 v) := e_pfi d126_56 rfl rfl rfl rfl
theorem d126_59 : decode (cod 126) 59 = .ok (.aload_n 0, 1) := by decide +kernel
theorem r126_59 (l1 : AV) (xg xi : Nat) (st : List AV) (M : Mm) : run 126 59 [aR xg 12 xi, l1] st M = run 126 60 [aR xg 12 xi, l1] (aR xg 12 xi :: st) M := e_aldn d126_59 rfl
theorem d126_60 : decode (cod 126) 60 = .ok (.iconst 0, 1) := by decide +kernel
theorem r126_60 (l0 l1 : AV) (st : List AV) (M : Mm) : run 126 60 [l0, l1] st M = run 126 61 [l0, l1] (aI 0 :: st) M := e_iconst 0 d126_60 (by decide +kernel)
theorem d126_61 : decode (cod 126) 61 = .ok (.putfield 260, 3) := by decide +kernel
theorem r126_61 (l0 l1 : AV) (v : Int32) (xg xi : Nat) (st : List AV) (M : Mm) : run 126 61 [l0, l1] (aI v :: aR xg 12 xi :: st) M = run 126 64 [l0, l1] st (wr M xg 12 xi 34 v) := e_pfi d126_61 rfl rfl rfl rfl
theorem d126_64 : decode (cod 126) 64 = .ok (.aload_n 0, 1) := by decide +kernel
theorem r126_64 (l1 : AV) (xg xi : Nat) (st : List AV) (M : Mm) : run 126 64 [aR xg 12 xi, l1] st M = run 126 65 [aR xg 12 xi, l1] (aR xg 12 xi :: st) M := e_aldn d126_64 rfl
theorem d126_65 : decode (cod 126) 65 = .ok (.bipush (-9), 2) := by decide +kernel
theorem r126_65 (l0 l1 : AV) (st : List AV) (M : Mm) : run 126 65 [l0, l1] st M = run 126 67 [l0, l1] (aI (-9) :: st) M := e_bipush (-9) d126_65 (by decide +kernel)
theorem d126_67 : decode (cod 126) 67 = .ok (.putfield 254, 3) := by decide +kernel
theorem r126_67 (l0 l1 : AV) (v : Int32) (xg xi : Nat) (st : List AV) (M : Mm) : run 126 67 [l0, l1] (aI v :: aR xg 12 xi :: st) M = run 126 70 [l0, l1] st (wr M xg 12 xi 35 v) := e_pfi d126_67 rfl rfl rfl rfl
theorem d126_70 : decode (cod 126) 70 = .ok (.aload_n 0, 1) := by decide +kernel
theorem r126_70 (l1 : AV) (xg xi : Nat) (st : List AV) (M : Mm) : run 126 70 [aR xg 12 xi, l1] st M = run 126 71 [aR xg 12 xi, l1] (aR xg 12 xi :: st) M := e_aldn d126_70 rfl
theorem d126_71 : decode (cod 126) 71 = .ok (.bipush (-9), 2) := by decide +kernel
theorem r126_71 (l0 l1 : AV) (st : List AV) (M : Mm) : run 126 71 [l0, l1] st M = run 126 73 [l0, l1] (aI (-9) :: st) M := e_bipush (-9) d126_71 (by decide +kernel)
theorem d126_73 : decode (cod 126) 73 = .ok (.putfield 257, 3) := by decide +kernel
theorem r126_73 (l0 l1 : AV) (v : Int32) (xg xi : Nat) (st : List AV) (M : Mm) : run 126 73 [l0, l1] (aI v :: aR xg 12 xi :: st) M = run 126 76 [l0, l1] st (wr M xg 12 xi 36 v) := e_pfi d126_73 rfl rfl rfl rfl
theorem d126_76 : decode (cod 126) 76 = .ok (.aload_n 0, 1) := by decide +kernel
theorem r126_76 (l1 : AV) (xg xi : Nat) (st : List AV) (M : Mm) : run 126 76 [aR xg 12 xi, l1] st M = run 126 77 [aR xg 12 xi, l1] (aR xg 12 xi :: st) M := e_aldn d126_76 rfl
theorem d126_77 : decode (cod 126) 77 = .ok (.iconst 0, 1) := by decide +kernel
theorem r126_77 (l0 l1 : AV) (st : List AV) (M : Mm) : run 126 77 [l0, l1] st M = run 126 78 [l0, l1] (aI 0 :: st) M := e_iconst 0 d126_77 (by decide +kernel)
theorem d126_78 : decode (cod 126) 78 = .ok (.putfield 211, 3) := by decide +kernel
theorem r126_78 (l0 l1 : AV) (v : Int32) (xg xi : Nat) (st : List AV) (M : Mm) : run 126 78 [l0, l1] (aI v :: aR xg 12 xi :: st) M = run 126 81 [l0, l1] st (wr M xg 12 xi 39 v) := e_pfi d126_78 rfl rfl rfl rfl
theorem d126_81 : decode (cod 126) 81 = .ok (.return_, 1) := by decide +kernel
theorem r126_81 (l0 l1 : AV) (M : Mm) : run 126 81 [l0, l1] [] M = some (none, M) := e_vret d126_81 rfl
theorem c127 (g0 i0 : Nat) (x1 : Int32) (M : Mm) : call 127 [aR g0 12 i0, aI x1] M = run 127 0 [aR g0 12 i0, aI x1, none] [] M := call_run 127 _ _
theorem d127_0 : decode (cod 127) 0 = .ok (.aload_n 0, 1) := by decide +kernel
theorem r127_0 (l1 l2 : AV) (xg xi : Nat) (st : List AV) (M : Mm) : run 127 0 [aR xg 12 xi, l1, l2] st M = run 127 1 [aR xg 12 xi, l1, l2] (aR xg 12 xi :: st) M := e_aldn d127_0 rfl
theorem d127_1 : decode (cod 127) 1 = .ok (.invokevirtual 266, 3) := by decide +kernel
theorem r127_1 (l0 l1 l2 : AV) (a0g a0i : Nat) (M : Mm) : run 127 1 [l0, l1, l2] [aR a0g 12 a0i] M = cbV (call 126 [aR a0g 12 a0i] M) (fun M => run 127 4 [l0, l1, l2] [] M) := call_V (n := 1) rfl false d127_1 rfl rfl rfl rfl rfl rfl rfl
theorem d127_4 : decode (cod 127) 4 = .ok (.iconst 0, 1) := by decide +kernel
theorem r127_4 (l0 l1 l2 : AV) (st : List AV) (M : Mm) : run 127 4 [l0, l1, l2] st M = run 127 5 [l0, l1, l2] (aI 0 :: st) M := e_iconst 0 d127_4 (by decide +kernel)
theorem d127_5 : decode (cod 127) 5 = .ok (.istore_n 2, 1) := by decide +kernel
theorem r127_5 (l0 l1 l2 : AV) (x : Int32) (st : List AV) (M : Mm) : run 127 5 [l0, l1, l2] (aI x :: st) M = run 127 6 [l0, l1, aI x] st M := e_istn [l0, l1, aI x] d127_5 rfl rfl
theorem d127_6 : decode (cod 127) 6 = .ok (.iload_n 2, 1) := by decide +kernel
theorem r127_6 (l0 l1 : AV) (x : Int32) (st : List AV) (M : Mm) : run 127 6 [l0, l1, aI x] st M = run 127 7 [l0, l1, aI x] (aI x :: st) M := e_ildn d127_6 rfl
theorem d127_7 : decode (cod 127) 7 = .ok (.iload_n 1, 1) := by decide +kernel
theorem r127_7 (l0 l2 : AV) (x : Int32) (st : List AV) (M : Mm) : run 127 7 [l0, aI x, l2] st M = run 127 8 [l0, aI x, l2] (aI x :: st) M := e_ildn d127_7 rfl
theorem d127_8 : decode (cod 127) 8 = .ok (.if_icmp .ge 13, 3) := by decide +kernel
theorem r127_8 (l0 l1 l2 : AV) (a b : Int32) (st : List AV) (M : Mm) : run 127 8 [l0, l1, l2] (aI b :: aI a :: st) M = if a < b then run 127 11 [l0, l1, l2] st M else run 127 21 [l0, l1, l2] st M := e_ge2 21 d127_8 (by decide)
theorem d127_11 : decode (cod 127) 11 = .ok (.aload_n 0, 1) := by decide +kernel
theorem r127_11 (l1 l2 : AV) (xg xi : Nat) (st : List AV) (M : Mm) : run 127 11 [aR xg 12 xi, l1, l2] st M = run 127 12 [aR xg 12 xi, l1, l2] (aR xg 12 xi :: st) M := e_aldn d127_11 rfl
theorem d127_12 : decode (cod 127) 12 = .ok (.invokevirtual 269, 3) := by decide +kernel
theorem r127_12 (l0 l1 l2 : AV) (a0g a0i : Nat) (M : Mm) : run 127 12 [l0, l1, l2] [aR a0g 12 a0i] M = cbV (call 124 [aR a0g 12 a0i] M) (fun M => run 127 15 [l0, l1, l2] [] M) := call_V (n := 1) rfl false d127_12 rfl rfl rfl rfl rfl rfl rfl
theorem d127_15 : decode (cod 127) 15 = .ok (.iinc 2 1, 3) := by decide +kernel
theorem r127_15 (l0 l1 : AV) (x : Int32) (st : List AV) (M : Mm) : run 127 15 [l0, l1, aI x] st M = run 127 18 [l0, l1, aI (x + 1)] st M := e_iinc 1 [l0, l1, aI (x + 1)] d127_15 (by decide +kernel) rfl rfl
theorem d127_18 : decode (cod 127) 18 = .ok (.goto (-12), 3) := by decide +kernel
theorem r127_18 (l0 l1 l2 : AV) (st : List AV) (M : Mm) : run 127 18 [l0, l1, l2] st M = run 127 6 [l0, l1, l2] st M := e_goto 6 d127_18 (by decide)
theorem d127_21 : decode (cod 127) 21 = .ok (.return_, 1) := by decide +kernel
theorem r127_21 (l0 l1 l2 : AV) (M : Mm) : run 127 21 [l0, l1, l2] [] M = some (none, M) := e_vret d127_21 rfl
theorem c128 (g0 i0 : Nat) (x1 : Int32) (M : Mm) : call 128 [aR g0 12 i0, aI x1] M = run 128 0 [aR g0 12 i0, aI x1] [] M := call_run 128 _ _
theorem d128_0 : decode (cod 128) 0 = .ok (.aload_n 0, 1) := by decide +kernel
theorem r128_0 (l1 : AV) (xg xi : Nat) (st : List AV) (M : Mm) : run 128 0 [aR xg 12 xi, l1] st M = run 128 1 [aR xg 12 xi, l1] (aR xg 12 xi :: st) M := e_aldn d128_0 rfl
theorem d128_1 : decode (cod 128) 1 = .ok (.iload_n 1, 1) := by decide +kernel
theorem r128_1 (l0 : AV) (x : Int32) (st : List AV) (M : Mm) : run 128 1 [l0, aI x] st M = run 128 2 [l0, aI x] (aI x :: st) M := e_ildn d128_1 rfl
theorem d128_2 : decode (cod 128) 2 = .ok (.invokevirtual 272, 3) := by decide +kernel
theorem r128_2 (l0 l1 : AV) (a0g a0i : Nat) (a1 : Int32) (M : Mm) : run 128 2 [l0, l1] [aI a1, aR a0g 12 a0i] M = cbV (call 127 [aR a0g 12 a0i, aI a1] M) (fun M => run 128 5 [l0, l1] [] M) := call_V (n := 2) rfl false d128_2 rfl rfl rfl rfl rfl rfl rfl
theorem d128_5 : decode (cod 128) 5 = .ok (.aload_n 0, 1) := by decide +kernel
theorem r128_5 (l1 : AV) (xg xi : Nat) (st : List AV) (M : Mm) : run 128 5 [aR xg 12 xi, l1] st M = run 128 6 [aR xg 12 xi, l1] (aR xg 12 xi :: st) M := e_aldn d128_5 rfl
theorem d128_6 : decode (cod 128) 6 = .ok (.dup, 1) := by decide +kernel
theorem r128_6 (l0 l1 : AV) (xg xi : Nat) (st : List AV) (M : Mm) : run 128 6 [l0, l1] (aR xg 12 xi :: st) M = run 128 7 [l0, l1] (aR xg 12 xi :: aR xg 12 xi :: st) M := e_dup d128_6
theorem d128_7 : decode (cod 128) 7 = .ok (.getfield 171, 3) := by decide +kernel
theorem r128_7 (l0 l1 : AV) (xg xi : Nat) (st : List AV) (M : Mm) : run 128 7 [l0, l1] (aR xg 12 xi :: st) M = run 128 10 [l0, l1] (aI (M xg 12 xi 13) :: st) M := e_gfi d128_7 rfl rfl rfl
theorem d128_10 : decode (cod 128) 10 = .ok (.aload_n 0, 1) := by decide +kernel
theorem r128_10 (l1 : AV) (xg xi : Nat) (st : List AV) (M : Mm) : run 128 10 [aR xg 12 xi, l1] st M = run 128 11 [aR xg 12 xi, l1] (aR xg 12 xi :: st) M := e_aldn d128_10 rfl
theorem d128_11 : decode (cod 128) 11 = .ok (.getfield 242, 3) := by decide +kernel
theorem r128_11 (l0 l1 : AV) (xg xi : Nat) (st : List AV) (M : Mm) : run 128 11 [l0, l1] (aR xg 12 xi :: st) M = run 128 14 [l0, l1] (aI (M xg 12 xi 29) :: st) M := e_gfi d128_11 rfl rfl rfl
theorem d128_14 : decode (cod 128) 14 = .ok (.iadd, 1) := by decide +kernel
theorem r128_14 (l0 l1 : AV) (a b : Int32) (st : List AV) (M : Mm) : run 128 14 [l0, l1] (aI b :: aI a :: st) M = run 128 15 [l0, l1] (aI (a + b) :: st) M := e_iadd d128_14
theorem d128_15 : decode (cod 128) 15 = .ok (.putfield 171, 3) := by decide +kernel
theorem r128_15 (l0 l1 : AV) (v : Int32) (xg xi : Nat) (st : List AV) (M : Mm) : run 128 15 [l0, l1] (aI v :: aR xg 12 xi :: st) M = run 128 18 [l0, l1] st (wr M xg 12 xi 13 v) := e_pfi d128_15 rfl rfl rfl rfl
theorem d128_18 : decode (cod 128) 18 = .ok (.return_, 1) := by decide +kernel
theorem r128_18 (l0 l1 : AV) (M : Mm) : run 128 18 [l0, l1] [] M = some (none, M) := e_vret d128_18 rfl
theorem c129 (g0 i0 : Nat) (M : Mm) : call 129 [aR g0 12 i0] M = run 129 0 [aR g0 12 i0, none, none] [] M := call_run 129 _ _
theorem d129_0 : decode (cod 129) 0 = .ok (.aload_n 0, 1) := by decide +kernel
theorem r129_0 (l1 l2 : AV) (xg xi : Nat) (st : List AV) (M : Mm) : run 129 0 [aR xg 12 xi, l1, l2] st M = run 129 1 [aR xg 12 xi, l1, l2] (aR xg 12 xi :: st) M := e_aldn d129_0 rfl
theorem d129_1 : decode (cod 129) 1 = .ok (.getfield 13, 3) := by decide +kernel
theorem r129_1 (l0 l1 l2 : AV) (xg xi : Nat) (st : List AV) (M : Mm) : run 129 1 [l0, l1, l2] (aR xg 12 xi :: st) M = run 129 4 [l0, l1, l2] (aR 4 14 0 :: st) M := e_gfr (fun g => (4, 14, 0)) d129_1 rfl rfl rfl
theorem d129_4 : decode (cod 129) 4 = .ok (.iconst 5, 1) := by decide +kernel
theorem r129_4 (l0 l1 l2 : AV) (st : List AV) (M : Mm) : run 129 4 [l0, l1, l2] st M = run 129 5 [l0, l1, l2] (aI 5 :: st) M := e_iconst 5 d129_4 (by decide +kernel)
theorem d129_5 : decode (cod 129) 5 = .ok (.iaload, 1) := by decide +kernel
theorem r129_5 (l0 l1 l2 : AV) (i : Int32) (xg xi : Nat) (st : List AV) (M : Mm) : run 129 5 [l0, l1, l2] (aI i :: aR xg 14 xi :: st) M = if vpB i 7 = true then run 129 6 [l0, l1, l2] (aI (M xg 14 xi i.toNatClampNeg) :: st) M else none := e_ial d129_5 rfl rfl
theorem d129_6 : decode (cod 129) 6 = .ok (.istore_n 1, 1) := by decide +kernel
theorem r129_6 (l0 l1 l2 : AV) (x : Int32) (st : List AV) (M : Mm) : run 129 6 [l0, l1, l2] (aI x :: st) M = run 129 7 [l0, aI x, l2] st M := e_istn [l0, aI x, l2] d129_6 rfl rfl
theorem d129_7 : decode (cod 129) 7 = .ok (.iconst 0, 1) := by decide +kernel
theorem r129_7 (l0 l1 l2 : AV) (st : List AV) (M : Mm) : run 129 7 [l0, l1, l2] st M = run 129 8 [l0, l1, l2] (aI 0 :: st) M := e_iconst 0 d129_7 (by decide +kernel)
theorem d129_8 : decode (cod 129) 8 = .ok (.istore_n 2, 1) := by decide +kernel
theorem r129_8 (l0 l1 l2 : AV) (x : Int32) (st : List AV) (M : Mm) : run 129 8 [l0, l1, l2] (aI x :: st) M = run 129 9 [l0, l1, aI x] st M := e_istn [l0, l1, aI x] d129_8 rfl rfl
theorem d129_9 : decode (cod 129) 9 = .ok (.iload_n 2, 1) := by decide +kernel
theorem r129_9 (l0 l1 : AV) (x : Int32) (st : List AV) (M : Mm) : run 129 9 [l0, l1, aI x] st M = run 129 10 [l0, l1, aI x] (aI x :: st) M := e_ildn d129_9 rfl
theorem d129_10 : decode (cod 129) 10 = .ok (.aload_n 0, 1) := by decide +kernel
theorem r129_10 (l1 l2 : AV) (xg xi : Nat) (st : List AV) (M : Mm) : run 129 10 [aR xg 12 xi, l1, l2] st M = run 129 11 [aR xg 12 xi, l1, l2] (aR xg 12 xi :: st) M := e_aldn d129_10 rfl
theorem d129_11 : decode (cod 129) 11 = .ok (.getfield 79, 3) := by decide +kernel
theorem r129_11 (l0 l1 l2 : AV) (xg xi : Nat) (st : List AV) (M : Mm) : run 129 11 [l0, l1, l2] (aR xg 12 xi :: st) M = run 129 14 [l0, l1, l2] (aI (M xg 12 xi 10) :: st) M := e_gfi d129_11 rfl rfl rfl
theorem d129_14 : decode (cod 129) 14 = .ok (.if_icmp .ge 18, 3) := by decide +kernel
theorem r129_14 (l0 l1 l2 : AV) (a b : Int32) (st : List AV) (M : Mm) : run 129 14 [l0, l1, l2] (aI b :: aI a :: st) M = if a < b then run 129 17 [l0, l1, l2] st M else run 129 32 [l0, l1, l2] st M := e_ge2 32 d129_14 (by decide)
theorem d129_17 : decode (cod 129) 17 = .ok (.iload_n 1, 1) := by decide +kernel
theorem r129_17 (l0 l2 : AV) (x : Int32) (st : List AV) (M : Mm) : run 129 17 [l0, aI x, l2] st M = run 129 18 [l0, aI x, l2] (aI x :: st) M := e_ildn d129_17 rfl
theorem d129_18 : decode (cod 129) 18 = .ok (.aload_n 0, 1) := by decide +kernel
theorem r129_18 (l1 l2 : AV) (xg xi : Nat) (st : List AV) (M : Mm) : run 129 18 [aR xg 12 xi, l1, l2] st M = run 129 19 [aR xg 12 xi, l1, l2] (aR xg 12 xi :: st) M := e_aldn d129_18 rfl
theorem d129_19 : decode (cod 129) 19 = .ok (.getfield 22, 3) := by decide +kernel
theorem r129_19 (l0 l1 l2 : AV) (xg xi : Nat) (st : List AV) (M : Mm) : run 129 19 [l0, l1, l2] (aR xg 12 xi :: st) M = run 129 22 [l0, l1, l2] (aR 4 17 0 :: st) M := e_gfr (fun g => (4, 17, 0)) d129_19 rfl rfl rfl
theorem d129_22 : decode (cod 129) 22 = .ok (.iload_n 2, 1) := by decide +kernel
theorem r129_22 (l0 l1 : AV) (x : Int32) (st : List AV) (M : Mm) : run 129 22 [l0, l1, aI x] st M = run 129 23 [l0, l1, aI x] (aI x :: st) M := e_ildn d129_22 rfl
theorem d129_23 : decode (cod 129) 23 = .ok (.iaload, 1) := by decide +kernel
theorem r129_23 (l0 l1 l2 : AV) (i : Int32) (xg xi : Nat) (st : List AV) (M : Mm) : run 129 23 [l0, l1, l2] (aI i :: aR xg 17 xi :: st) M = if vpB i 4 = true then run 129 24 [l0, l1, l2] (aI (M xg 17 xi i.toNatClampNeg) :: st) M else none := e_ial d129_23 rfl rfl
theorem d129_24 : decode (cod 129) 24 = .ok (.iadd, 1) := by decide +kernel
theorem r129_24 (l0 l1 l2 : AV) (a b : Int32) (st : List AV) (M : Mm) : run 129 24 [l0, l1, l2] (aI b :: aI a :: st) M = run 129 25 [l0, l1, l2] (aI (a + b) :: st) M := e_iadd d129_24
theorem d129_25 : decode (cod 129) 25 = .ok (.istore_n 1, 1) := by decide +kernel
theorem r129_25 (l0 l1 l2 : AV) (x : Int32) (st : List AV) (M : Mm) : run 129 25 [l0, l1, l2] (aI x :: st) M = run 129 26 [l0, aI x, l2] st M := e_istn [l0, aI x, l2] d129_25 rfl rfl
theorem d129_26 : decode (cod 129) 26 = .ok (.iinc 2 1, 3) := by decide +kernel
theorem r129_26 (l0 l1 : AV) (x : Int32) (st : List AV) (M : Mm) : run 129 26 [l0, l1, aI x] st M = run 129 29 [l0, l1, aI (x + 1)] st M := e_iinc 1 [l0, l1, aI (x + 1)] d129_26 (by decide +kernel) rfl rfl
theorem d129_29 : decode (cod 129) 29 = .ok (.goto (-20), 3) := by decide +kernel
theorem r129_29 (l0 l1 l2 : AV) (st : List AV) (M : Mm) : run 129 29 [l0, l1, l2] st M = run 129 9 [l0, l1, l2] st M := e_goto 9 d129_29 (by decide)
theorem d129_32 : decode (cod 129) 32 = .ok (.iload_n 1, 1) := by decide +kernel
theorem r129_32 (l0 l2 : AV) (x : Int32) (st : List AV) (M : Mm) : run 129 32 [l0, aI x, l2] st M = run 129 33 [l0, aI x, l2] (aI x :: st) M := e_ildn d129_32 rfl
theorem d129_33 : decode (cod 129) 33 = .ok (.ireturn, 1) := by decide +kernel
theorem r129_33 (l0 l1 l2 : AV) (v : Int32) (M : Mm) : run 129 33 [l0, l1, l2] [aI v] M = some (some v, M) := e_iret d129_33 rfl
theorem c130 (g0 i0 : Nat) (x1 : Int32) (M : Mm) : call 130 [aR g0 12 i0, aI x1] M = run 130 0 [aR g0 12 i0, aI x1] [] M := call_run 130 _ _
theorem d130_0 : decode (cod 130) 0 = .ok (.aload_n 0, 1) := by decide +kernel
theorem r130_0 (l1 : AV) (xg xi : Nat) (st : List AV) (M : Mm) : run 130 0 [aR xg 12 xi, l1] st M = run 130 1 [aR xg 12 xi, l1] (aR xg 12 xi :: st) M := e_aldn d130_0 rfl
theorem d130_1 : decode (cod 130) 1 = .ok (.iconst 1, 1) := by decide +kernel
theorem r130_1 (l0 l1 : AV) (st : List AV) (M : Mm) : run 130 1 [l0, l1] st M = run 130 2 [l0, l1] (aI 1 :: st) M := e_iconst 1 d130_1 (by decide +kernel)
theorem d130_2 : decode (cod 130) 2 = .ok (.iconst 1, 1) := by decide +kernel
theorem r130_2 (l0 l1 : AV) (st : List AV) (M : Mm) : run 130 2 [l0, l1] st M = run 130 3 [l0, l1] (aI 1 :: st) M := e_iconst 1 d130_2 (by decide +kernel)
theorem d130_3 : decode (cod 130) 3 = .ok (.invokevirtual 150, 3) := by decide +kernel
theorem r130_3 (l0 l1 : AV) (a0g a0i : Nat) (a1 : Int32) (a2 : Int32) (M : Mm) : run 130 3 [l0, l1] [aI a2, aI a1, aR a0g 12 a0i] M = cbV (call 103 [aR a0g 12 a0i, aI a1, aI a2] M) (fun M => run 130 6 [l0, l1] [] M) := call_V (n := 3) rfl false d130_3 rfl rfl rfl rfl rfl rfl rfl
theorem d130_6 : decode (cod 130) 6 = .ok (.aload_n 0, 1) := by decide +kernel
theorem r130_6 (l1 : AV) (xg xi : Nat) (st : List AV) (M : Mm) : run 130 6 [aR xg 12 xi, l1] st M = run 130 7 [aR xg 12 xi, l1] (aR xg 12 xi :: st) M := e_aldn d130_6 rfl
theorem d130_7 : decode (cod 130) 7 = .ok (.iload_n 1, 1) := by decide +kernel
theorem r130_7 (l0 : AV) (x : Int32) (st : List AV) (M : Mm) : run 130 7 [l0, aI x] st M = run 130 8 [l0, aI x] (aI x :: st) M := e_ildn d130_7 rfl
theorem d130_8 : decode (cod 130) 8 = .ok (.invokevirtual 272, 3) := by decide +kernel
theorem r130_8 (l0 l1 : AV) (a0g a0i : Nat) (a1 : Int32) (M : Mm) : run 130 8 [l0, l1] [aI a1, aR a0g 12 a0i] M = cbV (call 127 [aR a0g 12 a0i, aI a1] M) (fun M => run 130 11 [l0, l1] [] M) := call_V (n := 2) rfl false d130_8 rfl rfl rfl rfl rfl rfl rfl
theorem d130_11 : decode (cod 130) 11 = .ok (.aload_n 0, 1) := by decide +kernel
theorem r130_11 (l1 : AV) (xg xi : Nat) (st : List AV) (M : Mm) : run 130 11 [aR xg 12 xi, l1] st M = run 130 12 [aR xg 12 xi, l1] (aR xg 12 xi :: st) M := e_aldn d130_11 rfl
theorem d130_12 : decode (cod 130) 12 = .ok (.aload_n 0, 1) := by decide +kernel
theorem r130_12 (l1 : AV) (xg xi : Nat) (st : List AV) (M : Mm) : run 130 12 [aR xg 12 xi, l1] st M = run 130 13 [aR xg 12 xi, l1] (aR xg 12 xi :: st) M := e_aldn d130_12 rfl
theorem d130_13 : decode (cod 130) 13 = .ok (.invokevirtual 275, 3) := by decide +kernel
theorem r130_13 (l0 l1 : AV) (a0g a0i : Nat) (t0 : AV) (M : Mm) : run 130 13 [l0, l1] [aR a0g 12 a0i, t0] M = cbI (call 129 [aR a0g 12 a0i] M) (fun v M => run 130 16 [l0, l1] [aI v, t0] M) := call_I (n := 1) rfl false d130_13 rfl rfl rfl rfl rfl rfl rfl
theorem d130_16 : decode (cod 130) 16 = .ok (.putfield 278, 3) := by decide +kernel
theorem r130_16 (l0 l1 : AV) (v : Int32) (xg xi : Nat) (st : List AV) (M : Mm) : run 130 16 [l0, l1] (aI v :: aR xg 12 xi :: st) M = run 130 19 [l0, l1] st (wr M xg 12 xi 40 v) := e_pfi d130_16 rfl rfl rfl rfl
theorem d130_19 : decode (cod 130) 19 = .ok (.aload_n 0, 1) := by decide +kernel
theorem r130_19 (l1 : AV) (xg xi : Nat) (st : List AV) (M : Mm) : run 130 19 [aR xg 12 xi, l1] st M = run 130 20 [aR xg 12 xi, l1] (aR xg 12 xi :: st) M := e_aldn d130_19 rfl
theorem d130_20 : decode (cod 130) 20 = .ok (.iconst 1, 1) := by decide +kernel
theorem r130_20 (l0 l1 : AV) (st : List AV) (M : Mm) : run 130 20 [l0, l1] st M = run 130 21 [l0, l1] (aI 1 :: st) M := e_iconst 1 d130_20 (by decide +kernel)
theorem d130_21 : decode (cod 130) 21 = .ok (.iconst 0, 1) := by decide +kernel
theorem r130_21 (l0 l1 : AV) (st : List AV) (M : Mm) : run 130 21 [l0, l1] st M = run 130 22 [l0, l1] (aI 0 :: st) M := e_iconst 0 d130_21 (by decide +kernel)
theorem d130_22 : decode (cod 130) 22 = .ok (.invokevirtual 150, 3) := by decide +kernel
theorem r130_22 (l0 l1 : AV) (a0g a0i : Nat) (a1 : Int32) (a2 : Int32) (M : Mm) : run 130 22 [l0, l1] [aI a2, aI a1, aR a0g 12 a0i] M = cbV (call 103 [aR a0g 12 a0i, aI a1, aI a2] M) (fun M => run 130 25 [l0, l1] [] M) := call_V (n := 3) rfl false d130_22 rfl rfl rfl rfl rfl rfl rfl
theorem d130_25 : decode (cod 130) 25 = .ok (.return_, 1) := by decide +kernel
theorem r130_25 (l0 l1 : AV) (M : Mm) : run 130 25 [l0, l1] [] M = some (none, M) := e_vret d130_25 rfl
theorem c131 (g0 i0 : Nat) (x1 : Int32) (x2 : Int32) (M : Mm) : call 131 [aR g0 12 i0, aI x1, aI x2] M = run 131 0 [aR g0 12 i0, aI x1, aI x2] [] M := call_run 131 _ _
theorem d131_0 : decode (cod 131) 0 = .ok (.aload_n 0, 1) := by decide +kernel
theorem r131_0 (l1 l2 : AV) (xg xi : Nat) (st : List AV) (M : Mm) : run 131 0 [aR xg 12 xi, l1, l2] st M = run 131 1 [aR xg 12 xi, l1, l2] (aR xg 12 xi :: st) M := e_aldn d131_0 rfl
theorem d131_1 : decode (cod 131) 1 = .ok (.iload_n 1, 1) := by decide +kernel
theorem r131_1 (l0 l2 : AV) (x : Int32) (st : List AV) (M : Mm) : run 131 1 [l0, aI x, l2] st M = run 131 2 [l0, aI x, l2] (aI x :: st) M := e_ildn d131_1 rfl
theorem d131_2 : decode (cod 131) 2 = .ok (.invokevirtual 281, 3) := by decide +kernel
theorem r131_2 (l0 l1 l2 : AV) (a0g a0i : Nat) (a1 : Int32) (M : Mm) : run 131 2 [l0, l1, l2] [aI a1, aR a0g 12 a0i] M = cbI (call 85 [aR a0g 12 a0i, aI a1] M) (fun v M => run 131 5 [l0, l1, l2] [aI v] M) := call_I (n := 2) rfl false d131_2 rfl rfl rfl rfl rfl rfl rfl
theorem d131_5 : decode (cod 131) 5 = .ok (.ifCond .ne 9, 3) := by decide +kernel
theorem r131_5 (l0 l1 l2 : AV) (a : Int32) (st : List AV) (M : Mm) : run 131 5 [l0, l1, l2] (aI a :: st) M = if a = 0 then run 131 8 [l0, l1, l2] st M else run 131 14 [l0, l1, l2] st M := e_ne1 14 d131_5 (by decide)
theorem d131_8 : decode (cod 131) 8 = .ok (.aload_n 0, 1) := by decide +kernel
theorem r131_8 (l1 l2 : AV) (xg xi : Nat) (st : List AV) (M : Mm) : run 131 8 [aR xg 12 xi, l1, l2] st M = run 131 9 [aR xg 12 xi, l1, l2] (aR xg 12 xi :: st) M := e_aldn d131_8 rfl
theorem d131_9 : decode (cod 131) 9 = .ok (.iconst (-1), 1) := by decide +kernel
theorem r131_9 (l0 l1 l2 : AV) (st : List AV) (M : Mm) : run 131 9 [l0, l1, l2] st M = run 131 10 [l0, l1, l2] (aI (-1) :: st) M := e_iconst (-1) d131_9 (by decide +kernel)
theorem d131_10 : decode (cod 131) 10 = .ok (.invokevirtual 89, 3) := by decide +kernel
theorem r131_10 (l0 l1 l2 : AV) (a0g a0i : Nat) (a1 : Int32) (M : Mm) : run 131 10 [l0, l1, l2] [aI a1, aR a0g 12 a0i] M = cbI (call 81 [aR a0g 12 a0i, aI a1] M) (fun v M => run 131 13 [l0, l1, l2] [aI v] M) := call_I (n := 2) rfl false d131_10 rfl rfl rfl rfl rfl rfl rfl
theorem d131_13 : decode (cod 131) 13 = .ok (.ireturn, 1) := by decide +kernel
theorem r131_13 (l0 l1 l2 : AV) (v : Int32) (M : Mm) : run 131 13 [l0, l1, l2] [aI v] M = some (some v, M) := e_iret d131_13 rfl
theorem d131_14 : decode (cod 131) 14 = .ok (.iload_n 2, 1) := by decide +kernel
theorem r131_14 (l0 l1 : AV) (x : Int32) (st : List AV) (M : Mm) : run 131 14 [l0, l1, aI x] st M = run 131 15 [l0, l1, aI x] (aI x :: st) M := e_ildn d131_14 rfl
theorem d131_15 : decode (cod 131) 15 = .ok (.tableswitch 81 0 5 #[37, 44, 51, 58, 65, 71], 37) := by decide +kernel
theorem r131_15 (l0 l1 l2 : AV) (x : Int32) (st : List AV) (M : Mm) : run 131 15 [l0, l1, l2] (aI x :: st) M = if x = 0 then run 131 52 [l0, l1, l2] st M else if x = 1 then run 131 59 [l0, l1, l2] st M else if x = 2 then run 131 66 [l0, l1, l2] st M else if x = 3 then run 131 73 [l0, l1, l2] st M else if x = 4 then run 131 80 [l0, l1, l2] st M else if x = 5 then run 131 86 [l0, l1, l2] st M else run 131 96 [l0, l1, l2] st M := by
  rw [run_step d131_15 rfl]
  simp only [stpI, tsw]
  by_cases c0 : x = 0
  · subst c0
    rw [if_pos rfl]
    rfl
  rw [if_neg c0]
  by_cases c1 : x = 1
  · subst c1
    rw [if_pos rfl]
    rfl
  rw [if_neg c1]
  by_cases c2 : x = 2
  · subst c2
    rw [if_pos rfl]
    rfl
  rw [if_neg c2]
  by_cases c3 : x = 3
  · subst c3
    rw [if_pos rfl]
    rfl
  rw [if_neg c3]
  by_cases c4 : x = 4
  · subst c4
    rw [if_pos rfl]
    rfl
  rw [if_neg c4]
  by_cases c5 : x = 5
  · subst c5
    rw [if_pos rfl]
    rfl
  rw [if_neg c5]
  have hx : x.toInt < 0 ∨ 5 < x.toInt := by
    have h : ∀ k : Int, ¬ x = Int32.ofInt k → -2147483648 ≤ k → k < 2147483648 → ¬ x.toInt = k := fun k hk hl hh e => hk (Int32.toInt_inj.mp (by rw [e, Int32.toInt_ofInt_of_le hl hh]))
    have fc0 := h 0 c0 (by decide) (by decide)
    have fc1 := h 1 c1 (by decide) (by decide)
    have fc2 := h 2 c2 (by decide) (by decide)
    have fc3 := h 3 c3 (by decide) (by decide)
    have fc4 := h 4 c4 (by decide) (by decide)
    have fc5 := h 5 c5 (by decide) (by decide)
    omega
  rw [if_pos hx, jmp_run 96 (by decide)]
  rfl
theorem d131_52 : decode (cod 131) 52 = .ok (.aload_n 0, 1) := by decide +kernel
theorem r131_52 (l1 l2 : AV) (xg xi : Nat) (st : List AV) (M : Mm) : run 131 52 [aR xg 12 xi, l1, l2] st M = run 131 53 [aR xg 12 xi, l1, l2] (aR xg 12 xi :: st) M := e_aldn d131_52 rfl
theorem d131_53 : decode (cod 131) 53 = .ok (.getfield 16, 3) := by decide +kernel
theorem r131_53 (l0 l1 l2 : AV) (xg xi : Nat) (st : List AV) (M : Mm) : run 131 53 [l0, l1, l2] (aR xg 12 xi :: st) M = run 131 56 [l0, l1, l2] (aR 4 15 0 :: st) M := e_gfr (fun g => (4, 15, 0)) d131_53 rfl rfl rfl
theorem d131_56 : decode (cod 131) 56 = .ok (.iload_n 1, 1) := by decide +kernel
theorem r131_56 (l0 l2 : AV) (x : Int32) (st : List AV) (M : Mm) : run 131 56 [l0, aI x, l2] st M = run 131 57 [l0, aI x, l2] (aI x :: st) M := e_ildn d131_56 rfl
theorem d131_57 : decode (cod 131) 57 = .ok (.iaload, 1) := by decide +kernel
theorem r131_57 (l0 l1 l2 : AV) (i : Int32) (xg xi : Nat) (st : List AV) (M : Mm) : run 131 57 [l0, l1, l2] (aI i :: aR xg 15 xi :: st) M = if vpB i 4 = true then run 131 58 [l0, l1, l2] (aI (M xg 15 xi i.toNatClampNeg) :: st) M else none := e_ial d131_57 rfl rfl
theorem d131_58 : decode (cod 131) 58 = .ok (.ireturn, 1) := by decide +kernel
theorem r131_58 (l0 l1 l2 : AV) (v : Int32) (M : Mm) : run 131 58 [l0, l1, l2] [aI v] M = some (some v, M) := e_iret d131_58 rfl
theorem d131_59 : decode (cod 131) 59 = .ok (.aload_n 0, 1) := by decide +kernel
theorem r131_59 (l1 l2 : AV) (xg xi : Nat) (st : List AV) (M : Mm) : run 131 59 [aR xg 12 xi, l1, l2] st M = run 131 60 [aR xg 12 xi, l1, l2] (aR xg 12 xi :: st) M := e_aldn d131_59 rfl
theorem d131_60 : decode (cod 131) 60 = .ok (.getfield 19, 3) := by decide +kernel
theorem r131_60 (l0 l1 l2 : AV) (xg xi : Nat) (st : List AV) (M : Mm) : run 131 60 [l0, l1, l2] (aR xg 12 xi :: st) M = run 131 63 [l0, l1, l2] (aR 4 16 0 :: st) M := e_gfr (fun g => (4, 16, 0)) d131_60 rfl rfl rfl
theorem d131_63 : decode (cod 131) 63 = .ok (.iload_n 1, 1) := by decide +kernel
theorem r131_63 (l0 l2 : AV) (x : Int32) (st : List AV) (M : Mm) : run 131 63 [l0, aI x, l2] st M = run 131 64 [l0, aI x, l2] (aI x :: st) M := e_ildn d131_63 rfl
theorem d131_64 : decode (cod 131) 64 = .ok (.iaload, 1) := by decide +kernel
theorem r131_64 (l0 l1 l2 : AV) (i : Int32) (xg xi : Nat) (st : List AV) (M : Mm) : run 131 64 [l0, l1, l2] (aI i :: aR xg 16 xi :: st) M = if vpB i 4 = true then run 131 65 [l0, l1, l2] (aI (M xg 16 xi i.toNatClampNeg) :: st) M else none := e_ial d131_64 rfl rfl
theorem d131_65 : decode (cod 131) 65 = .ok (.ireturn, 1) := by decide +kernel
theorem r131_65 (l0 l1 l2 : AV) (v : Int32) (M : Mm) : run 131 65 [l0, l1, l2] [aI v] M = some (some v, M) := e_iret d131_65 rfl
theorem d131_66 : decode (cod 131) 66 = .ok (.aload_n 0, 1) := by decide +kernel
theorem r131_66 (l1 l2 : AV) (xg xi : Nat) (st : List AV) (M : Mm) : run 131 66 [aR xg 12 xi, l1, l2] st M = run 131 67 [aR xg 12 xi, l1, l2] (aR xg 12 xi :: st) M := e_aldn d131_66 rfl
theorem d131_67 : decode (cod 131) 67 = .ok (.getfield 22, 3) := by decide +kernel
theorem r131_67 (l0 l1 l2 : AV) (xg xi : Nat) (st : List AV) (M : Mm) : run 131 67 [l0, l1, l2] (aR xg 12 xi :: st) M = run 131 70 [l0, l1, l2] (aR 4 17 0 :: st) M := e_gfr (fun g => (4, 17, 0)) d131_67 rfl rfl rfl
theorem d131_70 : decode (cod 131) 70 = .ok (.iload_n 1, 1) := by decide +kernel
theorem r131_70 (l0 l2 : AV) (x : Int32) (st : List AV) (M : Mm) : run 131 70 [l0, aI x, l2] st M = run 131 71 [l0, aI x, l2] (aI x :: st) M := e_ildn d131_70 rfl
theorem d131_71 : decode (cod 131) 71 = .ok (.iaload, 1) := by decide +kernel
theorem r131_71 (l0 l1 l2 : AV) (i : Int32) (xg xi : Nat) (st : List AV) (M : Mm) : run 131 71 [l0, l1, l2] (aI i :: aR xg 17 xi :: st) M = if vpB i 4 = true then run 131 72 [l0, l1, l2] (aI (M xg 17 xi i.toNatClampNeg) :: st) M else none := e_ial d131_71 rfl rfl
theorem d131_72 : decode (cod 131) 72 = .ok (.ireturn, 1) := by decide +kernel
theorem r131_72 (l0 l1 l2 : AV) (v : Int32) (M : Mm) : run 131 72 [l0, l1, l2] [aI v] M = some (some v, M) := e_iret d131_72 rfl
theorem d131_73 : decode (cod 131) 73 = .ok (.aload_n 0, 1) := by decide +kernel
theorem r131_73 (l1 l2 : AV) (xg xi : Nat) (st : List AV) (M : Mm) : run 131 73 [aR xg 12 xi, l1, l2] st M = run 131 74 [aR xg 12 xi, l1, l2] (aR xg 12 xi :: st) M := e_aldn d131_73 rfl
theorem d131_74 : decode (cod 131) 74 = .ok (.getfield 25, 3) := by decide +kernel
theorem r131_74 (l0 l1 l2 : AV) (xg xi : Nat) (st : List AV) (M : Mm) : run 131 74 [l0, l1, l2] (aR xg 12 xi :: st) M = run 131 77 [l0, l1, l2] (aR 4 18 0 :: st) M := e_gfr (fun g => (4, 18, 0)) d131_74 rfl rfl rfl
theorem d131_77 : decode (cod 131) 77 = .ok (.iload_n 1, 1) := by decide +kernel
theorem r131_77 (l0 l2 : AV) (x : Int32) (st : List AV) (M : Mm) : run 131 77 [l0, aI x, l2] st M = run 131 78 [l0, aI x, l2] (aI x :: st) M := e_ildn d131_77 rfl
theorem d131_78 : decode (cod 131) 78 = .ok (.iaload, 1) := by decide +kernel
theorem r131_78 (l0 l1 l2 : AV) (i : Int32) (xg xi : Nat) (st : List AV) (M : Mm) : run 131 78 [l0, l1, l2] (aI i :: aR xg 18 xi :: st) M = if vpB i 4 = true then run 131 79 [l0, l1, l2] (aI (M xg 18 xi i.toNatClampNeg) :: st) M else none := e_ial d131_78 rfl rfl
theorem d131_79 : decode (cod 131) 79 = .ok (.ireturn, 1) := by decide +kernel
theorem r131_79 (l0 l1 l2 : AV) (v : Int32) (M : Mm) : run 131 79 [l0, l1, l2] [aI v] M = some (some v, M) := e_iret d131_79 rfl
theorem d131_80 : decode (cod 131) 80 = .ok (.aload_n 0, 1) := by decide +kernel
theorem r131_80 (l1 l2 : AV) (xg xi : Nat) (st : List AV) (M : Mm) : run 131 80 [aR xg 12 xi, l1, l2] st M = run 131 81 [aR xg 12 xi, l1, l2] (aR xg 12 xi :: st) M := e_aldn d131_80 rfl
theorem d131_81 : decode (cod 131) 81 = .ok (.iload_n 1, 1) := by decide +kernel
theorem r131_81 (l0 l2 : AV) (x : Int32) (st : List AV) (M : Mm) : run 131 81 [l0, aI x, l2] st M = run 131 82 [l0, aI x, l2] (aI x :: st) M := e_ildn d131_81 rfl
theorem d131_82 : decode (cod 131) 82 = .ok (.invokevirtual 180, 3) := by decide +kernel
theorem r131_82 (l0 l1 l2 : AV) (a0g a0i : Nat) (a1 : Int32) (M : Mm) : run 131 82 [l0, l1, l2] [aI a1, aR a0g 12 a0i] M = cbI (call 108 [aR a0g 12 a0i, aI a1] M) (fun v M => run 131 85 [l0, l1, l2] [aI v] M) := call_I (n := 2) rfl false d131_82 rfl rfl rfl rfl rfl rfl rfl
theorem d131_85 : decode (cod 131) 85 = .ok (.ireturn, 1) := by decide +kernel
theorem r131_85 (l0 l1 l2 : AV) (v : Int32) (M : Mm) : run 131 85 [l0, l1, l2] [aI v] M = some (some v, M) := e_iret d131_85 rfl
theorem d131_86 : decode (cod 131) 86 = .ok (.aload_n 0, 1) := by decide +kernel
theorem r131_86 (l1 l2 : AV) (xg xi : Nat) (st : List AV) (M : Mm) : run 131 86 [aR xg 12 xi, l1, l2] st M = run 131 87 [aR xg 12 xi, l1, l2] (aR xg 12 xi :: st) M := e_aldn d131_86 rfl
theorem d131_87 : decode (cod 131) 87 = .ok (.getfield 16, 3) := by decide +kernel
theorem r131_87 (l0 l1 l2 : AV) (xg xi : Nat) (st : List AV) (M : Mm) : run 131 87 [l0, l1, l2] (aR xg 12 xi :: st) M = run 131 90 [l0, l1, l2] (aR 4 15 0 :: st) M := e_gfr (fun g => (4, 15, 0)) d131_87 rfl rfl rfl
theorem d131_90 : decode (cod 131) 90 = .ok (.iload_n 1, 1) := by decide +kernel
theorem r131_90 (l0 l2 : AV) (x : Int32) (st : List AV) (M : Mm) : run 131 90 [l0, aI x, l2] st M = run 131 91 [l0, aI x, l2] (aI x :: st) M := e_ildn d131_90 rfl
theorem d131_91 : decode (cod 131) 91 = .ok (.iaload, 1) := by decide +kernel
theorem r131_91 (l0 l1 l2 : AV) (i : Int32) (xg xi : Nat) (st : List AV) (M : Mm) : run 131 91 [l0, l1, l2] (aI i :: aR xg 15 xi :: st) M = if vpB i 4 = true then run 131 92 [l0, l1, l2] (aI (M xg 15 xi i.toNatClampNeg) :: st) M else none := e_ial d131_91 rfl rfl
theorem d131_92 : decode (cod 131) 92 = .ok (.invokestatic 183, 3) := by decide +kernel
theorem r131_92 (l0 l1 l2 : AV) (a0 : Int32) (M : Mm) : run 131 92 [l0, l1, l2] [aI a0] M = cbI (call 107 [aI a0] M) (fun v M => run 131 95 [l0, l1, l2] [aI v] M) := call_I (n := 1) rfl true d131_92 rfl rfl rfl rfl rfl rfl rfl
theorem d131_95 : decode (cod 131) 95 = .ok (.ireturn, 1) := by decide +kernel
theorem r131_95 (l0 l1 l2 : AV) (v : Int32) (M : Mm) : run 131 95 [l0, l1, l2] [aI v] M = some (some v, M) := e_iret d131_95 rfl
theorem d131_96 : decode (cod 131) 96 = .ok (.aload_n 0, 1) := by decide +kernel
theorem r131_96 (l1 l2 : AV) (xg xi : Nat) (st : List AV) (M : Mm) : run 131 96 [aR xg 12 xi, l1, l2] st M = run 131 97 [aR xg 12 xi, l1, l2] (aR xg 12 xi :: st) M := e_aldn d131_96 rfl
theorem d131_97 : decode (cod 131) 97 = .ok (.bipush (-2), 2) := by decide +kernel
theorem r131_97 (l0 l1 l2 : AV) (st : List AV) (M : Mm) : run 131 97 [l0, l1, l2] st M = run 131 99 [l0, l1, l2] (aI (-2) :: st) M := e_bipush (-2) d131_97 (by decide +kernel)
theorem d131_99 : decode (cod 131) 99 = .ok (.invokevirtual 89, 3) := by decide +kernel
theorem r131_99 (l0 l1 l2 : AV) (a0g a0i : Nat) (a1 : Int32) (M : Mm) : run 131 99 [l0, l1, l2] [aI a1, aR a0g 12 a0i] M = cbI (call 81 [aR a0g 12 a0i, aI a1] M) (fun v M => run 131 102 [l0, l1, l2] [aI v] M) := call_I (n := 2) rfl false d131_99 rfl rfl rfl rfl rfl rfl rfl
theorem d131_102 : decode (cod 131) 102 = .ok (.ireturn, 1) := by decide +kernel
theorem r131_102 (l0 l1 l2 : AV) (v : Int32) (M : Mm) : run 131 102 [l0, l1, l2] [aI v] M = some (some v, M) := e_iret d131_102 rfl
theorem c132 (g0 i0 : Nat) (x1 : Int32) (x2 : Int32) (x3 : Int32) (M : Mm) : call 132 [aR g0 12 i0, aI x1, aI x2, aI x3] M = run 132 0 [aR g0 12 i0, aI x1, aI x2, aI x3, none, none] [] M := call_run 132 _ _
theorem d132_0 : decode (cod 132) 0 = .ok (.aload_n 0, 1) := by decide +kernel
theorem r132_0 (l1 l2 l3 l4 l5 : AV) (xg xi : Nat) (st : List AV) (M : Mm) : run 132 0 [aR xg 12 xi, l1, l2, l3, l4, l5] st M = run 132 1 [aR xg 12 xi, l1, l2, l3, l4, l5] (aR xg 12 xi :: st) M := e_aldn d132_0 rfl
theorem d132_1 : decode (cod 132) 1 = .ok (.iload_n 1, 1) := by decide +kernel
theorem r132_1 (l0 l2 l3 l4 l5 : AV) (x : Int32) (st : List AV) (M : Mm) : run 132 1 [l0, aI x, l2, l3, l4, l5] st M = run 132 2 [l0, aI x, l2, l3, l4, l5] (aI x :: st) M := e_ildn d132_1 rfl
theorem d132_2 : decode (cod 132) 2 = .ok (.invokevirtual 281, 3) := by decide +kernel
theorem r132_2 (l0 l1 l2 l3 l4 l5 : AV) (a0g a0i : Nat) (a1 : Int32) (M : Mm) : run 132 2 [l0, l1, l2, l3, l4, l5] [aI a1, aR a0g 12 a0i] M = cbI (call 85 [aR a0g 12 a0i, aI a1] M) (fun v M => run 132 5 [l0, l1, l2, l3, l4, l5] [aI v] M) := call_I (n := 2) rfl false d132_2 rfl rfl rfl rfl rfl rfl rfl
theorem d132_5 : decode (cod 132) 5 = .ok (.ifCond .ne 7, 3) := by decide +kernel
theorem r132_5 (l0 l1 l2 l3 l4 l5 : AV) (a : Int32) (st : List AV) (M : Mm) : run 132 5 [l0, l1, l2, l3, l4, l5] (aI a :: st) M = if a = 0 then run 132 8 [l0, l1, l2, l3, l4, l5] st M else run 132 12 [l0, l1, l2, l3, l4, l5] st M := e_ne1 12 d132_5 (by decide)
theorem d132_8 : decode (cod 132) 8 = .ok (.iconst (-1), 1) := by decide +kernel
theorem r132_8 (l0 l1 l2 l3 l4 l5 : AV) (st : List AV) (M : Mm) : run 132 8 [l0, l1, l2, l3, l4, l5] st M = run 132 9 [l0, l1, l2, l3, l4, l5] (aI (-1) :: st) M := e_iconst (-1) d132_8 (by decide +kernel)
theorem d132_9 : decode (cod 132) 9 = .ok (.goto 34, 3) := by decide +kernel
theorem r132_9 (l0 l1 l2 l3 l4 l5 : AV) (st : List AV) (M : Mm) : run 132 9 [l0, l1, l2, l3, l4, l5] st M = run 132 43 [l0, l1, l2, l3, l4, l5] st M := e_goto 43 d132_9 (by decide)
theorem d132_12 : decode (cod 132) 12 = .ok (.iload_n 2, 1) := by decide +kernel
theorem r132_12 (l0 l1 l3 l4 l5 : AV) (x : Int32) (st : List AV) (M : Mm) : run 132 12 [l0, l1, aI x, l3, l4, l5] st M = run 132 13 [l0, l1, aI x, l3, l4, l5] (aI x :: st) M := e_ildn d132_12 rfl
theorem d132_13 : decode (cod 132) 13 = .ok (.iconst 0, 1) := by decide +kernel
theorem r132_13 (l0 l1 l2 l3 l4 l5 : AV) (st : List AV) (M : Mm) : run 132 13 [l0, l1, l2, l3, l4, l5] st M = run 132 14 [l0, l1, l2, l3, l4, l5] (aI 0 :: st) M := e_iconst 0 d132_13 (by decide +kernel)
theorem d132_14 : decode (cod 132) 14 = .ok (.iconst 1, 1) := by decide +kernel
theorem r132_14 (l0 l1 l2 l3 l4 l5 : AV) (st : List AV) (M : Mm) : run 132 14 [l0, l1, l2, l3, l4, l5] st M = run 132 15 [l0, l1, l2, l3, l4, l5] (aI 1 :: st) M := e_iconst 1 d132_14 (by decide +kernel)
theorem d132_15 : decode (cod 132) 15 = .ok (.invokestatic 100, 3) := by decide +kernel
theorem r132_15 (l0 l1 l2 l3 l4 l5 : AV) (a0 : Int32) (a1 : Int32) (a2 : Int32) (M : Mm) : run 132 15 [l0, l1, l2, l3, l4, l5] [aI a2, aI a1, aI a0] M = cbI (call 83 [aI a0, aI a1, aI a2] M) (fun v M => run 132 18 [l0, l1, l2, l3, l4, l5] [aI v] M) := call_I (n := 3) rfl true d132_15 rfl rfl rfl rfl rfl rfl rfl
theorem d132_18 : decode (cod 132) 18 = .ok (.ifCond .ne 8, 3) := by decide +kernel
theorem r132_18 (l0 l1 l2 l3 l4 l5 : AV) (a : Int32) (st : List AV) (M : Mm) : run 132 18 [l0, l1, l2, l3, l4, l5] (aI a :: st) M = if a = 0 then run 132 21 [l0, l1, l2, l3, l4, l5] st M else run 132 26 [l0, l1, l2, l3, l4, l5] st M := e_ne1 26 d132_18 (by decide)
theorem d132_21 : decode (cod 132) 21 = .ok (.bipush (-2), 2) := by decide +kernel
theorem r132_21 (l0 l1 l2 l3 l4 l5 : AV) (st : List AV) (M : Mm) : run 132 21 [l0, l1, l2, l3, l4, l5] st M = run 132 23 [l0, l1, l2, l3, l4, l5] (aI (-2) :: st) M := e_bipush (-2) d132_21 (by decide +kernel)
theorem d132_23 : decode (cod 132) 23 = .ok (.goto 20, 3) := by decide +kernel
theorem r132_23 (l0 l1 l2 l3 l4 l5 : AV) (st : List AV) (M : Mm) : run 132 23 [l0, l1, l2, l3, l4, l5] st M = run 132 43 [l0, l1, l2, l3, l4, l5] st M := e_goto 43 d132_23 (by decide)
theorem d132_26 : decode (cod 132) 26 = .ok (.iload_n 3, 1) := by decide +kernel
theorem r132_26 (l0 l1 l2 l4 l5 : AV) (x : Int32) (st : List AV) (M : Mm) : run 132 26 [l0, l1, l2, aI x, l4, l5] st M = run 132 27 [l0, l1, l2, aI x, l4, l5] (aI x :: st) M := e_ildn d132_26 rfl
theorem d132_27 : decode (cod 132) 27 = .ok (.iconst 0, 1) := by decide +kernel
theorem r132_27 (l0 l1 l2 l3 l4 l5 : AV) (st : List AV) (M : Mm) : run 132 27 [l0, l1, l2, l3, l4, l5] st M = run 132 28 [l0, l1, l2, l3, l4, l5] (aI 0 :: st) M := e_iconst 0 d132_27 (by decide +kernel)
theorem d132_28 : decode (cod 132) 28 = .ok (.iload_n 2, 1) := by decide +kernel
theorem r132_28 (l0 l1 l3 l4 l5 : AV) (x : Int32) (st : List AV) (M : Mm) : run 132 28 [l0, l1, aI x, l3, l4, l5] st M = run 132 29 [l0, l1, aI x, l3, l4, l5] (aI x :: st) M := e_ildn d132_28 rfl
theorem d132_29 : decode (cod 132) 29 = .ok (.ifCond .ne 8, 3) := by decide +kernel
theorem r132_29 (l0 l1 l2 l3 l4 l5 : AV) (a : Int32) (st : List AV) (M : Mm) : run 132 29 [l0, l1, l2, l3, l4, l5] (aI a :: st) M = if a = 0 then run 132 32 [l0, l1, l2, l3, l4, l5] st M else run 132 37 [l0, l1, l2, l3, l4, l5] st M := e_ne1 37 d132_29 (by decide)
theorem d132_32 : decode (cod 132) 32 = .ok (.bipush 60, 2) := by decide +kernel
theorem r132_32 (l0 l1 l2 l3 l4 l5 : AV) (st : List AV) (M : Mm) : run 132 32 [l0, l1, l2, l3, l4, l5] st M = run 132 34 [l0, l1, l2, l3, l4, l5] (aI 60 :: st) M := e_bipush 60 d132_32 (by decide +kernel)
theorem d132_34 : decode (cod 132) 34 = .ok (.goto 6, 3) := by decide +kernel
theorem r132_34 (l0 l1 l2 l3 l4 l5 : AV) (st : List AV) (M : Mm) : run 132 34 [l0, l1, l2, l3, l4, l5] st M = run 132 40 [l0, l1, l2, l3, l4, l5] st M := e_goto 40 d132_34 (by decide)
theorem d132_37 : decode (cod 132) 37 = .ok (.sipush 240, 3) := by decide +kernel
theorem r132_37 (l0 l1 l2 l3 l4 l5 : AV) (st : List AV) (M : Mm) : run 132 37 [l0, l1, l2, l3, l4, l5] st M = run 132 40 [l0, l1, l2, l3, l4, l5] (aI 240 :: st) M := e_sipush 240 d132_37 (by decide +kernel)
theorem d132_40 : decode (cod 132) 40 = .ok (.invokestatic 82, 3) := by decide +kernel
theorem r132_40 (l0 l1 l2 l3 l4 l5 : AV) (a0 : Int32) (a1 : Int32) (a2 : Int32) (M : Mm) : run 132 40 [l0, l1, l2, l3, l4, l5] [aI a2, aI a1, aI a0] M = cbI (call 84 [aI a0, aI a1, aI a2] M) (fun v M => run 132 43 [l0, l1, l2, l3, l4, l5] [aI v] M) := call_I (n := 3) rfl true d132_40 rfl rfl rfl rfl rfl rfl rfl
theorem d132_43 : decode (cod 132) 43 = .ok (.istore 4, 2) := by decide +kernel
theorem r132_43 (l0 l1 l2 l3 l4 l5 : AV) (x : Int32) (st : List AV) (M : Mm) : run 132 43 [l0, l1, l2, l3, l4, l5] (aI x :: st) M = run 132 45 [l0, l1, l2, l3, aI x, l5] st M := e_ist [l0, l1, l2, l3, aI x, l5] d132_43 rfl rfl
theorem d132_45 : decode (cod 132) 45 = .ok (.iload 4, 2) := by decide +kernel
theorem r132_45 (l0 l1 l2 l3 l5 : AV) (x : Int32) (st : List AV) (M : Mm) : run 132 45 [l0, l1, l2, l3, aI x, l5] st M = run 132 47 [l0, l1, l2, l3, aI x, l5] (aI x :: st) M := e_ild d132_45 rfl
theorem d132_47 : decode (cod 132) 47 = .ok (.ifCond .eq 10, 3) := by decide +kernel
theorem r132_47 (l0 l1 l2 l3 l4 l5 : AV) (a : Int32) (st : List AV) (M : Mm) : run 132 47 [l0, l1, l2, l3, l4, l5] (aI a :: st) M = if a = 0 then run 132 57 [l0, l1, l2, l3, l4, l5] st M else run 132 50 [l0, l1, l2, l3, l4, l5] st M := e_eq1 57 d132_47 (by decide)
theorem d132_50 : decode (cod 132) 50 = .ok (.aload_n 0, 1) := by decide +kernel
theorem r132_50 (l1 l2 l3 l4 l5 : AV) (xg xi : Nat) (st : List AV) (M : Mm) : run 132 50 [aR xg 12 xi, l1, l2, l3, l4, l5] st M = run 132 51 [aR xg 12 xi, l1, l2, l3, l4, l5] (aR xg 12 xi :: st) M := e_aldn d132_50 rfl
theorem d132_51 : decode (cod 132) 51 = .ok (.iload 4, 2) := by decide +kernel
theorem r132_51 (l0 l1 l2 l3 l5 : AV) (x : Int32) (st : List AV) (M : Mm) : run 132 51 [l0, l1, l2, l3, aI x, l5] st M = run 132 53 [l0, l1, l2, l3, aI x, l5] (aI x :: st) M := e_ild d132_51 rfl
theorem d132_53 : decode (cod 132) 53 = .ok (.invokevirtual 89, 3) := by decide +kernel
theorem r132_53 (l0 l1 l2 l3 l4 l5 : AV) (a0g a0i : Nat) (a1 : Int32) (M : Mm) : run 132 53 [l0, l1, l2, l3, l4, l5] [aI a1, aR a0g 12 a0i] M = cbI (call 81 [aR a0g 12 a0i, aI a1] M) (fun v M => run 132 56 [l0, l1, l2, l3, l4, l5] [aI v] M) := call_I (n := 2) rfl false d132_53 rfl rfl rfl rfl rfl rfl rfl
theorem d132_56 : decode (cod 132) 56 = .ok (.ireturn, 1) := by decide +kernel
theorem r132_56 (l0 l1 l2 l3 l4 l5 : AV) (v : Int32) (M : Mm) : run 132 56 [l0, l1, l2, l3, l4, l5] [aI v] M = some (some v, M) := e_iret d132_56 rfl
theorem d132_57 : decode (cod 132) 57 = .ok (.iload_n 2, 1) := by decide +kernel
theorem r132_57 (l0 l1 l3 l4 l5 : AV) (x : Int32) (st : List AV) (M : Mm) : run 132 57 [l0, l1, aI x, l3, l4, l5] st M = run 132 58 [l0, l1, aI x, l3, l4, l5] (aI x :: st) M := e_ildn d132_57 rfl
theorem d132_58 : decode (cod 132) 58 = .ok (.ifCond .ne 12, 3) := by decide +kernel
theorem r132_58 (l0 l1 l2 l3 l4 l5 : AV) (a : Int32) (st : List AV) (M : Mm) : run 132 58 [l0, l1, l2, l3, l4, l5] (aI a :: st) M = if a = 0 then run 132 61 [l0, l1, l2, l3, l4, l5] st M else run 132 70 [l0, l1, l2, l3, l4, l5] st M := e_ne1 70 d132_58 (by decide)
theorem d132_61 : decode (cod 132) 61 = .ok (.aload_n 0, 1) := by decide +kernel
theorem r132_61 (l1 l2 l3 l4 l5 : AV) (xg xi : Nat) (st : List AV) (M : Mm) : run 132 61 [aR xg 12 xi, l1, l2, l3, l4, l5] st M = run 132 62 [aR xg 12 xi, l1, l2, l3, l4, l5] (aR xg 12 xi :: st) M := e_aldn d132_61 rfl
theorem d132_62 : decode (cod 132) 62 = .ok (.getfield 22, 3) := by decide +kernel
theorem r132_62 (l0 l1 l2 l3 l4 l5 : AV) (xg xi : Nat) (st : List AV) (M : Mm) : run 132 62 [l0, l1, l2, l3, l4, l5] (aR xg 12 xi :: st) M = run 132 65 [l0, l1, l2, l3, l4, l5] (aR 4 17 0 :: st) M := e_gfr (fun g => (4, 17, 0)) d132_62 rfl rfl rfl
theorem d132_65 : decode (cod 132) 65 = .ok (.iload_n 1, 1) := by decide +kernel
theorem r132_65 (l0 l2 l3 l4 l5 : AV) (x : Int32) (st : List AV) (M : Mm) : run 132 65 [l0, aI x, l2, l3, l4, l5] st M = run 132 66 [l0, aI x, l2, l3, l4, l5] (aI x :: st) M := e_ildn d132_65 rfl
theorem d132_66 : decode (cod 132) 66 = .ok (.iaload, 1) := by decide +kernel
theorem r132_66 (l0 l1 l2 l3 l4 l5 : AV) (i : Int32) (xg xi : Nat) (st : List AV) (M : Mm) : run 132 66 [l0, l1, l2, l3, l4, l5] (aI i :: aR xg 17 xi :: st) M = if vpB i 4 = true then run 132 67 [l0, l1, l2, l3, l4, l5] (aI (M xg 17 xi i.toNatClampNeg) :: st) M else none := e_ial d132_66 rfl rfl
theorem d132_67 : decode (cod 132) 67 = .ok (.goto 9, 3) := by decide +kernel
theorem r132_67 (l0 l1 l2 l3 l4 l5 : AV) (st : List AV) (M : Mm) : run 132 67 [l0, l1, l2, l3, l4, l5] st M = run 132 76 [l0, l1, l2, l3, l4, l5] st M := e_goto 76 d132_67 (by decide)
theorem d132_70 : decode (cod 132) 70 = .ok (.aload_n 0, 1) := by decide +kernel
theorem r132_70 (l1 l2 l3 l4 l5 : AV) (xg xi : Nat) (st : List AV) (M : Mm) : run 132 70 [aR xg 12 xi, l1, l2, l3, l4, l5] st M = run 132 71 [aR xg 12 xi, l1, l2, l3, l4, l5] (aR xg 12 xi :: st) M := e_aldn d132_70 rfl
theorem d132_71 : decode (cod 132) 71 = .ok (.getfield 25, 3) := by decide +kernel
theorem r132_71 (l0 l1 l2 l3 l4 l5 : AV) (xg xi : Nat) (st : List AV) (M : Mm) : run 132 71 [l0, l1, l2, l3, l4, l5] (aR xg 12 xi :: st) M = run 132 74 [l0, l1, l2, l3, l4, l5] (aR 4 18 0 :: st) M := e_gfr (fun g => (4, 18, 0)) d132_71 rfl rfl rfl
theorem d132_74 : decode (cod 132) 74 = .ok (.iload_n 1, 1) := by decide +kernel
theorem r132_74 (l0 l2 l3 l4 l5 : AV) (x : Int32) (st : List AV) (M : Mm) : run 132 74 [l0, aI x, l2, l3, l4, l5] st M = run 132 75 [l0, aI x, l2, l3, l4, l5] (aI x :: st) M := e_ildn d132_74 rfl
theorem d132_75 : decode (cod 132) 75 = .ok (.iaload, 1) := by decide +kernel
theorem r132_75 (l0 l1 l2 l3 l4 l5 : AV) (i : Int32) (xg xi : Nat) (st : List AV) (M : Mm) : run 132 75 [l0, l1, l2, l3, l4, l5] (aI i :: aR xg 18 xi :: st) M = if vpB i 4 = true then run 132 76 [l0, l1, l2, l3, l4, l5] (aI (M xg 18 xi i.toNatClampNeg) :: st) M else none := e_ial d132_75 rfl rfl
theorem d132_76 : decode (cod 132) 76 = .ok (.istore 5, 2) := by decide +kernel
theorem r132_76 (l0 l1 l2 l3 l4 l5 : AV) (x : Int32) (st : List AV) (M : Mm) : run 132 76 [l0, l1, l2, l3, l4, l5] (aI x :: st) M = run 132 78 [l0, l1, l2, l3, l4, aI x] st M := e_ist [l0, l1, l2, l3, l4, aI x] d132_76 rfl rfl
theorem d132_78 : decode (cod 132) 78 = .ok (.iload_n 2, 1) := by decide +kernel
theorem r132_78 (l0 l1 l3 l4 l5 : AV) (x : Int32) (st : List AV) (M : Mm) : run 132 78 [l0, l1, aI x, l3, l4, l5] st M = run 132 79 [l0, l1, aI x, l3, l4, l5] (aI x :: st) M := e_ildn d132_78 rfl
theorem d132_79 : decode (cod 132) 79 = .ok (.ifCond .ne 13, 3) := by decide +kernel
theorem r132_79 (l0 l1 l2 l3 l4 l5 : AV) (a : Int32) (st : List AV) (M : Mm) : run 132 79 [l0, l1, l2, l3, l4, l5] (aI a :: st) M = if a = 0 then run 132 82 [l0, l1, l2, l3, l4, l5] st M else run 132 92 [l0, l1, l2, l3, l4, l5] st M := e_ne1 92 d132_79 (by decide)
theorem d132_82 : decode (cod 132) 82 = .ok (.aload_n 0, 1) := by decide +kernel
theorem r132_82 (l1 l2 l3 l4 l5 : AV) (xg xi : Nat) (st : List AV) (M : Mm) : run 132 82 [aR xg 12 xi, l1, l2, l3, l4, l5] st M = run 132 83 [aR xg 12 xi, l1, l2, l3, l4, l5] (aR xg 12 xi :: st) M := e_aldn d132_82 rfl
theorem d132_83 : decode (cod 132) 83 = .ok (.getfield 22, 3) := by decide +kernel
theorem r132_83 (l0 l1 l2 l3 l4 l5 : AV) (xg xi : Nat) (st : List AV) (M : Mm) : run 132 83 [l0, l1, l2, l3, l4, l5] (aR xg 12 xi :: st) M = run 132 86 [l0, l1, l2, l3, l4, l5] (aR 4 17 0 :: st) M := e_gfr (fun g => (4, 17, 0)) d132_83 rfl rfl rfl
theorem d132_86 : decode (cod 132) 86 = .ok (.iload_n 1, 1) := by decide +kernel
theorem r132_86 (l0 l2 l3 l4 l5 : AV) (x : Int32) (st : List AV) (M : Mm) : run 132 86 [l0, aI x, l2, l3, l4, l5] st M = run 132 87 [l0, aI x, l2, l3, l4, l5] (aI x :: st) M := e_ildn d132_86 rfl
theorem d132_87 : decode (cod 132) 87 = .ok (.iload_n 3, 1) := by decide +kernel
theorem r132_87 (l0 l1 l2 l4 l5 : AV) (x : Int32) (st : List AV) (M : Mm) : run 132 87 [l0, l1, l2, aI x, l4, l5] st M = run 132 88 [l0, l1, l2, aI x, l4, l5] (aI x :: st) M := e_ildn d132_87 rfl
theorem d132_88 : decode (cod 132) 88 = .ok (.iastore, 1) := by decide +kernel
theorem r132_88 (l0 l1 l2 l3 l4 l5 : AV) (v i : Int32) (xg xi : Nat) (st : List AV) (M : Mm) : run 132 88 [l0, l1, l2, l3, l4, l5] (aI v :: aI i :: aR xg 17 xi :: st) M = if vpB i 4 = true then run 132 89 [l0, l1, l2, l3, l4, l5] st (wr M xg 17 xi i.toNatClampNeg v) else none := e_ias d132_88 rfl rfl
theorem d132_89 : decode (cod 132) 89 = .ok (.goto 10, 3) := by decide +kernel
theorem r132_89 (l0 l1 l2 l3 l4 l5 : AV) (st : List AV) (M : Mm) : run 132 89 [l0, l1, l2, l3, l4, l5] st M = run 132 99 [l0, l1, l2, l3, l4, l5] st M := e_goto 99 d132_89 (by decide)
theorem d132_92 : decode (cod 132) 92 = .ok (.aload_n 0, 1) := by decide +kernel
theorem r132_92 (l1 l2 l3 l4 l5 : AV) (xg xi : Nat) (st : List AV) (M : Mm) : run 132 92 [aR xg 12 xi, l1, l2, l3, l4, l5] st M = run 132 93 [aR xg 12 xi, l1, l2, l3, l4, l5] (aR xg 12 xi :: st) M := e_aldn d132_92 rfl
theorem d132_93 : decode (cod 132) 93 = .ok (.getfield 25, 3) := by decide +kernel
theorem r132_93 (l0 l1 l2 l3 l4 l5 : AV) (xg xi : Nat) (st : List AV) (M : Mm) : run 132 93 [l0, l1, l2, l3, l4, l5] (aR xg 12 xi :: st) M = run 132 96 [l0, l1, l2, l3, l4, l5] (aR 4 18 0 :: st) M := e_gfr (fun g => (4, 18, 0)) d132_93 rfl rfl rfl
theorem d132_96 : decode (cod 132) 96 = .ok (.iload_n 1, 1) := by decide +kernel
theorem r132_96 (l0 l2 l3 l4 l5 : AV) (x : Int32) (st : List AV) (M : Mm) : run 132 96 [l0, aI x, l2, l3, l4, l5] st M = run 132 97 [l0, aI x, l2, l3, l4, l5] (aI x :: st) M := e_ildn d132_96 rfl
theorem d132_97 : decode (cod 132) 97 = .ok (.iload_n 3, 1) := by decide +kernel
theorem r132_97 (l0 l1 l2 l4 l5 : AV) (x : Int32) (st : List AV) (M : Mm) : run 132 97 [l0, l1, l2, aI x, l4, l5] st M = run 132 98 [l0, l1, l2, aI x, l4, l5] (aI x :: st) M := e_ildn d132_97 rfl
theorem d132_98 : decode (cod 132) 98 = .ok (.iastore, 1) := by decide +kernel
theorem r132_98 (l0 l1 l2 l3 l4 l5 : AV) (v i : Int32) (xg xi : Nat) (st : List AV) (M : Mm) : run 132 98 [l0, l1, l2, l3, l4, l5] (aI v :: aI i :: aR xg 18 xi :: st) M = if vpB i 4 = true then run 132 99 [l0, l1, l2, l3, l4, l5] st (wr M xg 18 xi i.toNatClampNeg v) else none := e_ias d132_98 rfl rfl
theorem d132_99 : decode (cod 132) 99 = .ok (.iload 5, 2) := by decide +kernel
theorem r132_99 (l0 l1 l2 l3 l4 : AV) (x : Int32) (st : List AV) (M : Mm) : run 132 99 [l0, l1, l2, l3, l4, aI x] st M = run 132 101 [l0, l1, l2, l3, l4, aI x] (aI x :: st) M := e_ild d132_99 rfl
theorem d132_101 : decode (cod 132) 101 = .ok (.ireturn, 1) := by decide +kernel
theorem r132_101 (l0 l1 l2 l3 l4 l5 : AV) (v : Int32) (M : Mm) : run 132 101 [l0, l1, l2, l3, l4, l5] [aI v] M = some (some v, M) := e_iret d132_101 rfl
theorem c133 (g0 i0 : Nat) (x1 : Int32) (x2 : Int32) (M : Mm) : call 133 [aR g0 12 i0, aI x1, aI x2] M = run 133 0 [aR g0 12 i0, aI x1, aI x2, none, none] [] M := call_run 133 _ _
theorem d133_0 : decode (cod 133) 0 = .ok (.iload_n 1, 1) := by decide +kernel
theorem r133_0 (l0 l2 l3 l4 : AV) (x : Int32) (st : List AV) (M : Mm) : run 133 0 [l0, aI x, l2, l3, l4] st M = run 133 1 [l0, aI x, l2, l3, l4] (aI x :: st) M := e_ildn d133_0 rfl
theorem d133_1 : decode (cod 133) 1 = .ok (.iconst 0, 1) := by decide +kernel
theorem r133_1 (l0 l1 l2 l3 l4 : AV) (st : List AV) (M : Mm) : run 133 1 [l0, l1, l2, l3, l4] st M = run 133 2 [l0, l1, l2, l3, l4] (aI 0 :: st) M := e_iconst 0 d133_1 (by decide +kernel)
theorem d133_2 : decode (cod 133) 2 = .ok (.bipush 6, 2) := by decide +kernel
theorem r133_2 (l0 l1 l2 l3 l4 : AV) (st : List AV) (M : Mm) : run 133 2 [l0, l1, l2, l3, l4] st M = run 133 4 [l0, l1, l2, l3, l4] (aI 6 :: st) M := e_bipush 6 d133_2 (by decide +kernel)
theorem d133_4 : decode (cod 133) 4 = .ok (.invokestatic 100, 3) := by decide +kernel
theorem r133_4 (l0 l1 l2 l3 l4 : AV) (a0 : Int32) (a1 : Int32) (a2 : Int32) (M : Mm) : run 133 4 [l0, l1, l2, l3, l4] [aI a2, aI a1, aI a0] M = cbI (call 83 [aI a0, aI a1, aI a2] M) (fun v M => run 133 7 [l0, l1, l2, l3, l4] [aI v] M) := call_I (n := 3) rfl true d133_4 rfl rfl rfl rfl rfl rfl rfl
theorem d133_7 : decode (cod 133) 7 = .ok (.ifCond .ne 8, 3) := by decide +kernel
theorem r133_7 (l0 l1 l2 l3 l4 : AV) (a : Int32) (st : List AV) (M : Mm) : run 133 7 [l0, l1, l2, l3, l4] (aI a :: st) M = if a = 0 then run 133 10 [l0, l1, l2, l3, l4] st M else run 133 15 [l0, l1, l2, l3, l4] st M := e_ne1 15 d133_7 (by decide)
theorem d133_10 : decode (cod 133) 10 = .ok (.bipush (-2), 2) := by decide +kernel
theorem r133_10 (l0 l1 l2 l3 l4 : AV) (st : List AV) (M : Mm) : run 133 10 [l0, l1, l2, l3, l4] st M = run 133 12 [l0, l1, l2, l3, l4] (aI (-2) :: st) M := e_bipush (-2) d133_10 (by decide +kernel)
theorem d133_12 : decode (cod 133) 12 = .ok (.goto 31, 3) := by decide +kernel
theorem r133_12 (l0 l1 l2 l3 l4 : AV) (st : List AV) (M : Mm) : run 133 12 [l0, l1, l2, l3, l4] st M = run 133 43 [l0, l1, l2, l3, l4] st M := e_goto 43 d133_12 (by decide)
theorem d133_15 : decode (cod 133) 15 = .ok (.iload_n 1, 1) := by decide +kernel
theorem r133_15 (l0 l2 l3 l4 : AV) (x : Int32) (st : List AV) (M : Mm) : run 133 15 [l0, aI x, l2, l3, l4] st M = run 133 16 [l0, aI x, l2, l3, l4] (aI x :: st) M := e_ildn d133_15 rfl
theorem d133_16 : decode (cod 133) 16 = .ok (.ifCond .ne 15, 3) := by decide +kernel
theorem r133_16 (l0 l1 l2 l3 l4 : AV) (a : Int32) (st : List AV) (M : Mm) : run 133 16 [l0, l1, l2, l3, l4] (aI a :: st) M = if a = 0 then run 133 19 [l0, l1, l2, l3, l4] st M else run 133 31 [l0, l1, l2, l3, l4] st M := e_ne1 31 d133_16 (by decide)
theorem d133_19 : decode (cod 133) 19 = .ok (.aload_n 0, 1) := by decide +kernel
theorem r133_19 (l1 l2 l3 l4 : AV) (xg xi : Nat) (st : List AV) (M : Mm) : run 133 19 [aR xg 12 xi, l1, l2, l3, l4] st M = run 133 20 [aR xg 12 xi, l1, l2, l3, l4] (aR xg 12 xi :: st) M := e_aldn d133_19 rfl
theorem d133_20 : decode (cod 133) 20 = .ok (.invokevirtual 129, 3) := by decide +kernel
theorem r133_20 (l0 l1 l2 l3 l4 : AV) (a0g a0i : Nat) (M : Mm) : run 133 20 [l0, l1, l2, l3, l4] [aR a0g 12 a0i] M = cbI (call 97 [aR a0g 12 a0i] M) (fun v M => run 133 23 [l0, l1, l2, l3, l4] [aI v] M) := call_I (n := 1) rfl false d133_20 rfl rfl rfl rfl rfl rfl rfl
theorem d133_23 : decode (cod 133) 23 = .ok (.ifCond .eq 8, 3) := by decide +kernel
theorem r133_23 (l0 l1 l2 l3 l4 : AV) (a : Int32) (st : List AV) (M : Mm) : run 133 23 [l0, l1, l2, l3, l4] (aI a :: st) M = if a = 0 then run 133 31 [l0, l1, l2, l3, l4] st M else run 133 26 [l0, l1, l2, l3, l4] st M := e_eq1 31 d133_23 (by decide)
theorem d133_26 : decode (cod 133) 26 = .ok (.bipush (-3), 2) := by decide +kernel
theorem r133_26 (l0 l1 l2 l3 l4 : AV) (st : List AV) (M : Mm) : run 133 26 [l0, l1, l2, l3, l4] st M = run 133 28 [l0, l1, l2, l3, l4] (aI (-3) :: st) M := e_bipush (-3) d133_26 (by decide +kernel)
theorem d133_28 : decode (cod 133) 28 = .ok (.goto 15, 3) := by decide +kernel
theorem r133_28 (l0 l1 l2 l3 l4 : AV) (st : List AV) (M : Mm) : run 133 28 [l0, l1, l2, l3, l4] st M = run 133 43 [l0, l1, l2, l3, l4] st M := e_goto 43 d133_28 (by decide)
theorem d133_31 : decode (cod 133) 31 = .ok (.iload_n 2, 1) := by decide +kernel
theorem r133_31 (l0 l1 l3 l4 : AV) (x : Int32) (st : List AV) (M : Mm) : run 133 31 [l0, l1, aI x, l3, l4] st M = run 133 32 [l0, l1, aI x, l3, l4] (aI x :: st) M := e_ildn d133_31 rfl
theorem d133_32 : decode (cod 133) 32 = .ok (.iload_n 1, 1) := by decide +kernel
theorem r133_32 (l0 l2 l3 l4 : AV) (x : Int32) (st : List AV) (M : Mm) : run 133 32 [l0, aI x, l2, l3, l4] st M = run 133 33 [l0, aI x, l2, l3, l4] (aI x :: st) M := e_ildn d133_32 rfl
theorem d133_33 : decode (cod 133) 33 = .ok (.invokestatic 123, 3) := by decide +kernel
theorem r133_33 (l0 l1 l2 l3 l4 : AV) (a0 : Int32) (t0 : AV) (M : Mm) : run 133 33 [l0, l1, l2, l3, l4] [aI a0, t0] M = cbI (call 86 [aI a0] M) (fun v M => run 133 36 [l0, l1, l2, l3, l4] [aI v, t0] M) := call_I (n := 1) rfl true d133_33 rfl rfl rfl rfl rfl rfl rfl
theorem d133_36 : decode (cod 133) 36 = .ok (.iload_n 1, 1) := by decide +kernel
theorem r133_36 (l0 l2 l3 l4 : AV) (x : Int32) (st : List AV) (M : Mm) : run 133 36 [l0, aI x, l2, l3, l4] st M = run 133 37 [l0, aI x, l2, l3, l4] (aI x :: st) M := e_ildn d133_36 rfl
theorem d133_37 : decode (cod 133) 37 = .ok (.invokestatic 126, 3) := by decide +kernel
theorem r133_37 (l0 l1 l2 l3 l4 : AV) (a0 : Int32) (t0 t1 : AV) (M : Mm) : run 133 37 [l0, l1, l2, l3, l4] [aI a0, t0, t1] M = cbI (call 87 [aI a0] M) (fun v M => run 133 40 [l0, l1, l2, l3, l4] [aI v, t0, t1] M) := call_I (n := 1) rfl true d133_37 rfl rfl rfl rfl rfl rfl rfl
theorem d133_40 : decode (cod 133) 40 = .ok (.invokestatic 82, 3) := by decide +kernel
theorem r133_40 (l0 l1 l2 l3 l4 : AV) (a0 : Int32) (a1 : Int32) (a2 : Int32) (M : Mm) : run 133 40 [l0, l1, l2, l3, l4] [aI a2, aI a1, aI a0] M = cbI (call 84 [aI a0, aI a1, aI a2] M) (fun v M => run 133 43 [l0, l1, l2, l3, l4] [aI v] M) := call_I (n := 3) rfl true d133_40 rfl rfl rfl rfl rfl rfl rfl
theorem d133_43 : decode (cod 133) 43 = .ok (.istore_n 3, 1) := by decide +kernel
theorem r133_43 (l0 l1 l2 l3 l4 : AV) (x : Int32) (st : List AV) (M : Mm) : run 133 43 [l0, l1, l2, l3, l4] (aI x :: st) M = run 133 44 [l0, l1, l2, aI x, l4] st M := e_istn [l0, l1, l2, aI x, l4] d133_43 rfl rfl
theorem d133_44 : decode (cod 133) 44 = .ok (.iload_n 3, 1) := by decide +kernel
theorem r133_44 (l0 l1 l2 l4 : AV) (x : Int32) (st : List AV) (M : Mm) : run 133 44 [l0, l1, l2, aI x, l4] st M = run 133 45 [l0, l1, l2, aI x, l4] (aI x :: st) M := e_ildn d133_44 rfl
theorem d133_45 : decode (cod 133) 45 = .ok (.ifCond .eq 9, 3) := by decide +kernel
theorem r133_45 (l0 l1 l2 l3 l4 : AV) (a : Int32) (st : List AV) (M : Mm) : run 133 45 [l0, l1, l2, l3, l4] (aI a :: st) M = if a = 0 then run 133 54 [l0, l1, l2, l3, l4] st M else run 133 48 [l0, l1, l2, l3, l4] st M := e_eq1 54 d133_45 (by decide)
theorem d133_48 : decode (cod 133) 48 = .ok (.aload_n 0, 1) := by decide +kernel
theorem r133_48 (l1 l2 l3 l4 : AV) (xg xi : Nat) (st : List AV) (M : Mm) : run 133 48 [aR xg 12 xi, l1, l2, l3, l4] st M = run 133 49 [aR xg 12 xi, l1, l2, l3, l4] (aR xg 12 xi :: st) M := e_aldn d133_48 rfl
theorem d133_49 : decode (cod 133) 49 = .ok (.iload_n 3, 1) := by decide +kernel
theorem r133_49 (l0 l1 l2 l4 : AV) (x : Int32) (st : List AV) (M : Mm) : run 133 49 [l0, l1, l2, aI x, l4] st M = run 133 50 [l0, l1, l2, aI x, l4] (aI x :: st) M := e_ildn d133_49 rfl
theorem d133_50 : decode (cod 133) 50 = .ok (.invokevirtual 89, 3) := by decide +kernel
theorem r133_50 (l0 l1 l2 l3 l4 : AV) (a0g a0i : Nat) (a1 : Int32) (M : Mm) : run 133 50 [l0, l1, l2, l3, l4] [aI a1, aR a0g 12 a0i] M = cbI (call 81 [aR a0g 12 a0i, aI a1] M) (fun v M => run 133 53 [l0, l1, l2, l3, l4] [aI v] M) := call_I (n := 2) rfl false d133_50 rfl rfl rfl rfl rfl rfl rfl
theorem d133_53 : decode (cod 133) 53 = .ok (.ireturn, 1) := by decide +kernel
theorem r133_53 (l0 l1 l2 l3 l4 : AV) (v : Int32) (M : Mm) : run 133 53 [l0, l1, l2, l3, l4] [aI v] M = some (some v, M) := e_iret d133_53 rfl
theorem d133_54 : decode (cod 133) 54 = .ok (.aload_n 0, 1) := by decide +kernel
theorem r133_54 (l1 l2 l3 l4 : AV) (xg xi : Nat) (st : List AV) (M : Mm) : run 133 54 [aR xg 12 xi, l1, l2, l3, l4] st M = run 133 55 [aR xg 12 xi, l1, l2, l3, l4] (aR xg 12 xi :: st) M := e_aldn d133_54 rfl
theorem d133_55 : decode (cod 133) 55 = .ok (.getfield 13, 3) := by decide +kernel
theorem r133_55 (l0 l1 l2 l3 l4 : AV) (xg xi : Nat) (st : List AV) (M : Mm) : run 133 55 [l0, l1, l2, l3, l4] (aR xg 12 xi :: st) M = run 133 58 [l0, l1, l2, l3, l4] (aR 4 14 0 :: st) M := e_gfr (fun g => (4, 14, 0)) d133_55 rfl rfl rfl
theorem d133_58 : decode (cod 133) 58 = .ok (.iload_n 1, 1) := by decide +kernel
theorem r133_58 (l0 l2 l3 l4 : AV) (x : Int32) (st : List AV) (M : Mm) : run 133 58 [l0, aI x, l2, l3, l4] st M = run 133 59 [l0, aI x, l2, l3, l4] (aI x :: st) M := e_ildn d133_58 rfl
theorem d133_59 : decode (cod 133) 59 = .ok (.iaload, 1) := by decide +kernel
theorem r133_59 (l0 l1 l2 l3 l4 : AV) (i : Int32) (xg xi : Nat) (st : List AV) (M : Mm) : run 133 59 [l0, l1, l2, l3, l4] (aI i :: aR xg 14 xi :: st) M = if vpB i 7 = true then run 133 60 [l0, l1, l2, l3, l4] (aI (M xg 14 xi i.toNatClampNeg) :: st) M else none := e_ial d133_59 rfl rfl
theorem d133_60 : decode (cod 133) 60 = .ok (.istore 4, 2) := by decide +kernel
theorem r133_60 (l0 l1 l2 l3 l4 : AV) (x : Int32) (st : List AV) (M : Mm) : run 133 60 [l0, l1, l2, l3, l4] (aI x :: st) M = run 133 62 [l0, l1, l2, l3, aI x] st M := e_ist [l0, l1, l2, l3, aI x] d133_60 rfl rfl
theorem d133_62 : decode (cod 133) 62 = .ok (.aload_n 0, 1) := by decide +kernel
theorem r133_62 (l1 l2 l3 l4 : AV) (xg xi : Nat) (st : List AV) (M : Mm) : run 133 62 [aR xg 12 xi, l1, l2, l3, l4] st M = run 133 63 [aR xg 12 xi, l1, l2, l3, l4] (aR xg 12 xi :: st) M := e_aldn d133_62 rfl
theorem d133_63 : decode (cod 133) 63 = .ok (.getfield 13, 3) := by decide +kernel
theorem r133_63 (l0 l1 l2 l3 l4 : AV) (xg xi : Nat) (st : List AV) (M : Mm) : run 133 63 [l0, l1, l2, l3, l4] (aR xg 12 xi :: st) M = run 133 66 [l0, l1, l2, l3, l4] (aR 4 14 0 :: st) M := e_gfr (fun g => (4, 14, 0)) d133_63 rfl rfl rfl
theorem d133_66 : decode (cod 133) 66 = .ok (.iload_n 1, 1) := by decide +kernel
theorem r133_66 (l0 l2 l3 l4 : AV) (x : Int32) (st : List AV) (M : Mm) : run 133 66 [l0, aI x, l2, l3, l4] st M = run 133 67 [l0, aI x, l2, l3, l4] (aI x :: st) M := e_ildn d133_66 rfl
theorem d133_67 : decode (cod 133) 67 = .ok (.iload_n 2, 1) := by decide +kernel
theorem r133_67 (l0 l1 l3 l4 : AV) (x : Int32) (st : List AV) (M : Mm) : run 133 67 [l0, l1, aI x, l3, l4] st M = run 133 68 [l0, l1, aI x, l3, l4] (aI x :: st) M := e_ildn d133_67 rfl
theorem d133_68 : decode (cod 133) 68 = .ok (.iastore, 1) := by decide +kernel
theorem r133_68 (l0 l1 l2 l3 l4 : AV) (v i : Int32) (xg xi : Nat) (st : List AV) (M : Mm) : run 133 68 [l0, l1, l2, l3, l4] (aI v :: aI i :: aR xg 14 xi :: st) M = if vpB i 7 = true then run 133 69 [l0, l1, l2, l3, l4] st (wr M xg 14 xi i.toNatClampNeg v) else none := e_ias d133_68 rfl rfl
theorem d133_69 : decode (cod 133) 69 = .ok (.iload 4, 2) := by decide +kernel
theorem r133_69 (l0 l1 l2 l3 : AV) (x : Int32) (st : List AV) (M : Mm) : run 133 69 [l0, l1, l2, l3, aI x] st M = run 133 71 [l0, l1, l2, l3, aI x] (aI x :: st) M := e_ild d133_69 rfl
theorem d133_71 : decode (cod 133) 71 = .ok (.ireturn, 1) := by decide +kernel
theorem r133_71 (l0 l1 l2 l3 l4 : AV) (v : Int32) (M : Mm) : run 133 71 [l0, l1, l2, l3, l4] [aI v] M = some (some v, M) := e_iret d133_71 rfl
theorem c134 (g0 i0 : Nat) (x1 : Int32) (M : Mm) : call 134 [aR g0 12 i0, aI x1] M = run 134 0 [aR g0 12 i0, aI x1, none] [] M := call_run 134 _ _
theorem d134_0 : decode (cod 134) 0 = .ok (.iload_n 1, 1) := by decide +kernel
theorem r134_0 (l0 l2 : AV) (x : Int32) (st : List AV) (M : Mm) : run 134 0 [l0, aI x, l2] st M = run 134 1 [l0, aI x, l2] (aI x :: st) M := e_ildn d134_0 rfl
theorem d134_1 : decode (cod 134) 1 = .ok (.iconst 1, 1) := by decide +kernel
theorem r134_1 (l0 l1 l2 : AV) (st : List AV) (M : Mm) : run 134 1 [l0, l1, l2] st M = run 134 2 [l0, l1, l2] (aI 1 :: st) M := e_iconst 1 d134_1 (by decide +kernel)
theorem d134_2 : decode (cod 134) 2 = .ok (.bipush 60, 2) := by decide +kernel
theorem r134_2 (l0 l1 l2 : AV) (st : List AV) (M : Mm) : run 134 2 [l0, l1, l2] st M = run 134 4 [l0, l1, l2] (aI 60 :: st) M := e_bipush 60 d134_2 (by decide +kernel)
theorem d134_4 : decode (cod 134) 4 = .ok (.invokestatic 82, 3) := by decide +kernel
theorem r134_4 (l0 l1 l2 : AV) (a0 : Int32) (a1 : Int32) (a2 : Int32) (M : Mm) : run 134 4 [l0, l1, l2] [aI a2, aI a1, aI a0] M = cbI (call 84 [aI a0, aI a1, aI a2] M) (fun v M => run 134 7 [l0, l1, l2] [aI v] M) := call_I (n := 3) rfl true d134_4 rfl rfl rfl rfl rfl rfl rfl
theorem d134_7 : decode (cod 134) 7 = .ok (.istore_n 2, 1) := by decide +kernel
theorem r134_7 (l0 l1 l2 : AV) (x : Int32) (st : List AV) (M : Mm) : run 134 7 [l0, l1, l2] (aI x :: st) M = run 134 8 [l0, l1, aI x] st M := e_istn [l0, l1, aI x] d134_7 rfl rfl
theorem d134_8 : decode (cod 134) 8 = .ok (.iload_n 2, 1) := by decide +kernel
theorem r134_8 (l0 l1 : AV) (x : Int32) (st : List AV) (M : Mm) : run 134 8 [l0, l1, aI x] st M = run 134 9 [l0, l1, aI x] (aI x :: st) M := e_ildn d134_8 rfl
theorem d134_9 : decode (cod 134) 9 = .ok (.ifCond .ne 18, 3) := by decide +kernel
theorem r134_9 (l0 l1 l2 : AV) (a : Int32) (st : List AV) (M : Mm) : run 134 9 [l0, l1, l2] (aI a :: st) M = if a = 0 then run 134 12 [l0, l1, l2] st M else run 134 27 [l0, l1, l2] st M := e_ne1 27 d134_9 (by decide)
theorem d134_12 : decode (cod 134) 12 = .ok (.aload_n 0, 1) := by decide +kernel
theorem r134_12 (l1 l2 : AV) (xg xi : Nat) (st : List AV) (M : Mm) : run 134 12 [aR xg 12 xi, l1, l2] st M = run 134 13 [aR xg 12 xi, l1, l2] (aR xg 12 xi :: st) M := e_aldn d134_12 rfl
theorem d134_13 : decode (cod 134) 13 = .ok (.getfield 140, 3) := by decide +kernel
theorem r134_13 (l0 l1 l2 : AV) (xg xi : Nat) (st : List AV) (M : Mm) : run 134 13 [l0, l1, l2] (aR xg 12 xi :: st) M = run 134 16 [l0, l1, l2] (aI (M xg 12 xi 11) :: st) M := e_gfi d134_13 rfl rfl rfl
theorem d134_16 : decode (cod 134) 16 = .ok (.iload_n 1, 1) := by decide +kernel
theorem r134_16 (l0 l2 : AV) (x : Int32) (st : List AV) (M : Mm) : run 134 16 [l0, aI x, l2] st M = run 134 17 [l0, aI x, l2] (aI x :: st) M := e_ildn d134_16 rfl
theorem d134_17 : decode (cod 134) 17 = .ok (.iadd, 1) := by decide +kernel
theorem r134_17 (l0 l1 l2 : AV) (a b : Int32) (st : List AV) (M : Mm) : run 134 17 [l0, l1, l2] (aI b :: aI a :: st) M = run 134 18 [l0, l1, l2] (aI (a + b) :: st) M := e_iadd d134_17
theorem d134_18 : decode (cod 134) 18 = .ok (.sipush 9999, 3) := by decide +kernel
theorem r134_18 (l0 l1 l2 : AV) (st : List AV) (M : Mm) : run 134 18 [l0, l1, l2] st M = run 134 21 [l0, l1, l2] (aI 9999 :: st) M := e_sipush 9999 d134_18 (by decide +kernel)
theorem d134_21 : decode (cod 134) 21 = .ok (.if_icmp .le 6, 3) := by decide +kernel
theorem r134_21 (l0 l1 l2 : AV) (a b : Int32) (st : List AV) (M : Mm) : run 134 21 [l0, l1, l2] (aI b :: aI a :: st) M = if b < a then run 134 24 [l0, l1, l2] st M else run 134 27 [l0, l1, l2] st M := e_le2 27 d134_21 (by decide)
theorem d134_24 : decode (cod 134) 24 = .ok (.bipush (-6), 2) := by decide +kernel
theorem r134_24 (l0 l1 l2 : AV) (st : List AV) (M : Mm) : run 134 24 [l0, l1, l2] st M = run 134 26 [l0, l1, l2] (aI (-6) :: st) M := e_bipush (-6) d134_24 (by decide +kernel)
theorem d134_26 : decode (cod 134) 26 = .ok (.istore_n 2, 1) := by decide +kernel
theorem r134_26 (l0 l1 l2 : AV) (x : Int32) (st : List AV) (M : Mm) : run 134 26 [l0, l1, l2] (aI x :: st) M = run 134 27 [l0, l1, aI x] st M := e_istn [l0, l1, aI x] d134_26 rfl rfl
theorem d134_27 : decode (cod 134) 27 = .ok (.iload_n 2, 1) := by decide +kernel
theorem r134_27 (l0 l1 : AV) (x : Int32) (st : List AV) (M : Mm) : run 134 27 [l0, l1, aI x] st M = run 134 28 [l0, l1, aI x] (aI x :: st) M := e_ildn d134_27 rfl
theorem d134_28 : decode (cod 134) 28 = .ok (.ifCond .eq 9, 3) := by decide +kernel
theorem r134_28 (l0 l1 l2 : AV) (a : Int32) (st : List AV) (M : Mm) : run 134 28 [l0, l1, l2] (aI a :: st) M = if a = 0 then run 134 37 [l0, l1, l2] st M else run 134 31 [l0, l1, l2] st M := e_eq1 37 d134_28 (by decide)
theorem d134_31 : decode (cod 134) 31 = .ok (.aload_n 0, 1) := by decide +kernel
theorem r134_31 (l1 l2 : AV) (xg xi : Nat) (st : List AV) (M : Mm) : run 134 31 [aR xg 12 xi, l1, l2] st M = run 134 32 [aR xg 12 xi, l1, l2] (aR xg 12 xi :: st) M := e_aldn d134_31 rfl
theorem d134_32 : decode (cod 134) 32 = .ok (.iload_n 2, 1) := by decide +kernel
theorem r134_32 (l0 l1 : AV) (x : Int32) (st : List AV) (M : Mm) : run 134 32 [l0, l1, aI x] st M = run 134 33 [l0, l1, aI x] (aI x :: st) M := e_ildn d134_32 rfl
theorem d134_33 : decode (cod 134) 33 = .ok (.invokevirtual 89, 3) := by decide +kernel
theorem r134_33 (l0 l1 l2 : AV) (a0g a0i : Nat) (a1 : Int32) (M : Mm) : run 134 33 [l0, l1, l2] [aI a1, aR a0g 12 a0i] M = cbI (call 81 [aR a0g 12 a0i, aI a1] M) (fun v M => run 134 36 [l0, l1, l2] [aI v] M) := call_I (n := 2) rfl false d134_33 rfl rfl rfl rfl rfl rfl rfl
theorem d134_36 : decode (cod 134) 36 = .ok (.ireturn, 1) := by decide +kernel
theorem r134_36 (l0 l1 l2 : AV) (v : Int32) (M : Mm) : run 134 36 [l0, l1, l2] [aI v] M = some (some v, M) := e_iret d134_36 rfl
theorem d134_37 : decode (cod 134) 37 = .ok (.aload_n 0, 1) := by decide +kernel
theorem r134_37 (l1 l2 : AV) (xg xi : Nat) (st : List AV) (M : Mm) : run 134 37 [aR xg 12 xi, l1, l2] st M = run 134 38 [aR xg 12 xi, l1, l2] (aR xg 12 xi :: st) M := e_aldn d134_37 rfl
theorem d134_38 : decode (cod 134) 38 = .ok (.iload_n 1, 1) := by decide +kernel
theorem r134_38 (l0 l2 : AV) (x : Int32) (st : List AV) (M : Mm) : run 134 38 [l0, aI x, l2] st M = run 134 39 [l0, aI x, l2] (aI x :: st) M := e_ildn d134_38 rfl
theorem d134_39 : decode (cod 134) 39 = .ok (.invokevirtual 143, 3) := by decide +kernel
theorem r134_39 (l0 l1 l2 : AV) (a0g a0i : Nat) (a1 : Int32) (M : Mm) : run 134 39 [l0, l1, l2] [aI a1, aR a0g 12 a0i] M = cbV (call 128 [aR a0g 12 a0i, aI a1] M) (fun M => run 134 42 [l0, l1, l2] [] M) := call_V (n := 2) rfl false d134_39 rfl rfl rfl rfl rfl rfl rfl
theorem d134_42 : decode (cod 134) 42 = .ok (.aload_n 0, 1) := by decide +kernel
theorem r134_42 (l1 l2 : AV) (xg xi : Nat) (st : List AV) (M : Mm) : run 134 42 [aR xg 12 xi, l1, l2] st M = run 134 43 [aR xg 12 xi, l1, l2] (aR xg 12 xi :: st) M := e_aldn d134_42 rfl
theorem d134_43 : decode (cod 134) 43 = .ok (.getfield 242, 3) := by decide +kernel
theorem r134_43 (l0 l1 l2 : AV) (xg xi : Nat) (st : List AV) (M : Mm) : run 134 43 [l0, l1, l2] (aR xg 12 xi :: st) M = run 134 46 [l0, l1, l2] (aI (M xg 12 xi 29) :: st) M := e_gfi d134_43 rfl rfl rfl
theorem d134_46 : decode (cod 134) 46 = .ok (.ireturn, 1) := by decide +kernel
theorem r134_46 (l0 l1 l2 : AV) (v : Int32) (M : Mm) : run 134 46 [l0, l1, l2] [aI v] M = some (some v, M) := e_iret d134_46 rfl
theorem c135 (g0 i0 : Nat) (x1 : Int32) (x2 : Int32) (M : Mm) : call 135 [aR g0 12 i0, aI x1, aI x2] M = run 135 0 [aR g0 12 i0, aI x1, aI x2] [] M := call_run 135 _ _
theorem d135_0 : decode (cod 135) 0 = .ok (.iload_n 1, 1) := by decide +kernel
theorem r135_0 (l0 l2 : AV) (x : Int32) (st : List AV) (M : Mm) : run 135 0 [l0, aI x, l2] st M = run 135 1 [l0, aI x, l2] (aI x :: st) M := e_ildn d135_0 rfl
theorem d135_1 : decode (cod 135) 1 = .ok (.iconst 0, 1) := by decide +kernel
theorem r135_1 (l0 l1 l2 : AV) (st : List AV) (M : Mm) : run 135 1 [l0, l1, l2] st M = run 135 2 [l0, l1, l2] (aI 0 :: st) M := e_iconst 0 d135_1 (by decide +kernel)
theorem d135_2 : decode (cod 135) 2 = .ok (.aload_n 0, 1) := by decide +kernel
theorem r135_2 (l1 l2 : AV) (xg xi : Nat) (st : List AV) (M : Mm) : run 135 2 [aR xg 12 xi, l1, l2] st M = run 135 3 [aR xg 12 xi, l1, l2] (aR xg 12 xi :: st) M := e_aldn d135_2 rfl
theorem d135_3 : decode (cod 135) 3 = .ok (.getfield 13, 3) := by decide +kernel
theorem r135_3 (l0 l1 l2 : AV) (xg xi : Nat) (st : List AV) (M : Mm) : run 135 3 [l0, l1, l2] (aR xg 12 xi :: st) M = run 135 6 [l0, l1, l2] (aR 4 14 0 :: st) M := e_gfr (fun g => (4, 14, 0)) d135_3 rfl rfl rfl
theorem d135_6 : decode (cod 135) 6 = .ok (.iconst 0, 1) := by decide +kernel
theorem r135_6 (l0 l1 l2 : AV) (st : List AV) (M : Mm) : run 135 6 [l0, l1, l2] st M = run 135 7 [l0, l1, l2] (aI 0 :: st) M := e_iconst 0 d135_6 (by decide +kernel)
theorem d135_7 : decode (cod 135) 7 = .ok (.iaload, 1) := by decide +kernel
theorem r135_7 (l0 l1 l2 : AV) (i : Int32) (xg xi : Nat) (st : List AV) (M : Mm) : run 135 7 [l0, l1, l2] (aI i :: aR xg 14 xi :: st) M = if vpB i 7 = true then run 135 8 [l0, l1, l2] (aI (M xg 14 xi i.toNatClampNeg) :: st) M else none := e_ial d135_7 rfl rfl
theorem d135_8 : decode (cod 135) 8 = .ok (.iconst 1, 1) := by decide +kernel
theorem r135_8 (l0 l1 l2 : AV) (st : List AV) (M : Mm) : run 135 8 [l0, l1, l2] st M = run 135 9 [l0, l1, l2] (aI 1 :: st) M := e_iconst 1 d135_8 (by decide +kernel)
theorem d135_9 : decode (cod 135) 9 = .ok (.isub, 1) := by decide +kernel
theorem r135_9 (l0 l1 l2 : AV) (a b : Int32) (st : List AV) (M : Mm) : run 135 9 [l0, l1, l2] (aI b :: aI a :: st) M = run 135 10 [l0, l1, l2] (aI (a - b) :: st) M := e_isub d135_9
theorem d135_10 : decode (cod 135) 10 = .ok (.invokestatic 100, 3) := by decide +kernel
theorem r135_10 (l0 l1 l2 : AV) (a0 : Int32) (a1 : Int32) (a2 : Int32) (M : Mm) : run 135 10 [l0, l1, l2] [aI a2, aI a1, aI a0] M = cbI (call 83 [aI a0, aI a1, aI a2] M) (fun v M => run 135 13 [l0, l1, l2] [aI v] M) := call_I (n := 3) rfl true d135_10 rfl rfl rfl rfl rfl rfl rfl
theorem d135_13 : decode (cod 135) 13 = .ok (.ifCond .ne 9, 3) := by decide +kernel
theorem r135_13 (l0 l1 l2 : AV) (a : Int32) (st : List AV) (M : Mm) : run 135 13 [l0, l1, l2] (aI a :: st) M = if a = 0 then run 135 16 [l0, l1, l2] st M else run 135 22 [l0, l1, l2] st M := e_ne1 22 d135_13 (by decide)
theorem d135_16 : decode (cod 135) 16 = .ok (.aload_n 0, 1) := by decide +kernel
theorem r135_16 (l1 l2 : AV) (xg xi : Nat) (st : List AV) (M : Mm) : run 135 16 [aR xg 12 xi, l1, l2] st M = run 135 17 [aR xg 12 xi, l1, l2] (aR xg 12 xi :: st) M := e_aldn d135_16 rfl
theorem d135_17 : decode (cod 135) 17 = .ok (.iconst (-1), 1) := by decide +kernel
theorem r135_17 (l0 l1 l2 : AV) (st : List AV) (M : Mm) : run 135 17 [l0, l1, l2] st M = run 135 18 [l0, l1, l2] (aI (-1) :: st) M := e_iconst (-1) d135_17 (by decide +kernel)
theorem d135_18 : decode (cod 135) 18 = .ok (.invokevirtual 89, 3) := by decide +kernel
theorem r135_18 (l0 l1 l2 : AV) (a0g a0i : Nat) (a1 : Int32) (M : Mm) : run 135 18 [l0, l1, l2] [aI a1, aR a0g 12 a0i] M = cbI (call 81 [aR a0g 12 a0i, aI a1] M) (fun v M => run 135 21 [l0, l1, l2] [aI v] M) := call_I (n := 2) rfl false d135_18 rfl rfl rfl rfl rfl rfl rfl
theorem d135_21 : decode (cod 135) 21 = .ok (.ireturn, 1) := by decide +kernel
theorem r135_21 (l0 l1 l2 : AV) (v : Int32) (M : Mm) : run 135 21 [l0, l1, l2] [aI v] M = some (some v, M) := e_iret d135_21 rfl
theorem d135_22 : decode (cod 135) 22 = .ok (.iload_n 2, 1) := by decide +kernel
theorem r135_22 (l0 l1 : AV) (x : Int32) (st : List AV) (M : Mm) : run 135 22 [l0, l1, aI x] st M = run 135 23 [l0, l1, aI x] (aI x :: st) M := e_ildn d135_22 rfl
theorem d135_23 : decode (cod 135) 23 = .ok (.tableswitch 88 0 2 #[25, 45, 67], 25) := by decide +kernel
theorem r135_23 (l0 l1 l2 : AV) (x : Int32) (st : List AV) (M : Mm) : run 135 23 [l0, l1, l2] (aI x :: st) M = if x = 0 then run 135 48 [l0, l1, l2] st M else if x = 1 then run 135 68 [l0, l1, l2] st M else if x = 2 then run 135 90 [l0, l1, l2] st M else run 135 111 [l0, l1, l2] st M := by
  rw [run_step d135_23 rfl]
  simp only [stpI, tsw]
  by_cases c0 : x = 0
  · subst c0
    rw [if_pos rfl]
    rfl
  rw [if_neg c0]
  by_cases c1 : x = 1
  · subst c1
    rw [if_pos rfl]
    rfl
  rw [if_neg c1]
  by_cases c2 : x = 2
  · subst c2
    rw [if_pos rfl]
    rfl
  rw [if_neg c2]
  have hx : x.toInt < 0 ∨ 2 < x.toInt := by
    have h : ∀ k : Int, ¬ x = Int32.ofInt k → -2147483648 ≤ k → k < 2147483648 → ¬ x.toInt = k := fun k hk hl hh e => hk (Int32.toInt_inj.mp (by rw [e, Int32.toInt_ofInt_of_le hl hh]))
    have fc0 := h 0 c0 (by decide) (by decide)
    have fc1 := h 1 c1 (by decide) (by decide)
    have fc2 := h 2 c2 (by decide) (by decide)
    omega
  rw [if_pos hx, jmp_run 111 (by decide)]
  rfl
theorem d135_48 : decode (cod 135) 48 = .ok (.aload_n 0, 1) := by decide +kernel
theorem r135_48 (l1 l2 : AV) (xg xi : Nat) (st : List AV) (M : Mm) : run 135 48 [aR xg 12 xi, l1, l2] st M = run 135 49 [aR xg 12 xi, l1, l2] (aR xg 12 xi :: st) M := e_aldn d135_48 rfl
theorem d135_49 : decode (cod 135) 49 = .ok (.getfield 28, 3) := by decide +kernel
theorem r135_49 (l0 l1 l2 : AV) (xg xi : Nat) (st : List AV) (M : Mm) : run 135 49 [l0, l1, l2] (aR xg 12 xi :: st) M = run 135 52 [l0, l1, l2] (aR 4 19 0 :: st) M := e_gfr (fun g => (4, 19, 0)) d135_49 rfl rfl rfl
theorem d135_52 : decode (cod 135) 52 = .ok (.iload_n 1, 1) := by decide +kernel
theorem r135_52 (l0 l2 : AV) (x : Int32) (st : List AV) (M : Mm) : run 135 52 [l0, aI x, l2] st M = run 135 53 [l0, aI x, l2] (aI x :: st) M := e_ildn d135_52 rfl
theorem d135_53 : decode (cod 135) 53 = .ok (.iaload, 1) := by decide +kernel
theorem r135_53 (l0 l1 l2 : AV) (i : Int32) (xg xi : Nat) (st : List AV) (M : Mm) : run 135 53 [l0, l1, l2] (aI i :: aR xg 19 xi :: st) M = if vpB i 3 = true then run 135 54 [l0, l1, l2] (aI (M xg 19 xi i.toNatClampNeg) :: st) M else none := e_ial d135_53 rfl rfl
theorem d135_54 : decode (cod 135) 54 = .ok (.ifCond .ne 7, 3) := by decide +kernel
theorem r135_54 (l0 l1 l2 : AV) (a : Int32) (st : List AV) (M : Mm) : run 135 54 [l0, l1, l2] (aI a :: st) M = if a = 0 then run 135 57 [l0, l1, l2] st M else run 135 61 [l0, l1, l2] st M := e_ne1 61 d135_54 (by decide)
theorem d135_57 : decode (cod 135) 57 = .ok (.iconst 0, 1) := by decide +kernel
theorem r135_57 (l0 l1 l2 : AV) (st : List AV) (M : Mm) : run 135 57 [l0, l1, l2] st M = run 135 58 [l0, l1, l2] (aI 0 :: st) M := e_iconst 0 d135_57 (by decide +kernel)
theorem d135_58 : decode (cod 135) 58 = .ok (.goto 9, 3) := by decide +kernel
theorem r135_58 (l0 l1 l2 : AV) (st : List AV) (M : Mm) : run 135 58 [l0, l1, l2] st M = run 135 67 [l0, l1, l2] st M := e_goto 67 d135_58 (by decide)
theorem d135_61 : decode (cod 135) 61 = .ok (.aload_n 0, 1) := by decide +kernel
theorem r135_61 (l1 l2 : AV) (xg xi : Nat) (st : List AV) (M : Mm) : run 135 61 [aR xg 12 xi, l1, l2] st M = run 135 62 [aR xg 12 xi, l1, l2] (aR xg 12 xi :: st) M := e_aldn d135_61 rfl
theorem d135_62 : decode (cod 135) 62 = .ok (.getfield 31, 3) := by decide +kernel
theorem r135_62 (l0 l1 l2 : AV) (xg xi : Nat) (st : List AV) (M : Mm) : run 135 62 [l0, l1, l2] (aR xg 12 xi :: st) M = run 135 65 [l0, l1, l2] (aR 4 20 0 :: st) M := e_gfr (fun g => (4, 20, 0)) d135_62 rfl rfl rfl
theorem d135_65 : decode (cod 135) 65 = .ok (.iload_n 1, 1) := by decide +kernel
theorem r135_65 (l0 l2 : AV) (x : Int32) (st : List AV) (M : Mm) : run 135 65 [l0, aI x, l2] st M = run 135 66 [l0, aI x, l2] (aI x :: st) M := e_ildn d135_65 rfl
theorem d135_66 : decode (cod 135) 66 = .ok (.iaload, 1) := by decide +kernel
theorem r135_66 (l0 l1 l2 : AV) (i : Int32) (xg xi : Nat) (st : List AV) (M : Mm) : run 135 66 [l0, l1, l2] (aI i :: aR xg 20 xi :: st) M = if vpB i 3 = true then run 135 67 [l0, l1, l2] (aI (M xg 20 xi i.toNatClampNeg) :: st) M else none := e_ial d135_66 rfl rfl
theorem d135_67 : decode (cod 135) 67 = .ok (.ireturn, 1) := by decide +kernel
theorem r135_67 (l0 l1 l2 : AV) (v : Int32) (M : Mm) : run 135 67 [l0, l1, l2] [aI v] M = some (some v, M) := e_iret d135_67 rfl
theorem d135_68 : decode (cod 135) 68 = .ok (.aload_n 0, 1) := by decide +kernel
theorem r135_68 (l1 l2 : AV) (xg xi : Nat) (st : List AV) (M : Mm) : run 135 68 [aR xg 12 xi, l1, l2] st M = run 135 69 [aR xg 12 xi, l1, l2] (aR xg 12 xi :: st) M := e_aldn d135_68 rfl
theorem d135_69 : decode (cod 135) 69 = .ok (.getfield 28, 3) := by decide +kernel
theorem r135_69 (l0 l1 l2 : AV) (xg xi : Nat) (st : List AV) (M : Mm) : run 135 69 [l0, l1, l2] (aR xg 12 xi :: st) M = run 135 72 [l0, l1, l2] (aR 4 19 0 :: st) M := e_gfr (fun g => (4, 19, 0)) d135_69 rfl rfl rfl
theorem d135_72 : decode (cod 135) 72 = .ok (.iload_n 1, 1) := by decide +kernel
theorem r135_72 (l0 l2 : AV) (x : Int32) (st : List AV) (M : Mm) : run 135 72 [l0, aI x, l2] st M = run 135 73 [l0, aI x, l2] (aI x :: st) M := e_ildn d135_72 rfl
theorem d135_73 : decode (cod 135) 73 = .ok (.iaload, 1) := by decide +kernel
theorem r135_73 (l0 l1 l2 : AV) (i : Int32) (xg xi : Nat) (st : List AV) (M : Mm) : run 135 73 [l0, l1, l2] (aI i :: aR xg 19 xi :: st) M = if vpB i 3 = true then run 135 74 [l0, l1, l2] (aI (M xg 19 xi i.toNatClampNeg) :: st) M else none := e_ial d135_73 rfl rfl
theorem d135_74 : decode (cod 135) 74 = .ok (.iconst 2, 1) := by decide +kernel
theorem r135_74 (l0 l1 l2 : AV) (st : List AV) (M : Mm) : run 135 74 [l0, l1, l2] st M = run 135 75 [l0, l1, l2] (aI 2 :: st) M := e_iconst 2 d135_74 (by decide +kernel)
theorem d135_75 : decode (cod 135) 75 = .ok (.if_icmp .ne 12, 3) := by decide +kernel
theorem r135_75 (l0 l1 l2 : AV) (a b : Int32) (st : List AV) (M : Mm) : run 135 75 [l0, l1, l2] (aI b :: aI a :: st) M = if a = b then run 135 78 [l0, l1, l2] st M else run 135 87 [l0, l1, l2] st M := e_ne2 87 d135_75 (by decide)
theorem d135_78 : decode (cod 135) 78 = .ok (.aload_n 0, 1) := by decide +kernel
theorem r135_78 (l1 l2 : AV) (xg xi : Nat) (st : List AV) (M : Mm) : run 135 78 [aR xg 12 xi, l1, l2] st M = run 135 79 [aR xg 12 xi, l1, l2] (aR xg 12 xi :: st) M := e_aldn d135_78 rfl
theorem d135_79 : decode (cod 135) 79 = .ok (.getfield 34, 3) := by decide +kernel
theorem r135_79 (l0 l1 l2 : AV) (xg xi : Nat) (st : List AV) (M : Mm) : run 135 79 [l0, l1, l2] (aR xg 12 xi :: st) M = run 135 82 [l0, l1, l2] (aR 4 21 0 :: st) M := e_gfr (fun g => (4, 21, 0)) d135_79 rfl rfl rfl
theorem d135_82 : decode (cod 135) 82 = .ok (.iload_n 1, 1) := by decide +kernel
theorem r135_82 (l0 l2 : AV) (x : Int32) (st : List AV) (M : Mm) : run 135 82 [l0, aI x, l2] st M = run 135 83 [l0, aI x, l2] (aI x :: st) M := e_ildn d135_82 rfl
theorem d135_83 : decode (cod 135) 83 = .ok (.iaload, 1) := by decide +kernel
theorem r135_83 (l0 l1 l2 : AV) (i : Int32) (xg xi : Nat) (st : List AV) (M : Mm) : run 135 83 [l0, l1, l2] (aI i :: aR xg 21 xi :: st) M = if vpB i 3 = true then run 135 84 [l0, l1, l2] (aI (M xg 21 xi i.toNatClampNeg) :: st) M else none := e_ial d135_83 rfl rfl
theorem d135_84 : decode (cod 135) 84 = .ok (.goto 5, 3) := by decide +kernel
theorem r135_84 (l0 l1 l2 : AV) (st : List AV) (M : Mm) : run 135 84 [l0, l1, l2] st M = run 135 89 [l0, l1, l2] st M := e_goto 89 d135_84 (by decide)
theorem d135_87 : decode (cod 135) 87 = .ok (.bipush (-9), 2) := by decide +kernel
theorem r135_87 (l0 l1 l2 : AV) (st : List AV) (M : Mm) : run 135 87 [l0, l1, l2] st M = run 135 89 [l0, l1, l2] (aI (-9) :: st) M := e_bipush (-9) d135_87 (by decide +kernel)
theorem d135_89 : decode (cod 135) 89 = .ok (.ireturn, 1) := by decide +kernel
theorem r135_89 (l0 l1 l2 : AV) (v : Int32) (M : Mm) : run 135 89 [l0, l1, l2] [aI v] M = some (some v, M) := e_iret d135_89 rfl
theorem d135_90 : decode (cod 135) 90 = .ok (.aload_n 0, 1) := by decide +kernel
theorem r135_90 (l1 l2 : AV) (xg xi : Nat) (st : List AV) (M : Mm) : run 135 90 [aR xg 12 xi, l1, l2] st M = run 135 91 [aR xg 12 xi, l1, l2] (aR xg 12 xi :: st) M := e_aldn d135_90 rfl
theorem d135_91 : decode (cod 135) 91 = .ok (.getfield 28, 3) := by decide +kernel
theorem r135_91 (l0 l1 l2 : AV) (xg xi : Nat) (st : List AV) (M : Mm) : run 135 91 [l0, l1, l2] (aR xg 12 xi :: st) M = run 135 94 [l0, l1, l2] (aR 4 19 0 :: st) M := e_gfr (fun g => (4, 19, 0)) d135_91 rfl rfl rfl
theorem d135_94 : decode (cod 135) 94 = .ok (.iload_n 1, 1) := by decide +kernel
theorem r135_94 (l0 l2 : AV) (x : Int32) (st : List AV) (M : Mm) : run 135 94 [l0, aI x, l2] st M = run 135 95 [l0, aI x, l2] (aI x :: st) M := e_ildn d135_94 rfl
theorem d135_95 : decode (cod 135) 95 = .ok (.iaload, 1) := by decide +kernel
theorem r135_95 (l0 l1 l2 : AV) (i : Int32) (xg xi : Nat) (st : List AV) (M : Mm) : run 135 95 [l0, l1, l2] (aI i :: aR xg 19 xi :: st) M = if vpB i 3 = true then run 135 96 [l0, l1, l2] (aI (M xg 19 xi i.toNatClampNeg) :: st) M else none := e_ial d135_95 rfl rfl
theorem d135_96 : decode (cod 135) 96 = .ok (.iconst 2, 1) := by decide +kernel
theorem r135_96 (l0 l1 l2 : AV) (st : List AV) (M : Mm) : run 135 96 [l0, l1, l2] st M = run 135 97 [l0, l1, l2] (aI 2 :: st) M := e_iconst 2 d135_96 (by decide +kernel)
theorem d135_97 : decode (cod 135) 97 = .ok (.if_icmp .ne 12, 3) := by decide +kernel
theorem r135_97 (l0 l1 l2 : AV) (a b : Int32) (st : List AV) (M : Mm) : run 135 97 [l0, l1, l2] (aI b :: aI a :: st) M = if a = b then run 135 100 [l0, l1, l2] st M else run 135 109 [l0, l1, l2] st M := e_ne2 109 d135_97 (by decide)
theorem d135_100 : decode (cod 135) 100 = .ok (.aload_n 0, 1) := by decide +kernel
theorem r135_100 (l1 l2 : AV) (xg xi : Nat) (st : List AV) (M : Mm) : run 135 100 [aR xg 12 xi, l1, l2] st M = run 135 101 [aR xg 12 xi, l1, l2] (aR xg 12 xi :: st) M := e_aldn d135_100 rfl
theorem d135_101 : decode (cod 135) 101 = .ok (.getfield 37, 3) := by decide +kernel
theorem r135_101 (l0 l1 l2 : AV) (xg xi : Nat) (st : List AV) (M : Mm) : run 135 101 [l0, l1, l2] (aR xg 12 xi :: st) M = run 135 104 [l0, l1, l2] (aR 4 22 0 :: st) M := e_gfr (fun g => (4, 22, 0)) d135_101 rfl rfl rfl
theorem d135_104 : decode (cod 135) 104 = .ok (.iload_n 1, 1) := by decide +kernel
theorem r135_104 (l0 l2 : AV) (x : Int32) (st : List AV) (M : Mm) : run 135 104 [l0, aI x, l2] st M = run 135 105 [l0, aI x, l2] (aI x :: st) M := e_ildn d135_104 rfl
theorem d135_105 : decode (cod 135) 105 = .ok (.iaload, 1) := by decide +kernel
theorem r135_105 (l0 l1 l2 : AV) (i : Int32) (xg xi : Nat) (st : List AV) (M : Mm) : run 135 105 [l0, l1, l2] (aI i :: aR xg 22 xi :: st) M = if vpB i 3 = true then run 135 106 [l0, l1, l2] (aI (M xg 22 xi i.toNatClampNeg) :: st) M else none := e_ial d135_105 rfl rfl
theorem d135_106 : decode (cod 135) 106 = .ok (.goto 4, 3) := by decide +kernel
theorem r135_106 (l0 l1 l2 : AV) (st : List AV) (M : Mm) : run 135 106 [l0, l1, l2] st M = run 135 110 [l0, l1, l2] st M := e_goto 110 d135_106 (by decide)
theorem d135_109 : decode (cod 135) 109 = .ok (.iconst 0, 1) := by decide +kernel
theorem r135_109 (l0 l1 l2 : AV) (st : List AV) (M : Mm) : run 135 109 [l0, l1, l2] st M = run 135 110 [l0, l1, l2] (aI 0 :: st) M := e_iconst 0 d135_109 (by decide +kernel)
theorem d135_110 : decode (cod 135) 110 = .ok (.ireturn, 1) := by decide +kernel
theorem r135_110 (l0 l1 l2 : AV) (v : Int32) (M : Mm) : run 135 110 [l0, l1, l2] [aI v] M = some (some v, M) := e_iret d135_110 rfl
theorem d135_111 : decode (cod 135) 111 = .ok (.aload_n 0, 1) := by decide +kernel
theorem r135_111 (l1 l2 : AV) (xg xi : Nat) (st : List AV) (M : Mm) : run 135 111 [aR xg 12 xi, l1, l2] st M = run 135 112 [aR xg 12 xi, l1, l2] (aR xg 12 xi :: st) M := e_aldn d135_111 rfl
theorem d135_112 : decode (cod 135) 112 = .ok (.bipush (-2), 2) := by decide +kernel
theorem r135_112 (l0 l1 l2 : AV) (st : List AV) (M : Mm) : run 135 112 [l0, l1, l2] st M = run 135 114 [l0, l1, l2] (aI (-2) :: st) M := e_bipush (-2) d135_112 (by decide +kernel)
theorem d135_114 : decode (cod 135) 114 = .ok (.invokevirtual 89, 3) := by decide +kernel
theorem r135_114 (l0 l1 l2 : AV) (a0g a0i : Nat) (a1 : Int32) (M : Mm) : run 135 114 [l0, l1, l2] [aI a1, aR a0g 12 a0i] M = cbI (call 81 [aR a0g 12 a0i, aI a1] M) (fun v M => run 135 117 [l0, l1, l2] [aI v] M) := call_I (n := 2) rfl false d135_114 rfl rfl rfl rfl rfl rfl rfl
theorem d135_117 : decode (cod 135) 117 = .ok (.ireturn, 1) := by decide +kernel
theorem r135_117 (l0 l1 l2 : AV) (v : Int32) (M : Mm) : run 135 117 [l0, l1, l2] [aI v] M = some (some v, M) := e_iret d135_117 rfl
theorem c136 (g0 i0 : Nat) (x1 : Int32) (x2 : Int32) (M : Mm) : call 136 [aR g0 12 i0, aI x1, aI x2] M = run 136 0 [aR g0 12 i0, aI x1, aI x2, none] [] M := call_run 136 _ _
theorem d136_0 : decode (cod 136) 0 = .ok (.iload_n 1, 1) := by decide +kernel
theorem r136_0 (l0 l2 l3 : AV) (x : Int32) (st : List AV) (M : Mm) : run 136 0 [l0, aI x, l2, l3] st M = run 136 1 [l0, aI x, l2, l3] (aI x :: st) M := e_ildn d136_0 rfl
theorem d136_1 : decode (cod 136) 1 = .ok (.iconst 0, 1) := by decide +kernel
theorem r136_1 (l0 l1 l2 l3 : AV) (st : List AV) (M : Mm) : run 136 1 [l0, l1, l2, l3] st M = run 136 2 [l0, l1, l2, l3] (aI 0 :: st) M := e_iconst 0 d136_1 (by decide +kernel)
theorem d136_2 : decode (cod 136) 2 = .ok (.sipush 240, 3) := by decide +kernel
theorem r136_2 (l0 l1 l2 l3 : AV) (st : List AV) (M : Mm) : run 136 2 [l0, l1, l2, l3] st M = run 136 5 [l0, l1, l2, l3] (aI 240 :: st) M := e_sipush 240 d136_2 (by decide +kernel)
theorem d136_5 : decode (cod 136) 5 = .ok (.invokestatic 82, 3) := by decide +kernel
theorem r136_5 (l0 l1 l2 l3 : AV) (a0 : Int32) (a1 : Int32) (a2 : Int32) (M : Mm) : run 136 5 [l0, l1, l2, l3] [aI a2, aI a1, aI a0] M = cbI (call 84 [aI a0, aI a1, aI a2] M) (fun v M => run 136 8 [l0, l1, l2, l3] [aI v] M) := call_I (n := 3) rfl true d136_5 rfl rfl rfl rfl rfl rfl rfl
theorem d136_8 : decode (cod 136) 8 = .ok (.istore_n 3, 1) := by decide +kernel
theorem r136_8 (l0 l1 l2 l3 : AV) (x : Int32) (st : List AV) (M : Mm) : run 136 8 [l0, l1, l2, l3] (aI x :: st) M = run 136 9 [l0, l1, l2, aI x] st M := e_istn [l0, l1, l2, aI x] d136_8 rfl rfl
theorem d136_9 : decode (cod 136) 9 = .ok (.iload_n 3, 1) := by decide +kernel
theorem r136_9 (l0 l1 l2 : AV) (x : Int32) (st : List AV) (M : Mm) : run 136 9 [l0, l1, l2, aI x] st M = run 136 10 [l0, l1, l2, aI x] (aI x :: st) M := e_ildn d136_9 rfl
theorem d136_10 : decode (cod 136) 10 = .ok (.ifCond .ne 15, 3) := by decide +kernel
theorem r136_10 (l0 l1 l2 l3 : AV) (a : Int32) (st : List AV) (M : Mm) : run 136 10 [l0, l1, l2, l3] (aI a :: st) M = if a = 0 then run 136 13 [l0, l1, l2, l3] st M else run 136 25 [l0, l1, l2, l3] st M := e_ne1 25 d136_10 (by decide)
theorem d136_13 : decode (cod 136) 13 = .ok (.iload_n 2, 1) := by decide +kernel
theorem r136_13 (l0 l1 l3 : AV) (x : Int32) (st : List AV) (M : Mm) : run 136 13 [l0, l1, aI x, l3] st M = run 136 14 [l0, l1, aI x, l3] (aI x :: st) M := e_ildn d136_13 rfl
theorem d136_14 : decode (cod 136) 14 = .ok (.iconst 0, 1) := by decide +kernel
theorem r136_14 (l0 l1 l2 l3 : AV) (st : List AV) (M : Mm) : run 136 14 [l0, l1, l2, l3] st M = run 136 15 [l0, l1, l2, l3] (aI 0 :: st) M := e_iconst 0 d136_14 (by decide +kernel)
theorem d136_15 : decode (cod 136) 15 = .ok (.iconst 5, 1) := by decide +kernel
theorem r136_15 (l0 l1 l2 l3 : AV) (st : List AV) (M : Mm) : run 136 15 [l0, l1, l2, l3] st M = run 136 16 [l0, l1, l2, l3] (aI 5 :: st) M := e_iconst 5 d136_15 (by decide +kernel)
theorem d136_16 : decode (cod 136) 16 = .ok (.invokestatic 100, 3) := by decide +kernel
theorem r136_16 (l0 l1 l2 l3 : AV) (a0 : Int32) (a1 : Int32) (a2 : Int32) (M : Mm) : run 136 16 [l0, l1, l2, l3] [aI a2, aI a1, aI a0] M = cbI (call 83 [aI a0, aI a1, aI a2] M) (fun v M => run 136 19 [l0, l1, l2, l3] [aI v] M) := call_I (n := 3) rfl true d136_16 rfl rfl rfl rfl rfl rfl rfl
theorem d136_19 : decode (cod 136) 19 = .ok (.ifCond .ne 6, 3) := by decide +kernel
theorem r136_19 (l0 l1 l2 l3 : AV) (a : Int32) (st : List AV) (M : Mm) : run 136 19 [l0, l1, l2, l3] (aI a :: st) M = if a = 0 then run 136 22 [l0, l1, l2, l3] st M else run 136 25 [l0, l1, l2, l3] st M := e_ne1 25 d136_19 (by decide)
theorem d136_22 : decode (cod 136) 22 = .ok (.bipush (-2), 2) := by decide +kernel
theorem r136_22 (l0 l1 l2 l3 : AV) (st : List AV) (M : Mm) : run 136 22 [l0, l1, l2, l3] st M = run 136 24 [l0, l1, l2, l3] (aI (-2) :: st) M := e_bipush (-2) d136_22 (by decide +kernel)
theorem d136_24 : decode (cod 136) 24 = .ok (.istore_n 3, 1) := by decide +kernel
theorem r136_24 (l0 l1 l2 l3 : AV) (x : Int32) (st : List AV) (M : Mm) : run 136 24 [l0, l1, l2, l3] (aI x :: st) M = run 136 25 [l0, l1, l2, aI x] st M := e_istn [l0, l1, l2, aI x] d136_24 rfl rfl
theorem d136_25 : decode (cod 136) 25 = .ok (.iload_n 3, 1) := by decide +kernel
theorem r136_25 (l0 l1 l2 : AV) (x : Int32) (st : List AV) (M : Mm) : run 136 25 [l0, l1, l2, aI x] st M = run 136 26 [l0, l1, l2, aI x] (aI x :: st) M := e_ildn d136_25 rfl
theorem d136_26 : decode (cod 136) 26 = .ok (.ifCond .eq 9, 3) := by decide +kernel
theorem r136_26 (l0 l1 l2 l3 : AV) (a : Int32) (st : List AV) (M : Mm) : run 136 26 [l0, l1, l2, l3] (aI a :: st) M = if a = 0 then run 136 35 [l0, l1, l2, l3] st M else run 136 29 [l0, l1, l2, l3] st M := e_eq1 35 d136_26 (by decide)
theorem d136_29 : decode (cod 136) 29 = .ok (.aload_n 0, 1) := by decide +kernel
theorem r136_29 (l1 l2 l3 : AV) (xg xi : Nat) (st : List AV) (M : Mm) : run 136 29 [aR xg 12 xi, l1, l2, l3] st M = run 136 30 [aR xg 12 xi, l1, l2, l3] (aR xg 12 xi :: st) M := e_aldn d136_29 rfl
theorem d136_30 : decode (cod 136) 30 = .ok (.iload_n 3, 1) := by decide +kernel
theorem r136_30 (l0 l1 l2 : AV) (x : Int32) (st : List AV) (M : Mm) : run 136 30 [l0, l1, l2, aI x] st M = run 136 31 [l0, l1, l2, aI x] (aI x :: st) M := e_ildn d136_30 rfl
theorem d136_31 : decode (cod 136) 31 = .ok (.invokevirtual 89, 3) := by decide +kernel
theorem r136_31 (l0 l1 l2 l3 : AV) (a0g a0i : Nat) (a1 : Int32) (M : Mm) : run 136 31 [l0, l1, l2, l3] [aI a1, aR a0g 12 a0i] M = cbI (call 81 [aR a0g 12 a0i, aI a1] M) (fun v M => run 136 34 [l0, l1, l2, l3] [aI v] M) := call_I (n := 2) rfl false d136_31 rfl rfl rfl rfl rfl rfl rfl
theorem d136_34 : decode (cod 136) 34 = .ok (.ireturn, 1) := by decide +kernel
theorem r136_34 (l0 l1 l2 l3 : AV) (v : Int32) (M : Mm) : run 136 34 [l0, l1, l2, l3] [aI v] M = some (some v, M) := e_iret d136_34 rfl
theorem d136_35 : decode (cod 136) 35 = .ok (.aload_n 0, 1) := by decide +kernel
theorem r136_35 (l1 l2 l3 : AV) (xg xi : Nat) (st : List AV) (M : Mm) : run 136 35 [aR xg 12 xi, l1, l2, l3] st M = run 136 36 [aR xg 12 xi, l1, l2, l3] (aR xg 12 xi :: st) M := e_aldn d136_35 rfl
theorem d136_36 : decode (cod 136) 36 = .ok (.iload_n 1, 1) := by decide +kernel
theorem r136_36 (l0 l2 l3 : AV) (x : Int32) (st : List AV) (M : Mm) : run 136 36 [l0, aI x, l2, l3] st M = run 136 37 [l0, aI x, l2, l3] (aI x :: st) M := e_ildn d136_36 rfl
theorem d136_37 : decode (cod 136) 37 = .ok (.invokevirtual 284, 3) := by decide +kernel
theorem r136_37 (l0 l1 l2 l3 : AV) (a0g a0i : Nat) (a1 : Int32) (M : Mm) : run 136 37 [l0, l1, l2, l3] [aI a1, aR a0g 12 a0i] M = cbV (call 130 [aR a0g 12 a0i, aI a1] M) (fun M => run 136 40 [l0, l1, l2, l3] [] M) := call_V (n := 2) rfl false d136_37 rfl rfl rfl rfl rfl rfl rfl
theorem d136_40 : decode (cod 136) 40 = .ok (.iload_n 2, 1) := by decide +kernel
theorem r136_40 (l0 l1 l3 : AV) (x : Int32) (st : List AV) (M : Mm) : run 136 40 [l0, l1, aI x, l3] st M = run 136 41 [l0, l1, aI x, l3] (aI x :: st) M := e_ildn d136_40 rfl
theorem d136_41 : decode (cod 136) 41 = .ok (.tableswitch 60 0 4 #[35, 40, 45, 50, 55], 35) := by decide +kernel
theorem r136_41 (l0 l1 l2 l3 : AV) (x : Int32) (st : List AV) (M : Mm) : run 136 41 [l0, l1, l2, l3] (aI x :: st) M = if x = 0 then run 136 76 [l0, l1, l2, l3] st M else if x = 1 then run 136 81 [l0, l1, l2, l3] st M else if x = 2 then run 136 86 [l0, l1, l2, l3] st M else if x = 3 then run 136 91 [l0, l1, l2, l3] st M else if x = 4 then run 136 96 [l0, l1, l2, l3] st M else run 136 101 [l0, l1, l2, l3] st M := by
  rw [run_step d136_41 rfl]
  simp only [stpI, tsw]
  by_cases c0 : x = 0
  · subst c0
    rw [if_pos rfl]
    rfl
  rw [if_neg c0]
  by_cases c1 : x = 1
  · subst c1
    rw [if_pos rfl]
    rfl
  rw [if_neg c1]
  by_cases c2 : x = 2
  · subst c2
    rw [if_pos rfl]
    rfl
  rw [if_neg c2]
  by_cases c3 : x = 3
  · subst c3
    rw [if_pos rfl]
    rfl
  rw [if_neg c3]
  by_cases c4 : x = 4
  · subst c4
    rw [if_pos rfl]
    rfl
  rw [if_neg c4]
  have hx : x.toInt < 0 ∨ 4 < x.toInt := by
    have h : ∀ k : Int, ¬ x = Int32.ofInt k → -2147483648 ≤ k → k < 2147483648 → ¬ x.toInt = k := fun k hk hl hh e => hk (Int32.toInt_inj.mp (by rw [e, Int32.toInt_ofInt_of_le hl hh]))
    have fc0 := h 0 c0 (by decide) (by decide)
    have fc1 := h 1 c1 (by decide) (by decide)
    have fc2 := h 2 c2 (by decide) (by decide)
    have fc3 := h 3 c3 (by decide) (by decide)
    have fc4 := h 4 c4 (by decide) (by decide)
    omega
  rw [if_pos hx, jmp_run 101 (by decide)]
  rfl
theorem d136_76 : decode (cod 136) 76 = .ok (.aload_n 0, 1) := by decide +kernel
theorem r136_76 (l1 l2 l3 : AV) (xg xi : Nat) (st : List AV) (M : Mm) : run 136 76 [aR xg 12 xi, l1, l2, l3] st M = run 136 77 [aR xg 12 xi, l1, l2, l3] (aR xg 12 xi :: st) M := e_aldn d136_76 rfl
theorem d136_77 : decode (cod 136) 77 = .ok (.getfield 242, 3) := by decide +kernel
theorem r136_77 (l0 l1 l2 l3 : AV) (xg xi : Nat) (st : List AV) (M : Mm) : run 136 77 [l0, l1, l2, l3] (aR xg 12 xi :: st) M = run 136 80 [l0, l1, l2, l3] (aI (M xg 12 xi 29) :: st) M := e_gfi d136_77 rfl rfl rfl
theorem d136_80 : decode (cod 136) 80 = .ok (.ireturn, 1) := by decide +kernel
theorem r136_80 (l0 l1 l2 l3 : AV) (v : Int32) (M : Mm) : run 136 80 [l0, l1, l2, l3] [aI v] M = some (some v, M) := e_iret d136_80 rfl
theorem d136_81 : decode (cod 136) 81 = .ok (.aload_n 0, 1) := by decide +kernel
theorem r136_81 (l1 l2 l3 : AV) (xg xi : Nat) (st : List AV) (M : Mm) : run 136 81 [aR xg 12 xi, l1, l2, l3] st M = run 136 82 [aR xg 12 xi, l1, l2, l3] (aR xg 12 xi :: st) M := e_aldn d136_81 rfl
theorem d136_82 : decode (cod 136) 82 = .ok (.invokevirtual 245, 3) := by decide +kernel
theorem r136_82 (l0 l1 l2 l3 : AV) (a0g a0i : Nat) (M : Mm) : run 136 82 [l0, l1, l2, l3] [aR a0g 12 a0i] M = cbI (call 125 [aR a0g 12 a0i] M) (fun v M => run 136 85 [l0, l1, l2, l3] [aI v] M) := call_I (n := 1) rfl false d136_82 rfl rfl rfl rfl rfl rfl rfl
theorem d136_85 : decode (cod 136) 85 = .ok (.ireturn, 1) := by decide +kernel
theorem r136_85 (l0 l1 l2 l3 : AV) (v : Int32) (M : Mm) : run 136 85 [l0, l1, l2, l3] [aI v] M = some (some v, M) := e_iret d136_85 rfl
theorem d136_86 : decode (cod 136) 86 = .ok (.aload_n 0, 1) := by decide +kernel
theorem r136_86 (l1 l2 l3 : AV) (xg xi : Nat) (st : List AV) (M : Mm) : run 136 86 [aR xg 12 xi, l1, l2, l3] st M = run 136 87 [aR xg 12 xi, l1, l2, l3] (aR xg 12 xi :: st) M := e_aldn d136_86 rfl
theorem d136_87 : decode (cod 136) 87 = .ok (.getfield 224, 3) := by decide +kernel
theorem r136_87 (l0 l1 l2 l3 : AV) (xg xi : Nat) (st : List AV) (M : Mm) : run 136 87 [l0, l1, l2, l3] (aR xg 12 xi :: st) M = run 136 90 [l0, l1, l2, l3] (aI (M xg 12 xi 30) :: st) M := e_gfi d136_87 rfl rfl rfl
theorem d136_90 : decode (cod 136) 90 = .ok (.ireturn, 1) := by decide +kernel
theorem r136_90 (l0 l1 l2 l3 : AV) (v : Int32) (M : Mm) : run 136 90 [l0, l1, l2, l3] [aI v] M = some (some v, M) := e_iret d136_90 rfl
theorem d136_91 : decode (cod 136) 91 = .ok (.aload_n 0, 1) := by decide +kernel
theorem r136_91 (l1 l2 l3 : AV) (xg xi : Nat) (st : List AV) (M : Mm) : run 136 91 [aR xg 12 xi, l1, l2, l3] st M = run 136 92 [aR xg 12 xi, l1, l2, l3] (aR xg 12 xi :: st) M := e_aldn d136_91 rfl
theorem d136_92 : decode (cod 136) 92 = .ok (.getfield 218, 3) := by decide +kernel
theorem r136_92 (l0 l1 l2 l3 : AV) (xg xi : Nat) (st : List AV) (M : Mm) : run 136 92 [l0, l1, l2, l3] (aR xg 12 xi :: st) M = run 136 95 [l0, l1, l2, l3] (aI (M xg 12 xi 31) :: st) M := e_gfi d136_92 rfl rfl rfl
theorem d136_95 : decode (cod 136) 95 = .ok (.ireturn, 1) := by decide +kernel
theorem r136_95 (l0 l1 l2 l3 : AV) (v : Int32) (M : Mm) : run 136 95 [l0, l1, l2, l3] [aI v] M = some (some v, M) := e_iret d136_95 rfl
theorem d136_96 : decode (cod 136) 96 = .ok (.aload_n 0, 1) := by decide +kernel
theorem r136_96 (l1 l2 l3 : AV) (xg xi : Nat) (st : List AV) (M : Mm) : run 136 96 [aR xg 12 xi, l1, l2, l3] st M = run 136 97 [aR xg 12 xi, l1, l2, l3] (aR xg 12 xi :: st) M := e_aldn d136_96 rfl
theorem d136_97 : decode (cod 136) 97 = .ok (.getfield 227, 3) := by decide +kernel
theorem r136_97 (l0 l1 l2 l3 : AV) (xg xi : Nat) (st : List AV) (M : Mm) : run 136 97 [l0, l1, l2, l3] (aR xg 12 xi :: st) M = run 136 100 [l0, l1, l2, l3] (aI (M xg 12 xi 32) :: st) M := e_gfi d136_97 rfl rfl rfl
theorem d136_100 : decode (cod 136) 100 = .ok (.ireturn, 1) := by decide +kernel
theorem r136_100 (l0 l1 l2 l3 : AV) (v : Int32) (M : Mm) : run 136 100 [l0, l1, l2, l3] [aI v] M = some (some v, M) := e_iret d136_100 rfl
theorem d136_101 : decode (cod 136) 101 = .ok (.aload_n 0, 1) := by decide +kernel
theorem r136_101 (l1 l2 l3 : AV) (xg xi : Nat) (st : List AV) (M : Mm) : run 136 101 [aR xg 12 xi, l1, l2, l3] st M = run 136 102 [aR xg 12 xi, l1, l2, l3] (aR xg 12 xi :: st) M := e_aldn d136_101 rfl
theorem d136_102 : decode (cod 136) 102 = .ok (.getfield 278, 3) := by decide +kernel
theorem r136_102 (l0 l1 l2 l3 : AV) (xg xi : Nat) (st : List AV) (M : Mm) : run 136 102 [l0, l1, l2, l3] (aR xg 12 xi :: st) M = run 136 105 [l0, l1, l2, l3] (aI (M xg 12 xi 40) :: st) M := e_gfi d136_102 rfl rfl rfl
theorem d136_105 : decode (cod 136) 105 = .ok (.ireturn, 1) := by decide +kernel
theorem r136_105 (l0 l1 l2 l3 : AV) (v : Int32) (M : Mm) : run 136 105 [l0, l1, l2, l3] [aI v] M = some (some v, M) := e_iret d136_105 rfl
theorem c137 (g0 i0 : Nat) (x1 : Int32) (x2 : Int32) (M : Mm) : call 137 [aR g0 12 i0, aI x1, aI x2] M = run 137 0 [aR g0 12 i0, aI x1, aI x2, none] [] M := call_run 137 _ _
theorem d137_0 : decode (cod 137) 0 = .ok (.iload_n 1, 1) := by decide +kernel
theorem r137_0 (l0 l2 l3 : AV) (x : Int32) (st : List AV) (M : Mm) : run 137 0 [l0, aI x, l2, l3] st M = run 137 1 [l0, aI x, l2, l3] (aI x :: st) M := e_ildn d137_0 rfl
theorem d137_1 : decode (cod 137) 1 = .ok (.iconst 0, 1) := by decide +kernel
theorem r137_1 (l0 l1 l2 l3 : AV) (st : List AV) (M : Mm) : run 137 1 [l0, l1, l2, l3] st M = run 137 2 [l0, l1, l2, l3] (aI 0 :: st) M := e_iconst 0 d137_1 (by decide +kernel)
theorem d137_2 : decode (cod 137) 2 = .ok (.sipush 240, 3) := by decide +kernel
theorem r137_2 (l0 l1 l2 l3 : AV) (st : List AV) (M : Mm) : run 137 2 [l0, l1, l2, l3] st M = run 137 5 [l0, l1, l2, l3] (aI 240 :: st) M := e_sipush 240 d137_2 (by decide +kernel)
theorem d137_5 : decode (cod 137) 5 = .ok (.invokestatic 82, 3) := by decide +kernel
theorem r137_5 (l0 l1 l2 l3 : AV) (a0 : Int32) (a1 : Int32) (a2 : Int32) (M : Mm) : run 137 5 [l0, l1, l2, l3] [aI a2, aI a1, aI a0] M = cbI (call 84 [aI a0, aI a1, aI a2] M) (fun v M => run 137 8 [l0, l1, l2, l3] [aI v] M) := call_I (n := 3) rfl true d137_5 rfl rfl rfl rfl rfl rfl rfl
theorem d137_8 : decode (cod 137) 8 = .ok (.istore_n 3, 1) := by decide +kernel
theorem r137_8 (l0 l1 l2 l3 : AV) (x : Int32) (st : List AV) (M : Mm) : run 137 8 [l0, l1, l2, l3] (aI x :: st) M = run 137 9 [l0, l1, l2, aI x] st M := e_istn [l0, l1, l2, aI x] d137_8 rfl rfl
theorem d137_9 : decode (cod 137) 9 = .ok (.iload_n 3, 1) := by decide +kernel
theorem r137_9 (l0 l1 l2 : AV) (x : Int32) (st : List AV) (M : Mm) : run 137 9 [l0, l1, l2, aI x] st M = run 137 10 [l0, l1, l2, aI x] (aI x :: st) M := e_ildn d137_9 rfl
theorem d137_10 : decode (cod 137) 10 = .ok (.ifCond .ne 13, 3) := by decide +kernel
theorem r137_10 (l0 l1 l2 l3 : AV) (a : Int32) (st : List AV) (M : Mm) : run 137 10 [l0, l1, l2, l3] (aI a :: st) M = if a = 0 then run 137 13 [l0, l1, l2, l3] st M else run 137 23 [l0, l1, l2, l3] st M := e_ne1 23 d137_10 (by decide)
theorem d137_13 : decode (cod 137) 13 = .ok (.aload_n 0, 1) := by decide +kernel
theorem r137_13 (l1 l2 l3 : AV) (xg xi : Nat) (st : List AV) (M : Mm) : run 137 13 [aR xg 12 xi, l1, l2, l3] st M = run 137 14 [aR xg 12 xi, l1, l2, l3] (aR xg 12 xi :: st) M := e_aldn d137_13 rfl
theorem d137_14 : decode (cod 137) 14 = .ok (.iload_n 2, 1) := by decide +kernel
theorem r137_14 (l0 l1 l3 : AV) (x : Int32) (st : List AV) (M : Mm) : run 137 14 [l0, l1, aI x, l3] st M = run 137 15 [l0, l1, aI x, l3] (aI x :: st) M := e_ildn d137_14 rfl
theorem d137_15 : decode (cod 137) 15 = .ok (.invokevirtual 281, 3) := by decide +kernel
theorem r137_15 (l0 l1 l2 l3 : AV) (a0g a0i : Nat) (a1 : Int32) (M : Mm) : run 137 15 [l0, l1, l2, l3] [aI a1, aR a0g 12 a0i] M = cbI (call 85 [aR a0g 12 a0i, aI a1] M) (fun v M => run 137 18 [l0, l1, l2, l3] [aI v] M) := call_I (n := 2) rfl false d137_15 rfl rfl rfl rfl rfl rfl rfl
theorem d137_18 : decode (cod 137) 18 = .ok (.ifCond .ne 5, 3) := by decide +kernel
theorem r137_18 (l0 l1 l2 l3 : AV) (a : Int32) (st : List AV) (M : Mm) : run 137 18 [l0, l1, l2, l3] (aI a :: st) M = if a = 0 then run 137 21 [l0, l1, l2, l3] st M else run 137 23 [l0, l1, l2, l3] st M := e_ne1 23 d137_18 (by decide)
theorem d137_21 : decode (cod 137) 21 = .ok (.iconst (-1), 1) := by decide +kernel
theorem r137_21 (l0 l1 l2 l3 : AV) (st : List AV) (M : Mm) : run 137 21 [l0, l1, l2, l3] st M = run 137 22 [l0, l1, l2, l3] (aI (-1) :: st) M := e_iconst (-1) d137_21 (by decide +kernel)
theorem d137_22 : decode (cod 137) 22 = .ok (.istore_n 3, 1) := by decide +kernel
theorem r137_22 (l0 l1 l2 l3 : AV) (x : Int32) (st : List AV) (M : Mm) : run 137 22 [l0, l1, l2, l3] (aI x :: st) M = run 137 23 [l0, l1, l2, aI x] st M := e_istn [l0, l1, l2, aI x] d137_22 rfl rfl
theorem d137_23 : decode (cod 137) 23 = .ok (.iload_n 3, 1) := by decide +kernel
theorem r137_23 (l0 l1 l2 : AV) (x : Int32) (st : List AV) (M : Mm) : run 137 23 [l0, l1, l2, aI x] st M = run 137 24 [l0, l1, l2, aI x] (aI x :: st) M := e_ildn d137_23 rfl
theorem d137_24 : decode (cod 137) 24 = .ok (.ifCond .eq 9, 3) := by decide +kernel
theorem r137_24 (l0 l1 l2 l3 : AV) (a : Int32) (st : List AV) (M : Mm) : run 137 24 [l0, l1, l2, l3] (aI a :: st) M = if a = 0 then run 137 33 [l0, l1, l2, l3] st M else run 137 27 [l0, l1, l2, l3] st M := e_eq1 33 d137_24 (by decide)
theorem d137_27 : decode (cod 137) 27 = .ok (.aload_n 0, 1) := by decide +kernel
theorem r137_27 (l1 l2 l3 : AV) (xg xi : Nat) (st : List AV) (M : Mm) : run 137 27 [aR xg 12 xi, l1, l2, l3] st M = run 137 28 [aR xg 12 xi, l1, l2, l3] (aR xg 12 xi :: st) M := e_aldn d137_27 rfl
theorem d137_28 : decode (cod 137) 28 = .ok (.iload_n 3, 1) := by decide +kernel
theorem r137_28 (l0 l1 l2 : AV) (x : Int32) (st : List AV) (M : Mm) : run 137 28 [l0, l1, l2, aI x] st M = run 137 29 [l0, l1, l2, aI x] (aI x :: st) M := e_ildn d137_28 rfl
theorem d137_29 : decode (cod 137) 29 = .ok (.invokevirtual 89, 3) := by decide +kernel
theorem r137_29 (l0 l1 l2 l3 : AV) (a0g a0i : Nat) (a1 : Int32) (M : Mm) : run 137 29 [l0, l1, l2, l3] [aI a1, aR a0g 12 a0i] M = cbI (call 81 [aR a0g 12 a0i, aI a1] M) (fun v M => run 137 32 [l0, l1, l2, l3] [aI v] M) := call_I (n := 2) rfl false d137_29 rfl rfl rfl rfl rfl rfl rfl
theorem d137_32 : decode (cod 137) 32 = .ok (.ireturn, 1) := by decide +kernel
theorem r137_32 (l0 l1 l2 l3 : AV) (v : Int32) (M : Mm) : run 137 32 [l0, l1, l2, l3] [aI v] M = some (some v, M) := e_iret d137_32 rfl
theorem d137_33 : decode (cod 137) 33 = .ok (.aload_n 0, 1) := by decide +kernel
theorem r137_33 (l1 l2 l3 : AV) (xg xi : Nat) (st : List AV) (M : Mm) : run 137 33 [aR xg 12 xi, l1, l2, l3] st M = run 137 34 [aR xg 12 xi, l1, l2, l3] (aR xg 12 xi :: st) M := e_aldn d137_33 rfl
theorem d137_34 : decode (cod 137) 34 = .ok (.iload_n 1, 1) := by decide +kernel
theorem r137_34 (l0 l2 l3 : AV) (x : Int32) (st : List AV) (M : Mm) : run 137 34 [l0, aI x, l2, l3] st M = run 137 35 [l0, aI x, l2, l3] (aI x :: st) M := e_ildn d137_34 rfl
theorem d137_35 : decode (cod 137) 35 = .ok (.invokevirtual 284, 3) := by decide +kernel
theorem r137_35 (l0 l1 l2 l3 : AV) (a0g a0i : Nat) (a1 : Int32) (M : Mm) : run 137 35 [l0, l1, l2, l3] [aI a1, aR a0g 12 a0i] M = cbV (call 130 [aR a0g 12 a0i, aI a1] M) (fun M => run 137 38 [l0, l1, l2, l3] [] M) := call_V (n := 2) rfl false d137_35 rfl rfl rfl rfl rfl rfl rfl
theorem d137_38 : decode (cod 137) 38 = .ok (.aload_n 0, 1) := by decide +kernel
theorem r137_38 (l1 l2 l3 : AV) (xg xi : Nat) (st : List AV) (M : Mm) : run 137 38 [aR xg 12 xi, l1, l2, l3] st M = run 137 39 [aR xg 12 xi, l1, l2, l3] (aR xg 12 xi :: st) M := e_aldn d137_38 rfl
theorem d137_39 : decode (cod 137) 39 = .ok (.getfield 55, 3) := by decide +kernel
theorem r137_39 (l0 l1 l2 l3 : AV) (xg xi : Nat) (st : List AV) (M : Mm) : run 137 39 [l0, l1, l2, l3] (aR xg 12 xi :: st) M = run 137 42 [l0, l1, l2, l3] (aR 4 28 0 :: st) M := e_gfr (fun g => (4, 28, 0)) d137_39 rfl rfl rfl
theorem d137_42 : decode (cod 137) 42 = .ok (.iload_n 2, 1) := by decide +kernel
theorem r137_42 (l0 l1 l3 : AV) (x : Int32) (st : List AV) (M : Mm) : run 137 42 [l0, l1, aI x, l3] st M = run 137 43 [l0, l1, aI x, l3] (aI x :: st) M := e_ildn d137_42 rfl
theorem d137_43 : decode (cod 137) 43 = .ok (.iaload, 1) := by decide +kernel
theorem r137_43 (l0 l1 l2 l3 : AV) (i : Int32) (xg xi : Nat) (st : List AV) (M : Mm) : run 137 43 [l0, l1, l2, l3] (aI i :: aR xg 28 xi :: st) M = if vpB i 4 = true then run 137 44 [l0, l1, l2, l3] (aI (M xg 28 xi i.toNatClampNeg) :: st) M else none := e_ial d137_43 rfl rfl
theorem d137_44 : decode (cod 137) 44 = .ok (.ireturn, 1) := by decide +kernel
theorem r137_44 (l0 l1 l2 l3 : AV) (v : Int32) (M : Mm) : run 137 44 [l0, l1, l2, l3] [aI v] M = some (some v, M) := e_iret d137_44 rfl
theorem c138 (g0 i0 : Nat) (x1 : Int32) (x2 : Int32) (x3 : Int32) (M : Mm) : call 138 [aR g0 12 i0, aI x1, aI x2, aI x3] M = run 138 0 [aR g0 12 i0, aI x1, aI x2, aI x3, none, none] [] M := call_run 138 _ _
theorem d138_0 : decode (cod 138) 0 = .ok (.iload_n 1, 1) := by decide +kernel
theorem r138_0 (l0 l2 l3 l4 l5 : AV) (x : Int32) (st : List AV) (M : Mm) : run 138 0 [l0, aI x, l2, l3, l4, l5] st M = run 138 1 [l0, aI x, l2, l3, l4, l5] (aI x :: st) M := e_ildn d138_0 rfl
theorem d138_1 : decode (cod 138) 1 = .ok (.iconst 0, 1) := by decide +kernel
theorem r138_1 (l0 l1 l2 l3 l4 l5 : AV) (st : List AV) (M : Mm) : run 138 1 [l0, l1, l2, l3, l4, l5] st M = run 138 2 [l0, l1, l2, l3, l4, l5] (aI 0 :: st) M := e_iconst 0 d138_1 (by decide +kernel)
theorem d138_2 : decode (cod 138) 2 = .ok (.sipush 240, 3) := by decide +kernel
theorem r138_2 (l0 l1 l2 l3 l4 l5 : AV) (st : List AV) (M : Mm) : run 138 2 [l0, l1, l2, l3, l4, l5] st M = run 138 5 [l0, l1, l2, l3, l4, l5] (aI 240 :: st) M := e_sipush 240 d138_2 (by decide +kernel)
theorem d138_5 : decode (cod 138) 5 = .ok (.invokestatic 82, 3) := by decide +kernel
theorem r138_5 (l0 l1 l2 l3 l4 l5 : AV) (a0 : Int32) (a1 : Int32) (a2 : Int32) (M : Mm) : run 138 5 [l0, l1, l2, l3, l4, l5] [aI a2, aI a1, aI a0] M = cbI (call 84 [aI a0, aI a1, aI a2] M) (fun v M => run 138 8 [l0, l1, l2, l3, l4, l5] [aI v] M) := call_I (n := 3) rfl true d138_5 rfl rfl rfl rfl rfl rfl rfl
theorem d138_8 : decode (cod 138) 8 = .ok (.istore 4, 2) := by decide +kernel
theorem r138_8 (l0 l1 l2 l3 l4 l5 : AV) (x : Int32) (st : List AV) (M : Mm) : run 138 8 [l0, l1, l2, l3, l4, l5] (aI x :: st) M = run 138 10 [l0, l1, l2, l3, aI x, l5] st M := e_ist [l0, l1, l2, l3, aI x, l5] d138_8 rfl rfl
theorem d138_10 : decode (cod 138) 10 = .ok (.iload 4, 2) := by decide +kernel
theorem r138_10 (l0 l1 l2 l3 l5 : AV) (x : Int32) (st : List AV) (M : Mm) : run 138 10 [l0, l1, l2, l3, aI x, l5] st M = run 138 12 [l0, l1, l2, l3, aI x, l5] (aI x :: st) M := e_ild d138_10 rfl
theorem d138_12 : decode (cod 138) 12 = .ok (.ifCond .ne 32, 3) := by decide +kernel
theorem r138_12 (l0 l1 l2 l3 l4 l5 : AV) (a : Int32) (st : List AV) (M : Mm) : run 138 12 [l0, l1, l2, l3, l4, l5] (aI a :: st) M = if a = 0 then run 138 15 [l0, l1, l2, l3, l4, l5] st M else run 138 44 [l0, l1, l2, l3, l4, l5] st M := e_ne1 44 d138_12 (by decide)
theorem d138_15 : decode (cod 138) 15 = .ok (.aload_n 0, 1) := by decide +kernel
theorem r138_15 (l1 l2 l3 l4 l5 : AV) (xg xi : Nat) (st : List AV) (M : Mm) : run 138 15 [aR xg 12 xi, l1, l2, l3, l4, l5] st M = run 138 16 [aR xg 12 xi, l1, l2, l3, l4, l5] (aR xg 12 xi :: st) M := e_aldn d138_15 rfl
theorem d138_16 : decode (cod 138) 16 = .ok (.iload_n 2, 1) := by decide +kernel
theorem r138_16 (l0 l1 l3 l4 l5 : AV) (x : Int32) (st : List AV) (M : Mm) : run 138 16 [l0, l1, aI x, l3, l4, l5] st M = run 138 17 [l0, l1, aI x, l3, l4, l5] (aI x :: st) M := e_ildn d138_16 rfl
theorem d138_17 : decode (cod 138) 17 = .ok (.invokevirtual 281, 3) := by decide +kernel
theorem r138_17 (l0 l1 l2 l3 l4 l5 : AV) (a0g a0i : Nat) (a1 : Int32) (M : Mm) : run 138 17 [l0, l1, l2, l3, l4, l5] [aI a1, aR a0g 12 a0i] M = cbI (call 85 [aR a0g 12 a0i, aI a1] M) (fun v M => run 138 20 [l0, l1, l2, l3, l4, l5] [aI v] M) := call_I (n := 2) rfl false d138_17 rfl rfl rfl rfl rfl rfl rfl
theorem d138_20 : decode (cod 138) 20 = .ok (.ifCond .ne 7, 3) := by decide +kernel
theorem r138_20 (l0 l1 l2 l3 l4 l5 : AV) (a : Int32) (st : List AV) (M : Mm) : run 138 20 [l0, l1, l2, l3, l4, l5] (aI a :: st) M = if a = 0 then run 138 23 [l0, l1, l2, l3, l4, l5] st M else run 138 27 [l0, l1, l2, l3, l4, l5] st M := e_ne1 27 d138_20 (by decide)
theorem d138_23 : decode (cod 138) 23 = .ok (.iconst (-1), 1) := by decide +kernel
theorem r138_23 (l0 l1 l2 l3 l4 l5 : AV) (st : List AV) (M : Mm) : run 138 23 [l0, l1, l2, l3, l4, l5] st M = run 138 24 [l0, l1, l2, l3, l4, l5] (aI (-1) :: st) M := e_iconst (-1) d138_23 (by decide +kernel)
theorem d138_24 : decode (cod 138) 24 = .ok (.goto 18, 3) := by decide +kernel
theorem r138_24 (l0 l1 l2 l3 l4 l5 : AV) (st : List AV) (M : Mm) : run 138 24 [l0, l1, l2, l3, l4, l5] st M = run 138 42 [l0, l1, l2, l3, l4, l5] st M := e_goto 42 d138_24 (by decide)
theorem d138_27 : decode (cod 138) 27 = .ok (.iload_n 3, 1) := by decide +kernel
theorem r138_27 (l0 l1 l2 l4 l5 : AV) (x : Int32) (st : List AV) (M : Mm) : run 138 27 [l0, l1, l2, aI x, l4, l5] st M = run 138 28 [l0, l1, l2, aI x, l4, l5] (aI x :: st) M := e_ildn d138_27 rfl
theorem d138_28 : decode (cod 138) 28 = .ok (.iconst 0, 1) := by decide +kernel
theorem r138_28 (l0 l1 l2 l3 l4 l5 : AV) (st : List AV) (M : Mm) : run 138 28 [l0, l1, l2, l3, l4, l5] st M = run 138 29 [l0, l1, l2, l3, l4, l5] (aI 0 :: st) M := e_iconst 0 d138_28 (by decide +kernel)
theorem d138_29 : decode (cod 138) 29 = .ok (.iconst 1, 1) := by decide +kernel
theorem r138_29 (l0 l1 l2 l3 l4 l5 : AV) (st : List AV) (M : Mm) : run 138 29 [l0, l1, l2, l3, l4, l5] st M = run 138 30 [l0, l1, l2, l3, l4, l5] (aI 1 :: st) M := e_iconst 1 d138_29 (by decide +kernel)
theorem d138_30 : decode (cod 138) 30 = .ok (.invokestatic 100, 3) := by decide +kernel
theorem r138_30 (l0 l1 l2 l3 l4 l5 : AV) (a0 : Int32) (a1 : Int32) (a2 : Int32) (M : Mm) : run 138 30 [l0, l1, l2, l3, l4, l5] [aI a2, aI a1, aI a0] M = cbI (call 83 [aI a0, aI a1, aI a2] M) (fun v M => run 138 33 [l0, l1, l2, l3, l4, l5] [aI v] M) := call_I (n := 3) rfl true d138_30 rfl rfl rfl rfl rfl rfl rfl
theorem d138_33 : decode (cod 138) 33 = .ok (.ifCond .ne 8, 3) := by decide +kernel
theorem r138_33 (l0 l1 l2 l3 l4 l5 : AV) (a : Int32) (st : List AV) (M : Mm) : run 138 33 [l0, l1, l2, l3, l4, l5] (aI a :: st) M = if a = 0 then run 138 36 [l0, l1, l2, l3, l4, l5] st M else run 138 41 [l0, l1, l2, l3, l4, l5] st M := e_ne1 41 d138_33 (by decide)
theorem d138_36 : decode (cod 138) 36 = .ok (.bipush (-2), 2) := by decide +kernel
theorem r138_36 (l0 l1 l2 l3 l4 l5 : AV) (st : List AV) (M : Mm) : run 138 36 [l0, l1, l2, l3, l4, l5] st M = run 138 38 [l0, l1, l2, l3, l4, l5] (aI (-2) :: st) M := e_bipush (-2) d138_36 (by decide +kernel)
theorem d138_38 : decode (cod 138) 38 = .ok (.goto 4, 3) := by decide +kernel
theorem r138_38 (l0 l1 l2 l3 l4 l5 : AV) (st : List AV) (M : Mm) : run 138 38 [l0, l1, l2, l3, l4, l5] st M = run 138 42 [l0, l1, l2, l3, l4, l5] st M := e_goto 42 d138_38 (by decide)
theorem d138_41 : decode (cod 138) 41 = .ok (.iconst 0, 1) := by decide +kernel
theorem r138_41 (l0 l1 l2 l3 l4 l5 : AV) (st : List AV) (M : Mm) : run 138 41 [l0, l1, l2, l3, l4, l5] st M = run 138 42 [l0, l1, l2, l3, l4, l5] (aI 0 :: st) M := e_iconst 0 d138_41 (by decide +kernel)
theorem d138_42 : decode (cod 138) 42 = .ok (.istore 4, 2) := by decide +kernel
theorem r138_42 (l0 l1 l2 l3 l4 l5 : AV) (x : Int32) (st : List AV) (M : Mm) : run 138 42 [l0, l1, l2, l3, l4, l5] (aI x :: st) M = run 138 44 [l0, l1, l2, l3, aI x, l5] st M := e_ist [l0, l1, l2, l3, aI x, l5] d138_42 rfl rfl
theorem d138_44 : decode (cod 138) 44 = .ok (.iload 4, 2) := by decide +kernel
theorem r138_44 (l0 l1 l2 l3 l5 : AV) (x : Int32) (st : List AV) (M : Mm) : run 138 44 [l0, l1, l2, l3, aI x, l5] st M = run 138 46 [l0, l1, l2, l3, aI x, l5] (aI x :: st) M := e_ild d138_44 rfl
theorem d138_46 : decode (cod 138) 46 = .ok (.ifCond .eq 10, 3) := by decide +kernel
theorem r138_46 (l0 l1 l2 l3 l4 l5 : AV) (a : Int32) (st : List AV) (M : Mm) : run 138 46 [l0, l1, l2, l3, l4, l5] (aI a :: st) M = if a = 0 then run 138 56 [l0, l1, l2, l3, l4, l5] st M else run 138 49 [l0, l1, l2, l3, l4, l5] st M := e_eq1 56 d138_46 (by decide)
theorem d138_49 : decode (cod 138) 49 = .ok (.aload_n 0, 1) := by decide +kernel
theorem r138_49 (l1 l2 l3 l4 l5 : AV) (xg xi : Nat) (st : List AV) (M : Mm) : run 138 49 [aR xg 12 xi, l1, l2, l3, l4, l5] st M = run 138 50 [aR xg 12 xi, l1, l2, l3, l4, l5] (aR xg 12 xi :: st) M := e_aldn d138_49 rfl
theorem d138_50 : decode (cod 138) 50 = .ok (.iload 4, 2) := by decide +kernel
theorem r138_50 (l0 l1 l2 l3 l5 : AV) (x : Int32) (st : List AV) (M : Mm) : run 138 50 [l0, l1, l2, l3, aI x, l5] st M = run 138 52 [l0, l1, l2, l3, aI x, l5] (aI x :: st) M := e_ild d138_50 rfl
theorem d138_52 : decode (cod 138) 52 = .ok (.invokevirtual 89, 3) := by decide +kernel
theorem r138_52 (l0 l1 l2 l3 l4 l5 : AV) (a0g a0i : Nat) (a1 : Int32) (M : Mm) : run 138 52 [l0, l1, l2, l3, l4, l5] [aI a1, aR a0g 12 a0i] M = cbI (call 81 [aR a0g 12 a0i, aI a1] M) (fun v M => run 138 55 [l0, l1, l2, l3, l4, l5] [aI v] M) := call_I (n := 2) rfl false d138_52 rfl rfl rfl rfl rfl rfl rfl
theorem d138_55 : decode (cod 138) 55 = .ok (.ireturn, 1) := by decide +kernel
theorem r138_55 (l0 l1 l2 l3 l4 l5 : AV) (v : Int32) (M : Mm) : run 138 55 [l0, l1, l2, l3, l4, l5] [aI v] M = some (some v, M) := e_iret d138_55 rfl
theorem d138_56 : decode (cod 138) 56 = .ok (.aload_n 0, 1) := by decide +kernel
theorem r138_56 (l1 l2 l3 l4 l5 : AV) (xg xi : Nat) (st : List AV) (M : Mm) : run 138 56 [aR xg 12 xi, l1, l2, l3, l4, l5] st M = run 138 57 [aR xg 12 xi, l1, l2, l3, l4, l5] (aR xg 12 xi :: st) M := e_aldn d138_56 rfl
theorem d138_57 : decode (cod 138) 57 = .ok (.iconst 1, 1) := by decide +kernel
theorem r138_57 (l0 l1 l2 l3 l4 l5 : AV) (st : List AV) (M : Mm) : run 138 57 [l0, l1, l2, l3, l4, l5] st M = run 138 58 [l0, l1, l2, l3, l4, l5] (aI 1 :: st) M := e_iconst 1 d138_57 (by decide +kernel)
theorem d138_58 : decode (cod 138) 58 = .ok (.iconst 1, 1) := by decide +kernel
theorem r138_58 (l0 l1 l2 l3 l4 l5 : AV) (st : List AV) (M : Mm) : run 138 58 [l0, l1, l2, l3, l4, l5] st M = run 138 59 [l0, l1, l2, l3, l4, l5] (aI 1 :: st) M := e_iconst 1 d138_58 (by decide +kernel)
theorem d138_59 : decode (cod 138) 59 = .ok (.invokevirtual 150, 3) := by decide +kernel
theorem r138_59 (l0 l1 l2 l3 l4 l5 : AV) (a0g a0i : Nat) (a1 : Int32) (a2 : Int32) (M : Mm) : run 138 59 [l0, l1, l2, l3, l4, l5] [aI a2, aI a1, aR a0g 12 a0i] M = cbV (call 103 [aR a0g 12 a0i, aI a1, aI a2] M) (fun M => run 138 62 [l0, l1, l2, l3, l4, l5] [] M) := call_V (n := 3) rfl false d138_59 rfl rfl rfl rfl rfl rfl rfl
theorem d138_62 : decode (cod 138) 62 = .ok (.aload_n 0, 1) := by decide +kernel
theorem r138_62 (l1 l2 l3 l4 l5 : AV) (xg xi : Nat) (st : List AV) (M : Mm) : run 138 62 [aR xg 12 xi, l1, l2, l3, l4, l5] st M = run 138 63 [aR xg 12 xi, l1, l2, l3, l4, l5] (aR xg 12 xi :: st) M := e_aldn d138_62 rfl
theorem d138_63 : decode (cod 138) 63 = .ok (.iload_n 1, 1) := by decide +kernel
theorem r138_63 (l0 l2 l3 l4 l5 : AV) (x : Int32) (st : List AV) (M : Mm) : run 138 63 [l0, aI x, l2, l3, l4, l5] st M = run 138 64 [l0, aI x, l2, l3, l4, l5] (aI x :: st) M := e_ildn d138_63 rfl
theorem d138_64 : decode (cod 138) 64 = .ok (.invokevirtual 272, 3) := by decide +kernel
theorem r138_64 (l0 l1 l2 l3 l4 l5 : AV) (a0g a0i : Nat) (a1 : Int32) (M : Mm) : run 138 64 [l0, l1, l2, l3, l4, l5] [aI a1, aR a0g 12 a0i] M = cbV (call 127 [aR a0g 12 a0i, aI a1] M) (fun M => run 138 67 [l0, l1, l2, l3, l4, l5] [] M) := call_V (n := 2) rfl false d138_64 rfl rfl rfl rfl rfl rfl rfl
theorem d138_67 : decode (cod 138) 67 = .ok (.iload_n 3, 1) := by decide +kernel
theorem r138_67 (l0 l1 l2 l4 l5 : AV) (x : Int32) (st : List AV) (M : Mm) : run 138 67 [l0, l1, l2, aI x, l4, l5] st M = run 138 68 [l0, l1, l2, aI x, l4, l5] (aI x :: st) M := e_ildn d138_67 rfl
theorem d138_68 : decode (cod 138) 68 = .ok (.ifCond .ne 12, 3) := by decide +kernel
theorem r138_68 (l0 l1 l2 l3 l4 l5 : AV) (a : Int32) (st : List AV) (M : Mm) : run 138 68 [l0, l1, l2, l3, l4, l5] (aI a :: st) M = if a = 0 then run 138 71 [l0, l1, l2, l3, l4, l5] st M else run 138 80 [l0, l1, l2, l3, l4, l5] st M := e_ne1 80 d138_68 (by decide)
theorem d138_71 : decode (cod 138) 71 = .ok (.aload_n 0, 1) := by decide +kernel
theorem r138_71 (l1 l2 l3 l4 l5 : AV) (xg xi : Nat) (st : List AV) (M : Mm) : run 138 71 [aR xg 12 xi, l1, l2, l3, l4, l5] st M = run 138 72 [aR xg 12 xi, l1, l2, l3, l4, l5] (aR xg 12 xi :: st) M := e_aldn d138_71 rfl
theorem d138_72 : decode (cod 138) 72 = .ok (.getfield 22, 3) := by decide +kernel
theorem r138_72 (l0 l1 l2 l3 l4 l5 : AV) (xg xi : Nat) (st : List AV) (M : Mm) : run 138 72 [l0, l1, l2, l3, l4, l5] (aR xg 12 xi :: st) M = run 138 75 [l0, l1, l2, l3, l4, l5] (aR 4 17 0 :: st) M := e_gfr (fun g => (4, 17, 0)) d138_72 rfl rfl rfl
theorem d138_75 : decode (cod 138) 75 = .ok (.iload_n 2, 1) := by decide +kernel
theorem r138_75 (l0 l1 l3 l4 l5 : AV) (x : Int32) (st : List AV) (M : Mm) : run 138 75 [l0, l1, aI x, l3, l4, l5] st M = run 138 76 [l0, l1, aI x, l3, l4, l5] (aI x :: st) M := e_ildn d138_75 rfl
theorem d138_76 : decode (cod 138) 76 = .ok (.iaload, 1) := by decide +kernel
theorem r138_76 (l0 l1 l2 l3 l4 l5 : AV) (i : Int32) (xg xi : Nat) (st : List AV) (M : Mm) : run 138 76 [l0, l1, l2, l3, l4, l5] (aI i :: aR xg 17 xi :: st) M = if vpB i 4 = true then run 138 77 [l0, l1, l2, l3, l4, l5] (aI (M xg 17 xi i.toNatClampNeg) :: st) M else none := e_ial d138_76 rfl rfl
theorem d138_77 : decode (cod 138) 77 = .ok (.goto 9, 3) := by decide +kernel
theorem r138_77 (l0 l1 l2 l3 l4 l5 : AV) (st : List AV) (M : Mm) : run 138 77 [l0, l1, l2, l3, l4, l5] st M = run 138 86 [l0, l1, l2, l3, l4, l5] st M := e_goto 86 d138_77 (by decide)
theorem d138_80 : decode (cod 138) 80 = .ok (.aload_n 0, 1) := by decide +kernel
theorem r138_80 (l1 l2 l3 l4 l5 : AV) (xg xi : Nat) (st : List AV) (M : Mm) : run 138 80 [aR xg 12 xi, l1, l2, l3, l4, l5] st M = run 138 81 [aR xg 12 xi, l1, l2, l3, l4, l5] (aR xg 12 xi :: st) M := e_aldn d138_80 rfl
theorem d138_81 : decode (cod 138) 81 = .ok (.getfield 25, 3) := by decide +kernel
theorem r138_81 (l0 l1 l2 l3 l4 l5 : AV) (xg xi : Nat) (st : List AV) (M : Mm) : run 138 81 [l0, l1, l2, l3, l4, l5] (aR xg 12 xi :: st) M = run 138 84 [l0, l1, l2, l3, l4, l5] (aR 4 18 0 :: st) M := e_gfr (fun g => (4, 18, 0)) d138_81 rfl rfl rfl
theorem d138_84 : decode (cod 138) 84 = .ok (.iload_n 2, 1) := by decide +kernel
theorem r138_84 (l0 l1 l3 l4 l5 : AV) (x : Int32) (st : List AV) (M : Mm) : run 138 84 [l0, l1, aI x, l3, l4, l5] st M = run 138 85 [l0, l1, aI x, l3, l4, l5] (aI x :: st) M := e_ildn d138_84 rfl
theorem d138_85 : decode (cod 138) 85 = .ok (.iaload, 1) := by decide +kernel
theorem r138_85 (l0 l1 l2 l3 l4 l5 : AV) (i : Int32) (xg xi : Nat) (st : List AV) (M : Mm) : run 138 85 [l0, l1, l2, l3, l4, l5] (aI i :: aR xg 18 xi :: st) M = if vpB i 4 = true then run 138 86 [l0, l1, l2, l3, l4, l5] (aI (M xg 18 xi i.toNatClampNeg) :: st) M else none := e_ial d138_85 rfl rfl
theorem d138_86 : decode (cod 138) 86 = .ok (.istore 5, 2) := by decide +kernel
theorem r138_86 (l0 l1 l2 l3 l4 l5 : AV) (x : Int32) (st : List AV) (M : Mm) : run 138 86 [l0, l1, l2, l3, l4, l5] (aI x :: st) M = run 138 88 [l0, l1, l2, l3, l4, aI x] st M := e_ist [l0, l1, l2, l3, l4, aI x] d138_86 rfl rfl
theorem d138_88 : decode (cod 138) 88 = .ok (.aload_n 0, 1) := by decide +kernel
theorem r138_88 (l1 l2 l3 l4 l5 : AV) (xg xi : Nat) (st : List AV) (M : Mm) : run 138 88 [aR xg 12 xi, l1, l2, l3, l4, l5] st M = run 138 89 [aR xg 12 xi, l1, l2, l3, l4, l5] (aR xg 12 xi :: st) M := e_aldn d138_88 rfl
theorem d138_89 : decode (cod 138) 89 = .ok (.iconst 1, 1) := by decide +kernel
theorem r138_89 (l0 l1 l2 l3 l4 l5 : AV) (st : List AV) (M : Mm) : run 138 89 [l0, l1, l2, l3, l4, l5] st M = run 138 90 [l0, l1, l2, l3, l4, l5] (aI 1 :: st) M := e_iconst 1 d138_89 (by decide +kernel)
theorem d138_90 : decode (cod 138) 90 = .ok (.iconst 0, 1) := by decide +kernel
theorem r138_90 (l0 l1 l2 l3 l4 l5 : AV) (st : List AV) (M : Mm) : run 138 90 [l0, l1, l2, l3, l4, l5] st M = run 138 91 [l0, l1, l2, l3, l4, l5] (aI 0 :: st) M := e_iconst 0 d138_90 (by decide +kernel)
theorem d138_91 : decode (cod 138) 91 = .ok (.invokevirtual 150, 3) := by decide +kernel
theorem r138_91 (l0 l1 l2 l3 l4 l5 : AV) (a0g a0i : Nat) (a1 : Int32) (a2 : Int32) (M : Mm) : run 138 91 [l0, l1, l2, l3, l4, l5] [aI a2, aI a1, aR a0g 12 a0i] M = cbV (call 103 [aR a0g 12 a0i, aI a1, aI a2] M) (fun M => run 138 94 [l0, l1, l2, l3, l4, l5] [] M) := call_V (n := 3) rfl false d138_91 rfl rfl rfl rfl rfl rfl rfl
theorem d138_94 : decode (cod 138) 94 = .ok (.iload 5, 2) := by decide +kernel
theorem r138_94 (l0 l1 l2 l3 l4 : AV) (x : Int32) (st : List AV) (M : Mm) : run 138 94 [l0, l1, l2, l3, l4, aI x] st M = run 138 96 [l0, l1, l2, l3, l4, aI x] (aI x :: st) M := e_ild d138_94 rfl
theorem d138_96 : decode (cod 138) 96 = .ok (.ireturn, 1) := by decide +kernel
theorem r138_96 (l0 l1 l2 l3 l4 l5 : AV) (v : Int32) (M : Mm) : run 138 96 [l0, l1, l2, l3, l4, l5] [aI v] M = some (some v, M) := e_iret d138_96 rfl
