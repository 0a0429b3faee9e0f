theorem c81 (g0 i0 : Nat) (x1 : Int32) (M : Mm) : call 81 [aR g0 12 i0, aI x1] M = run 81 0 [aR g0 12 i0, aI x1] [] M := call_run 81 _ _
theorem d81_0 : decode (cod 81) 0 = .ok (.aload_n 0, 1) := by decide +kernel
theorem r81_0 (l1 : AV) (xg xi : Nat) (st : List AV) (M : Mm) : run 81 0 [aR xg 12 xi, l1] st M = run 81 1 [aR xg 12 xi, l1] (aR xg 12 xi :: st) M := e_aldn d81_0 rfl
theorem d81_1 : decode (cod 81) 1 = .ok (.getfield 7, 3) := by decide +kernel
theorem r81_1 (l0 l1 : AV) (xg xi : Nat) (st : List AV) (M : Mm) : run 81 1 [l0, l1] (aR xg 12 xi :: st) M = run 81 4 [l0, l1] (aR 4 13 0 :: st) M := e_gfr (fun g => (4, 13, 0)) d81_1 rfl rfl rfl
theorem d81_4 : decode (cod 81) 4 = .ok (.iload_n 1, 1) := by decide +kernel
theorem r81_4 (l0 : AV) (x : Int32) (st : List AV) (M : Mm) : run 81 4 [l0, aI x] st M = run 81 5 [l0, aI x] (aI x :: st) M := e_ildn d81_4 rfl
theorem d81_5 : decode (cod 81) 5 = .ok (.ineg, 1) := by decide +kernel
theorem r81_5 (l0 l1 : AV) (a : Int32) (st : List AV) (M : Mm) : run 81 5 [l0, l1] (aI a :: st) M = run 81 6 [l0, l1] (aI (-a) :: st) M := e_ineg d81_5
theorem d81_6 : decode (cod 81) 6 = .ok (.dup2, 1) := by decide +kernel
theorem r81_6 (l0 l1 : AV) (x : Int32) (zg zi : Nat) (st : List AV) (M : Mm) : run 81 6 [l0, l1] (aI x :: aR zg 13 zi :: st) M = run 81 7 [l0, l1] (aI x :: aR zg 13 zi :: aI x :: aR zg 13 zi :: st) M := e_dup2 d81_6
theorem d81_7 : decode (cod 81) 7 = .ok (.iaload, 1) := by decide +kernel
theorem r81_7 (l0 l1 : AV) (i : Int32) (xg xi : Nat) (st : List AV) (M : Mm) : run 81 7 [l0, l1] (aI i :: aR xg 13 xi :: st) M = if vpB i 7 = true then run 81 8 [l0, l1] (aI (M xg 13 xi i.toNatClampNeg) :: st) M else none := e_ial d81_7 rfl rfl
theorem d81_8 : decode (cod 81) 8 = .ok (.iconst 1, 1) := by decide +kernel
theorem r81_8 (l0 l1 : AV) (st : List AV) (M : Mm) : run 81 8 [l0, l1] st M = run 81 9 [l0, l1] (aI 1 :: st) M := e_iconst 1 d81_8 (by decide +kernel)
theorem d81_9 : decode (cod 81) 9 = .ok (.iadd, 1) := by decide +kernel
theorem r81_9 (l0 l1 : AV) (a b : Int32) (st : List AV) (M : Mm) : run 81 9 [l0, l1] (aI b :: aI a :: st) M = run 81 10 [l0, l1] (aI (a + b) :: st) M := e_iadd d81_9
theorem d81_10 : decode (cod 81) 10 = .ok (.iastore, 1) := by decide +kernel
theorem r81_10 (l0 l1 : AV) (v i : Int32) (xg xi : Nat) (st : List AV) (M : Mm) : run 81 10 [l0, l1] (aI v :: aI i :: aR xg 13 xi :: st) M = if vpB i 7 = true then run 81 11 [l0, l1] st (wr M xg 13 xi i.toNatClampNeg v) else none := e_ias d81_10 rfl rfl
theorem d81_11 : decode (cod 81) 11 = .ok (.iload_n 1, 1) := by decide +kernel
theorem r81_11 (l0 : AV) (x : Int32) (st : List AV) (M : Mm) : run 81 11 [l0, aI x] st M = run 81 12 [l0, aI x] (aI x :: st) M := e_ildn d81_11 rfl
theorem d81_12 : decode (cod 81) 12 = .ok (.ireturn, 1) := by decide +kernel
theorem r81_12 (l0 l1 : AV) (v : Int32) (M : Mm) : run 81 12 [l0, l1] [aI v] M = some (some v, M) := e_iret d81_12 rfl
theorem c82 (g0 i0 : Nat) (x1 : Int32) (M : Mm) : call 82 [aR g0 12 i0, aI x1] M = run 82 0 [aR g0 12 i0, aI x1] [] M := call_run 82 _ _
theorem d82_0 : decode (cod 82) 0 = .ok (.aload_n 0, 1) := by decide +kernel
theorem r82_0 (l1 : AV) (xg xi : Nat) (st : List AV) (M : Mm) : run 82 0 [aR xg 12 xi, l1] st M = run 82 1 [aR xg 12 xi, l1] (aR xg 12 xi :: st) M := e_aldn d82_0 rfl
theorem d82_1 : decode (cod 82) 1 = .ok (.getfield 7, 3) := by decide +kernel
theorem r82_1 (l0 l1 : AV) (xg xi : Nat) (st : List AV) (M : Mm) : run 82 1 [l0, l1] (aR xg 12 xi :: st) M = run 82 4 [l0, l1] (aR 4 13 0 :: st) M := e_gfr (fun g => (4, 13, 0)) d82_1 rfl rfl rfl
theorem d82_4 : decode (cod 82) 4 = .ok (.iload_n 1, 1) := by decide +kernel
theorem r82_4 (l0 : AV) (x : Int32) (st : List AV) (M : Mm) : run 82 4 [l0, aI x] st M = run 82 5 [l0, aI x] (aI x :: st) M := e_ildn d82_4 rfl
theorem d82_5 : decode (cod 82) 5 = .ok (.ineg, 1) := by decide +kernel
theorem r82_5 (l0 l1 : AV) (a : Int32) (st : List AV) (M : Mm) : run 82 5 [l0, l1] (aI a :: st) M = run 82 6 [l0, l1] (aI (-a) :: st) M := e_ineg d82_5
theorem d82_6 : decode (cod 82) 6 = .ok (.dup2, 1) := by decide +kernel
theorem r82_6 (l0 l1 : AV) (x : Int32) (zg zi : Nat) (st : List AV) (M : Mm) : run 82 6 [l0, l1] (aI x :: aR zg 13 zi :: st) M = run 82 7 [l0, l1] (aI x :: aR zg 13 zi :: aI x :: aR zg 13 zi :: st) M := e_dup2 d82_6
theorem d82_7 : decode (cod 82) 7 = .ok (.iaload, 1) := by decide +kernel
theorem r82_7 (l0 l1 : AV) (i : Int32) (xg xi : Nat) (st : List AV) (M : Mm) : run 82 7 [l0, l1] (aI i :: aR xg 13 xi :: st) M = if vpB i 7 = true then run 82 8 [l0, l1] (aI (M xg 13 xi i.toNatClampNeg) :: st) M else none := e_ial d82_7 rfl rfl
theorem d82_8 : decode (cod 82) 8 = .ok (.iconst 1, 1) := by decide +kernel
theorem r82_8 (l0 l1 : AV) (st : List AV) (M : Mm) : run 82 8 [l0, l1] st M = run 82 9 [l0, l1] (aI 1 :: st) M := e_iconst 1 d82_8 (by decide +kernel)
theorem d82_9 : decode (cod 82) 9 = .ok (.iadd, 1) := by decide +kernel
theorem r82_9 (l0 l1 : AV) (a b : Int32) (st : List AV) (M : Mm) : run 82 9 [l0, l1] (aI b :: aI a :: st) M = run 82 10 [l0, l1] (aI (a + b) :: st) M := e_iadd d82_9
theorem d82_10 : decode (cod 82) 10 = .ok (.iastore, 1) := by decide +kernel
theorem r82_10 (l0 l1 : AV) (v i : Int32) (xg xi : Nat) (st : List AV) (M : Mm) : run 82 10 [l0, l1] (aI v :: aI i :: aR xg 13 xi :: st) M = if vpB i 7 = true then run 82 11 [l0, l1] st (wr M xg 13 xi i.toNatClampNeg v) else none := e_ias d82_10 rfl rfl
theorem d82_11 : decode (cod 82) 11 = .ok (.ldc 78, 2) := by decide +kernel
theorem r82_11 (l0 l1 : AV) (st : List AV) (M : Mm) : run 82 11 [l0, l1] st M = run 82 13 [l0, l1] (aI 1000000000 :: st) M := e_ldc d82_11 rfl
theorem d82_13 : decode (cod 82) 13 = .ok (.iload_n 1, 1) := by decide +kernel
theorem r82_13 (l0 : AV) (x : Int32) (st : List AV) (M : Mm) : run 82 13 [l0, aI x] st M = run 82 14 [l0, aI x] (aI x :: st) M := e_ildn d82_13 rfl
theorem d82_14 : decode (cod 82) 14 = .ok (.isub, 1) := by decide +kernel
theorem r82_14 (l0 l1 : AV) (a b : Int32) (st : List AV) (M : Mm) : run 82 14 [l0, l1] (aI b :: aI a :: st) M = run 82 15 [l0, l1] (aI (a - b) :: st) M := e_isub d82_14
theorem d82_15 : decode (cod 82) 15 = .ok (.ireturn, 1) := by decide +kernel
theorem r82_15 (l0 l1 : AV) (v : Int32) (M : Mm) : run 82 15 [l0, l1] [aI v] M = some (some v, M) := e_iret d82_15 rfl
theorem c83 (x0 : Int32) (x1 : Int32) (x2 : Int32) (M : Mm) : call 83 [aI x0, aI x1, aI x2] M = run 83 0 [aI x0, aI x1, aI x2] [] M := call_run 83 _ _
theorem d83_0 : decode (cod 83) 0 = .ok (.iload_n 0, 1) := by decide +kernel
theorem r83_0 (l1 l2 : AV) (x : Int32) (st : List AV) (M : Mm) : run 83 0 [aI x, l1, l2] st M = run 83 1 [aI x, l1, l2] (aI x :: st) M := e_ildn d83_0 rfl
theorem d83_1 : decode (cod 83) 1 = .ok (.iload_n 1, 1) := by decide +kernel
theorem r83_1 (l0 l2 : AV) (x : Int32) (st : List AV) (M : Mm) : run 83 1 [l0, aI x, l2] st M = run 83 2 [l0, aI x, l2] (aI x :: st) M := e_ildn d83_1 rfl
theorem d83_2 : decode (cod 83) 2 = .ok (.if_icmp .lt 12, 3) := by decide +kernel
theorem r83_2 (l0 l1 l2 : AV) (a b : Int32) (st : List AV) (M : Mm) : run 83 2 [l0, l1, l2] (aI b :: aI a :: st) M = if a < b then run 83 14 [l0, l1, l2] st M else run 83 5 [l0, l1, l2] st M := e_lt2 14 d83_2 (by decide)
theorem d83_5 : decode (cod 83) 5 = .ok (.iload_n 0, 1) := by decide +kernel
theorem r83_5 (l1 l2 : AV) (x : Int32) (st : List AV) (M : Mm) : run 83 5 [aI x, l1, l2] st M = run 83 6 [aI x, l1, l2] (aI x :: st) M := e_ildn d83_5 rfl
theorem d83_6 : decode (cod 83) 6 = .ok (.iload_n 2, 1) := by decide +kernel
theorem r83_6 (l0 l1 : AV) (x : Int32) (st : List AV) (M : Mm) : run 83 6 [l0, l1, aI x] st M = run 83 7 [l0, l1, aI x] (aI x :: st) M := e_ildn d83_6 rfl
theorem d83_7 : decode (cod 83) 7 = .ok (.if_icmp .gt 7, 3) := by decide +kernel
theorem r83_7 (l0 l1 l2 : AV) (a b : Int32) (st : List AV) (M : Mm) : run 83 7 [l0, l1, l2] (aI b :: aI a :: st) M = if b < a then run 83 14 [l0, l1, l2] st M else run 83 10 [l0, l1, l2] st M := e_gt2 14 d83_7 (by decide)
theorem d83_10 : decode (cod 83) 10 = .ok (.iconst 1, 1) := by decide +kernel
theorem r83_10 (l0 l1 l2 : AV) (st : List AV) (M : Mm) : run 83 10 [l0, l1, l2] st M = run 83 11 [l0, l1, l2] (aI 1 :: st) M := e_iconst 1 d83_10 (by decide +kernel)
theorem d83_11 : decode (cod 83) 11 = .ok (.goto 4, 3) := by decide +kernel
theorem r83_11 (l0 l1 l2 : AV) (st : List AV) (M : Mm) : run 83 11 [l0, l1, l2] st M = run 83 15 [l0, l1, l2] st M := e_goto 15 d83_11 (by decide)
theorem d83_14 : decode (cod 83) 14 = .ok (.iconst 0, 1) := by decide +kernel
theorem r83_14 (l0 l1 l2 : AV) (st : List AV) (M : Mm) : run 83 14 [l0, l1, l2] st M = run 83 15 [l0, l1, l2] (aI 0 :: st) M := e_iconst 0 d83_14 (by decide +kernel)
theorem d83_15 : decode (cod 83) 15 = .ok (.ireturn, 1) := by decide +kernel
theorem r83_15 (l0 l1 l2 : AV) (v : Int32) (M : Mm) : run 83 15 [l0, l1, l2] [aI v] M = if v = 0 ∨ v = 1 then some (some v, M) else none := e_zret d83_15 rfl
theorem c84 (x0 : Int32) (x1 : Int32) (x2 : Int32) (M : Mm) : call 84 [aI x0, aI x1, aI x2] M = run 84 0 [aI x0, aI x1, aI x2] [] M := call_run 84 _ _
theorem d84_0 : decode (cod 84) 0 = .ok (.iload_n 0, 1) := by decide +kernel
theorem r84_0 (l1 l2 : AV) (x : Int32) (st : List AV) (M : Mm) : run 84 0 [aI x, l1, l2] st M = run 84 1 [aI x, l1, l2] (aI x :: st) M := e_ildn d84_0 rfl
theorem d84_1 : decode (cod 84) 1 = .ok (.iload_n 1, 1) := by decide +kernel
theorem r84_1 (l0 l2 : AV) (x : Int32) (st : List AV) (M : Mm) : run 84 1 [l0, aI x, l2] st M = run 84 2 [l0, aI x, l2] (aI x :: st) M := e_ildn d84_1 rfl
theorem d84_2 : decode (cod 84) 2 = .ok (.if_icmp .ge 8, 3) := by decide +kernel
theorem r84_2 (l0 l1 l2 : AV) (a b : Int32) (st : List AV) (M : Mm) : run 84 2 [l0, l1, l2] (aI b :: aI a :: st) M = if a < b then run 84 5 [l0, l1, l2] st M else run 84 10 [l0, l1, l2] st M := e_ge2 10 d84_2 (by decide)
theorem d84_5 : decode (cod 84) 5 = .ok (.bipush (-4), 2) := by decide +kernel
theorem r84_5 (l0 l1 l2 : AV) (st : List AV) (M : Mm) : run 84 5 [l0, l1, l2] st M = run 84 7 [l0, l1, l2] (aI (-4) :: st) M := e_bipush (-4) d84_5 (by decide +kernel)
theorem d84_7 : decode (cod 84) 7 = .ok (.goto 14, 3) := by decide +kernel
theorem r84_7 (l0 l1 l2 : AV) (st : List AV) (M : Mm) : run 84 7 [l0, l1, l2] st M = run 84 21 [l0, l1, l2] st M := e_goto 21 d84_7 (by decide)
theorem d84_10 : decode (cod 84) 10 = .ok (.iload_n 0, 1) := by decide +kernel
theorem r84_10 (l1 l2 : AV) (x : Int32) (st : List AV) (M : Mm) : run 84 10 [aI x, l1, l2] st M = run 84 11 [aI x, l1, l2] (aI x :: st) M := e_ildn d84_10 rfl
theorem d84_11 : decode (cod 84) 11 = .ok (.iload_n 2, 1) := by decide +kernel
theorem r84_11 (l0 l1 : AV) (x : Int32) (st : List AV) (M : Mm) : run 84 11 [l0, l1, aI x] st M = run 84 12 [l0, l1, aI x] (aI x :: st) M := e_ildn d84_11 rfl
theorem d84_12 : decode (cod 84) 12 = .ok (.if_icmp .le 8, 3) := by decide +kernel
theorem r84_12 (l0 l1 l2 : AV) (a b : Int32) (st : List AV) (M : Mm) : run 84 12 [l0, l1, l2] (aI b :: aI a :: st) M = if b < a then run 84 15 [l0, l1, l2] st M else run 84 20 [l0, l1, l2] st M := e_le2 20 d84_12 (by decide)
theorem d84_15 : decode (cod 84) 15 = .ok (.bipush (-6), 2) := by decide +kernel
theorem r84_15 (l0 l1 l2 : AV) (st : List AV) (M : Mm) : run 84 15 [l0, l1, l2] st M = run 84 17 [l0, l1, l2] (aI (-6) :: st) M := e_bipush (-6) d84_15 (by decide +kernel)
theorem d84_17 : decode (cod 84) 17 = .ok (.goto 4, 3) := by decide +kernel
theorem r84_17 (l0 l1 l2 : AV) (st : List AV) (M : Mm) : run 84 17 [l0, l1, l2] st M = run 84 21 [l0, l1, l2] st M := e_goto 21 d84_17 (by decide)
theorem d84_20 : decode (cod 84) 20 = .ok (.iconst 0, 1) := by decide +kernel
theorem r84_20 (l0 l1 l2 : AV) (st : List AV) (M : Mm) : run 84 20 [l0, l1, l2] st M = run 84 21 [l0, l1, l2] (aI 0 :: st) M := e_iconst 0 d84_20 (by decide +kernel)
theorem d84_21 : decode (cod 84) 21 = .ok (.ireturn, 1) := by decide +kernel
theorem r84_21 (l0 l1 l2 : AV) (v : Int32) (M : Mm) : run 84 21 [l0, l1, l2] [aI v] M = some (some v, M) := e_iret d84_21 rfl
theorem c85 (g0 i0 : Nat) (x1 : Int32) (M : Mm) : call 85 [aR g0 12 i0, aI x1] M = run 85 0 [aR g0 12 i0, aI x1] [] M := call_run 85 _ _
theorem d85_0 : decode (cod 85) 0 = .ok (.iload_n 1, 1) := by decide +kernel
theorem r85_0 (l0 : AV) (x : Int32) (st : List AV) (M : Mm) : run 85 0 [l0, aI x] st M = run 85 1 [l0, aI x] (aI x :: st) M := e_ildn d85_0 rfl
theorem d85_1 : decode (cod 85) 1 = .ok (.ifCond .lt 15, 3) := by decide +kernel
theorem r85_1 (l0 l1 : AV) (a : Int32) (st : List AV) (M : Mm) : run 85 1 [l0, l1] (aI a :: st) M = if a < 0 then run 85 16 [l0, l1] st M else run 85 4 [l0, l1] st M := e_lt1 16 d85_1 (by decide)
theorem d85_4 : decode (cod 85) 4 = .ok (.iload_n 1, 1) := by decide +kernel
theorem r85_4 (l0 : AV) (x : Int32) (st : List AV) (M : Mm) : run 85 4 [l0, aI x] st M = run 85 5 [l0, aI x] (aI x :: st) M := e_ildn d85_4 rfl
theorem d85_5 : decode (cod 85) 5 = .ok (.aload_n 0, 1) := by decide +kernel
theorem r85_5 (l1 : AV) (xg xi : Nat) (st : List AV) (M : Mm) : run 85 5 [aR xg 12 xi, l1] st M = run 85 6 [aR xg 12 xi, l1] (aR xg 12 xi :: st) M := e_aldn d85_5 rfl
theorem d85_6 : decode (cod 85) 6 = .ok (.getfield 79, 3) := by decide +kernel
theorem r85_6 (l0 l1 : AV) (xg xi : Nat) (st : List AV) (M : Mm) : run 85 6 [l0, l1] (aR xg 12 xi :: st) M = run 85 9 [l0, l1] (aI (M xg 12 xi 10) :: st) M := e_gfi d85_6 rfl rfl rfl
theorem d85_9 : decode (cod 85) 9 = .ok (.if_icmp .ge 7, 3) := by decide +kernel
theorem r85_9 (l0 l1 : AV) (a b : Int32) (st : List AV) (M : Mm) : run 85 9 [l0, l1] (aI b :: aI a :: st) M = if a < b then run 85 12 [l0, l1] st M else run 85 16 [l0, l1] st M := e_ge2 16 d85_9 (by decide)
theorem d85_12 : decode (cod 85) 12 = .ok (.iconst 1, 1) := by decide +kernel
theorem r85_12 (l0 l1 : AV) (st : List AV) (M : Mm) : run 85 12 [l0, l1] st M = run 85 13 [l0, l1] (aI 1 :: st) M := e_iconst 1 d85_12 (by decide +kernel)
theorem d85_13 : decode (cod 85) 13 = .ok (.goto 4, 3) := by decide +kernel
theorem r85_13 (l0 l1 : AV) (st : List AV) (M : Mm) : run 85 13 [l0, l1] st M = run 85 17 [l0, l1] st M := e_goto 17 d85_13 (by decide)
theorem d85_16 : decode (cod 85) 16 = .ok (.iconst 0, 1) := by decide +kernel
theorem r85_16 (l0 l1 : AV) (st : List AV) (M : Mm) : run 85 16 [l0, l1] st M = run 85 17 [l0, l1] (aI 0 :: st) M := e_iconst 0 d85_16 (by decide +kernel)
theorem d85_17 : decode (cod 85) 17 = .ok (.ireturn, 1) := by decide +kernel
theorem r85_17 (l0 l1 : AV) (v : Int32) (M : Mm) : run 85 17 [l0, l1] [aI v] M = if v = 0 ∨ v = 1 then some (some v, M) else none := e_zret d85_17 rfl
theorem c86 (x0 : Int32) (M : Mm) : call 86 [aI x0] M = run 86 0 [aI x0] [] M := call_run 86 _ _
theorem d86_0 : decode (cod 86) 0 = .ok (.iload_n 0, 1) := by decide +kernel
theorem r86_0 (x : Int32) (st : List AV) (M : Mm) : run 86 0 [aI x] st M = run 86 1 [aI x] (aI x :: st) M := e_ildn d86_0 rfl
theorem d86_1 : decode (cod 86) 1 = .ok (.iconst 1, 1) := by decide +kernel
theorem r86_1 (l0 : AV) (st : List AV) (M : Mm) : run 86 1 [l0] st M = run 86 2 [l0] (aI 1 :: st) M := e_iconst 1 d86_1 (by decide +kernel)
theorem d86_2 : decode (cod 86) 2 = .ok (.if_icmp .ne 8, 3) := by decide +kernel
theorem r86_2 (l0 : AV) (a b : Int32) (st : List AV) (M : Mm) : run 86 2 [l0] (aI b :: aI a :: st) M = if a = b then run 86 5 [l0] st M else run 86 10 [l0] st M := e_ne2 10 d86_2 (by decide)
theorem d86_5 : decode (cod 86) 5 = .ok (.bipush 10, 2) := by decide +kernel
theorem r86_5 (l0 : AV) (st : List AV) (M : Mm) : run 86 5 [l0] st M = run 86 7 [l0] (aI 10 :: st) M := e_bipush 10 d86_5 (by decide +kernel)
theorem d86_7 : decode (cod 86) 7 = .ok (.goto 29, 3) := by decide +kernel
theorem r86_7 (l0 : AV) (st : List AV) (M : Mm) : run 86 7 [l0] st M = run 86 36 [l0] st M := e_goto 36 d86_7 (by decide)
theorem d86_10 : decode (cod 86) 10 = .ok (.iload_n 0, 1) := by decide +kernel
theorem r86_10 (x : Int32) (st : List AV) (M : Mm) : run 86 10 [aI x] st M = run 86 11 [aI x] (aI x :: st) M := e_ildn d86_10 rfl
theorem d86_11 : decode (cod 86) 11 = .ok (.iconst 4, 1) := by decide +kernel
theorem r86_11 (l0 : AV) (st : List AV) (M : Mm) : run 86 11 [l0] st M = run 86 12 [l0] (aI 4 :: st) M := e_iconst 4 d86_11 (by decide +kernel)
theorem d86_12 : decode (cod 86) 12 = .ok (.if_icmp .ne 8, 3) := by decide +kernel
theorem r86_12 (l0 : AV) (a b : Int32) (st : List AV) (M : Mm) : run 86 12 [l0] (aI b :: aI a :: st) M = if a = b then run 86 15 [l0] st M else run 86 20 [l0] st M := e_ne2 20 d86_12 (by decide)
theorem d86_15 : decode (cod 86) 15 = .ok (.bipush 20, 2) := by decide +kernel
theorem r86_15 (l0 : AV) (st : List AV) (M : Mm) : run 86 15 [l0] st M = run 86 17 [l0] (aI 20 :: st) M := e_bipush 20 d86_15 (by decide +kernel)
theorem d86_17 : decode (cod 86) 17 = .ok (.goto 19, 3) := by decide +kernel
theorem r86_17 (l0 : AV) (st : List AV) (M : Mm) : run 86 17 [l0] st M = run 86 36 [l0] st M := e_goto 36 d86_17 (by decide)
theorem d86_20 : decode (cod 86) 20 = .ok (.iload_n 0, 1) := by decide +kernel
theorem r86_20 (x : Int32) (st : List AV) (M : Mm) : run 86 20 [aI x] st M = run 86 21 [aI x] (aI x :: st) M := e_ildn d86_20 rfl
theorem d86_21 : decode (cod 86) 21 = .ok (.iconst 5, 1) := by decide +kernel
theorem r86_21 (l0 : AV) (st : List AV) (M : Mm) : run 86 21 [l0] st M = run 86 22 [l0] (aI 5 :: st) M := e_iconst 5 d86_21 (by decide +kernel)
theorem d86_22 : decode (cod 86) 22 = .ok (.if_icmp .eq 9, 3) := by decide +kernel
theorem r86_22 (l0 : AV) (a b : Int32) (st : List AV) (M : Mm) : run 86 22 [l0] (aI b :: aI a :: st) M = if a = b then run 86 31 [l0] st M else run 86 25 [l0] st M := e_eq2 31 d86_22 (by decide)
theorem d86_25 : decode (cod 86) 25 = .ok (.iload_n 0, 1) := by decide +kernel
theorem r86_25 (x : Int32) (st : List AV) (M : Mm) : run 86 25 [aI x] st M = run 86 26 [aI x] (aI x :: st) M := e_ildn d86_25 rfl
theorem d86_26 : decode (cod 86) 26 = .ok (.bipush 6, 2) := by decide +kernel
theorem r86_26 (l0 : AV) (st : List AV) (M : Mm) : run 86 26 [l0] st M = run 86 28 [l0] (aI 6 :: st) M := e_bipush 6 d86_26 (by decide +kernel)
theorem d86_28 : decode (cod 86) 28 = .ok (.if_icmp .ne 7, 3) := by decide +kernel
theorem r86_28 (l0 : AV) (a b : Int32) (st : List AV) (M : Mm) : run 86 28 [l0] (aI b :: aI a :: st) M = if a = b then run 86 31 [l0] st M else run 86 35 [l0] st M := e_ne2 35 d86_28 (by decide)
theorem d86_31 : decode (cod 86) 31 = .ok (.iconst 0, 1) := by decide +kernel
theorem r86_31 (l0 : AV) (st : List AV) (M : Mm) : run 86 31 [l0] st M = run 86 32 [l0] (aI 0 :: st) M := e_iconst 0 d86_31 (by decide +kernel)
theorem d86_32 : decode (cod 86) 32 = .ok (.goto 4, 3) := by decide +kernel
theorem r86_32 (l0 : AV) (st : List AV) (M : Mm) : run 86 32 [l0] st M = run 86 36 [l0] st M := e_goto 36 d86_32 (by decide)
theorem d86_35 : decode (cod 86) 35 = .ok (.iconst 1, 1) := by decide +kernel
theorem r86_35 (l0 : AV) (st : List AV) (M : Mm) : run 86 35 [l0] st M = run 86 36 [l0] (aI 1 :: st) M := e_iconst 1 d86_35 (by decide +kernel)
theorem d86_36 : decode (cod 86) 36 = .ok (.ireturn, 1) := by decide +kernel
theorem r86_36 (l0 : AV) (v : Int32) (M : Mm) : run 86 36 [l0] [aI v] M = some (some v, M) := e_iret d86_36 rfl
theorem c87 (x0 : Int32) (M : Mm) : call 87 [aI x0] M = run 87 0 [aI x0] [] M := call_run 87 _ _
theorem d87_0 : decode (cod 87) 0 = .ok (.iload_n 0, 1) := by decide +kernel
theorem r87_0 (x : Int32) (st : List AV) (M : Mm) : run 87 0 [aI x] st M = run 87 1 [aI x] (aI x :: st) M := e_ildn d87_0 rfl
theorem d87_1 : decode (cod 87) 1 = .ok (.ifCond .ne 7, 3) := by decide +kernel
theorem r87_1 (l0 : AV) (a : Int32) (st : List AV) (M : Mm) : run 87 1 [l0] (aI a :: st) M = if a = 0 then run 87 4 [l0] st M else run 87 8 [l0] st M := e_ne1 8 d87_1 (by decide)
theorem d87_4 : decode (cod 87) 4 = .ok (.iconst 3, 1) := by decide +kernel
theorem r87_4 (l0 : AV) (st : List AV) (M : Mm) : run 87 4 [l0] st M = run 87 5 [l0] (aI 3 :: st) M := e_iconst 3 d87_4 (by decide +kernel)
theorem d87_5 : decode (cod 87) 5 = .ok (.goto 45, 3) := by decide +kernel
theorem r87_5 (l0 : AV) (st : List AV) (M : Mm) : run 87 5 [l0] st M = run 87 50 [l0] st M := e_goto 50 d87_5 (by decide)
theorem d87_8 : decode (cod 87) 8 = .ok (.iload_n 0, 1) := by decide +kernel
theorem r87_8 (x : Int32) (st : List AV) (M : Mm) : run 87 8 [aI x] st M = run 87 9 [aI x] (aI x :: st) M := e_ildn d87_8 rfl
theorem d87_9 : decode (cod 87) 9 = .ok (.iconst 1, 1) := by decide +kernel
theorem r87_9 (l0 : AV) (st : List AV) (M : Mm) : run 87 9 [l0] st M = run 87 10 [l0] (aI 1 :: st) M := e_iconst 1 d87_9 (by decide +kernel)
theorem d87_10 : decode (cod 87) 10 = .ok (.if_icmp .ne 8, 3) := by decide +kernel
theorem r87_10 (l0 : AV) (a b : Int32) (st : List AV) (M : Mm) : run 87 10 [l0] (aI b :: aI a :: st) M = if a = b then run 87 13 [l0] st M else run 87 18 [l0] st M := e_ne2 18 d87_10 (by decide)
theorem d87_13 : decode (cod 87) 13 = .ok (.bipush 40, 2) := by decide +kernel
theorem r87_13 (l0 : AV) (st : List AV) (M : Mm) : run 87 13 [l0] st M = run 87 15 [l0] (aI 40 :: st) M := e_bipush 40 d87_13 (by decide +kernel)
theorem d87_15 : decode (cod 87) 15 = .ok (.goto 35, 3) := by decide +kernel
theorem r87_15 (l0 : AV) (st : List AV) (M : Mm) : run 87 15 [l0] st M = run 87 50 [l0] st M := e_goto 50 d87_15 (by decide)
theorem d87_18 : decode (cod 87) 18 = .ok (.iload_n 0, 1) := by decide +kernel
theorem r87_18 (x : Int32) (st : List AV) (M : Mm) : run 87 18 [aI x] st M = run 87 19 [aI x] (aI x :: st) M := e_ildn d87_18 rfl
theorem d87_19 : decode (cod 87) 19 = .ok (.iconst 2, 1) := by decide +kernel
theorem r87_19 (l0 : AV) (st : List AV) (M : Mm) : run 87 19 [l0] st M = run 87 20 [l0] (aI 2 :: st) M := e_iconst 2 d87_19 (by decide +kernel)
theorem d87_20 : decode (cod 87) 20 = .ok (.if_icmp .ne 8, 3) := by decide +kernel
theorem r87_20 (l0 : AV) (a b : Int32) (st : List AV) (M : Mm) : run 87 20 [l0] (aI b :: aI a :: st) M = if a = b then run 87 23 [l0] st M else run 87 28 [l0] st M := e_ne2 28 d87_20 (by decide)
theorem d87_23 : decode (cod 87) 23 = .ok (.bipush 9, 2) := by decide +kernel
theorem r87_23 (l0 : AV) (st : List AV) (M : Mm) : run 87 23 [l0] st M = run 87 25 [l0] (aI 9 :: st) M := e_bipush 9 d87_23 (by decide +kernel)
theorem d87_25 : decode (cod 87) 25 = .ok (.goto 25, 3) := by decide +kernel
theorem r87_25 (l0 : AV) (st : List AV) (M : Mm) : run 87 25 [l0] st M = run 87 50 [l0] st M := e_goto 50 d87_25 (by decide)
theorem d87_28 : decode (cod 87) 28 = .ok (.iload_n 0, 1) := by decide +kernel
theorem r87_28 (x : Int32) (st : List AV) (M : Mm) : run 87 28 [aI x] st M = run 87 29 [aI x] (aI x :: st) M := e_ildn d87_28 rfl
theorem d87_29 : decode (cod 87) 29 = .ok (.iconst 3, 1) := by decide +kernel
theorem r87_29 (l0 : AV) (st : List AV) (M : Mm) : run 87 29 [l0] st M = run 87 30 [l0] (aI 3 :: st) M := e_iconst 3 d87_29 (by decide +kernel)
theorem d87_30 : decode (cod 87) 30 = .ok (.if_icmp .ne 8, 3) := by decide +kernel
theorem r87_30 (l0 : AV) (a b : Int32) (st : List AV) (M : Mm) : run 87 30 [l0] (aI b :: aI a :: st) M = if a = b then run 87 33 [l0] st M else run 87 38 [l0] st M := e_ne2 38 d87_30 (by decide)
theorem d87_33 : decode (cod 87) 33 = .ok (.bipush 20, 2) := by decide +kernel
theorem r87_33 (l0 : AV) (st : List AV) (M : Mm) : run 87 33 [l0] st M = run 87 35 [l0] (aI 20 :: st) M := e_bipush 20 d87_33 (by decide +kernel)
theorem d87_35 : decode (cod 87) 35 = .ok (.goto 15, 3) := by decide +kernel
theorem r87_35 (l0 : AV) (st : List AV) (M : Mm) : run 87 35 [l0] st M = run 87 50 [l0] st M := e_goto 50 d87_35 (by decide)
theorem d87_38 : decode (cod 87) 38 = .ok (.iload_n 0, 1) := by decide +kernel
theorem r87_38 (x : Int32) (st : List AV) (M : Mm) : run 87 38 [aI x] st M = run 87 39 [aI x] (aI x :: st) M := e_ildn d87_38 rfl
theorem d87_39 : decode (cod 87) 39 = .ok (.bipush 6, 2) := by decide +kernel
theorem r87_39 (l0 : AV) (st : List AV) (M : Mm) : run 87 39 [l0] st M = run 87 41 [l0] (aI 6 :: st) M := e_bipush 6 d87_39 (by decide +kernel)
theorem d87_41 : decode (cod 87) 41 = .ok (.if_icmp .ne 7, 3) := by decide +kernel
theorem r87_41 (l0 : AV) (a b : Int32) (st : List AV) (M : Mm) : run 87 41 [l0] (aI b :: aI a :: st) M = if a = b then run 87 44 [l0] st M else run 87 48 [l0] st M := e_ne2 48 d87_41 (by decide)
theorem d87_44 : decode (cod 87) 44 = .ok (.iconst 5, 1) := by decide +kernel
theorem r87_44 (l0 : AV) (st : List AV) (M : Mm) : run 87 44 [l0] st M = run 87 45 [l0] (aI 5 :: st) M := e_iconst 5 d87_44 (by decide +kernel)
theorem d87_45 : decode (cod 87) 45 = .ok (.goto 5, 3) := by decide +kernel
theorem r87_45 (l0 : AV) (st : List AV) (M : Mm) : run 87 45 [l0] st M = run 87 50 [l0] st M := e_goto 50 d87_45 (by decide)
theorem d87_48 : decode (cod 87) 48 = .ok (.bipush 120, 2) := by decide +kernel
theorem r87_48 (l0 : AV) (st : List AV) (M : Mm) : run 87 48 [l0] st M = run 87 50 [l0] (aI 120 :: st) M := e_bipush 120 d87_48 (by decide +kernel)
theorem d87_50 : decode (cod 87) 50 = .ok (.ireturn, 1) := by decide +kernel
theorem r87_50 (l0 : AV) (v : Int32) (M : Mm) : run 87 50 [l0] [aI v] M = some (some v, M) := e_iret d87_50 rfl
theorem c88 (g0 i0 : Nat) (x1 : Int32) (M : Mm) : call 88 [aR g0 12 i0, aI x1] M = run 88 0 [aR g0 12 i0, aI x1, none] [] M := call_run 88 _ _
theorem d88_0 : decode (cod 88) 0 = .ok (.iload_n 1, 1) := by decide +kernel
theorem r88_0 (l0 l2 : AV) (x : Int32) (st : List AV) (M : Mm) : run 88 0 [l0, aI x, l2] st M = run 88 1 [l0, aI x, l2] (aI x :: st) M := e_ildn d88_0 rfl
theorem d88_1 : decode (cod 88) 1 = .ok (.iconst 0, 1) := by decide +kernel
theorem r88_1 (l0 l1 l2 : AV) (st : List AV) (M : Mm) : run 88 1 [l0, l1, l2] st M = run 88 2 [l0, l1, l2] (aI 0 :: st) M := e_iconst 0 d88_1 (by decide +kernel)
theorem d88_2 : decode (cod 88) 2 = .ok (.sipush 255, 3) := by decide +kernel
theorem r88_2 (l0 l1 l2 : AV) (st : List AV) (M : Mm) : run 88 2 [l0, l1, l2] st M = run 88 5 [l0, l1, l2] (aI 255 :: st) M := e_sipush 255 d88_2 (by decide +kernel)
theorem d88_5 : decode (cod 88) 5 = .ok (.invokestatic 82, 3) := by decide +kernel
theorem r88_5 (l0 l1 l2 : AV) (a0 : Int32) (a1 : Int32) (a2 : Int32) (M : Mm) : run 88 5 [l0, l1, l2] [aI a2, aI a1, aI a0] M = cbI (call 84 [aI a0, aI a1, aI a2] M) (fun v M => run 88 8 [l0, l1, l2] [aI v] M) := call_I (n := 3) rfl true d88_5 rfl rfl rfl rfl rfl rfl rfl
theorem d88_8 : decode (cod 88) 8 = .ok (.istore_n 2, 1) := by decide +kernel
theorem r88_8 (l0 l1 l2 : AV) (x : Int32) (st : List AV) (M : Mm) : run 88 8 [l0, l1, l2] (aI x :: st) M = run 88 9 [l0, l1, aI x] st M := e_istn [l0, l1, aI x] d88_8 rfl rfl
theorem d88_9 : decode (cod 88) 9 = .ok (.iload_n 2, 1) := by decide +kernel
theorem r88_9 (l0 l1 : AV) (x : Int32) (st : List AV) (M : Mm) : run 88 9 [l0, l1, aI x] st M = run 88 10 [l0, l1, aI x] (aI x :: st) M := e_ildn d88_9 rfl
theorem d88_10 : decode (cod 88) 10 = .ok (.ifCond .ne 15, 3) := by decide +kernel
theorem r88_10 (l0 l1 l2 : AV) (a : Int32) (st : List AV) (M : Mm) : run 88 10 [l0, l1, l2] (aI a :: st) M = if a = 0 then run 88 13 [l0, l1, l2] st M else run 88 25 [l0, l1, l2] st M := e_ne1 25 d88_10 (by decide)
theorem d88_13 : decode (cod 88) 13 = .ok (.aload_n 0, 1) := by decide +kernel
theorem r88_13 (l1 l2 : AV) (xg xi : Nat) (st : List AV) (M : Mm) : run 88 13 [aR xg 12 xi, l1, l2] st M = run 88 14 [aR xg 12 xi, l1, l2] (aR xg 12 xi :: st) M := e_aldn d88_13 rfl
theorem d88_14 : decode (cod 88) 14 = .ok (.getfield 86, 3) := by decide +kernel
theorem r88_14 (l0 l1 l2 : AV) (xg xi : Nat) (st : List AV) (M : Mm) : run 88 14 [l0, l1, l2] (aR xg 12 xi :: st) M = run 88 17 [l0, l1, l2] (aI (M xg 12 xi 18) :: st) M := e_gfi d88_14 rfl rfl rfl
theorem d88_17 : decode (cod 88) 17 = .ok (.bipush 96, 2) := by decide +kernel
theorem r88_17 (l0 l1 l2 : AV) (st : List AV) (M : Mm) : run 88 17 [l0, l1, l2] st M = run 88 19 [l0, l1, l2] (aI 96 :: st) M := e_bipush 96 d88_17 (by decide +kernel)
theorem d88_19 : decode (cod 88) 19 = .ok (.if_icmp .ne 6, 3) := by decide +kernel
theorem r88_19 (l0 l1 l2 : AV) (a b : Int32) (st : List AV) (M : Mm) : run 88 19 [l0, l1, l2] (aI b :: aI a :: st) M = if a = b then run 88 22 [l0, l1, l2] st M else run 88 25 [l0, l1, l2] st M := e_ne2 25 d88_19 (by decide)
theorem d88_22 : decode (cod 88) 22 = .ok (.bipush (-6), 2) := by decide +kernel
theorem r88_22 (l0 l1 l2 : AV) (st : List AV) (M : Mm) : run 88 22 [l0, l1, l2] st M = run 88 24 [l0, l1, l2] (aI (-6) :: st) M := e_bipush (-6) d88_22 (by decide +kernel)
theorem d88_24 : decode (cod 88) 24 = .ok (.istore_n 2, 1) := by decide +kernel
theorem r88_24 (l0 l1 l2 : AV) (x : Int32) (st : List AV) (M : Mm) : run 88 24 [l0, l1, l2] (aI x :: st) M = run 88 25 [l0, l1, aI x] st M := e_istn [l0, l1, aI x] d88_24 rfl rfl
theorem d88_25 : decode (cod 88) 25 = .ok (.iload_n 2, 1) := by decide +kernel
theorem r88_25 (l0 l1 : AV) (x : Int32) (st : List AV) (M : Mm) : run 88 25 [l0, l1, aI x] st M = run 88 26 [l0, l1, aI x] (aI x :: st) M := e_ildn d88_25 rfl
theorem d88_26 : decode (cod 88) 26 = .ok (.ifCond .eq 9, 3) := by decide +kernel
theorem r88_26 (l0 l1 l2 : AV) (a : Int32) (st : List AV) (M : Mm) : run 88 26 [l0, l1, l2] (aI a :: st) M = if a = 0 then run 88 35 [l0, l1, l2] st M else run 88 29 [l0, l1, l2] st M := e_eq1 35 d88_26 (by decide)
theorem d88_29 : decode (cod 88) 29 = .ok (.aload_n 0, 1) := by decide +kernel
theorem r88_29 (l1 l2 : AV) (xg xi : Nat) (st : List AV) (M : Mm) : run 88 29 [aR xg 12 xi, l1, l2] st M = run 88 30 [aR xg 12 xi, l1, l2] (aR xg 12 xi :: st) M := e_aldn d88_29 rfl
theorem d88_30 : decode (cod 88) 30 = .ok (.iload_n 2, 1) := by decide +kernel
theorem r88_30 (l0 l1 : AV) (x : Int32) (st : List AV) (M : Mm) : run 88 30 [l0, l1, aI x] st M = run 88 31 [l0, l1, aI x] (aI x :: st) M := e_ildn d88_30 rfl
theorem d88_31 : decode (cod 88) 31 = .ok (.invokevirtual 89, 3) := by decide +kernel
theorem r88_31 (l0 l1 l2 : AV) (a0g a0i : Nat) (a1 : Int32) (M : Mm) : run 88 31 [l0, l1, l2] [aI a1, aR a0g 12 a0i] M = cbI (call 81 [aR a0g 12 a0i, aI a1] M) (fun v M => run 88 34 [l0, l1, l2] [aI v] M) := call_I (n := 2) rfl false d88_31 rfl rfl rfl rfl rfl rfl rfl
theorem d88_34 : decode (cod 88) 34 = .ok (.ireturn, 1) := by decide +kernel
theorem r88_34 (l0 l1 l2 : AV) (v : Int32) (M : Mm) : run 88 34 [l0, l1, l2] [aI v] M = some (some v, M) := e_iret d88_34 rfl
theorem d88_35 : decode (cod 88) 35 = .ok (.aload_n 0, 1) := by decide +kernel
theorem r88_35 (l1 l2 : AV) (xg xi : Nat) (st : List AV) (M : Mm) : run 88 35 [aR xg 12 xi, l1, l2] st M = run 88 36 [aR xg 12 xi, l1, l2] (aR xg 12 xi :: st) M := e_aldn d88_35 rfl
theorem d88_36 : decode (cod 88) 36 = .ok (.getfield 40, 3) := by decide +kernel
theorem r88_36 (l0 l1 l2 : AV) (xg xi : Nat) (st : List AV) (M : Mm) : run 88 36 [l0, l1, l2] (aR xg 12 xi :: st) M = run 88 39 [l0, l1, l2] (aR 4 23 0 :: st) M := e_gfr (fun g => (4, 23, 0)) d88_36 rfl rfl rfl
theorem d88_39 : decode (cod 88) 39 = .ok (.aload_n 0, 1) := by decide +kernel
theorem r88_39 (l1 l2 : AV) (xg xi : Nat) (st : List AV) (M : Mm) : run 88 39 [aR xg 12 xi, l1, l2] st M = run 88 40 [aR xg 12 xi, l1, l2] (aR xg 12 xi :: st) M := e_aldn d88_39 rfl
theorem d88_40 : decode (cod 88) 40 = .ok (.getfield 86, 3) := by decide +kernel
theorem r88_40 (l0 l1 l2 : AV) (xg xi : Nat) (st : List AV) (M : Mm) : run 88 40 [l0, l1, l2] (aR xg 12 xi :: st) M = run 88 43 [l0, l1, l2] (aI (M xg 12 xi 18) :: st) M := e_gfi d88_40 rfl rfl rfl
theorem d88_43 : decode (cod 88) 43 = .ok (.iload_n 1, 1) := by decide +kernel
theorem r88_43 (l0 l2 : AV) (x : Int32) (st : List AV) (M : Mm) : run 88 43 [l0, aI x, l2] st M = run 88 44 [l0, aI x, l2] (aI x :: st) M := e_ildn d88_43 rfl
theorem d88_44 : decode (cod 88) 44 = .ok (.iastore, 1) := by decide +kernel
theorem r88_44 (l0 l1 l2 : AV) (v i : Int32) (xg xi : Nat) (st : List AV) (M : Mm) : run 88 44 [l0, l1, l2] (aI v :: aI i :: aR xg 23 xi :: st) M = if vpB i 96 = true then run 88 45 [l0, l1, l2] st (wr M xg 23 xi i.toNatClampNeg v) else none := e_ias d88_44 rfl rfl
theorem d88_45 : decode (cod 88) 45 = .ok (.aload_n 0, 1) := by decide +kernel
theorem r88_45 (l1 l2 : AV) (xg xi : Nat) (st : List AV) (M : Mm) : run 88 45 [aR xg 12 xi, l1, l2] st M = run 88 46 [aR xg 12 xi, l1, l2] (aR xg 12 xi :: st) M := e_aldn d88_45 rfl
theorem d88_46 : decode (cod 88) 46 = .ok (.dup, 1) := by decide +kernel
theorem r88_46 (l0 l1 l2 : AV) (xg xi : Nat) (st : List AV) (M : Mm) : run 88 46 [l0, l1, l2] (aR xg 12 xi :: st) M = run 88 47 [l0, l1, l2] (aR xg 12 xi :: aR xg 12 xi :: st) M := e_dup d88_46
theorem d88_47 : decode (cod 88) 47 = .ok (.getfield 86, 3) := by decide +kernel
theorem r88_47 (l0 l1 l2 : AV) (xg xi : Nat) (st : List AV) (M : Mm) : run 88 47 [l0, l1, l2] (aR xg 12 xi :: st) M = run 88 50 [l0, l1, l2] (aI (M xg 12 xi 18) :: st) M := e_gfi d88_47 rfl rfl rfl
theorem d88_50 : decode (cod 88) 50 = .ok (.iconst 1, 1) := by decide +kernel
theorem r88_50 (l0 l1 l2 : AV) (st : List AV) (M : Mm) : run 88 50 [l0, l1, l2] st M = run 88 51 [l0, l1, l2] (aI 1 :: st) M := e_iconst 1 d88_50 (by decide +kernel)
theorem d88_51 : decode (cod 88) 51 = .ok (.iadd, 1) := by decide +kernel
theorem r88_51 (l0 l1 l2 : AV) (a b : Int32) (st : List AV) (M : Mm) : run 88 51 [l0, l1, l2] (aI b :: aI a :: st) M = run 88 52 [l0, l1, l2] (aI (a + b) :: st) M := e_iadd d88_51
theorem d88_52 : decode (cod 88) 52 = .ok (.putfield 86, 3) := by decide +kernel
theorem r88_52 (l0 l1 l2 : AV) (v : Int32) (xg xi : Nat) (st : List AV) (M : Mm) : run 88 52 [l0, l1, l2] (aI v :: aR xg 12 xi :: st) M = run 88 55 [l0, l1, l2] st (wr M xg 12 xi 18 v) := e_pfi d88_52 rfl rfl rfl rfl
theorem d88_55 : decode (cod 88) 55 = .ok (.aload_n 0, 1) := by decide +kernel
theorem r88_55 (l1 l2 : AV) (xg xi : Nat) (st : List AV) (M : Mm) : run 88 55 [aR xg 12 xi, l1, l2] st M = run 88 56 [aR xg 12 xi, l1, l2] (aR xg 12 xi :: st) M := e_aldn d88_55 rfl
theorem d88_56 : decode (cod 88) 56 = .ok (.getfield 86, 3) := by decide +kernel
theorem r88_56 (l0 l1 l2 : AV) (xg xi : Nat) (st : List AV) (M : Mm) : run 88 56 [l0, l1, l2] (aR xg 12 xi :: st) M = run 88 59 [l0, l1, l2] (aI (M xg 12 xi 18) :: st) M := e_gfi d88_56 rfl rfl rfl
theorem d88_59 : decode (cod 88) 59 = .ok (.ireturn, 1) := by decide +kernel
theorem r88_59 (l0 l1 l2 : AV) (v : Int32) (M : Mm) : run 88 59 [l0, l1, l2] [aI v] M = some (some v, M) := e_iret d88_59 rfl
theorem c89 (g0 i0 : Nat) (M : Mm) : call 89 [aR g0 12 i0] M = run 89 0 [aR g0 12 i0] [] M := call_run 89 _ _
theorem d89_0 : decode (cod 89) 0 = .ok (.aload_n 0, 1) := by decide +kernel
theorem r89_0 (xg xi : Nat) (st : List AV) (M : Mm) : run 89 0 [aR xg 12 xi] st M = run 89 1 [aR xg 12 xi] (aR xg 12 xi :: st) M := e_aldn d89_0 rfl
theorem d89_1 : decode (cod 89) 1 = .ok (.getfield 93, 3) := by decide +kernel
theorem r89_1 (l0 : AV) (xg xi : Nat) (st : List AV) (M : Mm) : run 89 1 [l0] (aR xg 12 xi :: st) M = run 89 4 [l0] (aI (M xg 12 xi 19) :: st) M := e_gfi d89_1 rfl rfl rfl
theorem d89_4 : decode (cod 89) 4 = .ok (.aload_n 0, 1) := by decide +kernel
theorem r89_4 (xg xi : Nat) (st : List AV) (M : Mm) : run 89 4 [aR xg 12 xi] st M = run 89 5 [aR xg 12 xi] (aR xg 12 xi :: st) M := e_aldn d89_4 rfl
theorem d89_5 : decode (cod 89) 5 = .ok (.getfield 86, 3) := by decide +kernel
theorem r89_5 (l0 : AV) (xg xi : Nat) (st : List AV) (M : Mm) : run 89 5 [l0] (aR xg 12 xi :: st) M = run 89 8 [l0] (aI (M xg 12 xi 18) :: st) M := e_gfi d89_5 rfl rfl rfl
theorem d89_8 : decode (cod 89) 8 = .ok (.if_icmp .ge 15, 3) := by decide +kernel
theorem r89_8 (l0 : AV) (a b : Int32) (st : List AV) (M : Mm) : run 89 8 [l0] (aI b :: aI a :: st) M = if a < b then run 89 11 [l0] st M else run 89 23 [l0] st M := e_ge2 23 d89_8 (by decide)
theorem d89_11 : decode (cod 89) 11 = .ok (.aload_n 0, 1) := by decide +kernel
theorem r89_11 (xg xi : Nat) (st : List AV) (M : Mm) : run 89 11 [aR xg 12 xi] st M = run 89 12 [aR xg 12 xi] (aR xg 12 xi :: st) M := e_aldn d89_11 rfl
theorem d89_12 : decode (cod 89) 12 = .ok (.getfield 40, 3) := by decide +kernel
theorem r89_12 (l0 : AV) (xg xi : Nat) (st : List AV) (M : Mm) : run 89 12 [l0] (aR xg 12 xi :: st) M = run 89 15 [l0] (aR 4 23 0 :: st) M := e_gfr (fun g => (4, 23, 0)) d89_12 rfl rfl rfl
theorem d89_15 : decode (cod 89) 15 = .ok (.aload_n 0, 1) := by decide +kernel
theorem r89_15 (xg xi : Nat) (st : List AV) (M : Mm) : run 89 15 [aR xg 12 xi] st M = run 89 16 [aR xg 12 xi] (aR xg 12 xi :: st) M := e_aldn d89_15 rfl
theorem d89_16 : decode (cod 89) 16 = .ok (.getfield 93, 3) := by decide +kernel
theorem r89_16 (l0 : AV) (xg xi : Nat) (st : List AV) (M : Mm) : run 89 16 [l0] (aR xg 12 xi :: st) M = run 89 19 [l0] (aI (M xg 12 xi 19) :: st) M := e_gfi d89_16 rfl rfl rfl
theorem d89_19 : decode (cod 89) 19 = .ok (.iaload, 1) := by decide +kernel
theorem r89_19 (l0 : AV) (i : Int32) (xg xi : Nat) (st : List AV) (M : Mm) : run 89 19 [l0] (aI i :: aR xg 23 xi :: st) M = if vpB i 96 = true then run 89 20 [l0] (aI (M xg 23 xi i.toNatClampNeg) :: st) M else none := e_ial d89_19 rfl rfl
theorem d89_20 : decode (cod 89) 20 = .ok (.goto 4, 3) := by decide +kernel
theorem r89_20 (l0 : AV) (st : List AV) (M : Mm) : run 89 20 [l0] st M = run 89 24 [l0] st M := e_goto 24 d89_20 (by decide)
theorem d89_23 : decode (cod 89) 23 = .ok (.iconst (-1), 1) := by decide +kernel
theorem r89_23 (l0 : AV) (st : List AV) (M : Mm) : run 89 23 [l0] st M = run 89 24 [l0] (aI (-1) :: st) M := e_iconst (-1) d89_23 (by decide +kernel)
theorem d89_24 : decode (cod 89) 24 = .ok (.ireturn, 1) := by decide +kernel
theorem r89_24 (l0 : AV) (v : Int32) (M : Mm) : run 89 24 [l0] [aI v] M = some (some v, M) := e_iret d89_24 rfl
theorem c90 (g0 i0 : Nat) (x1 : Int32) (x2 : Int32) (M : Mm) : call 90 [aR g0 12 i0, aI x1, aI x2] M = run 90 0 [aR g0 12 i0, aI x1, aI x2, none, none] [] M := call_run 90 _ _
theorem d90_0 : decode (cod 90) 0 = .ok (.iconst 0, 1) := by decide +kernel
theorem r90_0 (l0 l1 l2 l3 l4 : AV) (st : List AV) (M : Mm) : run 90 0 [l0, l1, l2, l3, l4] st M = run 90 1 [l0, l1, l2, l3, l4] (aI 0 :: st) M := e_iconst 0 d90_0 (by decide +kernel)
theorem d90_1 : decode (cod 90) 1 = .ok (.istore_n 3, 1) := by decide +kernel
theorem r90_1 (l0 l1 l2 l3 l4 : AV) (x : Int32) (st : List AV) (M : Mm) : run 90 1 [l0, l1, l2, l3, l4] (aI x :: st) M = run 90 2 [l0, l1, l2, aI x, l4] st M := e_istn [l0, l1, l2, aI x, l4] d90_1 rfl rfl
theorem d90_2 : decode (cod 90) 2 = .ok (.iconst 0, 1) := by decide +kernel
theorem r90_2 (l0 l1 l2 l3 l4 : AV) (st : List AV) (M : Mm) : run 90 2 [l0, l1, l2, l3, l4] st M = run 90 3 [l0, l1, l2, l3, l4] (aI 0 :: st) M := e_iconst 0 d90_2 (by decide +kernel)
theorem d90_3 : decode (cod 90) 3 = .ok (.istore 4, 2) := by decide +kernel
theorem r90_3 (l0 l1 l2 l3 l4 : AV) (x : Int32) (st : List AV) (M : Mm) : run 90 3 [l0, l1, l2, l3, l4] (aI x :: st) M = run 90 5 [l0, l1, l2, l3, aI x] st M := e_ist [l0, l1, l2, l3, aI x] d90_3 rfl rfl
theorem d90_5 : decode (cod 90) 5 = .ok (.iload 4, 2) := by decide +kernel
theorem r90_5 (l0 l1 l2 l3 : AV) (x : Int32) (st : List AV) (M : Mm) : run 90 5 [l0, l1, l2, l3, aI x] st M = run 90 7 [l0, l1, l2, l3, aI x] (aI x :: st) M := e_ild d90_5 rfl
theorem d90_7 : decode (cod 90) 7 = .ok (.iload_n 2, 1) := by decide +kernel
theorem r90_7 (l0 l1 l3 l4 : AV) (x : Int32) (st : List AV) (M : Mm) : run 90 7 [l0, l1, aI x, l3, l4] st M = run 90 8 [l0, l1, aI x, l3, l4] (aI x :: st) M := e_ildn d90_7 rfl
theorem d90_8 : decode (cod 90) 8 = .ok (.if_icmp .ge 48, 3) := by decide +kernel
theorem r90_8 (l0 l1 l2 l3 l4 : AV) (a b : Int32) (st : List AV) (M : Mm) : run 90 8 [l0, l1, l2, l3, l4] (aI b :: aI a :: st) M = if a < b then run 90 11 [l0, l1, l2, l3, l4] st M else run 90 56 [l0, l1, l2, l3, l4] st M := e_ge2 56 d90_8 (by decide)
theorem d90_11 : decode (cod 90) 11 = .ok (.aload_n 0, 1) := by decide +kernel
theorem r90_11 (l1 l2 l3 l4 : AV) (xg xi : Nat) (st : List AV) (M : Mm) : run 90 11 [aR xg 12 xi, l1, l2, l3, l4] st M = run 90 12 [aR xg 12 xi, l1, l2, l3, l4] (aR xg 12 xi :: st) M := e_aldn d90_11 rfl
theorem d90_12 : decode (cod 90) 12 = .ok (.invokevirtual 96, 3) := by decide +kernel
theorem r90_12 (l0 l1 l2 l3 l4 : AV) (a0g a0i : Nat) (M : Mm) : run 90 12 [l0, l1, l2, l3, l4] [aR a0g 12 a0i] M = cbI (call 89 [aR a0g 12 a0i] M) (fun v M => run 90 15 [l0, l1, l2, l3, l4] [aI v] M) := call_I (n := 1) rfl false d90_12 rfl rfl rfl rfl rfl rfl rfl
theorem d90_15 : decode (cod 90) 15 = .ok (.bipush 48, 2) := by decide +kernel
theorem r90_15 (l0 l1 l2 l3 l4 : AV) (st : List AV) (M : Mm) : run 90 15 [l0, l1, l2, l3, l4] st M = run 90 17 [l0, l1, l2, l3, l4] (aI 48 :: st) M := e_bipush 48 d90_15 (by decide +kernel)
theorem d90_17 : decode (cod 90) 17 = .ok (.bipush 57, 2) := by decide +kernel
theorem r90_17 (l0 l1 l2 l3 l4 : AV) (st : List AV) (M : Mm) : run 90 17 [l0, l1, l2, l3, l4] st M = run 90 19 [l0, l1, l2, l3, l4] (aI 57 :: st) M := e_bipush 57 d90_17 (by decide +kernel)
theorem d90_19 : decode (cod 90) 19 = .ok (.invokestatic 100, 3) := by decide +kernel
theorem r90_19 (l0 l1 l2 l3 l4 : AV) (a0 : Int32) (a1 : Int32) (a2 : Int32) (M : Mm) : run 90 19 [l0, l1, l2, l3, l4] [aI a2, aI a1, aI a0] M = cbI (call 83 [aI a0, aI a1, aI a2] M) (fun v M => run 90 22 [l0, l1, l2, l3, l4] [aI v] M) := call_I (n := 3) rfl true d90_19 rfl rfl rfl rfl rfl rfl rfl
theorem d90_22 : decode (cod 90) 22 = .ok (.ifCond .ne 5, 3) := by decide +kernel
theorem r90_22 (l0 l1 l2 l3 l4 : AV) (a : Int32) (st : List AV) (M : Mm) : run 90 22 [l0, l1, l2, l3, l4] (aI a :: st) M = if a = 0 then run 90 25 [l0, l1, l2, l3, l4] st M else run 90 27 [l0, l1, l2, l3, l4] st M := e_ne1 27 d90_22 (by decide)
theorem d90_25 : decode (cod 90) 25 = .ok (.iconst 0, 1) := by decide +kernel
theorem r90_25 (l0 l1 l2 l3 l4 : AV) (st : List AV) (M : Mm) : run 90 25 [l0, l1, l2, l3, l4] st M = run 90 26 [l0, l1, l2, l3, l4] (aI 0 :: st) M := e_iconst 0 d90_25 (by decide +kernel)
theorem d90_26 : decode (cod 90) 26 = .ok (.ireturn, 1) := by decide +kernel
theorem r90_26 (l0 l1 l2 l3 l4 : AV) (v : Int32) (M : Mm) : run 90 26 [l0, l1, l2, l3, l4] [aI v] M = if v = 0 ∨ v = 1 then some (some v, M) else none := e_zret d90_26 rfl
theorem d90_27 : decode (cod 90) 27 = .ok (.bipush 10, 2) := by decide +kernel
theorem r90_27 (l0 l1 l2 l3 l4 : AV) (st : List AV) (M : Mm) : run 90 27 [l0, l1, l2, l3, l4] st M = run 90 29 [l0, l1, l2, l3, l4] (aI 10 :: st) M := e_bipush 10 d90_27 (by decide +kernel)
theorem d90_29 : decode (cod 90) 29 = .ok (.iload_n 3, 1) := by decide +kernel
theorem r90_29 (l0 l1 l2 l4 : AV) (x : Int32) (st : List AV) (M : Mm) : run 90 29 [l0, l1, l2, aI x, l4] st M = run 90 30 [l0, l1, l2, aI x, l4] (aI x :: st) M := e_ildn d90_29 rfl
theorem d90_30 : decode (cod 90) 30 = .ok (.imul, 1) := by decide +kernel
theorem r90_30 (l0 l1 l2 l3 l4 : AV) (a b : Int32) (st : List AV) (M : Mm) : run 90 30 [l0, l1, l2, l3, l4] (aI b :: aI a :: st) M = run 90 31 [l0, l1, l2, l3, l4] (aI (a * b) :: st) M := e_imul d90_30
theorem d90_31 : decode (cod 90) 31 = .ok (.aload_n 0, 1) := by decide +kernel
theorem r90_31 (l1 l2 l3 l4 : AV) (xg xi : Nat) (st : List AV) (M : Mm) : run 90 31 [aR xg 12 xi, l1, l2, l3, l4] st M = run 90 32 [aR xg 12 xi, l1, l2, l3, l4] (aR xg 12 xi :: st) M := e_aldn d90_31 rfl
theorem d90_32 : decode (cod 90) 32 = .ok (.invokevirtual 96, 3) := by decide +kernel
theorem r90_32 (l0 l1 l2 l3 l4 : AV) (a0g a0i : Nat) (t0 : AV) (M : Mm) : run 90 32 [l0, l1, l2, l3, l4] [aR a0g 12 a0i, t0] M = cbI (call 89 [aR a0g 12 a0i] M) (fun v M => run 90 35 [l0, l1, l2, l3, l4] [aI v, t0] M) := call_I (n := 1) rfl false d90_32 rfl rfl rfl rfl rfl rfl rfl
theorem d90_35 : decode (cod 90) 35 = .ok (.iadd, 1) := by decide +kernel
theorem r90_35 (l0 l1 l2 l3 l4 : AV) (a b : Int32) (st : List AV) (M : Mm) : run 90 35 [l0, l1, l2, l3, l4] (aI b :: aI a :: st) M = run 90 36 [l0, l1, l2, l3, l4] (aI (a + b) :: st) M := e_iadd d90_35
theorem d90_36 : decode (cod 90) 36 = .ok (.bipush 48, 2) := by decide +kernel
theorem r90_36 (l0 l1 l2 l3 l4 : AV) (st : List AV) (M : Mm) : run 90 36 [l0, l1, l2, l3, l4] st M = run 90 38 [l0, l1, l2, l3, l4] (aI 48 :: st) M := e_bipush 48 d90_36 (by decide +kernel)
theorem d90_38 : decode (cod 90) 38 = .ok (.isub, 1) := by decide +kernel
theorem r90_38 (l0 l1 l2 l3 l4 : AV) (a b : Int32) (st : List AV) (M : Mm) : run 90 38 [l0, l1, l2, l3, l4] (aI b :: aI a :: st) M = run 90 39 [l0, l1, l2, l3, l4] (aI (a - b) :: st) M := e_isub d90_38
theorem d90_39 : decode (cod 90) 39 = .ok (.istore_n 3, 1) := by decide +kernel
theorem r90_39 (l0 l1 l2 l3 l4 : AV) (x : Int32) (st : List AV) (M : Mm) : run 90 39 [l0, l1, l2, l3, l4] (aI x :: st) M = run 90 40 [l0, l1, l2, aI x, l4] st M := e_istn [l0, l1, l2, aI x, l4] d90_39 rfl rfl
theorem d90_40 : decode (cod 90) 40 = .ok (.aload_n 0, 1) := by decide +kernel
theorem r90_40 (l1 l2 l3 l4 : AV) (xg xi : Nat) (st : List AV) (M : Mm) : run 90 40 [aR xg 12 xi, l1, l2, l3, l4] st M = run 90 41 [aR xg 12 xi, l1, l2, l3, l4] (aR xg 12 xi :: st) M := e_aldn d90_40 rfl
theorem d90_41 : decode (cod 90) 41 = .ok (.dup, 1) := by decide +kernel
theorem r90_41 (l0 l1 l2 l3 l4 : AV) (xg xi : Nat) (st : List AV) (M : Mm) : run 90 41 [l0, l1, l2, l3, l4] (aR xg 12 xi :: st) M = run 90 42 [l0, l1, l2, l3, l4] (aR xg 12 xi :: aR xg 12 xi :: st) M := e_dup d90_41
theorem d90_42 : decode (cod 90) 42 = .ok (.getfield 93, 3) := by decide +kernel
theorem r90_42 (l0 l1 l2 l3 l4 : AV) (xg xi : Nat) (st : List AV) (M : Mm) : run 90 42 [l0, l1, l2, l3, l4] (aR xg 12 xi :: st) M = run 90 45 [l0, l1, l2, l3, l4] (aI (M xg 12 xi 19) :: st) M := e_gfi d90_42 rfl rfl rfl
theorem d90_45 : decode (cod 90) 45 = .ok (.iconst 1, 1) := by decide +kernel
theorem r90_45 (l0 l1 l2 l3 l4 : AV) (st : List AV) (M : Mm) : run 90 45 [l0, l1, l2, l3, l4] st M = run 90 46 [l0, l1, l2, l3, l4] (aI 1 :: st) M := e_iconst 1 d90_45 (by decide +kernel)
theorem d90_46 : decode (cod 90) 46 = .ok (.iadd, 1) := by decide +kernel
theorem r90_46 (l0 l1 l2 l3 l4 : AV) (a b : Int32) (st : List AV) (M : Mm) : run 90 46 [l0, l1, l2, l3, l4] (aI b :: aI a :: st) M = run 90 47 [l0, l1, l2, l3, l4] (aI (a + b) :: st) M := e_iadd d90_46
theorem d90_47 : decode (cod 90) 47 = .ok (.putfield 93, 3) := by decide +kernel
theorem r90_47 (l0 l1 l2 l3 l4 : AV) (v : Int32) (xg xi : Nat) (st : List AV) (M : Mm) : run 90 47 [l0, l1, l2, l3, l4] (aI v :: aR xg 12 xi :: st) M = run 90 50 [l0, l1, l2, l3, l4] st (wr M xg 12 xi 19 v) := e_pfi d90_47 rfl rfl rfl rfl
theorem d90_50 : decode (cod 90) 50 = .ok (.iinc 4 1, 3) := by decide +kernel
theorem r90_50 (l0 l1 l2 l3 : AV) (x : Int32) (st : List AV) (M : Mm) : run 90 50 [l0, l1, l2, l3, aI x] st M = run 90 53 [l0, l1, l2, l3, aI (x + 1)] st M := e_iinc 1 [l0, l1, l2, l3, aI (x + 1)] d90_50 (by decide +kernel) rfl rfl
theorem d90_53 : decode (cod 90) 53 = .ok (.goto (-48), 3) := by decide +kernel
theorem r90_53 (l0 l1 l2 l3 l4 : AV) (st : List AV) (M : Mm) : run 90 53 [l0, l1, l2, l3, l4] st M = run 90 5 [l0, l1, l2, l3, l4] st M := e_goto 5 d90_53 (by decide)
theorem d90_56 : decode (cod 90) 56 = .ok (.aload_n 0, 1) := by decide +kernel
theorem r90_56 (l1 l2 l3 l4 : AV) (xg xi : Nat) (st : List AV) (M : Mm) : run 90 56 [aR xg 12 xi, l1, l2, l3, l4] st M = run 90 57 [aR xg 12 xi, l1, l2, l3, l4] (aR xg 12 xi :: st) M := e_aldn d90_56 rfl
theorem d90_57 : decode (cod 90) 57 = .ok (.getfield 49, 3) := by decide +kernel
theorem r90_57 (l0 l1 l2 l3 l4 : AV) (xg xi : Nat) (st : List AV) (M : Mm) : run 90 57 [l0, l1, l2, l3, l4] (aR xg 12 xi :: st) M = run 90 60 [l0, l1, l2, l3, l4] (aR 4 26 0 :: st) M := e_gfr (fun g => (4, 26, 0)) d90_57 rfl rfl rfl
theorem d90_60 : decode (cod 90) 60 = .ok (.iload_n 1, 1) := by decide +kernel
theorem r90_60 (l0 l2 l3 l4 : AV) (x : Int32) (st : List AV) (M : Mm) : run 90 60 [l0, aI x, l2, l3, l4] st M = run 90 61 [l0, aI x, l2, l3, l4] (aI x :: st) M := e_ildn d90_60 rfl
theorem d90_61 : decode (cod 90) 61 = .ok (.iload_n 3, 1) := by decide +kernel
theorem r90_61 (l0 l1 l2 l4 : AV) (x : Int32) (st : List AV) (M : Mm) : run 90 61 [l0, l1, l2, aI x, l4] st M = run 90 62 [l0, l1, l2, aI x, l4] (aI x :: st) M := e_ildn d90_61 rfl
theorem d90_62 : decode (cod 90) 62 = .ok (.iastore, 1) := by decide +kernel
theorem r90_62 (l0 l1 l2 l3 l4 : AV) (v i : Int32) (xg xi : Nat) (st : List AV) (M : Mm) : run 90 62 [l0, l1, l2, l3, l4] (aI v :: aI i :: aR xg 26 xi :: st) M = if vpB i 192 = true then run 90 63 [l0, l1, l2, l3, l4] st (wr M xg 26 xi i.toNatClampNeg v) else none := e_ias d90_62 rfl rfl
theorem d90_63 : decode (cod 90) 63 = .ok (.iconst 1, 1) := by decide +kernel
theorem r90_63 (l0 l1 l2 l3 l4 : AV) (st : List AV) (M : Mm) : run 90 63 [l0, l1, l2, l3, l4] st M = run 90 64 [l0, l1, l2, l3, l4] (aI 1 :: st) M := e_iconst 1 d90_63 (by decide +kernel)
theorem d90_64 : decode (cod 90) 64 = .ok (.ireturn, 1) := by decide +kernel
theorem r90_64 (l0 l1 l2 l3 l4 : AV) (v : Int32) (M : Mm) : run 90 64 [l0, l1, l2, l3, l4] [aI v] M = if v = 0 ∨ v = 1 then some (some v, M) else none := e_zret d90_64 rfl
theorem c91 (x0 : Int32) (M : Mm) : call 91 [aI x0] M = run 91 0 [aI x0] [] M := call_run 91 _ _
theorem d91_0 : decode (cod 91) 0 = .ok (.iload_n 0, 1) := by decide +kernel
theorem r91_0 (x : Int32) (st : List AV) (M : Mm) : run 91 0 [aI x] st M = run 91 1 [aI x] (aI x :: st) M := e_ildn d91_0 rfl
theorem d91_1 : decode (cod 91) 1 = .ok (.lookupswitch 71 #[(98, 67), (99, 61), (108, 59), (115, 69), (116, 65), (119, 63)], 59) := by decide +kernel
theorem r91_1 (l0 : AV) (x : Int32) (st : List AV) (M : Mm) : run 91 1 [l0] (aI x :: st) M = if x = 98 then run 91 68 [l0] st M else if x = 99 then run 91 62 [l0] st M else if x = 108 then run 91 60 [l0] st M else if x = 115 then run 91 70 [l0] st M else if x = 116 then run 91 66 [l0] st M else if x = 119 then run 91 64 [l0] st M else run 91 72 [l0] st M := by
  rw [run_step d91_1 rfl]
  simp only [stpI, lsw]
  rw [if_pos (by decide)]
  by_cases c0 : x = 98
  · subst c0
    rw [if_pos rfl]
    rfl
  rw [if_neg c0]
  by_cases c1 : x = 99
  · subst c1
    rw [if_pos rfl]
    rfl
  rw [if_neg c1]
  by_cases c2 : x = 108
  · subst c2
    rw [if_pos rfl]
    rfl
  rw [if_neg c2]
  by_cases c3 : x = 115
  · subst c3
    rw [if_pos rfl]
    rfl
  rw [if_neg c3]
  by_cases c4 : x = 116
  · subst c4
    rw [if_pos rfl]
    rfl
  rw [if_neg c4]
  by_cases c5 : x = 119
  · subst c5
    rw [if_pos rfl]
    rfl
  rw [if_neg c5]
  have ho : Op.lookupswitch.offset [(98, 67), (99, 61), (108, 59), (115, 69), (116, 65), (119, 63)] 71 x.toInt = 71 := by
    rw [lv_osw c0 (by decide), lv_osw c1 (by decide), lv_osw c2 (by decide), lv_osw c3 (by decide), lv_osw c4 (by decide), lv_osw c5 (by decide)]
    rfl
  show (match jmp 1 (Op.lookupswitch.offset [(98, 67), (99, 61), (108, 59), (115, 69), (116, 65), (119, 63)] 71 x.toInt) _ st M with | none => none | some (.inl r) => some r | some (.inr s') => run 91 s'.1 s'.2.1 s'.2.2.1 s'.2.2.2) = _
  rw [ho, jmp_run 72 (by decide)]
  rfl
theorem d91_60 : decode (cod 91) 60 = .ok (.iconst 0, 1) := by decide +kernel
theorem r91_60 (l0 : AV) (st : List AV) (M : Mm) : run 91 60 [l0] st M = run 91 61 [l0] (aI 0 :: st) M := e_iconst 0 d91_60 (by decide +kernel)
theorem d91_61 : decode (cod 91) 61 = .ok (.ireturn, 1) := by decide +kernel
theorem r91_61 (l0 : AV) (v : Int32) (M : Mm) : run 91 61 [l0] [aI v] M = some (some v, M) := e_iret d91_61 rfl
theorem d91_62 : decode (cod 91) 62 = .ok (.iconst 1, 1) := by decide +kernel
theorem r91_62 (l0 : AV) (st : List AV) (M : Mm) : run 91 62 [l0] st M = run 91 63 [l0] (aI 1 :: st) M := e_iconst 1 d91_62 (by decide +kernel)
theorem d91_63 : decode (cod 91) 63 = .ok (.ireturn, 1) := by decide +kernel
theorem r91_63 (l0 : AV) (v : Int32) (M : Mm) : run 91 63 [l0] [aI v] M = some (some v, M) := e_iret d91_63 rfl
theorem d91_64 : decode (cod 91) 64 = .ok (.iconst 2, 1) := by decide +kernel
theorem r91_64 (l0 : AV) (st : List AV) (M : Mm) : run 91 64 [l0] st M = run 91 65 [l0] (aI 2 :: st) M := e_iconst 2 d91_64 (by decide +kernel)
theorem d91_65 : decode (cod 91) 65 = .ok (.ireturn, 1) := by decide +kernel
theorem r91_65 (l0 : AV) (v : Int32) (M : Mm) : run 91 65 [l0] [aI v] M = some (some v, M) := e_iret d91_65 rfl
theorem d91_66 : decode (cod 91) 66 = .ok (.iconst 3, 1) := by decide +kernel
theorem r91_66 (l0 : AV) (st : List AV) (M : Mm) : run 91 66 [l0] st M = run 91 67 [l0] (aI 3 :: st) M := e_iconst 3 d91_66 (by decide +kernel)
theorem d91_67 : decode (cod 91) 67 = .ok (.ireturn, 1) := by decide +kernel
theorem r91_67 (l0 : AV) (v : Int32) (M : Mm) : run 91 67 [l0] [aI v] M = some (some v, M) := e_iret d91_67 rfl
theorem d91_68 : decode (cod 91) 68 = .ok (.iconst 4, 1) := by decide +kernel
theorem r91_68 (l0 : AV) (st : List AV) (M : Mm) : run 91 68 [l0] st M = run 91 69 [l0] (aI 4 :: st) M := e_iconst 4 d91_68 (by decide +kernel)
theorem d91_69 : decode (cod 91) 69 = .ok (.ireturn, 1) := by decide +kernel
theorem r91_69 (l0 : AV) (v : Int32) (M : Mm) : run 91 69 [l0] [aI v] M = some (some v, M) := e_iret d91_69 rfl
theorem d91_70 : decode (cod 91) 70 = .ok (.iconst 5, 1) := by decide +kernel
theorem r91_70 (l0 : AV) (st : List AV) (M : Mm) : run 91 70 [l0] st M = run 91 71 [l0] (aI 5 :: st) M := e_iconst 5 d91_70 (by decide +kernel)
theorem d91_71 : decode (cod 91) 71 = .ok (.ireturn, 1) := by decide +kernel
theorem r91_71 (l0 : AV) (v : Int32) (M : Mm) : run 91 71 [l0] [aI v] M = some (some v, M) := e_iret d91_71 rfl
theorem d91_72 : decode (cod 91) 72 = .ok (.iconst (-1), 1) := by decide +kernel
theorem r91_72 (l0 : AV) (st : List AV) (M : Mm) : run 91 72 [l0] st M = run 91 73 [l0] (aI (-1) :: st) M := e_iconst (-1) d91_72 (by decide +kernel)
theorem d91_73 : decode (cod 91) 73 = .ok (.ireturn, 1) := by decide +kernel
theorem r91_73 (l0 : AV) (v : Int32) (M : Mm) : run 91 73 [l0] [aI v] M = some (some v, M) := e_iret d91_73 rfl
theorem c92 (x0 : Int32) (M : Mm) : call 92 [aI x0] M = run 92 0 [aI x0] [] M := call_run 92 _ _
theorem d92_0 : decode (cod 92) 0 = .ok (.iload_n 0, 1) := by decide +kernel
theorem r92_0 (x : Int32) (st : List AV) (M : Mm) : run 92 0 [aI x] st M = run 92 1 [aI x] (aI x :: st) M := e_ildn d92_0 rfl
theorem d92_1 : decode (cod 92) 1 = .ok (.tableswitch 87 101 115 #[77, 75, 87, 87, 87, 87, 87, 85, 87, 87, 87, 87, 81, 79, 83], 75) := by decide +kernel
theorem r92_1 (l0 : AV) (x : Int32) (st : List AV) (M : Mm) : run 92 1 [l0] (aI x :: st) M = if x = 101 then run 92 78 [l0] st M else if x = 102 then run 92 76 [l0] st M else if x = 108 then run 92 86 [l0] st M else if x = 113 then run 92 82 [l0] st M else if x = 114 then run 92 80 [l0] st M else if x = 115 then run 92 84 [l0] st M else run 92 88 [l0] st M := by
  rw [run_step d92_1 rfl]
  simp only [stpI, tsw]
  by_cases c0 : x = 101
  · subst c0
    rw [if_pos rfl]
    rfl
  rw [if_neg c0]
  by_cases c1 : x = 102
  · subst c1
    rw [if_pos rfl]
    rfl
  rw [if_neg c1]
  by_cases c2 : x = 108
  · subst c2
    rw [if_pos rfl]
    rfl
  rw [if_neg c2]
  by_cases c3 : x = 113
  · subst c3
    rw [if_pos rfl]
    rfl
  rw [if_neg c3]
  by_cases c4 : x = 114
  · subst c4
    rw [if_pos rfl]
    rfl
  rw [if_neg c4]
  by_cases c5 : x = 115
  · subst c5
    rw [if_pos rfl]
    rfl
  rw [if_neg c5]
  by_cases e0 : x = 103
  · subst e0
    rfl
  by_cases e1 : x = 104
  · subst e1
    rfl
  by_cases e2 : x = 105
  · subst e2
    rfl
  by_cases e3 : x = 106
  · subst e3
    rfl
  by_cases e4 : x = 107
  · subst e4
    rfl
  by_cases e5 : x = 109
  · subst e5
    rfl
  by_cases e6 : x = 110
  · subst e6
    rfl
  by_cases e7 : x = 111
  · subst e7
    rfl
  by_cases e8 : x = 112
  · subst e8
    rfl
  have hx : x.toInt < 101 ∨ 115 < x.toInt := by
    have h : ∀ k : Int, ¬ x = Int32.ofInt k → -2147483648 ≤ k → k < 2147483648 → ¬ x.toInt = k := fun k hk hl hh e => hk (Int32.toInt_inj.mp (by rw [e, Int32.toInt_ofInt_of_le hl hh]))
    have fc0 := h 101 c0 (by decide) (by decide)
    have fc1 := h 102 c1 (by decide) (by decide)
    have fc2 := h 108 c2 (by decide) (by decide)
    have fc3 := h 113 c3 (by decide) (by decide)
    have fc4 := h 114 c4 (by decide) (by decide)
    have fc5 := h 115 c5 (by decide) (by decide)
    have fe0 := h 103 e0 (by decide) (by decide)
    have fe1 := h 104 e1 (by decide) (by decide)
    have fe2 := h 105 e2 (by decide) (by decide)
    have fe3 := h 106 e3 (by decide) (by decide)
    have fe4 := h 107 e4 (by decide) (by decide)
    have fe5 := h 109 e5 (by decide) (by decide)
    have fe6 := h 110 e6 (by decide) (by decide)
    have fe7 := h 111 e7 (by decide) (by decide)
    have fe8 := h 112 e8 (by decide) (by decide)
    omega
  rw [if_pos hx, jmp_run 88 (by decide)]
  rfl
theorem d92_76 : decode (cod 92) 76 = .ok (.iconst 0, 1) := by decide +kernel
theorem r92_76 (l0 : AV) (st : List AV) (M : Mm) : run 92 76 [l0] st M = run 92 77 [l0] (aI 0 :: st) M := e_iconst 0 d92_76 (by decide +kernel)
theorem d92_77 : decode (cod 92) 77 = .ok (.ireturn, 1) := by decide +kernel
theorem r92_77 (l0 : AV) (v : Int32) (M : Mm) : run 92 77 [l0] [aI v] M = some (some v, M) := e_iret d92_77 rfl
theorem d92_78 : decode (cod 92) 78 = .ok (.iconst 1, 1) := by decide +kernel
theorem r92_78 (l0 : AV) (st : List AV) (M : Mm) : run 92 78 [l0] st M = run 92 79 [l0] (aI 1 :: st) M := e_iconst 1 d92_78 (by decide +kernel)
theorem d92_79 : decode (cod 92) 79 = .ok (.ireturn, 1) := by decide +kernel
theorem r92_79 (l0 : AV) (v : Int32) (M : Mm) : run 92 79 [l0] [aI v] M = some (some v, M) := e_iret d92_79 rfl
theorem d92_80 : decode (cod 92) 80 = .ok (.iconst 2, 1) := by decide +kernel
theorem r92_80 (l0 : AV) (st : List AV) (M : Mm) : run 92 80 [l0] st M = run 92 81 [l0] (aI 2 :: st) M := e_iconst 2 d92_80 (by decide +kernel)
theorem d92_81 : decode (cod 92) 81 = .ok (.ireturn, 1) := by decide +kernel
theorem r92_81 (l0 : AV) (v : Int32) (M : Mm) : run 92 81 [l0] [aI v] M = some (some v, M) := e_iret d92_81 rfl
theorem d92_82 : decode (cod 92) 82 = .ok (.iconst 3, 1) := by decide +kernel
theorem r92_82 (l0 : AV) (st : List AV) (M : Mm) : run 92 82 [l0] st M = run 92 83 [l0] (aI 3 :: st) M := e_iconst 3 d92_82 (by decide +kernel)
theorem d92_83 : decode (cod 92) 83 = .ok (.ireturn, 1) := by decide +kernel
theorem r92_83 (l0 : AV) (v : Int32) (M : Mm) : run 92 83 [l0] [aI v] M = some (some v, M) := e_iret d92_83 rfl
theorem d92_84 : decode (cod 92) 84 = .ok (.iconst 4, 1) := by decide +kernel
theorem r92_84 (l0 : AV) (st : List AV) (M : Mm) : run 92 84 [l0] st M = run 92 85 [l0] (aI 4 :: st) M := e_iconst 4 d92_84 (by decide +kernel)
theorem d92_85 : decode (cod 92) 85 = .ok (.ireturn, 1) := by decide +kernel
theorem r92_85 (l0 : AV) (v : Int32) (M : Mm) : run 92 85 [l0] [aI v] M = some (some v, M) := e_iret d92_85 rfl
theorem d92_86 : decode (cod 92) 86 = .ok (.iconst 5, 1) := by decide +kernel
theorem r92_86 (l0 : AV) (st : List AV) (M : Mm) : run 92 86 [l0] st M = run 92 87 [l0] (aI 5 :: st) M := e_iconst 5 d92_86 (by decide +kernel)
theorem d92_87 : decode (cod 92) 87 = .ok (.ireturn, 1) := by decide +kernel
theorem r92_87 (l0 : AV) (v : Int32) (M : Mm) : run 92 87 [l0] [aI v] M = some (some v, M) := e_iret d92_87 rfl
theorem d92_88 : decode (cod 92) 88 = .ok (.iconst (-1), 1) := by decide +kernel
theorem r92_88 (l0 : AV) (st : List AV) (M : Mm) : run 92 88 [l0] st M = run 92 89 [l0] (aI (-1) :: st) M := e_iconst (-1) d92_88 (by decide +kernel)
theorem d92_89 : decode (cod 92) 89 = .ok (.ireturn, 1) := by decide +kernel
theorem r92_89 (l0 : AV) (v : Int32) (M : Mm) : run 92 89 [l0] [aI v] M = some (some v, M) := e_iret d92_89 rfl
theorem c93 (g0 i0 : Nat) (x1 : Int32) (x2 : Int32) (M : Mm) : call 93 [aR g0 12 i0, aI x1, aI x2] M = run 93 0 [aR g0 12 i0, aI x1, aI x2] [] M := call_run 93 _ _
theorem d93_0 : decode (cod 93) 0 = .ok (.iload_n 2, 1) := by decide +kernel
theorem r93_0 (l0 l1 : AV) (x : Int32) (st : List AV) (M : Mm) : run 93 0 [l0, l1, aI x] st M = run 93 1 [l0, l1, aI x] (aI x :: st) M := e_ildn d93_0 rfl
theorem d93_1 : decode (cod 93) 1 = .ok (.ifCond .ge 5, 3) := by decide +kernel
theorem r93_1 (l0 l1 l2 : AV) (a : Int32) (st : List AV) (M : Mm) : run 93 1 [l0, l1, l2] (aI a :: st) M = if a < 0 then run 93 4 [l0, l1, l2] st M else run 93 6 [l0, l1, l2] st M := e_ge1 6 d93_1 (by decide)
theorem d93_4 : decode (cod 93) 4 = .ok (.iconst 0, 1) := by decide +kernel
theorem r93_4 (l0 l1 l2 : AV) (st : List AV) (M : Mm) : run 93 4 [l0, l1, l2] st M = run 93 5 [l0, l1, l2] (aI 0 :: st) M := e_iconst 0 d93_4 (by decide +kernel)
theorem d93_5 : decode (cod 93) 5 = .ok (.ireturn, 1) := by decide +kernel
theorem r93_5 (l0 l1 l2 : AV) (v : Int32) (M : Mm) : run 93 5 [l0, l1, l2] [aI v] M = if v = 0 ∨ v = 1 then some (some v, M) else none := e_zret d93_5 rfl
theorem d93_6 : decode (cod 93) 6 = .ok (.aload_n 0, 1) := by decide +kernel
theorem r93_6 (l1 l2 : AV) (xg xi : Nat) (st : List AV) (M : Mm) : run 93 6 [aR xg 12 xi, l1, l2] st M = run 93 7 [aR xg 12 xi, l1, l2] (aR xg 12 xi :: st) M := e_aldn d93_6 rfl
theorem d93_7 : decode (cod 93) 7 = .ok (.getfield 49, 3) := by decide +kernel
theorem r93_7 (l0 l1 l2 : AV) (xg xi : Nat) (st : List AV) (M : Mm) : run 93 7 [l0, l1, l2] (aR xg 12 xi :: st) M = run 93 10 [l0, l1, l2] (aR 4 26 0 :: st) M := e_gfr (fun g => (4, 26, 0)) d93_7 rfl rfl rfl
theorem d93_10 : decode (cod 93) 10 = .ok (.iload_n 1, 1) := by decide +kernel
theorem r93_10 (l0 l2 : AV) (x : Int32) (st : List AV) (M : Mm) : run 93 10 [l0, aI x, l2] st M = run 93 11 [l0, aI x, l2] (aI x :: st) M := e_ildn d93_10 rfl
theorem d93_11 : decode (cod 93) 11 = .ok (.iload_n 2, 1) := by decide +kernel
theorem r93_11 (l0 l1 : AV) (x : Int32) (st : List AV) (M : Mm) : run 93 11 [l0, l1, aI x] st M = run 93 12 [l0, l1, aI x] (aI x :: st) M := e_ildn d93_11 rfl
theorem d93_12 : decode (cod 93) 12 = .ok (.iastore, 1) := by decide +kernel
theorem r93_12 (l0 l1 l2 : AV) (v i : Int32) (xg xi : Nat) (st : List AV) (M : Mm) : run 93 12 [l0, l1, l2] (aI v :: aI i :: aR xg 26 xi :: st) M = if vpB i 192 = true then run 93 13 [l0, l1, l2] st (wr M xg 26 xi i.toNatClampNeg v) else none := e_ias d93_12 rfl rfl
theorem d93_13 : decode (cod 93) 13 = .ok (.aload_n 0, 1) := by decide +kernel
theorem r93_13 (l1 l2 : AV) (xg xi : Nat) (st : List AV) (M : Mm) : run 93 13 [aR xg 12 xi, l1, l2] st M = run 93 14 [aR xg 12 xi, l1, l2] (aR xg 12 xi :: st) M := e_aldn d93_13 rfl
theorem d93_14 : decode (cod 93) 14 = .ok (.dup, 1) := by decide +kernel
theorem r93_14 (l0 l1 l2 : AV) (xg xi : Nat) (st : List AV) (M : Mm) : run 93 14 [l0, l1, l2] (aR xg 12 xi :: st) M = run 93 15 [l0, l1, l2] (aR xg 12 xi :: aR xg 12 xi :: st) M := e_dup d93_14
theorem d93_15 : decode (cod 93) 15 = .ok (.getfield 93, 3) := by decide +kernel
theorem r93_15 (l0 l1 l2 : AV) (xg xi : Nat) (st : List AV) (M : Mm) : run 93 15 [l0, l1, l2] (aR xg 12 xi :: st) M = run 93 18 [l0, l1, l2] (aI (M xg 12 xi 19) :: st) M := e_gfi d93_15 rfl rfl rfl
theorem d93_18 : decode (cod 93) 18 = .ok (.iconst 1, 1) := by decide +kernel
theorem r93_18 (l0 l1 l2 : AV) (st : List AV) (M : Mm) : run 93 18 [l0, l1, l2] st M = run 93 19 [l0, l1, l2] (aI 1 :: st) M := e_iconst 1 d93_18 (by decide +kernel)
theorem d93_19 : decode (cod 93) 19 = .ok (.iadd, 1) := by decide +kernel
theorem r93_19 (l0 l1 l2 : AV) (a b : Int32) (st : List AV) (M : Mm) : run 93 19 [l0, l1, l2] (aI b :: aI a :: st) M = run 93 20 [l0, l1, l2] (aI (a + b) :: st) M := e_iadd d93_19
theorem d93_20 : decode (cod 93) 20 = .ok (.putfield 93, 3) := by decide +kernel
theorem r93_20 (l0 l1 l2 : AV) (v : Int32) (xg xi : Nat) (st : List AV) (M : Mm) : run 93 20 [l0, l1, l2] (aI v :: aR xg 12 xi :: st) M = run 93 23 [l0, l1, l2] st (wr M xg 12 xi 19 v) := e_pfi d93_20 rfl rfl rfl rfl
theorem d93_23 : decode (cod 93) 23 = .ok (.iconst 1, 1) := by decide +kernel
theorem r93_23 (l0 l1 l2 : AV) (st : List AV) (M : Mm) : run 93 23 [l0, l1, l2] st M = run 93 24 [l0, l1, l2] (aI 1 :: st) M := e_iconst 1 d93_23 (by decide +kernel)
theorem d93_24 : decode (cod 93) 24 = .ok (.ireturn, 1) := by decide +kernel
theorem r93_24 (l0 l1 l2 : AV) (v : Int32) (M : Mm) : run 93 24 [l0, l1, l2] [aI v] M = if v = 0 ∨ v = 1 then some (some v, M) else none := e_zret d93_24 rfl
theorem c94 (g0 i0 : Nat) (x1 : Int32) (x2 : Int32) (M : Mm) : call 94 [aR g0 12 i0, aI x1, aI x2] M = run 94 0 [aR g0 12 i0, aI x1, aI x2] [] M := call_run 94 _ _
theorem d94_0 : decode (cod 94) 0 = .ok (.iload_n 1, 1) := by decide +kernel
theorem r94_0 (l0 l2 : AV) (x : Int32) (st : List AV) (M : Mm) : run 94 0 [l0, aI x, l2] st M = run 94 1 [l0, aI x, l2] (aI x :: st) M := e_ildn d94_0 rfl
theorem d94_1 : decode (cod 94) 1 = .ok (.tableswitch 220 104 121 #[148, 220, 220, 220, 220, 141, 220, 220, 220, 220, 207, 220, 220, 200, 220, 220, 174, 87], 87) := by decide +kernel
theorem r94_1 (l0 l1 l2 : AV) (x : Int32) (st : List AV) (M : Mm) : run 94 1 [l0, l1, l2] (aI x :: st) M = if x = 104 then run 94 149 [l0, l1, l2] st M else if x = 109 then run 94 142 [l0, l1, l2] st M else if x = 114 then run 94 208 [l0, l1, l2] st M else if x = 117 then run 94 201 [l0, l1, l2] st M else if x = 120 then run 94 175 [l0, l1, l2] st M else if x = 121 then run 94 88 [l0, l1, l2] st M else run 94 221 [l0, l1, l2] st M := by
  rw [run_step d94_1 rfl]
  simp only [stpI, tsw]
  by_cases c0 : x = 104
  · subst c0
    rw [if_pos rfl]
    rfl
  rw [if_neg c0]
  by_cases c1 : x = 109
  · subst c1
    rw [if_pos rfl]
    rfl
  rw [if_neg c1]
  by_cases c2 : x = 114
  · subst c2
    rw [if_pos rfl]
    rfl
  rw [if_neg c2]
  by_cases c3 : x = 117
  · subst c3
    rw [if_pos rfl]
    rfl
  rw [if_neg c3]
  by_cases c4 : x = 120
  · subst c4
    rw [if_pos rfl]
    rfl
  rw [if_neg c4]
  by_cases c5 : x = 121
  · subst c5
    rw [if_pos rfl]
    rfl
  rw [if_neg c5]
  by_cases e0 : x = 105
  · subst e0
    rfl
  by_cases e1 : x = 106
  · subst e1
    rfl
  by_cases e2 : x = 107
  · subst e2
    rfl
  by_cases e3 : x = 108
  · subst e3
    rfl
  by_cases e4 : x = 110
  · subst e4
    rfl
  by_cases e5 : x = 111
  · subst e5
    rfl
  by_cases e6 : x = 112
  · subst e6
    rfl
  by_cases e7 : x = 113
  · subst e7
    rfl
  by_cases e8 : x = 115
  · subst e8
    rfl
  by_cases e9 : x = 116
  · subst e9
    rfl
  by_cases e10 : x = 118
  · subst e10
    rfl
  by_cases e11 : x = 119
  · subst e11
    rfl
  have hx : x.toInt < 104 ∨ 121 < x.toInt := by
    have h : ∀ k : Int, ¬ x = Int32.ofInt k → -2147483648 ≤ k → k < 2147483648 → ¬ x.toInt = k := fun k hk hl hh e => hk (Int32.toInt_inj.mp (by rw [e, Int32.toInt_ofInt_of_le hl hh]))
    have fc0 := h 104 c0 (by decide) (by decide)
    have fc1 := h 109 c1 (by decide) (by decide)
    have fc2 := h 114 c2 (by decide) (by decide)
    have fc3 := h 117 c3 (by decide) (by decide)
    have fc4 := h 120 c4 (by decide) (by decide)
    have fc5 := h 121 c5 (by decide) (by decide)
    have fe0 := h 105 e0 (by decide) (by decide)
    have fe1 := h 106 e1 (by decide) (by decide)
    have fe2 := h 107 e2 (by decide) (by decide)
    have fe3 := h 108 e3 (by decide) (by decide)
    have fe4 := h 110 e4 (by decide) (by decide)
    have fe5 := h 111 e5 (by decide) (by decide)
    have fe6 := h 112 e6 (by decide) (by decide)
    have fe7 := h 113 e7 (by decide) (by decide)
    have fe8 := h 115 e8 (by decide) (by decide)
    have fe9 := h 116 e9 (by decide) (by decide)
    have fe10 := h 118 e10 (by decide) (by decide)
    have fe11 := h 119 e11 (by decide) (by decide)
    omega
  rw [if_pos hx, jmp_run 221 (by decide)]
  rfl
theorem d94_88 : decode (cod 94) 88 = .ok (.aload_n 0, 1) := by decide +kernel
theorem r94_88 (l1 l2 : AV) (xg xi : Nat) (st : List AV) (M : Mm) : run 94 88 [aR xg 12 xi, l1, l2] st M = run 94 89 [aR xg 12 xi, l1, l2] (aR xg 12 xi :: st) M := e_aldn d94_88 rfl
theorem d94_89 : decode (cod 94) 89 = .ok (.iload_n 2, 1) := by decide +kernel
theorem r94_89 (l0 l1 : AV) (x : Int32) (st : List AV) (M : Mm) : run 94 89 [l0, l1, aI x] st M = run 94 90 [l0, l1, aI x] (aI x :: st) M := e_ildn d94_89 rfl
theorem d94_90 : decode (cod 94) 90 = .ok (.aload_n 0, 1) := by decide +kernel
theorem r94_90 (l1 l2 : AV) (xg xi : Nat) (st : List AV) (M : Mm) : run 94 90 [aR xg 12 xi, l1, l2] st M = run 94 91 [aR xg 12 xi, l1, l2] (aR xg 12 xi :: st) M := e_aldn d94_90 rfl
theorem d94_91 : decode (cod 94) 91 = .ok (.invokevirtual 96, 3) := by decide +kernel
theorem r94_91 (l0 l1 l2 : AV) (a0g a0i : Nat) (t0 t1 : AV) (M : Mm) : run 94 91 [l0, l1, l2] [aR a0g 12 a0i, t0, t1] M = cbI (call 89 [aR a0g 12 a0i] M) (fun v M => run 94 94 [l0, l1, l2] [aI v, t0, t1] M) := call_I (n := 1) rfl false d94_91 rfl rfl rfl rfl rfl rfl rfl
theorem d94_94 : decode (cod 94) 94 = .ok (.invokestatic 104, 3) := by decide +kernel
theorem r94_94 (l0 l1 l2 : AV) (a0 : Int32) (t0 t1 : AV) (M : Mm) : run 94 94 [l0, l1, l2] [aI a0, t0, t1] M = cbI (call 91 [aI a0] M) (fun v M => run 94 97 [l0, l1, l2] [aI v, t0, t1] M) := call_I (n := 1) rfl true d94_94 rfl rfl rfl rfl rfl rfl rfl
theorem d94_97 : decode (cod 94) 97 = .ok (.invokevirtual 107, 3) := by decide +kernel
theorem r94_97 (l0 l1 l2 : AV) (a0g a0i : Nat) (a1 : Int32) (a2 : Int32) (M : Mm) : run 94 97 [l0, l1, l2] [aI a2, aI a1, aR a0g 12 a0i] M = cbI (call 93 [aR a0g 12 a0i, aI a1, aI a2] M) (fun v M => run 94 100 [l0, l1, l2] [aI v] M) := call_I (n := 3) rfl false d94_97 rfl rfl rfl rfl rfl rfl rfl
theorem d94_100 : decode (cod 94) 100 = .ok (.ifCond .eq 40, 3) := by decide +kernel
theorem r94_100 (l0 l1 l2 : AV) (a : Int32) (st : List AV) (M : Mm) : run 94 100 [l0, l1, l2] (aI a :: st) M = if a = 0 then run 94 140 [l0, l1, l2] st M else run 94 103 [l0, l1, l2] st M := e_eq1 140 d94_100 (by decide)
theorem d94_103 : decode (cod 94) 103 = .ok (.aload_n 0, 1) := by decide +kernel
theorem r94_103 (l1 l2 : AV) (xg xi : Nat) (st : List AV) (M : Mm) : run 94 103 [aR xg 12 xi, l1, l2] st M = run 94 104 [aR xg 12 xi, l1, l2] (aR xg 12 xi :: st) M := e_aldn d94_103 rfl
theorem d94_104 : decode (cod 94) 104 = .ok (.iload_n 2, 1) := by decide +kernel
theorem r94_104 (l0 l1 : AV) (x : Int32) (st : List AV) (M : Mm) : run 94 104 [l0, l1, aI x] st M = run 94 105 [l0, l1, aI x] (aI x :: st) M := e_ildn d94_104 rfl
theorem d94_105 : decode (cod 94) 105 = .ok (.iconst 1, 1) := by decide +kernel
theorem r94_105 (l0 l1 l2 : AV) (st : List AV) (M : Mm) : run 94 105 [l0, l1, l2] st M = run 94 106 [l0, l1, l2] (aI 1 :: st) M := e_iconst 1 d94_105 (by decide +kernel)
theorem d94_106 : decode (cod 94) 106 = .ok (.iadd, 1) := by decide +kernel
theorem r94_106 (l0 l1 l2 : AV) (a b : Int32) (st : List AV) (M : Mm) : run 94 106 [l0, l1, l2] (aI b :: aI a :: st) M = run 94 107 [l0, l1, l2] (aI (a + b) :: st) M := e_iadd d94_106
theorem d94_107 : decode (cod 94) 107 = .ok (.iconst 1, 1) := by decide +kernel
theorem r94_107 (l0 l1 l2 : AV) (st : List AV) (M : Mm) : run 94 107 [l0, l1, l2] st M = run 94 108 [l0, l1, l2] (aI 1 :: st) M := e_iconst 1 d94_107 (by decide +kernel)
theorem d94_108 : decode (cod 94) 108 = .ok (.invokevirtual 111, 3) := by decide +kernel
theorem r94_108 (l0 l1 l2 : AV) (a0g a0i : Nat) (a1 : Int32) (a2 : Int32) (M : Mm) : run 94 108 [l0, l1, l2] [aI a2, aI a1, aR a0g 12 a0i] M = cbI (call 90 [aR a0g 12 a0i, aI a1, aI a2] M) (fun v M => run 94 111 [l0, l1, l2] [aI v] M) := call_I (n := 3) rfl false d94_108 rfl rfl rfl rfl rfl rfl rfl
theorem d94_111 : decode (cod 94) 111 = .ok (.ifCond .eq 29, 3) := by decide +kernel
theorem r94_111 (l0 l1 l2 : AV) (a : Int32) (st : List AV) (M : Mm) : run 94 111 [l0, l1, l2] (aI a :: st) M = if a = 0 then run 94 140 [l0, l1, l2] st M else run 94 114 [l0, l1, l2] st M := e_eq1 140 d94_111 (by decide)
theorem d94_114 : decode (cod 94) 114 = .ok (.aload_n 0, 1) := by decide +kernel
theorem r94_114 (l1 l2 : AV) (xg xi : Nat) (st : List AV) (M : Mm) : run 94 114 [aR xg 12 xi, l1, l2] st M = run 94 115 [aR xg 12 xi, l1, l2] (aR xg 12 xi :: st) M := e_aldn d94_114 rfl
theorem d94_115 : decode (cod 94) 115 = .ok (.iload_n 2, 1) := by decide +kernel
theorem r94_115 (l0 l1 : AV) (x : Int32) (st : List AV) (M : Mm) : run 94 115 [l0, l1, aI x] st M = run 94 116 [l0, l1, aI x] (aI x :: st) M := e_ildn d94_115 rfl
theorem d94_116 : decode (cod 94) 116 = .ok (.iconst 2, 1) := by decide +kernel
theorem r94_116 (l0 l1 l2 : AV) (st : List AV) (M : Mm) : run 94 116 [l0, l1, l2] st M = run 94 117 [l0, l1, l2] (aI 2 :: st) M := e_iconst 2 d94_116 (by decide +kernel)
theorem d94_117 : decode (cod 94) 117 = .ok (.iadd, 1) := by decide +kernel
theorem r94_117 (l0 l1 l2 : AV) (a b : Int32) (st : List AV) (M : Mm) : run 94 117 [l0, l1, l2] (aI b :: aI a :: st) M = run 94 118 [l0, l1, l2] (aI (a + b) :: st) M := e_iadd d94_117
theorem d94_118 : decode (cod 94) 118 = .ok (.iconst 2, 1) := by decide +kernel
theorem r94_118 (l0 l1 l2 : AV) (st : List AV) (M : Mm) : run 94 118 [l0, l1, l2] st M = run 94 119 [l0, l1, l2] (aI 2 :: st) M := e_iconst 2 d94_118 (by decide +kernel)
theorem d94_119 : decode (cod 94) 119 = .ok (.invokevirtual 111, 3) := by decide +kernel
theorem r94_119 (l0 l1 l2 : AV) (a0g a0i : Nat) (a1 : Int32) (a2 : Int32) (M : Mm) : run 94 119 [l0, l1, l2] [aI a2, aI a1, aR a0g 12 a0i] M = cbI (call 90 [aR a0g 12 a0i, aI a1, aI a2] M) (fun v M => run 94 122 [l0, l1, l2] [aI v] M) := call_I (n := 3) rfl false d94_119 rfl rfl rfl rfl rfl rfl rfl
theorem d94_122 : decode (cod 94) 122 = .ok (.ifCond .eq 18, 3) := by decide +kernel
theorem r94_122 (l0 l1 l2 : AV) (a : Int32) (st : List AV) (M : Mm) : run 94 122 [l0, l1, l2] (aI a :: st) M = if a = 0 then run 94 140 [l0, l1, l2] st M else run 94 125 [l0, l1, l2] st M := e_eq1 140 d94_122 (by decide)
theorem d94_125 : decode (cod 94) 125 = .ok (.aload_n 0, 1) := by decide +kernel
theorem r94_125 (l1 l2 : AV) (xg xi : Nat) (st : List AV) (M : Mm) : run 94 125 [aR xg 12 xi, l1, l2] st M = run 94 126 [aR xg 12 xi, l1, l2] (aR xg 12 xi :: st) M := e_aldn d94_125 rfl
theorem d94_126 : decode (cod 94) 126 = .ok (.iload_n 2, 1) := by decide +kernel
theorem r94_126 (l0 l1 : AV) (x : Int32) (st : List AV) (M : Mm) : run 94 126 [l0, l1, aI x] st M = run 94 127 [l0, l1, aI x] (aI x :: st) M := e_ildn d94_126 rfl
theorem d94_127 : decode (cod 94) 127 = .ok (.iconst 3, 1) := by decide +kernel
theorem r94_127 (l0 l1 l2 : AV) (st : List AV) (M : Mm) : run 94 127 [l0, l1, l2] st M = run 94 128 [l0, l1, l2] (aI 3 :: st) M := e_iconst 3 d94_127 (by decide +kernel)
theorem d94_128 : decode (cod 94) 128 = .ok (.iadd, 1) := by decide +kernel
theorem r94_128 (l0 l1 l2 : AV) (a b : Int32) (st : List AV) (M : Mm) : run 94 128 [l0, l1, l2] (aI b :: aI a :: st) M = run 94 129 [l0, l1, l2] (aI (a + b) :: st) M := e_iadd d94_128
theorem d94_129 : decode (cod 94) 129 = .ok (.iconst 3, 1) := by decide +kernel
theorem r94_129 (l0 l1 l2 : AV) (st : List AV) (M : Mm) : run 94 129 [l0, l1, l2] st M = run 94 130 [l0, l1, l2] (aI 3 :: st) M := e_iconst 3 d94_129 (by decide +kernel)
theorem d94_130 : decode (cod 94) 130 = .ok (.invokevirtual 111, 3) := by decide +kernel
theorem r94_130 (l0 l1 l2 : AV) (a0g a0i : Nat) (a1 : Int32) (a2 : Int32) (M : Mm) : run 94 130 [l0, l1, l2] [aI a2, aI a1, aR a0g 12 a0i] M = cbI (call 90 [aR a0g 12 a0i, aI a1, aI a2] M) (fun v M => run 94 133 [l0, l1, l2] [aI v] M) := call_I (n := 3) rfl false d94_130 rfl rfl rfl rfl rfl rfl rfl
theorem d94_133 : decode (cod 94) 133 = .ok (.ifCond .eq 7, 3) := by decide +kernel
theorem r94_133 (l0 l1 l2 : AV) (a : Int32) (st : List AV) (M : Mm) : run 94 133 [l0, l1, l2] (aI a :: st) M = if a = 0 then run 94 140 [l0, l1, l2] st M else run 94 136 [l0, l1, l2] st M := e_eq1 140 d94_133 (by decide)
theorem d94_136 : decode (cod 94) 136 = .ok (.iconst 1, 1) := by decide +kernel
theorem r94_136 (l0 l1 l2 : AV) (st : List AV) (M : Mm) : run 94 136 [l0, l1, l2] st M = run 94 137 [l0, l1, l2] (aI 1 :: st) M := e_iconst 1 d94_136 (by decide +kernel)
theorem d94_137 : decode (cod 94) 137 = .ok (.goto 4, 3) := by decide +kernel
theorem r94_137 (l0 l1 l2 : AV) (st : List AV) (M : Mm) : run 94 137 [l0, l1, l2] st M = run 94 141 [l0, l1, l2] st M := e_goto 141 d94_137 (by decide)
theorem d94_140 : decode (cod 94) 140 = .ok (.iconst 0, 1) := by decide +kernel
theorem r94_140 (l0 l1 l2 : AV) (st : List AV) (M : Mm) : run 94 140 [l0, l1, l2] st M = run 94 141 [l0, l1, l2] (aI 0 :: st) M := e_iconst 0 d94_140 (by decide +kernel)
theorem d94_141 : decode (cod 94) 141 = .ok (.ireturn, 1) := by decide +kernel
theorem r94_141 (l0 l1 l2 : AV) (v : Int32) (M : Mm) : run 94 141 [l0, l1, l2] [aI v] M = if v = 0 ∨ v = 1 then some (some v, M) else none := e_zret d94_141 rfl
theorem d94_142 : decode (cod 94) 142 = .ok (.aload_n 0, 1) := by decide +kernel
theorem r94_142 (l1 l2 : AV) (xg xi : Nat) (st : List AV) (M : Mm) : run 94 142 [aR xg 12 xi, l1, l2] st M = run 94 143 [aR xg 12 xi, l1, l2] (aR xg 12 xi :: st) M := e_aldn d94_142 rfl
theorem d94_143 : decode (cod 94) 143 = .ok (.iload_n 2, 1) := by decide +kernel
theorem r94_143 (l0 l1 : AV) (x : Int32) (st : List AV) (M : Mm) : run 94 143 [l0, l1, aI x] st M = run 94 144 [l0, l1, aI x] (aI x :: st) M := e_ildn d94_143 rfl
theorem d94_144 : decode (cod 94) 144 = .ok (.iconst 1, 1) := by decide +kernel
theorem r94_144 (l0 l1 l2 : AV) (st : List AV) (M : Mm) : run 94 144 [l0, l1, l2] st M = run 94 145 [l0, l1, l2] (aI 1 :: st) M := e_iconst 1 d94_144 (by decide +kernel)
theorem d94_145 : decode (cod 94) 145 = .ok (.invokevirtual 111, 3) := by decide +kernel
theorem r94_145 (l0 l1 l2 : AV) (a0g a0i : Nat) (a1 : Int32) (a2 : Int32) (M : Mm) : run 94 145 [l0, l1, l2] [aI a2, aI a1, aR a0g 12 a0i] M = cbI (call 90 [aR a0g 12 a0i, aI a1, aI a2] M) (fun v M => run 94 148 [l0, l1, l2] [aI v] M) := call_I (n := 3) rfl false d94_145 rfl rfl rfl rfl rfl rfl rfl
theorem d94_148 : decode (cod 94) 148 = .ok (.ireturn, 1) := by decide +kernel
theorem r94_148 (l0 l1 l2 : AV) (v : Int32) (M : Mm) : run 94 148 [l0, l1, l2] [aI v] M = if v = 0 ∨ v = 1 then some (some v, M) else none := e_zret d94_148 rfl
theorem d94_149 : decode (cod 94) 149 = .ok (.aload_n 0, 1) := by decide +kernel
theorem r94_149 (l1 l2 : AV) (xg xi : Nat) (st : List AV) (M : Mm) : run 94 149 [aR xg 12 xi, l1, l2] st M = run 94 150 [aR xg 12 xi, l1, l2] (aR xg 12 xi :: st) M := e_aldn d94_149 rfl
theorem d94_150 : decode (cod 94) 150 = .ok (.iload_n 2, 1) := by decide +kernel
theorem r94_150 (l0 l1 : AV) (x : Int32) (st : List AV) (M : Mm) : run 94 150 [l0, l1, aI x] st M = run 94 151 [l0, l1, aI x] (aI x :: st) M := e_ildn d94_150 rfl
theorem d94_151 : decode (cod 94) 151 = .ok (.iconst 2, 1) := by decide +kernel
theorem r94_151 (l0 l1 l2 : AV) (st : List AV) (M : Mm) : run 94 151 [l0, l1, l2] st M = run 94 152 [l0, l1, l2] (aI 2 :: st) M := e_iconst 2 d94_151 (by decide +kernel)
theorem d94_152 : decode (cod 94) 152 = .ok (.invokevirtual 111, 3) := by decide +kernel
theorem r94_152 (l0 l1 l2 : AV) (a0g a0i : Nat) (a1 : Int32) (a2 : Int32) (M : Mm) : run 94 152 [l0, l1, l2] [aI a2, aI a1, aR a0g 12 a0i] M = cbI (call 90 [aR a0g 12 a0i, aI a1, aI a2] M) (fun v M => run 94 155 [l0, l1, l2] [aI v] M) := call_I (n := 3) rfl false d94_152 rfl rfl rfl rfl rfl rfl rfl
theorem d94_155 : decode (cod 94) 155 = .ok (.ifCond .eq 18, 3) := by decide +kernel
theorem r94_155 (l0 l1 l2 : AV) (a : Int32) (st : List AV) (M : Mm) : run 94 155 [l0, l1, l2] (aI a :: st) M = if a = 0 then run 94 173 [l0, l1, l2] st M else run 94 158 [l0, l1, l2] st M := e_eq1 173 d94_155 (by decide)
theorem d94_158 : decode (cod 94) 158 = .ok (.aload_n 0, 1) := by decide +kernel
theorem r94_158 (l1 l2 : AV) (xg xi : Nat) (st : List AV) (M : Mm) : run 94 158 [aR xg 12 xi, l1, l2] st M = run 94 159 [aR xg 12 xi, l1, l2] (aR xg 12 xi :: st) M := e_aldn d94_158 rfl
theorem d94_159 : decode (cod 94) 159 = .ok (.iload_n 2, 1) := by decide +kernel
theorem r94_159 (l0 l1 : AV) (x : Int32) (st : List AV) (M : Mm) : run 94 159 [l0, l1, aI x] st M = run 94 160 [l0, l1, aI x] (aI x :: st) M := e_ildn d94_159 rfl
theorem d94_160 : decode (cod 94) 160 = .ok (.iconst 1, 1) := by decide +kernel
theorem r94_160 (l0 l1 l2 : AV) (st : List AV) (M : Mm) : run 94 160 [l0, l1, l2] st M = run 94 161 [l0, l1, l2] (aI 1 :: st) M := e_iconst 1 d94_160 (by decide +kernel)
theorem d94_161 : decode (cod 94) 161 = .ok (.iadd, 1) := by decide +kernel
theorem r94_161 (l0 l1 l2 : AV) (a b : Int32) (st : List AV) (M : Mm) : run 94 161 [l0, l1, l2] (aI b :: aI a :: st) M = run 94 162 [l0, l1, l2] (aI (a + b) :: st) M := e_iadd d94_161
theorem d94_162 : decode (cod 94) 162 = .ok (.iconst 1, 1) := by decide +kernel
theorem r94_162 (l0 l1 l2 : AV) (st : List AV) (M : Mm) : run 94 162 [l0, l1, l2] st M = run 94 163 [l0, l1, l2] (aI 1 :: st) M := e_iconst 1 d94_162 (by decide +kernel)
theorem d94_163 : decode (cod 94) 163 = .ok (.invokevirtual 111, 3) := by decide +kernel
theorem r94_163 (l0 l1 l2 : AV) (a0g a0i : Nat) (a1 : Int32) (a2 : Int32) (M : Mm) : run 94 163 [l0, l1, l2] [aI a2, aI a1, aR a0g 12 a0i] M = cbI (call 90 [aR a0g 12 a0i, aI a1, aI a2] M) (fun v M => run 94 166 [l0, l1, l2] [aI v] M) := call_I (n := 3) rfl false d94_163 rfl rfl rfl rfl rfl rfl rfl
theorem d94_166 : decode (cod 94) 166 = .ok (.ifCond .eq 7, 3) := by decide +kernel
theorem r94_166 (l0 l1 l2 : AV) (a : Int32) (st : List AV) (M : Mm) : run 94 166 [l0, l1, l2] (aI a :: st) M = if a = 0 then run 94 173 [l0, l1, l2] st M else run 94 169 [l0, l1, l2] st M := e_eq1 173 d94_166 (by decide)
theorem d94_169 : decode (cod 94) 169 = .ok (.iconst 1, 1) := by decide +kernel
theorem r94_169 (l0 l1 l2 : AV) (st : List AV) (M : Mm) : run 94 169 [l0, l1, l2] st M = run 94 170 [l0, l1, l2] (aI 1 :: st) M := e_iconst 1 d94_169 (by decide +kernel)
theorem d94_170 : decode (cod 94) 170 = .ok (.goto 4, 3) := by decide +kernel
theorem r94_170 (l0 l1 l2 : AV) (st : List AV) (M : Mm) : run 94 170 [l0, l1, l2] st M = run 94 174 [l0, l1, l2] st M := e_goto 174 d94_170 (by decide)
theorem d94_173 : decode (cod 94) 173 = .ok (.iconst 0, 1) := by decide +kernel
theorem r94_173 (l0 l1 l2 : AV) (st : List AV) (M : Mm) : run 94 173 [l0, l1, l2] st M = run 94 174 [l0, l1, l2] (aI 0 :: st) M := e_iconst 0 d94_173 (by decide +kernel)
theorem d94_174 : decode (cod 94) 174 = .ok (.ireturn, 1) := by decide +kernel
theorem r94_174 (l0 l1 l2 : AV) (v : Int32) (M : Mm) : run 94 174 [l0, l1, l2] [aI v] M = if v = 0 ∨ v = 1 then some (some v, M) else none := e_zret d94_174 rfl
theorem d94_175 : decode (cod 94) 175 = .ok (.aload_n 0, 1) := by decide +kernel
theorem r94_175 (l1 l2 : AV) (xg xi : Nat) (st : List AV) (M : Mm) : run 94 175 [aR xg 12 xi, l1, l2] st M = run 94 176 [aR xg 12 xi, l1, l2] (aR xg 12 xi :: st) M := e_aldn d94_175 rfl
theorem d94_176 : decode (cod 94) 176 = .ok (.iload_n 2, 1) := by decide +kernel
theorem r94_176 (l0 l1 : AV) (x : Int32) (st : List AV) (M : Mm) : run 94 176 [l0, l1, aI x] st M = run 94 177 [l0, l1, aI x] (aI x :: st) M := e_ildn d94_176 rfl
theorem d94_177 : decode (cod 94) 177 = .ok (.iconst 2, 1) := by decide +kernel
theorem r94_177 (l0 l1 l2 : AV) (st : List AV) (M : Mm) : run 94 177 [l0, l1, l2] st M = run 94 178 [l0, l1, l2] (aI 2 :: st) M := e_iconst 2 d94_177 (by decide +kernel)
theorem d94_178 : decode (cod 94) 178 = .ok (.invokevirtual 111, 3) := by decide +kernel
theorem r94_178 (l0 l1 l2 : AV) (a0g a0i : Nat) (a1 : Int32) (a2 : Int32) (M : Mm) : run 94 178 [l0, l1, l2] [aI a2, aI a1, aR a0g 12 a0i] M = cbI (call 90 [aR a0g 12 a0i, aI a1, aI a2] M) (fun v M => run 94 181 [l0, l1, l2] [aI v] M) := call_I (n := 3) rfl false d94_178 rfl rfl rfl rfl rfl rfl rfl
theorem d94_181 : decode (cod 94) 181 = .ok (.ifCond .eq 18, 3) := by decide +kernel
theorem r94_181 (l0 l1 l2 : AV) (a : Int32) (st : List AV) (M : Mm) : run 94 181 [l0, l1, l2] (aI a :: st) M = if a = 0 then run 94 199 [l0, l1, l2] st M else run 94 184 [l0, l1, l2] st M := e_eq1 199 d94_181 (by decide)
theorem d94_184 : decode (cod 94) 184 = .ok (.aload_n 0, 1) := by decide +kernel
theorem r94_184 (l1 l2 : AV) (xg xi : Nat) (st : List AV) (M : Mm) : run 94 184 [aR xg 12 xi, l1, l2] st M = run 94 185 [aR xg 12 xi, l1, l2] (aR xg 12 xi :: st) M := e_aldn d94_184 rfl
theorem d94_185 : decode (cod 94) 185 = .ok (.iload_n 2, 1) := by decide +kernel
theorem r94_185 (l0 l1 : AV) (x : Int32) (st : List AV) (M : Mm) : run 94 185 [l0, l1, aI x] st M = run 94 186 [l0, l1, aI x] (aI x :: st) M := e_ildn d94_185 rfl
theorem d94_186 : decode (cod 94) 186 = .ok (.iconst 1, 1) := by decide +kernel
theorem r94_186 (l0 l1 l2 : AV) (st : List AV) (M : Mm) : run 94 186 [l0, l1, l2] st M = run 94 187 [l0, l1, l2] (aI 1 :: st) M := e_iconst 1 d94_186 (by decide +kernel)
theorem d94_187 : decode (cod 94) 187 = .ok (.iadd, 1) := by decide +kernel
theorem r94_187 (l0 l1 l2 : AV) (a b : Int32) (st : List AV) (M : Mm) : run 94 187 [l0, l1, l2] (aI b :: aI a :: st) M = run 94 188 [l0, l1, l2] (aI (a + b) :: st) M := e_iadd d94_187
theorem d94_188 : decode (cod 94) 188 = .ok (.iconst 3, 1) := by decide +kernel
theorem r94_188 (l0 l1 l2 : AV) (st : List AV) (M : Mm) : run 94 188 [l0, l1, l2] st M = run 94 189 [l0, l1, l2] (aI 3 :: st) M := e_iconst 3 d94_188 (by decide +kernel)
theorem d94_189 : decode (cod 94) 189 = .ok (.invokevirtual 111, 3) := by decide +kernel
theorem r94_189 (l0 l1 l2 : AV) (a0g a0i : Nat) (a1 : Int32) (a2 : Int32) (M : Mm) : run 94 189 [l0, l1, l2] [aI a2, aI a1, aR a0g 12 a0i] M = cbI (call 90 [aR a0g 12 a0i, aI a1, aI a2] M) (fun v M => run 94 192 [l0, l1, l2] [aI v] M) := call_I (n := 3) rfl false d94_189 rfl rfl rfl rfl rfl rfl rfl
theorem d94_192 : decode (cod 94) 192 = .ok (.ifCond .eq 7, 3) := by decide +kernel
theorem r94_192 (l0 l1 l2 : AV) (a : Int32) (st : List AV) (M : Mm) : run 94 192 [l0, l1, l2] (aI a :: st) M = if a = 0 then run 94 199 [l0, l1, l2] st M else run 94 195 [l0, l1, l2] st M := e_eq1 199 d94_192 (by decide)
theorem d94_195 : decode (cod 94) 195 = .ok (.iconst 1, 1) := by decide +kernel
theorem r94_195 (l0 l1 l2 : AV) (st : List AV) (M : Mm) : run 94 195 [l0, l1, l2] st M = run 94 196 [l0, l1, l2] (aI 1 :: st) M := e_iconst 1 d94_195 (by decide +kernel)
theorem d94_196 : decode (cod 94) 196 = .ok (.goto 4, 3) := by decide +kernel
theorem r94_196 (l0 l1 l2 : AV) (st : List AV) (M : Mm) : run 94 196 [l0, l1, l2] st M = run 94 200 [l0, l1, l2] st M := e_goto 200 d94_196 (by decide)
theorem d94_199 : decode (cod 94) 199 = .ok (.iconst 0, 1) := by decide +kernel
theorem r94_199 (l0 l1 l2 : AV) (st : List AV) (M : Mm) : run 94 199 [l0, l1, l2] st M = run 94 200 [l0, l1, l2] (aI 0 :: st) M := e_iconst 0 d94_199 (by decide +kernel)
theorem d94_200 : decode (cod 94) 200 = .ok (.ireturn, 1) := by decide +kernel
theorem r94_200 (l0 l1 l2 : AV) (v : Int32) (M : Mm) : run 94 200 [l0, l1, l2] [aI v] M = if v = 0 ∨ v = 1 then some (some v, M) else none := e_zret d94_200 rfl
theorem d94_201 : decode (cod 94) 201 = .ok (.aload_n 0, 1) := by decide +kernel
theorem r94_201 (l1 l2 : AV) (xg xi : Nat) (st : List AV) (M : Mm) : run 94 201 [aR xg 12 xi, l1, l2] st M = run 94 202 [aR xg 12 xi, l1, l2] (aR xg 12 xi :: st) M := e_aldn d94_201 rfl
theorem d94_202 : decode (cod 94) 202 = .ok (.iload_n 2, 1) := by decide +kernel
theorem r94_202 (l0 l1 : AV) (x : Int32) (st : List AV) (M : Mm) : run 94 202 [l0, l1, aI x] st M = run 94 203 [l0, l1, aI x] (aI x :: st) M := e_ildn d94_202 rfl
theorem d94_203 : decode (cod 94) 203 = .ok (.iconst 3, 1) := by decide +kernel
theorem r94_203 (l0 l1 l2 : AV) (st : List AV) (M : Mm) : run 94 203 [l0, l1, l2] st M = run 94 204 [l0, l1, l2] (aI 3 :: st) M := e_iconst 3 d94_203 (by decide +kernel)
theorem d94_204 : decode (cod 94) 204 = .ok (.invokevirtual 111, 3) := by decide +kernel
theorem r94_204 (l0 l1 l2 : AV) (a0g a0i : Nat) (a1 : Int32) (a2 : Int32) (M : Mm) : run 94 204 [l0, l1, l2] [aI a2, aI a1, aR a0g 12 a0i] M = cbI (call 90 [aR a0g 12 a0i, aI a1, aI a2] M) (fun v M => run 94 207 [l0, l1, l2] [aI v] M) := call_I (n := 3) rfl false d94_204 rfl rfl rfl rfl rfl rfl rfl
theorem d94_207 : decode (cod 94) 207 = .ok (.ireturn, 1) := by decide +kernel
theorem r94_207 (l0 l1 l2 : AV) (v : Int32) (M : Mm) : run 94 207 [l0, l1, l2] [aI v] M = if v = 0 ∨ v = 1 then some (some v, M) else none := e_zret d94_207 rfl
theorem d94_208 : decode (cod 94) 208 = .ok (.aload_n 0, 1) := by decide +kernel
theorem r94_208 (l1 l2 : AV) (xg xi : Nat) (st : List AV) (M : Mm) : run 94 208 [aR xg 12 xi, l1, l2] st M = run 94 209 [aR xg 12 xi, l1, l2] (aR xg 12 xi :: st) M := e_aldn d94_208 rfl
theorem d94_209 : decode (cod 94) 209 = .ok (.iload_n 2, 1) := by decide +kernel
theorem r94_209 (l0 l1 : AV) (x : Int32) (st : List AV) (M : Mm) : run 94 209 [l0, l1, aI x] st M = run 94 210 [l0, l1, aI x] (aI x :: st) M := e_ildn d94_209 rfl
theorem d94_210 : decode (cod 94) 210 = .ok (.aload_n 0, 1) := by decide +kernel
theorem r94_210 (l1 l2 : AV) (xg xi : Nat) (st : List AV) (M : Mm) : run 94 210 [aR xg 12 xi, l1, l2] st M = run 94 211 [aR xg 12 xi, l1, l2] (aR xg 12 xi :: st) M := e_aldn d94_210 rfl
theorem d94_211 : decode (cod 94) 211 = .ok (.invokevirtual 96, 3) := by decide +kernel
theorem r94_211 (l0 l1 l2 : AV) (a0g a0i : Nat) (t0 t1 : AV) (M : Mm) : run 94 211 [l0, l1, l2] [aR a0g 12 a0i, t0, t1] M = cbI (call 89 [aR a0g 12 a0i] M) (fun v M => run 94 214 [l0, l1, l2] [aI v, t0, t1] M) := call_I (n := 1) rfl false d94_211 rfl rfl rfl rfl rfl rfl rfl
theorem d94_214 : decode (cod 94) 214 = .ok (.invokestatic 114, 3) := by decide +kernel
theorem r94_214 (l0 l1 l2 : AV) (a0 : Int32) (t0 t1 : AV) (M : Mm) : run 94 214 [l0, l1, l2] [aI a0, t0, t1] M = cbI (call 92 [aI a0] M) (fun v M => run 94 217 [l0, l1, l2] [aI v, t0, t1] M) := call_I (n := 1) rfl true d94_214 rfl rfl rfl rfl rfl rfl rfl
theorem d94_217 : decode (cod 94) 217 = .ok (.invokevirtual 107, 3) := by decide +kernel
theorem r94_217 (l0 l1 l2 : AV) (a0g a0i : Nat) (a1 : Int32) (a2 : Int32) (M : Mm) : run 94 217 [l0, l1, l2] [aI a2, aI a1, aR a0g 12 a0i] M = cbI (call 93 [aR a0g 12 a0i, aI a1, aI a2] M) (fun v M => run 94 220 [l0, l1, l2] [aI v] M) := call_I (n := 3) rfl false d94_217 rfl rfl rfl rfl rfl rfl rfl
theorem d94_220 : decode (cod 94) 220 = .ok (.ireturn, 1) := by decide +kernel
theorem r94_220 (l0 l1 l2 : AV) (v : Int32) (M : Mm) : run 94 220 [l0, l1, l2] [aI v] M = if v = 0 ∨ v = 1 then some (some v, M) else none := e_zret d94_220 rfl
theorem d94_221 : decode (cod 94) 221 = .ok (.aload_n 0, 1) := by decide +kernel
theorem r94_221 (l1 l2 : AV) (xg xi : Nat) (st : List AV) (M : Mm) : run 94 221 [aR xg 12 xi, l1, l2] st M = run 94 222 [aR xg 12 xi, l1, l2] (aR xg 12 xi :: st) M := e_aldn d94_221 rfl
theorem d94_222 : decode (cod 94) 222 = .ok (.iload_n 2, 1) := by decide +kernel
theorem r94_222 (l0 l1 : AV) (x : Int32) (st : List AV) (M : Mm) : run 94 222 [l0, l1, aI x] st M = run 94 223 [l0, l1, aI x] (aI x :: st) M := e_ildn d94_222 rfl
theorem d94_223 : decode (cod 94) 223 = .ok (.iconst 2, 1) := by decide +kernel
theorem r94_223 (l0 l1 l2 : AV) (st : List AV) (M : Mm) : run 94 223 [l0, l1, l2] st M = run 94 224 [l0, l1, l2] (aI 2 :: st) M := e_iconst 2 d94_223 (by decide +kernel)
theorem d94_224 : decode (cod 94) 224 = .ok (.invokevirtual 111, 3) := by decide +kernel
theorem r94_224 (l0 l1 l2 : AV) (a0g a0i : Nat) (a1 : Int32) (a2 : Int32) (M : Mm) : run 94 224 [l0, l1, l2] [aI a2, aI a1, aR a0g 12 a0i] M = cbI (call 90 [aR a0g 12 a0i, aI a1, aI a2] M) (fun v M => run 94 227 [l0, l1, l2] [aI v] M) := call_I (n := 3) rfl false d94_224 rfl rfl rfl rfl rfl rfl rfl
theorem d94_227 : decode (cod 94) 227 = .ok (.ireturn, 1) := by decide +kernel
theorem r94_227 (l0 l1 l2 : AV) (v : Int32) (M : Mm) : run 94 227 [l0, l1, l2] [aI v] M = if v = 0 ∨ v = 1 then some (some v, M) else none := e_zret d94_227 rfl
theorem c95 (g0 i0 : Nat) (M : Mm) : call 95 [aR g0 12 i0] M = run 95 0 [aR g0 12 i0, none] [] M := call_run 95 _ _
theorem d95_0 : decode (cod 95) 0 = .ok (.aload_n 0, 1) := by decide +kernel
theorem r95_0 (l1 : AV) (xg xi : Nat) (st : List AV) (M : Mm) : run 95 0 [aR xg 12 xi, l1] st M = run 95 1 [aR xg 12 xi, l1] (aR xg 12 xi :: st) M := e_aldn d95_0 rfl
theorem d95_1 : decode (cod 95) 1 = .ok (.invokevirtual 96, 3) := by decide +kernel
theorem r95_1 (l0 l1 : AV) (a0g a0i : Nat) (M : Mm) : run 95 1 [l0, l1] [aR a0g 12 a0i] M = cbI (call 89 [aR a0g 12 a0i] M) (fun v M => run 95 4 [l0, l1] [aI v] M) := call_I (n := 1) rfl false d95_1 rfl rfl rfl rfl rfl rfl rfl
theorem d95_4 : decode (cod 95) 4 = .ok (.istore_n 1, 1) := by decide +kernel
theorem r95_4 (l0 l1 : AV) (x : Int32) (st : List AV) (M : Mm) : run 95 4 [l0, l1] (aI x :: st) M = run 95 5 [l0, aI x] st M := e_istn [l0, aI x] d95_4 rfl rfl
theorem d95_5 : decode (cod 95) 5 = .ok (.iload_n 1, 1) := by decide +kernel
theorem r95_5 (l0 : AV) (x : Int32) (st : List AV) (M : Mm) : run 95 5 [l0, aI x] st M = run 95 6 [l0, aI x] (aI x :: st) M := e_ildn d95_5 rfl
theorem d95_6 : decode (cod 95) 6 = .ok (.bipush 121, 2) := by decide +kernel
theorem r95_6 (l0 l1 : AV) (st : List AV) (M : Mm) : run 95 6 [l0, l1] st M = run 95 8 [l0, l1] (aI 121 :: st) M := e_bipush 121 d95_6 (by decide +kernel)
theorem d95_8 : decode (cod 95) 8 = .ok (.if_icmp .eq 41, 3) := by decide +kernel
theorem r95_8 (l0 l1 : AV) (a b : Int32) (st : List AV) (M : Mm) : run 95 8 [l0, l1] (aI b :: aI a :: st) M = if a = b then run 95 49 [l0, l1] st M else run 95 11 [l0, l1] st M := e_eq2 49 d95_8 (by decide)
theorem d95_11 : decode (cod 95) 11 = .ok (.iload_n 1, 1) := by decide +kernel
theorem r95_11 (l0 : AV) (x : Int32) (st : List AV) (M : Mm) : run 95 11 [l0, aI x] st M = run 95 12 [l0, aI x] (aI x :: st) M := e_ildn d95_11 rfl
theorem d95_12 : decode (cod 95) 12 = .ok (.bipush 109, 2) := by decide +kernel
theorem r95_12 (l0 l1 : AV) (st : List AV) (M : Mm) : run 95 12 [l0, l1] st M = run 95 14 [l0, l1] (aI 109 :: st) M := e_bipush 109 d95_12 (by decide +kernel)
theorem d95_14 : decode (cod 95) 14 = .ok (.if_icmp .eq 35, 3) := by decide +kernel
theorem r95_14 (l0 l1 : AV) (a b : Int32) (st : List AV) (M : Mm) : run 95 14 [l0, l1] (aI b :: aI a :: st) M = if a = b then run 95 49 [l0, l1] st M else run 95 17 [l0, l1] st M := e_eq2 49 d95_14 (by decide)
theorem d95_17 : decode (cod 95) 17 = .ok (.iload_n 1, 1) := by decide +kernel
theorem r95_17 (l0 : AV) (x : Int32) (st : List AV) (M : Mm) : run 95 17 [l0, aI x] st M = run 95 18 [l0, aI x] (aI x :: st) M := e_ildn d95_17 rfl
theorem d95_18 : decode (cod 95) 18 = .ok (.bipush 104, 2) := by decide +kernel
theorem r95_18 (l0 l1 : AV) (st : List AV) (M : Mm) : run 95 18 [l0, l1] st M = run 95 20 [l0, l1] (aI 104 :: st) M := e_bipush 104 d95_18 (by decide +kernel)
theorem d95_20 : decode (cod 95) 20 = .ok (.if_icmp .eq 29, 3) := by decide +kernel
theorem r95_20 (l0 l1 : AV) (a b : Int32) (st : List AV) (M : Mm) : run 95 20 [l0, l1] (aI b :: aI a :: st) M = if a = b then run 95 49 [l0, l1] st M else run 95 23 [l0, l1] st M := e_eq2 49 d95_20 (by decide)
theorem d95_23 : decode (cod 95) 23 = .ok (.iload_n 1, 1) := by decide +kernel
theorem r95_23 (l0 : AV) (x : Int32) (st : List AV) (M : Mm) : run 95 23 [l0, aI x] st M = run 95 24 [l0, aI x] (aI x :: st) M := e_ildn d95_23 rfl
theorem d95_24 : decode (cod 95) 24 = .ok (.bipush 120, 2) := by decide +kernel
theorem r95_24 (l0 l1 : AV) (st : List AV) (M : Mm) : run 95 24 [l0, l1] st M = run 95 26 [l0, l1] (aI 120 :: st) M := e_bipush 120 d95_24 (by decide +kernel)
theorem d95_26 : decode (cod 95) 26 = .ok (.if_icmp .eq 23, 3) := by decide +kernel
theorem r95_26 (l0 l1 : AV) (a b : Int32) (st : List AV) (M : Mm) : run 95 26 [l0, l1] (aI b :: aI a :: st) M = if a = b then run 95 49 [l0, l1] st M else run 95 29 [l0, l1] st M := e_eq2 49 d95_26 (by decide)
theorem d95_29 : decode (cod 95) 29 = .ok (.iload_n 1, 1) := by decide +kernel
theorem r95_29 (l0 : AV) (x : Int32) (st : List AV) (M : Mm) : run 95 29 [l0, aI x] st M = run 95 30 [l0, aI x] (aI x :: st) M := e_ildn d95_29 rfl
theorem d95_30 : decode (cod 95) 30 = .ok (.bipush 117, 2) := by decide +kernel
theorem r95_30 (l0 l1 : AV) (st : List AV) (M : Mm) : run 95 30 [l0, l1] st M = run 95 32 [l0, l1] (aI 117 :: st) M := e_bipush 117 d95_30 (by decide +kernel)
theorem d95_32 : decode (cod 95) 32 = .ok (.if_icmp .eq 17, 3) := by decide +kernel
theorem r95_32 (l0 l1 : AV) (a b : Int32) (st : List AV) (M : Mm) : run 95 32 [l0, l1] (aI b :: aI a :: st) M = if a = b then run 95 49 [l0, l1] st M else run 95 35 [l0, l1] st M := e_eq2 49 d95_32 (by decide)
theorem d95_35 : decode (cod 95) 35 = .ok (.iload_n 1, 1) := by decide +kernel
theorem r95_35 (l0 : AV) (x : Int32) (st : List AV) (M : Mm) : run 95 35 [l0, aI x] st M = run 95 36 [l0, aI x] (aI x :: st) M := e_ildn d95_35 rfl
theorem d95_36 : decode (cod 95) 36 = .ok (.bipush 114, 2) := by decide +kernel
theorem r95_36 (l0 l1 : AV) (st : List AV) (M : Mm) : run 95 36 [l0, l1] st M = run 95 38 [l0, l1] (aI 114 :: st) M := e_bipush 114 d95_36 (by decide +kernel)
theorem d95_38 : decode (cod 95) 38 = .ok (.if_icmp .eq 11, 3) := by decide +kernel
theorem r95_38 (l0 l1 : AV) (a b : Int32) (st : List AV) (M : Mm) : run 95 38 [l0, l1] (aI b :: aI a :: st) M = if a = b then run 95 49 [l0, l1] st M else run 95 41 [l0, l1] st M := e_eq2 49 d95_38 (by decide)
theorem d95_41 : decode (cod 95) 41 = .ok (.iload_n 1, 1) := by decide +kernel
theorem r95_41 (l0 : AV) (x : Int32) (st : List AV) (M : Mm) : run 95 41 [l0, aI x] st M = run 95 42 [l0, aI x] (aI x :: st) M := e_ildn d95_41 rfl
theorem d95_42 : decode (cod 95) 42 = .ok (.bipush 110, 2) := by decide +kernel
theorem r95_42 (l0 l1 : AV) (st : List AV) (M : Mm) : run 95 42 [l0, l1] st M = run 95 44 [l0, l1] (aI 110 :: st) M := e_bipush 110 d95_42 (by decide +kernel)
theorem d95_44 : decode (cod 95) 44 = .ok (.if_icmp .eq 5, 3) := by decide +kernel
theorem r95_44 (l0 l1 : AV) (a b : Int32) (st : List AV) (M : Mm) : run 95 44 [l0, l1] (aI b :: aI a :: st) M = if a = b then run 95 49 [l0, l1] st M else run 95 47 [l0, l1] st M := e_eq2 49 d95_44 (by decide)
theorem d95_47 : decode (cod 95) 47 = .ok (.iconst 0, 1) := by decide +kernel
theorem r95_47 (l0 l1 : AV) (st : List AV) (M : Mm) : run 95 47 [l0, l1] st M = run 95 48 [l0, l1] (aI 0 :: st) M := e_iconst 0 d95_47 (by decide +kernel)
theorem d95_48 : decode (cod 95) 48 = .ok (.ireturn, 1) := by decide +kernel
theorem r95_48 (l0 l1 : AV) (v : Int32) (M : Mm) : run 95 48 [l0, l1] [aI v] M = if v = 0 ∨ v = 1 then some (some v, M) else none := e_zret d95_48 rfl
theorem d95_49 : decode (cod 95) 49 = .ok (.aload_n 0, 1) := by decide +kernel
theorem r95_49 (l1 : AV) (xg xi : Nat) (st : List AV) (M : Mm) : run 95 49 [aR xg 12 xi, l1] st M = run 95 50 [aR xg 12 xi, l1] (aR xg 12 xi :: st) M := e_aldn d95_49 rfl
theorem d95_50 : decode (cod 95) 50 = .ok (.getfield 43, 3) := by decide +kernel
theorem r95_50 (l0 l1 : AV) (xg xi : Nat) (st : List AV) (M : Mm) : run 95 50 [l0, l1] (aR xg 12 xi :: st) M = run 95 53 [l0, l1] (aR 4 24 0 :: st) M := e_gfr (fun g => (4, 24, 0)) d95_50 rfl rfl rfl
theorem d95_53 : decode (cod 95) 53 = .ok (.aload_n 0, 1) := by decide +kernel
theorem r95_53 (l1 : AV) (xg xi : Nat) (st : List AV) (M : Mm) : run 95 53 [aR xg 12 xi, l1] st M = run 95 54 [aR xg 12 xi, l1] (aR xg 12 xi :: st) M := e_aldn d95_53 rfl
theorem d95_54 : decode (cod 95) 54 = .ok (.getfield 117, 3) := by decide +kernel
theorem r95_54 (l0 l1 : AV) (xg xi : Nat) (st : List AV) (M : Mm) : run 95 54 [l0, l1] (aR xg 12 xi :: st) M = run 95 57 [l0, l1] (aI (M xg 12 xi 20) :: st) M := e_gfi d95_54 rfl rfl rfl
theorem d95_57 : decode (cod 95) 57 = .ok (.iload_n 1, 1) := by decide +kernel
theorem r95_57 (l0 : AV) (x : Int32) (st : List AV) (M : Mm) : run 95 57 [l0, aI x] st M = run 95 58 [l0, aI x] (aI x :: st) M := e_ildn d95_57 rfl
theorem d95_58 : decode (cod 95) 58 = .ok (.iastore, 1) := by decide +kernel
theorem r95_58 (l0 l1 : AV) (v i : Int32) (xg xi : Nat) (st : List AV) (M : Mm) : run 95 58 [l0, l1] (aI v :: aI i :: aR xg 24 xi :: st) M = if vpB i 48 = true then run 95 59 [l0, l1] st (wr M xg 24 xi i.toNatClampNeg v) else none := e_ias d95_58 rfl rfl
theorem d95_59 : decode (cod 95) 59 = .ok (.aload_n 0, 1) := by decide +kernel
theorem r95_59 (l1 : AV) (xg xi : Nat) (st : List AV) (M : Mm) : run 95 59 [aR xg 12 xi, l1] st M = run 95 60 [aR xg 12 xi, l1] (aR xg 12 xi :: st) M := e_aldn d95_59 rfl
theorem d95_60 : decode (cod 95) 60 = .ok (.getfield 46, 3) := by decide +kernel
theorem r95_60 (l0 l1 : AV) (xg xi : Nat) (st : List AV) (M : Mm) : run 95 60 [l0, l1] (aR xg 12 xi :: st) M = run 95 63 [l0, l1] (aR 4 25 0 :: st) M := e_gfr (fun g => (4, 25, 0)) d95_60 rfl rfl rfl
theorem d95_63 : decode (cod 95) 63 = .ok (.aload_n 0, 1) := by decide +kernel
theorem r95_63 (l1 : AV) (xg xi : Nat) (st : List AV) (M : Mm) : run 95 63 [aR xg 12 xi, l1] st M = run 95 64 [aR xg 12 xi, l1] (aR xg 12 xi :: st) M := e_aldn d95_63 rfl
theorem d95_64 : decode (cod 95) 64 = .ok (.getfield 117, 3) := by decide +kernel
theorem r95_64 (l0 l1 : AV) (xg xi : Nat) (st : List AV) (M : Mm) : run 95 64 [l0, l1] (aR xg 12 xi :: st) M = run 95 67 [l0, l1] (aI (M xg 12 xi 20) :: st) M := e_gfi d95_64 rfl rfl rfl
theorem d95_67 : decode (cod 95) 67 = .ok (.aload_n 0, 1) := by decide +kernel
theorem r95_67 (l1 : AV) (xg xi : Nat) (st : List AV) (M : Mm) : run 95 67 [aR xg 12 xi, l1] st M = run 95 68 [aR xg 12 xi, l1] (aR xg 12 xi :: st) M := e_aldn d95_67 rfl
theorem d95_68 : decode (cod 95) 68 = .ok (.getfield 93, 3) := by decide +kernel
theorem r95_68 (l0 l1 : AV) (xg xi : Nat) (st : List AV) (M : Mm) : run 95 68 [l0, l1] (aR xg 12 xi :: st) M = run 95 71 [l0, l1] (aI (M xg 12 xi 19) :: st) M := e_gfi d95_68 rfl rfl rfl
theorem d95_71 : decode (cod 95) 71 = .ok (.iastore, 1) := by decide +kernel
theorem r95_71 (l0 l1 : AV) (v i : Int32) (xg xi : Nat) (st : List AV) (M : Mm) : run 95 71 [l0, l1] (aI v :: aI i :: aR xg 25 xi :: st) M = if vpB i 48 = true then run 95 72 [l0, l1] st (wr M xg 25 xi i.toNatClampNeg v) else none := e_ias d95_71 rfl rfl
theorem d95_72 : decode (cod 95) 72 = .ok (.aload_n 0, 1) := by decide +kernel
theorem r95_72 (l1 : AV) (xg xi : Nat) (st : List AV) (M : Mm) : run 95 72 [aR xg 12 xi, l1] st M = run 95 73 [aR xg 12 xi, l1] (aR xg 12 xi :: st) M := e_aldn d95_72 rfl
theorem d95_73 : decode (cod 95) 73 = .ok (.dup, 1) := by decide +kernel
theorem r95_73 (l0 l1 : AV) (xg xi : Nat) (st : List AV) (M : Mm) : run 95 73 [l0, l1] (aR xg 12 xi :: st) M = run 95 74 [l0, l1] (aR xg 12 xi :: aR xg 12 xi :: st) M := e_dup d95_73
theorem d95_74 : decode (cod 95) 74 = .ok (.getfield 93, 3) := by decide +kernel
theorem r95_74 (l0 l1 : AV) (xg xi : Nat) (st : List AV) (M : Mm) : run 95 74 [l0, l1] (aR xg 12 xi :: st) M = run 95 77 [l0, l1] (aI (M xg 12 xi 19) :: st) M := e_gfi d95_74 rfl rfl rfl
theorem d95_77 : decode (cod 95) 77 = .ok (.iconst 1, 1) := by decide +kernel
theorem r95_77 (l0 l1 : AV) (st : List AV) (M : Mm) : run 95 77 [l0, l1] st M = run 95 78 [l0, l1] (aI 1 :: st) M := e_iconst 1 d95_77 (by decide +kernel)
theorem d95_78 : decode (cod 95) 78 = .ok (.iadd, 1) := by decide +kernel
theorem r95_78 (l0 l1 : AV) (a b : Int32) (st : List AV) (M : Mm) : run 95 78 [l0, l1] (aI b :: aI a :: st) M = run 95 79 [l0, l1] (aI (a + b) :: st) M := e_iadd d95_78
theorem d95_79 : decode (cod 95) 79 = .ok (.putfield 93, 3) := by decide +kernel
theorem r95_79 (l0 l1 : AV) (v : Int32) (xg xi : Nat) (st : List AV) (M : Mm) : run 95 79 [l0, l1] (aI v :: aR xg 12 xi :: st) M = run 95 82 [l0, l1] st (wr M xg 12 xi 19 v) := e_pfi d95_79 rfl rfl rfl rfl
theorem d95_82 : decode (cod 95) 82 = .ok (.aload_n 0, 1) := by decide +kernel
theorem r95_82 (l1 : AV) (xg xi : Nat) (st : List AV) (M : Mm) : run 95 82 [aR xg 12 xi, l1] st M = run 95 83 [aR xg 12 xi, l1] (aR xg 12 xi :: st) M := e_aldn d95_82 rfl
theorem d95_83 : decode (cod 95) 83 = .ok (.iload_n 1, 1) := by decide +kernel
theorem r95_83 (l0 : AV) (x : Int32) (st : List AV) (M : Mm) : run 95 83 [l0, aI x] st M = run 95 84 [l0, aI x] (aI x :: st) M := e_ildn d95_83 rfl
theorem d95_84 : decode (cod 95) 84 = .ok (.iconst 4, 1) := by decide +kernel
theorem r95_84 (l0 l1 : AV) (st : List AV) (M : Mm) : run 95 84 [l0, l1] st M = run 95 85 [l0, l1] (aI 4 :: st) M := e_iconst 4 d95_84 (by decide +kernel)
theorem d95_85 : decode (cod 95) 85 = .ok (.aload_n 0, 1) := by decide +kernel
theorem r95_85 (l1 : AV) (xg xi : Nat) (st : List AV) (M : Mm) : run 95 85 [aR xg 12 xi, l1] st M = run 95 86 [aR xg 12 xi, l1] (aR xg 12 xi :: st) M := e_aldn d95_85 rfl
theorem d95_86 : decode (cod 95) 86 = .ok (.getfield 117, 3) := by decide +kernel
theorem r95_86 (l0 l1 : AV) (xg xi : Nat) (st : List AV) (M : Mm) : run 95 86 [l0, l1] (aR xg 12 xi :: st) M = run 95 89 [l0, l1] (aI (M xg 12 xi 20) :: st) M := e_gfi d95_86 rfl rfl rfl
theorem d95_89 : decode (cod 95) 89 = .ok (.imul, 1) := by decide +kernel
theorem r95_89 (l0 l1 : AV) (a b : Int32) (st : List AV) (M : Mm) : run 95 89 [l0, l1] (aI b :: aI a :: st) M = run 95 90 [l0, l1] (aI (a * b) :: st) M := e_imul d95_89
theorem d95_90 : decode (cod 95) 90 = .ok (.invokevirtual 120, 3) := by decide +kernel
theorem r95_90 (l0 l1 : AV) (a0g a0i : Nat) (a1 : Int32) (a2 : Int32) (M : Mm) : run 95 90 [l0, l1] [aI a2, aI a1, aR a0g 12 a0i] M = cbI (call 94 [aR a0g 12 a0i, aI a1, aI a2] M) (fun v M => run 95 93 [l0, l1] [aI v] M) := call_I (n := 3) rfl false d95_90 rfl rfl rfl rfl rfl rfl rfl
theorem d95_93 : decode (cod 95) 93 = .ok (.ifCond .eq 12, 3) := by decide +kernel
theorem r95_93 (l0 l1 : AV) (a : Int32) (st : List AV) (M : Mm) : run 95 93 [l0, l1] (aI a :: st) M = if a = 0 then run 95 105 [l0, l1] st M else run 95 96 [l0, l1] st M := e_eq1 105 d95_93 (by decide)
theorem d95_96 : decode (cod 95) 96 = .ok (.aload_n 0, 1) := by decide +kernel
theorem r95_96 (l1 : AV) (xg xi : Nat) (st : List AV) (M : Mm) : run 95 96 [aR xg 12 xi, l1] st M = run 95 97 [aR xg 12 xi, l1] (aR xg 12 xi :: st) M := e_aldn d95_96 rfl
theorem d95_97 : decode (cod 95) 97 = .ok (.invokevirtual 96, 3) := by decide +kernel
theorem r95_97 (l0 l1 : AV) (a0g a0i : Nat) (M : Mm) : run 95 97 [l0, l1] [aR a0g 12 a0i] M = cbI (call 89 [aR a0g 12 a0i] M) (fun v M => run 95 100 [l0, l1] [aI v] M) := call_I (n := 1) rfl false d95_97 rfl rfl rfl rfl rfl rfl rfl
theorem d95_100 : decode (cod 95) 100 = .ok (.bipush 59, 2) := by decide +kernel
theorem r95_100 (l0 l1 : AV) (st : List AV) (M : Mm) : run 95 100 [l0, l1] st M = run 95 102 [l0, l1] (aI 59 :: st) M := e_bipush 59 d95_100 (by decide +kernel)
theorem d95_102 : decode (cod 95) 102 = .ok (.if_icmp .eq 5, 3) := by decide +kernel
theorem r95_102 (l0 l1 : AV) (a b : Int32) (st : List AV) (M : Mm) : run 95 102 [l0, l1] (aI b :: aI a :: st) M = if a = b then run 95 107 [l0, l1] st M else run 95 105 [l0, l1] st M := e_eq2 107 d95_102 (by decide)
theorem d95_105 : decode (cod 95) 105 = .ok (.iconst 0, 1) := by decide +kernel
theorem r95_105 (l0 l1 : AV) (st : List AV) (M : Mm) : run 95 105 [l0, l1] st M = run 95 106 [l0, l1] (aI 0 :: st) M := e_iconst 0 d95_105 (by decide +kernel)
theorem d95_106 : decode (cod 95) 106 = .ok (.ireturn, 1) := by decide +kernel
theorem r95_106 (l0 l1 : AV) (v : Int32) (M : Mm) : run 95 106 [l0, l1] [aI v] M = if v = 0 ∨ v = 1 then some (some v, M) else none := e_zret d95_106 rfl
theorem d95_107 : decode (cod 95) 107 = .ok (.aload_n 0, 1) := by decide +kernel
theorem r95_107 (l1 : AV) (xg xi : Nat) (st : List AV) (M : Mm) : run 95 107 [aR xg 12 xi, l1] st M = run 95 108 [aR xg 12 xi, l1] (aR xg 12 xi :: st) M := e_aldn d95_107 rfl
theorem d95_108 : decode (cod 95) 108 = .ok (.dup, 1) := by decide +kernel
theorem r95_108 (l0 l1 : AV) (xg xi : Nat) (st : List AV) (M : Mm) : run 95 108 [l0, l1] (aR xg 12 xi :: st) M = run 95 109 [l0, l1] (aR xg 12 xi :: aR xg 12 xi :: st) M := e_dup d95_108
theorem d95_109 : decode (cod 95) 109 = .ok (.getfield 93, 3) := by decide +kernel
theorem r95_109 (l0 l1 : AV) (xg xi : Nat) (st : List AV) (M : Mm) : run 95 109 [l0, l1] (aR xg 12 xi :: st) M = run 95 112 [l0, l1] (aI (M xg 12 xi 19) :: st) M := e_gfi d95_109 rfl rfl rfl
theorem d95_112 : decode (cod 95) 112 = .ok (.iconst 1, 1) := by decide +kernel
theorem r95_112 (l0 l1 : AV) (st : List AV) (M : Mm) : run 95 112 [l0, l1] st M = run 95 113 [l0, l1] (aI 1 :: st) M := e_iconst 1 d95_112 (by decide +kernel)
theorem d95_113 : decode (cod 95) 113 = .ok (.iadd, 1) := by decide +kernel
theorem r95_113 (l0 l1 : AV) (a b : Int32) (st : List AV) (M : Mm) : run 95 113 [l0, l1] (aI b :: aI a :: st) M = run 95 114 [l0, l1] (aI (a + b) :: st) M := e_iadd d95_113
theorem d95_114 : decode (cod 95) 114 = .ok (.putfield 93, 3) := by decide +kernel
theorem r95_114 (l0 l1 : AV) (v : Int32) (xg xi : Nat) (st : List AV) (M : Mm) : run 95 114 [l0, l1] (aI v :: aR xg 12 xi :: st) M = run 95 117 [l0, l1] st (wr M xg 12 xi 19 v) := e_pfi d95_114 rfl rfl rfl rfl
theorem d95_117 : decode (cod 95) 117 = .ok (.iconst 1, 1) := by decide +kernel
theorem r95_117 (l0 l1 : AV) (st : List AV) (M : Mm) : run 95 117 [l0, l1] st M = run 95 118 [l0, l1] (aI 1 :: st) M := e_iconst 1 d95_117 (by decide +kernel)
theorem d95_118 : decode (cod 95) 118 = .ok (.ireturn, 1) := by decide +kernel
theorem r95_118 (l0 l1 : AV) (v : Int32) (M : Mm) : run 95 118 [l0, l1] [aI v] M = if v = 0 ∨ v = 1 then some (some v, M) else none := e_zret d95_118 rfl
theorem c96 (g0 i0 : Nat) (x1 : Int32) (M : Mm) : call 96 [aR g0 12 i0, aI x1] M = run 96 0 [aR g0 12 i0, aI x1] [] M := call_run 96 _ _
theorem d96_0 : decode (cod 96) 0 = .ok (.aload_n 0, 1) := by decide +kernel
theorem r96_0 (l1 : AV) (xg xi : Nat) (st : List AV) (M : Mm) : run 96 0 [aR xg 12 xi, l1] st M = run 96 1 [aR xg 12 xi, l1] (aR xg 12 xi :: st) M := e_aldn d96_0 rfl
theorem d96_1 : decode (cod 96) 1 = .ok (.getfield 49, 3) := by decide +kernel
theorem r96_1 (l0 l1 : AV) (xg xi : Nat) (st : List AV) (M : Mm) : run 96 1 [l0, l1] (aR xg 12 xi :: st) M = run 96 4 [l0, l1] (aR 4 26 0 :: st) M := e_gfr (fun g => (4, 26, 0)) d96_1 rfl rfl rfl
theorem d96_4 : decode (cod 96) 4 = .ok (.iload_n 1, 1) := by decide +kernel
theorem r96_4 (l0 : AV) (x : Int32) (st : List AV) (M : Mm) : run 96 4 [l0, aI x] st M = run 96 5 [l0, aI x] (aI x :: st) M := e_ildn d96_4 rfl
theorem d96_5 : decode (cod 96) 5 = .ok (.iconst 1, 1) := by decide +kernel
theorem r96_5 (l0 l1 : AV) (st : List AV) (M : Mm) : run 96 5 [l0, l1] st M = run 96 6 [l0, l1] (aI 1 :: st) M := e_iconst 1 d96_5 (by decide +kernel)
theorem d96_6 : decode (cod 96) 6 = .ok (.iadd, 1) := by decide +kernel
theorem r96_6 (l0 l1 : AV) (a b : Int32) (st : List AV) (M : Mm) : run 96 6 [l0, l1] (aI b :: aI a :: st) M = run 96 7 [l0, l1] (aI (a + b) :: st) M := e_iadd d96_6
theorem d96_7 : decode (cod 96) 7 = .ok (.iaload, 1) := by decide +kernel
theorem r96_7 (l0 l1 : AV) (i : Int32) (xg xi : Nat) (st : List AV) (M : Mm) : run 96 7 [l0, l1] (aI i :: aR xg 26 xi :: st) M = if vpB i 192 = true then run 96 8 [l0, l1] (aI (M xg 26 xi i.toNatClampNeg) :: st) M else none := e_ial d96_7 rfl rfl
theorem d96_8 : decode (cod 96) 8 = .ok (.iconst 1, 1) := by decide +kernel
theorem r96_8 (l0 l1 : AV) (st : List AV) (M : Mm) : run 96 8 [l0, l1] st M = run 96 9 [l0, l1] (aI 1 :: st) M := e_iconst 1 d96_8 (by decide +kernel)
theorem d96_9 : decode (cod 96) 9 = .ok (.iconst 4, 1) := by decide +kernel
theorem r96_9 (l0 l1 : AV) (st : List AV) (M : Mm) : run 96 9 [l0, l1] st M = run 96 10 [l0, l1] (aI 4 :: st) M := e_iconst 4 d96_9 (by decide +kernel)
theorem d96_10 : decode (cod 96) 10 = .ok (.invokestatic 100, 3) := by decide +kernel
theorem r96_10 (l0 l1 : AV) (a0 : Int32) (a1 : Int32) (a2 : Int32) (M : Mm) : run 96 10 [l0, l1] [aI a2, aI a1, aI a0] M = cbI (call 83 [aI a0, aI a1, aI a2] M) (fun v M => run 96 13 [l0, l1] [aI v] M) := call_I (n := 3) rfl true d96_10 rfl rfl rfl rfl rfl rfl rfl
theorem d96_13 : decode (cod 96) 13 = .ok (.ifCond .eq 38, 3) := by decide +kernel
theorem r96_13 (l0 l1 : AV) (a : Int32) (st : List AV) (M : Mm) : run 96 13 [l0, l1] (aI a :: st) M = if a = 0 then run 96 51 [l0, l1] st M else run 96 16 [l0, l1] st M := e_eq1 51 d96_13 (by decide)
theorem d96_16 : decode (cod 96) 16 = .ok (.aload_n 0, 1) := by decide +kernel
theorem r96_16 (l1 : AV) (xg xi : Nat) (st : List AV) (M : Mm) : run 96 16 [aR xg 12 xi, l1] st M = run 96 17 [aR xg 12 xi, l1] (aR xg 12 xi :: st) M := e_aldn d96_16 rfl
theorem d96_17 : decode (cod 96) 17 = .ok (.getfield 49, 3) := by decide +kernel
theorem r96_17 (l0 l1 : AV) (xg xi : Nat) (st : List AV) (M : Mm) : run 96 17 [l0, l1] (aR xg 12 xi :: st) M = run 96 20 [l0, l1] (aR 4 26 0 :: st) M := e_gfr (fun g => (4, 26, 0)) d96_17 rfl rfl rfl
theorem d96_20 : decode (cod 96) 20 = .ok (.iload_n 1, 1) := by decide +kernel
theorem r96_20 (l0 : AV) (x : Int32) (st : List AV) (M : Mm) : run 96 20 [l0, aI x] st M = run 96 21 [l0, aI x] (aI x :: st) M := e_ildn d96_20 rfl
theorem d96_21 : decode (cod 96) 21 = .ok (.iconst 2, 1) := by decide +kernel
theorem r96_21 (l0 l1 : AV) (st : List AV) (M : Mm) : run 96 21 [l0, l1] st M = run 96 22 [l0, l1] (aI 2 :: st) M := e_iconst 2 d96_21 (by decide +kernel)
theorem d96_22 : decode (cod 96) 22 = .ok (.iadd, 1) := by decide +kernel
theorem r96_22 (l0 l1 : AV) (a b : Int32) (st : List AV) (M : Mm) : run 96 22 [l0, l1] (aI b :: aI a :: st) M = run 96 23 [l0, l1] (aI (a + b) :: st) M := e_iadd d96_22
theorem d96_23 : decode (cod 96) 23 = .ok (.iaload, 1) := by decide +kernel
theorem r96_23 (l0 l1 : AV) (i : Int32) (xg xi : Nat) (st : List AV) (M : Mm) : run 96 23 [l0, l1] (aI i :: aR xg 26 xi :: st) M = if vpB i 192 = true then run 96 24 [l0, l1] (aI (M xg 26 xi i.toNatClampNeg) :: st) M else none := e_ial d96_23 rfl rfl
theorem d96_24 : decode (cod 96) 24 = .ok (.bipush 60, 2) := by decide +kernel
theorem r96_24 (l0 l1 : AV) (st : List AV) (M : Mm) : run 96 24 [l0, l1] st M = run 96 26 [l0, l1] (aI 60 :: st) M := e_bipush 60 d96_24 (by decide +kernel)
theorem d96_26 : decode (cod 96) 26 = .ok (.if_icmp .gt 25, 3) := by decide +kernel
theorem r96_26 (l0 l1 : AV) (a b : Int32) (st : List AV) (M : Mm) : run 96 26 [l0, l1] (aI b :: aI a :: st) M = if b < a then run 96 51 [l0, l1] st M else run 96 29 [l0, l1] st M := e_gt2 51 d96_26 (by decide)
theorem d96_29 : decode (cod 96) 29 = .ok (.aload_n 0, 1) := by decide +kernel
theorem r96_29 (l1 : AV) (xg xi : Nat) (st : List AV) (M : Mm) : run 96 29 [aR xg 12 xi, l1] st M = run 96 30 [aR xg 12 xi, l1] (aR xg 12 xi :: st) M := e_aldn d96_29 rfl
theorem d96_30 : decode (cod 96) 30 = .ok (.getfield 49, 3) := by decide +kernel
theorem r96_30 (l0 l1 : AV) (xg xi : Nat) (st : List AV) (M : Mm) : run 96 30 [l0, l1] (aR xg 12 xi :: st) M = run 96 33 [l0, l1] (aR 4 26 0 :: st) M := e_gfr (fun g => (4, 26, 0)) d96_30 rfl rfl rfl
theorem d96_33 : decode (cod 96) 33 = .ok (.iload_n 1, 1) := by decide +kernel
theorem r96_33 (l0 : AV) (x : Int32) (st : List AV) (M : Mm) : run 96 33 [l0, aI x] st M = run 96 34 [l0, aI x] (aI x :: st) M := e_ildn d96_33 rfl
theorem d96_34 : decode (cod 96) 34 = .ok (.iconst 3, 1) := by decide +kernel
theorem r96_34 (l0 l1 : AV) (st : List AV) (M : Mm) : run 96 34 [l0, l1] st M = run 96 35 [l0, l1] (aI 3 :: st) M := e_iconst 3 d96_34 (by decide +kernel)
theorem d96_35 : decode (cod 96) 35 = .ok (.iadd, 1) := by decide +kernel
theorem r96_35 (l0 l1 : AV) (a b : Int32) (st : List AV) (M : Mm) : run 96 35 [l0, l1] (aI b :: aI a :: st) M = run 96 36 [l0, l1] (aI (a + b) :: st) M := e_iadd d96_35
theorem d96_36 : decode (cod 96) 36 = .ok (.iaload, 1) := by decide +kernel
theorem r96_36 (l0 l1 : AV) (i : Int32) (xg xi : Nat) (st : List AV) (M : Mm) : run 96 36 [l0, l1] (aI i :: aR xg 26 xi :: st) M = if vpB i 192 = true then run 96 37 [l0, l1] (aI (M xg 26 xi i.toNatClampNeg) :: st) M else none := e_ial d96_36 rfl rfl
theorem d96_37 : decode (cod 96) 37 = .ok (.sipush 240, 3) := by decide +kernel
theorem r96_37 (l0 l1 : AV) (st : List AV) (M : Mm) : run 96 37 [l0, l1] st M = run 96 40 [l0, l1] (aI 240 :: st) M := e_sipush 240 d96_37 (by decide +kernel)
theorem d96_40 : decode (cod 96) 40 = .ok (.if_icmp .gt 11, 3) := by decide +kernel
theorem r96_40 (l0 l1 : AV) (a b : Int32) (st : List AV) (M : Mm) : run 96 40 [l0, l1] (aI b :: aI a :: st) M = if b < a then run 96 51 [l0, l1] st M else run 96 43 [l0, l1] st M := e_gt2 51 d96_40 (by decide)
theorem d96_43 : decode (cod 96) 43 = .ok (.aload_n 0, 1) := by decide +kernel
theorem r96_43 (l1 : AV) (xg xi : Nat) (st : List AV) (M : Mm) : run 96 43 [aR xg 12 xi, l1] st M = run 96 44 [aR xg 12 xi, l1] (aR xg 12 xi :: st) M := e_aldn d96_43 rfl
theorem d96_44 : decode (cod 96) 44 = .ok (.getfield 79, 3) := by decide +kernel
theorem r96_44 (l0 l1 : AV) (xg xi : Nat) (st : List AV) (M : Mm) : run 96 44 [l0, l1] (aR xg 12 xi :: st) M = run 96 47 [l0, l1] (aI (M xg 12 xi 10) :: st) M := e_gfi d96_44 rfl rfl rfl
theorem d96_47 : decode (cod 96) 47 = .ok (.iconst 4, 1) := by decide +kernel
theorem r96_47 (l0 l1 : AV) (st : List AV) (M : Mm) : run 96 47 [l0, l1] st M = run 96 48 [l0, l1] (aI 4 :: st) M := e_iconst 4 d96_47 (by decide +kernel)
theorem d96_48 : decode (cod 96) 48 = .ok (.if_icmp .ne 5, 3) := by decide +kernel
theorem r96_48 (l0 l1 : AV) (a b : Int32) (st : List AV) (M : Mm) : run 96 48 [l0, l1] (aI b :: aI a :: st) M = if a = b then run 96 51 [l0, l1] st M else run 96 53 [l0, l1] st M := e_ne2 53 d96_48 (by decide)
theorem d96_51 : decode (cod 96) 51 = .ok (.iconst 0, 1) := by decide +kernel
theorem r96_51 (l0 l1 : AV) (st : List AV) (M : Mm) : run 96 51 [l0, l1] st M = run 96 52 [l0, l1] (aI 0 :: st) M := e_iconst 0 d96_51 (by decide +kernel)
theorem d96_52 : decode (cod 96) 52 = .ok (.ireturn, 1) := by decide +kernel
theorem r96_52 (l0 l1 : AV) (v : Int32) (M : Mm) : run 96 52 [l0, l1] [aI v] M = if v = 0 ∨ v = 1 then some (some v, M) else none := e_zret d96_52 rfl
theorem d96_53 : decode (cod 96) 53 = .ok (.aload_n 0, 1) := by decide +kernel
theorem r96_53 (l1 : AV) (xg xi : Nat) (st : List AV) (M : Mm) : run 96 53 [aR xg 12 xi, l1] st M = run 96 54 [aR xg 12 xi, l1] (aR xg 12 xi :: st) M := e_aldn d96_53 rfl
theorem d96_54 : decode (cod 96) 54 = .ok (.getfield 16, 3) := by decide +kernel
theorem r96_54 (l0 l1 : AV) (xg xi : Nat) (st : List AV) (M : Mm) : run 96 54 [l0, l1] (aR xg 12 xi :: st) M = run 96 57 [l0, l1] (aR 4 15 0 :: st) M := e_gfr (fun g => (4, 15, 0)) d96_54 rfl rfl rfl
theorem d96_57 : decode (cod 96) 57 = .ok (.aload_n 0, 1) := by decide +kernel
theorem r96_57 (l1 : AV) (xg xi : Nat) (st : List AV) (M : Mm) : run 96 57 [aR xg 12 xi, l1] st M = run 96 58 [aR xg 12 xi, l1] (aR xg 12 xi :: st) M := e_aldn d96_57 rfl
theorem d96_58 : decode (cod 96) 58 = .ok (.getfield 79, 3) := by decide +kernel
theorem r96_58 (l0 l1 : AV) (xg xi : Nat) (st : List AV) (M : Mm) : run 96 58 [l0, l1] (aR xg 12 xi :: st) M = run 96 61 [l0, l1] (aI (M xg 12 xi 10) :: st) M := e_gfi d96_58 rfl rfl rfl
theorem d96_61 : decode (cod 96) 61 = .ok (.aload_n 0, 1) := by decide +kernel
theorem r96_61 (l1 : AV) (xg xi : Nat) (st : List AV) (M : Mm) : run 96 61 [aR xg 12 xi, l1] st M = run 96 62 [aR xg 12 xi, l1] (aR xg 12 xi :: st) M := e_aldn d96_61 rfl
theorem d96_62 : decode (cod 96) 62 = .ok (.getfield 49, 3) := by decide +kernel
theorem r96_62 (l0 l1 : AV) (xg xi : Nat) (st : List AV) (M : Mm) : run 96 62 [l0, l1] (aR xg 12 xi :: st) M = run 96 65 [l0, l1] (aR 4 26 0 :: st) M := e_gfr (fun g => (4, 26, 0)) d96_62 rfl rfl rfl
theorem d96_65 : decode (cod 96) 65 = .ok (.iload_n 1, 1) := by decide +kernel
theorem r96_65 (l0 : AV) (x : Int32) (st : List AV) (M : Mm) : run 96 65 [l0, aI x] st M = run 96 66 [l0, aI x] (aI x :: st) M := e_ildn d96_65 rfl
theorem d96_66 : decode (cod 96) 66 = .ok (.iaload, 1) := by decide +kernel
theorem r96_66 (l0 l1 : AV) (i : Int32) (xg xi : Nat) (st : List AV) (M : Mm) : run 96 66 [l0, l1] (aI i :: aR xg 26 xi :: st) M = if vpB i 192 = true then run 96 67 [l0, l1] (aI (M xg 26 xi i.toNatClampNeg) :: st) M else none := e_ial d96_66 rfl rfl
theorem d96_67 : decode (cod 96) 67 = .ok (.iastore, 1) := by decide +kernel
theorem r96_67 (l0 l1 : AV) (v i : Int32) (xg xi : Nat) (st : List AV) (M : Mm) : run 96 67 [l0, l1] (aI v :: aI i :: aR xg 15 xi :: st) M = if vpB i 4 = true then run 96 68 [l0, l1] st (wr M xg 15 xi i.toNatClampNeg v) else none := e_ias d96_67 rfl rfl
theorem d96_68 : decode (cod 96) 68 = .ok (.aload_n 0, 1) := by decide +kernel
theorem r96_68 (l1 : AV) (xg xi : Nat) (st : List AV) (M : Mm) : run 96 68 [aR xg 12 xi, l1] st M = run 96 69 [aR xg 12 xi, l1] (aR xg 12 xi :: st) M := e_aldn d96_68 rfl
theorem d96_69 : decode (cod 96) 69 = .ok (.getfield 19, 3) := by decide +kernel
theorem r96_69 (l0 l1 : AV) (xg xi : Nat) (st : List AV) (M : Mm) : run 96 69 [l0, l1] (aR xg 12 xi :: st) M = run 96 72 [l0, l1] (aR 4 16 0 :: st) M := e_gfr (fun g => (4, 16, 0)) d96_69 rfl rfl rfl
theorem d96_72 : decode (cod 96) 72 = .ok (.aload_n 0, 1) := by decide +kernel
theorem r96_72 (l1 : AV) (xg xi : Nat) (st : List AV) (M : Mm) : run 96 72 [aR xg 12 xi, l1] st M = run 96 73 [aR xg 12 xi, l1] (aR xg 12 xi :: st) M := e_aldn d96_72 rfl
theorem d96_73 : decode (cod 96) 73 = .ok (.getfield 79, 3) := by decide +kernel
theorem r96_73 (l0 l1 : AV) (xg xi : Nat) (st : List AV) (M : Mm) : run 96 73 [l0, l1] (aR xg 12 xi :: st) M = run 96 76 [l0, l1] (aI (M xg 12 xi 10) :: st) M := e_gfi d96_73 rfl rfl rfl
theorem d96_76 : decode (cod 96) 76 = .ok (.aload_n 0, 1) := by decide +kernel
theorem r96_76 (l1 : AV) (xg xi : Nat) (st : List AV) (M : Mm) : run 96 76 [aR xg 12 xi, l1] st M = run 96 77 [aR xg 12 xi, l1] (aR xg 12 xi :: st) M := e_aldn d96_76 rfl
theorem d96_77 : decode (cod 96) 77 = .ok (.getfield 49, 3) := by decide +kernel
theorem r96_77 (l0 l1 : AV) (xg xi : Nat) (st : List AV) (M : Mm) : run 96 77 [l0, l1] (aR xg 12 xi :: st) M = run 96 80 [l0, l1] (aR 4 26 0 :: st) M := e_gfr (fun g => (4, 26, 0)) d96_77 rfl rfl rfl
theorem d96_80 : decode (cod 96) 80 = .ok (.iload_n 1, 1) := by decide +kernel
theorem r96_80 (l0 : AV) (x : Int32) (st : List AV) (M : Mm) : run 96 80 [l0, aI x] st M = run 96 81 [l0, aI x] (aI x :: st) M := e_ildn d96_80 rfl
theorem d96_81 : decode (cod 96) 81 = .ok (.iconst 1, 1) := by decide +kernel
theorem r96_81 (l0 l1 : AV) (st : List AV) (M : Mm) : run 96 81 [l0, l1] st M = run 96 82 [l0, l1] (aI 1 :: st) M := e_iconst 1 d96_81 (by decide +kernel)
theorem d96_82 : decode (cod 96) 82 = .ok (.iadd, 1) := by decide +kernel
theorem r96_82 (l0 l1 : AV) (a b : Int32) (st : List AV) (M : Mm) : run 96 82 [l0, l1] (aI b :: aI a :: st) M = run 96 83 [l0, l1] (aI (a + b) :: st) M := e_iadd d96_82
theorem d96_83 : decode (cod 96) 83 = .ok (.iaload, 1) := by decide +kernel
theorem r96_83 (l0 l1 : AV) (i : Int32) (xg xi : Nat) (st : List AV) (M : Mm) : run 96 83 [l0, l1] (aI i :: aR xg 26 xi :: st) M = if vpB i 192 = true then run 96 84 [l0, l1] (aI (M xg 26 xi i.toNatClampNeg) :: st) M else none := e_ial d96_83 rfl rfl
theorem d96_84 : decode (cod 96) 84 = .ok (.iastore, 1) := by decide +kernel
theorem r96_84 (l0 l1 : AV) (v i : Int32) (xg xi : Nat) (st : List AV) (M : Mm) : run 96 84 [l0, l1] (aI v :: aI i :: aR xg 16 xi :: st) M = if vpB i 4 = true then run 96 85 [l0, l1] st (wr M xg 16 xi i.toNatClampNeg v) else none := e_ias d96_84 rfl rfl
theorem d96_85 : decode (cod 96) 85 = .ok (.aload_n 0, 1) := by decide +kernel
theorem r96_85 (l1 : AV) (xg xi : Nat) (st : List AV) (M : Mm) : run 96 85 [aR xg 12 xi, l1] st M = run 96 86 [aR xg 12 xi, l1] (aR xg 12 xi :: st) M := e_aldn d96_85 rfl
theorem d96_86 : decode (cod 96) 86 = .ok (.getfield 22, 3) := by decide +kernel
theorem r96_86 (l0 l1 : AV) (xg xi : Nat) (st : List AV) (M : Mm) : run 96 86 [l0, l1] (aR xg 12 xi :: st) M = run 96 89 [l0, l1] (aR 4 17 0 :: st) M := e_gfr (fun g => (4, 17, 0)) d96_86 rfl rfl rfl
theorem d96_89 : decode (cod 96) 89 = .ok (.aload_n 0, 1) := by decide +kernel
theorem r96_89 (l1 : AV) (xg xi : Nat) (st : List AV) (M : Mm) : run 96 89 [aR xg 12 xi, l1] st M = run 96 90 [aR xg 12 xi, l1] (aR xg 12 xi :: st) M := e_aldn d96_89 rfl
theorem d96_90 : decode (cod 96) 90 = .ok (.getfield 79, 3) := by decide +kernel
theorem r96_90 (l0 l1 : AV) (xg xi : Nat) (st : List AV) (M : Mm) : run 96 90 [l0, l1] (aR xg 12 xi :: st) M = run 96 93 [l0, l1] (aI (M xg 12 xi 10) :: st) M := e_gfi d96_90 rfl rfl rfl
theorem d96_93 : decode (cod 96) 93 = .ok (.aload_n 0, 1) := by decide +kernel
theorem r96_93 (l1 : AV) (xg xi : Nat) (st : List AV) (M : Mm) : run 96 93 [aR xg 12 xi, l1] st M = run 96 94 [aR xg 12 xi, l1] (aR xg 12 xi :: st) M := e_aldn d96_93 rfl
theorem d96_94 : decode (cod 96) 94 = .ok (.getfield 49, 3) := by decide +kernel
theorem r96_94 (l0 l1 : AV) (xg xi : Nat) (st : List AV) (M : Mm) : run 96 94 [l0, l1] (aR xg 12 xi :: st) M = run 96 97 [l0, l1] (aR 4 26 0 :: st) M := e_gfr (fun g => (4, 26, 0)) d96_94 rfl rfl rfl
theorem d96_97 : decode (cod 96) 97 = .ok (.iload_n 1, 1) := by decide +kernel
theorem r96_97 (l0 : AV) (x : Int32) (st : List AV) (M : Mm) : run 96 97 [l0, aI x] st M = run 96 98 [l0, aI x] (aI x :: st) M := e_ildn d96_97 rfl
theorem d96_98 : decode (cod 96) 98 = .ok (.iconst 2, 1) := by decide +kernel
theorem r96_98 (l0 l1 : AV) (st : List AV) (M : Mm) : run 96 98 [l0, l1] st M = run 96 99 [l0, l1] (aI 2 :: st) M := e_iconst 2 d96_98 (by decide +kernel)
theorem d96_99 : decode (cod 96) 99 = .ok (.iadd, 1) := by decide +kernel
theorem r96_99 (l0 l1 : AV) (a b : Int32) (st : List AV) (M : Mm) : run 96 99 [l0, l1] (aI b :: aI a :: st) M = run 96 100 [l0, l1] (aI (a + b) :: st) M := e_iadd d96_99
theorem d96_100 : decode (cod 96) 100 = .ok (.iaload, 1) := by decide +kernel
theorem r96_100 (l0 l1 : AV) (i : Int32) (xg xi : Nat) (st : List AV) (M : Mm) : run 96 100 [l0, l1] (aI i :: aR xg 26 xi :: st) M = if vpB i 192 = true then run 96 101 [l0, l1] (aI (M xg 26 xi i.toNatClampNeg) :: st) M else none := e_ial d96_100 rfl rfl
theorem d96_101 : decode (cod 96) 101 = .ok (.iastore, 1) := by decide +kernel
theorem r96_101 (l0 l1 : AV) (v i : Int32) (xg xi : Nat) (st : List AV) (M : Mm) : run 96 101 [l0, l1] (aI v :: aI i :: aR xg 17 xi :: st) M = if vpB i 4 = true then run 96 102 [l0, l1] st (wr M xg 17 xi i.toNatClampNeg v) else none := e_ias d96_101 rfl rfl
theorem d96_102 : decode (cod 96) 102 = .ok (.aload_n 0, 1) := by decide +kernel
theorem r96_102 (l1 : AV) (xg xi : Nat) (st : List AV) (M : Mm) : run 96 102 [aR xg 12 xi, l1] st M = run 96 103 [aR xg 12 xi, l1] (aR xg 12 xi :: st) M := e_aldn d96_102 rfl
theorem d96_103 : decode (cod 96) 103 = .ok (.getfield 25, 3) := by decide +kernel
theorem r96_103 (l0 l1 : AV) (xg xi : Nat) (st : List AV) (M : Mm) : run 96 103 [l0, l1] (aR xg 12 xi :: st) M = run 96 106 [l0, l1] (aR 4 18 0 :: st) M := e_gfr (fun g => (4, 18, 0)) d96_103 rfl rfl rfl
theorem d96_106 : decode (cod 96) 106 = .ok (.aload_n 0, 1) := by decide +kernel
theorem r96_106 (l1 : AV) (xg xi : Nat) (st : List AV) (M : Mm) : run 96 106 [aR xg 12 xi, l1] st M = run 96 107 [aR xg 12 xi, l1] (aR xg 12 xi :: st) M := e_aldn d96_106 rfl
theorem d96_107 : decode (cod 96) 107 = .ok (.getfield 79, 3) := by decide +kernel
theorem r96_107 (l0 l1 : AV) (xg xi : Nat) (st : List AV) (M : Mm) : run 96 107 [l0, l1] (aR xg 12 xi :: st) M = run 96 110 [l0, l1] (aI (M xg 12 xi 10) :: st) M := e_gfi d96_107 rfl rfl rfl
theorem d96_110 : decode (cod 96) 110 = .ok (.aload_n 0, 1) := by decide +kernel
theorem r96_110 (l1 : AV) (xg xi : Nat) (st : List AV) (M : Mm) : run 96 110 [aR xg 12 xi, l1] st M = run 96 111 [aR xg 12 xi, l1] (aR xg 12 xi :: st) M := e_aldn d96_110 rfl
theorem d96_111 : decode (cod 96) 111 = .ok (.getfield 49, 3) := by decide +kernel
theorem r96_111 (l0 l1 : AV) (xg xi : Nat) (st : List AV) (M : Mm) : run 96 111 [l0, l1] (aR xg 12 xi :: st) M = run 96 114 [l0, l1] (aR 4 26 0 :: st) M := e_gfr (fun g => (4, 26, 0)) d96_111 rfl rfl rfl
theorem d96_114 : decode (cod 96) 114 = .ok (.iload_n 1, 1) := by decide +kernel
theorem r96_114 (l0 : AV) (x : Int32) (st : List AV) (M : Mm) : run 96 114 [l0, aI x] st M = run 96 115 [l0, aI x] (aI x :: st) M := e_ildn d96_114 rfl
theorem d96_115 : decode (cod 96) 115 = .ok (.iconst 3, 1) := by decide +kernel
theorem r96_115 (l0 l1 : AV) (st : List AV) (M : Mm) : run 96 115 [l0, l1] st M = run 96 116 [l0, l1] (aI 3 :: st) M := e_iconst 3 d96_115 (by decide +kernel)
theorem d96_116 : decode (cod 96) 116 = .ok (.iadd, 1) := by decide +kernel
theorem r96_116 (l0 l1 : AV) (a b : Int32) (st : List AV) (M : Mm) : run 96 116 [l0, l1] (aI b :: aI a :: st) M = run 96 117 [l0, l1] (aI (a + b) :: st) M := e_iadd d96_116
theorem d96_117 : decode (cod 96) 117 = .ok (.iaload, 1) := by decide +kernel
theorem r96_117 (l0 l1 : AV) (i : Int32) (xg xi : Nat) (st : List AV) (M : Mm) : run 96 117 [l0, l1] (aI i :: aR xg 26 xi :: st) M = if vpB i 192 = true then run 96 118 [l0, l1] (aI (M xg 26 xi i.toNatClampNeg) :: st) M else none := e_ial d96_117 rfl rfl
theorem d96_118 : decode (cod 96) 118 = .ok (.iastore, 1) := by decide +kernel
theorem r96_118 (l0 l1 : AV) (v i : Int32) (xg xi : Nat) (st : List AV) (M : Mm) : run 96 118 [l0, l1] (aI v :: aI i :: aR xg 18 xi :: st) M = if vpB i 4 = true then run 96 119 [l0, l1] st (wr M xg 18 xi i.toNatClampNeg v) else none := e_ias d96_118 rfl rfl
theorem d96_119 : decode (cod 96) 119 = .ok (.aload_n 0, 1) := by decide +kernel
theorem r96_119 (l1 : AV) (xg xi : Nat) (st : List AV) (M : Mm) : run 96 119 [aR xg 12 xi, l1] st M = run 96 120 [aR xg 12 xi, l1] (aR xg 12 xi :: st) M := e_aldn d96_119 rfl
theorem d96_120 : decode (cod 96) 120 = .ok (.dup, 1) := by decide +kernel
theorem r96_120 (l0 l1 : AV) (xg xi : Nat) (st : List AV) (M : Mm) : run 96 120 [l0, l1] (aR xg 12 xi :: st) M = run 96 121 [l0, l1] (aR xg 12 xi :: aR xg 12 xi :: st) M := e_dup d96_120
theorem d96_121 : decode (cod 96) 121 = .ok (.getfield 79, 3) := by decide +kernel
theorem r96_121 (l0 l1 : AV) (xg xi : Nat) (st : List AV) (M : Mm) : run 96 121 [l0, l1] (aR xg 12 xi :: st) M = run 96 124 [l0, l1] (aI (M xg 12 xi 10) :: st) M := e_gfi d96_121 rfl rfl rfl
theorem d96_124 : decode (cod 96) 124 = .ok (.iconst 1, 1) := by decide +kernel
theorem r96_124 (l0 l1 : AV) (st : List AV) (M : Mm) : run 96 124 [l0, l1] st M = run 96 125 [l0, l1] (aI 1 :: st) M := e_iconst 1 d96_124 (by decide +kernel)
theorem d96_125 : decode (cod 96) 125 = .ok (.iadd, 1) := by decide +kernel
theorem r96_125 (l0 l1 : AV) (a b : Int32) (st : List AV) (M : Mm) : run 96 125 [l0, l1] (aI b :: aI a :: st) M = run 96 126 [l0, l1] (aI (a + b) :: st) M := e_iadd d96_125
theorem d96_126 : decode (cod 96) 126 = .ok (.putfield 79, 3) := by decide +kernel
theorem r96_126 (l0 l1 : AV) (v : Int32) (xg xi : Nat) (st : List AV) (M : Mm) : run 96 126 [l0, l1] (aI v :: aR xg 12 xi :: st) M = run 96 129 [l0, l1] st (wr M xg 12 xi 10 v) := e_pfi d96_126 rfl rfl rfl rfl
theorem d96_129 : decode (cod 96) 129 = .ok (.iconst 1, 1) := by decide +kernel
theorem r96_129 (l0 l1 : AV) (st : List AV) (M : Mm) : run 96 129 [l0, l1] st M = run 96 130 [l0, l1] (aI 1 :: st) M := e_iconst 1 d96_129 (by decide +kernel)
theorem d96_130 : decode (cod 96) 130 = .ok (.ireturn, 1) := by decide +kernel
theorem r96_130 (l0 l1 : AV) (v : Int32) (M : Mm) : run 96 130 [l0, l1] [aI v] M = if v = 0 ∨ v = 1 then some (some v, M) else none := e_zret d96_130 rfl
theorem c97 (g0 i0 : Nat) (M : Mm) : call 97 [aR g0 12 i0] M = run 97 0 [aR g0 12 i0, none] [] M := call_run 97 _ _
theorem d97_0 : decode (cod 97) 0 = .ok (.iconst 0, 1) := by decide +kernel
theorem r97_0 (l0 l1 : AV) (st : List AV) (M : Mm) : run 97 0 [l0, l1] st M = run 97 1 [l0, l1] (aI 0 :: st) M := e_iconst 0 d97_0 (by decide +kernel)
theorem d97_1 : decode (cod 97) 1 = .ok (.istore_n 1, 1) := by decide +kernel
theorem r97_1 (l0 l1 : AV) (x : Int32) (st : List AV) (M : Mm) : run 97 1 [l0, l1] (aI x :: st) M = run 97 2 [l0, aI x] st M := e_istn [l0, aI x] d97_1 rfl rfl
theorem d97_2 : decode (cod 97) 2 = .ok (.iload_n 1, 1) := by decide +kernel
theorem r97_2 (l0 : AV) (x : Int32) (st : List AV) (M : Mm) : run 97 2 [l0, aI x] st M = run 97 3 [l0, aI x] (aI x :: st) M := e_ildn d97_2 rfl
theorem d97_3 : decode (cod 97) 3 = .ok (.aload_n 0, 1) := by decide +kernel
theorem r97_3 (l1 : AV) (xg xi : Nat) (st : List AV) (M : Mm) : run 97 3 [aR xg 12 xi, l1] st M = run 97 4 [aR xg 12 xi, l1] (aR xg 12 xi :: st) M := e_aldn d97_3 rfl
theorem d97_4 : decode (cod 97) 4 = .ok (.getfield 13, 3) := by decide +kernel
theorem r97_4 (l0 l1 : AV) (xg xi : Nat) (st : List AV) (M : Mm) : run 97 4 [l0, l1] (aR xg 12 xi :: st) M = run 97 7 [l0, l1] (aR 4 14 0 :: st) M := e_gfr (fun g => (4, 14, 0)) d97_4 rfl rfl rfl
theorem d97_7 : decode (cod 97) 7 = .ok (.iconst 0, 1) := by decide +kernel
theorem r97_7 (l0 l1 : AV) (st : List AV) (M : Mm) : run 97 7 [l0, l1] st M = run 97 8 [l0, l1] (aI 0 :: st) M := e_iconst 0 d97_7 (by decide +kernel)
theorem d97_8 : decode (cod 97) 8 = .ok (.iaload, 1) := by decide +kernel
theorem r97_8 (l0 l1 : AV) (i : Int32) (xg xi : Nat) (st : List AV) (M : Mm) : run 97 8 [l0, l1] (aI i :: aR xg 14 xi :: st) M = if vpB i 7 = true then run 97 9 [l0, l1] (aI (M xg 14 xi i.toNatClampNeg) :: st) M else none := e_ial d97_8 rfl rfl
theorem d97_9 : decode (cod 97) 9 = .ok (.if_icmp .ge 20, 3) := by decide +kernel
theorem r97_9 (l0 l1 : AV) (a b : Int32) (st : List AV) (M : Mm) : run 97 9 [l0, l1] (aI b :: aI a :: st) M = if a < b then run 97 12 [l0, l1] st M else run 97 29 [l0, l1] st M := e_ge2 29 d97_9 (by decide)
theorem d97_12 : decode (cod 97) 12 = .ok (.aload_n 0, 1) := by decide +kernel
theorem r97_12 (l1 : AV) (xg xi : Nat) (st : List AV) (M : Mm) : run 97 12 [aR xg 12 xi, l1] st M = run 97 13 [aR xg 12 xi, l1] (aR xg 12 xi :: st) M := e_aldn d97_12 rfl
theorem d97_13 : decode (cod 97) 13 = .ok (.getfield 28, 3) := by decide +kernel
theorem r97_13 (l0 l1 : AV) (xg xi : Nat) (st : List AV) (M : Mm) : run 97 13 [l0, l1] (aR xg 12 xi :: st) M = run 97 16 [l0, l1] (aR 4 19 0 :: st) M := e_gfr (fun g => (4, 19, 0)) d97_13 rfl rfl rfl
theorem d97_16 : decode (cod 97) 16 = .ok (.iload_n 1, 1) := by decide +kernel
theorem r97_16 (l0 : AV) (x : Int32) (st : List AV) (M : Mm) : run 97 16 [l0, aI x] st M = run 97 17 [l0, aI x] (aI x :: st) M := e_ildn d97_16 rfl
theorem d97_17 : decode (cod 97) 17 = .ok (.iaload, 1) := by decide +kernel
theorem r97_17 (l0 l1 : AV) (i : Int32) (xg xi : Nat) (st : List AV) (M : Mm) : run 97 17 [l0, l1] (aI i :: aR xg 19 xi :: st) M = if vpB i 3 = true then run 97 18 [l0, l1] (aI (M xg 19 xi i.toNatClampNeg) :: st) M else none := e_ial d97_17 rfl rfl
theorem d97_18 : decode (cod 97) 18 = .ok (.ifCond .eq 5, 3) := by decide +kernel
theorem r97_18 (l0 l1 : AV) (a : Int32) (st : List AV) (M : Mm) : run 97 18 [l0, l1] (aI a :: st) M = if a = 0 then run 97 23 [l0, l1] st M else run 97 21 [l0, l1] st M := e_eq1 23 d97_18 (by decide)
theorem d97_21 : decode (cod 97) 21 = .ok (.iconst 1, 1) := by decide +kernel
theorem r97_21 (l0 l1 : AV) (st : List AV) (M : Mm) : run 97 21 [l0, l1] st M = run 97 22 [l0, l1] (aI 1 :: st) M := e_iconst 1 d97_21 (by decide +kernel)
theorem d97_22 : decode (cod 97) 22 = .ok (.ireturn, 1) := by decide +kernel
theorem r97_22 (l0 l1 : AV) (v : Int32) (M : Mm) : run 97 22 [l0, l1] [aI v] M = if v = 0 ∨ v = 1 then some (some v, M) else none := e_zret d97_22 rfl
theorem d97_23 : decode (cod 97) 23 = .ok (.iinc 1 1, 3) := by decide +kernel
theorem r97_23 (l0 : AV) (x : Int32) (st : List AV) (M : Mm) : run 97 23 [l0, aI x] st M = run 97 26 [l0, aI (x + 1)] st M := e_iinc 1 [l0, aI (x + 1)] d97_23 (by decide +kernel) rfl rfl
theorem d97_26 : decode (cod 97) 26 = .ok (.goto (-24), 3) := by decide +kernel
theorem r97_26 (l0 l1 : AV) (st : List AV) (M : Mm) : run 97 26 [l0, l1] st M = run 97 2 [l0, l1] st M := e_goto 2 d97_26 (by decide)
theorem d97_29 : decode (cod 97) 29 = .ok (.iconst 0, 1) := by decide +kernel
theorem r97_29 (l0 l1 : AV) (st : List AV) (M : Mm) : run 97 29 [l0, l1] st M = run 97 30 [l0, l1] (aI 0 :: st) M := e_iconst 0 d97_29 (by decide +kernel)
theorem d97_30 : decode (cod 97) 30 = .ok (.ireturn, 1) := by decide +kernel
theorem r97_30 (l0 l1 : AV) (v : Int32) (M : Mm) : run 97 30 [l0, l1] [aI v] M = if v = 0 ∨ v = 1 then some (some v, M) else none := e_zret d97_30 rfl
theorem c98 (g0 i0 : Nat) (x1 : Int32) (x2 : Int32) (M : Mm) : call 98 [aR g0 12 i0, aI x1, aI x2] M = run 98 0 [aR g0 12 i0, aI x1, aI x2] [] M := call_run 98 _ _
theorem d98_0 : decode (cod 98) 0 = .ok (.iload_n 2, 1) := by decide +kernel
theorem r98_0 (l0 l1 : AV) (x : Int32) (st : List AV) (M : Mm) : run 98 0 [l0, l1, aI x] st M = run 98 1 [l0, l1, aI x] (aI x :: st) M := e_ildn d98_0 rfl
theorem d98_1 : decode (cod 98) 1 = .ok (.iload_n 1, 1) := by decide +kernel
theorem r98_1 (l0 l2 : AV) (x : Int32) (st : List AV) (M : Mm) : run 98 1 [l0, aI x, l2] st M = run 98 2 [l0, aI x, l2] (aI x :: st) M := e_ildn d98_1 rfl
theorem d98_2 : decode (cod 98) 2 = .ok (.invokestatic 123, 3) := by decide +kernel
theorem r98_2 (l0 l1 l2 : AV) (a0 : Int32) (t0 : AV) (M : Mm) : run 98 2 [l0, l1, l2] [aI a0, t0] M = cbI (call 86 [aI a0] M) (fun v M => run 98 5 [l0, l1, l2] [aI v, t0] M) := call_I (n := 1) rfl true d98_2 rfl rfl rfl rfl rfl rfl rfl
theorem d98_5 : decode (cod 98) 5 = .ok (.iload_n 1, 1) := by decide +kernel
theorem r98_5 (l0 l2 : AV) (x : Int32) (st : List AV) (M : Mm) : run 98 5 [l0, aI x, l2] st M = run 98 6 [l0, aI x, l2] (aI x :: st) M := e_ildn d98_5 rfl
theorem d98_6 : decode (cod 98) 6 = .ok (.invokestatic 126, 3) := by decide +kernel
theorem r98_6 (l0 l1 l2 : AV) (a0 : Int32) (t0 t1 : AV) (M : Mm) : run 98 6 [l0, l1, l2] [aI a0, t0, t1] M = cbI (call 87 [aI a0] M) (fun v M => run 98 9 [l0, l1, l2] [aI v, t0, t1] M) := call_I (n := 1) rfl true d98_6 rfl rfl rfl rfl rfl rfl rfl
theorem d98_9 : decode (cod 98) 9 = .ok (.invokestatic 100, 3) := by decide +kernel
theorem r98_9 (l0 l1 l2 : AV) (a0 : Int32) (a1 : Int32) (a2 : Int32) (M : Mm) : run 98 9 [l0, l1, l2] [aI a2, aI a1, aI a0] M = cbI (call 83 [aI a0, aI a1, aI a2] M) (fun v M => run 98 12 [l0, l1, l2] [aI v] M) := call_I (n := 3) rfl true d98_9 rfl rfl rfl rfl rfl rfl rfl
theorem d98_12 : decode (cod 98) 12 = .ok (.ifCond .eq 14, 3) := by decide +kernel
theorem r98_12 (l0 l1 l2 : AV) (a : Int32) (st : List AV) (M : Mm) : run 98 12 [l0, l1, l2] (aI a :: st) M = if a = 0 then run 98 26 [l0, l1, l2] st M else run 98 15 [l0, l1, l2] st M := e_eq1 26 d98_12 (by decide)
theorem d98_15 : decode (cod 98) 15 = .ok (.iload_n 1, 1) := by decide +kernel
theorem r98_15 (l0 l2 : AV) (x : Int32) (st : List AV) (M : Mm) : run 98 15 [l0, aI x, l2] st M = run 98 16 [l0, aI x, l2] (aI x :: st) M := e_ildn d98_15 rfl
theorem d98_16 : decode (cod 98) 16 = .ok (.ifCond .ne 12, 3) := by decide +kernel
theorem r98_16 (l0 l1 l2 : AV) (a : Int32) (st : List AV) (M : Mm) : run 98 16 [l0, l1, l2] (aI a :: st) M = if a = 0 then run 98 19 [l0, l1, l2] st M else run 98 28 [l0, l1, l2] st M := e_ne1 28 d98_16 (by decide)
theorem d98_19 : decode (cod 98) 19 = .ok (.aload_n 0, 1) := by decide +kernel
theorem r98_19 (l1 l2 : AV) (xg xi : Nat) (st : List AV) (M : Mm) : run 98 19 [aR xg 12 xi, l1, l2] st M = run 98 20 [aR xg 12 xi, l1, l2] (aR xg 12 xi :: st) M := e_aldn d98_19 rfl
theorem d98_20 : decode (cod 98) 20 = .ok (.invokevirtual 129, 3) := by decide +kernel
theorem r98_20 (l0 l1 l2 : AV) (a0g a0i : Nat) (M : Mm) : run 98 20 [l0, l1, l2] [aR a0g 12 a0i] M = cbI (call 97 [aR a0g 12 a0i] M) (fun v M => run 98 23 [l0, l1, l2] [aI v] M) := call_I (n := 1) rfl false d98_20 rfl rfl rfl rfl rfl rfl rfl
theorem d98_23 : decode (cod 98) 23 = .ok (.ifCond .eq 5, 3) := by decide +kernel
theorem r98_23 (l0 l1 l2 : AV) (a : Int32) (st : List AV) (M : Mm) : run 98 23 [l0, l1, l2] (aI a :: st) M = if a = 0 then run 98 28 [l0, l1, l2] st M else run 98 26 [l0, l1, l2] st M := e_eq1 28 d98_23 (by decide)
theorem d98_26 : decode (cod 98) 26 = .ok (.iconst 0, 1) := by decide +kernel
theorem r98_26 (l0 l1 l2 : AV) (st : List AV) (M : Mm) : run 98 26 [l0, l1, l2] st M = run 98 27 [l0, l1, l2] (aI 0 :: st) M := e_iconst 0 d98_26 (by decide +kernel)
theorem d98_27 : decode (cod 98) 27 = .ok (.ireturn, 1) := by decide +kernel
theorem r98_27 (l0 l1 l2 : AV) (v : Int32) (M : Mm) : run 98 27 [l0, l1, l2] [aI v] M = if v = 0 ∨ v = 1 then some (some v, M) else none := e_zret d98_27 rfl
theorem d98_28 : decode (cod 98) 28 = .ok (.aload_n 0, 1) := by decide +kernel
theorem r98_28 (l1 l2 : AV) (xg xi : Nat) (st : List AV) (M : Mm) : run 98 28 [aR xg 12 xi, l1, l2] st M = run 98 29 [aR xg 12 xi, l1, l2] (aR xg 12 xi :: st) M := e_aldn d98_28 rfl
theorem d98_29 : decode (cod 98) 29 = .ok (.getfield 13, 3) := by decide +kernel
theorem r98_29 (l0 l1 l2 : AV) (xg xi : Nat) (st : List AV) (M : Mm) : run 98 29 [l0, l1, l2] (aR xg 12 xi :: st) M = run 98 32 [l0, l1, l2] (aR 4 14 0 :: st) M := e_gfr (fun g => (4, 14, 0)) d98_29 rfl rfl rfl
theorem d98_32 : decode (cod 98) 32 = .ok (.iload_n 1, 1) := by decide +kernel
theorem r98_32 (l0 l2 : AV) (x : Int32) (st : List AV) (M : Mm) : run 98 32 [l0, aI x, l2] st M = run 98 33 [l0, aI x, l2] (aI x :: st) M := e_ildn d98_32 rfl
theorem d98_33 : decode (cod 98) 33 = .ok (.iload_n 2, 1) := by decide +kernel
theorem r98_33 (l0 l1 : AV) (x : Int32) (st : List AV) (M : Mm) : run 98 33 [l0, l1, aI x] st M = run 98 34 [l0, l1, aI x] (aI x :: st) M := e_ildn d98_33 rfl
theorem d98_34 : decode (cod 98) 34 = .ok (.iastore, 1) := by decide +kernel
theorem r98_34 (l0 l1 l2 : AV) (v i : Int32) (xg xi : Nat) (st : List AV) (M : Mm) : run 98 34 [l0, l1, l2] (aI v :: aI i :: aR xg 14 xi :: st) M = if vpB i 7 = true then run 98 35 [l0, l1, l2] st (wr M xg 14 xi i.toNatClampNeg v) else none := e_ias d98_34 rfl rfl
theorem d98_35 : decode (cod 98) 35 = .ok (.iconst 1, 1) := by decide +kernel
theorem r98_35 (l0 l1 l2 : AV) (st : List AV) (M : Mm) : run 98 35 [l0, l1, l2] st M = run 98 36 [l0, l1, l2] (aI 1 :: st) M := e_iconst 1 d98_35 (by decide +kernel)
theorem d98_36 : decode (cod 98) 36 = .ok (.ireturn, 1) := by decide +kernel
theorem r98_36 (l0 l1 l2 : AV) (v : Int32) (M : Mm) : run 98 36 [l0, l1, l2] [aI v] M = if v = 0 ∨ v = 1 then some (some v, M) else none := e_zret d98_36 rfl
theorem c99 (g0 i0 : Nat) (x1 : Int32) (M : Mm) : call 99 [aR g0 12 i0, aI x1] M = run 99 0 [aR g0 12 i0, aI x1, none] [] M := call_run 99 _ _
theorem d99_0 : decode (cod 99) 0 = .ok (.iconst 4, 1) := by decide +kernel
theorem r99_0 (l0 l1 l2 : AV) (st : List AV) (M : Mm) : run 99 0 [l0, l1, l2] st M = run 99 1 [l0, l1, l2] (aI 4 :: st) M := e_iconst 4 d99_0 (by decide +kernel)
theorem d99_1 : decode (cod 99) 1 = .ok (.iload_n 1, 1) := by decide +kernel
theorem r99_1 (l0 l2 : AV) (x : Int32) (st : List AV) (M : Mm) : run 99 1 [l0, aI x, l2] st M = run 99 2 [l0, aI x, l2] (aI x :: st) M := e_ildn d99_1 rfl
theorem d99_2 : decode (cod 99) 2 = .ok (.imul, 1) := by decide +kernel
theorem r99_2 (l0 l1 l2 : AV) (a b : Int32) (st : List AV) (M : Mm) : run 99 2 [l0, l1, l2] (aI b :: aI a :: st) M = run 99 3 [l0, l1, l2] (aI (a * b) :: st) M := e_imul d99_2
theorem d99_3 : decode (cod 99) 3 = .ok (.istore_n 2, 1) := by decide +kernel
theorem r99_3 (l0 l1 l2 : AV) (x : Int32) (st : List AV) (M : Mm) : run 99 3 [l0, l1, l2] (aI x :: st) M = run 99 4 [l0, l1, aI x] st M := e_istn [l0, l1, aI x] d99_3 rfl rfl
theorem d99_4 : decode (cod 99) 4 = .ok (.aload_n 0, 1) := by decide +kernel
theorem r99_4 (l1 l2 : AV) (xg xi : Nat) (st : List AV) (M : Mm) : run 99 4 [aR xg 12 xi, l1, l2] st M = run 99 5 [aR xg 12 xi, l1, l2] (aR xg 12 xi :: st) M := e_aldn d99_4 rfl
theorem d99_5 : decode (cod 99) 5 = .ok (.getfield 43, 3) := by decide +kernel
theorem r99_5 (l0 l1 l2 : AV) (xg xi : Nat) (st : List AV) (M : Mm) : run 99 5 [l0, l1, l2] (aR xg 12 xi :: st) M = run 99 8 [l0, l1, l2] (aR 4 24 0 :: st) M := e_gfr (fun g => (4, 24, 0)) d99_5 rfl rfl rfl
theorem d99_8 : decode (cod 99) 8 = .ok (.iload_n 1, 1) := by decide +kernel
theorem r99_8 (l0 l2 : AV) (x : Int32) (st : List AV) (M : Mm) : run 99 8 [l0, aI x, l2] st M = run 99 9 [l0, aI x, l2] (aI x :: st) M := e_ildn d99_8 rfl
theorem d99_9 : decode (cod 99) 9 = .ok (.iaload, 1) := by decide +kernel
theorem r99_9 (l0 l1 l2 : AV) (i : Int32) (xg xi : Nat) (st : List AV) (M : Mm) : run 99 9 [l0, l1, l2] (aI i :: aR xg 24 xi :: st) M = if vpB i 48 = true then run 99 10 [l0, l1, l2] (aI (M xg 24 xi i.toNatClampNeg) :: st) M else none := e_ial d99_9 rfl rfl
theorem d99_10 : decode (cod 99) 10 = .ok (.tableswitch 201 104 121 #[104, 201, 201, 201, 201, 92, 201, 201, 201, 201, 188, 201, 201, 176, 201, 201, 140, 86], 86) := by decide +kernel
theorem r99_10 (l0 l1 l2 : AV) (x : Int32) (st : List AV) (M : Mm) : run 99 10 [l0, l1, l2] (aI x :: st) M = if x = 104 then run 99 114 [l0, l1, l2] st M else if x = 109 then run 99 102 [l0, l1, l2] st M else if x = 114 then run 99 198 [l0, l1, l2] st M else if x = 117 then run 99 186 [l0, l1, l2] st M else if x = 120 then run 99 150 [l0, l1, l2] st M else if x = 121 then run 99 96 [l0, l1, l2] st M else run 99 211 [l0, l1, l2] st M := by
  rw [run_step d99_10 rfl]
  simp only [stpI, tsw]
  by_cases c0 : x = 104
  · subst c0
    rw [if_pos rfl]
    rfl
  rw [if_neg c0]
  by_cases c1 : x = 109
  · subst c1
    rw [if_pos rfl]
    rfl
  rw [if_neg c1]
  by_cases c2 : x = 114
  · subst c2
    rw [if_pos rfl]
    rfl
  rw [if_neg c2]
  by_cases c3 : x = 117
  · subst c3
    rw [if_pos rfl]
    rfl
  rw [if_neg c3]
  by_cases c4 : x = 120
  · subst c4
    rw [if_pos rfl]
    rfl
  rw [if_neg c4]
  by_cases c5 : x = 121
  · subst c5
    rw [if_pos rfl]
    rfl
  rw [if_neg c5]
  by_cases e0 : x = 105
  · subst e0
    rfl
  by_cases e1 : x = 106
  · subst e1
    rfl
  by_cases e2 : x = 107
  · subst e2
    rfl
  by_cases e3 : x = 108
  · subst e3
    rfl
  by_cases e4 : x = 110
  · subst e4
    rfl
  by_cases e5 : x = 111
  · subst e5
    rfl
  by_cases e6 : x = 112
  · subst e6
    rfl
  by_cases e7 : x = 113
  · subst e7
    rfl
  by_cases e8 : x = 115
  · subst e8
    rfl
  by_cases e9 : x = 116
  · subst e9
    rfl
  by_cases e10 : x = 118
  · subst e10
    rfl
  by_cases e11 : x = 119
  · subst e11
    rfl
  have hx : x.toInt < 104 ∨ 121 < x.toInt := by
    have h : ∀ k : Int, ¬ x = Int32.ofInt k → -2147483648 ≤ k → k < 2147483648 → ¬ x.toInt = k := fun k hk hl hh e => hk (Int32.toInt_inj.mp (by rw [e, Int32.toInt_ofInt_of_le hl hh]))
    have fc0 := h 104 c0 (by decide) (by decide)
    have fc1 := h 109 c1 (by decide) (by decide)
    have fc2 := h 114 c2 (by decide) (by decide)
    have fc3 := h 117 c3 (by decide) (by decide)
    have fc4 := h 120 c4 (by decide) (by decide)
    have fc5 := h 121 c5 (by decide) (by decide)
    have fe0 := h 105 e0 (by decide) (by decide)
    have fe1 := h 106 e1 (by decide) (by decide)
    have fe2 := h 107 e2 (by decide) (by decide)
    have fe3 := h 108 e3 (by decide) (by decide)
    have fe4 := h 110 e4 (by decide) (by decide)
    have fe5 := h 111 e5 (by decide) (by decide)
    have fe6 := h 112 e6 (by decide) (by decide)
    have fe7 := h 113 e7 (by decide) (by decide)
    have fe8 := h 115 e8 (by decide) (by decide)
    have fe9 := h 116 e9 (by decide) (by decide)
    have fe10 := h 118 e10 (by decide) (by decide)
    have fe11 := h 119 e11 (by decide) (by decide)
    omega
  rw [if_pos hx, jmp_run 211 (by decide)]
  rfl
theorem d99_96 : decode (cod 99) 96 = .ok (.aload_n 0, 1) := by decide +kernel
theorem r99_96 (l1 l2 : AV) (xg xi : Nat) (st : List AV) (M : Mm) : run 99 96 [aR xg 12 xi, l1, l2] st M = run 99 97 [aR xg 12 xi, l1, l2] (aR xg 12 xi :: st) M := e_aldn d99_96 rfl
theorem d99_97 : decode (cod 99) 97 = .ok (.iload_n 2, 1) := by decide +kernel
theorem r99_97 (l0 l1 : AV) (x : Int32) (st : List AV) (M : Mm) : run 99 97 [l0, l1, aI x] st M = run 99 98 [l0, l1, aI x] (aI x :: st) M := e_ildn d99_97 rfl
theorem d99_98 : decode (cod 99) 98 = .ok (.invokevirtual 133, 3) := by decide +kernel
theorem r99_98 (l0 l1 l2 : AV) (a0g a0i : Nat) (a1 : Int32) (M : Mm) : run 99 98 [l0, l1, l2] [aI a1, aR a0g 12 a0i] M = cbI (call 96 [aR a0g 12 a0i, aI a1] M) (fun v M => run 99 101 [l0, l1, l2] [aI v] M) := call_I (n := 2) rfl false d99_98 rfl rfl rfl rfl rfl rfl rfl
theorem d99_101 : decode (cod 99) 101 = .ok (.ireturn, 1) := by decide +kernel
theorem r99_101 (l0 l1 l2 : AV) (v : Int32) (M : Mm) : run 99 101 [l0, l1, l2] [aI v] M = if v = 0 ∨ v = 1 then some (some v, M) else none := e_zret d99_101 rfl
theorem d99_102 : decode (cod 99) 102 = .ok (.aload_n 0, 1) := by decide +kernel
theorem r99_102 (l1 l2 : AV) (xg xi : Nat) (st : List AV) (M : Mm) : run 99 102 [aR xg 12 xi, l1, l2] st M = run 99 103 [aR xg 12 xi, l1, l2] (aR xg 12 xi :: st) M := e_aldn d99_102 rfl
theorem d99_103 : decode (cod 99) 103 = .ok (.iconst 0, 1) := by decide +kernel
theorem r99_103 (l0 l1 l2 : AV) (st : List AV) (M : Mm) : run 99 103 [l0, l1, l2] st M = run 99 104 [l0, l1, l2] (aI 0 :: st) M := e_iconst 0 d99_103 (by decide +kernel)
theorem d99_104 : decode (cod 99) 104 = .ok (.aload_n 0, 1) := by decide +kernel
theorem r99_104 (l1 l2 : AV) (xg xi : Nat) (st : List AV) (M : Mm) : run 99 104 [aR xg 12 xi, l1, l2] st M = run 99 105 [aR xg 12 xi, l1, l2] (aR xg 12 xi :: st) M := e_aldn d99_104 rfl
theorem d99_105 : decode (cod 99) 105 = .ok (.getfield 49, 3) := by decide +kernel
theorem r99_105 (l0 l1 l2 : AV) (xg xi : Nat) (st : List AV) (M : Mm) : run 99 105 [l0, l1, l2] (aR xg 12 xi :: st) M = run 99 108 [l0, l1, l2] (aR 4 26 0 :: st) M := e_gfr (fun g => (4, 26, 0)) d99_105 rfl rfl rfl
theorem d99_108 : decode (cod 99) 108 = .ok (.iload_n 2, 1) := by decide +kernel
theorem r99_108 (l0 l1 : AV) (x : Int32) (st : List AV) (M : Mm) : run 99 108 [l0, l1, aI x] st M = run 99 109 [l0, l1, aI x] (aI x :: st) M := e_ildn d99_108 rfl
theorem d99_109 : decode (cod 99) 109 = .ok (.iaload, 1) := by decide +kernel
theorem r99_109 (l0 l1 l2 : AV) (i : Int32) (xg xi : Nat) (st : List AV) (M : Mm) : run 99 109 [l0, l1, l2] (aI i :: aR xg 26 xi :: st) M = if vpB i 192 = true then run 99 110 [l0, l1, l2] (aI (M xg 26 xi i.toNatClampNeg) :: st) M else none := e_ial d99_109 rfl rfl
theorem d99_110 : decode (cod 99) 110 = .ok (.invokevirtual 137, 3) := by decide +kernel
theorem r99_110 (l0 l1 l2 : AV) (a0g a0i : Nat) (a1 : Int32) (a2 : Int32) (M : Mm) : run 99 110 [l0, l1, l2] [aI a2, aI a1, aR a0g 12 a0i] M = cbI (call 98 [aR a0g 12 a0i, aI a1, aI a2] M) (fun v M => run 99 113 [l0, l1, l2] [aI v] M) := call_I (n := 3) rfl false d99_110 rfl rfl rfl rfl rfl rfl rfl
theorem d99_113 : decode (cod 99) 113 = .ok (.ireturn, 1) := by decide +kernel
theorem r99_113 (l0 l1 l2 : AV) (v : Int32) (M : Mm) : run 99 113 [l0, l1, l2] [aI v] M = if v = 0 ∨ v = 1 then some (some v, M) else none := e_zret d99_113 rfl
theorem d99_114 : decode (cod 99) 114 = .ok (.aload_n 0, 1) := by decide +kernel
theorem r99_114 (l1 l2 : AV) (xg xi : Nat) (st : List AV) (M : Mm) : run 99 114 [aR xg 12 xi, l1, l2] st M = run 99 115 [aR xg 12 xi, l1, l2] (aR xg 12 xi :: st) M := e_aldn d99_114 rfl
theorem d99_115 : decode (cod 99) 115 = .ok (.iconst 1, 1) := by decide +kernel
theorem r99_115 (l0 l1 l2 : AV) (st : List AV) (M : Mm) : run 99 115 [l0, l1, l2] st M = run 99 116 [l0, l1, l2] (aI 1 :: st) M := e_iconst 1 d99_115 (by decide +kernel)
theorem d99_116 : decode (cod 99) 116 = .ok (.aload_n 0, 1) := by decide +kernel
theorem r99_116 (l1 l2 : AV) (xg xi : Nat) (st : List AV) (M : Mm) : run 99 116 [aR xg 12 xi, l1, l2] st M = run 99 117 [aR xg 12 xi, l1, l2] (aR xg 12 xi :: st) M := e_aldn d99_116 rfl
theorem d99_117 : decode (cod 99) 117 = .ok (.getfield 49, 3) := by decide +kernel
theorem r99_117 (l0 l1 l2 : AV) (xg xi : Nat) (st : List AV) (M : Mm) : run 99 117 [l0, l1, l2] (aR xg 12 xi :: st) M = run 99 120 [l0, l1, l2] (aR 4 26 0 :: st) M := e_gfr (fun g => (4, 26, 0)) d99_117 rfl rfl rfl
theorem d99_120 : decode (cod 99) 120 = .ok (.iload_n 2, 1) := by decide +kernel
theorem r99_120 (l0 l1 : AV) (x : Int32) (st : List AV) (M : Mm) : run 99 120 [l0, l1, aI x] st M = run 99 121 [l0, l1, aI x] (aI x :: st) M := e_ildn d99_120 rfl
theorem d99_121 : decode (cod 99) 121 = .ok (.iaload, 1) := by decide +kernel
theorem r99_121 (l0 l1 l2 : AV) (i : Int32) (xg xi : Nat) (st : List AV) (M : Mm) : run 99 121 [l0, l1, l2] (aI i :: aR xg 26 xi :: st) M = if vpB i 192 = true then run 99 122 [l0, l1, l2] (aI (M xg 26 xi i.toNatClampNeg) :: st) M else none := e_ial d99_121 rfl rfl
theorem d99_122 : decode (cod 99) 122 = .ok (.invokevirtual 137, 3) := by decide +kernel
theorem r99_122 (l0 l1 l2 : AV) (a0g a0i : Nat) (a1 : Int32) (a2 : Int32) (M : Mm) : run 99 122 [l0, l1, l2] [aI a2, aI a1, aR a0g 12 a0i] M = cbI (call 98 [aR a0g 12 a0i, aI a1, aI a2] M) (fun v M => run 99 125 [l0, l1, l2] [aI v] M) := call_I (n := 3) rfl false d99_122 rfl rfl rfl rfl rfl rfl rfl
theorem d99_125 : decode (cod 99) 125 = .ok (.ifCond .eq 23, 3) := by decide +kernel
theorem r99_125 (l0 l1 l2 : AV) (a : Int32) (st : List AV) (M : Mm) : run 99 125 [l0, l1, l2] (aI a :: st) M = if a = 0 then run 99 148 [l0, l1, l2] st M else run 99 128 [l0, l1, l2] st M := e_eq1 148 d99_125 (by decide)
theorem d99_128 : decode (cod 99) 128 = .ok (.aload_n 0, 1) := by decide +kernel
theorem r99_128 (l1 l2 : AV) (xg xi : Nat) (st : List AV) (M : Mm) : run 99 128 [aR xg 12 xi, l1, l2] st M = run 99 129 [aR xg 12 xi, l1, l2] (aR xg 12 xi :: st) M := e_aldn d99_128 rfl
theorem d99_129 : decode (cod 99) 129 = .ok (.iconst 2, 1) := by decide +kernel
theorem r99_129 (l0 l1 l2 : AV) (st : List AV) (M : Mm) : run 99 129 [l0, l1, l2] st M = run 99 130 [l0, l1, l2] (aI 2 :: st) M := e_iconst 2 d99_129 (by decide +kernel)
theorem d99_130 : decode (cod 99) 130 = .ok (.aload_n 0, 1) := by decide +kernel
theorem r99_130 (l1 l2 : AV) (xg xi : Nat) (st : List AV) (M : Mm) : run 99 130 [aR xg 12 xi, l1, l2] st M = run 99 131 [aR xg 12 xi, l1, l2] (aR xg 12 xi :: st) M := e_aldn d99_130 rfl
theorem d99_131 : decode (cod 99) 131 = .ok (.getfield 49, 3) := by decide +kernel
theorem r99_131 (l0 l1 l2 : AV) (xg xi : Nat) (st : List AV) (M : Mm) : run 99 131 [l0, l1, l2] (aR xg 12 xi :: st) M = run 99 134 [l0, l1, l2] (aR 4 26 0 :: st) M := e_gfr (fun g => (4, 26, 0)) d99_131 rfl rfl rfl
theorem d99_134 : decode (cod 99) 134 = .ok (.iload_n 2, 1) := by decide +kernel
theorem r99_134 (l0 l1 : AV) (x : Int32) (st : List AV) (M : Mm) : run 99 134 [l0, l1, aI x] st M = run 99 135 [l0, l1, aI x] (aI x :: st) M := e_ildn d99_134 rfl
theorem d99_135 : decode (cod 99) 135 = .ok (.iconst 1, 1) := by decide +kernel
theorem r99_135 (l0 l1 l2 : AV) (st : List AV) (M : Mm) : run 99 135 [l0, l1, l2] st M = run 99 136 [l0, l1, l2] (aI 1 :: st) M := e_iconst 1 d99_135 (by decide +kernel)
theorem d99_136 : decode (cod 99) 136 = .ok (.iadd, 1) := by decide +kernel
theorem r99_136 (l0 l1 l2 : AV) (a b : Int32) (st : List AV) (M : Mm) : run 99 136 [l0, l1, l2] (aI b :: aI a :: st) M = run 99 137 [l0, l1, l2] (aI (a + b) :: st) M := e_iadd d99_136
theorem d99_137 : decode (cod 99) 137 = .ok (.iaload, 1) := by decide +kernel
theorem r99_137 (l0 l1 l2 : AV) (i : Int32) (xg xi : Nat) (st : List AV) (M : Mm) : run 99 137 [l0, l1, l2] (aI i :: aR xg 26 xi :: st) M = if vpB i 192 = true then run 99 138 [l0, l1, l2] (aI (M xg 26 xi i.toNatClampNeg) :: st) M else none := e_ial d99_137 rfl rfl
theorem d99_138 : decode (cod 99) 138 = .ok (.invokevirtual 137, 3) := by decide +kernel
theorem r99_138 (l0 l1 l2 : AV) (a0g a0i : Nat) (a1 : Int32) (a2 : Int32) (M : Mm) : run 99 138 [l0, l1, l2] [aI a2, aI a1, aR a0g 12 a0i] M = cbI (call 98 [aR a0g 12 a0i, aI a1, aI a2] M) (fun v M => run 99 141 [l0, l1, l2] [aI v] M) := call_I (n := 3) rfl false d99_138 rfl rfl rfl rfl rfl rfl rfl
theorem d99_141 : decode (cod 99) 141 = .ok (.ifCond .eq 7, 3) := by decide +kernel
theorem r99_141 (l0 l1 l2 : AV) (a : Int32) (st : List AV) (M : Mm) : run 99 141 [l0, l1, l2] (aI a :: st) M = if a = 0 then run 99 148 [l0, l1, l2] st M else run 99 144 [l0, l1, l2] st M := e_eq1 148 d99_141 (by decide)
theorem d99_144 : decode (cod 99) 144 = .ok (.iconst 1, 1) := by decide +kernel
theorem r99_144 (l0 l1 l2 : AV) (st : List AV) (M : Mm) : run 99 144 [l0, l1, l2] st M = run 99 145 [l0, l1, l2] (aI 1 :: st) M := e_iconst 1 d99_144 (by decide +kernel)
theorem d99_145 : decode (cod 99) 145 = .ok (.goto 4, 3) := by decide +kernel
theorem r99_145 (l0 l1 l2 : AV) (st : List AV) (M : Mm) : run 99 145 [l0, l1, l2] st M = run 99 149 [l0, l1, l2] st M := e_goto 149 d99_145 (by decide)
theorem d99_148 : decode (cod 99) 148 = .ok (.iconst 0, 1) := by decide +kernel
theorem r99_148 (l0 l1 l2 : AV) (st : List AV) (M : Mm) : run 99 148 [l0, l1, l2] st M = run 99 149 [l0, l1, l2] (aI 0 :: st) M := e_iconst 0 d99_148 (by decide +kernel)
theorem d99_149 : decode (cod 99) 149 = .ok (.ireturn, 1) := by decide +kernel
theorem r99_149 (l0 l1 l2 : AV) (v : Int32) (M : Mm) : run 99 149 [l0, l1, l2] [aI v] M = if v = 0 ∨ v = 1 then some (some v, M) else none := e_zret d99_149 rfl
theorem d99_150 : decode (cod 99) 150 = .ok (.aload_n 0, 1) := by decide +kernel
theorem r99_150 (l1 l2 : AV) (xg xi : Nat) (st : List AV) (M : Mm) : run 99 150 [aR xg 12 xi, l1, l2] st M = run 99 151 [aR xg 12 xi, l1, l2] (aR xg 12 xi :: st) M := e_aldn d99_150 rfl
theorem d99_151 : decode (cod 99) 151 = .ok (.iconst 3, 1) := by decide +kernel
theorem r99_151 (l0 l1 l2 : AV) (st : List AV) (M : Mm) : run 99 151 [l0, l1, l2] st M = run 99 152 [l0, l1, l2] (aI 3 :: st) M := e_iconst 3 d99_151 (by decide +kernel)
theorem d99_152 : decode (cod 99) 152 = .ok (.aload_n 0, 1) := by decide +kernel
theorem r99_152 (l1 l2 : AV) (xg xi : Nat) (st : List AV) (M : Mm) : run 99 152 [aR xg 12 xi, l1, l2] st M = run 99 153 [aR xg 12 xi, l1, l2] (aR xg 12 xi :: st) M := e_aldn d99_152 rfl
theorem d99_153 : decode (cod 99) 153 = .ok (.getfield 49, 3) := by decide +kernel
theorem r99_153 (l0 l1 l2 : AV) (xg xi : Nat) (st : List AV) (M : Mm) : run 99 153 [l0, l1, l2] (aR xg 12 xi :: st) M = run 99 156 [l0, l1, l2] (aR 4 26 0 :: st) M := e_gfr (fun g => (4, 26, 0)) d99_153 rfl rfl rfl
theorem d99_156 : decode (cod 99) 156 = .ok (.iload_n 2, 1) := by decide +kernel
theorem r99_156 (l0 l1 : AV) (x : Int32) (st : List AV) (M : Mm) : run 99 156 [l0, l1, aI x] st M = run 99 157 [l0, l1, aI x] (aI x :: st) M := e_ildn d99_156 rfl
theorem d99_157 : decode (cod 99) 157 = .ok (.iaload, 1) := by decide +kernel
theorem r99_157 (l0 l1 l2 : AV) (i : Int32) (xg xi : Nat) (st : List AV) (M : Mm) : run 99 157 [l0, l1, l2] (aI i :: aR xg 26 xi :: st) M = if vpB i 192 = true then run 99 158 [l0, l1, l2] (aI (M xg 26 xi i.toNatClampNeg) :: st) M else none := e_ial d99_157 rfl rfl
theorem d99_158 : decode (cod 99) 158 = .ok (.invokevirtual 137, 3) := by decide +kernel
theorem r99_158 (l0 l1 l2 : AV) (a0g a0i : Nat) (a1 : Int32) (a2 : Int32) (M : Mm) : run 99 158 [l0, l1, l2] [aI a2, aI a1, aR a0g 12 a0i] M = cbI (call 98 [aR a0g 12 a0i, aI a1, aI a2] M) (fun v M => run 99 161 [l0, l1, l2] [aI v] M) := call_I (n := 3) rfl false d99_158 rfl rfl rfl rfl rfl rfl rfl
theorem d99_161 : decode (cod 99) 161 = .ok (.ifCond .eq 23, 3) := by decide +kernel
theorem r99_161 (l0 l1 l2 : AV) (a : Int32) (st : List AV) (M : Mm) : run 99 161 [l0, l1, l2] (aI a :: st) M = if a = 0 then run 99 184 [l0, l1, l2] st M else run 99 164 [l0, l1, l2] st M := e_eq1 184 d99_161 (by decide)
theorem d99_164 : decode (cod 99) 164 = .ok (.aload_n 0, 1) := by decide +kernel
theorem r99_164 (l1 l2 : AV) (xg xi : Nat) (st : List AV) (M : Mm) : run 99 164 [aR xg 12 xi, l1, l2] st M = run 99 165 [aR xg 12 xi, l1, l2] (aR xg 12 xi :: st) M := e_aldn d99_164 rfl
theorem d99_165 : decode (cod 99) 165 = .ok (.iconst 4, 1) := by decide +kernel
theorem r99_165 (l0 l1 l2 : AV) (st : List AV) (M : Mm) : run 99 165 [l0, l1, l2] st M = run 99 166 [l0, l1, l2] (aI 4 :: st) M := e_iconst 4 d99_165 (by decide +kernel)
theorem d99_166 : decode (cod 99) 166 = .ok (.aload_n 0, 1) := by decide +kernel
theorem r99_166 (l1 l2 : AV) (xg xi : Nat) (st : List AV) (M : Mm) : run 99 166 [aR xg 12 xi, l1, l2] st M = run 99 167 [aR xg 12 xi, l1, l2] (aR xg 12 xi :: st) M := e_aldn d99_166 rfl
theorem d99_167 : decode (cod 99) 167 = .ok (.getfield 49, 3) := by decide +kernel
theorem r99_167 (l0 l1 l2 : AV) (xg xi : Nat) (st : List AV) (M : Mm) : run 99 167 [l0, l1, l2] (aR xg 12 xi :: st) M = run 99 170 [l0, l1, l2] (aR 4 26 0 :: st) M := e_gfr (fun g => (4, 26, 0)) d99_167 rfl rfl rfl
theorem d99_170 : decode (cod 99) 170 = .ok (.iload_n 2, 1) := by decide +kernel
theorem r99_170 (l0 l1 : AV) (x : Int32) (st : List AV) (M : Mm) : run 99 170 [l0, l1, aI x] st M = run 99 171 [l0, l1, aI x] (aI x :: st) M := e_ildn d99_170 rfl
theorem d99_171 : decode (cod 99) 171 = .ok (.iconst 1, 1) := by decide +kernel
theorem r99_171 (l0 l1 l2 : AV) (st : List AV) (M : Mm) : run 99 171 [l0, l1, l2] st M = run 99 172 [l0, l1, l2] (aI 1 :: st) M := e_iconst 1 d99_171 (by decide +kernel)
theorem d99_172 : decode (cod 99) 172 = .ok (.iadd, 1) := by decide +kernel
theorem r99_172 (l0 l1 l2 : AV) (a b : Int32) (st : List AV) (M : Mm) : run 99 172 [l0, l1, l2] (aI b :: aI a :: st) M = run 99 173 [l0, l1, l2] (aI (a + b) :: st) M := e_iadd d99_172
theorem d99_173 : decode (cod 99) 173 = .ok (.iaload, 1) := by decide +kernel
theorem r99_173 (l0 l1 l2 : AV) (i : Int32) (xg xi : Nat) (st : List AV) (M : Mm) : run 99 173 [l0, l1, l2] (aI i :: aR xg 26 xi :: st) M = if vpB i 192 = true then run 99 174 [l0, l1, l2] (aI (M xg 26 xi i.toNatClampNeg) :: st) M else none := e_ial d99_173 rfl rfl
theorem d99_174 : decode (cod 99) 174 = .ok (.invokevirtual 137, 3) := by decide +kernel
theorem r99_174 (l0 l1 l2 : AV) (a0g a0i : Nat) (a1 : Int32) (a2 : Int32) (M : Mm) : run 99 174 [l0, l1, l2] [aI a2, aI a1, aR a0g 12 a0i] M = cbI (call 98 [aR a0g 12 a0i, aI a1, aI a2] M) (fun v M => run 99 177 [l0, l1, l2] [aI v] M) := call_I (n := 3) rfl false d99_174 rfl rfl rfl rfl rfl rfl rfl
theorem d99_177 : decode (cod 99) 177 = .ok (.ifCond .eq 7, 3) := by decide +kernel
theorem r99_177 (l0 l1 l2 : AV) (a : Int32) (st : List AV) (M : Mm) : run 99 177 [l0, l1, l2] (aI a :: st) M = if a = 0 then run 99 184 [l0, l1, l2] st M else run 99 180 [l0, l1, l2] st M := e_eq1 184 d99_177 (by decide)
theorem d99_180 : decode (cod 99) 180 = .ok (.iconst 1, 1) := by decide +kernel
theorem r99_180 (l0 l1 l2 : AV) (st : List AV) (M : Mm) : run 99 180 [l0, l1, l2] st M = run 99 181 [l0, l1, l2] (aI 1 :: st) M := e_iconst 1 d99_180 (by decide +kernel)
theorem d99_181 : decode (cod 99) 181 = .ok (.goto 4, 3) := by decide +kernel
theorem r99_181 (l0 l1 l2 : AV) (st : List AV) (M : Mm) : run 99 181 [l0, l1, l2] st M = run 99 185 [l0, l1, l2] st M := e_goto 185 d99_181 (by decide)
theorem d99_184 : decode (cod 99) 184 = .ok (.iconst 0, 1) := by decide +kernel
theorem r99_184 (l0 l1 l2 : AV) (st : List AV) (M : Mm) : run 99 184 [l0, l1, l2] st M = run 99 185 [l0, l1, l2] (aI 0 :: st) M := e_iconst 0 d99_184 (by decide +kernel)
theorem d99_185 : decode (cod 99) 185 = .ok (.ireturn, 1) := by decide +kernel
theorem r99_185 (l0 l1 l2 : AV) (v : Int32) (M : Mm) : run 99 185 [l0, l1, l2] [aI v] M = if v = 0 ∨ v = 1 then some (some v, M) else none := e_zret d99_185 rfl
theorem d99_186 : decode (cod 99) 186 = .ok (.aload_n 0, 1) := by decide +kernel
theorem r99_186 (l1 l2 : AV) (xg xi : Nat) (st : List AV) (M : Mm) : run 99 186 [aR xg 12 xi, l1, l2] st M = run 99 187 [aR xg 12 xi, l1, l2] (aR xg 12 xi :: st) M := e_aldn d99_186 rfl
theorem d99_187 : decode (cod 99) 187 = .ok (.iconst 5, 1) := by decide +kernel
theorem r99_187 (l0 l1 l2 : AV) (st : List AV) (M : Mm) : run 99 187 [l0, l1, l2] st M = run 99 188 [l0, l1, l2] (aI 5 :: st) M := e_iconst 5 d99_187 (by decide +kernel)
theorem d99_188 : decode (cod 99) 188 = .ok (.aload_n 0, 1) := by decide +kernel
theorem r99_188 (l1 l2 : AV) (xg xi : Nat) (st : List AV) (M : Mm) : run 99 188 [aR xg 12 xi, l1, l2] st M = run 99 189 [aR xg 12 xi, l1, l2] (aR xg 12 xi :: st) M := e_aldn d99_188 rfl
theorem d99_189 : decode (cod 99) 189 = .ok (.getfield 49, 3) := by decide +kernel
theorem r99_189 (l0 l1 l2 : AV) (xg xi : Nat) (st : List AV) (M : Mm) : run 99 189 [l0, l1, l2] (aR xg 12 xi :: st) M = run 99 192 [l0, l1, l2] (aR 4 26 0 :: st) M := e_gfr (fun g => (4, 26, 0)) d99_189 rfl rfl rfl
theorem d99_192 : decode (cod 99) 192 = .ok (.iload_n 2, 1) := by decide +kernel
theorem r99_192 (l0 l1 : AV) (x : Int32) (st : List AV) (M : Mm) : run 99 192 [l0, l1, aI x] st M = run 99 193 [l0, l1, aI x] (aI x :: st) M := e_ildn d99_192 rfl
theorem d99_193 : decode (cod 99) 193 = .ok (.iaload, 1) := by decide +kernel
theorem r99_193 (l0 l1 l2 : AV) (i : Int32) (xg xi : Nat) (st : List AV) (M : Mm) : run 99 193 [l0, l1, l2] (aI i :: aR xg 26 xi :: st) M = if vpB i 192 = true then run 99 194 [l0, l1, l2] (aI (M xg 26 xi i.toNatClampNeg) :: st) M else none := e_ial d99_193 rfl rfl
theorem d99_194 : decode (cod 99) 194 = .ok (.invokevirtual 137, 3) := by decide +kernel
theorem r99_194 (l0 l1 l2 : AV) (a0g a0i : Nat) (a1 : Int32) (a2 : Int32) (M : Mm) : run 99 194 [l0, l1, l2] [aI a2, aI a1, aR a0g 12 a0i] M = cbI (call 98 [aR a0g 12 a0i, aI a1, aI a2] M) (fun v M => run 99 197 [l0, l1, l2] [aI v] M) := call_I (n := 3) rfl false d99_194 rfl rfl rfl rfl rfl rfl rfl
theorem d99_197 : decode (cod 99) 197 = .ok (.ireturn, 1) := by decide +kernel
theorem r99_197 (l0 l1 l2 : AV) (v : Int32) (M : Mm) : run 99 197 [l0, l1, l2] [aI v] M = if v = 0 ∨ v = 1 then some (some v, M) else none := e_zret d99_197 rfl
theorem d99_198 : decode (cod 99) 198 = .ok (.aload_n 0, 1) := by decide +kernel
theorem r99_198 (l1 l2 : AV) (xg xi : Nat) (st : List AV) (M : Mm) : run 99 198 [aR xg 12 xi, l1, l2] st M = run 99 199 [aR xg 12 xi, l1, l2] (aR xg 12 xi :: st) M := e_aldn d99_198 rfl
theorem d99_199 : decode (cod 99) 199 = .ok (.bipush 6, 2) := by decide +kernel
theorem r99_199 (l0 l1 l2 : AV) (st : List AV) (M : Mm) : run 99 199 [l0, l1, l2] st M = run 99 201 [l0, l1, l2] (aI 6 :: st) M := e_bipush 6 d99_199 (by decide +kernel)
theorem d99_201 : decode (cod 99) 201 = .ok (.aload_n 0, 1) := by decide +kernel
theorem r99_201 (l1 l2 : AV) (xg xi : Nat) (st : List AV) (M : Mm) : run 99 201 [aR xg 12 xi, l1, l2] st M = run 99 202 [aR xg 12 xi, l1, l2] (aR xg 12 xi :: st) M := e_aldn d99_201 rfl
theorem d99_202 : decode (cod 99) 202 = .ok (.getfield 49, 3) := by decide +kernel
theorem r99_202 (l0 l1 l2 : AV) (xg xi : Nat) (st : List AV) (M : Mm) : run 99 202 [l0, l1, l2] (aR xg 12 xi :: st) M = run 99 205 [l0, l1, l2] (aR 4 26 0 :: st) M := e_gfr (fun g => (4, 26, 0)) d99_202 rfl rfl rfl
theorem d99_205 : decode (cod 99) 205 = .ok (.iload_n 2, 1) := by decide +kernel
theorem r99_205 (l0 l1 : AV) (x : Int32) (st : List AV) (M : Mm) : run 99 205 [l0, l1, aI x] st M = run 99 206 [l0, l1, aI x] (aI x :: st) M := e_ildn d99_205 rfl
theorem d99_206 : decode (cod 99) 206 = .ok (.iaload, 1) := by decide +kernel
theorem r99_206 (l0 l1 l2 : AV) (i : Int32) (xg xi : Nat) (st : List AV) (M : Mm) : run 99 206 [l0, l1, l2] (aI i :: aR xg 26 xi :: st) M = if vpB i 192 = true then run 99 207 [l0, l1, l2] (aI (M xg 26 xi i.toNatClampNeg) :: st) M else none := e_ial d99_206 rfl rfl
theorem d99_207 : decode (cod 99) 207 = .ok (.invokevirtual 137, 3) := by decide +kernel
theorem r99_207 (l0 l1 l2 : AV) (a0g a0i : Nat) (a1 : Int32) (a2 : Int32) (M : Mm) : run 99 207 [l0, l1, l2] [aI a2, aI a1, aR a0g 12 a0i] M = cbI (call 98 [aR a0g 12 a0i, aI a1, aI a2] M) (fun v M => run 99 210 [l0, l1, l2] [aI v] M) := call_I (n := 3) rfl false d99_207 rfl rfl rfl rfl rfl rfl rfl
theorem d99_210 : decode (cod 99) 210 = .ok (.ireturn, 1) := by decide +kernel
theorem r99_210 (l0 l1 l2 : AV) (v : Int32) (M : Mm) : run 99 210 [l0, l1, l2] [aI v] M = if v = 0 ∨ v = 1 then some (some v, M) else none := e_zret d99_210 rfl
theorem d99_211 : decode (cod 99) 211 = .ok (.aload_n 0, 1) := by decide +kernel
theorem r99_211 (l1 l2 : AV) (xg xi : Nat) (st : List AV) (M : Mm) : run 99 211 [aR xg 12 xi, l1, l2] st M = run 99 212 [aR xg 12 xi, l1, l2] (aR xg 12 xi :: st) M := e_aldn d99_211 rfl
theorem d99_212 : decode (cod 99) 212 = .ok (.getfield 49, 3) := by decide +kernel
theorem r99_212 (l0 l1 l2 : AV) (xg xi : Nat) (st : List AV) (M : Mm) : run 99 212 [l0, l1, l2] (aR xg 12 xi :: st) M = run 99 215 [l0, l1, l2] (aR 4 26 0 :: st) M := e_gfr (fun g => (4, 26, 0)) d99_212 rfl rfl rfl
theorem d99_215 : decode (cod 99) 215 = .ok (.iload_n 2, 1) := by decide +kernel
theorem r99_215 (l0 l1 : AV) (x : Int32) (st : List AV) (M : Mm) : run 99 215 [l0, l1, aI x] st M = run 99 216 [l0, l1, aI x] (aI x :: st) M := e_ildn d99_215 rfl
theorem d99_216 : decode (cod 99) 216 = .ok (.iaload, 1) := by decide +kernel
theorem r99_216 (l0 l1 l2 : AV) (i : Int32) (xg xi : Nat) (st : List AV) (M : Mm) : run 99 216 [l0, l1, l2] (aI i :: aR xg 26 xi :: st) M = if vpB i 192 = true then run 99 217 [l0, l1, l2] (aI (M xg 26 xi i.toNatClampNeg) :: st) M else none := e_ial d99_216 rfl rfl
theorem d99_217 : decode (cod 99) 217 = .ok (.iconst 1, 1) := by decide +kernel
theorem r99_217 (l0 l1 l2 : AV) (st : List AV) (M : Mm) : run 99 217 [l0, l1, l2] st M = run 99 218 [l0, l1, l2] (aI 1 :: st) M := e_iconst 1 d99_217 (by decide +kernel)
theorem d99_218 : decode (cod 99) 218 = .ok (.bipush 60, 2) := by decide +kernel
theorem r99_218 (l0 l1 l2 : AV) (st : List AV) (M : Mm) : run 99 218 [l0, l1, l2] st M = run 99 220 [l0, l1, l2] (aI 60 :: st) M := e_bipush 60 d99_218 (by decide +kernel)
theorem d99_220 : decode (cod 99) 220 = .ok (.invokestatic 100, 3) := by decide +kernel
theorem r99_220 (l0 l1 l2 : AV) (a0 : Int32) (a1 : Int32) (a2 : Int32) (M : Mm) : run 99 220 [l0, l1, l2] [aI a2, aI a1, aI a0] M = cbI (call 83 [aI a0, aI a1, aI a2] M) (fun v M => run 99 223 [l0, l1, l2] [aI v] M) := call_I (n := 3) rfl true d99_220 rfl rfl rfl rfl rfl rfl rfl
theorem d99_223 : decode (cod 99) 223 = .ok (.ifCond .eq 20, 3) := by decide +kernel
theorem r99_223 (l0 l1 l2 : AV) (a : Int32) (st : List AV) (M : Mm) : run 99 223 [l0, l1, l2] (aI a :: st) M = if a = 0 then run 99 243 [l0, l1, l2] st M else run 99 226 [l0, l1, l2] st M := e_eq1 243 d99_223 (by decide)
theorem d99_226 : decode (cod 99) 226 = .ok (.aload_n 0, 1) := by decide +kernel
theorem r99_226 (l1 l2 : AV) (xg xi : Nat) (st : List AV) (M : Mm) : run 99 226 [aR xg 12 xi, l1, l2] st M = run 99 227 [aR xg 12 xi, l1, l2] (aR xg 12 xi :: st) M := e_aldn d99_226 rfl
theorem d99_227 : decode (cod 99) 227 = .ok (.getfield 140, 3) := by decide +kernel
theorem r99_227 (l0 l1 l2 : AV) (xg xi : Nat) (st : List AV) (M : Mm) : run 99 227 [l0, l1, l2] (aR xg 12 xi :: st) M = run 99 230 [l0, l1, l2] (aI (M xg 12 xi 11) :: st) M := e_gfi d99_227 rfl rfl rfl
theorem d99_230 : decode (cod 99) 230 = .ok (.aload_n 0, 1) := by decide +kernel
theorem r99_230 (l1 l2 : AV) (xg xi : Nat) (st : List AV) (M : Mm) : run 99 230 [aR xg 12 xi, l1, l2] st M = run 99 231 [aR xg 12 xi, l1, l2] (aR xg 12 xi :: st) M := e_aldn d99_230 rfl
theorem d99_231 : decode (cod 99) 231 = .ok (.getfield 49, 3) := by decide +kernel
theorem r99_231 (l0 l1 l2 : AV) (xg xi : Nat) (st : List AV) (M : Mm) : run 99 231 [l0, l1, l2] (aR xg 12 xi :: st) M = run 99 234 [l0, l1, l2] (aR 4 26 0 :: st) M := e_gfr (fun g => (4, 26, 0)) d99_231 rfl rfl rfl
theorem d99_234 : decode (cod 99) 234 = .ok (.iload_n 2, 1) := by decide +kernel
theorem r99_234 (l0 l1 : AV) (x : Int32) (st : List AV) (M : Mm) : run 99 234 [l0, l1, aI x] st M = run 99 235 [l0, l1, aI x] (aI x :: st) M := e_ildn d99_234 rfl
theorem d99_235 : decode (cod 99) 235 = .ok (.iaload, 1) := by decide +kernel
theorem r99_235 (l0 l1 l2 : AV) (i : Int32) (xg xi : Nat) (st : List AV) (M : Mm) : run 99 235 [l0, l1, l2] (aI i :: aR xg 26 xi :: st) M = if vpB i 192 = true then run 99 236 [l0, l1, l2] (aI (M xg 26 xi i.toNatClampNeg) :: st) M else none := e_ial d99_235 rfl rfl
theorem d99_236 : decode (cod 99) 236 = .ok (.iadd, 1) := by decide +kernel
theorem r99_236 (l0 l1 l2 : AV) (a b : Int32) (st : List AV) (M : Mm) : run 99 236 [l0, l1, l2] (aI b :: aI a :: st) M = run 99 237 [l0, l1, l2] (aI (a + b) :: st) M := e_iadd d99_236
theorem d99_237 : decode (cod 99) 237 = .ok (.sipush 9999, 3) := by decide +kernel
theorem r99_237 (l0 l1 l2 : AV) (st : List AV) (M : Mm) : run 99 237 [l0, l1, l2] st M = run 99 240 [l0, l1, l2] (aI 9999 :: st) M := e_sipush 9999 d99_237 (by decide +kernel)
theorem d99_240 : decode (cod 99) 240 = .ok (.if_icmp .le 5, 3) := by decide +kernel
theorem r99_240 (l0 l1 l2 : AV) (a b : Int32) (st : List AV) (M : Mm) : run 99 240 [l0, l1, l2] (aI b :: aI a :: st) M = if b < a then run 99 243 [l0, l1, l2] st M else run 99 245 [l0, l1, l2] st M := e_le2 245 d99_240 (by decide)
theorem d99_243 : decode (cod 99) 243 = .ok (.iconst 0, 1) := by decide +kernel
theorem r99_243 (l0 l1 l2 : AV) (st : List AV) (M : Mm) : run 99 243 [l0, l1, l2] st M = run 99 244 [l0, l1, l2] (aI 0 :: st) M := e_iconst 0 d99_243 (by decide +kernel)
theorem d99_244 : decode (cod 99) 244 = .ok (.ireturn, 1) := by decide +kernel
theorem r99_244 (l0 l1 l2 : AV) (v : Int32) (M : Mm) : run 99 244 [l0, l1, l2] [aI v] M = if v = 0 ∨ v = 1 then some (some v, M) else none := e_zret d99_244 rfl
theorem d99_245 : decode (cod 99) 245 = .ok (.aload_n 0, 1) := by decide +kernel
theorem r99_245 (l1 l2 : AV) (xg xi : Nat) (st : List AV) (M : Mm) : run 99 245 [aR xg 12 xi, l1, l2] st M = run 99 246 [aR xg 12 xi, l1, l2] (aR xg 12 xi :: st) M := e_aldn d99_245 rfl
theorem d99_246 : decode (cod 99) 246 = .ok (.aload_n 0, 1) := by decide +kernel
theorem r99_246 (l1 l2 : AV) (xg xi : Nat) (st : List AV) (M : Mm) : run 99 246 [aR xg 12 xi, l1, l2] st M = run 99 247 [aR xg 12 xi, l1, l2] (aR xg 12 xi :: st) M := e_aldn d99_246 rfl
theorem d99_247 : decode (cod 99) 247 = .ok (.getfield 49, 3) := by decide +kernel
theorem r99_247 (l0 l1 l2 : AV) (xg xi : Nat) (st : List AV) (M : Mm) : run 99 247 [l0, l1, l2] (aR xg 12 xi :: st) M = run 99 250 [l0, l1, l2] (aR 4 26 0 :: st) M := e_gfr (fun g => (4, 26, 0)) d99_247 rfl rfl rfl
theorem d99_250 : decode (cod 99) 250 = .ok (.iload_n 2, 1) := by decide +kernel
theorem r99_250 (l0 l1 : AV) (x : Int32) (st : List AV) (M : Mm) : run 99 250 [l0, l1, aI x] st M = run 99 251 [l0, l1, aI x] (aI x :: st) M := e_ildn d99_250 rfl
theorem d99_251 : decode (cod 99) 251 = .ok (.iaload, 1) := by decide +kernel
theorem r99_251 (l0 l1 l2 : AV) (i : Int32) (xg xi : Nat) (st : List AV) (M : Mm) : run 99 251 [l0, l1, l2] (aI i :: aR xg 26 xi :: st) M = if vpB i 192 = true then run 99 252 [l0, l1, l2] (aI (M xg 26 xi i.toNatClampNeg) :: st) M else none := e_ial d99_251 rfl rfl
theorem d99_252 : decode (cod 99) 252 = .ok (.invokevirtual 143, 3) := by decide +kernel
theorem r99_252 (l0 l1 l2 : AV) (a0g a0i : Nat) (a1 : Int32) (M : Mm) : run 99 252 [l0, l1, l2] [aI a1, aR a0g 12 a0i] M = cbV (call 128 [aR a0g 12 a0i, aI a1] M) (fun M => run 99 255 [l0, l1, l2] [] M) := call_V (n := 2) rfl false d99_252 rfl rfl rfl rfl rfl rfl rfl
theorem d99_255 : decode (cod 99) 255 = .ok (.iconst 1, 1) := by decide +kernel
theorem r99_255 (l0 l1 l2 : AV) (st : List AV) (M : Mm) : run 99 255 [l0, l1, l2] st M = run 99 256 [l0, l1, l2] (aI 1 :: st) M := e_iconst 1 d99_255 (by decide +kernel)
theorem d99_256 : decode (cod 99) 256 = .ok (.ireturn, 1) := by decide +kernel
theorem r99_256 (l0 l1 l2 : AV) (v : Int32) (M : Mm) : run 99 256 [l0, l1, l2] [aI v] M = if v = 0 ∨ v = 1 then some (some v, M) else none := e_zret d99_256 rfl
theorem c100 (g0 i0 : Nat) (M : Mm) : call 100 [aR g0 12 i0] M = run 100 0 [aR g0 12 i0, none, none] [] M := call_run 100 _ _
theorem d100_0 : decode (cod 100) 0 = .ok (.aload_n 0, 1) := by decide +kernel
theorem r100_0 (l1 l2 : AV) (xg xi : Nat) (st : List AV) (M : Mm) : run 100 0 [aR xg 12 xi, l1, l2] st M = run 100 1 [aR xg 12 xi, l1, l2] (aR xg 12 xi :: st) M := e_aldn d100_0 rfl
theorem d100_1 : decode (cod 100) 1 = .ok (.iconst 0, 1) := by decide +kernel
theorem r100_1 (l0 l1 l2 : AV) (st : List AV) (M : Mm) : run 100 1 [l0, l1, l2] st M = run 100 2 [l0, l1, l2] (aI 0 :: st) M := e_iconst 0 d100_1 (by decide +kernel)
theorem d100_2 : decode (cod 100) 2 = .ok (.putfield 93, 3) := by decide +kernel
theorem r100_2 (l0 l1 l2 : AV) (v : Int32) (xg xi : Nat) (st : List AV) (M : Mm) : run 100 2 [l0, l1, l2] (aI v :: aR xg 12 xi :: st) M = run 100 5 [l0, l1, l2] st (wr M xg 12 xi 19 v) := e_pfi d100_2 rfl rfl rfl rfl
theorem d100_5 : decode (cod 100) 5 = .ok (.aload_n 0, 1) := by decide +kernel
theorem r100_5 (l1 l2 : AV) (xg xi : Nat) (st : List AV) (M : Mm) : run 100 5 [aR xg 12 xi, l1, l2] st M = run 100 6 [aR xg 12 xi, l1, l2] (aR xg 12 xi :: st) M := e_aldn d100_5 rfl
theorem d100_6 : decode (cod 100) 6 = .ok (.iconst 0, 1) := by decide +kernel
theorem r100_6 (l0 l1 l2 : AV) (st : List AV) (M : Mm) : run 100 6 [l0, l1, l2] st M = run 100 7 [l0, l1, l2] (aI 0 :: st) M := e_iconst 0 d100_6 (by decide +kernel)
theorem d100_7 : decode (cod 100) 7 = .ok (.putfield 117, 3) := by decide +kernel
theorem r100_7 (l0 l1 l2 : AV) (v : Int32) (xg xi : Nat) (st : List AV) (M : Mm) : run 100 7 [l0, l1, l2] (aI v :: aR xg 12 xi :: st) M = run 100 10 [l0, l1, l2] st (wr M xg 12 xi 20 v) := e_pfi d100_7 rfl rfl rfl rfl
theorem d100_10 : decode (cod 100) 10 = .ok (.iconst 1, 1) := by decide +kernel
theorem r100_10 (l0 l1 l2 : AV) (st : List AV) (M : Mm) : run 100 10 [l0, l1, l2] st M = run 100 11 [l0, l1, l2] (aI 1 :: st) M := e_iconst 1 d100_10 (by decide +kernel)
theorem d100_11 : decode (cod 100) 11 = .ok (.istore_n 1, 1) := by decide +kernel
theorem r100_11 (l0 l1 l2 : AV) (x : Int32) (st : List AV) (M : Mm) : run 100 11 [l0, l1, l2] (aI x :: st) M = run 100 12 [l0, aI x, l2] st M := e_istn [l0, aI x, l2] d100_11 rfl rfl
theorem d100_12 : decode (cod 100) 12 = .ok (.iload_n 1, 1) := by decide +kernel
theorem r100_12 (l0 l2 : AV) (x : Int32) (st : List AV) (M : Mm) : run 100 12 [l0, aI x, l2] st M = run 100 13 [l0, aI x, l2] (aI x :: st) M := e_ildn d100_12 rfl
theorem d100_13 : decode (cod 100) 13 = .ok (.ifCond .eq 47, 3) := by decide +kernel
theorem r100_13 (l0 l1 l2 : AV) (a : Int32) (st : List AV) (M : Mm) : run 100 13 [l0, l1, l2] (aI a :: st) M = if a = 0 then run 100 60 [l0, l1, l2] st M else run 100 16 [l0, l1, l2] st M := e_eq1 60 d100_13 (by decide)
theorem d100_16 : decode (cod 100) 16 = .ok (.aload_n 0, 1) := by decide +kernel
theorem r100_16 (l1 l2 : AV) (xg xi : Nat) (st : List AV) (M : Mm) : run 100 16 [aR xg 12 xi, l1, l2] st M = run 100 17 [aR xg 12 xi, l1, l2] (aR xg 12 xi :: st) M := e_aldn d100_16 rfl
theorem d100_17 : decode (cod 100) 17 = .ok (.getfield 93, 3) := by decide +kernel
theorem r100_17 (l0 l1 l2 : AV) (xg xi : Nat) (st : List AV) (M : Mm) : run 100 17 [l0, l1, l2] (aR xg 12 xi :: st) M = run 100 20 [l0, l1, l2] (aI (M xg 12 xi 19) :: st) M := e_gfi d100_17 rfl rfl rfl
theorem d100_20 : decode (cod 100) 20 = .ok (.aload_n 0, 1) := by decide +kernel
theorem r100_20 (l1 l2 : AV) (xg xi : Nat) (st : List AV) (M : Mm) : run 100 20 [aR xg 12 xi, l1, l2] st M = run 100 21 [aR xg 12 xi, l1, l2] (aR xg 12 xi :: st) M := e_aldn d100_20 rfl
theorem d100_21 : decode (cod 100) 21 = .ok (.getfield 86, 3) := by decide +kernel
theorem r100_21 (l0 l1 l2 : AV) (xg xi : Nat) (st : List AV) (M : Mm) : run 100 21 [l0, l1, l2] (aR xg 12 xi :: st) M = run 100 24 [l0, l1, l2] (aI (M xg 12 xi 18) :: st) M := e_gfi d100_21 rfl rfl rfl
theorem d100_24 : decode (cod 100) 24 = .ok (.if_icmp .lt 10, 3) := by decide +kernel
theorem r100_24 (l0 l1 l2 : AV) (a b : Int32) (st : List AV) (M : Mm) : run 100 24 [l0, l1, l2] (aI b :: aI a :: st) M = if a < b then run 100 34 [l0, l1, l2] st M else run 100 27 [l0, l1, l2] st M := e_lt2 34 d100_24 (by decide)
theorem d100_27 : decode (cod 100) 27 = .ok (.aload_n 0, 1) := by decide +kernel
theorem r100_27 (l1 l2 : AV) (xg xi : Nat) (st : List AV) (M : Mm) : run 100 27 [aR xg 12 xi, l1, l2] st M = run 100 28 [aR xg 12 xi, l1, l2] (aR xg 12 xi :: st) M := e_aldn d100_27 rfl
theorem d100_28 : decode (cod 100) 28 = .ok (.getfield 117, 3) := by decide +kernel
theorem r100_28 (l0 l1 l2 : AV) (xg xi : Nat) (st : List AV) (M : Mm) : run 100 28 [l0, l1, l2] (aR xg 12 xi :: st) M = run 100 31 [l0, l1, l2] (aI (M xg 12 xi 20) :: st) M := e_gfi d100_28 rfl rfl rfl
theorem d100_31 : decode (cod 100) 31 = .ok (.ifCond .ne 29, 3) := by decide +kernel
theorem r100_31 (l0 l1 l2 : AV) (a : Int32) (st : List AV) (M : Mm) : run 100 31 [l0, l1, l2] (aI a :: st) M = if a = 0 then run 100 34 [l0, l1, l2] st M else run 100 60 [l0, l1, l2] st M := e_ne1 60 d100_31 (by decide)
theorem d100_34 : decode (cod 100) 34 = .ok (.aload_n 0, 1) := by decide +kernel
theorem r100_34 (l1 l2 : AV) (xg xi : Nat) (st : List AV) (M : Mm) : run 100 34 [aR xg 12 xi, l1, l2] st M = run 100 35 [aR xg 12 xi, l1, l2] (aR xg 12 xi :: st) M := e_aldn d100_34 rfl
theorem d100_35 : decode (cod 100) 35 = .ok (.invokevirtual 147, 3) := by decide +kernel
theorem r100_35 (l0 l1 l2 : AV) (a0g a0i : Nat) (M : Mm) : run 100 35 [l0, l1, l2] [aR a0g 12 a0i] M = cbI (call 95 [aR a0g 12 a0i] M) (fun v M => run 100 38 [l0, l1, l2] [aI v] M) := call_I (n := 1) rfl false d100_35 rfl rfl rfl rfl rfl rfl rfl
theorem d100_38 : decode (cod 100) 38 = .ok (.istore_n 1, 1) := by decide +kernel
theorem r100_38 (l0 l1 l2 : AV) (x : Int32) (st : List AV) (M : Mm) : run 100 38 [l0, l1, l2] (aI x :: st) M = run 100 39 [l0, aI x, l2] st M := e_istn [l0, aI x, l2] d100_38 rfl rfl
theorem d100_39 : decode (cod 100) 39 = .ok (.aload_n 0, 1) := by decide +kernel
theorem r100_39 (l1 l2 : AV) (xg xi : Nat) (st : List AV) (M : Mm) : run 100 39 [aR xg 12 xi, l1, l2] st M = run 100 40 [aR xg 12 xi, l1, l2] (aR xg 12 xi :: st) M := e_aldn d100_39 rfl
theorem d100_40 : decode (cod 100) 40 = .ok (.dup, 1) := by decide +kernel
theorem r100_40 (l0 l1 l2 : AV) (xg xi : Nat) (st : List AV) (M : Mm) : run 100 40 [l0, l1, l2] (aR xg 12 xi :: st) M = run 100 41 [l0, l1, l2] (aR xg 12 xi :: aR xg 12 xi :: st) M := e_dup d100_40
theorem d100_41 : decode (cod 100) 41 = .ok (.getfield 117, 3) := by decide +kernel
theorem r100_41 (l0 l1 l2 : AV) (xg xi : Nat) (st : List AV) (M : Mm) : run 100 41 [l0, l1, l2] (aR xg 12 xi :: st) M = run 100 44 [l0, l1, l2] (aI (M xg 12 xi 20) :: st) M := e_gfi d100_41 rfl rfl rfl
theorem d100_44 : decode (cod 100) 44 = .ok (.iload_n 1, 1) := by decide +kernel
theorem r100_44 (l0 l2 : AV) (x : Int32) (st : List AV) (M : Mm) : run 100 44 [l0, aI x, l2] st M = run 100 45 [l0, aI x, l2] (aI x :: st) M := e_ildn d100_44 rfl
theorem d100_45 : decode (cod 100) 45 = .ok (.ifCond .eq 7, 3) := by decide +kernel
theorem r100_45 (l0 l1 l2 : AV) (a : Int32) (st : List AV) (M : Mm) : run 100 45 [l0, l1, l2] (aI a :: st) M = if a = 0 then run 100 52 [l0, l1, l2] st M else run 100 48 [l0, l1, l2] st M := e_eq1 52 d100_45 (by decide)
theorem d100_48 : decode (cod 100) 48 = .ok (.iconst 1, 1) := by decide +kernel
theorem r100_48 (l0 l1 l2 : AV) (st : List AV) (M : Mm) : run 100 48 [l0, l1, l2] st M = run 100 49 [l0, l1, l2] (aI 1 :: st) M := e_iconst 1 d100_48 (by decide +kernel)
theorem d100_49 : decode (cod 100) 49 = .ok (.goto 4, 3) := by decide +kernel
theorem r100_49 (l0 l1 l2 : AV) (st : List AV) (M : Mm) : run 100 49 [l0, l1, l2] st M = run 100 53 [l0, l1, l2] st M := e_goto 53 d100_49 (by decide)
theorem d100_52 : decode (cod 100) 52 = .ok (.iconst 0, 1) := by decide +kernel
theorem r100_52 (l0 l1 l2 : AV) (st : List AV) (M : Mm) : run 100 52 [l0, l1, l2] st M = run 100 53 [l0, l1, l2] (aI 0 :: st) M := e_iconst 0 d100_52 (by decide +kernel)
theorem d100_53 : decode (cod 100) 53 = .ok (.iadd, 1) := by decide +kernel
theorem r100_53 (l0 l1 l2 : AV) (a b : Int32) (st : List AV) (M : Mm) : run 100 53 [l0, l1, l2] (aI b :: aI a :: st) M = run 100 54 [l0, l1, l2] (aI (a + b) :: st) M := e_iadd d100_53
theorem d100_54 : decode (cod 100) 54 = .ok (.putfield 117, 3) := by decide +kernel
theorem r100_54 (l0 l1 l2 : AV) (v : Int32) (xg xi : Nat) (st : List AV) (M : Mm) : run 100 54 [l0, l1, l2] (aI v :: aR xg 12 xi :: st) M = run 100 57 [l0, l1, l2] st (wr M xg 12 xi 20 v) := e_pfi d100_54 rfl rfl rfl rfl
theorem d100_57 : decode (cod 100) 57 = .ok (.goto (-45), 3) := by decide +kernel
theorem r100_57 (l0 l1 l2 : AV) (st : List AV) (M : Mm) : run 100 57 [l0, l1, l2] st M = run 100 12 [l0, l1, l2] st M := e_goto 12 d100_57 (by decide)
theorem d100_60 : decode (cod 100) 60 = .ok (.aload_n 0, 1) := by decide +kernel
theorem r100_60 (l1 l2 : AV) (xg xi : Nat) (st : List AV) (M : Mm) : run 100 60 [aR xg 12 xi, l1, l2] st M = run 100 61 [aR xg 12 xi, l1, l2] (aR xg 12 xi :: st) M := e_aldn d100_60 rfl
theorem d100_61 : decode (cod 100) 61 = .ok (.iconst 0, 1) := by decide +kernel
theorem r100_61 (l0 l1 l2 : AV) (st : List AV) (M : Mm) : run 100 61 [l0, l1, l2] st M = run 100 62 [l0, l1, l2] (aI 0 :: st) M := e_iconst 0 d100_61 (by decide +kernel)
theorem d100_62 : decode (cod 100) 62 = .ok (.putfield 86, 3) := by decide +kernel
theorem r100_62 (l0 l1 l2 : AV) (v : Int32) (xg xi : Nat) (st : List AV) (M : Mm) : run 100 62 [l0, l1, l2] (aI v :: aR xg 12 xi :: st) M = run 100 65 [l0, l1, l2] st (wr M xg 12 xi 18 v) := e_pfi d100_62 rfl rfl rfl rfl
theorem d100_65 : decode (cod 100) 65 = .ok (.iload_n 1, 1) := by decide +kernel
theorem r100_65 (l0 l2 : AV) (x : Int32) (st : List AV) (M : Mm) : run 100 65 [l0, aI x, l2] st M = run 100 66 [l0, aI x, l2] (aI x :: st) M := e_ildn d100_65 rfl
theorem d100_66 : decode (cod 100) 66 = .ok (.ifCond .ne 12, 3) := by decide +kernel
theorem r100_66 (l0 l1 l2 : AV) (a : Int32) (st : List AV) (M : Mm) : run 100 66 [l0, l1, l2] (aI a :: st) M = if a = 0 then run 100 69 [l0, l1, l2] st M else run 100 78 [l0, l1, l2] st M := e_ne1 78 d100_66 (by decide)
theorem d100_69 : decode (cod 100) 69 = .ok (.sipush (-1000), 3) := by decide +kernel
theorem r100_69 (l0 l1 l2 : AV) (st : List AV) (M : Mm) : run 100 69 [l0, l1, l2] st M = run 100 72 [l0, l1, l2] (aI (-1000) :: st) M := e_sipush (-1000) d100_69 (by decide +kernel)
theorem d100_72 : decode (cod 100) 72 = .ok (.aload_n 0, 1) := by decide +kernel
theorem r100_72 (l1 l2 : AV) (xg xi : Nat) (st : List AV) (M : Mm) : run 100 72 [aR xg 12 xi, l1, l2] st M = run 100 73 [aR xg 12 xi, l1, l2] (aR xg 12 xi :: st) M := e_aldn d100_72 rfl
theorem d100_73 : decode (cod 100) 73 = .ok (.getfield 93, 3) := by decide +kernel
theorem r100_73 (l0 l1 l2 : AV) (xg xi : Nat) (st : List AV) (M : Mm) : run 100 73 [l0, l1, l2] (aR xg 12 xi :: st) M = run 100 76 [l0, l1, l2] (aI (M xg 12 xi 19) :: st) M := e_gfi d100_73 rfl rfl rfl
theorem d100_76 : decode (cod 100) 76 = .ok (.isub, 1) := by decide +kernel
theorem r100_76 (l0 l1 l2 : AV) (a b : Int32) (st : List AV) (M : Mm) : run 100 76 [l0, l1, l2] (aI b :: aI a :: st) M = run 100 77 [l0, l1, l2] (aI (a - b) :: st) M := e_isub d100_76
theorem d100_77 : decode (cod 100) 77 = .ok (.ireturn, 1) := by decide +kernel
theorem r100_77 (l0 l1 l2 : AV) (v : Int32) (M : Mm) : run 100 77 [l0, l1, l2] [aI v] M = some (some v, M) := e_iret d100_77 rfl
theorem d100_78 : decode (cod 100) 78 = .ok (.aload_n 0, 1) := by decide +kernel
theorem r100_78 (l1 l2 : AV) (xg xi : Nat) (st : List AV) (M : Mm) : run 100 78 [aR xg 12 xi, l1, l2] st M = run 100 79 [aR xg 12 xi, l1, l2] (aR xg 12 xi :: st) M := e_aldn d100_78 rfl
theorem d100_79 : decode (cod 100) 79 = .ok (.iconst 1, 1) := by decide +kernel
theorem r100_79 (l0 l1 l2 : AV) (st : List AV) (M : Mm) : run 100 79 [l0, l1, l2] st M = run 100 80 [l0, l1, l2] (aI 1 :: st) M := e_iconst 1 d100_79 (by decide +kernel)
theorem d100_80 : decode (cod 100) 80 = .ok (.iconst 1, 1) := by decide +kernel
theorem r100_80 (l0 l1 l2 : AV) (st : List AV) (M : Mm) : run 100 80 [l0, l1, l2] st M = run 100 81 [l0, l1, l2] (aI 1 :: st) M := e_iconst 1 d100_80 (by decide +kernel)
theorem d100_81 : decode (cod 100) 81 = .ok (.invokevirtual 150, 3) := by decide +kernel
theorem r100_81 (l0 l1 l2 : AV) (a0g a0i : Nat) (a1 : Int32) (a2 : Int32) (M : Mm) : run 100 81 [l0, l1, l2] [aI a2, aI a1, aR a0g 12 a0i] M = cbV (call 103 [aR a0g 12 a0i, aI a1, aI a2] M) (fun M => run 100 84 [l0, l1, l2] [] M) := call_V (n := 3) rfl false d100_81 rfl rfl rfl rfl rfl rfl rfl
theorem d100_84 : decode (cod 100) 84 = .ok (.iconst 0, 1) := by decide +kernel
theorem r100_84 (l0 l1 l2 : AV) (st : List AV) (M : Mm) : run 100 84 [l0, l1, l2] st M = run 100 85 [l0, l1, l2] (aI 0 :: st) M := e_iconst 0 d100_84 (by decide +kernel)
theorem d100_85 : decode (cod 100) 85 = .ok (.istore_n 2, 1) := by decide +kernel
theorem r100_85 (l0 l1 l2 : AV) (x : Int32) (st : List AV) (M : Mm) : run 100 85 [l0, l1, l2] (aI x :: st) M = run 100 86 [l0, l1, aI x] st M := e_istn [l0, l1, aI x] d100_85 rfl rfl
theorem d100_86 : decode (cod 100) 86 = .ok (.iload_n 2, 1) := by decide +kernel
theorem r100_86 (l0 l1 : AV) (x : Int32) (st : List AV) (M : Mm) : run 100 86 [l0, l1, aI x] st M = run 100 87 [l0, l1, aI x] (aI x :: st) M := e_ildn d100_86 rfl
theorem d100_87 : decode (cod 100) 87 = .ok (.aload_n 0, 1) := by decide +kernel
theorem r100_87 (l1 l2 : AV) (xg xi : Nat) (st : List AV) (M : Mm) : run 100 87 [aR xg 12 xi, l1, l2] st M = run 100 88 [aR xg 12 xi, l1, l2] (aR xg 12 xi :: st) M := e_aldn d100_87 rfl
theorem d100_88 : decode (cod 100) 88 = .ok (.getfield 117, 3) := by decide +kernel
theorem r100_88 (l0 l1 l2 : AV) (xg xi : Nat) (st : List AV) (M : Mm) : run 100 88 [l0, l1, l2] (aR xg 12 xi :: st) M = run 100 91 [l0, l1, l2] (aI (M xg 12 xi 20) :: st) M := e_gfi d100_88 rfl rfl rfl
theorem d100_91 : decode (cod 100) 91 = .ok (.if_icmp .ge 37, 3) := by decide +kernel
theorem r100_91 (l0 l1 l2 : AV) (a b : Int32) (st : List AV) (M : Mm) : run 100 91 [l0, l1, l2] (aI b :: aI a :: st) M = if a < b then run 100 94 [l0, l1, l2] st M else run 100 128 [l0, l1, l2] st M := e_ge2 128 d100_91 (by decide)
theorem d100_94 : decode (cod 100) 94 = .ok (.aload_n 0, 1) := by decide +kernel
theorem r100_94 (l1 l2 : AV) (xg xi : Nat) (st : List AV) (M : Mm) : run 100 94 [aR xg 12 xi, l1, l2] st M = run 100 95 [aR xg 12 xi, l1, l2] (aR xg 12 xi :: st) M := e_aldn d100_94 rfl
theorem d100_95 : decode (cod 100) 95 = .ok (.iload_n 2, 1) := by decide +kernel
theorem r100_95 (l0 l1 : AV) (x : Int32) (st : List AV) (M : Mm) : run 100 95 [l0, l1, aI x] st M = run 100 96 [l0, l1, aI x] (aI x :: st) M := e_ildn d100_95 rfl
theorem d100_96 : decode (cod 100) 96 = .ok (.invokevirtual 154, 3) := by decide +kernel
theorem r100_96 (l0 l1 l2 : AV) (a0g a0i : Nat) (a1 : Int32) (M : Mm) : run 100 96 [l0, l1, l2] [aI a1, aR a0g 12 a0i] M = cbI (call 99 [aR a0g 12 a0i, aI a1] M) (fun v M => run 100 99 [l0, l1, l2] [aI v] M) := call_I (n := 2) rfl false d100_96 rfl rfl rfl rfl rfl rfl rfl
theorem d100_99 : decode (cod 100) 99 = .ok (.ifCond .eq 6, 3) := by decide +kernel
theorem r100_99 (l0 l1 l2 : AV) (a : Int32) (st : List AV) (M : Mm) : run 100 99 [l0, l1, l2] (aI a :: st) M = if a = 0 then run 100 105 [l0, l1, l2] st M else run 100 102 [l0, l1, l2] st M := e_eq1 105 d100_99 (by decide)
theorem d100_102 : decode (cod 100) 102 = .ok (.goto 20, 3) := by decide +kernel
theorem r100_102 (l0 l1 l2 : AV) (st : List AV) (M : Mm) : run 100 102 [l0, l1, l2] st M = run 100 122 [l0, l1, l2] st M := e_goto 122 d100_102 (by decide)
theorem d100_105 : decode (cod 100) 105 = .ok (.aload_n 0, 1) := by decide +kernel
theorem r100_105 (l1 l2 : AV) (xg xi : Nat) (st : List AV) (M : Mm) : run 100 105 [aR xg 12 xi, l1, l2] st M = run 100 106 [aR xg 12 xi, l1, l2] (aR xg 12 xi :: st) M := e_aldn d100_105 rfl
theorem d100_106 : decode (cod 100) 106 = .ok (.iconst 1, 1) := by decide +kernel
theorem r100_106 (l0 l1 l2 : AV) (st : List AV) (M : Mm) : run 100 106 [l0, l1, l2] st M = run 100 107 [l0, l1, l2] (aI 1 :: st) M := e_iconst 1 d100_106 (by decide +kernel)
theorem d100_107 : decode (cod 100) 107 = .ok (.iconst 0, 1) := by decide +kernel
theorem r100_107 (l0 l1 l2 : AV) (st : List AV) (M : Mm) : run 100 107 [l0, l1, l2] st M = run 100 108 [l0, l1, l2] (aI 0 :: st) M := e_iconst 0 d100_107 (by decide +kernel)
theorem d100_108 : decode (cod 100) 108 = .ok (.invokevirtual 150, 3) := by decide +kernel
theorem r100_108 (l0 l1 l2 : AV) (a0g a0i : Nat) (a1 : Int32) (a2 : Int32) (M : Mm) : run 100 108 [l0, l1, l2] [aI a2, aI a1, aR a0g 12 a0i] M = cbV (call 103 [aR a0g 12 a0i, aI a1, aI a2] M) (fun M => run 100 111 [l0, l1, l2] [] M) := call_V (n := 3) rfl false d100_108 rfl rfl rfl rfl rfl rfl rfl
theorem d100_111 : decode (cod 100) 111 = .ok (.sipush (-2000), 3) := by decide +kernel
theorem r100_111 (l0 l1 l2 : AV) (st : List AV) (M : Mm) : run 100 111 [l0, l1, l2] st M = run 100 114 [l0, l1, l2] (aI (-2000) :: st) M := e_sipush (-2000) d100_111 (by decide +kernel)
theorem d100_114 : decode (cod 100) 114 = .ok (.aload_n 0, 1) := by decide +kernel
theorem r100_114 (l1 l2 : AV) (xg xi : Nat) (st : List AV) (M : Mm) : run 100 114 [aR xg 12 xi, l1, l2] st M = run 100 115 [aR xg 12 xi, l1, l2] (aR xg 12 xi :: st) M := e_aldn d100_114 rfl
theorem d100_115 : decode (cod 100) 115 = .ok (.getfield 46, 3) := by decide +kernel
theorem r100_115 (l0 l1 l2 : AV) (xg xi : Nat) (st : List AV) (M : Mm) : run 100 115 [l0, l1, l2] (aR xg 12 xi :: st) M = run 100 118 [l0, l1, l2] (aR 4 25 0 :: st) M := e_gfr (fun g => (4, 25, 0)) d100_115 rfl rfl rfl
theorem d100_118 : decode (cod 100) 118 = .ok (.iload_n 2, 1) := by decide +kernel
theorem r100_118 (l0 l1 : AV) (x : Int32) (st : List AV) (M : Mm) : run 100 118 [l0, l1, aI x] st M = run 100 119 [l0, l1, aI x] (aI x :: st) M := e_ildn d100_118 rfl
theorem d100_119 : decode (cod 100) 119 = .ok (.iaload, 1) := by decide +kernel
theorem r100_119 (l0 l1 l2 : AV) (i : Int32) (xg xi : Nat) (st : List AV) (M : Mm) : run 100 119 [l0, l1, l2] (aI i :: aR xg 25 xi :: st) M = if vpB i 48 = true then run 100 120 [l0, l1, l2] (aI (M xg 25 xi i.toNatClampNeg) :: st) M else none := e_ial d100_119 rfl rfl
theorem d100_120 : decode (cod 100) 120 = .ok (.isub, 1) := by decide +kernel
theorem r100_120 (l0 l1 l2 : AV) (a b : Int32) (st : List AV) (M : Mm) : run 100 120 [l0, l1, l2] (aI b :: aI a :: st) M = run 100 121 [l0, l1, l2] (aI (a - b) :: st) M := e_isub d100_120
theorem d100_121 : decode (cod 100) 121 = .ok (.ireturn, 1) := by decide +kernel
theorem r100_121 (l0 l1 l2 : AV) (v : Int32) (M : Mm) : run 100 121 [l0, l1, l2] [aI v] M = some (some v, M) := e_iret d100_121 rfl
theorem d100_122 : decode (cod 100) 122 = .ok (.iinc 2 1, 3) := by decide +kernel
theorem r100_122 (l0 l1 : AV) (x : Int32) (st : List AV) (M : Mm) : run 100 122 [l0, l1, aI x] st M = run 100 125 [l0, l1, aI (x + 1)] st M := e_iinc 1 [l0, l1, aI (x + 1)] d100_122 (by decide +kernel) rfl rfl
theorem d100_125 : decode (cod 100) 125 = .ok (.goto (-39), 3) := by decide +kernel
theorem r100_125 (l0 l1 l2 : AV) (st : List AV) (M : Mm) : run 100 125 [l0, l1, l2] st M = run 100 86 [l0, l1, l2] st M := e_goto 86 d100_125 (by decide)
theorem d100_128 : decode (cod 100) 128 = .ok (.aload_n 0, 1) := by decide +kernel
theorem r100_128 (l1 l2 : AV) (xg xi : Nat) (st : List AV) (M : Mm) : run 100 128 [aR xg 12 xi, l1, l2] st M = run 100 129 [aR xg 12 xi, l1, l2] (aR xg 12 xi :: st) M := e_aldn d100_128 rfl
theorem d100_129 : decode (cod 100) 129 = .ok (.getfield 117, 3) := by decide +kernel
theorem r100_129 (l0 l1 l2 : AV) (xg xi : Nat) (st : List AV) (M : Mm) : run 100 129 [l0, l1, l2] (aR xg 12 xi :: st) M = run 100 132 [l0, l1, l2] (aI (M xg 12 xi 20) :: st) M := e_gfi d100_129 rfl rfl rfl
theorem d100_132 : decode (cod 100) 132 = .ok (.ireturn, 1) := by decide +kernel
theorem r100_132 (l0 l1 l2 : AV) (v : Int32) (M : Mm) : run 100 132 [l0, l1, l2] [aI v] M = some (some v, M) := e_iret d100_132 rfl
