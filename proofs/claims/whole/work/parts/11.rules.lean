/-! ONE INSTRUCTION, AS AN EQUATION -/
def wrN (N : Nat → Nat → Nat → Int32) (k i j : Nat) (v : Int32) : Nat → Nat → Nat → Int32 := va_up N k (va_up (N k) i (va_up (N k i) j v))
theorem wr_up (M : Mm) (g : Nat) (N : Nat → Nat → Nat → Int32) (k i j : Nat) (v : Int32) : wr (va_up M g N) g k i j v = va_up M g (wrN N k i j v) := by
  unfold wr wrN
  rw [up_same, up_up]
def cbI (r : Option Rs) (f : Int32 → Mm → Option Rs) : Option Rs := match r with
  | some (some x, M) => f x M
  | _ => none
def cbV (r : Option Rs) (f : Mm → Option Rs) : Option Rs := match r with
  | some (none, M) => f M
  | _ => none
theorem cbI_some (x : Int32) (M : Mm) (f : Int32 → Mm → Option Rs) : cbI (some (some x, M)) f = f x M := rfl
theorem cbV_some (M : Mm) (f : Mm → Option Rs) : cbV (some (none, M)) f = f M := rfl
section Rules
variable {y pc : Nat} {ls st : List AV} {M : Mm}
theorem e_iconst {k : Int} (v : Int32) (h : decode (cod y) pc = .ok (.iconst k, 1)) (hv : Int32.ofInt k = v) : run y pc ls st M = run y (pc + 1) ls (aI v :: st) M := by
  subst hv; rw [run_step h rfl]; rfl
theorem e_bipush {k : Int} (v : Int32) (h : decode (cod y) pc = .ok (.bipush k, 2)) (hv : (Int8.ofInt k).toInt32 = v) : run y pc ls st M = run y (pc + 2) ls (aI v :: st) M := by
  subst hv; rw [run_step h rfl]; rfl
theorem e_sipush {k : Int} (v : Int32) (h : decode (cod y) pc = .ok (.sipush k, 3)) (hv : (Int16.ofInt k).toInt32 = v) : run y pc ls st M = run y (pc + 3) ls (aI v :: st) M := by
  subst hv; rw [run_step h rfl]; rfl
theorem e_ildn {k : Fin 4} {x : Int32} (h : decode (cod y) pc = .ok (.iload_n k, 1)) (hl : ls[(k : Nat)]? = some (aI x)) : run y pc ls st M = run y (pc + 1) ls (aI x :: st) M := by
  rw [run_step h rfl]; simp only [stpI, ldi, hl, nx]
theorem e_ild {k : Nat} {x : Int32} (h : decode (cod y) pc = .ok (.iload k, 2)) (hl : ls[k]? = some (aI x)) : run y pc ls st M = run y (pc + 2) ls (aI x :: st) M := by
  rw [run_step h rfl]; simp only [stpI, ldi, hl, nx]
theorem e_aldn {k : Fin 4} {x : Cd} (h : decode (cod y) pc = .ok (.aload_n k, 1)) (hl : ls[(k : Nat)]? = some (some (.inr x))) : run y pc ls st M = run y (pc + 1) ls (some (.inr x) :: st) M := by
  rw [run_step h rfl]; simp only [stpI, lda, hl, nx]
theorem e_ald {k : Nat} {x : Cd} (h : decode (cod y) pc = .ok (.aload k, 2)) (hl : ls[k]? = some (some (.inr x))) : run y pc ls st M = run y (pc + 2) ls (some (.inr x) :: st) M := by
  rw [run_step h rfl]; simp only [stpI, lda, hl, nx]
theorem e_istn {k : Fin 4} {x : Int32} (ls' : List AV) (h : decode (cod y) pc = .ok (.istore_n k, 1)) (hk : decide ((k : Nat) < ls.length) = true) (hl : ls.set k (aI x) = ls') : run y pc ls (aI x :: st) M = run y (pc + 1) ls' st M := by
  subst hl; rw [run_step h rfl]; simp only [stpI, sti, nx, if_pos (of_decide_eq_true hk)]
theorem e_ist {k : Nat} {x : Int32} (ls' : List AV) (h : decode (cod y) pc = .ok (.istore k, 2)) (hk : decide (k < ls.length) = true) (hl : ls.set k (aI x) = ls') : run y pc ls (aI x :: st) M = run y (pc + 2) ls' st M := by
  subst hl; rw [run_step h rfl]; simp only [stpI, sti, nx, if_pos (of_decide_eq_true hk)]
theorem e_astn {k : Fin 4} {x : Cd} (ls' : List AV) (h : decode (cod y) pc = .ok (.astore_n k, 1)) (hk : decide ((k : Nat) < ls.length) = true) (hl : ls.set k (some (.inr x)) = ls') : run y pc ls (some (.inr x) :: st) M = run y (pc + 1) ls' st M := by
  subst hl; rw [run_step h rfl]; simp only [stpI, sta, nx, if_pos (of_decide_eq_true hk)]
theorem e_ast {k : Nat} {x : Cd} (ls' : List AV) (h : decode (cod y) pc = .ok (.astore k, 2)) (hk : decide (k < ls.length) = true) (hl : ls.set k (some (.inr x)) = ls') : run y pc ls (some (.inr x) :: st) M = run y (pc + 2) ls' st M := by
  subst hl; rw [run_step h rfl]; simp only [stpI, sta, nx, if_pos (of_decide_eq_true hk)]
theorem e_iinc {i : Nat} {k : Int} {x : Int32} (v : Int32) (ls' : List AV) (h : decode (cod y) pc = .ok (.iinc i k, 3)) (hv : Int32.ofInt k = v) (hi : ls[i]? = some (aI x)) (hl : ls.set i (aI (x + v)) = ls') : run y pc ls st M = run y (pc + 3) ls' st M := by
  subst hv; subst hl; rw [run_step h rfl]; simp only [stpI, inc, nx, hi]
theorem e_iadd {a b : Int32} (h : decode (cod y) pc = .ok (.iadd, 1)) : run y pc ls (aI b :: aI a :: st) M = run y (pc + 1) ls (aI (a + b) :: st) M := by rw [run_step h rfl]; rfl
theorem e_isub {a b : Int32} (h : decode (cod y) pc = .ok (.isub, 1)) : run y pc ls (aI b :: aI a :: st) M = run y (pc + 1) ls (aI (a - b) :: st) M := by rw [run_step h rfl]; rfl
theorem e_imul {a b : Int32} (h : decode (cod y) pc = .ok (.imul, 1)) : run y pc ls (aI b :: aI a :: st) M = run y (pc + 1) ls (aI (a * b) :: st) M := by rw [run_step h rfl]; rfl
theorem e_iand {a b : Int32} (h : decode (cod y) pc = .ok (.iand, 1)) : run y pc ls (aI b :: aI a :: st) M = run y (pc + 1) ls (aI (a &&& b) :: st) M := by rw [run_step h rfl]; rfl
theorem e_ior {a b : Int32} (h : decode (cod y) pc = .ok (.ior, 1)) : run y pc ls (aI b :: aI a :: st) M = run y (pc + 1) ls (aI (a ||| b) :: st) M := by rw [run_step h rfl]; rfl
theorem e_ixor {a b : Int32} (h : decode (cod y) pc = .ok (.ixor, 1)) : run y pc ls (aI b :: aI a :: st) M = run y (pc + 1) ls (aI (a ^^^ b) :: st) M := by rw [run_step h rfl]; rfl
theorem e_ishl {a b : Int32} (h : decode (cod y) pc = .ok (.ishl, 1)) : run y pc ls (aI b :: aI a :: st) M = run y (pc + 1) ls (aI (a <<< (b &&& 31)) :: st) M := by rw [run_step h rfl]; rfl
theorem e_idiv {a b : Int32} (h : decode (cod y) pc = .ok (.idiv, 1)) : run y pc ls (aI b :: aI a :: st) M = if b = 0 then none else run y (pc + 1) ls (aI (a / b) :: st) M := by
  rw [run_step h rfl]; simp only [stpI, bin]; by_cases h0 : b = 0
  · simp only [if_pos h0]
  · simp only [if_neg h0, nx]
theorem e_irem {a b : Int32} (h : decode (cod y) pc = .ok (.irem, 1)) : run y pc ls (aI b :: aI a :: st) M = if b = 0 then none else run y (pc + 1) ls (aI (a - a / b * b) :: st) M := by
  rw [run_step h rfl]; simp only [stpI, bin]; by_cases h0 : b = 0
  · simp only [if_pos h0]
  · simp only [if_neg h0, nx]
theorem e_ineg {a : Int32} (h : decode (cod y) pc = .ok (.ineg, 1)) : run y pc ls (aI a :: st) M = run y (pc + 1) ls (aI (-a) :: st) M := by rw [run_step h rfl]; rfl
theorem e_i2c {a : Int32} (h : decode (cod y) pc = .ok (.i2c, 1)) : run y pc ls (aI a :: st) M = run y (pc + 1) ls (aI (a.toUInt32 % 65536).toInt32 :: st) M := by rw [run_step h rfl]; rfl
theorem jmp_run {off : Int} (t : Nat) (ht : (pc : Int) + off = (t : Int)) : jmp pc off ls st M = nx t ls st M := by
  unfold jmp; rw [ht, if_pos (Int.natCast_nonneg t)]; rfl
theorem e_goto {off : Int} (t : Nat) (h : decode (cod y) pc = .ok (.goto off, 3)) (ht : (pc : Int) + off = (t : Int)) : run y pc ls st M = run y t ls st M := by
  rw [run_step h rfl]; simp only [stpI, jmp_run t ht, nx]
theorem if1_run {cd : _root_.Jvm.ClassFile.Cond} {off : Int} {a : Int32} (t : Nat) (h : decode (cod y) pc = .ok (.ifCond cd off, 3)) (ht : (pc : Int) + off = (t : Int)) : run y pc ls (aI a :: st) M = if cnB cd a 0 = true then run y t ls st M else run y (pc + 3) ls st M := by
  rw [run_step h rfl]; simp only [stpI, if1, jmp_run t ht]
  rw [if_pos (by rw [ht]; exact Int.natCast_nonneg t)]
  by_cases hc : cnB cd a 0 = true
  · simp only [if_pos hc, nx]
  · simp only [if_neg hc, nx]
theorem if2_run {cd : _root_.Jvm.ClassFile.Cond} {off : Int} {a b : Int32} (t : Nat) (h : decode (cod y) pc = .ok (.if_icmp cd off, 3)) (ht : (pc : Int) + off = (t : Int)) : run y pc ls (aI b :: aI a :: st) M = if cnB cd a b = true then run y t ls st M else run y (pc + 3) ls st M := by
  rw [run_step h rfl]; simp only [stpI, if2, jmp_run t ht]
  rw [if_pos (by rw [ht]; exact Int.natCast_nonneg t)]
  by_cases hc : cnB cd a b = true
  · simp only [if_pos hc, nx]
  · simp only [if_neg hc, nx]
theorem e_eq1 {off : Int} {a : Int32} (t : Nat) (h : decode (cod y) pc = .ok (.ifCond .eq off, 3)) (ht : (pc : Int) + off = (t : Int)) : run y pc ls (aI a :: st) M = if a = 0 then run y t ls st M else run y (pc + 3) ls st M := by
  rw [if1_run t h ht]; simp only [cnB, decide_eq_true_eq]
theorem e_ne1 {off : Int} {a : Int32} (t : Nat) (h : decode (cod y) pc = .ok (.ifCond .ne off, 3)) (ht : (pc : Int) + off = (t : Int)) : run y pc ls (aI a :: st) M = if a = 0 then run y (pc + 3) ls st M else run y t ls st M := by
  rw [if1_run t h ht]; simp only [cnB, decide_eq_true_eq, ite_not]
theorem e_lt1 {off : Int} {a : Int32} (t : Nat) (h : decode (cod y) pc = .ok (.ifCond .lt off, 3)) (ht : (pc : Int) + off = (t : Int)) : run y pc ls (aI a :: st) M = if a < 0 then run y t ls st M else run y (pc + 3) ls st M := by
  rw [if1_run t h ht]; simp only [cnB, decide_eq_true_eq]
theorem e_ge1 {off : Int} {a : Int32} (t : Nat) (h : decode (cod y) pc = .ok (.ifCond .ge off, 3)) (ht : (pc : Int) + off = (t : Int)) : run y pc ls (aI a :: st) M = if a < 0 then run y (pc + 3) ls st M else run y t ls st M := by
  rw [if1_run t h ht]; simp only [cnB, decide_eq_true_eq, ← Int32.not_lt, ite_not]
theorem e_gt1 {off : Int} {a : Int32} (t : Nat) (h : decode (cod y) pc = .ok (.ifCond .gt off, 3)) (ht : (pc : Int) + off = (t : Int)) : run y pc ls (aI a :: st) M = if 0 < a then run y t ls st M else run y (pc + 3) ls st M := by
  rw [if1_run t h ht]; simp only [cnB, decide_eq_true_eq]
theorem e_le1 {off : Int} {a : Int32} (t : Nat) (h : decode (cod y) pc = .ok (.ifCond .le off, 3)) (ht : (pc : Int) + off = (t : Int)) : run y pc ls (aI a :: st) M = if 0 < a then run y (pc + 3) ls st M else run y t ls st M := by
  rw [if1_run t h ht]; simp only [cnB, decide_eq_true_eq, ← Int32.not_lt, ite_not]
theorem e_eq2 {off : Int} {a b : Int32} (t : Nat) (h : decode (cod y) pc = .ok (.if_icmp .eq off, 3)) (ht : (pc : Int) + off = (t : Int)) : run y pc ls (aI b :: aI a :: st) M = if a = b then run y t ls st M else run y (pc + 3) ls st M := by
  rw [if2_run t h ht]; simp only [cnB, decide_eq_true_eq]
theorem e_ne2 {off : Int} {a b : Int32} (t : Nat) (h : decode (cod y) pc = .ok (.if_icmp .ne off, 3)) (ht : (pc : Int) + off = (t : Int)) : run y pc ls (aI b :: aI a :: st) M = if a = b then run y (pc + 3) ls st M else run y t ls st M := by
  rw [if2_run t h ht]; simp only [cnB, decide_eq_true_eq, ite_not]
theorem e_lt2 {off : Int} {a b : Int32} (t : Nat) (h : decode (cod y) pc = .ok (.if_icmp .lt off, 3)) (ht : (pc : Int) + off = (t : Int)) : run y pc ls (aI b :: aI a :: st) M = if a < b then run y t ls st M else run y (pc + 3) ls st M := by
  rw [if2_run t h ht]; simp only [cnB, decide_eq_true_eq]
theorem e_ge2 {off : Int} {a b : Int32} (t : Nat) (h : decode (cod y) pc = .ok (.if_icmp .ge off, 3)) (ht : (pc : Int) + off = (t : Int)) : run y pc ls (aI b :: aI a :: st) M = if a < b then run y (pc + 3) ls st M else run y t ls st M := by
  rw [if2_run t h ht]; simp only [cnB, decide_eq_true_eq, ← Int32.not_lt, ite_not]
theorem e_gt2 {off : Int} {a b : Int32} (t : Nat) (h : decode (cod y) pc = .ok (.if_icmp .gt off, 3)) (ht : (pc : Int) + off = (t : Int)) : run y pc ls (aI b :: aI a :: st) M = if b < a then run y t ls st M else run y (pc + 3) ls st M := by
  rw [if2_run t h ht]; simp only [cnB, decide_eq_true_eq]
theorem e_le2 {off : Int} {a b : Int32} (t : Nat) (h : decode (cod y) pc = .ok (.if_icmp .le off, 3)) (ht : (pc : Int) + off = (t : Int)) : run y pc ls (aI b :: aI a :: st) M = if b < a then run y (pc + 3) ls st M else run y t ls st M := by
  rw [if2_run t h ht]; simp only [cnB, decide_eq_true_eq, ← Int32.not_lt, ite_not]
theorem e_dup {a : Int32 ⊕ Cd} (h : decode (cod y) pc = .ok (.dup, 1)) : run y pc ls (some a :: st) M = run y (pc + 1) ls (some a :: some a :: st) M := by rw [run_step h rfl]; rfl
theorem e_dup2 {a b : Int32 ⊕ Cd} (h : decode (cod y) pc = .ok (.dup2, 1)) : run y pc ls (some a :: some b :: st) M = run y (pc + 1) ls (some a :: some b :: some a :: some b :: st) M := by rw [run_step h rfl]; rfl
theorem e_pop {a : Int32 ⊕ Cd} (h : decode (cod y) pc = .ok (.pop, 1)) : run y pc ls (some a :: st) M = run y (pc + 1) ls st M := by rw [run_step h rfl]; rfl
theorem e_gfi {idx ci j x g k i : Nat} {pl : Nat} (h : decode (cod y) pc = .ok (.getfield idx, 3)) (hf : fre (mcl y) idx = some (ci, j, x, pl)) (hk : k = cKi ci) (ht : tgf k j = none) : run y pc ls (aR g k i :: st) M = run y (pc + 3) ls (aI (M g k i j) :: st) M := by
  rw [run_step h rfl]; simp only [stpI, gfd, hf, if_pos hk, ht, nx]
theorem e_gfr {idx ci j x g k i : Nat} {pl : Nat} (f : Nat → Cd) (h : decode (cod y) pc = .ok (.getfield idx, 3)) (hf : fre (mcl y) idx = some (ci, j, x, pl)) (hk : k = cKi ci) (ht : tgf k j = some f) : run y pc ls (aR g k i :: st) M = run y (pc + 3) ls (some (.inr (f g)) :: st) M := by
  rw [run_step h rfl]; simp only [stpI, gfd, hf, if_pos hk, ht, nx]
theorem e_pfi {idx ci j x g k i : Nat} {pl : Nat} {v : Int32} (h : decode (cod y) pc = .ok (.putfield idx, 3)) (hf : fre (mcl y) idx = some (ci, j, x, pl)) (hk : k = cKi ci) (ht : tgf k j = none) (hz : isZ k j = false) : run y pc ls (aI v :: aR g k i :: st) M = run y (pc + 3) ls st (wr M g k i j v) := by
  rw [run_step h rfl]; simp only [stpI, pfd, hf]
  rw [if_pos ⟨hk, by rw [ht]; rfl, fun z => by rw [hz] at z; cases z⟩]; rfl
theorem e_pfz {idx ci j x g k i : Nat} {pl : Nat} {v : Int32} (h : decode (cod y) pc = .ok (.putfield idx, 3)) (hf : fre (mcl y) idx = some (ci, j, x, pl)) (hk : k = cKi ci) (ht : tgf k j = none) (hz : isZ k j = true) : run y pc ls (aI v :: aR g k i :: st) M = if v = 0 ∨ v = 1 then run y (pc + 3) ls st (wr M g k i j v) else none := by
  rw [run_step h rfl]; simp only [stpI, pfd, hf]
  by_cases hv : v = 0 ∨ v = 1
  · rw [if_pos ⟨hk, by rw [ht]; rfl, fun _ => hv⟩, if_pos hv]; rfl
  · rw [if_neg (fun z => hv (z.2.2 hz)), if_neg hv]
theorem e_gst {idx k pl : Nat} (h : decode (cod y) pc = .ok (.getstatic idx, 3)) (hf : gre (mcl y) idx = some (k, pl)) : run y pc ls st M = run y (pc + 3) ls (aR 9 k 0 :: st) M := by
  rw [run_step h rfl]; simp only [stpI, gst, hf, nx]
theorem e_ldc {idx pl : Nat} {v : Int32} (h : decode (cod y) pc = .ok (.ldc idx, 2)) (hf : kre (mcl y) idx = some (v, pl)) : run y pc ls st M = run y (pc + 2) ls (aI v :: st) M := by
  rw [run_step h rfl]; simp only [stpI, ldk, hf, nx]
theorem e_ldcw {idx pl : Nat} {v : Int32} (h : decode (cod y) pc = .ok (.ldc_w idx, 3)) (hf : kre (mcl y) idx = some (v, pl)) : run y pc ls st M = run y (pc + 3) ls (aI v :: st) M := by
  rw [run_step h rfl]; simp only [stpI, ldk, hf, nx]
theorem e_ldcS {idx k : Nat} (h : decode (cod y) pc = .ok (.ldc idx, 2)) (hf : kre (mcl y) idx = none) (hs : sre (mcl y) idx = some k) : run y pc ls st M = run y (pc + 2) ls (aR 9 k 0 :: st) M := by
  rw [run_step h rfl]; simp only [stpI, ldk, hf, hs, nx]
theorem e_ldcwS {idx k : Nat} (h : decode (cod y) pc = .ok (.ldc_w idx, 3)) (hf : kre (mcl y) idx = none) (hs : sre (mcl y) idx = some k) : run y pc ls st M = run y (pc + 3) ls (aR 9 k 0 :: st) M := by
  rw [run_step h rfl]; simp only [stpI, ldk, hf, hs, nx]
theorem e_ial {g k j n : Nat} {i : Int32} (h : decode (cod y) pc = .ok (.iaload, 1)) (hn : alen k = n) (hk : Nat.ble 33 k = false) : run y pc ls (aI i :: aR g k j :: st) M = if vpB i n = true then run y (pc + 1) ls (aI (M g k j i.toNatClampNeg) :: st) M else none := by
  have h33 : ¬ 33 ≤ k := fun z => by rw [Nat.ble_eq_true_of_le z] at hk; cases hk
  subst hn; rw [run_step h rfl]; simp only [stpI, ial, rdA, if_neg h33]
  by_cases hc : vpB i (alen k) = true
  · simp only [if_pos hc, nx]
  · simp only [if_neg hc]
theorem e_ialk {g k j : Nat} {i : Int32} (h : decode (cod y) pc = .ok (.iaload, 1)) : run y pc ls (aI i :: aR g k j :: st) M = if vpB i (alen k) = true then run y (pc + 1) ls (aI (rdA M g k j i.toNatClampNeg) :: st) M else none := by
  rw [run_step h rfl]; simp only [stpI, ial]
  by_cases hc : vpB i (alen k) = true
  · simp only [if_pos hc, nx]
  · simp only [if_neg hc]
theorem e_ias {g k j n : Nat} {i v : Int32} (h : decode (cod y) pc = .ok (.iastore, 1)) (hn : alen k = n) (hk : Nat.ble 33 k = false) : run y pc ls (aI v :: aI i :: aR g k j :: st) M = if vpB i n = true then run y (pc + 1) ls st (wr M g k j i.toNatClampNeg v) else none := by
  have h33 : k < 33 := Nat.not_le.mp fun z => by rw [Nat.ble_eq_true_of_le z] at hk; cases hk
  subst hn; rw [run_step h rfl]; simp only [stpI, ias]
  by_cases hc : vpB i (alen k) = true
  · simp only [hc, h33, and_self, if_true, nx]
  · simp only [hc, false_and, if_false, Bool.false_eq_true]
theorem e_iask {g k j : Nat} {i v : Int32} (h : decode (cod y) pc = .ok (.iastore, 1)) : run y pc ls (aI v :: aI i :: aR g k j :: st) M = if vpB i (alen k) = true ∧ k < 33 then run y (pc + 1) ls st (wr M g k j i.toNatClampNeg v) else none := by
  rw [run_step h rfl]; simp only [stpI, ias]
  by_cases hc : vpB i (alen k) = true ∧ k < 33
  · simp only [if_pos hc, nx]
  · simp only [if_neg hc]
theorem e_aal1 {g j : Nat} {i : Int32} (h : decode (cod y) pc = .ok (.aaload, 1)) : run y pc ls (aI i :: aR g 1 j :: st) M = if vpB i 4 = true then run y (pc + 1) ls (aR g 2 i.toNatClampNeg :: st) M else none := by
  rw [run_step h rfl]; simp only [stpI, aal]
  by_cases hc : vpB i 4 = true
  · simp only [hc, and_self, if_true, nx]
  · rw [if_neg (fun z => hc z.2), if_neg (fun z => absurd z.1 (by decide)), if_neg hc]
theorem e_aal3 {g j : Nat} {i : Int32} (h : decode (cod y) pc = .ok (.aaload, 1)) : run y pc ls (aI i :: aR g 3 j :: st) M = if vpB i 3 = true then run y (pc + 1) ls (aR g 4 i.toNatClampNeg :: st) M else none := by
  rw [run_step h rfl]; simp only [stpI, aal]
  rw [if_neg (fun z => absurd z.1 (by decide))]
  by_cases hc : vpB i 3 = true
  · simp only [hc, and_self, if_true, nx]
  · rw [if_neg (fun z => hc z.2), if_neg hc]
theorem e_aln {g k j : Nat} {v : Int32} (h : decode (cod y) pc = .ok (.arraylength, 1)) (hk : (Nat.blt 0 (alen k) && Nat.blt k 33) = true) (hv : Int32.ofNat (alen k) = v) : run y pc ls (aR g k j :: st) M = run y (pc + 1) ls (aI v :: st) M := by
  subst hv
  rw [Bool.and_eq_true] at hk
  rw [run_step h rfl]; simp only [stpI, aln]
  rw [if_pos ⟨Nat.le_of_ble_eq_true hk.1, Nat.le_of_ble_eq_true hk.2⟩]; rfl
theorem e_alnk {g k j : Nat} (h : decode (cod y) pc = .ok (.arraylength, 1)) : run y pc ls (aR g k j :: st) M = if 0 < alen k ∧ k < 33 then run y (pc + 1) ls (aI (Int32.ofNat (alen k)) :: st) M else none := by
  rw [run_step h rfl]; simp only [stpI, aln]
  by_cases hc : 0 < alen k ∧ k < 33
  · simp only [if_pos hc, nx]
  · simp only [if_neg hc]
theorem e_min {idx x pl : Nat} {a b : Int32} (h : decode (cod y) pc = .ok (.invokestatic idx, 3)) (hf : cre (mcl y) idx = some (1000, x, pl)) (hl : decide ((aI b :: aI a :: st).length ≤ 10) = true) : run y pc ls (aI b :: aI a :: st) M = run y (pc + 3) ls (aI (if b < a then b else a) :: st) M := by
  rw [run_step h rfl]; simp only [stpI, ivk, hf, if_true]
  rw [if_pos ⟨of_decide_eq_true hl, trivial⟩]; rfl
theorem e_ix {idx x pl k g i : Nat} {ch : Int32} (h : decode (cod y) pc = .ok (.invokevirtual idx, 3)) (hf : cre (mcl y) idx = some (1001, x, pl)) (hl : (decide (st.length ≤ 8) && decide (4 ≤ lvl y) && (k == 35 || k == 36)) = true) : run y pc ls (aI ch :: aR g k i :: st) M = run y (pc + 3) ls (aI (ix k ch) :: st) M := by
  simp only [Bool.and_eq_true, Bool.or_eq_true, decide_eq_true_eq, beq_iff_eq] at hl
  rw [run_step h rfl]; simp only [stpI, ivk, hf, if_true]
  rw [if_neg (by decide), if_pos ⟨hl.2, hl.1.1, trivial, hl.1.2⟩]; rfl
theorem ivk_run {idx y' x pl n : Nat} {stc : Bool} {as : List AV} {rest : List AV} (hf : cre (mcl y) idx = some (y', x, pl)) (hy : (decide (y' < 163) && decide (lvl y' < lvl y) && (mst y' == stc) && (n == if stc then mnp y' else mnp y' + 1)) = true) (hn : n ≤ st.length) (ht : (st.take n).reverse = as) (hr : st.drop n = rest) (h8 : decide (rest.length ≤ 8) = true) (hrc : (stc || rcv as (mcl y')) = true) :
    ivk (gd call y) (lvl y) (mcl y) idx stc pc ls st M = match call y' as M with
      | some (v, M') => if v.isNone = decide (mrt y' = 0) then nx (pc + 3) ls (v.toList.map aI ++ rest) M' else none
      | none => none := by
  simp only [Bool.and_eq_true, decide_eq_true_eq, beq_iff_eq] at hy
  obtain ⟨⟨⟨h1, h2⟩, h3⟩, h4⟩ := hy
  subst ht; subst hr; subst h4
  simp only [ivk, hf]
  rw [if_neg (by omega), if_neg (by omega), if_pos ⟨h1, h3, hn, of_decide_eq_true h8, by simpa using hrc⟩]
  simp only [gd, if_pos h2]
  rfl
theorem call_I {idx y' x pl n : Nat} {as rest : List AV} (hf : cre (mcl y) idx = some (y', x, pl)) (stc : Bool) (h : decode (cod y) pc = .ok (if stc then .invokestatic idx else .invokevirtual idx, 3)) (hy : (decide (y' < 163) && decide (lvl y' < lvl y) && (mst y' == stc) && (n == if stc then mnp y' else mnp y' + 1)) = true) (hm : decide (mrt y' = 0) = false) (hn : decide (n ≤ st.length) = true) (ht : (st.take n).reverse = as) (hr : st.drop n = rest) (h8 : decide (rest.length ≤ 8) = true) (hrc : (stc || rcv as (mcl y')) = true) :
    run y pc ls st M = cbI (call y' as M) (fun v M' => run y (pc + 3) ls (aI v :: rest) M') := by
  have e : stpI (gd call y) y pc 3 (if stc then .invokestatic idx else .invokevirtual idx) ls st M = ivk (gd call y) (lvl y) (mcl y) idx stc pc ls st M := by cases stc <;> rfl
  rw [run_step h (by cases stc <;> rfl), e, ivk_run (n := n) hf hy (of_decide_eq_true hn) ht hr h8 hrc, hm]
  cases call y' as M with
  | none => rfl
  | some r =>
    obtain ⟨v, M'⟩ := r
    cases v with
    | none => rfl
    | some v => rfl
theorem call_V {idx y' x pl n : Nat} {as rest : List AV} (hf : cre (mcl y) idx = some (y', x, pl)) (stc : Bool) (h : decode (cod y) pc = .ok (if stc then .invokestatic idx else .invokevirtual idx, 3)) (hy : (decide (y' < 163) && decide (lvl y' < lvl y) && (mst y' == stc) && (n == if stc then mnp y' else mnp y' + 1)) = true) (hm : decide (mrt y' = 0) = true) (hn : decide (n ≤ st.length) = true) (ht : (st.take n).reverse = as) (hr : st.drop n = rest) (h8 : decide (rest.length ≤ 8) = true) (hrc : (stc || rcv as (mcl y')) = true) :
    run y pc ls st M = cbV (call y' as M) (fun M' => run y (pc + 3) ls rest M') := by
  have e : stpI (gd call y) y pc 3 (if stc then .invokestatic idx else .invokevirtual idx) ls st M = ivk (gd call y) (lvl y) (mcl y) idx stc pc ls st M := by cases stc <;> rfl
  rw [run_step h (by cases stc <;> rfl), e, ivk_run (n := n) hf hy (of_decide_eq_true hn) ht hr h8 hrc, hm]
  cases call y' as M with
  | none => rfl
  | some r =>
    obtain ⟨v, M'⟩ := r
    cases v with
    | none => rfl
    | some v => rfl
theorem e_iret {v : Int32} (h : decode (cod y) pc = .ok (.ireturn, 1)) (hm : mrt y = 1) : run y pc ls [aI v] M = some (some v, M) := by
  rw [run_step h rfl]; simp only [stpI, irt]; rw [if_pos (Or.inl hm)]
theorem e_zret {v : Int32} (h : decode (cod y) pc = .ok (.ireturn, 1)) (hm : mrt y = 2) : run y pc ls [aI v] M = if v = 0 ∨ v = 1 then some (some v, M) else none := by
  rw [run_step h rfl]; simp only [stpI, irt]
  by_cases hv : v = 0 ∨ v = 1
  · rw [if_pos (Or.inr ⟨hm, hv⟩), if_pos hv]
  · rw [if_neg (fun z => z.elim (fun z => by rw [hm] at z; cases z) (fun z => hv z.2)), if_neg hv]
theorem e_vret (h : decode (cod y) pc = .ok (.return_, 1)) (hm : mrt y = 0) : run y pc ls [] M = some (none, M) := by
  rw [run_step h rfl]; simp only [stpI]; rw [if_pos ⟨hm, trivial⟩]
end Rules
