def vwCl : List vw_C := [(RX0, TX0, 8), (RX1, TX1, 4), (RX2, TX2, 16), (RX3, TX3, 11), (RX4, TX4, 2), (RX5, TX5, 8), (RX6, TX6, 44)]
def layP : List (List Nat) := [[174, 176, 178, 180, 182, 184, 186, 188], [207, 209, 211, 213], [245, 247, 249, 251, 253, 255, 257, 259, 261, 263, 265, 267, 269, 271, 273, 275], [125, 127, 129, 131, 133, 135, 137, 139, 141, 143, 145], [287, 289], [300, 302, 304, 306, 308, 310, 312, 314], [802, 804, 806, 808, 810, 812, 814, 816, 818, 820, 822, 824, 826, 828, 830, 832, 834, 836, 838, 840, 842, 844, 846, 848, 850, 852, 854, 856, 858, 860, 862, 864, 866, 868, 870, 872, 874, 876, 878, 880, 882, 884, 886, 888]]
def clTy (c : Nat) : Nat → FieldType := ([tyX0, tyX1, tyX2, tyX3, tyX4, tyX5, tyX6] : List (Nat → FieldType)).getD c tyX0
theorem vwCl_at : ∀ ci, ci < 7 → vwCl[ci]? = some (clR ci, clT ci, clN ci) := by
  intro ci h
  match ci, h with
  | 0, _ => rfl
  | 1, _ => rfl
  | 2, _ => rfl
  | 3, _ => rfl
  | 4, _ => rfl
  | 5, _ => rfl
  | 6, _ => rfl
theorem clTy_ok : ∀ ci, ci < 7 → ∀ k, k < clN ci → parseFieldDescriptor (clT ci k).2.2.1 = some (clTy ci k) := by
  intro ci h
  match ci, h with
  | 0, _ => exact tyX0_ok
  | 1, _ => exact tyX1_ok
  | 2, _ => exact tyX2_ok
  | 3, _ => exact tyX3_ok
  | 4, _ => exact tyX4_ok
  | 5, _ => exact tyX5_ok
  | 6, _ => exact tyX6_ok
theorem clNm_ok : ∀ ci, ci < 7 → ∀ a, a < clN ci → ∀ b, b < clN ci → a ≠ b → (clT ci a).2.1 ≠ (clT ci b).2.1 := by
  intro ci h
  match ci, h with
  | 0, _ => exact nmX0
  | 1, _ => exact nmX1
  | 2, _ => exact nmX2
  | 3, _ => exact nmX3
  | 4, _ => exact nmX4
  | 5, _ => exact nmX5
  | 6, _ => exact nmX6
theorem layP_ok : ∀ ci, ci < 7 → ∀ k, k < clN ci → lw_tbl[(layP.getD ci []).getD k 0]? = some (u_lay (clR ci) (clT ci) k) := by decide +kernel
theorem lay_in : ∀ ci, ci < 7 → ∀ w ∈ u_ws (clR ci) (clT ci) (clN ci), w ∈ lw_tbl := by
  intro ci h w hw
  obtain ⟨k, hk, rfl⟩ := List.mem_map.mp hw
  exact List.mem_of_getElem? (layP_ok ci h k (List.mem_range.mp hk))
/-- the words that a callee may keep -/
def gt : List Cond := lw_tbl.filter goodWord
theorem gt_of {w : Cond} {k : Nat} (h : lw_tbl[k]? = some w) (hg : goodWord w = true) : w ∈ gt := List.mem_filter.mpr ⟨List.mem_of_getElem? h, hg⟩
theorem gt_good : ∀ w ∈ gt, goodWord w = true := fun w h => (List.mem_filter.mp h).2
def mOk (y : Nat) : Bool := decide (lw_tbl[(mP y).2.1]? = some (if mst y = true then Cond.static (mN y) else Cond.instanceMethod (mN y))) && (mst y || decide (lw_tbl[(mP y).2.2.1]? = some (Cond.selects (mN y).cls (mN y) (mN y)))) && decide (lw_tbl[(mP y).2.2.2]? = some (Cond.initialized (mN y).cls))
theorem mOk_all : (List.range 163).all mOk = true := by decide +kernel
def mOd (y : Nat) : Bool := decide ((mN y).cls = clR (mcl y)) && decide ((parseMethodDescriptor (mN y).desc).map (fun d => d.parameters.length) = some (mnp y)) && plainName (mN y).cls && decide ((mN y).cls ≠ "java/lang/invoke/MethodHandle") && decide ((mN y).cls ≠ "java/lang/invoke/VarHandle")
theorem mOd_all : (List.range 163).all mOd = true := by decide +kernel
def mOn (y : Nat) : Bool := decide (mxL y ≤ 13) && decide (mnp y + (if mst y = true then 0 else 1) ≤ mxL y) && decide (mcl y < 7) && decide (mrt y < 3) && decide (lvl y ≤ 10) && decide ((mTy y).2.2.1 = mxL y) && decide (rtT y = match mrt y with | 0 => none | 1 => some .int | _ => some .boolean)
theorem mOn_all : (List.range 163).all mOn = true := by decide +kernel
/-- what the tables say of a field link, a call, a constant -/
def fOk (r : Nat × Nat × Nat × Nat × Nat × Nat) : Bool := decide (lw_tbl[r.2.2.2.2.2]? = some (if r.2.2.2.2.1 = 1 then Cond.fieldLinkNest (clR r.1) r.2.1 (clT r.2.2.1 r.2.2.2.1).1 (clT r.2.2.1 r.2.2.2.1).2.1 (clT r.2.2.1 r.2.2.2.1).2.2.1 RX5 else Cond.fieldLink (clR r.1) r.2.1 (clT r.2.2.1 r.2.2.2.1).1 (clT r.2.2.1 r.2.2.2.1).2.1 (clT r.2.2.1 r.2.2.2.1).2.2.1)) && decide (r.2.2.1 < 7) && decide (r.2.2.2.1 < clN r.2.2.1) && ((tgf (cKi r.2.2.1) r.2.2.2.1).isSome || (decide ((clT r.2.2.1 r.2.2.2.1).2.2.2 = false) && decide (clTy r.2.2.1 r.2.2.2.1 = if isZ (cKi r.2.2.1) r.2.2.2.1 = true then FieldType.boolean else FieldType.int)))
theorem fOk_all : fls.all fOk = true := by decide +kernel
def cOk (r : Nat × Nat × Nat × Nat × Nat) : Bool := if r.2.2.1 = 1000 then decide (lw_tbl[r.2.2.2.2]? = some (Cond.methodLink (clR r.1) r.2.1 Lib.Math.min.name)) else if r.2.2.1 = 1001 then decide (lw_tbl[r.2.2.2.2]? = some (Cond.methodLink (clR r.1) r.2.1 ⟨"java/lang/String", "indexOf", "(I)I"⟩)) else decide (lw_tbl[r.2.2.2.2]? = some (if r.2.2.2.1 = 1 then Cond.methodLinkNest (clR r.1) r.2.1 (mN r.2.2.1) RX5 else Cond.methodLink (clR r.1) r.2.1 (mN r.2.2.1))) && decide (r.2.2.1 < 163) && decide (r.2.2.2.1 = 1 → mst r.2.2.1 = true)
theorem cOk_all : cls_.all cOk = true := by decide +kernel
def kOk (r : Nat × Nat × Int32 × Nat) : Bool := decide (lw_tbl[r.2.2.2]? = some (Cond.constant (clR r.1) r.2.1 r.2.2.1))
theorem kOk_all : kos.all kOk = true := by decide +kernel
theorem gOk_33 : lw_tbl[489]? = some (Cond.fieldLink RX5 108 RX5 "SETTING_LEAST" "[I") := by decide +kernel
theorem gOk_34 : lw_tbl[491]? = some (Cond.fieldLink RX5 111 RX5 "SETTING_GREATEST" "[I") := by decide +kernel

