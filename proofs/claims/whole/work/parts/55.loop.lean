theorem law_end {i L : Nat} (hi : i ≤ L) (hL : L ≤ 2048) (h : ¬ Int32.ofNat L - 4 < nI i) : i + 4 ≤ L := by
  rcases Nat.lt_or_ge L (i + 4) with q | q
  · refine absurd ?_ h
    have e1 : (Int32.ofNat L - 4).toInt = (L : Int) - 4 := by
      rw [Int32.toInt_sub, show (Int32.ofNat L).toInt = (L : Int) from nI_toInt (by omega), show (4 : Int32).toInt = 4 by decide]
      exact Int.bmod_eq_of_le (by omega) (by omega)
    rw [Int32.lt_iff_toInt_lt, e1, nI_toInt (by omega)]
    omega
  · exact q
theorem law_sw (z : Int32) : (z = 0 ∨ z = 1 ∨ z = 2 ∨ z = 3 ∨ z = 4 ∨ z = 5 ∨ z = 6 ∨ z = 7 ∨ z = 8 ∨ z = 9 ∨ z = 10 ∨ z = 11 ∨ z = 12 ∨ z = 13 ∨ z = 14 ∨ z = 15 ∨ z = 16 ∨ z = 17 ∨ z = 18 ∨ z = 19 ∨ z = 20 ∨ z = 21 ∨ z = 22 ∨ z = 23 ∨ z = 24 ∨ z = 25 ∨ z = 26 ∨ z = 27 ∨ z = 28) ∨ (z.toInt < 0 ∨ 28 < z.toInt) := by
  by_cases h : z.toInt < 0 ∨ 28 < z.toInt
  · exact Or.inr h
  · refine Or.inl ?_
    have h1 : z.toInt = 0 ∨ z.toInt = 1 ∨ z.toInt = 2 ∨ z.toInt = 3 ∨ z.toInt = 4 ∨ z.toInt = 5 ∨ z.toInt = 6 ∨ z.toInt = 7 ∨ z.toInt = 8 ∨ z.toInt = 9 ∨ z.toInt = 10 ∨ z.toInt = 11 ∨ z.toInt = 12 ∨ z.toInt = 13 ∨ z.toInt = 14 ∨ z.toInt = 15 ∨ z.toInt = 16 ∨ z.toInt = 17 ∨ z.toInt = 18 ∨ z.toInt = 19 ∨ z.toInt = 20 ∨ z.toInt = 21 ∨ z.toInt = 22 ∨ z.toInt = 23 ∨ z.toInt = 24 ∨ z.toInt = 25 ∨ z.toInt = 26 ∨ z.toInt = 27 ∨ z.toInt = 28 := by omega
    rcases h1 with h1 | h1 | h1 | h1 | h1 | h1 | h1 | h1 | h1 | h1 | h1 | h1 | h1 | h1 | h1 | h1 | h1 | h1 | h1 | h1 | h1 | h1 | h1 | h1 | h1 | h1 | h1 | h1 | h1
    · exact Or.inl (Int32.toInt_inj.mp (h1.trans (by decide)))
    · exact Or.inr (Or.inl (Int32.toInt_inj.mp (h1.trans (by decide))))
    · exact Or.inr (Or.inr (Or.inl (Int32.toInt_inj.mp (h1.trans (by decide)))))
    · exact Or.inr (Or.inr (Or.inr (Or.inl (Int32.toInt_inj.mp (h1.trans (by decide))))))
    · exact Or.inr (Or.inr (Or.inr (Or.inr (Or.inl (Int32.toInt_inj.mp (h1.trans (by decide)))))))
    · exact Or.inr (Or.inr (Or.inr (Or.inr (Or.inr (Or.inl (Int32.toInt_inj.mp (h1.trans (by decide))))))))
    · exact Or.inr (Or.inr (Or.inr (Or.inr (Or.inr (Or.inr (Or.inl (Int32.toInt_inj.mp (h1.trans (by decide)))))))))
    · exact Or.inr (Or.inr (Or.inr (Or.inr (Or.inr (Or.inr (Or.inr (Or.inl (Int32.toInt_inj.mp (h1.trans (by decide))))))))))
    · exact Or.inr (Or.inr (Or.inr (Or.inr (Or.inr (Or.inr (Or.inr (Or.inr (Or.inl (Int32.toInt_inj.mp (h1.trans (by decide)))))))))))
    · exact Or.inr (Or.inr (Or.inr (Or.inr (Or.inr (Or.inr (Or.inr (Or.inr (Or.inr (Or.inl (Int32.toInt_inj.mp (h1.trans (by decide))))))))))))
    · exact Or.inr (Or.inr (Or.inr (Or.inr (Or.inr (Or.inr (Or.inr (Or.inr (Or.inr (Or.inr (Or.inl (Int32.toInt_inj.mp (h1.trans (by decide)))))))))))))
    · exact Or.inr (Or.inr (Or.inr (Or.inr (Or.inr (Or.inr (Or.inr (Or.inr (Or.inr (Or.inr (Or.inr (Or.inl (Int32.toInt_inj.mp (h1.trans (by decide))))))))))))))
    · exact Or.inr (Or.inr (Or.inr (Or.inr (Or.inr (Or.inr (Or.inr (Or.inr (Or.inr (Or.inr (Or.inr (Or.inr (Or.inl (Int32.toInt_inj.mp (h1.trans (by decide)))))))))))))))
    · exact Or.inr (Or.inr (Or.inr (Or.inr (Or.inr (Or.inr (Or.inr (Or.inr (Or.inr (Or.inr (Or.inr (Or.inr (Or.inr (Or.inl (Int32.toInt_inj.mp (h1.trans (by decide))))))))))))))))
    · exact Or.inr (Or.inr (Or.inr (Or.inr (Or.inr (Or.inr (Or.inr (Or.inr (Or.inr (Or.inr (Or.inr (Or.inr (Or.inr (Or.inr (Or.inl (Int32.toInt_inj.mp (h1.trans (by decide)))))))))))))))))
    · exact Or.inr (Or.inr (Or.inr (Or.inr (Or.inr (Or.inr (Or.inr (Or.inr (Or.inr (Or.inr (Or.inr (Or.inr (Or.inr (Or.inr (Or.inr (Or.inl (Int32.toInt_inj.mp (h1.trans (by decide))))))))))))))))))
    · exact Or.inr (Or.inr (Or.inr (Or.inr (Or.inr (Or.inr (Or.inr (Or.inr (Or.inr (Or.inr (Or.inr (Or.inr (Or.inr (Or.inr (Or.inr (Or.inr (Or.inl (Int32.toInt_inj.mp (h1.trans (by decide)))))))))))))))))))
    · exact Or.inr (Or.inr (Or.inr (Or.inr (Or.inr (Or.inr (Or.inr (Or.inr (Or.inr (Or.inr (Or.inr (Or.inr (Or.inr (Or.inr (Or.inr (Or.inr (Or.inr (Or.inl (Int32.toInt_inj.mp (h1.trans (by decide))))))))))))))))))))
    · exact Or.inr (Or.inr (Or.inr (Or.inr (Or.inr (Or.inr (Or.inr (Or.inr (Or.inr (Or.inr (Or.inr (Or.inr (Or.inr (Or.inr (Or.inr (Or.inr (Or.inr (Or.inr (Or.inl (Int32.toInt_inj.mp (h1.trans (by decide)))))))))))))))))))))
    · exact Or.inr (Or.inr (Or.inr (Or.inr (Or.inr (Or.inr (Or.inr (Or.inr (Or.inr (Or.inr (Or.inr (Or.inr (Or.inr (Or.inr (Or.inr (Or.inr (Or.inr (Or.inr (Or.inr (Or.inl (Int32.toInt_inj.mp (h1.trans (by decide))))))))))))))))))))))
    · exact Or.inr (Or.inr (Or.inr (Or.inr (Or.inr (Or.inr (Or.inr (Or.inr (Or.inr (Or.inr (Or.inr (Or.inr (Or.inr (Or.inr (Or.inr (Or.inr (Or.inr (Or.inr (Or.inr (Or.inr (Or.inl (Int32.toInt_inj.mp (h1.trans (by decide)))))))))))))))))))))))
    · exact Or.inr (Or.inr (Or.inr (Or.inr (Or.inr (Or.inr (Or.inr (Or.inr (Or.inr (Or.inr (Or.inr (Or.inr (Or.inr (Or.inr (Or.inr (Or.inr (Or.inr (Or.inr (Or.inr (Or.inr (Or.inr (Or.inl (Int32.toInt_inj.mp (h1.trans (by decide))))))))))))))))))))))))
    · exact Or.inr (Or.inr (Or.inr (Or.inr (Or.inr (Or.inr (Or.inr (Or.inr (Or.inr (Or.inr (Or.inr (Or.inr (Or.inr (Or.inr (Or.inr (Or.inr (Or.inr (Or.inr (Or.inr (Or.inr (Or.inr (Or.inr (Or.inl (Int32.toInt_inj.mp (h1.trans (by decide)))))))))))))))))))))))))
    · exact Or.inr (Or.inr (Or.inr (Or.inr (Or.inr (Or.inr (Or.inr (Or.inr (Or.inr (Or.inr (Or.inr (Or.inr (Or.inr (Or.inr (Or.inr (Or.inr (Or.inr (Or.inr (Or.inr (Or.inr (Or.inr (Or.inr (Or.inr (Or.inl (Int32.toInt_inj.mp (h1.trans (by decide))))))))))))))))))))))))))
    · exact Or.inr (Or.inr (Or.inr (Or.inr (Or.inr (Or.inr (Or.inr (Or.inr (Or.inr (Or.inr (Or.inr (Or.inr (Or.inr (Or.inr (Or.inr (Or.inr (Or.inr (Or.inr (Or.inr (Or.inr (Or.inr (Or.inr (Or.inr (Or.inr (Or.inl (Int32.toInt_inj.mp (h1.trans (by decide)))))))))))))))))))))))))))
    · exact Or.inr (Or.inr (Or.inr (Or.inr (Or.inr (Or.inr (Or.inr (Or.inr (Or.inr (Or.inr (Or.inr (Or.inr (Or.inr (Or.inr (Or.inr (Or.inr (Or.inr (Or.inr (Or.inr (Or.inr (Or.inr (Or.inr (Or.inr (Or.inr (Or.inr (Or.inl (Int32.toInt_inj.mp (h1.trans (by decide))))))))))))))))))))))))))))
    · exact Or.inr (Or.inr (Or.inr (Or.inr (Or.inr (Or.inr (Or.inr (Or.inr (Or.inr (Or.inr (Or.inr (Or.inr (Or.inr (Or.inr (Or.inr (Or.inr (Or.inr (Or.inr (Or.inr (Or.inr (Or.inr (Or.inr (Or.inr (Or.inr (Or.inr (Or.inr (Or.inl (Int32.toInt_inj.mp (h1.trans (by decide)))))))))))))))))))))))))))))
    · exact Or.inr (Or.inr (Or.inr (Or.inr (Or.inr (Or.inr (Or.inr (Or.inr (Or.inr (Or.inr (Or.inr (Or.inr (Or.inr (Or.inr (Or.inr (Or.inr (Or.inr (Or.inr (Or.inr (Or.inr (Or.inr (Or.inr (Or.inr (Or.inr (Or.inr (Or.inr (Or.inr (Or.inl (Int32.toInt_inj.mp (h1.trans (by decide))))))))))))))))))))))))))))))
    · exact Or.inr (Or.inr (Or.inr (Or.inr (Or.inr (Or.inr (Or.inr (Or.inr (Or.inr (Or.inr (Or.inr (Or.inr (Or.inr (Or.inr (Or.inr (Or.inr (Or.inr (Or.inr (Or.inr (Or.inr (Or.inr (Or.inr (Or.inr (Or.inr (Or.inr (Or.inr (Or.inr (Or.inr ((Int32.toInt_inj.mp (h1.trans (by decide)))))))))))))))))))))))))))))))
theorem law_loop {p : Program} {e : Env} {s : State} {m : MethodId} {below : List Frame} {meth : Method} {c : Code} {D : va_G} {cI cL cM : ClassId} {ad : Cd → Nat} {b L : Nat} {xs : Nat → Int32} (l : Launch) (hL : L ≤ 2048) (C0 : lw_At p s m meth c b L xs) (hK : va_K D vwCl (tysO cI cL cM) s) (hE : Ext ad (fun q : Nat => s.heap.size ≤ q) s s.heap) :
    ∀ (n i : Nat), i ≤ L → L + 1 ≤ i + n → ∀ (M : Mm) (H : Heap) (locs : List Loc), TS M → va_P D vwCl (wsO cI cL cM ad M) H → va_D (fun q : Nat => s.heap.size ≤ q) (wsO cI cL cM ad M) → va_S (fun q : Nat => s.heap.size ≤ q) s.heap H locs → ∀ (ls : Array Slot), lv_has ls 4 [(0, .ref b), (1, .ref (ad (0, 7, 0))), (2, .ref (ad (4, 12, 0))), (3, .int (nI i))] → W p l e room_1 s m #[Value.ref b] below meth c H locs 600000 7302250 (lw_Z below #[Value.ref b] s) (F0 m 18 ls []) := by
  obtain ⟨hx, hb, hr, hml, hown, hts, hX, hbl, hlocks, hgv⟩ := id C0
  have hbA : ¬ (fun q : Nat => s.heap.size ≤ q) b := Nat.not_le.mpr hbl
  intro n
  induction n with
  | zero =>
    intro i h1 h2
    exact absurd h2 (by omega)
  | succ n ih =>
    intro i hi hin M H locs hT hP hD hS ls hl
    refine lv_iload_n hx hb dl_18 rfl (lv_at hl 3 rfl) ?_
    refine lv_aload_n hx hb dl_19 rfl (lv_at hl 0 rfl) ?_
    refine va_slen hx hb hX hbl hbA hS dl_20 ?_
    refine lv_iconst (v := 4) hx hb dl_21 (by decide) ?_
    refine lv_isub hx hb dl_22 ?_
    refine lv_icmp_gt (tgt := 947) hx hb dl_23 (by decide) (fun _ => ?_) (fun hc => ?_)
    · refine lv_iconst (v := 1) hx hb dl_947 (by decide) ?_
      refine va_forget (fun q hq => hS.2.2 q hq) ?_
      exact lw_ret hx hb hr hlocks dl_948
    have h4 : i + 4 ≤ L := law_end hi hL hc
    refine lv_aload_n hx hb dl_26 rfl (lv_at hl 0 rfl) ?_
    refine lv_iload_n hx hb dl_27 rfl (lv_at hl 3 rfl) ?_
    refine va_sld hx hb hX hbl hbA hS (vp_of (vp_t (by omega) (by omega))) dl_28 ?_
    refine lv_bipush (v := 31) hx hb dl_29 (by decide) ?_
    refine lv_iand hx hb dl_31 ?_
    have J : ∀ (M : Mm) (H : Heap) (locs : List Loc), TS M → va_P D vwCl (wsO cI cL cM ad M) H → va_D (fun q : Nat => s.heap.size ≤ q) (wsO cI cL cM ad M) → va_S (fun q : Nat => s.heap.size ≤ q) s.heap H locs → W p l e room_1 s m #[Value.ref b] below meth c H locs 600000 7302250 (lw_Z below #[Value.ref b] s) (F0 m 941 ls []) := by
      intro M H locs hT hP hD hS
      refine lv_iinc (v := nI (i + 4)) (lv' := [(3, .int (nI (i + 4))), (0, .ref b), (1, .ref (ad (0, 7, 0))), (2, .ref (ad (4, 12, 0)))]) hx hb dl_941 hl (k := 3) rfl (nI_add i 4) (by decide) rfl (fun ls hl => ?_)
      refine lv_goto (tgt := 18) hx hb dl_944 (by decide) ?_
      exact ih (i + 4) h4 (by omega) M H locs hT hP hD hS ls (lv_sub hl [1, 2, 3, 0] rfl)
    generalize xs (nI i).toNatClampNeg &&& 31 = z
    rcases law_sw z with (rfl | rfl | rfl | rfl | rfl | rfl | rfl | rfl | rfl | rfl | rfl | rfl | rfl | rfl | rfl | rfl | rfl | rfl | rfl | rfl | rfl | rfl | rfl | rfl | rfl | rfl | rfl | rfl | rfl) | h
    · exact lv_tableIn (x := 0) (off := 132) (tgt := 164) hx hb dl_32 (by decide) (by decide) (by decide +kernel) (by decide) (case_0 l h4 hL C0 hK hE hl hT hP hD hS J)
    · exact lv_tableIn (x := 1) (off := 155) (tgt := 187) hx hb dl_32 (by decide) (by decide) (by decide +kernel) (by decide) (case_1 l h4 hL C0 hK hE hl hT hP hD hS J)
    · exact lv_tableIn (x := 2) (off := 168) (tgt := 200) hx hb dl_32 (by decide) (by decide) (by decide +kernel) (by decide) (case_2 l h4 hL C0 hK hE hl hT hP hD hS J)
    · exact lv_tableIn (x := 3) (off := 201) (tgt := 233) hx hb dl_32 (by decide) (by decide) (by decide +kernel) (by decide) (case_3 l h4 hL C0 hK hE hl hT hP hD hS J)
    · exact lv_tableIn (x := 4) (off := 244) (tgt := 276) hx hb dl_32 (by decide) (by decide) (by decide +kernel) (by decide) (case_4 l h4 hL C0 hK hE hl hT hP hD hS J)
    · exact lv_tableIn (x := 5) (off := 277) (tgt := 309) hx hb dl_32 (by decide) (by decide) (by decide +kernel) (by decide) (case_5 l h4 hL C0 hK hE hl hT hP hD hS J)
    · exact lv_tableIn (x := 6) (off := 300) (tgt := 332) hx hb dl_32 (by decide) (by decide) (by decide +kernel) (by decide) (case_6 l h4 hL C0 hK hE hl hT hP hD hS J)
    · exact lv_tableIn (x := 7) (off := 333) (tgt := 365) hx hb dl_32 (by decide) (by decide) (by decide +kernel) (by decide) (case_7 l h4 hL C0 hK hE hl hT hP hD hS J)
    · exact lv_tableIn (x := 8) (off := 366) (tgt := 398) hx hb dl_32 (by decide) (by decide) (by decide +kernel) (by decide) (case_8 l h4 hL C0 hK hE hl hT hP hD hS J)
    · exact lv_tableIn (x := 9) (off := 399) (tgt := 431) hx hb dl_32 (by decide) (by decide) (by decide +kernel) (by decide) (case_9 l h4 hL C0 hK hE hl hT hP hD hS J)
    · exact lv_tableIn (x := 10) (off := 442) (tgt := 474) hx hb dl_32 (by decide) (by decide) (by decide +kernel) (by decide) (case_10 l h4 hL C0 hK hE hl hT hP hD hS J)
    · exact lv_tableIn (x := 11) (off := 465) (tgt := 497) hx hb dl_32 (by decide) (by decide) (by decide +kernel) (by decide) (case_11 l h4 hL C0 hK hE hl hT hP hD hS J)
    · exact lv_tableIn (x := 12) (off := 488) (tgt := 520) hx hb dl_32 (by decide) (by decide) (by decide +kernel) (by decide) (case_12 l h4 hL C0 hK hE hl hT hP hD hS J)
    · exact lv_tableIn (x := 13) (off := 511) (tgt := 543) hx hb dl_32 (by decide) (by decide) (by decide +kernel) (by decide) (case_13 l h4 hL C0 hK hE hl hT hP hD hS J)
    · exact lv_tableIn (x := 14) (off := 534) (tgt := 566) hx hb dl_32 (by decide) (by decide) (by decide +kernel) (by decide) (case_14 l h4 hL C0 hK hE hl hT hP hD hS J)
    · exact lv_tableIn (x := 15) (off := 557) (tgt := 589) hx hb dl_32 (by decide) (by decide) (by decide +kernel) (by decide) (case_15 l h4 hL C0 hK hE hl hT hP hD hS J)
    · exact lv_tableIn (x := 16) (off := 590) (tgt := 622) hx hb dl_32 (by decide) (by decide) (by decide +kernel) (by decide) (case_16 l h4 hL C0 hK hE hl hT hP hD hS J)
    · exact lv_tableIn (x := 17) (off := 613) (tgt := 645) hx hb dl_32 (by decide) (by decide) (by decide +kernel) (by decide) (case_17 l h4 hL C0 hK hE hl hT hP hD hS J)
    · exact lv_tableIn (x := 18) (off := 636) (tgt := 668) hx hb dl_32 (by decide) (by decide) (by decide +kernel) (by decide) (case_18 l h4 hL C0 hK hE hl hT hP hD hS J)
    · exact lv_tableIn (x := 19) (off := 659) (tgt := 691) hx hb dl_32 (by decide) (by decide) (by decide +kernel) (by decide) (case_19 l h4 hL C0 hK hE hl hT hP hD hS J)
    · exact lv_tableIn (x := 20) (off := 692) (tgt := 724) hx hb dl_32 (by decide) (by decide) (by decide +kernel) (by decide) (case_20 l h4 hL C0 hK hE hl hT hP hD hS J)
    · exact lv_tableIn (x := 21) (off := 735) (tgt := 767) hx hb dl_32 (by decide) (by decide) (by decide +kernel) (by decide) (case_21 l h4 hL C0 hK hE hl hT hP hD hS J)
    · exact lv_tableIn (x := 22) (off := 778) (tgt := 810) hx hb dl_32 (by decide) (by decide) (by decide +kernel) (by decide) (case_22 l h4 hL C0 hK hE hl hT hP hD hS J)
    · exact lv_tableIn (x := 23) (off := 791) (tgt := 823) hx hb dl_32 (by decide) (by decide) (by decide +kernel) (by decide) (case_23 l h4 hL C0 hK hE hl hT hP hD hS J)
    · exact lv_tableIn (x := 24) (off := 814) (tgt := 846) hx hb dl_32 (by decide) (by decide) (by decide +kernel) (by decide) (case_24 l h4 hL C0 hK hE hl hT hP hD hS J)
    · exact lv_tableIn (x := 25) (off := 827) (tgt := 859) hx hb dl_32 (by decide) (by decide) (by decide +kernel) (by decide) (case_25 l h4 hL C0 hK hE hl hT hP hD hS J)
    · exact lv_tableIn (x := 26) (off := 860) (tgt := 892) hx hb dl_32 (by decide) (by decide) (by decide +kernel) (by decide) (case_26 l h4 hL C0 hK hE hl hT hP hD hS J)
    · exact lv_tableIn (x := 27) (off := 873) (tgt := 905) hx hb dl_32 (by decide) (by decide) (by decide +kernel) (by decide) (case_27 l h4 hL C0 hK hE hl hT hP hD hS J)
    · exact lv_tableIn (x := 28) (off := 886) (tgt := 918) hx hb dl_32 (by decide) (by decide) (by decide +kernel) (by decide) (case_28 l h4 hL C0 hK hE hl hT hP hD hS J)
    · exact lv_tableOut (tgt := 941) hx hb dl_32 h (by decide) (J M H locs hT hP hD hS)
