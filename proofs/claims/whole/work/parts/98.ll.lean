set_option maxHeartbeats 4000000 in
set_option maxRecDepth 100000 in
theorem law_loop {Γ : gT} {p : Program} {l : Launch} {e : Env} {s : State} {m : MethodId} {below : List Frame} {meth : Method} {c : Code} {A : Nat → Prop} {a a2 : Nat → Nat} {b L : Nat} {xs : Nat → Int32} {Q : State → Prop} (hh : Hd Γ p s m #[.ref b] c cL_law RL 4 wsL_law A) (hX : va_X b L xs s s.heap) (hbl : b < s.heap.size) (hbA : ¬ A b) (hL : L ≤ 1536)
    (fin : ∀ (H : Heap) (locs : List Loc) (ls : Array Slot), va_S A s.heap H locs → W p l e room_1 s m #[.ref b] below meth c H locs 600000 7302249 Q (F0 m 860 ls [])) :
    ∀ (n i : Nat), i ≤ L → L + 1 ≤ i + n → ∀ (x : Xst) (μ : Mst) (H : Heap) (locs : List Loc) (ls : Array Slot), REL x μ → va_P (gD Γ) vwCl (xW Γ a x ++ modW Γ a2 0 μ) H → va_D A (xW Γ a x ++ modW Γ a2 0 μ) → va_S A s.heap H locs → lv_has ls 4 [(0, .ref b), (1, .ref (a 0)), (2, .ref (a2 0)), (3, .int (nI i))] → W p l e room_1 s m #[.ref b] below meth c H locs 600000 7302249 Q (F0 m 18 ls []) := by
  obtain ⟨hx, hb, hml, hown, hts⟩ := id hh.1
  intro n
  induction n with
  | zero =>
    intro i h1 h2
    exact absurd h2 (by omega)
  | succ n ih =>
    intro i hi hin x μ H locs ls hr hP hD hS hl
    refine lv_iload_n hx hb dL_law_18 rfl (lv_at hl 3 rfl) ?_
    refine lv_aload_n hx hb dL_law_19 rfl (lv_at hl 0 rfl) ?_
    refine va_slen hx hb hX hbl hbA hS dL_law_20 ?_
    refine lv_iconst (v := 3) hx hb dL_law_21 (by decide) ?_
    refine lv_isub hx hb dL_law_22 ?_
    refine lv_icmp_gt (tgt := 860) hx hb dL_law_23 (by decide) (fun c_ => ?_) (fun c_ => ?_)
    · exact fin H locs ls hS
    · have hi3 : i + 3 ≤ L := by
        have tL : (Int32.ofNat L).toInt = L := nI_toInt (n := L) (by omega)
        have t3 : (3 : Int32).toInt = 3 := rfl
        have e0 : (Int32.ofNat L - 3).toInt = (L : Int) - 3 := by rw [zi_sub (by rw [tL, t3]; omega) (by rw [tL, t3]; omega), tL, t3]
        have q := Int32.not_lt.mp c_
        rw [Int32.le_iff_toInt_le, e0, nI_toInt (by omega)] at q
        omega
      refine lv_aload_n hx hb dL_law_26 rfl (lv_at hl 0 rfl) ?_
      refine lv_iload_n hx hb dL_law_27 rfl (lv_at hl 3 rfl) ?_
      refine va_sld hx hb hX hbl hbA hS (vp_in_nI (by omega) (by omega)) dL_law_28 ?_
      refine lv_bipush (v := 31) hx hb dL_law_29 (by decide) ?_
      refine lv_iand hx hb dL_law_31 ?_
      obtain ⟨k, hk, ek⟩ := and31 (xs (nI i).toNatClampNeg)
      refine W.eq (g2 := F0 m 32 ls [.int (nI k)]) (by rw [ek]) ?_
      have kk : ∀ (x1 : Xst) (μ1 : Mst) (H1 : Heap) (locs1 : List Loc) (ls1 : Array Slot), REL x1 μ1 → va_P (gD Γ) vwCl (xW Γ a x1 ++ modW Γ a2 0 μ1) H1 → va_D A (xW Γ a x1 ++ modW Γ a2 0 μ1) → va_S A s.heap H1 locs1 → lv_has ls1 4 [(0, .ref b), (1, .ref (a 0)), (2, .ref (a2 0)), (3, .int (nI i))] → W p l e room_1 s m #[.ref b] below meth c H1 locs1 600000 7302249 Q (F0 m 854 ls1 []) := by
        intro x1 μ1 H1 locs1 ls1 hr1 hP1 hD1 hS1 hl1
        refine lv_iinc (v := nI (i + 3)) (lv' := [(3, .int (nI (i + 3))), (0, .ref b), (1, .ref (a 0)), (2, .ref (a2 0))]) hx hb dL_law_854 hl1 (k := 3) rfl (nI_add i 3) (by decide) rfl (fun ls2 hl2 => ?_)
        refine lv_goto (tgt := 18) hx hb dL_law_857 (by decide) ?_
        exact ih (i + 3) hi3 (by omega) x1 μ1 H1 locs1 ls2 hr1 hP1 hD1 hS1 (lv_sub hl2 [1, 2, 3, 0] rfl)
      rcases (show k = 0 ∨ k = 1 ∨ k = 2 ∨ k = 3 ∨ k = 4 ∨ k = 5 ∨ k = 6 ∨ k = 7 ∨ k = 8 ∨ k = 9 ∨ k = 10 ∨ k = 11 ∨ k = 12 ∨ k = 13 ∨ k = 14 ∨ k = 15 ∨ k = 16 ∨ k = 17 ∨ k = 18 ∨ k = 19 ∨ k = 20 ∨ k = 21 ∨ k = 22 ∨ k = 23 ∨ k = 24 ∨ k = 25 ∨ k = 26 ∨ k = 27 ∨ k = 28 ∨ k = 29 ∨ k = 30 ∨ k = 31 by omega) with rfl | rfl | rfl | rfl | rfl | rfl | rfl | rfl | rfl | rfl | rfl | rfl | rfl | rfl | rfl | rfl | rfl | rfl | rfl | rfl | rfl | rfl | rfl | rfl | rfl | rfl | rfl | rfl | rfl | rfl | rfl | rfl
      · exact lv_tableIn (tgt := 176) (off := 144) hx hb dL_law_32 (by decide +kernel) (by decide +kernel) (by rfl) (by decide) (L_0 hh hX hbl hbA hi3 hL hr hP hD hS hl kk)
      · exact lv_tableIn (tgt := 209) (off := 177) hx hb dL_law_32 (by decide +kernel) (by decide +kernel) (by rfl) (by decide) (L_1 hh hX hbl hbA hi3 hL hr hP hD hS hl kk)
      · exact lv_tableIn (tgt := 232) (off := 200) hx hb dL_law_32 (by decide +kernel) (by decide +kernel) (by rfl) (by decide) (L_2 hh hX hbl hbA hi3 hL hr hP hD hS hl kk)
      · exact lv_tableIn (tgt := 265) (off := 233) hx hb dL_law_32 (by decide +kernel) (by decide +kernel) (by rfl) (by decide) (L_3 hh hX hbl hbA hi3 hL hr hP hD hS hl kk)
      · exact lv_tableIn (tgt := 278) (off := 246) hx hb dL_law_32 (by decide +kernel) (by decide +kernel) (by rfl) (by decide) (L_4 hh hX hbl hbA hi3 hL hr hP hD hS hl kk)
      · exact lv_tableIn (tgt := 301) (off := 269) hx hb dL_law_32 (by decide +kernel) (by decide +kernel) (by rfl) (by decide) (L_5 hh hX hbl hbA hi3 hL hr hP hD hS hl kk)
      · exact lv_tableIn (tgt := 324) (off := 292) hx hb dL_law_32 (by decide +kernel) (by decide +kernel) (by rfl) (by decide) (L_6 hh hX hbl hbA hi3 hL hr hP hD hS hl kk)
      · exact lv_tableIn (tgt := 347) (off := 315) hx hb dL_law_32 (by decide +kernel) (by decide +kernel) (by rfl) (by decide) (L_7 hh hX hbl hbA hi3 hL hr hP hD hS hl kk)
      · exact lv_tableIn (tgt := 370) (off := 338) hx hb dL_law_32 (by decide +kernel) (by decide +kernel) (by rfl) (by decide) (L_8 hh hX hbl hbA hi3 hL hr hP hD hS hl kk)
      · exact lv_tableIn (tgt := 383) (off := 351) hx hb dL_law_32 (by decide +kernel) (by decide +kernel) (by rfl) (by decide) (L_9 hh hX hbl hbA hi3 hL hr hP hD hS hl kk)
      · exact lv_tableIn (tgt := 396) (off := 364) hx hb dL_law_32 (by decide +kernel) (by decide +kernel) (by rfl) (by decide) (L_10 hh hX hbl hbA hi3 hL hr hP hD hS hl kk)
      · exact lv_tableIn (tgt := 409) (off := 377) hx hb dL_law_32 (by decide +kernel) (by decide +kernel) (by rfl) (by decide) (L_11 hh hX hbl hbA hi3 hL hr hP hD hS hl kk)
      · exact lv_tableIn (tgt := 422) (off := 390) hx hb dL_law_32 (by decide +kernel) (by decide +kernel) (by rfl) (by decide) (L_12 hh hX hbl hbA hi3 hL hr hP hD hS hl kk)
      · exact lv_tableIn (tgt := 445) (off := 413) hx hb dL_law_32 (by decide +kernel) (by decide +kernel) (by rfl) (by decide) (L_13 hh hX hbl hbA hi3 hL hr hP hD hS hl kk)
      · exact lv_tableIn (tgt := 468) (off := 436) hx hb dL_law_32 (by decide +kernel) (by decide +kernel) (by rfl) (by decide) (L_14 hh hX hbl hbA hi3 hL hr hP hD hS hl kk)
      · exact lv_tableIn (tgt := 481) (off := 449) hx hb dL_law_32 (by decide +kernel) (by decide +kernel) (by rfl) (by decide) (L_15 hh hX hbl hbA hi3 hL hr hP hD hS hl kk)
      · exact lv_tableIn (tgt := 504) (off := 472) hx hb dL_law_32 (by decide +kernel) (by decide +kernel) (by rfl) (by decide) (L_16 hh hX hbl hbA hi3 hL hr hP hD hS hl kk)
      · exact lv_tableIn (tgt := 537) (off := 505) hx hb dL_law_32 (by decide +kernel) (by decide +kernel) (by rfl) (by decide) (L_17 hh hX hbl hbA hi3 hL hr hP hD hS hl kk)
      · exact lv_tableIn (tgt := 550) (off := 518) hx hb dL_law_32 (by decide +kernel) (by decide +kernel) (by rfl) (by decide) (L_18 hh hX hbl hbA hi3 hL hr hP hD hS hl kk)
      · exact lv_tableIn (tgt := 573) (off := 541) hx hb dL_law_32 (by decide +kernel) (by decide +kernel) (by rfl) (by decide) (L_19 hh hX hbl hbA hi3 hL hr hP hD hS hl kk)
      · exact lv_tableIn (tgt := 596) (off := 564) hx hb dL_law_32 (by decide +kernel) (by decide +kernel) (by rfl) (by decide) (L_20 hh hX hbl hbA hi3 hL hr hP hD hS hl kk)
      · exact lv_tableIn (tgt := 619) (off := 587) hx hb dL_law_32 (by decide +kernel) (by decide +kernel) (by rfl) (by decide) (L_21 hh hX hbl hbA hi3 hL hr hP hD hS hl kk)
      · exact lv_tableIn (tgt := 652) (off := 620) hx hb dL_law_32 (by decide +kernel) (by decide +kernel) (by rfl) (by decide) (L_22 hh hX hbl hbA hi3 hL hr hP hD hS hl kk)
      · exact lv_tableIn (tgt := 676) (off := 644) hx hb dL_law_32 (by decide +kernel) (by decide +kernel) (by rfl) (by decide) (L_23 hh hX hbl hbA hi3 hL hr hP hD hS hl kk)
      · exact lv_tableIn (tgt := 699) (off := 667) hx hb dL_law_32 (by decide +kernel) (by decide +kernel) (by rfl) (by decide) (L_24 hh hX hbl hbA hi3 hL hr hP hD hS hl kk)
      · exact lv_tableIn (tgt := 712) (off := 680) hx hb dL_law_32 (by decide +kernel) (by decide +kernel) (by rfl) (by decide) (L_25 hh hX hbl hbA hi3 hL hr hP hD hS hl kk)
      · exact lv_tableIn (tgt := 725) (off := 693) hx hb dL_law_32 (by decide +kernel) (by decide +kernel) (by rfl) (by decide) (L_26 hh hX hbl hbA hi3 hL hr hP hD hS hl kk)
      · exact lv_tableIn (tgt := 749) (off := 717) hx hb dL_law_32 (by decide +kernel) (by decide +kernel) (by rfl) (by decide) (L_27 hh hX hbl hbA hi3 hL hr hP hD hS hl kk)
      · exact lv_tableIn (tgt := 762) (off := 730) hx hb dL_law_32 (by decide +kernel) (by decide +kernel) (by rfl) (by decide) (L_28 hh hX hbl hbA hi3 hL hr hP hD hS hl kk)
      · exact lv_tableIn (tgt := 775) (off := 743) hx hb dL_law_32 (by decide +kernel) (by decide +kernel) (by rfl) (by decide) (L_29 hh hX hbl hbA hi3 hL hr hP hD hS hl kk)
      · exact lv_tableIn (tgt := 808) (off := 776) hx hb dL_law_32 (by decide +kernel) (by decide +kernel) (by rfl) (by decide) (L_30 hh hX hbl hbA hi3 hL hr hP hD hS hl kk)
      · exact lv_tableIn (tgt := 831) (off := 799) hx hb dL_law_32 (by decide +kernel) (by decide +kernel) (by rfl) (by decide) (L_31 hh hX hbl hbA hi3 hL hr hP hD hS hl kk)
