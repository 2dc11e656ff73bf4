def rm_X7_init : Room := { frames := 3, cells := 11, slots := 3321, locals := 110 }
theorem iX7_init_7 : ∀ w ∈ u_ws RX7 TX7 18, w ∈ wsX7_init := fun w h => (List.mem_cons_of_mem _ (List.mem_append_right _ h))
def mInit : Mst := (hGoes (hIs (hGoes (hIs (hGoes (hIs (hIs (hIs (hIs (hGoes (hIs (hGoes (hIs (hIs (hGoes (hIs (hIs (hIs (hIs (hIs (hIs m0 0 0 20000 1000 107 112 0 0) 1 0 20000 100 107 105 0 0) 2 (-5000) 5000 1000 103 97 105 110) 3 0 999 800 108 97 103 0) 4 0 300 50 100 101 97 100) 5 (-5000) 5000 1000 109 103 97 105) 5 110 0 0 0) 6 0 999 800 109 108 97 103) 7 0 300 50 109 100 101 97) 7 100 0 0 0) 8 0 999 0 102 105 108 116) 8 101 114 0 0) 9 (-100000) 0 (-50000) 117 109 105 110) 10 0 100000 50000 117 109 97 120) 11 1 200000 200000 114 97 116 101) 12 0 100000 5000 108 105 109 105) 12 116 0 0 0) 13 1 50 5 112 97 116 105) 13 101 110 99 101) 14 0 1000 0 110 111 105 115) 14 101 0 0 0)
set_option maxHeartbeats 4000000 in
set_option maxRecDepth 100000 in
theorem c_X7_init (Γ : gT) (l : Launch) (h0 : Nat) : Cn Γ l yX7_init wsX7_init rm_X7_init h0 [(h0, .inr (7, [.null, .null, .null, .int 0, .null, .null, .null, .int 0, .null, .null, .null, .int 0, .null, .null, .int 0, .int 0, .int 0, .int 0]))] 11 3321 (fun a => modW Γ a 0 mInit) := by
  refine Cn.of (cc := cX7_init) (own := RX7) (nL := 1) (ret := none) (by decide +kernel) rfl rfl rfl (Nat.le_of_ble_eq_true rfl) ?_
  intro p e s m args below meth c A Q ls ha hAe hQ hx hb hml hr hts hown hlk hin hP hK hD hS hA hG hO hl
  obtain ⟨H, hHe⟩ : ∃ H : Heap, H = s.heap := ⟨_, rfl⟩
  rw [← hHe] at hP ⊢
  have hS : va_S A s.heap H [] := by rw [hHe]; exact hS
  have hh : Hd Γ p s m args c cX7_init RX7 1 wsX7_init A := ⟨⟨hx, hb, hml, hown, hts⟩, hK, hA, hG⟩
  refine lv_aload_n hx hb dX7_init_0 rfl (lv_at hl 0 rfl) ?_
  refine W.objInit hx hb hown (hts (.methodLink RX7 1 objectInit) (List.mem_of_getElem? (i := 1) rfl)) (hts (.instanceMethod objectInit) (List.mem_of_getElem? (i := 2) rfl)) (hts (.code objectInit ⟨#[0xb1]⟩ 1 none) (List.mem_of_getElem? (i := 3) rfl)) rfl (by rw [hml]; exact hl.1) rfl dX7_init_1 (Nat.le_of_ble_eq_true rfl) (Nat.le_of_ble_eq_true rfl) ?_
  refine W.eq (g2 := F0 m 4 ls []) rfl ?_
  refine lv_aload_n hx hb dX7_init_4 rfl (lv_at hl 0 rfl) ?_
  refine lv_sipush (v := 681) hx hb dX7_init_5 (by decide) ?_
  refine na_l (N := 681) hh (hts (.arrayClass .long) (List.mem_of_getElem? (i := 4) rfl)) hP hD hS (by decide) (by decide) (by decide) (Nat.le_of_ble_eq_true rfl) (Nat.le_of_ble_eq_true rfl) dX7_init_8 (fun q8 H hP hD hS => ?_)
  have hP : va_P (gD Γ) vwCl (([(h0, .inr (7, [.null, .null, .null, .int 0, .null, .null, .null, .int 0, .null, .null, .null, .int 0, .null, .null, .int 0, .int 0, .int 0, .int 0]))] : va_W) ++ [(q8, .inl (cL Γ, 681, .inr (.inl (fun _ => 0))))]) H := hP
  have hD : va_D A (([(h0, .inr (7, [.null, .null, .null, .int 0, .null, .null, .null, .int 0, .null, .null, .null, .int 0, .null, .null, .int 0, .int 0, .int 0, .int 0]))] : va_W) ++ [(q8, .inl (cL Γ, 681, .inr (.inl (fun _ => 0))))]) := hD
  refine va_putF (D := gD Γ) (cl := vwCl) (tys := gTy Γ) (ci := 7) (v := .ref q8) (ty := tyX7 0) (C := RX7) (T := TX7) (N := 18) hx hb hts iX7_init_7 tyX7 tyX7_ok nmX7 hown hK hP hD hS 0 rfl rfl 0 (Nat.le_of_ble_eq_true rfl) (hts (.fieldLink RX7 7 "DeadTimeLoopModel" "now" "[J") (List.mem_of_getElem? (i := 5) rfl)) (fun _ h9 => h9) rfl hin rfl (tyX7_ok 0 (Nat.le_of_ble_eq_true rfl)) rfl rfl (Nat.le_of_ble_eq_true rfl) dX7_init_10 (fun H locs hP hD hS => ?_)
  have hP : va_P (gD Γ) vwCl (([(h0, .inr (7, [.ref q8, .null, .null, .int 0, .null, .null, .null, .int 0, .null, .null, .null, .int 0, .null, .null, .int 0, .int 0, .int 0, .int 0]))] : va_W) ++ [(q8, .inl (cL Γ, 681, .inr (.inl (fun _ => 0))))]) H := hP
  have hD : va_D A (([(h0, .inr (7, [.ref q8, .null, .null, .int 0, .null, .null, .null, .int 0, .null, .null, .null, .int 0, .null, .null, .int 0, .int 0, .int 0, .int 0]))] : va_W) ++ [(q8, .inl (cL Γ, 681, .inr (.inl (fun _ => 0))))]) := hD
  refine lv_aload_n hx hb dX7_init_13 rfl (lv_at hl 0 rfl) ?_
  refine lv_sipush (v := 681) hx hb dX7_init_14 (by decide) ?_
  refine na_l (N := 681) hh (hts (.arrayClass .long) (List.mem_of_getElem? (i := 4) rfl)) hP hD hS (by decide) (by decide) (by decide) (Nat.le_of_ble_eq_true rfl) (Nat.le_of_ble_eq_true rfl) dX7_init_17 (fun q17 H hP hD hS => ?_)
  have hP : va_P (gD Γ) vwCl ((([(h0, .inr (7, [.ref q8, .null, .null, .int 0, .null, .null, .null, .int 0, .null, .null, .null, .int 0, .null, .null, .int 0, .int 0, .int 0, .int 0]))] : va_W) ++ [(q8, .inl (cL Γ, 681, .inr (.inl (fun _ => 0))))]) ++ [(q17, .inl (cL Γ, 681, .inr (.inl (fun _ => 0))))]) H := hP
  have hD : va_D A ((([(h0, .inr (7, [.ref q8, .null, .null, .int 0, .null, .null, .null, .int 0, .null, .null, .null, .int 0, .null, .null, .int 0, .int 0, .int 0, .int 0]))] : va_W) ++ [(q8, .inl (cL Γ, 681, .inr (.inl (fun _ => 0))))]) ++ [(q17, .inl (cL Γ, 681, .inr (.inl (fun _ => 0))))]) := hD
  refine va_putF (D := gD Γ) (cl := vwCl) (tys := gTy Γ) (ci := 7) (v := .ref q17) (ty := tyX7 1) (C := RX7) (T := TX7) (N := 18) hx hb hts iX7_init_7 tyX7 tyX7_ok nmX7 hown hK hP hD hS 0 rfl rfl 1 (Nat.le_of_ble_eq_true rfl) (hts (.fieldLink RX7 13 "DeadTimeLoopModel" "aside" "[J") (List.mem_of_getElem? (i := 6) rfl)) (fun _ h9 => h9) rfl hin rfl (tyX7_ok 1 (Nat.le_of_ble_eq_true rfl)) rfl rfl (Nat.le_of_ble_eq_true rfl) dX7_init_19 (fun H locs hP hD hS => ?_)
  have hP : va_P (gD Γ) vwCl ((([(h0, .inr (7, [.ref q8, .ref q17, .null, .int 0, .null, .null, .null, .int 0, .null, .null, .null, .int 0, .null, .null, .int 0, .int 0, .int 0, .int 0]))] : va_W) ++ [(q8, .inl (cL Γ, 681, .inr (.inl (fun _ => 0))))]) ++ [(q17, .inl (cL Γ, 681, .inr (.inl (fun _ => 0))))]) H := hP
  have hD : va_D A ((([(h0, .inr (7, [.ref q8, .ref q17, .null, .int 0, .null, .null, .null, .int 0, .null, .null, .null, .int 0, .null, .null, .int 0, .int 0, .int 0, .int 0]))] : va_W) ++ [(q8, .inl (cL Γ, 681, .inr (.inl (fun _ => 0))))]) ++ [(q17, .inl (cL Γ, 681, .inr (.inl (fun _ => 0))))]) := hD
  refine lv_aload_n hx hb dX7_init_22 rfl (lv_at hl 0 rfl) ?_
  refine lv_sipush (v := 1362) hx hb dX7_init_23 (by decide) ?_
  refine na_l (N := 1362) hh (hts (.arrayClass .long) (List.mem_of_getElem? (i := 4) rfl)) hP hD hS (by decide) (by decide) (by decide) (Nat.le_of_ble_eq_true rfl) (Nat.le_of_ble_eq_true rfl) dX7_init_26 (fun q26 H hP hD hS => ?_)
  have hP : va_P (gD Γ) vwCl (((([(h0, .inr (7, [.ref q8, .ref q17, .null, .int 0, .null, .null, .null, .int 0, .null, .null, .null, .int 0, .null, .null, .int 0, .int 0, .int 0, .int 0]))] : va_W) ++ [(q8, .inl (cL Γ, 681, .inr (.inl (fun _ => 0))))]) ++ [(q17, .inl (cL Γ, 681, .inr (.inl (fun _ => 0))))]) ++ [(q26, .inl (cL Γ, 1362, .inr (.inl (fun _ => 0))))]) H := hP
  have hD : va_D A (((([(h0, .inr (7, [.ref q8, .ref q17, .null, .int 0, .null, .null, .null, .int 0, .null, .null, .null, .int 0, .null, .null, .int 0, .int 0, .int 0, .int 0]))] : va_W) ++ [(q8, .inl (cL Γ, 681, .inr (.inl (fun _ => 0))))]) ++ [(q17, .inl (cL Γ, 681, .inr (.inl (fun _ => 0))))]) ++ [(q26, .inl (cL Γ, 1362, .inr (.inl (fun _ => 0))))]) := hD
  refine va_putF (D := gD Γ) (cl := vwCl) (tys := gTy Γ) (ci := 7) (v := .ref q26) (ty := tyX7 2) (C := RX7) (T := TX7) (N := 18) hx hb hts iX7_init_7 tyX7 tyX7_ok nmX7 hown hK hP hD hS 0 rfl rfl 2 (Nat.le_of_ble_eq_true rfl) (hts (.fieldLink RX7 16 "DeadTimeLoopModel" "kept" "[J") (List.mem_of_getElem? (i := 7) rfl)) (fun _ h9 => h9) rfl hin rfl (tyX7_ok 2 (Nat.le_of_ble_eq_true rfl)) rfl rfl (Nat.le_of_ble_eq_true rfl) dX7_init_28 (fun H locs hP hD hS => ?_)
  have hP : va_P (gD Γ) vwCl (((([(h0, .inr (7, [.ref q8, .ref q17, .ref q26, .int 0, .null, .null, .null, .int 0, .null, .null, .null, .int 0, .null, .null, .int 0, .int 0, .int 0, .int 0]))] : va_W) ++ [(q8, .inl (cL Γ, 681, .inr (.inl (fun _ => 0))))]) ++ [(q17, .inl (cL Γ, 681, .inr (.inl (fun _ => 0))))]) ++ [(q26, .inl (cL Γ, 1362, .inr (.inl (fun _ => 0))))]) H := hP
  have hD : va_D A (((([(h0, .inr (7, [.ref q8, .ref q17, .ref q26, .int 0, .null, .null, .null, .int 0, .null, .null, .null, .int 0, .null, .null, .int 0, .int 0, .int 0, .int 0]))] : va_W) ++ [(q8, .inl (cL Γ, 681, .inr (.inl (fun _ => 0))))]) ++ [(q17, .inl (cL Γ, 681, .inr (.inl (fun _ => 0))))]) ++ [(q26, .inl (cL Γ, 1362, .inr (.inl (fun _ => 0))))]) := hD
  refine lv_aload_n hx hb dX7_init_31 rfl (lv_at hl 0 rfl) ?_
  refine lv_bipush (v := 15) hx hb dX7_init_32 (by decide) ?_
  refine na_i (N := 15) hh (hts (.arrayClass .int) (List.mem_of_getElem? (i := 8) rfl)) hP hD hS (by decide) (by decide) (by decide) (Nat.le_of_ble_eq_true rfl) (Nat.le_of_ble_eq_true rfl) dX7_init_34 (fun q34 H hP hD hS => ?_)
  have hP : va_P (gD Γ) vwCl ((((([(h0, .inr (7, [.ref q8, .ref q17, .ref q26, .int 0, .null, .null, .null, .int 0, .null, .null, .null, .int 0, .null, .null, .int 0, .int 0, .int 0, .int 0]))] : va_W) ++ [(q8, .inl (cL Γ, 681, .inr (.inl (fun _ => 0))))]) ++ [(q17, .inl (cL Γ, 681, .inr (.inl (fun _ => 0))))]) ++ [(q26, .inl (cL Γ, 1362, .inr (.inl (fun _ => 0))))]) ++ [(q34, .inl (cI Γ, 15, .inl (fun _ => 0)))]) H := hP
  have hD : va_D A ((((([(h0, .inr (7, [.ref q8, .ref q17, .ref q26, .int 0, .null, .null, .null, .int 0, .null, .null, .null, .int 0, .null, .null, .int 0, .int 0, .int 0, .int 0]))] : va_W) ++ [(q8, .inl (cL Γ, 681, .inr (.inl (fun _ => 0))))]) ++ [(q17, .inl (cL Γ, 681, .inr (.inl (fun _ => 0))))]) ++ [(q26, .inl (cL Γ, 1362, .inr (.inl (fun _ => 0))))]) ++ [(q34, .inl (cI Γ, 15, .inl (fun _ => 0)))]) := hD
  refine va_putF (D := gD Γ) (cl := vwCl) (tys := gTy Γ) (ci := 7) (v := .ref q34) (ty := tyX7 4) (C := RX7) (T := TX7) (N := 18) hx hb hts iX7_init_7 tyX7 tyX7_ok nmX7 hown hK hP hD hS 0 rfl rfl 4 (Nat.le_of_ble_eq_true rfl) (hts (.fieldLink RX7 19 "DeadTimeLoopModel" "par" "[I") (List.mem_of_getElem? (i := 9) rfl)) (fun _ h9 => h9) rfl hin rfl (tyX7_ok 4 (Nat.le_of_ble_eq_true rfl)) rfl rfl (Nat.le_of_ble_eq_true rfl) dX7_init_36 (fun H locs hP hD hS => ?_)
  have hP : va_P (gD Γ) vwCl ((((([(h0, .inr (7, [.ref q8, .ref q17, .ref q26, .int 0, .ref q34, .null, .null, .int 0, .null, .null, .null, .int 0, .null, .null, .int 0, .int 0, .int 0, .int 0]))] : va_W) ++ [(q8, .inl (cL Γ, 681, .inr (.inl (fun _ => 0))))]) ++ [(q17, .inl (cL Γ, 681, .inr (.inl (fun _ => 0))))]) ++ [(q26, .inl (cL Γ, 1362, .inr (.inl (fun _ => 0))))]) ++ [(q34, .inl (cI Γ, 15, .inl (fun _ => 0)))]) H := hP
  have hD : va_D A ((((([(h0, .inr (7, [.ref q8, .ref q17, .ref q26, .int 0, .ref q34, .null, .null, .int 0, .null, .null, .null, .int 0, .null, .null, .int 0, .int 0, .int 0, .int 0]))] : va_W) ++ [(q8, .inl (cL Γ, 681, .inr (.inl (fun _ => 0))))]) ++ [(q17, .inl (cL Γ, 681, .inr (.inl (fun _ => 0))))]) ++ [(q26, .inl (cL Γ, 1362, .inr (.inl (fun _ => 0))))]) ++ [(q34, .inl (cI Γ, 15, .inl (fun _ => 0)))]) := hD
  refine lv_aload_n hx hb dX7_init_39 rfl (lv_at hl 0 rfl) ?_
  refine lv_bipush (v := 15) hx hb dX7_init_40 (by decide) ?_
  refine na_i (N := 15) hh (hts (.arrayClass .int) (List.mem_of_getElem? (i := 8) rfl)) hP hD hS (by decide) (by decide) (by decide) (Nat.le_of_ble_eq_true rfl) (Nat.le_of_ble_eq_true rfl) dX7_init_42 (fun q42 H hP hD hS => ?_)
  have hP : va_P (gD Γ) vwCl (((((([(h0, .inr (7, [.ref q8, .ref q17, .ref q26, .int 0, .ref q34, .null, .null, .int 0, .null, .null, .null, .int 0, .null, .null, .int 0, .int 0, .int 0, .int 0]))] : va_W) ++ [(q8, .inl (cL Γ, 681, .inr (.inl (fun _ => 0))))]) ++ [(q17, .inl (cL Γ, 681, .inr (.inl (fun _ => 0))))]) ++ [(q26, .inl (cL Γ, 1362, .inr (.inl (fun _ => 0))))]) ++ [(q34, .inl (cI Γ, 15, .inl (fun _ => 0)))]) ++ [(q42, .inl (cI Γ, 15, .inl (fun _ => 0)))]) H := hP
  have hD : va_D A (((((([(h0, .inr (7, [.ref q8, .ref q17, .ref q26, .int 0, .ref q34, .null, .null, .int 0, .null, .null, .null, .int 0, .null, .null, .int 0, .int 0, .int 0, .int 0]))] : va_W) ++ [(q8, .inl (cL Γ, 681, .inr (.inl (fun _ => 0))))]) ++ [(q17, .inl (cL Γ, 681, .inr (.inl (fun _ => 0))))]) ++ [(q26, .inl (cL Γ, 1362, .inr (.inl (fun _ => 0))))]) ++ [(q34, .inl (cI Γ, 15, .inl (fun _ => 0)))]) ++ [(q42, .inl (cI Γ, 15, .inl (fun _ => 0)))]) := hD
  refine va_putF (D := gD Γ) (cl := vwCl) (tys := gTy Γ) (ci := 7) (v := .ref q42) (ty := tyX7 5) (C := RX7) (T := TX7) (N := 18) hx hb hts iX7_init_7 tyX7 tyX7_ok nmX7 hown hK hP hD hS 0 rfl rfl 5 (Nat.le_of_ble_eq_true rfl) (hts (.fieldLink RX7 23 "DeadTimeLoopModel" "parAside" "[I") (List.mem_of_getElem? (i := 10) rfl)) (fun _ h9 => h9) rfl hin rfl (tyX7_ok 5 (Nat.le_of_ble_eq_true rfl)) rfl rfl (Nat.le_of_ble_eq_true rfl) dX7_init_44 (fun H locs hP hD hS => ?_)
  have hP : va_P (gD Γ) vwCl (((((([(h0, .inr (7, [.ref q8, .ref q17, .ref q26, .int 0, .ref q34, .ref q42, .null, .int 0, .null, .null, .null, .int 0, .null, .null, .int 0, .int 0, .int 0, .int 0]))] : va_W) ++ [(q8, .inl (cL Γ, 681, .inr (.inl (fun _ => 0))))]) ++ [(q17, .inl (cL Γ, 681, .inr (.inl (fun _ => 0))))]) ++ [(q26, .inl (cL Γ, 1362, .inr (.inl (fun _ => 0))))]) ++ [(q34, .inl (cI Γ, 15, .inl (fun _ => 0)))]) ++ [(q42, .inl (cI Γ, 15, .inl (fun _ => 0)))]) H := hP
  have hD : va_D A (((((([(h0, .inr (7, [.ref q8, .ref q17, .ref q26, .int 0, .ref q34, .ref q42, .null, .int 0, .null, .null, .null, .int 0, .null, .null, .int 0, .int 0, .int 0, .int 0]))] : va_W) ++ [(q8, .inl (cL Γ, 681, .inr (.inl (fun _ => 0))))]) ++ [(q17, .inl (cL Γ, 681, .inr (.inl (fun _ => 0))))]) ++ [(q26, .inl (cL Γ, 1362, .inr (.inl (fun _ => 0))))]) ++ [(q34, .inl (cI Γ, 15, .inl (fun _ => 0)))]) ++ [(q42, .inl (cI Γ, 15, .inl (fun _ => 0)))]) := hD
  refine lv_aload_n hx hb dX7_init_47 rfl (lv_at hl 0 rfl) ?_
  refine lv_bipush (v := 90) hx hb dX7_init_48 (by decide) ?_
  refine na_i (N := 90) hh (hts (.arrayClass .int) (List.mem_of_getElem? (i := 8) rfl)) hP hD hS (by decide) (by decide) (by decide) (Nat.le_of_ble_eq_true rfl) (Nat.le_of_ble_eq_true rfl) dX7_init_50 (fun q50 H hP hD hS => ?_)
  have hP : va_P (gD Γ) vwCl ((((((([(h0, .inr (7, [.ref q8, .ref q17, .ref q26, .int 0, .ref q34, .ref q42, .null, .int 0, .null, .null, .null, .int 0, .null, .null, .int 0, .int 0, .int 0, .int 0]))] : va_W) ++ [(q8, .inl (cL Γ, 681, .inr (.inl (fun _ => 0))))]) ++ [(q17, .inl (cL Γ, 681, .inr (.inl (fun _ => 0))))]) ++ [(q26, .inl (cL Γ, 1362, .inr (.inl (fun _ => 0))))]) ++ [(q34, .inl (cI Γ, 15, .inl (fun _ => 0)))]) ++ [(q42, .inl (cI Γ, 15, .inl (fun _ => 0)))]) ++ [(q50, .inl (cI Γ, 90, .inl (fun _ => 0)))]) H := hP
  have hD : va_D A ((((((([(h0, .inr (7, [.ref q8, .ref q17, .ref q26, .int 0, .ref q34, .ref q42, .null, .int 0, .null, .null, .null, .int 0, .null, .null, .int 0, .int 0, .int 0, .int 0]))] : va_W) ++ [(q8, .inl (cL Γ, 681, .inr (.inl (fun _ => 0))))]) ++ [(q17, .inl (cL Γ, 681, .inr (.inl (fun _ => 0))))]) ++ [(q26, .inl (cL Γ, 1362, .inr (.inl (fun _ => 0))))]) ++ [(q34, .inl (cI Γ, 15, .inl (fun _ => 0)))]) ++ [(q42, .inl (cI Γ, 15, .inl (fun _ => 0)))]) ++ [(q50, .inl (cI Γ, 90, .inl (fun _ => 0)))]) := hD
  refine va_putF (D := gD Γ) (cl := vwCl) (tys := gTy Γ) (ci := 7) (v := .ref q50) (ty := tyX7 6) (C := RX7) (T := TX7) (N := 18) hx hb hts iX7_init_7 tyX7 tyX7_ok nmX7 hown hK hP hD hS 0 rfl rfl 6 (Nat.le_of_ble_eq_true rfl) (hts (.fieldLink RX7 26 "DeadTimeLoopModel" "before" "[I") (List.mem_of_getElem? (i := 11) rfl)) (fun _ h9 => h9) rfl hin rfl (tyX7_ok 6 (Nat.le_of_ble_eq_true rfl)) rfl rfl (Nat.le_of_ble_eq_true rfl) dX7_init_52 (fun H locs hP hD hS => ?_)
  have hP : va_P (gD Γ) vwCl ((((((([(h0, .inr (7, [.ref q8, .ref q17, .ref q26, .int 0, .ref q34, .ref q42, .ref q50, .int 0, .null, .null, .null, .int 0, .null, .null, .int 0, .int 0, .int 0, .int 0]))] : va_W) ++ [(q8, .inl (cL Γ, 681, .inr (.inl (fun _ => 0))))]) ++ [(q17, .inl (cL Γ, 681, .inr (.inl (fun _ => 0))))]) ++ [(q26, .inl (cL Γ, 1362, .inr (.inl (fun _ => 0))))]) ++ [(q34, .inl (cI Γ, 15, .inl (fun _ => 0)))]) ++ [(q42, .inl (cI Γ, 15, .inl (fun _ => 0)))]) ++ [(q50, .inl (cI Γ, 90, .inl (fun _ => 0)))]) H := hP
  have hD : va_D A ((((((([(h0, .inr (7, [.ref q8, .ref q17, .ref q26, .int 0, .ref q34, .ref q42, .ref q50, .int 0, .null, .null, .null, .int 0, .null, .null, .int 0, .int 0, .int 0, .int 0]))] : va_W) ++ [(q8, .inl (cL Γ, 681, .inr (.inl (fun _ => 0))))]) ++ [(q17, .inl (cL Γ, 681, .inr (.inl (fun _ => 0))))]) ++ [(q26, .inl (cL Γ, 1362, .inr (.inl (fun _ => 0))))]) ++ [(q34, .inl (cI Γ, 15, .inl (fun _ => 0)))]) ++ [(q42, .inl (cI Γ, 15, .inl (fun _ => 0)))]) ++ [(q50, .inl (cI Γ, 90, .inl (fun _ => 0)))]) := hD
  refine lv_aload_n hx hb dX7_init_55 rfl (lv_at hl 0 rfl) ?_
  refine lv_bipush (v := 15) hx hb dX7_init_56 (by decide) ?_
  refine na_i (N := 15) hh (hts (.arrayClass .int) (List.mem_of_getElem? (i := 8) rfl)) hP hD hS (by decide) (by decide) (by decide) (Nat.le_of_ble_eq_true rfl) (Nat.le_of_ble_eq_true rfl) dX7_init_58 (fun q58 H hP hD hS => ?_)
  have hP : va_P (gD Γ) vwCl (((((((([(h0, .inr (7, [.ref q8, .ref q17, .ref q26, .int 0, .ref q34, .ref q42, .ref q50, .int 0, .null, .null, .null, .int 0, .null, .null, .int 0, .int 0, .int 0, .int 0]))] : va_W) ++ [(q8, .inl (cL Γ, 681, .inr (.inl (fun _ => 0))))]) ++ [(q17, .inl (cL Γ, 681, .inr (.inl (fun _ => 0))))]) ++ [(q26, .inl (cL Γ, 1362, .inr (.inl (fun _ => 0))))]) ++ [(q34, .inl (cI Γ, 15, .inl (fun _ => 0)))]) ++ [(q42, .inl (cI Γ, 15, .inl (fun _ => 0)))]) ++ [(q50, .inl (cI Γ, 90, .inl (fun _ => 0)))]) ++ [(q58, .inl (cI Γ, 15, .inl (fun _ => 0)))]) H := hP
  have hD : va_D A (((((((([(h0, .inr (7, [.ref q8, .ref q17, .ref q26, .int 0, .ref q34, .ref q42, .ref q50, .int 0, .null, .null, .null, .int 0, .null, .null, .int 0, .int 0, .int 0, .int 0]))] : va_W) ++ [(q8, .inl (cL Γ, 681, .inr (.inl (fun _ => 0))))]) ++ [(q17, .inl (cL Γ, 681, .inr (.inl (fun _ => 0))))]) ++ [(q26, .inl (cL Γ, 1362, .inr (.inl (fun _ => 0))))]) ++ [(q34, .inl (cI Γ, 15, .inl (fun _ => 0)))]) ++ [(q42, .inl (cI Γ, 15, .inl (fun _ => 0)))]) ++ [(q50, .inl (cI Γ, 90, .inl (fun _ => 0)))]) ++ [(q58, .inl (cI Γ, 15, .inl (fun _ => 0)))]) := hD
  refine va_putF (D := gD Γ) (cl := vwCl) (tys := gTy Γ) (ci := 7) (v := .ref q58) (ty := tyX7 8) (C := RX7) (T := TX7) (N := 18) hx hb hts iX7_init_7 tyX7 tyX7_ok nmX7 hown hK hP hD hS 0 rfl rfl 8 (Nat.le_of_ble_eq_true rfl) (hts (.fieldLink RX7 29 "DeadTimeLoopModel" "low" "[I") (List.mem_of_getElem? (i := 12) rfl)) (fun _ h9 => h9) rfl hin rfl (tyX7_ok 8 (Nat.le_of_ble_eq_true rfl)) rfl rfl (Nat.le_of_ble_eq_true rfl) dX7_init_60 (fun H locs hP hD hS => ?_)
  have hP : va_P (gD Γ) vwCl (((((((([(h0, .inr (7, [.ref q8, .ref q17, .ref q26, .int 0, .ref q34, .ref q42, .ref q50, .int 0, .ref q58, .null, .null, .int 0, .null, .null, .int 0, .int 0, .int 0, .int 0]))] : va_W) ++ [(q8, .inl (cL Γ, 681, .inr (.inl (fun _ => 0))))]) ++ [(q17, .inl (cL Γ, 681, .inr (.inl (fun _ => 0))))]) ++ [(q26, .inl (cL Γ, 1362, .inr (.inl (fun _ => 0))))]) ++ [(q34, .inl (cI Γ, 15, .inl (fun _ => 0)))]) ++ [(q42, .inl (cI Γ, 15, .inl (fun _ => 0)))]) ++ [(q50, .inl (cI Γ, 90, .inl (fun _ => 0)))]) ++ [(q58, .inl (cI Γ, 15, .inl (fun _ => 0)))]) H := hP
  have hD : va_D A (((((((([(h0, .inr (7, [.ref q8, .ref q17, .ref q26, .int 0, .ref q34, .ref q42, .ref q50, .int 0, .ref q58, .null, .null, .int 0, .null, .null, .int 0, .int 0, .int 0, .int 0]))] : va_W) ++ [(q8, .inl (cL Γ, 681, .inr (.inl (fun _ => 0))))]) ++ [(q17, .inl (cL Γ, 681, .inr (.inl (fun _ => 0))))]) ++ [(q26, .inl (cL Γ, 1362, .inr (.inl (fun _ => 0))))]) ++ [(q34, .inl (cI Γ, 15, .inl (fun _ => 0)))]) ++ [(q42, .inl (cI Γ, 15, .inl (fun _ => 0)))]) ++ [(q50, .inl (cI Γ, 90, .inl (fun _ => 0)))]) ++ [(q58, .inl (cI Γ, 15, .inl (fun _ => 0)))]) := hD
  refine lv_aload_n hx hb dX7_init_63 rfl (lv_at hl 0 rfl) ?_
  refine lv_bipush (v := 15) hx hb dX7_init_64 (by decide) ?_
  refine na_i (N := 15) hh (hts (.arrayClass .int) (List.mem_of_getElem? (i := 8) rfl)) hP hD hS (by decide) (by decide) (by decide) (Nat.le_of_ble_eq_true rfl) (Nat.le_of_ble_eq_true rfl) dX7_init_66 (fun q66 H hP hD hS => ?_)
  have hP : va_P (gD Γ) vwCl ((((((((([(h0, .inr (7, [.ref q8, .ref q17, .ref q26, .int 0, .ref q34, .ref q42, .ref q50, .int 0, .ref q58, .null, .null, .int 0, .null, .null, .int 0, .int 0, .int 0, .int 0]))] : va_W) ++ [(q8, .inl (cL Γ, 681, .inr (.inl (fun _ => 0))))]) ++ [(q17, .inl (cL Γ, 681, .inr (.inl (fun _ => 0))))]) ++ [(q26, .inl (cL Γ, 1362, .inr (.inl (fun _ => 0))))]) ++ [(q34, .inl (cI Γ, 15, .inl (fun _ => 0)))]) ++ [(q42, .inl (cI Γ, 15, .inl (fun _ => 0)))]) ++ [(q50, .inl (cI Γ, 90, .inl (fun _ => 0)))]) ++ [(q58, .inl (cI Γ, 15, .inl (fun _ => 0)))]) ++ [(q66, .inl (cI Γ, 15, .inl (fun _ => 0)))]) H := hP
  have hD : va_D A ((((((((([(h0, .inr (7, [.ref q8, .ref q17, .ref q26, .int 0, .ref q34, .ref q42, .ref q50, .int 0, .ref q58, .null, .null, .int 0, .null, .null, .int 0, .int 0, .int 0, .int 0]))] : va_W) ++ [(q8, .inl (cL Γ, 681, .inr (.inl (fun _ => 0))))]) ++ [(q17, .inl (cL Γ, 681, .inr (.inl (fun _ => 0))))]) ++ [(q26, .inl (cL Γ, 1362, .inr (.inl (fun _ => 0))))]) ++ [(q34, .inl (cI Γ, 15, .inl (fun _ => 0)))]) ++ [(q42, .inl (cI Γ, 15, .inl (fun _ => 0)))]) ++ [(q50, .inl (cI Γ, 90, .inl (fun _ => 0)))]) ++ [(q58, .inl (cI Γ, 15, .inl (fun _ => 0)))]) ++ [(q66, .inl (cI Γ, 15, .inl (fun _ => 0)))]) := hD
  refine va_putF (D := gD Γ) (cl := vwCl) (tys := gTy Γ) (ci := 7) (v := .ref q66) (ty := tyX7 9) (C := RX7) (T := TX7) (N := 18) hx hb hts iX7_init_7 tyX7 tyX7_ok nmX7 hown hK hP hD hS 0 rfl rfl 9 (Nat.le_of_ble_eq_true rfl) (hts (.fieldLink RX7 32 "DeadTimeLoopModel" "high" "[I") (List.mem_of_getElem? (i := 13) rfl)) (fun _ h9 => h9) rfl hin rfl (tyX7_ok 9 (Nat.le_of_ble_eq_true rfl)) rfl rfl (Nat.le_of_ble_eq_true rfl) dX7_init_68 (fun H locs hP hD hS => ?_)
  have hP : va_P (gD Γ) vwCl ((((((((([(h0, .inr (7, [.ref q8, .ref q17, .ref q26, .int 0, .ref q34, .ref q42, .ref q50, .int 0, .ref q58, .ref q66, .null, .int 0, .null, .null, .int 0, .int 0, .int 0, .int 0]))] : va_W) ++ [(q8, .inl (cL Γ, 681, .inr (.inl (fun _ => 0))))]) ++ [(q17, .inl (cL Γ, 681, .inr (.inl (fun _ => 0))))]) ++ [(q26, .inl (cL Γ, 1362, .inr (.inl (fun _ => 0))))]) ++ [(q34, .inl (cI Γ, 15, .inl (fun _ => 0)))]) ++ [(q42, .inl (cI Γ, 15, .inl (fun _ => 0)))]) ++ [(q50, .inl (cI Γ, 90, .inl (fun _ => 0)))]) ++ [(q58, .inl (cI Γ, 15, .inl (fun _ => 0)))]) ++ [(q66, .inl (cI Γ, 15, .inl (fun _ => 0)))]) H := hP
  have hD : va_D A ((((((((([(h0, .inr (7, [.ref q8, .ref q17, .ref q26, .int 0, .ref q34, .ref q42, .ref q50, .int 0, .ref q58, .ref q66, .null, .int 0, .null, .null, .int 0, .int 0, .int 0, .int 0]))] : va_W) ++ [(q8, .inl (cL Γ, 681, .inr (.inl (fun _ => 0))))]) ++ [(q17, .inl (cL Γ, 681, .inr (.inl (fun _ => 0))))]) ++ [(q26, .inl (cL Γ, 1362, .inr (.inl (fun _ => 0))))]) ++ [(q34, .inl (cI Γ, 15, .inl (fun _ => 0)))]) ++ [(q42, .inl (cI Γ, 15, .inl (fun _ => 0)))]) ++ [(q50, .inl (cI Γ, 90, .inl (fun _ => 0)))]) ++ [(q58, .inl (cI Γ, 15, .inl (fun _ => 0)))]) ++ [(q66, .inl (cI Γ, 15, .inl (fun _ => 0)))]) := hD
  refine lv_aload_n hx hb dX7_init_71 rfl (lv_at hl 0 rfl) ?_
  refine lv_sipush (v := 135) hx hb dX7_init_72 (by decide) ?_
  refine na_i (N := 135) hh (hts (.arrayClass .int) (List.mem_of_getElem? (i := 8) rfl)) hP hD hS (by decide) (by decide) (by decide) (Nat.le_of_ble_eq_true rfl) (Nat.le_of_ble_eq_true rfl) dX7_init_75 (fun q75 H hP hD hS => ?_)
  have hP : va_P (gD Γ) vwCl (((((((((([(h0, .inr (7, [.ref q8, .ref q17, .ref q26, .int 0, .ref q34, .ref q42, .ref q50, .int 0, .ref q58, .ref q66, .null, .int 0, .null, .null, .int 0, .int 0, .int 0, .int 0]))] : va_W) ++ [(q8, .inl (cL Γ, 681, .inr (.inl (fun _ => 0))))]) ++ [(q17, .inl (cL Γ, 681, .inr (.inl (fun _ => 0))))]) ++ [(q26, .inl (cL Γ, 1362, .inr (.inl (fun _ => 0))))]) ++ [(q34, .inl (cI Γ, 15, .inl (fun _ => 0)))]) ++ [(q42, .inl (cI Γ, 15, .inl (fun _ => 0)))]) ++ [(q50, .inl (cI Γ, 90, .inl (fun _ => 0)))]) ++ [(q58, .inl (cI Γ, 15, .inl (fun _ => 0)))]) ++ [(q66, .inl (cI Γ, 15, .inl (fun _ => 0)))]) ++ [(q75, .inl (cI Γ, 135, .inl (fun _ => 0)))]) H := hP
  have hD : va_D A (((((((((([(h0, .inr (7, [.ref q8, .ref q17, .ref q26, .int 0, .ref q34, .ref q42, .ref q50, .int 0, .ref q58, .ref q66, .null, .int 0, .null, .null, .int 0, .int 0, .int 0, .int 0]))] : va_W) ++ [(q8, .inl (cL Γ, 681, .inr (.inl (fun _ => 0))))]) ++ [(q17, .inl (cL Γ, 681, .inr (.inl (fun _ => 0))))]) ++ [(q26, .inl (cL Γ, 1362, .inr (.inl (fun _ => 0))))]) ++ [(q34, .inl (cI Γ, 15, .inl (fun _ => 0)))]) ++ [(q42, .inl (cI Γ, 15, .inl (fun _ => 0)))]) ++ [(q50, .inl (cI Γ, 90, .inl (fun _ => 0)))]) ++ [(q58, .inl (cI Γ, 15, .inl (fun _ => 0)))]) ++ [(q66, .inl (cI Γ, 15, .inl (fun _ => 0)))]) ++ [(q75, .inl (cI Γ, 135, .inl (fun _ => 0)))]) := hD
  refine va_putF (D := gD Γ) (cl := vwCl) (tys := gTy Γ) (ci := 7) (v := .ref q75) (ty := tyX7 10) (C := RX7) (T := TX7) (N := 18) hx hb hts iX7_init_7 tyX7 tyX7_ok nmX7 hown hK hP hD hS 0 rfl rfl 10 (Nat.le_of_ble_eq_true rfl) (hts (.fieldLink RX7 35 "DeadTimeLoopModel" "names" "[I") (List.mem_of_getElem? (i := 14) rfl)) (fun _ h9 => h9) rfl hin rfl (tyX7_ok 10 (Nat.le_of_ble_eq_true rfl)) rfl rfl (Nat.le_of_ble_eq_true rfl) dX7_init_77 (fun H locs hP hD hS => ?_)
  have hP : va_P (gD Γ) vwCl (((((((((([(h0, .inr (7, [.ref q8, .ref q17, .ref q26, .int 0, .ref q34, .ref q42, .ref q50, .int 0, .ref q58, .ref q66, .ref q75, .int 0, .null, .null, .int 0, .int 0, .int 0, .int 0]))] : va_W) ++ [(q8, .inl (cL Γ, 681, .inr (.inl (fun _ => 0))))]) ++ [(q17, .inl (cL Γ, 681, .inr (.inl (fun _ => 0))))]) ++ [(q26, .inl (cL Γ, 1362, .inr (.inl (fun _ => 0))))]) ++ [(q34, .inl (cI Γ, 15, .inl (fun _ => 0)))]) ++ [(q42, .inl (cI Γ, 15, .inl (fun _ => 0)))]) ++ [(q50, .inl (cI Γ, 90, .inl (fun _ => 0)))]) ++ [(q58, .inl (cI Γ, 15, .inl (fun _ => 0)))]) ++ [(q66, .inl (cI Γ, 15, .inl (fun _ => 0)))]) ++ [(q75, .inl (cI Γ, 135, .inl (fun _ => 0)))]) H := hP
  have hD : va_D A (((((((((([(h0, .inr (7, [.ref q8, .ref q17, .ref q26, .int 0, .ref q34, .ref q42, .ref q50, .int 0, .ref q58, .ref q66, .ref q75, .int 0, .null, .null, .int 0, .int 0, .int 0, .int 0]))] : va_W) ++ [(q8, .inl (cL Γ, 681, .inr (.inl (fun _ => 0))))]) ++ [(q17, .inl (cL Γ, 681, .inr (.inl (fun _ => 0))))]) ++ [(q26, .inl (cL Γ, 1362, .inr (.inl (fun _ => 0))))]) ++ [(q34, .inl (cI Γ, 15, .inl (fun _ => 0)))]) ++ [(q42, .inl (cI Γ, 15, .inl (fun _ => 0)))]) ++ [(q50, .inl (cI Γ, 90, .inl (fun _ => 0)))]) ++ [(q58, .inl (cI Γ, 15, .inl (fun _ => 0)))]) ++ [(q66, .inl (cI Γ, 15, .inl (fun _ => 0)))]) ++ [(q75, .inl (cI Γ, 135, .inl (fun _ => 0)))]) := hD
  refine lv_aload_n hx hb dX7_init_80 rfl (lv_at hl 0 rfl) ?_
  refine lv_bipush (v := 80) hx hb dX7_init_81 (by decide) ?_
  refine na_i (N := 80) hh (hts (.arrayClass .int) (List.mem_of_getElem? (i := 8) rfl)) hP hD hS (by decide) (by decide) (by decide) (Nat.le_of_ble_eq_true rfl) (Nat.le_of_ble_eq_true rfl) dX7_init_83 (fun q83 H hP hD hS => ?_)
  have hP : va_P (gD Γ) vwCl ((((((((((([(h0, .inr (7, [.ref q8, .ref q17, .ref q26, .int 0, .ref q34, .ref q42, .ref q50, .int 0, .ref q58, .ref q66, .ref q75, .int 0, .null, .null, .int 0, .int 0, .int 0, .int 0]))] : va_W) ++ [(q8, .inl (cL Γ, 681, .inr (.inl (fun _ => 0))))]) ++ [(q17, .inl (cL Γ, 681, .inr (.inl (fun _ => 0))))]) ++ [(q26, .inl (cL Γ, 1362, .inr (.inl (fun _ => 0))))]) ++ [(q34, .inl (cI Γ, 15, .inl (fun _ => 0)))]) ++ [(q42, .inl (cI Γ, 15, .inl (fun _ => 0)))]) ++ [(q50, .inl (cI Γ, 90, .inl (fun _ => 0)))]) ++ [(q58, .inl (cI Γ, 15, .inl (fun _ => 0)))]) ++ [(q66, .inl (cI Γ, 15, .inl (fun _ => 0)))]) ++ [(q75, .inl (cI Γ, 135, .inl (fun _ => 0)))]) ++ [(q83, .inl (cI Γ, 80, .inl (fun _ => 0)))]) H := hP
  have hD : va_D A ((((((((((([(h0, .inr (7, [.ref q8, .ref q17, .ref q26, .int 0, .ref q34, .ref q42, .ref q50, .int 0, .ref q58, .ref q66, .ref q75, .int 0, .null, .null, .int 0, .int 0, .int 0, .int 0]))] : va_W) ++ [(q8, .inl (cL Γ, 681, .inr (.inl (fun _ => 0))))]) ++ [(q17, .inl (cL Γ, 681, .inr (.inl (fun _ => 0))))]) ++ [(q26, .inl (cL Γ, 1362, .inr (.inl (fun _ => 0))))]) ++ [(q34, .inl (cI Γ, 15, .inl (fun _ => 0)))]) ++ [(q42, .inl (cI Γ, 15, .inl (fun _ => 0)))]) ++ [(q50, .inl (cI Γ, 90, .inl (fun _ => 0)))]) ++ [(q58, .inl (cI Γ, 15, .inl (fun _ => 0)))]) ++ [(q66, .inl (cI Γ, 15, .inl (fun _ => 0)))]) ++ [(q75, .inl (cI Γ, 135, .inl (fun _ => 0)))]) ++ [(q83, .inl (cI Γ, 80, .inl (fun _ => 0)))]) := hD
  refine va_putF (D := gD Γ) (cl := vwCl) (tys := gTy Γ) (ci := 7) (v := .ref q83) (ty := tyX7 12) (C := RX7) (T := TX7) (N := 18) hx hb hts iX7_init_7 tyX7 tyX7_ok nmX7 hown hK hP hD hS 0 rfl rfl 12 (Nat.le_of_ble_eq_true rfl) (hts (.fieldLink RX7 38 "DeadTimeLoopModel" "text" "[I") (List.mem_of_getElem? (i := 15) rfl)) (fun _ h9 => h9) rfl hin rfl (tyX7_ok 12 (Nat.le_of_ble_eq_true rfl)) rfl rfl (Nat.le_of_ble_eq_true rfl) dX7_init_85 (fun H locs hP hD hS => ?_)
  have hP : va_P (gD Γ) vwCl ((((((((((([(h0, .inr (7, [.ref q8, .ref q17, .ref q26, .int 0, .ref q34, .ref q42, .ref q50, .int 0, .ref q58, .ref q66, .ref q75, .int 0, .ref q83, .null, .int 0, .int 0, .int 0, .int 0]))] : va_W) ++ [(q8, .inl (cL Γ, 681, .inr (.inl (fun _ => 0))))]) ++ [(q17, .inl (cL Γ, 681, .inr (.inl (fun _ => 0))))]) ++ [(q26, .inl (cL Γ, 1362, .inr (.inl (fun _ => 0))))]) ++ [(q34, .inl (cI Γ, 15, .inl (fun _ => 0)))]) ++ [(q42, .inl (cI Γ, 15, .inl (fun _ => 0)))]) ++ [(q50, .inl (cI Γ, 90, .inl (fun _ => 0)))]) ++ [(q58, .inl (cI Γ, 15, .inl (fun _ => 0)))]) ++ [(q66, .inl (cI Γ, 15, .inl (fun _ => 0)))]) ++ [(q75, .inl (cI Γ, 135, .inl (fun _ => 0)))]) ++ [(q83, .inl (cI Γ, 80, .inl (fun _ => 0)))]) H := hP
  have hD : va_D A ((((((((((([(h0, .inr (7, [.ref q8, .ref q17, .ref q26, .int 0, .ref q34, .ref q42, .ref q50, .int 0, .ref q58, .ref q66, .ref q75, .int 0, .ref q83, .null, .int 0, .int 0, .int 0, .int 0]))] : va_W) ++ [(q8, .inl (cL Γ, 681, .inr (.inl (fun _ => 0))))]) ++ [(q17, .inl (cL Γ, 681, .inr (.inl (fun _ => 0))))]) ++ [(q26, .inl (cL Γ, 1362, .inr (.inl (fun _ => 0))))]) ++ [(q34, .inl (cI Γ, 15, .inl (fun _ => 0)))]) ++ [(q42, .inl (cI Γ, 15, .inl (fun _ => 0)))]) ++ [(q50, .inl (cI Γ, 90, .inl (fun _ => 0)))]) ++ [(q58, .inl (cI Γ, 15, .inl (fun _ => 0)))]) ++ [(q66, .inl (cI Γ, 15, .inl (fun _ => 0)))]) ++ [(q75, .inl (cI Γ, 135, .inl (fun _ => 0)))]) ++ [(q83, .inl (cI Γ, 80, .inl (fun _ => 0)))]) := hD
  refine lv_aload_n hx hb dX7_init_88 rfl (lv_at hl 0 rfl) ?_
  refine lv_sipush (v := 232) hx hb dX7_init_89 (by decide) ?_
  refine na_l (N := 232) hh (hts (.arrayClass .long) (List.mem_of_getElem? (i := 4) rfl)) hP hD hS (by decide) (by decide) (by decide) (Nat.le_of_ble_eq_true rfl) (Nat.le_of_ble_eq_true rfl) dX7_init_92 (fun q92 H hP hD hS => ?_)
  have hP : va_P (gD Γ) vwCl (((((((((((([(h0, .inr (7, [.ref q8, .ref q17, .ref q26, .int 0, .ref q34, .ref q42, .ref q50, .int 0, .ref q58, .ref q66, .ref q75, .int 0, .ref q83, .null, .int 0, .int 0, .int 0, .int 0]))] : va_W) ++ [(q8, .inl (cL Γ, 681, .inr (.inl (fun _ => 0))))]) ++ [(q17, .inl (cL Γ, 681, .inr (.inl (fun _ => 0))))]) ++ [(q26, .inl (cL Γ, 1362, .inr (.inl (fun _ => 0))))]) ++ [(q34, .inl (cI Γ, 15, .inl (fun _ => 0)))]) ++ [(q42, .inl (cI Γ, 15, .inl (fun _ => 0)))]) ++ [(q50, .inl (cI Γ, 90, .inl (fun _ => 0)))]) ++ [(q58, .inl (cI Γ, 15, .inl (fun _ => 0)))]) ++ [(q66, .inl (cI Γ, 15, .inl (fun _ => 0)))]) ++ [(q75, .inl (cI Γ, 135, .inl (fun _ => 0)))]) ++ [(q83, .inl (cI Γ, 80, .inl (fun _ => 0)))]) ++ [(q92, .inl (cL Γ, 232, .inr (.inl (fun _ => 0))))]) H := hP
  have hD : va_D A (((((((((((([(h0, .inr (7, [.ref q8, .ref q17, .ref q26, .int 0, .ref q34, .ref q42, .ref q50, .int 0, .ref q58, .ref q66, .ref q75, .int 0, .ref q83, .null, .int 0, .int 0, .int 0, .int 0]))] : va_W) ++ [(q8, .inl (cL Γ, 681, .inr (.inl (fun _ => 0))))]) ++ [(q17, .inl (cL Γ, 681, .inr (.inl (fun _ => 0))))]) ++ [(q26, .inl (cL Γ, 1362, .inr (.inl (fun _ => 0))))]) ++ [(q34, .inl (cI Γ, 15, .inl (fun _ => 0)))]) ++ [(q42, .inl (cI Γ, 15, .inl (fun _ => 0)))]) ++ [(q50, .inl (cI Γ, 90, .inl (fun _ => 0)))]) ++ [(q58, .inl (cI Γ, 15, .inl (fun _ => 0)))]) ++ [(q66, .inl (cI Γ, 15, .inl (fun _ => 0)))]) ++ [(q75, .inl (cI Γ, 135, .inl (fun _ => 0)))]) ++ [(q83, .inl (cI Γ, 80, .inl (fun _ => 0)))]) ++ [(q92, .inl (cL Γ, 232, .inr (.inl (fun _ => 0))))]) := hD
  refine va_putF (D := gD Γ) (cl := vwCl) (tys := gTy Γ) (ci := 7) (v := .ref q92) (ty := tyX7 13) (C := RX7) (T := TX7) (N := 18) hx hb hts iX7_init_7 tyX7 tyX7_ok nmX7 hown hK hP hD hS 0 rfl rfl 13 (Nat.le_of_ble_eq_true rfl) (hts (.fieldLink RX7 41 "DeadTimeLoopModel" "path" "[J") (List.mem_of_getElem? (i := 16) rfl)) (fun _ h9 => h9) rfl hin rfl (tyX7_ok 13 (Nat.le_of_ble_eq_true rfl)) rfl rfl (Nat.le_of_ble_eq_true rfl) dX7_init_94 (fun H locs hP hD hS => ?_)
  have hP : va_P (gD Γ) vwCl (((((((((((([(h0, .inr (7, [.ref q8, .ref q17, .ref q26, .int 0, .ref q34, .ref q42, .ref q50, .int 0, .ref q58, .ref q66, .ref q75, .int 0, .ref q83, .ref q92, .int 0, .int 0, .int 0, .int 0]))] : va_W) ++ [(q8, .inl (cL Γ, 681, .inr (.inl (fun _ => 0))))]) ++ [(q17, .inl (cL Γ, 681, .inr (.inl (fun _ => 0))))]) ++ [(q26, .inl (cL Γ, 1362, .inr (.inl (fun _ => 0))))]) ++ [(q34, .inl (cI Γ, 15, .inl (fun _ => 0)))]) ++ [(q42, .inl (cI Γ, 15, .inl (fun _ => 0)))]) ++ [(q50, .inl (cI Γ, 90, .inl (fun _ => 0)))]) ++ [(q58, .inl (cI Γ, 15, .inl (fun _ => 0)))]) ++ [(q66, .inl (cI Γ, 15, .inl (fun _ => 0)))]) ++ [(q75, .inl (cI Γ, 135, .inl (fun _ => 0)))]) ++ [(q83, .inl (cI Γ, 80, .inl (fun _ => 0)))]) ++ [(q92, .inl (cL Γ, 232, .inr (.inl (fun _ => 0))))]) H := hP
  have hD : va_D A (((((((((((([(h0, .inr (7, [.ref q8, .ref q17, .ref q26, .int 0, .ref q34, .ref q42, .ref q50, .int 0, .ref q58, .ref q66, .ref q75, .int 0, .ref q83, .ref q92, .int 0, .int 0, .int 0, .int 0]))] : va_W) ++ [(q8, .inl (cL Γ, 681, .inr (.inl (fun _ => 0))))]) ++ [(q17, .inl (cL Γ, 681, .inr (.inl (fun _ => 0))))]) ++ [(q26, .inl (cL Γ, 1362, .inr (.inl (fun _ => 0))))]) ++ [(q34, .inl (cI Γ, 15, .inl (fun _ => 0)))]) ++ [(q42, .inl (cI Γ, 15, .inl (fun _ => 0)))]) ++ [(q50, .inl (cI Γ, 90, .inl (fun _ => 0)))]) ++ [(q58, .inl (cI Γ, 15, .inl (fun _ => 0)))]) ++ [(q66, .inl (cI Γ, 15, .inl (fun _ => 0)))]) ++ [(q75, .inl (cI Γ, 135, .inl (fun _ => 0)))]) ++ [(q83, .inl (cI Γ, 80, .inl (fun _ => 0)))]) ++ [(q92, .inl (cL Γ, 232, .inr (.inl (fun _ => 0))))]) := hD
  obtain ⟨a, ea⟩ : ∃ a : Nat → Nat, a = (fun j => ([h0, q8, q17, q26, q34, q42, q50, q58, q66, q75, q83, q92] : List Nat).getD j 0) := ⟨_, rfl⟩
  have hP : va_P (gD Γ) vwCl (modW Γ a 0 m0) H := by rw [ea]; exact hP
  have hD : va_D A (modW Γ a 0 m0) := by rw [ea]; exact hD
  have h0e : h0 = a 0 := by rw [ea]; rfl
  have hl : lv_has ls 1 [(0, .ref (a 0))] := by rw [← h0e]; exact hl
  refine lv_aload_n hx hb dX7_init_97 rfl (lv_at hl 0 rfl) ?_
  refine lv_iconst (v := 0) hx hb dX7_init_98 (by decide) ?_
  refine lv_iconst (v := 0) hx hb dX7_init_99 (by decide) ?_
  refine lv_sipush (v := 20000) hx hb dX7_init_100 (by decide) ?_
  refine lv_sipush (v := 1000) hx hb dX7_init_103 (by decide) ?_
  refine lv_bipush (v := 107) hx hb dX7_init_106 (by decide) ?_
  refine lv_bipush (v := 112) hx hb dX7_init_108 (by decide) ?_
  refine lv_iconst (v := 0) hx hb dX7_init_110 (by decide) ?_
  refine lv_iconst (v := 0) hx hb dX7_init_111 (by decide) ?_
  obtain ⟨μ1, eμ1⟩ : ∃ z : Mst, z = hIs m0 0 0 20000 1000 107 112 0 0 := ⟨_, rfl⟩
  have hM_112 : Cv Γ l yX7_is wsX7_is rm_X7_is [.ref (a 0), .int 0, .int 0, .int 20000, .int 1000, .int 107, .int 112, .int 0, .int 0] (modW Γ a 0 m0) (modW Γ a 0 μ1) := by rw [eμ1]; exact c_X7_is Γ l a 0 m0 0 0 20000 1000 107 112 0 0 (vp_in_nI (n := 0) (by decide) (by decide))
  refine ca_Vva hh hl.1 hM_112 (cwV 8 hts gX7_init_X7_is rfl rfl rfl (by decide +kernel) ⟨(Nat.le_of_ble_eq_true rfl), (Nat.le_of_ble_eq_true rfl)⟩) (As := [.int 0, .int 0, .int 20000, .int 1000, .int 107, .int 112, .int 0, .int 0]) (rest := []) rfl dX7_init_112 rfl (Nat.le_of_ble_eq_true rfl) hP hD hS (q0 := 0) (ci := 7) rfl rfl rfl (wf := modW Γ a 0 μ1) rfl ⟨(Nat.le_of_ble_eq_true rfl), (Nat.le_of_ble_eq_true rfl)⟩ (fun H locs hP hD hS => ?_)
  refine lv_aload_n hx hb dX7_init_115 rfl (lv_at hl 0 rfl) ?_
  refine lv_iconst (v := 1) hx hb dX7_init_116 (by decide) ?_
  refine lv_iconst (v := 0) hx hb dX7_init_117 (by decide) ?_
  refine lv_sipush (v := 20000) hx hb dX7_init_118 (by decide) ?_
  refine lv_bipush (v := 100) hx hb dX7_init_121 (by decide) ?_
  refine lv_bipush (v := 107) hx hb dX7_init_123 (by decide) ?_
  refine lv_bipush (v := 105) hx hb dX7_init_125 (by decide) ?_
  refine lv_iconst (v := 0) hx hb dX7_init_127 (by decide) ?_
  refine lv_iconst (v := 0) hx hb dX7_init_128 (by decide) ?_
  obtain ⟨μ2, eμ2⟩ : ∃ z : Mst, z = hIs μ1 1 0 20000 100 107 105 0 0 := ⟨_, rfl⟩
  have hM_129 : Cv Γ l yX7_is wsX7_is rm_X7_is [.ref (a 0), .int 1, .int 0, .int 20000, .int 100, .int 107, .int 105, .int 0, .int 0] (modW Γ a 0 μ1) (modW Γ a 0 μ2) := by rw [eμ2]; exact c_X7_is Γ l a 0 μ1 1 0 20000 100 107 105 0 0 (vp_in_nI (n := 1) (by decide) (by decide))
  refine ca_Vva hh hl.1 hM_129 (cwV 8 hts gX7_init_X7_is rfl rfl rfl (by decide +kernel) ⟨(Nat.le_of_ble_eq_true rfl), (Nat.le_of_ble_eq_true rfl)⟩) (As := [.int 1, .int 0, .int 20000, .int 100, .int 107, .int 105, .int 0, .int 0]) (rest := []) rfl dX7_init_129 rfl (Nat.le_of_ble_eq_true rfl) hP hD hS (q0 := 0) (ci := 7) rfl rfl rfl (wf := modW Γ a 0 μ2) rfl ⟨(Nat.le_of_ble_eq_true rfl), (Nat.le_of_ble_eq_true rfl)⟩ (fun H locs hP hD hS => ?_)
  refine lv_aload_n hx hb dX7_init_132 rfl (lv_at hl 0 rfl) ?_
  refine lv_iconst (v := 2) hx hb dX7_init_133 (by decide) ?_
  refine lv_sipush (v := (-5000)) hx hb dX7_init_134 (by decide) ?_
  refine lv_sipush (v := 5000) hx hb dX7_init_137 (by decide) ?_
  refine lv_sipush (v := 1000) hx hb dX7_init_140 (by decide) ?_
  refine lv_bipush (v := 103) hx hb dX7_init_143 (by decide) ?_
  refine lv_bipush (v := 97) hx hb dX7_init_145 (by decide) ?_
  refine lv_bipush (v := 105) hx hb dX7_init_147 (by decide) ?_
  refine lv_bipush (v := 110) hx hb dX7_init_149 (by decide) ?_
  obtain ⟨μ3, eμ3⟩ : ∃ z : Mst, z = hIs μ2 2 (-5000) 5000 1000 103 97 105 110 := ⟨_, rfl⟩
  have hM_151 : Cv Γ l yX7_is wsX7_is rm_X7_is [.ref (a 0), .int 2, .int (-5000), .int 5000, .int 1000, .int 103, .int 97, .int 105, .int 110] (modW Γ a 0 μ2) (modW Γ a 0 μ3) := by rw [eμ3]; exact c_X7_is Γ l a 0 μ2 2 (-5000) 5000 1000 103 97 105 110 (vp_in_nI (n := 2) (by decide) (by decide))
  refine ca_Vva hh hl.1 hM_151 (cwV 8 hts gX7_init_X7_is rfl rfl rfl (by decide +kernel) ⟨(Nat.le_of_ble_eq_true rfl), (Nat.le_of_ble_eq_true rfl)⟩) (As := [.int 2, .int (-5000), .int 5000, .int 1000, .int 103, .int 97, .int 105, .int 110]) (rest := []) rfl dX7_init_151 rfl (Nat.le_of_ble_eq_true rfl) hP hD hS (q0 := 0) (ci := 7) rfl rfl rfl (wf := modW Γ a 0 μ3) rfl ⟨(Nat.le_of_ble_eq_true rfl), (Nat.le_of_ble_eq_true rfl)⟩ (fun H locs hP hD hS => ?_)
  refine lv_aload_n hx hb dX7_init_154 rfl (lv_at hl 0 rfl) ?_
  refine lv_iconst (v := 3) hx hb dX7_init_155 (by decide) ?_
  refine lv_iconst (v := 0) hx hb dX7_init_156 (by decide) ?_
  refine lv_sipush (v := 999) hx hb dX7_init_157 (by decide) ?_
  refine lv_sipush (v := 800) hx hb dX7_init_160 (by decide) ?_
  refine lv_bipush (v := 108) hx hb dX7_init_163 (by decide) ?_
  refine lv_bipush (v := 97) hx hb dX7_init_165 (by decide) ?_
  refine lv_bipush (v := 103) hx hb dX7_init_167 (by decide) ?_
  refine lv_iconst (v := 0) hx hb dX7_init_169 (by decide) ?_
  obtain ⟨μ4, eμ4⟩ : ∃ z : Mst, z = hIs μ3 3 0 999 800 108 97 103 0 := ⟨_, rfl⟩
  have hM_170 : Cv Γ l yX7_is wsX7_is rm_X7_is [.ref (a 0), .int 3, .int 0, .int 999, .int 800, .int 108, .int 97, .int 103, .int 0] (modW Γ a 0 μ3) (modW Γ a 0 μ4) := by rw [eμ4]; exact c_X7_is Γ l a 0 μ3 3 0 999 800 108 97 103 0 (vp_in_nI (n := 3) (by decide) (by decide))
  refine ca_Vva hh hl.1 hM_170 (cwV 8 hts gX7_init_X7_is rfl rfl rfl (by decide +kernel) ⟨(Nat.le_of_ble_eq_true rfl), (Nat.le_of_ble_eq_true rfl)⟩) (As := [.int 3, .int 0, .int 999, .int 800, .int 108, .int 97, .int 103, .int 0]) (rest := []) rfl dX7_init_170 rfl (Nat.le_of_ble_eq_true rfl) hP hD hS (q0 := 0) (ci := 7) rfl rfl rfl (wf := modW Γ a 0 μ4) rfl ⟨(Nat.le_of_ble_eq_true rfl), (Nat.le_of_ble_eq_true rfl)⟩ (fun H locs hP hD hS => ?_)
  refine lv_aload_n hx hb dX7_init_173 rfl (lv_at hl 0 rfl) ?_
  refine lv_iconst (v := 4) hx hb dX7_init_174 (by decide) ?_
  refine lv_iconst (v := 0) hx hb dX7_init_175 (by decide) ?_
  refine lv_sipush (v := 300) hx hb dX7_init_176 (by decide) ?_
  refine lv_bipush (v := 50) hx hb dX7_init_179 (by decide) ?_
  refine lv_bipush (v := 100) hx hb dX7_init_181 (by decide) ?_
  refine lv_bipush (v := 101) hx hb dX7_init_183 (by decide) ?_
  refine lv_bipush (v := 97) hx hb dX7_init_185 (by decide) ?_
  refine lv_bipush (v := 100) hx hb dX7_init_187 (by decide) ?_
  obtain ⟨μ5, eμ5⟩ : ∃ z : Mst, z = hIs μ4 4 0 300 50 100 101 97 100 := ⟨_, rfl⟩
  have hM_189 : Cv Γ l yX7_is wsX7_is rm_X7_is [.ref (a 0), .int 4, .int 0, .int 300, .int 50, .int 100, .int 101, .int 97, .int 100] (modW Γ a 0 μ4) (modW Γ a 0 μ5) := by rw [eμ5]; exact c_X7_is Γ l a 0 μ4 4 0 300 50 100 101 97 100 (vp_in_nI (n := 4) (by decide) (by decide))
  refine ca_Vva hh hl.1 hM_189 (cwV 8 hts gX7_init_X7_is rfl rfl rfl (by decide +kernel) ⟨(Nat.le_of_ble_eq_true rfl), (Nat.le_of_ble_eq_true rfl)⟩) (As := [.int 4, .int 0, .int 300, .int 50, .int 100, .int 101, .int 97, .int 100]) (rest := []) rfl dX7_init_189 rfl (Nat.le_of_ble_eq_true rfl) hP hD hS (q0 := 0) (ci := 7) rfl rfl rfl (wf := modW Γ a 0 μ5) rfl ⟨(Nat.le_of_ble_eq_true rfl), (Nat.le_of_ble_eq_true rfl)⟩ (fun H locs hP hD hS => ?_)
  refine lv_aload_n hx hb dX7_init_192 rfl (lv_at hl 0 rfl) ?_
  refine lv_iconst (v := 5) hx hb dX7_init_193 (by decide) ?_
  refine lv_sipush (v := (-5000)) hx hb dX7_init_194 (by decide) ?_
  refine lv_sipush (v := 5000) hx hb dX7_init_197 (by decide) ?_
  refine lv_sipush (v := 1000) hx hb dX7_init_200 (by decide) ?_
  refine lv_bipush (v := 109) hx hb dX7_init_203 (by decide) ?_
  refine lv_bipush (v := 103) hx hb dX7_init_205 (by decide) ?_
  refine lv_bipush (v := 97) hx hb dX7_init_207 (by decide) ?_
  refine lv_bipush (v := 105) hx hb dX7_init_209 (by decide) ?_
  obtain ⟨μ6, eμ6⟩ : ∃ z : Mst, z = hIs μ5 5 (-5000) 5000 1000 109 103 97 105 := ⟨_, rfl⟩
  have hM_211 : Cv Γ l yX7_is wsX7_is rm_X7_is [.ref (a 0), .int 5, .int (-5000), .int 5000, .int 1000, .int 109, .int 103, .int 97, .int 105] (modW Γ a 0 μ5) (modW Γ a 0 μ6) := by rw [eμ6]; exact c_X7_is Γ l a 0 μ5 5 (-5000) 5000 1000 109 103 97 105 (vp_in_nI (n := 5) (by decide) (by decide))
  refine ca_Vva hh hl.1 hM_211 (cwV 8 hts gX7_init_X7_is rfl rfl rfl (by decide +kernel) ⟨(Nat.le_of_ble_eq_true rfl), (Nat.le_of_ble_eq_true rfl)⟩) (As := [.int 5, .int (-5000), .int 5000, .int 1000, .int 109, .int 103, .int 97, .int 105]) (rest := []) rfl dX7_init_211 rfl (Nat.le_of_ble_eq_true rfl) hP hD hS (q0 := 0) (ci := 7) rfl rfl rfl (wf := modW Γ a 0 μ6) rfl ⟨(Nat.le_of_ble_eq_true rfl), (Nat.le_of_ble_eq_true rfl)⟩ (fun H locs hP hD hS => ?_)
  refine lv_aload_n hx hb dX7_init_214 rfl (lv_at hl 0 rfl) ?_
  refine lv_iconst (v := 5) hx hb dX7_init_215 (by decide) ?_
  refine lv_bipush (v := 110) hx hb dX7_init_216 (by decide) ?_
  refine lv_iconst (v := 0) hx hb dX7_init_218 (by decide) ?_
  refine lv_iconst (v := 0) hx hb dX7_init_219 (by decide) ?_
  refine lv_iconst (v := 0) hx hb dX7_init_220 (by decide) ?_
  obtain ⟨μ7, eμ7⟩ : ∃ z : Mst, z = hGoes μ6 5 110 0 0 0 := ⟨_, rfl⟩
  have hM_221 : Cv Γ l yX7_goesOn wsX7_goesOn rm_X7_goesOn [.ref (a 0), .int 5, .int 110, .int 0, .int 0, .int 0] (modW Γ a 0 μ6) (modW Γ a 0 μ7) := by rw [eμ7]; exact c_X7_goesOn Γ l a 0 μ6 5 110 0 0 0 (vp_in_nI (n := 5) (by decide) (by decide))
  refine ca_Vva hh hl.1 hM_221 (cwV 5 hts gX7_init_X7_goesOn rfl rfl rfl (by decide +kernel) ⟨(Nat.le_of_ble_eq_true rfl), (Nat.le_of_ble_eq_true rfl)⟩) (As := [.int 5, .int 110, .int 0, .int 0, .int 0]) (rest := []) rfl dX7_init_221 rfl (Nat.le_of_ble_eq_true rfl) hP hD hS (q0 := 0) (ci := 7) rfl rfl rfl (wf := modW Γ a 0 μ7) rfl ⟨(Nat.le_of_ble_eq_true rfl), (Nat.le_of_ble_eq_true rfl)⟩ (fun H locs hP hD hS => ?_)
  refine lv_aload_n hx hb dX7_init_224 rfl (lv_at hl 0 rfl) ?_
  refine lv_bipush (v := 6) hx hb dX7_init_225 (by decide) ?_
  refine lv_iconst (v := 0) hx hb dX7_init_227 (by decide) ?_
  refine lv_sipush (v := 999) hx hb dX7_init_228 (by decide) ?_
  refine lv_sipush (v := 800) hx hb dX7_init_231 (by decide) ?_
  refine lv_bipush (v := 109) hx hb dX7_init_234 (by decide) ?_
  refine lv_bipush (v := 108) hx hb dX7_init_236 (by decide) ?_
  refine lv_bipush (v := 97) hx hb dX7_init_238 (by decide) ?_
  refine lv_bipush (v := 103) hx hb dX7_init_240 (by decide) ?_
  obtain ⟨μ8, eμ8⟩ : ∃ z : Mst, z = hIs μ7 6 0 999 800 109 108 97 103 := ⟨_, rfl⟩
  have hM_242 : Cv Γ l yX7_is wsX7_is rm_X7_is [.ref (a 0), .int 6, .int 0, .int 999, .int 800, .int 109, .int 108, .int 97, .int 103] (modW Γ a 0 μ7) (modW Γ a 0 μ8) := by rw [eμ8]; exact c_X7_is Γ l a 0 μ7 6 0 999 800 109 108 97 103 (vp_in_nI (n := 6) (by decide) (by decide))
  refine ca_Vva hh hl.1 hM_242 (cwV 8 hts gX7_init_X7_is rfl rfl rfl (by decide +kernel) ⟨(Nat.le_of_ble_eq_true rfl), (Nat.le_of_ble_eq_true rfl)⟩) (As := [.int 6, .int 0, .int 999, .int 800, .int 109, .int 108, .int 97, .int 103]) (rest := []) rfl dX7_init_242 rfl (Nat.le_of_ble_eq_true rfl) hP hD hS (q0 := 0) (ci := 7) rfl rfl rfl (wf := modW Γ a 0 μ8) rfl ⟨(Nat.le_of_ble_eq_true rfl), (Nat.le_of_ble_eq_true rfl)⟩ (fun H locs hP hD hS => ?_)
  refine lv_aload_n hx hb dX7_init_245 rfl (lv_at hl 0 rfl) ?_
  refine lv_bipush (v := 7) hx hb dX7_init_246 (by decide) ?_
  refine lv_iconst (v := 0) hx hb dX7_init_248 (by decide) ?_
  refine lv_sipush (v := 300) hx hb dX7_init_249 (by decide) ?_
  refine lv_bipush (v := 50) hx hb dX7_init_252 (by decide) ?_
  refine lv_bipush (v := 109) hx hb dX7_init_254 (by decide) ?_
  refine lv_bipush (v := 100) hx hb dX7_init_256 (by decide) ?_
  refine lv_bipush (v := 101) hx hb dX7_init_258 (by decide) ?_
  refine lv_bipush (v := 97) hx hb dX7_init_260 (by decide) ?_
  obtain ⟨μ9, eμ9⟩ : ∃ z : Mst, z = hIs μ8 7 0 300 50 109 100 101 97 := ⟨_, rfl⟩
  have hM_262 : Cv Γ l yX7_is wsX7_is rm_X7_is [.ref (a 0), .int 7, .int 0, .int 300, .int 50, .int 109, .int 100, .int 101, .int 97] (modW Γ a 0 μ8) (modW Γ a 0 μ9) := by rw [eμ9]; exact c_X7_is Γ l a 0 μ8 7 0 300 50 109 100 101 97 (vp_in_nI (n := 7) (by decide) (by decide))
  refine ca_Vva hh hl.1 hM_262 (cwV 8 hts gX7_init_X7_is rfl rfl rfl (by decide +kernel) ⟨(Nat.le_of_ble_eq_true rfl), (Nat.le_of_ble_eq_true rfl)⟩) (As := [.int 7, .int 0, .int 300, .int 50, .int 109, .int 100, .int 101, .int 97]) (rest := []) rfl dX7_init_262 rfl (Nat.le_of_ble_eq_true rfl) hP hD hS (q0 := 0) (ci := 7) rfl rfl rfl (wf := modW Γ a 0 μ9) rfl ⟨(Nat.le_of_ble_eq_true rfl), (Nat.le_of_ble_eq_true rfl)⟩ (fun H locs hP hD hS => ?_)
  refine lv_aload_n hx hb dX7_init_265 rfl (lv_at hl 0 rfl) ?_
  refine lv_bipush (v := 7) hx hb dX7_init_266 (by decide) ?_
  refine lv_bipush (v := 100) hx hb dX7_init_268 (by decide) ?_
  refine lv_iconst (v := 0) hx hb dX7_init_270 (by decide) ?_
  refine lv_iconst (v := 0) hx hb dX7_init_271 (by decide) ?_
  refine lv_iconst (v := 0) hx hb dX7_init_272 (by decide) ?_
  obtain ⟨μ10, eμ10⟩ : ∃ z : Mst, z = hGoes μ9 7 100 0 0 0 := ⟨_, rfl⟩
  have hM_273 : Cv Γ l yX7_goesOn wsX7_goesOn rm_X7_goesOn [.ref (a 0), .int 7, .int 100, .int 0, .int 0, .int 0] (modW Γ a 0 μ9) (modW Γ a 0 μ10) := by rw [eμ10]; exact c_X7_goesOn Γ l a 0 μ9 7 100 0 0 0 (vp_in_nI (n := 7) (by decide) (by decide))
  refine ca_Vva hh hl.1 hM_273 (cwV 5 hts gX7_init_X7_goesOn rfl rfl rfl (by decide +kernel) ⟨(Nat.le_of_ble_eq_true rfl), (Nat.le_of_ble_eq_true rfl)⟩) (As := [.int 7, .int 100, .int 0, .int 0, .int 0]) (rest := []) rfl dX7_init_273 rfl (Nat.le_of_ble_eq_true rfl) hP hD hS (q0 := 0) (ci := 7) rfl rfl rfl (wf := modW Γ a 0 μ10) rfl ⟨(Nat.le_of_ble_eq_true rfl), (Nat.le_of_ble_eq_true rfl)⟩ (fun H locs hP hD hS => ?_)
  refine lv_aload_n hx hb dX7_init_276 rfl (lv_at hl 0 rfl) ?_
  refine lv_bipush (v := 8) hx hb dX7_init_277 (by decide) ?_
  refine lv_iconst (v := 0) hx hb dX7_init_279 (by decide) ?_
  refine lv_sipush (v := 999) hx hb dX7_init_280 (by decide) ?_
  refine lv_iconst (v := 0) hx hb dX7_init_283 (by decide) ?_
  refine lv_bipush (v := 102) hx hb dX7_init_284 (by decide) ?_
  refine lv_bipush (v := 105) hx hb dX7_init_286 (by decide) ?_
  refine lv_bipush (v := 108) hx hb dX7_init_288 (by decide) ?_
  refine lv_bipush (v := 116) hx hb dX7_init_290 (by decide) ?_
  obtain ⟨μ11, eμ11⟩ : ∃ z : Mst, z = hIs μ10 8 0 999 0 102 105 108 116 := ⟨_, rfl⟩
  have hM_292 : Cv Γ l yX7_is wsX7_is rm_X7_is [.ref (a 0), .int 8, .int 0, .int 999, .int 0, .int 102, .int 105, .int 108, .int 116] (modW Γ a 0 μ10) (modW Γ a 0 μ11) := by rw [eμ11]; exact c_X7_is Γ l a 0 μ10 8 0 999 0 102 105 108 116 (vp_in_nI (n := 8) (by decide) (by decide))
  refine ca_Vva hh hl.1 hM_292 (cwV 8 hts gX7_init_X7_is rfl rfl rfl (by decide +kernel) ⟨(Nat.le_of_ble_eq_true rfl), (Nat.le_of_ble_eq_true rfl)⟩) (As := [.int 8, .int 0, .int 999, .int 0, .int 102, .int 105, .int 108, .int 116]) (rest := []) rfl dX7_init_292 rfl (Nat.le_of_ble_eq_true rfl) hP hD hS (q0 := 0) (ci := 7) rfl rfl rfl (wf := modW Γ a 0 μ11) rfl ⟨(Nat.le_of_ble_eq_true rfl), (Nat.le_of_ble_eq_true rfl)⟩ (fun H locs hP hD hS => ?_)
  refine lv_aload_n hx hb dX7_init_295 rfl (lv_at hl 0 rfl) ?_
  refine lv_bipush (v := 8) hx hb dX7_init_296 (by decide) ?_
  refine lv_bipush (v := 101) hx hb dX7_init_298 (by decide) ?_
  refine lv_bipush (v := 114) hx hb dX7_init_300 (by decide) ?_
  refine lv_iconst (v := 0) hx hb dX7_init_302 (by decide) ?_
  refine lv_iconst (v := 0) hx hb dX7_init_303 (by decide) ?_
  obtain ⟨μ12, eμ12⟩ : ∃ z : Mst, z = hGoes μ11 8 101 114 0 0 := ⟨_, rfl⟩
  have hM_304 : Cv Γ l yX7_goesOn wsX7_goesOn rm_X7_goesOn [.ref (a 0), .int 8, .int 101, .int 114, .int 0, .int 0] (modW Γ a 0 μ11) (modW Γ a 0 μ12) := by rw [eμ12]; exact c_X7_goesOn Γ l a 0 μ11 8 101 114 0 0 (vp_in_nI (n := 8) (by decide) (by decide))
  refine ca_Vva hh hl.1 hM_304 (cwV 5 hts gX7_init_X7_goesOn rfl rfl rfl (by decide +kernel) ⟨(Nat.le_of_ble_eq_true rfl), (Nat.le_of_ble_eq_true rfl)⟩) (As := [.int 8, .int 101, .int 114, .int 0, .int 0]) (rest := []) rfl dX7_init_304 rfl (Nat.le_of_ble_eq_true rfl) hP hD hS (q0 := 0) (ci := 7) rfl rfl rfl (wf := modW Γ a 0 μ12) rfl ⟨(Nat.le_of_ble_eq_true rfl), (Nat.le_of_ble_eq_true rfl)⟩ (fun H locs hP hD hS => ?_)
  refine lv_aload_n hx hb dX7_init_307 rfl (lv_at hl 0 rfl) ?_
  refine lv_bipush (v := 9) hx hb dX7_init_308 (by decide) ?_
  refine lv_ldc (v := (-100000)) hx hb hown (hts (.constant RX7 52 (-100000)) (List.mem_of_getElem? (i := 17) rfl)) dX7_init_310 ?_
  refine lv_iconst (v := 0) hx hb dX7_init_312 (by decide) ?_
  refine lv_ldc (v := (-50000)) hx hb hown (hts (.constant RX7 53 (-50000)) (List.mem_of_getElem? (i := 18) rfl)) dX7_init_313 ?_
  refine lv_bipush (v := 117) hx hb dX7_init_315 (by decide) ?_
  refine lv_bipush (v := 109) hx hb dX7_init_317 (by decide) ?_
  refine lv_bipush (v := 105) hx hb dX7_init_319 (by decide) ?_
  refine lv_bipush (v := 110) hx hb dX7_init_321 (by decide) ?_
  obtain ⟨μ13, eμ13⟩ : ∃ z : Mst, z = hIs μ12 9 (-100000) 0 (-50000) 117 109 105 110 := ⟨_, rfl⟩
  have hM_323 : Cv Γ l yX7_is wsX7_is rm_X7_is [.ref (a 0), .int 9, .int (-100000), .int 0, .int (-50000), .int 117, .int 109, .int 105, .int 110] (modW Γ a 0 μ12) (modW Γ a 0 μ13) := by rw [eμ13]; exact c_X7_is Γ l a 0 μ12 9 (-100000) 0 (-50000) 117 109 105 110 (vp_in_nI (n := 9) (by decide) (by decide))
  refine ca_Vva hh hl.1 hM_323 (cwV 8 hts gX7_init_X7_is rfl rfl rfl (by decide +kernel) ⟨(Nat.le_of_ble_eq_true rfl), (Nat.le_of_ble_eq_true rfl)⟩) (As := [.int 9, .int (-100000), .int 0, .int (-50000), .int 117, .int 109, .int 105, .int 110]) (rest := []) rfl dX7_init_323 rfl (Nat.le_of_ble_eq_true rfl) hP hD hS (q0 := 0) (ci := 7) rfl rfl rfl (wf := modW Γ a 0 μ13) rfl ⟨(Nat.le_of_ble_eq_true rfl), (Nat.le_of_ble_eq_true rfl)⟩ (fun H locs hP hD hS => ?_)
  refine lv_aload_n hx hb dX7_init_326 rfl (lv_at hl 0 rfl) ?_
  refine lv_bipush (v := 10) hx hb dX7_init_327 (by decide) ?_
  refine lv_iconst (v := 0) hx hb dX7_init_329 (by decide) ?_
  refine lv_ldc (v := 100000) hx hb hown (hts (.constant RX7 54 (100000)) (List.mem_of_getElem? (i := 19) rfl)) dX7_init_330 ?_
  refine lv_ldc (v := 50000) hx hb hown (hts (.constant RX7 55 (50000)) (List.mem_of_getElem? (i := 20) rfl)) dX7_init_332 ?_
  refine lv_bipush (v := 117) hx hb dX7_init_334 (by decide) ?_
  refine lv_bipush (v := 109) hx hb dX7_init_336 (by decide) ?_
  refine lv_bipush (v := 97) hx hb dX7_init_338 (by decide) ?_
  refine lv_bipush (v := 120) hx hb dX7_init_340 (by decide) ?_
  obtain ⟨μ14, eμ14⟩ : ∃ z : Mst, z = hIs μ13 10 0 100000 50000 117 109 97 120 := ⟨_, rfl⟩
  have hM_342 : Cv Γ l yX7_is wsX7_is rm_X7_is [.ref (a 0), .int 10, .int 0, .int 100000, .int 50000, .int 117, .int 109, .int 97, .int 120] (modW Γ a 0 μ13) (modW Γ a 0 μ14) := by rw [eμ14]; exact c_X7_is Γ l a 0 μ13 10 0 100000 50000 117 109 97 120 (vp_in_nI (n := 10) (by decide) (by decide))
  refine ca_Vva hh hl.1 hM_342 (cwV 8 hts gX7_init_X7_is rfl rfl rfl (by decide +kernel) ⟨(Nat.le_of_ble_eq_true rfl), (Nat.le_of_ble_eq_true rfl)⟩) (As := [.int 10, .int 0, .int 100000, .int 50000, .int 117, .int 109, .int 97, .int 120]) (rest := []) rfl dX7_init_342 rfl (Nat.le_of_ble_eq_true rfl) hP hD hS (q0 := 0) (ci := 7) rfl rfl rfl (wf := modW Γ a 0 μ14) rfl ⟨(Nat.le_of_ble_eq_true rfl), (Nat.le_of_ble_eq_true rfl)⟩ (fun H locs hP hD hS => ?_)
  refine lv_aload_n hx hb dX7_init_345 rfl (lv_at hl 0 rfl) ?_
  refine lv_bipush (v := 11) hx hb dX7_init_346 (by decide) ?_
  refine lv_iconst (v := 1) hx hb dX7_init_348 (by decide) ?_
  refine lv_ldc (v := 200000) hx hb hown (hts (.constant RX7 56 (200000)) (List.mem_of_getElem? (i := 21) rfl)) dX7_init_349 ?_
  refine lv_ldc (v := 200000) hx hb hown (hts (.constant RX7 56 (200000)) (List.mem_of_getElem? (i := 21) rfl)) dX7_init_351 ?_
  refine lv_bipush (v := 114) hx hb dX7_init_353 (by decide) ?_
  refine lv_bipush (v := 97) hx hb dX7_init_355 (by decide) ?_
  refine lv_bipush (v := 116) hx hb dX7_init_357 (by decide) ?_
  refine lv_bipush (v := 101) hx hb dX7_init_359 (by decide) ?_
  obtain ⟨μ15, eμ15⟩ : ∃ z : Mst, z = hIs μ14 11 1 200000 200000 114 97 116 101 := ⟨_, rfl⟩
  have hM_361 : Cv Γ l yX7_is wsX7_is rm_X7_is [.ref (a 0), .int 11, .int 1, .int 200000, .int 200000, .int 114, .int 97, .int 116, .int 101] (modW Γ a 0 μ14) (modW Γ a 0 μ15) := by rw [eμ15]; exact c_X7_is Γ l a 0 μ14 11 1 200000 200000 114 97 116 101 (vp_in_nI (n := 11) (by decide) (by decide))
  refine ca_Vva hh hl.1 hM_361 (cwV 8 hts gX7_init_X7_is rfl rfl rfl (by decide +kernel) ⟨(Nat.le_of_ble_eq_true rfl), (Nat.le_of_ble_eq_true rfl)⟩) (As := [.int 11, .int 1, .int 200000, .int 200000, .int 114, .int 97, .int 116, .int 101]) (rest := []) rfl dX7_init_361 rfl (Nat.le_of_ble_eq_true rfl) hP hD hS (q0 := 0) (ci := 7) rfl rfl rfl (wf := modW Γ a 0 μ15) rfl ⟨(Nat.le_of_ble_eq_true rfl), (Nat.le_of_ble_eq_true rfl)⟩ (fun H locs hP hD hS => ?_)
  refine lv_aload_n hx hb dX7_init_364 rfl (lv_at hl 0 rfl) ?_
  refine lv_bipush (v := 12) hx hb dX7_init_365 (by decide) ?_
  refine lv_iconst (v := 0) hx hb dX7_init_367 (by decide) ?_
  refine lv_ldc (v := 100000) hx hb hown (hts (.constant RX7 54 (100000)) (List.mem_of_getElem? (i := 19) rfl)) dX7_init_368 ?_
  refine lv_sipush (v := 5000) hx hb dX7_init_370 (by decide) ?_
  refine lv_bipush (v := 108) hx hb dX7_init_373 (by decide) ?_
  refine lv_bipush (v := 105) hx hb dX7_init_375 (by decide) ?_
  refine lv_bipush (v := 109) hx hb dX7_init_377 (by decide) ?_
  refine lv_bipush (v := 105) hx hb dX7_init_379 (by decide) ?_
  obtain ⟨μ16, eμ16⟩ : ∃ z : Mst, z = hIs μ15 12 0 100000 5000 108 105 109 105 := ⟨_, rfl⟩
  have hM_381 : Cv Γ l yX7_is wsX7_is rm_X7_is [.ref (a 0), .int 12, .int 0, .int 100000, .int 5000, .int 108, .int 105, .int 109, .int 105] (modW Γ a 0 μ15) (modW Γ a 0 μ16) := by rw [eμ16]; exact c_X7_is Γ l a 0 μ15 12 0 100000 5000 108 105 109 105 (vp_in_nI (n := 12) (by decide) (by decide))
  refine ca_Vva hh hl.1 hM_381 (cwV 8 hts gX7_init_X7_is rfl rfl rfl (by decide +kernel) ⟨(Nat.le_of_ble_eq_true rfl), (Nat.le_of_ble_eq_true rfl)⟩) (As := [.int 12, .int 0, .int 100000, .int 5000, .int 108, .int 105, .int 109, .int 105]) (rest := []) rfl dX7_init_381 rfl (Nat.le_of_ble_eq_true rfl) hP hD hS (q0 := 0) (ci := 7) rfl rfl rfl (wf := modW Γ a 0 μ16) rfl ⟨(Nat.le_of_ble_eq_true rfl), (Nat.le_of_ble_eq_true rfl)⟩ (fun H locs hP hD hS => ?_)
  refine lv_aload_n hx hb dX7_init_384 rfl (lv_at hl 0 rfl) ?_
  refine lv_bipush (v := 12) hx hb dX7_init_385 (by decide) ?_
  refine lv_bipush (v := 116) hx hb dX7_init_387 (by decide) ?_
  refine lv_iconst (v := 0) hx hb dX7_init_389 (by decide) ?_
  refine lv_iconst (v := 0) hx hb dX7_init_390 (by decide) ?_
  refine lv_iconst (v := 0) hx hb dX7_init_391 (by decide) ?_
  obtain ⟨μ17, eμ17⟩ : ∃ z : Mst, z = hGoes μ16 12 116 0 0 0 := ⟨_, rfl⟩
  have hM_392 : Cv Γ l yX7_goesOn wsX7_goesOn rm_X7_goesOn [.ref (a 0), .int 12, .int 116, .int 0, .int 0, .int 0] (modW Γ a 0 μ16) (modW Γ a 0 μ17) := by rw [eμ17]; exact c_X7_goesOn Γ l a 0 μ16 12 116 0 0 0 (vp_in_nI (n := 12) (by decide) (by decide))
  refine ca_Vva hh hl.1 hM_392 (cwV 5 hts gX7_init_X7_goesOn rfl rfl rfl (by decide +kernel) ⟨(Nat.le_of_ble_eq_true rfl), (Nat.le_of_ble_eq_true rfl)⟩) (As := [.int 12, .int 116, .int 0, .int 0, .int 0]) (rest := []) rfl dX7_init_392 rfl (Nat.le_of_ble_eq_true rfl) hP hD hS (q0 := 0) (ci := 7) rfl rfl rfl (wf := modW Γ a 0 μ17) rfl ⟨(Nat.le_of_ble_eq_true rfl), (Nat.le_of_ble_eq_true rfl)⟩ (fun H locs hP hD hS => ?_)
  refine lv_aload_n hx hb dX7_init_395 rfl (lv_at hl 0 rfl) ?_
  refine lv_bipush (v := 13) hx hb dX7_init_396 (by decide) ?_
  refine lv_iconst (v := 1) hx hb dX7_init_398 (by decide) ?_
  refine lv_bipush (v := 50) hx hb dX7_init_399 (by decide) ?_
  refine lv_iconst (v := 5) hx hb dX7_init_401 (by decide) ?_
  refine lv_bipush (v := 112) hx hb dX7_init_402 (by decide) ?_
  refine lv_bipush (v := 97) hx hb dX7_init_404 (by decide) ?_
  refine lv_bipush (v := 116) hx hb dX7_init_406 (by decide) ?_
  refine lv_bipush (v := 105) hx hb dX7_init_408 (by decide) ?_
  obtain ⟨μ18, eμ18⟩ : ∃ z : Mst, z = hIs μ17 13 1 50 5 112 97 116 105 := ⟨_, rfl⟩
  have hM_410 : Cv Γ l yX7_is wsX7_is rm_X7_is [.ref (a 0), .int 13, .int 1, .int 50, .int 5, .int 112, .int 97, .int 116, .int 105] (modW Γ a 0 μ17) (modW Γ a 0 μ18) := by rw [eμ18]; exact c_X7_is Γ l a 0 μ17 13 1 50 5 112 97 116 105 (vp_in_nI (n := 13) (by decide) (by decide))
  refine ca_Vva hh hl.1 hM_410 (cwV 8 hts gX7_init_X7_is rfl rfl rfl (by decide +kernel) ⟨(Nat.le_of_ble_eq_true rfl), (Nat.le_of_ble_eq_true rfl)⟩) (As := [.int 13, .int 1, .int 50, .int 5, .int 112, .int 97, .int 116, .int 105]) (rest := []) rfl dX7_init_410 rfl (Nat.le_of_ble_eq_true rfl) hP hD hS (q0 := 0) (ci := 7) rfl rfl rfl (wf := modW Γ a 0 μ18) rfl ⟨(Nat.le_of_ble_eq_true rfl), (Nat.le_of_ble_eq_true rfl)⟩ (fun H locs hP hD hS => ?_)
  refine lv_aload_n hx hb dX7_init_413 rfl (lv_at hl 0 rfl) ?_
  refine lv_bipush (v := 13) hx hb dX7_init_414 (by decide) ?_
  refine lv_bipush (v := 101) hx hb dX7_init_416 (by decide) ?_
  refine lv_bipush (v := 110) hx hb dX7_init_418 (by decide) ?_
  refine lv_bipush (v := 99) hx hb dX7_init_420 (by decide) ?_
  refine lv_bipush (v := 101) hx hb dX7_init_422 (by decide) ?_
  obtain ⟨μ19, eμ19⟩ : ∃ z : Mst, z = hGoes μ18 13 101 110 99 101 := ⟨_, rfl⟩
  have hM_424 : Cv Γ l yX7_goesOn wsX7_goesOn rm_X7_goesOn [.ref (a 0), .int 13, .int 101, .int 110, .int 99, .int 101] (modW Γ a 0 μ18) (modW Γ a 0 μ19) := by rw [eμ19]; exact c_X7_goesOn Γ l a 0 μ18 13 101 110 99 101 (vp_in_nI (n := 13) (by decide) (by decide))
  refine ca_Vva hh hl.1 hM_424 (cwV 5 hts gX7_init_X7_goesOn rfl rfl rfl (by decide +kernel) ⟨(Nat.le_of_ble_eq_true rfl), (Nat.le_of_ble_eq_true rfl)⟩) (As := [.int 13, .int 101, .int 110, .int 99, .int 101]) (rest := []) rfl dX7_init_424 rfl (Nat.le_of_ble_eq_true rfl) hP hD hS (q0 := 0) (ci := 7) rfl rfl rfl (wf := modW Γ a 0 μ19) rfl ⟨(Nat.le_of_ble_eq_true rfl), (Nat.le_of_ble_eq_true rfl)⟩ (fun H locs hP hD hS => ?_)
  refine lv_aload_n hx hb dX7_init_427 rfl (lv_at hl 0 rfl) ?_
  refine lv_bipush (v := 14) hx hb dX7_init_428 (by decide) ?_
  refine lv_iconst (v := 0) hx hb dX7_init_430 (by decide) ?_
  refine lv_sipush (v := 1000) hx hb dX7_init_431 (by decide) ?_
  refine lv_iconst (v := 0) hx hb dX7_init_434 (by decide) ?_
  refine lv_bipush (v := 110) hx hb dX7_init_435 (by decide) ?_
  refine lv_bipush (v := 111) hx hb dX7_init_437 (by decide) ?_
  refine lv_bipush (v := 105) hx hb dX7_init_439 (by decide) ?_
  refine lv_bipush (v := 115) hx hb dX7_init_441 (by decide) ?_
  obtain ⟨μ20, eμ20⟩ : ∃ z : Mst, z = hIs μ19 14 0 1000 0 110 111 105 115 := ⟨_, rfl⟩
  have hM_443 : Cv Γ l yX7_is wsX7_is rm_X7_is [.ref (a 0), .int 14, .int 0, .int 1000, .int 0, .int 110, .int 111, .int 105, .int 115] (modW Γ a 0 μ19) (modW Γ a 0 μ20) := by rw [eμ20]; exact c_X7_is Γ l a 0 μ19 14 0 1000 0 110 111 105 115 (vp_in_nI (n := 14) (by decide) (by decide))
  refine ca_Vva hh hl.1 hM_443 (cwV 8 hts gX7_init_X7_is rfl rfl rfl (by decide +kernel) ⟨(Nat.le_of_ble_eq_true rfl), (Nat.le_of_ble_eq_true rfl)⟩) (As := [.int 14, .int 0, .int 1000, .int 0, .int 110, .int 111, .int 105, .int 115]) (rest := []) rfl dX7_init_443 rfl (Nat.le_of_ble_eq_true rfl) hP hD hS (q0 := 0) (ci := 7) rfl rfl rfl (wf := modW Γ a 0 μ20) rfl ⟨(Nat.le_of_ble_eq_true rfl), (Nat.le_of_ble_eq_true rfl)⟩ (fun H locs hP hD hS => ?_)
  refine lv_aload_n hx hb dX7_init_446 rfl (lv_at hl 0 rfl) ?_
  refine lv_bipush (v := 14) hx hb dX7_init_447 (by decide) ?_
  refine lv_bipush (v := 101) hx hb dX7_init_449 (by decide) ?_
  refine lv_iconst (v := 0) hx hb dX7_init_451 (by decide) ?_
  refine lv_iconst (v := 0) hx hb dX7_init_452 (by decide) ?_
  refine lv_iconst (v := 0) hx hb dX7_init_453 (by decide) ?_
  obtain ⟨μ21, eμ21⟩ : ∃ z : Mst, z = hGoes μ20 14 101 0 0 0 := ⟨_, rfl⟩
  have hM_454 : Cv Γ l yX7_goesOn wsX7_goesOn rm_X7_goesOn [.ref (a 0), .int 14, .int 101, .int 0, .int 0, .int 0] (modW Γ a 0 μ20) (modW Γ a 0 μ21) := by rw [eμ21]; exact c_X7_goesOn Γ l a 0 μ20 14 101 0 0 0 (vp_in_nI (n := 14) (by decide) (by decide))
  refine ca_Vva hh hl.1 hM_454 (cwV 5 hts gX7_init_X7_goesOn rfl rfl rfl (by decide +kernel) ⟨(Nat.le_of_ble_eq_true rfl), (Nat.le_of_ble_eq_true rfl)⟩) (As := [.int 14, .int 101, .int 0, .int 0, .int 0]) (rest := []) rfl dX7_init_454 rfl (Nat.le_of_ble_eq_true rfl) hP hD hS (q0 := 0) (ci := 7) rfl rfl rfl (wf := modW Γ a 0 μ21) rfl ⟨(Nat.le_of_ble_eq_true rfl), (Nat.le_of_ble_eq_true rfl)⟩ (fun H locs hP hD hS => ?_)
  have em : μ21 = mInit := by rw [eμ21, eμ20, eμ19, eμ18, eμ17, eμ16, eμ15, eμ14, eμ13, eμ12, eμ11, eμ10, eμ9, eμ8, eμ7, eμ6, eμ5, eμ4, eμ3, eμ2, eμ1]; rfl
  rw [em] at hP hD
  exact re_c a hQ ha hx hb hr hlk hAe h0e.symm hP hD hS (Nat.le_of_ble_eq_true rfl) (Nat.le_of_ble_eq_true rfl) dX7_init_457
