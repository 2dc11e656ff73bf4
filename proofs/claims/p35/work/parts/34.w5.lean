def rm_X0_forgetOldest : Room := { frames := 1, cells := 0, slots := 0, locals := 28 }
theorem iX0_forgetOldest_0 : ∀ w ∈ u_ws RX0 TX0 2, w ∈ wsX0_forgetOldest := fun w h => (List.mem_cons_of_mem _ (List.mem_append_right _ h))
set_option maxHeartbeats 1000000 in
set_option maxRecDepth 100000 in
theorem c_X0_forgetOldest (Γ : gT) (l : Launch) (a : Nat → Nat) (b : Nat) (x : Chg)  : Cv Γ l yX0_forgetOldest wsX0_forgetOldest rm_X0_forgetOldest [.ref (a b)] (chgW Γ a b x) (chgW Γ a b (cForgetC x)) := by
  refine Cv.of (cc := cX0_forgetOldest) (own := RX0) (nL := 2) (ret := none) (by decide +kernel) rfl rfl (Nat.le_of_ble_eq_true rfl) ?_
  intro p e s m args below meth c A Q H locs ls ha hAe hQ hx hb hml hr hts hown hlk hP hK hD hS hA hG hl
  have hh : Hd Γ p s m args c cX0_forgetOldest RX0 2 wsX0_forgetOldest A := ⟨⟨hx, hb, hml, hown, hts⟩, hK, hA, hG⟩
  have hl : lv_has ls 2 [(0, .ref (a b))] := hl
  refine lv_iconst (v := 1) hx hb dX0_forgetOldest_0 (by decide) ?_
  refine lv_istore_n (lv' := [(1, .int 1), (0, .ref (a b))]) hx hb dX0_forgetOldest_1 rfl hl (by decide) rfl (fun ls hl => ?_)
  refine lv_iload_n hx hb dX0_forgetOldest_2 rfl (lv_at hl 0 rfl) ?_
  refine lv_bipush (v := 6) hx hb dX0_forgetOldest_3 (by decide) ?_
  refine lv_icmp_ge (tgt := 35) hx hb dX0_forgetOldest_5 (by decide) (fun c => absurd c (by decide)) (fun _ => ?_)
  refine lv_aload_n hx hb dX0_forgetOldest_8 rfl (lv_at hl 1 rfl) ?_
  refine va_get (D := gD Γ) (cl := vwCl) (tys := gTy Γ) (ci := 0) (v := .ref (a (b + 1))) (C := RX0) (T := TX0) (N := 2) hx hb hts iX0_forgetOldest_0 hown hK hP 0 rfl rfl 0 (Nat.le_of_ble_eq_true rfl) (hts (.fieldLink RX0 11 "DeadTimeLoop$Changes" "rows" "[[I") (List.mem_of_getElem? (i := 1) rfl)) (fun _ h9 => h9) rfl dX0_forgetOldest_9 ?_
  refine lv_iload_n hx hb dX0_forgetOldest_12 rfl (lv_at hl 0 rfl) ?_
  refine ka_aald (D := gD Γ) (cl := vwCl) (tys := gTy Γ) hx hb hK hP 1 3 rfl rfl 1 (by decide) (by decide) (by decide) (v := (a (b + 3))) rfl dX0_forgetOldest_13 ?_
  refine lv_iconst (v := 0) hx hb dX0_forgetOldest_14 (by decide) ?_
  refine lv_aload_n hx hb dX0_forgetOldest_15 rfl (lv_at hl 1 rfl) ?_
  refine va_get (D := gD Γ) (cl := vwCl) (tys := gTy Γ) (ci := 0) (v := .ref (a (b + 1))) (C := RX0) (T := TX0) (N := 2) hx hb hts iX0_forgetOldest_0 hown hK hP 0 rfl rfl 0 (Nat.le_of_ble_eq_true rfl) (hts (.fieldLink RX0 11 "DeadTimeLoop$Changes" "rows" "[[I") (List.mem_of_getElem? (i := 1) rfl)) (fun _ h9 => h9) rfl dX0_forgetOldest_16 ?_
  refine lv_iload_n hx hb dX0_forgetOldest_19 rfl (lv_at hl 0 rfl) ?_
  refine lv_iconst (v := 1) hx hb dX0_forgetOldest_20 (by decide) ?_
  refine lv_isub hx hb dX0_forgetOldest_21 ?_
  refine ka_aald (D := gD Γ) (cl := vwCl) (tys := gTy Γ) hx hb hK hP 1 3 rfl rfl 0 (by decide) (by decide) (by decide) (v := (a (b + 2))) rfl dX0_forgetOldest_22 ?_
  refine lv_iconst (v := 0) hx hb dX0_forgetOldest_23 (by decide) ?_
  refine lv_bipush (v := 15) hx hb dX0_forgetOldest_24 (by decide) ?_
  refine va_copyi (D := gD Γ) (cl := vwCl) (tys := gTy Γ) (f := ((cRows x) 1)) (g := ((cRows x) 0)) hx hb (hml.trans hl.1.symm) hown (hts (.methodLink RX0 29 arraycopyName) (List.mem_of_getElem? (i := 2) rfl)) (hts (.native arraycopyName) (List.mem_of_getElem? (i := 3) rfl)) (hts (.static arraycopyName) (List.mem_of_getElem? (i := 4) rfl)) (hts (.initialized "java/lang/System") (List.mem_of_getElem? (i := 5) rfl)) hK hP hD hS 3 2 0 0 rfl rfl rfl rfl rfl (by decide) (by decide) (by decide) (by decide) (by decide) (fun i hi => rfl) (Nat.le_of_ble_eq_true rfl) (Nat.le_of_ble_eq_true rfl) dX0_forgetOldest_26 (fun H locs hP hD hS => ?_)
  have hP : va_P (gD Γ) vwCl (chgW Γ a b ((va_up (cRows x) 0 (va_cpy ((cRows x) 1) ((cRows x) 0) 0 0 15)), (cCnt x))) H := hP
  have hD : va_D A (chgW Γ a b ((va_up (cRows x) 0 (va_cpy ((cRows x) 1) ((cRows x) 0) 0 0 15)), (cCnt x))) := hD
  refine lv_iinc (v := 2) (lv' := [(1, .int 2), (0, .ref (a b))]) hx hb dX0_forgetOldest_29 hl (k := 0) rfl (by decide) (by decide) rfl (fun ls hl => ?_)
  refine lv_goto (tgt := 2) hx hb dX0_forgetOldest_32 (by decide) ?_
  refine lv_iload_n hx hb dX0_forgetOldest_2 rfl (lv_at hl 0 rfl) ?_
  refine lv_bipush (v := 6) hx hb dX0_forgetOldest_3 (by decide) ?_
  refine lv_icmp_ge (tgt := 35) hx hb dX0_forgetOldest_5 (by decide) (fun c => absurd c (by decide)) (fun _ => ?_)
  refine lv_aload_n hx hb dX0_forgetOldest_8 rfl (lv_at hl 1 rfl) ?_
  refine va_get (D := gD Γ) (cl := vwCl) (tys := gTy Γ) (ci := 0) (v := .ref (a (b + 1))) (C := RX0) (T := TX0) (N := 2) hx hb hts iX0_forgetOldest_0 hown hK hP 0 rfl rfl 0 (Nat.le_of_ble_eq_true rfl) (hts (.fieldLink RX0 11 "DeadTimeLoop$Changes" "rows" "[[I") (List.mem_of_getElem? (i := 1) rfl)) (fun _ h9 => h9) rfl dX0_forgetOldest_9 ?_
  refine lv_iload_n hx hb dX0_forgetOldest_12 rfl (lv_at hl 0 rfl) ?_
  refine ka_aald (D := gD Γ) (cl := vwCl) (tys := gTy Γ) hx hb hK hP 1 3 rfl rfl 2 (by decide) (by decide) (by decide) (v := (a (b + 4))) rfl dX0_forgetOldest_13 ?_
  refine lv_iconst (v := 0) hx hb dX0_forgetOldest_14 (by decide) ?_
  refine lv_aload_n hx hb dX0_forgetOldest_15 rfl (lv_at hl 1 rfl) ?_
  refine va_get (D := gD Γ) (cl := vwCl) (tys := gTy Γ) (ci := 0) (v := .ref (a (b + 1))) (C := RX0) (T := TX0) (N := 2) hx hb hts iX0_forgetOldest_0 hown hK hP 0 rfl rfl 0 (Nat.le_of_ble_eq_true rfl) (hts (.fieldLink RX0 11 "DeadTimeLoop$Changes" "rows" "[[I") (List.mem_of_getElem? (i := 1) rfl)) (fun _ h9 => h9) rfl dX0_forgetOldest_16 ?_
  refine lv_iload_n hx hb dX0_forgetOldest_19 rfl (lv_at hl 0 rfl) ?_
  refine lv_iconst (v := 1) hx hb dX0_forgetOldest_20 (by decide) ?_
  refine lv_isub hx hb dX0_forgetOldest_21 ?_
  refine ka_aald (D := gD Γ) (cl := vwCl) (tys := gTy Γ) hx hb hK hP 1 3 rfl rfl 1 (by decide) (by decide) (by decide) (v := (a (b + 3))) rfl dX0_forgetOldest_22 ?_
  refine lv_iconst (v := 0) hx hb dX0_forgetOldest_23 (by decide) ?_
  refine lv_bipush (v := 15) hx hb dX0_forgetOldest_24 (by decide) ?_
  refine va_copyi (D := gD Γ) (cl := vwCl) (tys := gTy Γ) (f := ((cRows x) 2)) (g := ((cRows x) 1)) hx hb (hml.trans hl.1.symm) hown (hts (.methodLink RX0 29 arraycopyName) (List.mem_of_getElem? (i := 2) rfl)) (hts (.native arraycopyName) (List.mem_of_getElem? (i := 3) rfl)) (hts (.static arraycopyName) (List.mem_of_getElem? (i := 4) rfl)) (hts (.initialized "java/lang/System") (List.mem_of_getElem? (i := 5) rfl)) hK hP hD hS 4 3 0 0 rfl rfl rfl rfl rfl (by decide) (by decide) (by decide) (by decide) (by decide) (fun i hi => rfl) (Nat.le_of_ble_eq_true rfl) (Nat.le_of_ble_eq_true rfl) dX0_forgetOldest_26 (fun H locs hP hD hS => ?_)
  have hP : va_P (gD Γ) vwCl (chgW Γ a b ((va_up (va_up (cRows x) 0 (va_cpy ((cRows x) 1) ((cRows x) 0) 0 0 15)) 1 (va_cpy ((cRows x) 2) ((cRows x) 1) 0 0 15)), (cCnt x))) H := hP
  have hD : va_D A (chgW Γ a b ((va_up (va_up (cRows x) 0 (va_cpy ((cRows x) 1) ((cRows x) 0) 0 0 15)) 1 (va_cpy ((cRows x) 2) ((cRows x) 1) 0 0 15)), (cCnt x))) := hD
  refine lv_iinc (v := 3) (lv' := [(1, .int 3), (0, .ref (a b))]) hx hb dX0_forgetOldest_29 hl (k := 0) rfl (by decide) (by decide) rfl (fun ls hl => ?_)
  refine lv_goto (tgt := 2) hx hb dX0_forgetOldest_32 (by decide) ?_
  refine lv_iload_n hx hb dX0_forgetOldest_2 rfl (lv_at hl 0 rfl) ?_
  refine lv_bipush (v := 6) hx hb dX0_forgetOldest_3 (by decide) ?_
  refine lv_icmp_ge (tgt := 35) hx hb dX0_forgetOldest_5 (by decide) (fun c => absurd c (by decide)) (fun _ => ?_)
  refine lv_aload_n hx hb dX0_forgetOldest_8 rfl (lv_at hl 1 rfl) ?_
  refine va_get (D := gD Γ) (cl := vwCl) (tys := gTy Γ) (ci := 0) (v := .ref (a (b + 1))) (C := RX0) (T := TX0) (N := 2) hx hb hts iX0_forgetOldest_0 hown hK hP 0 rfl rfl 0 (Nat.le_of_ble_eq_true rfl) (hts (.fieldLink RX0 11 "DeadTimeLoop$Changes" "rows" "[[I") (List.mem_of_getElem? (i := 1) rfl)) (fun _ h9 => h9) rfl dX0_forgetOldest_9 ?_
  refine lv_iload_n hx hb dX0_forgetOldest_12 rfl (lv_at hl 0 rfl) ?_
  refine ka_aald (D := gD Γ) (cl := vwCl) (tys := gTy Γ) hx hb hK hP 1 3 rfl rfl 3 (by decide) (by decide) (by decide) (v := (a (b + 5))) rfl dX0_forgetOldest_13 ?_
  refine lv_iconst (v := 0) hx hb dX0_forgetOldest_14 (by decide) ?_
  refine lv_aload_n hx hb dX0_forgetOldest_15 rfl (lv_at hl 1 rfl) ?_
  refine va_get (D := gD Γ) (cl := vwCl) (tys := gTy Γ) (ci := 0) (v := .ref (a (b + 1))) (C := RX0) (T := TX0) (N := 2) hx hb hts iX0_forgetOldest_0 hown hK hP 0 rfl rfl 0 (Nat.le_of_ble_eq_true rfl) (hts (.fieldLink RX0 11 "DeadTimeLoop$Changes" "rows" "[[I") (List.mem_of_getElem? (i := 1) rfl)) (fun _ h9 => h9) rfl dX0_forgetOldest_16 ?_
  refine lv_iload_n hx hb dX0_forgetOldest_19 rfl (lv_at hl 0 rfl) ?_
  refine lv_iconst (v := 1) hx hb dX0_forgetOldest_20 (by decide) ?_
  refine lv_isub hx hb dX0_forgetOldest_21 ?_
  refine ka_aald (D := gD Γ) (cl := vwCl) (tys := gTy Γ) hx hb hK hP 1 3 rfl rfl 2 (by decide) (by decide) (by decide) (v := (a (b + 4))) rfl dX0_forgetOldest_22 ?_
  refine lv_iconst (v := 0) hx hb dX0_forgetOldest_23 (by decide) ?_
  refine lv_bipush (v := 15) hx hb dX0_forgetOldest_24 (by decide) ?_
  refine va_copyi (D := gD Γ) (cl := vwCl) (tys := gTy Γ) (f := ((cRows x) 3)) (g := ((cRows x) 2)) hx hb (hml.trans hl.1.symm) hown (hts (.methodLink RX0 29 arraycopyName) (List.mem_of_getElem? (i := 2) rfl)) (hts (.native arraycopyName) (List.mem_of_getElem? (i := 3) rfl)) (hts (.static arraycopyName) (List.mem_of_getElem? (i := 4) rfl)) (hts (.initialized "java/lang/System") (List.mem_of_getElem? (i := 5) rfl)) hK hP hD hS 5 4 0 0 rfl rfl rfl rfl rfl (by decide) (by decide) (by decide) (by decide) (by decide) (fun i hi => rfl) (Nat.le_of_ble_eq_true rfl) (Nat.le_of_ble_eq_true rfl) dX0_forgetOldest_26 (fun H locs hP hD hS => ?_)
  have hP : va_P (gD Γ) vwCl (chgW Γ a b ((va_up (va_up (va_up (cRows x) 0 (va_cpy ((cRows x) 1) ((cRows x) 0) 0 0 15)) 1 (va_cpy ((cRows x) 2) ((cRows x) 1) 0 0 15)) 2 (va_cpy ((cRows x) 3) ((cRows x) 2) 0 0 15)), (cCnt x))) H := hP
  have hD : va_D A (chgW Γ a b ((va_up (va_up (va_up (cRows x) 0 (va_cpy ((cRows x) 1) ((cRows x) 0) 0 0 15)) 1 (va_cpy ((cRows x) 2) ((cRows x) 1) 0 0 15)) 2 (va_cpy ((cRows x) 3) ((cRows x) 2) 0 0 15)), (cCnt x))) := hD
  refine lv_iinc (v := 4) (lv' := [(1, .int 4), (0, .ref (a b))]) hx hb dX0_forgetOldest_29 hl (k := 0) rfl (by decide) (by decide) rfl (fun ls hl => ?_)
  refine lv_goto (tgt := 2) hx hb dX0_forgetOldest_32 (by decide) ?_
  refine lv_iload_n hx hb dX0_forgetOldest_2 rfl (lv_at hl 0 rfl) ?_
  refine lv_bipush (v := 6) hx hb dX0_forgetOldest_3 (by decide) ?_
  refine lv_icmp_ge (tgt := 35) hx hb dX0_forgetOldest_5 (by decide) (fun c => absurd c (by decide)) (fun _ => ?_)
  refine lv_aload_n hx hb dX0_forgetOldest_8 rfl (lv_at hl 1 rfl) ?_
  refine va_get (D := gD Γ) (cl := vwCl) (tys := gTy Γ) (ci := 0) (v := .ref (a (b + 1))) (C := RX0) (T := TX0) (N := 2) hx hb hts iX0_forgetOldest_0 hown hK hP 0 rfl rfl 0 (Nat.le_of_ble_eq_true rfl) (hts (.fieldLink RX0 11 "DeadTimeLoop$Changes" "rows" "[[I") (List.mem_of_getElem? (i := 1) rfl)) (fun _ h9 => h9) rfl dX0_forgetOldest_9 ?_
  refine lv_iload_n hx hb dX0_forgetOldest_12 rfl (lv_at hl 0 rfl) ?_
  refine ka_aald (D := gD Γ) (cl := vwCl) (tys := gTy Γ) hx hb hK hP 1 3 rfl rfl 4 (by decide) (by decide) (by decide) (v := (a (b + 6))) rfl dX0_forgetOldest_13 ?_
  refine lv_iconst (v := 0) hx hb dX0_forgetOldest_14 (by decide) ?_
  refine lv_aload_n hx hb dX0_forgetOldest_15 rfl (lv_at hl 1 rfl) ?_
  refine va_get (D := gD Γ) (cl := vwCl) (tys := gTy Γ) (ci := 0) (v := .ref (a (b + 1))) (C := RX0) (T := TX0) (N := 2) hx hb hts iX0_forgetOldest_0 hown hK hP 0 rfl rfl 0 (Nat.le_of_ble_eq_true rfl) (hts (.fieldLink RX0 11 "DeadTimeLoop$Changes" "rows" "[[I") (List.mem_of_getElem? (i := 1) rfl)) (fun _ h9 => h9) rfl dX0_forgetOldest_16 ?_
  refine lv_iload_n hx hb dX0_forgetOldest_19 rfl (lv_at hl 0 rfl) ?_
  refine lv_iconst (v := 1) hx hb dX0_forgetOldest_20 (by decide) ?_
  refine lv_isub hx hb dX0_forgetOldest_21 ?_
  refine ka_aald (D := gD Γ) (cl := vwCl) (tys := gTy Γ) hx hb hK hP 1 3 rfl rfl 3 (by decide) (by decide) (by decide) (v := (a (b + 5))) rfl dX0_forgetOldest_22 ?_
  refine lv_iconst (v := 0) hx hb dX0_forgetOldest_23 (by decide) ?_
  refine lv_bipush (v := 15) hx hb dX0_forgetOldest_24 (by decide) ?_
  refine va_copyi (D := gD Γ) (cl := vwCl) (tys := gTy Γ) (f := ((cRows x) 4)) (g := ((cRows x) 3)) hx hb (hml.trans hl.1.symm) hown (hts (.methodLink RX0 29 arraycopyName) (List.mem_of_getElem? (i := 2) rfl)) (hts (.native arraycopyName) (List.mem_of_getElem? (i := 3) rfl)) (hts (.static arraycopyName) (List.mem_of_getElem? (i := 4) rfl)) (hts (.initialized "java/lang/System") (List.mem_of_getElem? (i := 5) rfl)) hK hP hD hS 6 5 0 0 rfl rfl rfl rfl rfl (by decide) (by decide) (by decide) (by decide) (by decide) (fun i hi => rfl) (Nat.le_of_ble_eq_true rfl) (Nat.le_of_ble_eq_true rfl) dX0_forgetOldest_26 (fun H locs hP hD hS => ?_)
  have hP : va_P (gD Γ) vwCl (chgW Γ a b ((va_up (va_up (va_up (va_up (cRows x) 0 (va_cpy ((cRows x) 1) ((cRows x) 0) 0 0 15)) 1 (va_cpy ((cRows x) 2) ((cRows x) 1) 0 0 15)) 2 (va_cpy ((cRows x) 3) ((cRows x) 2) 0 0 15)) 3 (va_cpy ((cRows x) 4) ((cRows x) 3) 0 0 15)), (cCnt x))) H := hP
  have hD : va_D A (chgW Γ a b ((va_up (va_up (va_up (va_up (cRows x) 0 (va_cpy ((cRows x) 1) ((cRows x) 0) 0 0 15)) 1 (va_cpy ((cRows x) 2) ((cRows x) 1) 0 0 15)) 2 (va_cpy ((cRows x) 3) ((cRows x) 2) 0 0 15)) 3 (va_cpy ((cRows x) 4) ((cRows x) 3) 0 0 15)), (cCnt x))) := hD
  refine lv_iinc (v := 5) (lv' := [(1, .int 5), (0, .ref (a b))]) hx hb dX0_forgetOldest_29 hl (k := 0) rfl (by decide) (by decide) rfl (fun ls hl => ?_)
  refine lv_goto (tgt := 2) hx hb dX0_forgetOldest_32 (by decide) ?_
  refine lv_iload_n hx hb dX0_forgetOldest_2 rfl (lv_at hl 0 rfl) ?_
  refine lv_bipush (v := 6) hx hb dX0_forgetOldest_3 (by decide) ?_
  refine lv_icmp_ge (tgt := 35) hx hb dX0_forgetOldest_5 (by decide) (fun c => absurd c (by decide)) (fun _ => ?_)
  refine lv_aload_n hx hb dX0_forgetOldest_8 rfl (lv_at hl 1 rfl) ?_
  refine va_get (D := gD Γ) (cl := vwCl) (tys := gTy Γ) (ci := 0) (v := .ref (a (b + 1))) (C := RX0) (T := TX0) (N := 2) hx hb hts iX0_forgetOldest_0 hown hK hP 0 rfl rfl 0 (Nat.le_of_ble_eq_true rfl) (hts (.fieldLink RX0 11 "DeadTimeLoop$Changes" "rows" "[[I") (List.mem_of_getElem? (i := 1) rfl)) (fun _ h9 => h9) rfl dX0_forgetOldest_9 ?_
  refine lv_iload_n hx hb dX0_forgetOldest_12 rfl (lv_at hl 0 rfl) ?_
  refine ka_aald (D := gD Γ) (cl := vwCl) (tys := gTy Γ) hx hb hK hP 1 3 rfl rfl 5 (by decide) (by decide) (by decide) (v := (a (b + 7))) rfl dX0_forgetOldest_13 ?_
  refine lv_iconst (v := 0) hx hb dX0_forgetOldest_14 (by decide) ?_
  refine lv_aload_n hx hb dX0_forgetOldest_15 rfl (lv_at hl 1 rfl) ?_
  refine va_get (D := gD Γ) (cl := vwCl) (tys := gTy Γ) (ci := 0) (v := .ref (a (b + 1))) (C := RX0) (T := TX0) (N := 2) hx hb hts iX0_forgetOldest_0 hown hK hP 0 rfl rfl 0 (Nat.le_of_ble_eq_true rfl) (hts (.fieldLink RX0 11 "DeadTimeLoop$Changes" "rows" "[[I") (List.mem_of_getElem? (i := 1) rfl)) (fun _ h9 => h9) rfl dX0_forgetOldest_16 ?_
  refine lv_iload_n hx hb dX0_forgetOldest_19 rfl (lv_at hl 0 rfl) ?_
  refine lv_iconst (v := 1) hx hb dX0_forgetOldest_20 (by decide) ?_
  refine lv_isub hx hb dX0_forgetOldest_21 ?_
  refine ka_aald (D := gD Γ) (cl := vwCl) (tys := gTy Γ) hx hb hK hP 1 3 rfl rfl 4 (by decide) (by decide) (by decide) (v := (a (b + 6))) rfl dX0_forgetOldest_22 ?_
  refine lv_iconst (v := 0) hx hb dX0_forgetOldest_23 (by decide) ?_
  refine lv_bipush (v := 15) hx hb dX0_forgetOldest_24 (by decide) ?_
  refine va_copyi (D := gD Γ) (cl := vwCl) (tys := gTy Γ) (f := ((cRows x) 5)) (g := ((cRows x) 4)) hx hb (hml.trans hl.1.symm) hown (hts (.methodLink RX0 29 arraycopyName) (List.mem_of_getElem? (i := 2) rfl)) (hts (.native arraycopyName) (List.mem_of_getElem? (i := 3) rfl)) (hts (.static arraycopyName) (List.mem_of_getElem? (i := 4) rfl)) (hts (.initialized "java/lang/System") (List.mem_of_getElem? (i := 5) rfl)) hK hP hD hS 7 6 0 0 rfl rfl rfl rfl rfl (by decide) (by decide) (by decide) (by decide) (by decide) (fun i hi => rfl) (Nat.le_of_ble_eq_true rfl) (Nat.le_of_ble_eq_true rfl) dX0_forgetOldest_26 (fun H locs hP hD hS => ?_)
  have hP : va_P (gD Γ) vwCl (chgW Γ a b ((va_up (va_up (va_up (va_up (va_up (cRows x) 0 (va_cpy ((cRows x) 1) ((cRows x) 0) 0 0 15)) 1 (va_cpy ((cRows x) 2) ((cRows x) 1) 0 0 15)) 2 (va_cpy ((cRows x) 3) ((cRows x) 2) 0 0 15)) 3 (va_cpy ((cRows x) 4) ((cRows x) 3) 0 0 15)) 4 (va_cpy ((cRows x) 5) ((cRows x) 4) 0 0 15)), (cCnt x))) H := hP
  have hD : va_D A (chgW Γ a b ((va_up (va_up (va_up (va_up (va_up (cRows x) 0 (va_cpy ((cRows x) 1) ((cRows x) 0) 0 0 15)) 1 (va_cpy ((cRows x) 2) ((cRows x) 1) 0 0 15)) 2 (va_cpy ((cRows x) 3) ((cRows x) 2) 0 0 15)) 3 (va_cpy ((cRows x) 4) ((cRows x) 3) 0 0 15)) 4 (va_cpy ((cRows x) 5) ((cRows x) 4) 0 0 15)), (cCnt x))) := hD
  refine lv_iinc (v := 6) (lv' := [(1, .int 6), (0, .ref (a b))]) hx hb dX0_forgetOldest_29 hl (k := 0) rfl (by decide) (by decide) rfl (fun ls hl => ?_)
  refine lv_goto (tgt := 2) hx hb dX0_forgetOldest_32 (by decide) ?_
  refine lv_iload_n hx hb dX0_forgetOldest_2 rfl (lv_at hl 0 rfl) ?_
  refine lv_bipush (v := 6) hx hb dX0_forgetOldest_3 (by decide) ?_
  refine lv_icmp_ge (tgt := 35) hx hb dX0_forgetOldest_5 (by decide) (fun _ => ?_) (fun c => (c (by decide)).elim)
  refine lv_aload_n hx hb dX0_forgetOldest_35 rfl (lv_at hl 1 rfl) ?_
  refine lv_iconst (v := 5) hx hb dX0_forgetOldest_36 (by decide) ?_
  refine va_put (D := gD Γ) (cl := vwCl) (tys := gTy Γ) (ci := 0) (v := .int 5) (ty := tyX0 1) (C := RX0) (T := TX0) (N := 2) hx hb hts iX0_forgetOldest_0 tyX0 tyX0_ok nmX0 hown hK hP hD hS 0 rfl rfl 1 (Nat.le_of_ble_eq_true rfl) (hts (.fieldLink RX0 16 "DeadTimeLoop$Changes" "count" "I") (List.mem_of_getElem? (i := 6) rfl)) (fun _ h9 => h9) rfl (tyX0_ok 1 (Nat.le_of_ble_eq_true rfl)) rfl rfl (Nat.le_of_ble_eq_true rfl) dX0_forgetOldest_37 (fun H locs hP hD hS => ?_)
  have hP : va_P (gD Γ) vwCl (chgW Γ a b ((va_up (va_up (va_up (va_up (va_up (cRows x) 0 (va_cpy ((cRows x) 1) ((cRows x) 0) 0 0 15)) 1 (va_cpy ((cRows x) 2) ((cRows x) 1) 0 0 15)) 2 (va_cpy ((cRows x) 3) ((cRows x) 2) 0 0 15)) 3 (va_cpy ((cRows x) 4) ((cRows x) 3) 0 0 15)) 4 (va_cpy ((cRows x) 5) ((cRows x) 4) 0 0 15)), 5)) H := hP
  have hD : va_D A (chgW Γ a b ((va_up (va_up (va_up (va_up (va_up (cRows x) 0 (va_cpy ((cRows x) 1) ((cRows x) 0) 0 0 15)) 1 (va_cpy ((cRows x) 2) ((cRows x) 1) 0 0 15)) 2 (va_cpy ((cRows x) 3) ((cRows x) 2) 0 0 15)) 3 (va_cpy ((cRows x) 4) ((cRows x) 3) 0 0 15)) 4 (va_cpy ((cRows x) 5) ((cRows x) 4) 0 0 15)), 5)) := hD
  exact re_v hQ ha hx hb hr hlk hAe hP hS dX0_forgetOldest_40 (by skip; first | rfl | simp [])
def rm_X0_keep : Room := { frames := 2, cells := 0, slots := 0, locals := 49 }
theorem iX0_keep_0 : ∀ w ∈ u_ws RX0 TX0 2, w ∈ wsX0_keep := fun w h => (List.mem_cons_of_mem _ (List.mem_append_left _ (List.mem_append_right _ h)))
theorem iX0_keep_3 : ∀ w ∈ u_ws RX3 TX3 1, w ∈ wsX0_keep := fun w h => (List.mem_cons_of_mem _ (List.mem_append_right _ h))
set_option maxHeartbeats 1000000 in
set_option maxRecDepth 100000 in
theorem c_X0_keep (Γ : gT) (l : Launch) (a : Nat → Nat) (b : Nat) (a2 : Nat → Nat) (b2 : Nat) (x : Chg) (v : Sett) (hc : cCnt x = 0 ∨ cCnt x = 1 ∨ cCnt x = 2 ∨ cCnt x = 3 ∨ cCnt x = 4 ∨ cCnt x = 5 ∨ cCnt x = 6) : Cv Γ l yX0_keep wsX0_keep rm_X0_keep [.ref (a b), .ref (a2 b2)] (chgW Γ a b x ++ setW Γ a2 b2 v) (chgW Γ a b (cKeep x v) ++ setW Γ a2 b2 v) := by
  refine Cv.of (cc := cX0_keep) (own := RX0) (nL := 2) (ret := none) (by decide +kernel) rfl rfl (Nat.le_of_ble_eq_true rfl) ?_
  intro p e s m args below meth c A Q H locs ls ha hAe hQ hx hb hml hr hts hown hlk hP hK hD hS hA hG hl
  have hh : Hd Γ p s m args c cX0_keep RX0 2 wsX0_keep A := ⟨⟨hx, hb, hml, hown, hts⟩, hK, hA, hG⟩
  have hl : lv_has ls 2 [(0, .ref (a b)), (1, .ref (a2 b2))] := hl
  obtain ⟨R, cnt⟩ := x
  change cnt = 0 ∨ cnt = 1 ∨ cnt = 2 ∨ cnt = 3 ∨ cnt = 4 ∨ cnt = 5 ∨ cnt = 6 at hc
  rcases hc with rfl | rfl | rfl | rfl | rfl | rfl | rfl
  · --
    refine lv_aload_n hx hb dX0_keep_0 rfl (lv_at hl 0 rfl) ?_
    refine va_get (D := gD Γ) (cl := vwCl) (tys := gTy Γ) (ci := 0) (v := .int 0) (C := RX0) (T := TX0) (N := 2) hx hb hts iX0_keep_0 hown hK hP 0 rfl rfl 1 (Nat.le_of_ble_eq_true rfl) (hts (.fieldLink RX0 16 "DeadTimeLoop$Changes" "count" "I") (List.mem_of_getElem? (i := 1) rfl)) (fun _ h9 => h9) rfl dX0_keep_1 ?_
    refine lv_bipush (v := 6) hx hb dX0_keep_4 (by decide) ?_
    refine lv_icmp_lt (tgt := 13) hx hb dX0_keep_6 (by decide) (fun _ => ?_) (fun c => (c (by decide)).elim)
    refine lv_aload_n hx hb dX0_keep_13 rfl (lv_at hl 1 rfl) ?_
    refine va_getN (D := gD Γ) (cl := vwCl) (tys := gTy Γ) (ci := 3) (v := .ref (a2 (b2 + 1))) (C := RX3) (T := TX3) (N := 1) hx hb hts iX0_keep_3 hown hK hP 8 rfl rfl 0 (Nat.le_of_ble_eq_true rfl) (va_Nw.use rfl hG.1.2.1) (fun _ h9 => h9) rfl dX0_keep_14 ?_
    refine lv_iconst (v := 0) hx hb dX0_keep_17 (by decide) ?_
    refine lv_aload_n hx hb dX0_keep_18 rfl (lv_at hl 0 rfl) ?_
    refine va_get (D := gD Γ) (cl := vwCl) (tys := gTy Γ) (ci := 0) (v := .ref (a (b + 1))) (C := RX0) (T := TX0) (N := 2) hx hb hts iX0_keep_0 hown hK hP 0 rfl rfl 0 (Nat.le_of_ble_eq_true rfl) (hts (.fieldLink RX0 11 "DeadTimeLoop$Changes" "rows" "[[I") (List.mem_of_getElem? (i := 2) rfl)) (fun _ h9 => h9) rfl dX0_keep_19 ?_
    refine lv_aload_n hx hb dX0_keep_22 rfl (lv_at hl 0 rfl) ?_
    refine va_get (D := gD Γ) (cl := vwCl) (tys := gTy Γ) (ci := 0) (v := .int 0) (C := RX0) (T := TX0) (N := 2) hx hb hts iX0_keep_0 hown hK hP 0 rfl rfl 1 (Nat.le_of_ble_eq_true rfl) (hts (.fieldLink RX0 16 "DeadTimeLoop$Changes" "count" "I") (List.mem_of_getElem? (i := 1) rfl)) (fun _ h9 => h9) rfl dX0_keep_23 ?_
    refine ka_aald (D := gD Γ) (cl := vwCl) (tys := gTy Γ) hx hb hK hP 1 3 rfl rfl 0 (by decide) (by decide) (by decide) (v := (a (b + 2))) rfl dX0_keep_26 ?_
    refine lv_iconst (v := 0) hx hb dX0_keep_27 (by decide) ?_
    refine lv_bipush (v := 15) hx hb dX0_keep_28 (by decide) ?_
    refine va_copyi (D := gD Γ) (cl := vwCl) (tys := gTy Γ) (f := v) (g := (R 0)) hx hb (hml.trans hl.1.symm) hown (hts (.methodLink RX0 29 arraycopyName) (List.mem_of_getElem? (i := 3) rfl)) (hts (.native arraycopyName) (List.mem_of_getElem? (i := 4) rfl)) (hts (.static arraycopyName) (List.mem_of_getElem? (i := 5) rfl)) (hts (.initialized "java/lang/System") (List.mem_of_getElem? (i := 6) rfl)) hK hP hD hS 9 2 0 0 rfl rfl rfl rfl rfl (by decide) (by decide) (by decide) (by decide) (by decide) (fun i hi => rfl) (Nat.le_of_ble_eq_true rfl) (Nat.le_of_ble_eq_true rfl) dX0_keep_30 (fun H locs hP hD hS => ?_)
    have hP : va_P (gD Γ) vwCl (chgW Γ a b ((va_up R 0 (va_cpy v (R 0) 0 0 15)), 0) ++ setW Γ a2 b2 v) H := hP
    have hD : va_D A (chgW Γ a b ((va_up R 0 (va_cpy v (R 0) 0 0 15)), 0) ++ setW Γ a2 b2 v) := hD
    refine lv_aload_n hx hb dX0_keep_33 rfl (lv_at hl 0 rfl) ?_
    refine lv_dup hx hb dX0_keep_34 rfl ?_
    refine va_get (D := gD Γ) (cl := vwCl) (tys := gTy Γ) (ci := 0) (v := .int 0) (C := RX0) (T := TX0) (N := 2) hx hb hts iX0_keep_0 hown hK hP 0 rfl rfl 1 (Nat.le_of_ble_eq_true rfl) (hts (.fieldLink RX0 16 "DeadTimeLoop$Changes" "count" "I") (List.mem_of_getElem? (i := 1) rfl)) (fun _ h9 => h9) rfl dX0_keep_35 ?_
    refine lv_iconst (v := 1) hx hb dX0_keep_38 (by decide) ?_
    refine lv_iadd hx hb dX0_keep_39 ?_
    refine va_put (D := gD Γ) (cl := vwCl) (tys := gTy Γ) (ci := 0) (v := .int (0 + 1)) (ty := tyX0 1) (C := RX0) (T := TX0) (N := 2) hx hb hts iX0_keep_0 tyX0 tyX0_ok nmX0 hown hK hP hD hS 0 rfl rfl 1 (Nat.le_of_ble_eq_true rfl) (hts (.fieldLink RX0 16 "DeadTimeLoop$Changes" "count" "I") (List.mem_of_getElem? (i := 1) rfl)) (fun _ h9 => h9) rfl (tyX0_ok 1 (Nat.le_of_ble_eq_true rfl)) rfl rfl (Nat.le_of_ble_eq_true rfl) dX0_keep_40 (fun H locs hP hD hS => ?_)
    have hP : va_P (gD Γ) vwCl (chgW Γ a b ((va_up R 0 (va_cpy v (R 0) 0 0 15)), (0 + 1)) ++ setW Γ a2 b2 v) H := hP
    have hD : va_D A (chgW Γ a b ((va_up R 0 (va_cpy v (R 0) 0 0 15)), (0 + 1)) ++ setW Γ a2 b2 v) := hD
    exact re_v hQ ha hx hb hr hlk hAe hP hS dX0_keep_43 (by skip; rfl)
  · --
    refine lv_aload_n hx hb dX0_keep_0 rfl (lv_at hl 0 rfl) ?_
    refine va_get (D := gD Γ) (cl := vwCl) (tys := gTy Γ) (ci := 0) (v := .int 1) (C := RX0) (T := TX0) (N := 2) hx hb hts iX0_keep_0 hown hK hP 0 rfl rfl 1 (Nat.le_of_ble_eq_true rfl) (hts (.fieldLink RX0 16 "DeadTimeLoop$Changes" "count" "I") (List.mem_of_getElem? (i := 1) rfl)) (fun _ h9 => h9) rfl dX0_keep_1 ?_
    refine lv_bipush (v := 6) hx hb dX0_keep_4 (by decide) ?_
    refine lv_icmp_lt (tgt := 13) hx hb dX0_keep_6 (by decide) (fun _ => ?_) (fun c => (c (by decide)).elim)
    refine lv_aload_n hx hb dX0_keep_13 rfl (lv_at hl 1 rfl) ?_
    refine va_getN (D := gD Γ) (cl := vwCl) (tys := gTy Γ) (ci := 3) (v := .ref (a2 (b2 + 1))) (C := RX3) (T := TX3) (N := 1) hx hb hts iX0_keep_3 hown hK hP 8 rfl rfl 0 (Nat.le_of_ble_eq_true rfl) (va_Nw.use rfl hG.1.2.1) (fun _ h9 => h9) rfl dX0_keep_14 ?_
    refine lv_iconst (v := 0) hx hb dX0_keep_17 (by decide) ?_
    refine lv_aload_n hx hb dX0_keep_18 rfl (lv_at hl 0 rfl) ?_
    refine va_get (D := gD Γ) (cl := vwCl) (tys := gTy Γ) (ci := 0) (v := .ref (a (b + 1))) (C := RX0) (T := TX0) (N := 2) hx hb hts iX0_keep_0 hown hK hP 0 rfl rfl 0 (Nat.le_of_ble_eq_true rfl) (hts (.fieldLink RX0 11 "DeadTimeLoop$Changes" "rows" "[[I") (List.mem_of_getElem? (i := 2) rfl)) (fun _ h9 => h9) rfl dX0_keep_19 ?_
    refine lv_aload_n hx hb dX0_keep_22 rfl (lv_at hl 0 rfl) ?_
    refine va_get (D := gD Γ) (cl := vwCl) (tys := gTy Γ) (ci := 0) (v := .int 1) (C := RX0) (T := TX0) (N := 2) hx hb hts iX0_keep_0 hown hK hP 0 rfl rfl 1 (Nat.le_of_ble_eq_true rfl) (hts (.fieldLink RX0 16 "DeadTimeLoop$Changes" "count" "I") (List.mem_of_getElem? (i := 1) rfl)) (fun _ h9 => h9) rfl dX0_keep_23 ?_
    refine ka_aald (D := gD Γ) (cl := vwCl) (tys := gTy Γ) hx hb hK hP 1 3 rfl rfl 1 (by decide) (by decide) (by decide) (v := (a (b + 3))) rfl dX0_keep_26 ?_
    refine lv_iconst (v := 0) hx hb dX0_keep_27 (by decide) ?_
    refine lv_bipush (v := 15) hx hb dX0_keep_28 (by decide) ?_
    refine va_copyi (D := gD Γ) (cl := vwCl) (tys := gTy Γ) (f := v) (g := (R 1)) hx hb (hml.trans hl.1.symm) hown (hts (.methodLink RX0 29 arraycopyName) (List.mem_of_getElem? (i := 3) rfl)) (hts (.native arraycopyName) (List.mem_of_getElem? (i := 4) rfl)) (hts (.static arraycopyName) (List.mem_of_getElem? (i := 5) rfl)) (hts (.initialized "java/lang/System") (List.mem_of_getElem? (i := 6) rfl)) hK hP hD hS 9 3 0 0 rfl rfl rfl rfl rfl (by decide) (by decide) (by decide) (by decide) (by decide) (fun i hi => rfl) (Nat.le_of_ble_eq_true rfl) (Nat.le_of_ble_eq_true rfl) dX0_keep_30 (fun H locs hP hD hS => ?_)
    have hP : va_P (gD Γ) vwCl (chgW Γ a b ((va_up R 1 (va_cpy v (R 1) 0 0 15)), 1) ++ setW Γ a2 b2 v) H := hP
    have hD : va_D A (chgW Γ a b ((va_up R 1 (va_cpy v (R 1) 0 0 15)), 1) ++ setW Γ a2 b2 v) := hD
    refine lv_aload_n hx hb dX0_keep_33 rfl (lv_at hl 0 rfl) ?_
    refine lv_dup hx hb dX0_keep_34 rfl ?_
    refine va_get (D := gD Γ) (cl := vwCl) (tys := gTy Γ) (ci := 0) (v := .int 1) (C := RX0) (T := TX0) (N := 2) hx hb hts iX0_keep_0 hown hK hP 0 rfl rfl 1 (Nat.le_of_ble_eq_true rfl) (hts (.fieldLink RX0 16 "DeadTimeLoop$Changes" "count" "I") (List.mem_of_getElem? (i := 1) rfl)) (fun _ h9 => h9) rfl dX0_keep_35 ?_
    refine lv_iconst (v := 1) hx hb dX0_keep_38 (by decide) ?_
    refine lv_iadd hx hb dX0_keep_39 ?_
    refine va_put (D := gD Γ) (cl := vwCl) (tys := gTy Γ) (ci := 0) (v := .int (1 + 1)) (ty := tyX0 1) (C := RX0) (T := TX0) (N := 2) hx hb hts iX0_keep_0 tyX0 tyX0_ok nmX0 hown hK hP hD hS 0 rfl rfl 1 (Nat.le_of_ble_eq_true rfl) (hts (.fieldLink RX0 16 "DeadTimeLoop$Changes" "count" "I") (List.mem_of_getElem? (i := 1) rfl)) (fun _ h9 => h9) rfl (tyX0_ok 1 (Nat.le_of_ble_eq_true rfl)) rfl rfl (Nat.le_of_ble_eq_true rfl) dX0_keep_40 (fun H locs hP hD hS => ?_)
    have hP : va_P (gD Γ) vwCl (chgW Γ a b ((va_up R 1 (va_cpy v (R 1) 0 0 15)), (1 + 1)) ++ setW Γ a2 b2 v) H := hP
    have hD : va_D A (chgW Γ a b ((va_up R 1 (va_cpy v (R 1) 0 0 15)), (1 + 1)) ++ setW Γ a2 b2 v) := hD
    exact re_v hQ ha hx hb hr hlk hAe hP hS dX0_keep_43 (by skip; rfl)
  · --
    refine lv_aload_n hx hb dX0_keep_0 rfl (lv_at hl 0 rfl) ?_
    refine va_get (D := gD Γ) (cl := vwCl) (tys := gTy Γ) (ci := 0) (v := .int 2) (C := RX0) (T := TX0) (N := 2) hx hb hts iX0_keep_0 hown hK hP 0 rfl rfl 1 (Nat.le_of_ble_eq_true rfl) (hts (.fieldLink RX0 16 "DeadTimeLoop$Changes" "count" "I") (List.mem_of_getElem? (i := 1) rfl)) (fun _ h9 => h9) rfl dX0_keep_1 ?_
    refine lv_bipush (v := 6) hx hb dX0_keep_4 (by decide) ?_
    refine lv_icmp_lt (tgt := 13) hx hb dX0_keep_6 (by decide) (fun _ => ?_) (fun c => (c (by decide)).elim)
    refine lv_aload_n hx hb dX0_keep_13 rfl (lv_at hl 1 rfl) ?_
    refine va_getN (D := gD Γ) (cl := vwCl) (tys := gTy Γ) (ci := 3) (v := .ref (a2 (b2 + 1))) (C := RX3) (T := TX3) (N := 1) hx hb hts iX0_keep_3 hown hK hP 8 rfl rfl 0 (Nat.le_of_ble_eq_true rfl) (va_Nw.use rfl hG.1.2.1) (fun _ h9 => h9) rfl dX0_keep_14 ?_
    refine lv_iconst (v := 0) hx hb dX0_keep_17 (by decide) ?_
    refine lv_aload_n hx hb dX0_keep_18 rfl (lv_at hl 0 rfl) ?_
    refine va_get (D := gD Γ) (cl := vwCl) (tys := gTy Γ) (ci := 0) (v := .ref (a (b + 1))) (C := RX0) (T := TX0) (N := 2) hx hb hts iX0_keep_0 hown hK hP 0 rfl rfl 0 (Nat.le_of_ble_eq_true rfl) (hts (.fieldLink RX0 11 "DeadTimeLoop$Changes" "rows" "[[I") (List.mem_of_getElem? (i := 2) rfl)) (fun _ h9 => h9) rfl dX0_keep_19 ?_
    refine lv_aload_n hx hb dX0_keep_22 rfl (lv_at hl 0 rfl) ?_
    refine va_get (D := gD Γ) (cl := vwCl) (tys := gTy Γ) (ci := 0) (v := .int 2) (C := RX0) (T := TX0) (N := 2) hx hb hts iX0_keep_0 hown hK hP 0 rfl rfl 1 (Nat.le_of_ble_eq_true rfl) (hts (.fieldLink RX0 16 "DeadTimeLoop$Changes" "count" "I") (List.mem_of_getElem? (i := 1) rfl)) (fun _ h9 => h9) rfl dX0_keep_23 ?_
    refine ka_aald (D := gD Γ) (cl := vwCl) (tys := gTy Γ) hx hb hK hP 1 3 rfl rfl 2 (by decide) (by decide) (by decide) (v := (a (b + 4))) rfl dX0_keep_26 ?_
    refine lv_iconst (v := 0) hx hb dX0_keep_27 (by decide) ?_
    refine lv_bipush (v := 15) hx hb dX0_keep_28 (by decide) ?_
    refine va_copyi (D := gD Γ) (cl := vwCl) (tys := gTy Γ) (f := v) (g := (R 2)) hx hb (hml.trans hl.1.symm) hown (hts (.methodLink RX0 29 arraycopyName) (List.mem_of_getElem? (i := 3) rfl)) (hts (.native arraycopyName) (List.mem_of_getElem? (i := 4) rfl)) (hts (.static arraycopyName) (List.mem_of_getElem? (i := 5) rfl)) (hts (.initialized "java/lang/System") (List.mem_of_getElem? (i := 6) rfl)) hK hP hD hS 9 4 0 0 rfl rfl rfl rfl rfl (by decide) (by decide) (by decide) (by decide) (by decide) (fun i hi => rfl) (Nat.le_of_ble_eq_true rfl) (Nat.le_of_ble_eq_true rfl) dX0_keep_30 (fun H locs hP hD hS => ?_)
    have hP : va_P (gD Γ) vwCl (chgW Γ a b ((va_up R 2 (va_cpy v (R 2) 0 0 15)), 2) ++ setW Γ a2 b2 v) H := hP
    have hD : va_D A (chgW Γ a b ((va_up R 2 (va_cpy v (R 2) 0 0 15)), 2) ++ setW Γ a2 b2 v) := hD
    refine lv_aload_n hx hb dX0_keep_33 rfl (lv_at hl 0 rfl) ?_
    refine lv_dup hx hb dX0_keep_34 rfl ?_
    refine va_get (D := gD Γ) (cl := vwCl) (tys := gTy Γ) (ci := 0) (v := .int 2) (C := RX0) (T := TX0) (N := 2) hx hb hts iX0_keep_0 hown hK hP 0 rfl rfl 1 (Nat.le_of_ble_eq_true rfl) (hts (.fieldLink RX0 16 "DeadTimeLoop$Changes" "count" "I") (List.mem_of_getElem? (i := 1) rfl)) (fun _ h9 => h9) rfl dX0_keep_35 ?_
    refine lv_iconst (v := 1) hx hb dX0_keep_38 (by decide) ?_
    refine lv_iadd hx hb dX0_keep_39 ?_
    refine va_put (D := gD Γ) (cl := vwCl) (tys := gTy Γ) (ci := 0) (v := .int (2 + 1)) (ty := tyX0 1) (C := RX0) (T := TX0) (N := 2) hx hb hts iX0_keep_0 tyX0 tyX0_ok nmX0 hown hK hP hD hS 0 rfl rfl 1 (Nat.le_of_ble_eq_true rfl) (hts (.fieldLink RX0 16 "DeadTimeLoop$Changes" "count" "I") (List.mem_of_getElem? (i := 1) rfl)) (fun _ h9 => h9) rfl (tyX0_ok 1 (Nat.le_of_ble_eq_true rfl)) rfl rfl (Nat.le_of_ble_eq_true rfl) dX0_keep_40 (fun H locs hP hD hS => ?_)
    have hP : va_P (gD Γ) vwCl (chgW Γ a b ((va_up R 2 (va_cpy v (R 2) 0 0 15)), (2 + 1)) ++ setW Γ a2 b2 v) H := hP
    have hD : va_D A (chgW Γ a b ((va_up R 2 (va_cpy v (R 2) 0 0 15)), (2 + 1)) ++ setW Γ a2 b2 v) := hD
    exact re_v hQ ha hx hb hr hlk hAe hP hS dX0_keep_43 (by skip; rfl)
  · --
    refine lv_aload_n hx hb dX0_keep_0 rfl (lv_at hl 0 rfl) ?_
    refine va_get (D := gD Γ) (cl := vwCl) (tys := gTy Γ) (ci := 0) (v := .int 3) (C := RX0) (T := TX0) (N := 2) hx hb hts iX0_keep_0 hown hK hP 0 rfl rfl 1 (Nat.le_of_ble_eq_true rfl) (hts (.fieldLink RX0 16 "DeadTimeLoop$Changes" "count" "I") (List.mem_of_getElem? (i := 1) rfl)) (fun _ h9 => h9) rfl dX0_keep_1 ?_
    refine lv_bipush (v := 6) hx hb dX0_keep_4 (by decide) ?_
    refine lv_icmp_lt (tgt := 13) hx hb dX0_keep_6 (by decide) (fun _ => ?_) (fun c => (c (by decide)).elim)
    refine lv_aload_n hx hb dX0_keep_13 rfl (lv_at hl 1 rfl) ?_
    refine va_getN (D := gD Γ) (cl := vwCl) (tys := gTy Γ) (ci := 3) (v := .ref (a2 (b2 + 1))) (C := RX3) (T := TX3) (N := 1) hx hb hts iX0_keep_3 hown hK hP 8 rfl rfl 0 (Nat.le_of_ble_eq_true rfl) (va_Nw.use rfl hG.1.2.1) (fun _ h9 => h9) rfl dX0_keep_14 ?_
    refine lv_iconst (v := 0) hx hb dX0_keep_17 (by decide) ?_
    refine lv_aload_n hx hb dX0_keep_18 rfl (lv_at hl 0 rfl) ?_
    refine va_get (D := gD Γ) (cl := vwCl) (tys := gTy Γ) (ci := 0) (v := .ref (a (b + 1))) (C := RX0) (T := TX0) (N := 2) hx hb hts iX0_keep_0 hown hK hP 0 rfl rfl 0 (Nat.le_of_ble_eq_true rfl) (hts (.fieldLink RX0 11 "DeadTimeLoop$Changes" "rows" "[[I") (List.mem_of_getElem? (i := 2) rfl)) (fun _ h9 => h9) rfl dX0_keep_19 ?_
    refine lv_aload_n hx hb dX0_keep_22 rfl (lv_at hl 0 rfl) ?_
    refine va_get (D := gD Γ) (cl := vwCl) (tys := gTy Γ) (ci := 0) (v := .int 3) (C := RX0) (T := TX0) (N := 2) hx hb hts iX0_keep_0 hown hK hP 0 rfl rfl 1 (Nat.le_of_ble_eq_true rfl) (hts (.fieldLink RX0 16 "DeadTimeLoop$Changes" "count" "I") (List.mem_of_getElem? (i := 1) rfl)) (fun _ h9 => h9) rfl dX0_keep_23 ?_
    refine ka_aald (D := gD Γ) (cl := vwCl) (tys := gTy Γ) hx hb hK hP 1 3 rfl rfl 3 (by decide) (by decide) (by decide) (v := (a (b + 5))) rfl dX0_keep_26 ?_
    refine lv_iconst (v := 0) hx hb dX0_keep_27 (by decide) ?_
    refine lv_bipush (v := 15) hx hb dX0_keep_28 (by decide) ?_
    refine va_copyi (D := gD Γ) (cl := vwCl) (tys := gTy Γ) (f := v) (g := (R 3)) hx hb (hml.trans hl.1.symm) hown (hts (.methodLink RX0 29 arraycopyName) (List.mem_of_getElem? (i := 3) rfl)) (hts (.native arraycopyName) (List.mem_of_getElem? (i := 4) rfl)) (hts (.static arraycopyName) (List.mem_of_getElem? (i := 5) rfl)) (hts (.initialized "java/lang/System") (List.mem_of_getElem? (i := 6) rfl)) hK hP hD hS 9 5 0 0 rfl rfl rfl rfl rfl (by decide) (by decide) (by decide) (by decide) (by decide) (fun i hi => rfl) (Nat.le_of_ble_eq_true rfl) (Nat.le_of_ble_eq_true rfl) dX0_keep_30 (fun H locs hP hD hS => ?_)
    have hP : va_P (gD Γ) vwCl (chgW Γ a b ((va_up R 3 (va_cpy v (R 3) 0 0 15)), 3) ++ setW Γ a2 b2 v) H := hP
    have hD : va_D A (chgW Γ a b ((va_up R 3 (va_cpy v (R 3) 0 0 15)), 3) ++ setW Γ a2 b2 v) := hD
    refine lv_aload_n hx hb dX0_keep_33 rfl (lv_at hl 0 rfl) ?_
    refine lv_dup hx hb dX0_keep_34 rfl ?_
    refine va_get (D := gD Γ) (cl := vwCl) (tys := gTy Γ) (ci := 0) (v := .int 3) (C := RX0) (T := TX0) (N := 2) hx hb hts iX0_keep_0 hown hK hP 0 rfl rfl 1 (Nat.le_of_ble_eq_true rfl) (hts (.fieldLink RX0 16 "DeadTimeLoop$Changes" "count" "I") (List.mem_of_getElem? (i := 1) rfl)) (fun _ h9 => h9) rfl dX0_keep_35 ?_
    refine lv_iconst (v := 1) hx hb dX0_keep_38 (by decide) ?_
    refine lv_iadd hx hb dX0_keep_39 ?_
    refine va_put (D := gD Γ) (cl := vwCl) (tys := gTy Γ) (ci := 0) (v := .int (3 + 1)) (ty := tyX0 1) (C := RX0) (T := TX0) (N := 2) hx hb hts iX0_keep_0 tyX0 tyX0_ok nmX0 hown hK hP hD hS 0 rfl rfl 1 (Nat.le_of_ble_eq_true rfl) (hts (.fieldLink RX0 16 "DeadTimeLoop$Changes" "count" "I") (List.mem_of_getElem? (i := 1) rfl)) (fun _ h9 => h9) rfl (tyX0_ok 1 (Nat.le_of_ble_eq_true rfl)) rfl rfl (Nat.le_of_ble_eq_true rfl) dX0_keep_40 (fun H locs hP hD hS => ?_)
    have hP : va_P (gD Γ) vwCl (chgW Γ a b ((va_up R 3 (va_cpy v (R 3) 0 0 15)), (3 + 1)) ++ setW Γ a2 b2 v) H := hP
    have hD : va_D A (chgW Γ a b ((va_up R 3 (va_cpy v (R 3) 0 0 15)), (3 + 1)) ++ setW Γ a2 b2 v) := hD
    exact re_v hQ ha hx hb hr hlk hAe hP hS dX0_keep_43 (by skip; rfl)
  · --
    refine lv_aload_n hx hb dX0_keep_0 rfl (lv_at hl 0 rfl) ?_
    refine va_get (D := gD Γ) (cl := vwCl) (tys := gTy Γ) (ci := 0) (v := .int 4) (C := RX0) (T := TX0) (N := 2) hx hb hts iX0_keep_0 hown hK hP 0 rfl rfl 1 (Nat.le_of_ble_eq_true rfl) (hts (.fieldLink RX0 16 "DeadTimeLoop$Changes" "count" "I") (List.mem_of_getElem? (i := 1) rfl)) (fun _ h9 => h9) rfl dX0_keep_1 ?_
    refine lv_bipush (v := 6) hx hb dX0_keep_4 (by decide) ?_
    refine lv_icmp_lt (tgt := 13) hx hb dX0_keep_6 (by decide) (fun _ => ?_) (fun c => (c (by decide)).elim)
    refine lv_aload_n hx hb dX0_keep_13 rfl (lv_at hl 1 rfl) ?_
    refine va_getN (D := gD Γ) (cl := vwCl) (tys := gTy Γ) (ci := 3) (v := .ref (a2 (b2 + 1))) (C := RX3) (T := TX3) (N := 1) hx hb hts iX0_keep_3 hown hK hP 8 rfl rfl 0 (Nat.le_of_ble_eq_true rfl) (va_Nw.use rfl hG.1.2.1) (fun _ h9 => h9) rfl dX0_keep_14 ?_
    refine lv_iconst (v := 0) hx hb dX0_keep_17 (by decide) ?_
    refine lv_aload_n hx hb dX0_keep_18 rfl (lv_at hl 0 rfl) ?_
    refine va_get (D := gD Γ) (cl := vwCl) (tys := gTy Γ) (ci := 0) (v := .ref (a (b + 1))) (C := RX0) (T := TX0) (N := 2) hx hb hts iX0_keep_0 hown hK hP 0 rfl rfl 0 (Nat.le_of_ble_eq_true rfl) (hts (.fieldLink RX0 11 "DeadTimeLoop$Changes" "rows" "[[I") (List.mem_of_getElem? (i := 2) rfl)) (fun _ h9 => h9) rfl dX0_keep_19 ?_
    refine lv_aload_n hx hb dX0_keep_22 rfl (lv_at hl 0 rfl) ?_
    refine va_get (D := gD Γ) (cl := vwCl) (tys := gTy Γ) (ci := 0) (v := .int 4) (C := RX0) (T := TX0) (N := 2) hx hb hts iX0_keep_0 hown hK hP 0 rfl rfl 1 (Nat.le_of_ble_eq_true rfl) (hts (.fieldLink RX0 16 "DeadTimeLoop$Changes" "count" "I") (List.mem_of_getElem? (i := 1) rfl)) (fun _ h9 => h9) rfl dX0_keep_23 ?_
    refine ka_aald (D := gD Γ) (cl := vwCl) (tys := gTy Γ) hx hb hK hP 1 3 rfl rfl 4 (by decide) (by decide) (by decide) (v := (a (b + 6))) rfl dX0_keep_26 ?_
    refine lv_iconst (v := 0) hx hb dX0_keep_27 (by decide) ?_
    refine lv_bipush (v := 15) hx hb dX0_keep_28 (by decide) ?_
    refine va_copyi (D := gD Γ) (cl := vwCl) (tys := gTy Γ) (f := v) (g := (R 4)) hx hb (hml.trans hl.1.symm) hown (hts (.methodLink RX0 29 arraycopyName) (List.mem_of_getElem? (i := 3) rfl)) (hts (.native arraycopyName) (List.mem_of_getElem? (i := 4) rfl)) (hts (.static arraycopyName) (List.mem_of_getElem? (i := 5) rfl)) (hts (.initialized "java/lang/System") (List.mem_of_getElem? (i := 6) rfl)) hK hP hD hS 9 6 0 0 rfl rfl rfl rfl rfl (by decide) (by decide) (by decide) (by decide) (by decide) (fun i hi => rfl) (Nat.le_of_ble_eq_true rfl) (Nat.le_of_ble_eq_true rfl) dX0_keep_30 (fun H locs hP hD hS => ?_)
    have hP : va_P (gD Γ) vwCl (chgW Γ a b ((va_up R 4 (va_cpy v (R 4) 0 0 15)), 4) ++ setW Γ a2 b2 v) H := hP
    have hD : va_D A (chgW Γ a b ((va_up R 4 (va_cpy v (R 4) 0 0 15)), 4) ++ setW Γ a2 b2 v) := hD
    refine lv_aload_n hx hb dX0_keep_33 rfl (lv_at hl 0 rfl) ?_
    refine lv_dup hx hb dX0_keep_34 rfl ?_
    refine va_get (D := gD Γ) (cl := vwCl) (tys := gTy Γ) (ci := 0) (v := .int 4) (C := RX0) (T := TX0) (N := 2) hx hb hts iX0_keep_0 hown hK hP 0 rfl rfl 1 (Nat.le_of_ble_eq_true rfl) (hts (.fieldLink RX0 16 "DeadTimeLoop$Changes" "count" "I") (List.mem_of_getElem? (i := 1) rfl)) (fun _ h9 => h9) rfl dX0_keep_35 ?_
    refine lv_iconst (v := 1) hx hb dX0_keep_38 (by decide) ?_
    refine lv_iadd hx hb dX0_keep_39 ?_
    refine va_put (D := gD Γ) (cl := vwCl) (tys := gTy Γ) (ci := 0) (v := .int (4 + 1)) (ty := tyX0 1) (C := RX0) (T := TX0) (N := 2) hx hb hts iX0_keep_0 tyX0 tyX0_ok nmX0 hown hK hP hD hS 0 rfl rfl 1 (Nat.le_of_ble_eq_true rfl) (hts (.fieldLink RX0 16 "DeadTimeLoop$Changes" "count" "I") (List.mem_of_getElem? (i := 1) rfl)) (fun _ h9 => h9) rfl (tyX0_ok 1 (Nat.le_of_ble_eq_true rfl)) rfl rfl (Nat.le_of_ble_eq_true rfl) dX0_keep_40 (fun H locs hP hD hS => ?_)
    have hP : va_P (gD Γ) vwCl (chgW Γ a b ((va_up R 4 (va_cpy v (R 4) 0 0 15)), (4 + 1)) ++ setW Γ a2 b2 v) H := hP
    have hD : va_D A (chgW Γ a b ((va_up R 4 (va_cpy v (R 4) 0 0 15)), (4 + 1)) ++ setW Γ a2 b2 v) := hD
    exact re_v hQ ha hx hb hr hlk hAe hP hS dX0_keep_43 (by skip; rfl)
  · --
    refine lv_aload_n hx hb dX0_keep_0 rfl (lv_at hl 0 rfl) ?_
    refine va_get (D := gD Γ) (cl := vwCl) (tys := gTy Γ) (ci := 0) (v := .int 5) (C := RX0) (T := TX0) (N := 2) hx hb hts iX0_keep_0 hown hK hP 0 rfl rfl 1 (Nat.le_of_ble_eq_true rfl) (hts (.fieldLink RX0 16 "DeadTimeLoop$Changes" "count" "I") (List.mem_of_getElem? (i := 1) rfl)) (fun _ h9 => h9) rfl dX0_keep_1 ?_
    refine lv_bipush (v := 6) hx hb dX0_keep_4 (by decide) ?_
    refine lv_icmp_lt (tgt := 13) hx hb dX0_keep_6 (by decide) (fun _ => ?_) (fun c => (c (by decide)).elim)
    refine lv_aload_n hx hb dX0_keep_13 rfl (lv_at hl 1 rfl) ?_
    refine va_getN (D := gD Γ) (cl := vwCl) (tys := gTy Γ) (ci := 3) (v := .ref (a2 (b2 + 1))) (C := RX3) (T := TX3) (N := 1) hx hb hts iX0_keep_3 hown hK hP 8 rfl rfl 0 (Nat.le_of_ble_eq_true rfl) (va_Nw.use rfl hG.1.2.1) (fun _ h9 => h9) rfl dX0_keep_14 ?_
    refine lv_iconst (v := 0) hx hb dX0_keep_17 (by decide) ?_
    refine lv_aload_n hx hb dX0_keep_18 rfl (lv_at hl 0 rfl) ?_
    refine va_get (D := gD Γ) (cl := vwCl) (tys := gTy Γ) (ci := 0) (v := .ref (a (b + 1))) (C := RX0) (T := TX0) (N := 2) hx hb hts iX0_keep_0 hown hK hP 0 rfl rfl 0 (Nat.le_of_ble_eq_true rfl) (hts (.fieldLink RX0 11 "DeadTimeLoop$Changes" "rows" "[[I") (List.mem_of_getElem? (i := 2) rfl)) (fun _ h9 => h9) rfl dX0_keep_19 ?_
    refine lv_aload_n hx hb dX0_keep_22 rfl (lv_at hl 0 rfl) ?_
    refine va_get (D := gD Γ) (cl := vwCl) (tys := gTy Γ) (ci := 0) (v := .int 5) (C := RX0) (T := TX0) (N := 2) hx hb hts iX0_keep_0 hown hK hP 0 rfl rfl 1 (Nat.le_of_ble_eq_true rfl) (hts (.fieldLink RX0 16 "DeadTimeLoop$Changes" "count" "I") (List.mem_of_getElem? (i := 1) rfl)) (fun _ h9 => h9) rfl dX0_keep_23 ?_
    refine ka_aald (D := gD Γ) (cl := vwCl) (tys := gTy Γ) hx hb hK hP 1 3 rfl rfl 5 (by decide) (by decide) (by decide) (v := (a (b + 7))) rfl dX0_keep_26 ?_
    refine lv_iconst (v := 0) hx hb dX0_keep_27 (by decide) ?_
    refine lv_bipush (v := 15) hx hb dX0_keep_28 (by decide) ?_
    refine va_copyi (D := gD Γ) (cl := vwCl) (tys := gTy Γ) (f := v) (g := (R 5)) hx hb (hml.trans hl.1.symm) hown (hts (.methodLink RX0 29 arraycopyName) (List.mem_of_getElem? (i := 3) rfl)) (hts (.native arraycopyName) (List.mem_of_getElem? (i := 4) rfl)) (hts (.static arraycopyName) (List.mem_of_getElem? (i := 5) rfl)) (hts (.initialized "java/lang/System") (List.mem_of_getElem? (i := 6) rfl)) hK hP hD hS 9 7 0 0 rfl rfl rfl rfl rfl (by decide) (by decide) (by decide) (by decide) (by decide) (fun i hi => rfl) (Nat.le_of_ble_eq_true rfl) (Nat.le_of_ble_eq_true rfl) dX0_keep_30 (fun H locs hP hD hS => ?_)
    have hP : va_P (gD Γ) vwCl (chgW Γ a b ((va_up R 5 (va_cpy v (R 5) 0 0 15)), 5) ++ setW Γ a2 b2 v) H := hP
    have hD : va_D A (chgW Γ a b ((va_up R 5 (va_cpy v (R 5) 0 0 15)), 5) ++ setW Γ a2 b2 v) := hD
    refine lv_aload_n hx hb dX0_keep_33 rfl (lv_at hl 0 rfl) ?_
    refine lv_dup hx hb dX0_keep_34 rfl ?_
    refine va_get (D := gD Γ) (cl := vwCl) (tys := gTy Γ) (ci := 0) (v := .int 5) (C := RX0) (T := TX0) (N := 2) hx hb hts iX0_keep_0 hown hK hP 0 rfl rfl 1 (Nat.le_of_ble_eq_true rfl) (hts (.fieldLink RX0 16 "DeadTimeLoop$Changes" "count" "I") (List.mem_of_getElem? (i := 1) rfl)) (fun _ h9 => h9) rfl dX0_keep_35 ?_
    refine lv_iconst (v := 1) hx hb dX0_keep_38 (by decide) ?_
    refine lv_iadd hx hb dX0_keep_39 ?_
    refine va_put (D := gD Γ) (cl := vwCl) (tys := gTy Γ) (ci := 0) (v := .int (5 + 1)) (ty := tyX0 1) (C := RX0) (T := TX0) (N := 2) hx hb hts iX0_keep_0 tyX0 tyX0_ok nmX0 hown hK hP hD hS 0 rfl rfl 1 (Nat.le_of_ble_eq_true rfl) (hts (.fieldLink RX0 16 "DeadTimeLoop$Changes" "count" "I") (List.mem_of_getElem? (i := 1) rfl)) (fun _ h9 => h9) rfl (tyX0_ok 1 (Nat.le_of_ble_eq_true rfl)) rfl rfl (Nat.le_of_ble_eq_true rfl) dX0_keep_40 (fun H locs hP hD hS => ?_)
    have hP : va_P (gD Γ) vwCl (chgW Γ a b ((va_up R 5 (va_cpy v (R 5) 0 0 15)), (5 + 1)) ++ setW Γ a2 b2 v) H := hP
    have hD : va_D A (chgW Γ a b ((va_up R 5 (va_cpy v (R 5) 0 0 15)), (5 + 1)) ++ setW Γ a2 b2 v) := hD
    exact re_v hQ ha hx hb hr hlk hAe hP hS dX0_keep_43 (by skip; rfl)
  · --
    refine lv_aload_n hx hb dX0_keep_0 rfl (lv_at hl 0 rfl) ?_
    refine va_get (D := gD Γ) (cl := vwCl) (tys := gTy Γ) (ci := 0) (v := .int 6) (C := RX0) (T := TX0) (N := 2) hx hb hts iX0_keep_0 hown hK hP 0 rfl rfl 1 (Nat.le_of_ble_eq_true rfl) (hts (.fieldLink RX0 16 "DeadTimeLoop$Changes" "count" "I") (List.mem_of_getElem? (i := 1) rfl)) (fun _ h9 => h9) rfl dX0_keep_1 ?_
    refine lv_bipush (v := 6) hx hb dX0_keep_4 (by decide) ?_
    refine lv_icmp_lt (tgt := 13) hx hb dX0_keep_6 (by decide) (fun c => absurd c (by decide)) (fun _ => ?_)
    refine lv_aload_n hx hb dX0_keep_9 rfl (lv_at hl 0 rfl) ?_
    refine ca_Vv hh hl.1 (c_X0_forgetOldest Γ l a b (R, 6)) (cwV 0 hts gX0_keep_X0_forgetOldest rfl rfl rfl (by decide +kernel) ⟨(Nat.le_of_ble_eq_true rfl), (Nat.le_of_ble_eq_true rfl)⟩) (As := []) (rest := []) rfl dX0_keep_10 rfl (Nat.le_of_ble_eq_true rfl) hP hD hS [0, 1, 2, 3, 4, 5, 6, 7] rfl rfl (q0 := 0) (ci := 0) rfl rfl rfl 8 rfl rfl (wf := chgW Γ a b ((cForget R), 5) ++ setW Γ a2 b2 v) rfl rfl ⟨Nat.zero_le _, Nat.zero_le _⟩ (fun H locs hP hD hS => ?_)
    refine lv_aload_n hx hb dX0_keep_13 rfl (lv_at hl 1 rfl) ?_
    refine va_getN (D := gD Γ) (cl := vwCl) (tys := gTy Γ) (ci := 3) (v := .ref (a2 (b2 + 1))) (C := RX3) (T := TX3) (N := 1) hx hb hts iX0_keep_3 hown hK hP 8 rfl rfl 0 (Nat.le_of_ble_eq_true rfl) (va_Nw.use rfl hG.1.2.1) (fun _ h9 => h9) rfl dX0_keep_14 ?_
    refine lv_iconst (v := 0) hx hb dX0_keep_17 (by decide) ?_
    refine lv_aload_n hx hb dX0_keep_18 rfl (lv_at hl 0 rfl) ?_
    refine va_get (D := gD Γ) (cl := vwCl) (tys := gTy Γ) (ci := 0) (v := .ref (a (b + 1))) (C := RX0) (T := TX0) (N := 2) hx hb hts iX0_keep_0 hown hK hP 0 rfl rfl 0 (Nat.le_of_ble_eq_true rfl) (hts (.fieldLink RX0 11 "DeadTimeLoop$Changes" "rows" "[[I") (List.mem_of_getElem? (i := 2) rfl)) (fun _ h9 => h9) rfl dX0_keep_19 ?_
    refine lv_aload_n hx hb dX0_keep_22 rfl (lv_at hl 0 rfl) ?_
    refine va_get (D := gD Γ) (cl := vwCl) (tys := gTy Γ) (ci := 0) (v := .int 5) (C := RX0) (T := TX0) (N := 2) hx hb hts iX0_keep_0 hown hK hP 0 rfl rfl 1 (Nat.le_of_ble_eq_true rfl) (hts (.fieldLink RX0 16 "DeadTimeLoop$Changes" "count" "I") (List.mem_of_getElem? (i := 1) rfl)) (fun _ h9 => h9) rfl dX0_keep_23 ?_
    refine ka_aald (D := gD Γ) (cl := vwCl) (tys := gTy Γ) hx hb hK hP 1 3 rfl rfl 5 (by decide) (by decide) (by decide) (v := (a (b + 7))) rfl dX0_keep_26 ?_
    refine lv_iconst (v := 0) hx hb dX0_keep_27 (by decide) ?_
    refine lv_bipush (v := 15) hx hb dX0_keep_28 (by decide) ?_
    refine va_copyi (D := gD Γ) (cl := vwCl) (tys := gTy Γ) (f := v) (g := ((cForget R) 5)) hx hb (hml.trans hl.1.symm) hown (hts (.methodLink RX0 29 arraycopyName) (List.mem_of_getElem? (i := 3) rfl)) (hts (.native arraycopyName) (List.mem_of_getElem? (i := 4) rfl)) (hts (.static arraycopyName) (List.mem_of_getElem? (i := 5) rfl)) (hts (.initialized "java/lang/System") (List.mem_of_getElem? (i := 6) rfl)) hK hP hD hS 9 7 0 0 rfl rfl rfl rfl rfl (by decide) (by decide) (by decide) (by decide) (by decide) (fun i hi => rfl) (Nat.le_of_ble_eq_true rfl) (Nat.le_of_ble_eq_true rfl) dX0_keep_30 (fun H locs hP hD hS => ?_)
    have hP : va_P (gD Γ) vwCl (chgW Γ a b ((va_up (cForget R) 5 (va_cpy v ((cForget R) 5) 0 0 15)), 5) ++ setW Γ a2 b2 v) H := hP
    have hD : va_D A (chgW Γ a b ((va_up (cForget R) 5 (va_cpy v ((cForget R) 5) 0 0 15)), 5) ++ setW Γ a2 b2 v) := hD
    refine lv_aload_n hx hb dX0_keep_33 rfl (lv_at hl 0 rfl) ?_
    refine lv_dup hx hb dX0_keep_34 rfl ?_
    refine va_get (D := gD Γ) (cl := vwCl) (tys := gTy Γ) (ci := 0) (v := .int 5) (C := RX0) (T := TX0) (N := 2) hx hb hts iX0_keep_0 hown hK hP 0 rfl rfl 1 (Nat.le_of_ble_eq_true rfl) (hts (.fieldLink RX0 16 "DeadTimeLoop$Changes" "count" "I") (List.mem_of_getElem? (i := 1) rfl)) (fun _ h9 => h9) rfl dX0_keep_35 ?_
    refine lv_iconst (v := 1) hx hb dX0_keep_38 (by decide) ?_
    refine lv_iadd hx hb dX0_keep_39 ?_
    refine va_put (D := gD Γ) (cl := vwCl) (tys := gTy Γ) (ci := 0) (v := .int (5 + 1)) (ty := tyX0 1) (C := RX0) (T := TX0) (N := 2) hx hb hts iX0_keep_0 tyX0 tyX0_ok nmX0 hown hK hP hD hS 0 rfl rfl 1 (Nat.le_of_ble_eq_true rfl) (hts (.fieldLink RX0 16 "DeadTimeLoop$Changes" "count" "I") (List.mem_of_getElem? (i := 1) rfl)) (fun _ h9 => h9) rfl (tyX0_ok 1 (Nat.le_of_ble_eq_true rfl)) rfl rfl (Nat.le_of_ble_eq_true rfl) dX0_keep_40 (fun H locs hP hD hS => ?_)
    have hP : va_P (gD Γ) vwCl (chgW Γ a b ((va_up (cForget R) 5 (va_cpy v ((cForget R) 5) 0 0 15)), (5 + 1)) ++ setW Γ a2 b2 v) H := hP
    have hD : va_D A (chgW Γ a b ((va_up (cForget R) 5 (va_cpy v ((cForget R) 5) 0 0 15)), (5 + 1)) ++ setW Γ a2 b2 v) := hD
    exact re_v hQ ha hx hb hr hlk hAe hP hS dX0_keep_43 (by skip; rfl)
def rm_X0_takeBack : Room := { frames := 1, cells := 0, slots := 0, locals := 28 }
theorem iX0_takeBack_0 : ∀ w ∈ u_ws RX0 TX0 2, w ∈ wsX0_takeBack := fun w h => (List.mem_cons_of_mem _ (List.mem_append_left _ (List.mem_append_right _ h)))
theorem iX0_takeBack_3 : ∀ w ∈ u_ws RX3 TX3 1, w ∈ wsX0_takeBack := fun w h => (List.mem_cons_of_mem _ (List.mem_append_right _ h))
set_option maxHeartbeats 1000000 in
set_option maxRecDepth 100000 in
theorem c_X0_takeBack (Γ : gT) (l : Launch) (a : Nat → Nat) (b : Nat) (a2 : Nat → Nat) (b2 : Nat) (x : Chg) (v : Sett) (hc : cCnt x = 0 ∨ cCnt x = 1 ∨ cCnt x = 2 ∨ cCnt x = 3 ∨ cCnt x = 4 ∨ cCnt x = 5 ∨ cCnt x = 6) : Cv Γ l yX0_takeBack wsX0_takeBack rm_X0_takeBack [.ref (a b), .ref (a2 b2)] (chgW Γ a b x ++ setW Γ a2 b2 v) (chgW Γ a b (cBackC x) ++ setW Γ a2 b2 (cBackV x v)) := by
  refine Cv.of (cc := cX0_takeBack) (own := RX0) (nL := 2) (ret := none) (by decide +kernel) rfl rfl (Nat.le_of_ble_eq_true rfl) ?_
  intro p e s m args below meth c A Q H locs ls ha hAe hQ hx hb hml hr hts hown hlk hP hK hD hS hA hG hl
  have hh : Hd Γ p s m args c cX0_takeBack RX0 2 wsX0_takeBack A := ⟨⟨hx, hb, hml, hown, hts⟩, hK, hA, hG⟩
  have hl : lv_has ls 2 [(0, .ref (a b)), (1, .ref (a2 b2))] := hl
  obtain ⟨R, cnt⟩ := x
  change cnt = 0 ∨ cnt = 1 ∨ cnt = 2 ∨ cnt = 3 ∨ cnt = 4 ∨ cnt = 5 ∨ cnt = 6 at hc
  rcases hc with rfl | rfl | rfl | rfl | rfl | rfl | rfl
  · --
    refine lv_aload_n hx hb dX0_takeBack_0 rfl (lv_at hl 0 rfl) ?_
    refine va_get (D := gD Γ) (cl := vwCl) (tys := gTy Γ) (ci := 0) (v := .int 0) (C := RX0) (T := TX0) (N := 2) hx hb hts iX0_takeBack_0 hown hK hP 0 rfl rfl 1 (Nat.le_of_ble_eq_true rfl) (hts (.fieldLink RX0 16 "DeadTimeLoop$Changes" "count" "I") (List.mem_of_getElem? (i := 1) rfl)) (fun _ h9 => h9) rfl dX0_takeBack_1 ?_
    refine lv_if_le (tgt := 46) hx hb dX0_takeBack_4 (by decide) (fun _ => ?_) (fun c => (c (by decide)).elim)
    exact re_v hQ ha hx hb hr hlk hAe hP hS dX0_takeBack_46 (by skip; rfl)
  · --
    refine lv_aload_n hx hb dX0_takeBack_0 rfl (lv_at hl 0 rfl) ?_
    refine va_get (D := gD Γ) (cl := vwCl) (tys := gTy Γ) (ci := 0) (v := .int 1) (C := RX0) (T := TX0) (N := 2) hx hb hts iX0_takeBack_0 hown hK hP 0 rfl rfl 1 (Nat.le_of_ble_eq_true rfl) (hts (.fieldLink RX0 16 "DeadTimeLoop$Changes" "count" "I") (List.mem_of_getElem? (i := 1) rfl)) (fun _ h9 => h9) rfl dX0_takeBack_1 ?_
    refine lv_if_le (tgt := 46) hx hb dX0_takeBack_4 (by decide) (fun c => absurd c (by decide)) (fun _ => ?_)
    refine lv_aload_n hx hb dX0_takeBack_7 rfl (lv_at hl 0 rfl) ?_
    refine va_get (D := gD Γ) (cl := vwCl) (tys := gTy Γ) (ci := 0) (v := .int 1) (C := RX0) (T := TX0) (N := 2) hx hb hts iX0_takeBack_0 hown hK hP 0 rfl rfl 1 (Nat.le_of_ble_eq_true rfl) (hts (.fieldLink RX0 16 "DeadTimeLoop$Changes" "count" "I") (List.mem_of_getElem? (i := 1) rfl)) (fun _ h9 => h9) rfl dX0_takeBack_8 ?_
    refine lv_bipush (v := 6) hx hb dX0_takeBack_11 (by decide) ?_
    refine lv_icmp_gt (tgt := 46) hx hb dX0_takeBack_13 (by decide) (fun c => absurd c (by decide)) (fun _ => ?_)
    refine lv_aload_n hx hb dX0_takeBack_16 rfl (lv_at hl 0 rfl) ?_
    refine lv_dup hx hb dX0_takeBack_17 rfl ?_
    refine va_get (D := gD Γ) (cl := vwCl) (tys := gTy Γ) (ci := 0) (v := .int 1) (C := RX0) (T := TX0) (N := 2) hx hb hts iX0_takeBack_0 hown hK hP 0 rfl rfl 1 (Nat.le_of_ble_eq_true rfl) (hts (.fieldLink RX0 16 "DeadTimeLoop$Changes" "count" "I") (List.mem_of_getElem? (i := 1) rfl)) (fun _ h9 => h9) rfl dX0_takeBack_18 ?_
    refine lv_iconst (v := 1) hx hb dX0_takeBack_21 (by decide) ?_
    refine lv_isub hx hb dX0_takeBack_22 ?_
    refine va_put (D := gD Γ) (cl := vwCl) (tys := gTy Γ) (ci := 0) (v := .int (1 - 1)) (ty := tyX0 1) (C := RX0) (T := TX0) (N := 2) hx hb hts iX0_takeBack_0 tyX0 tyX0_ok nmX0 hown hK hP hD hS 0 rfl rfl 1 (Nat.le_of_ble_eq_true rfl) (hts (.fieldLink RX0 16 "DeadTimeLoop$Changes" "count" "I") (List.mem_of_getElem? (i := 1) rfl)) (fun _ h9 => h9) rfl (tyX0_ok 1 (Nat.le_of_ble_eq_true rfl)) rfl rfl (Nat.le_of_ble_eq_true rfl) dX0_takeBack_23 (fun H locs hP hD hS => ?_)
    have hP : va_P (gD Γ) vwCl (chgW Γ a b (R, (1 - 1)) ++ setW Γ a2 b2 v) H := hP
    have hD : va_D A (chgW Γ a b (R, (1 - 1)) ++ setW Γ a2 b2 v) := hD
    refine lv_aload_n hx hb dX0_takeBack_26 rfl (lv_at hl 0 rfl) ?_
    refine va_get (D := gD Γ) (cl := vwCl) (tys := gTy Γ) (ci := 0) (v := .ref (a (b + 1))) (C := RX0) (T := TX0) (N := 2) hx hb hts iX0_takeBack_0 hown hK hP 0 rfl rfl 0 (Nat.le_of_ble_eq_true rfl) (hts (.fieldLink RX0 11 "DeadTimeLoop$Changes" "rows" "[[I") (List.mem_of_getElem? (i := 2) rfl)) (fun _ h9 => h9) rfl dX0_takeBack_27 ?_
    refine lv_aload_n hx hb dX0_takeBack_30 rfl (lv_at hl 0 rfl) ?_
    refine va_get (D := gD Γ) (cl := vwCl) (tys := gTy Γ) (ci := 0) (v := .int (1 - 1)) (C := RX0) (T := TX0) (N := 2) hx hb hts iX0_takeBack_0 hown hK hP 0 rfl rfl 1 (Nat.le_of_ble_eq_true rfl) (hts (.fieldLink RX0 16 "DeadTimeLoop$Changes" "count" "I") (List.mem_of_getElem? (i := 1) rfl)) (fun _ h9 => h9) rfl dX0_takeBack_31 ?_
    refine ka_aald (D := gD Γ) (cl := vwCl) (tys := gTy Γ) hx hb hK hP 1 3 rfl rfl 0 (by decide) (by decide) (by decide) (v := (a (b + 2))) rfl dX0_takeBack_34 ?_
    refine lv_iconst (v := 0) hx hb dX0_takeBack_35 (by decide) ?_
    refine lv_aload_n hx hb dX0_takeBack_36 rfl (lv_at hl 1 rfl) ?_
    refine va_getN (D := gD Γ) (cl := vwCl) (tys := gTy Γ) (ci := 3) (v := .ref (a2 (b2 + 1))) (C := RX3) (T := TX3) (N := 1) hx hb hts iX0_takeBack_3 hown hK hP 8 rfl rfl 0 (Nat.le_of_ble_eq_true rfl) (va_Nw.use rfl hG.1.2.1) (fun _ h9 => h9) rfl dX0_takeBack_37 ?_
    refine lv_iconst (v := 0) hx hb dX0_takeBack_40 (by decide) ?_
    refine lv_bipush (v := 15) hx hb dX0_takeBack_41 (by decide) ?_
    refine va_copyi (D := gD Γ) (cl := vwCl) (tys := gTy Γ) (f := (R 0)) (g := v) hx hb (hml.trans hl.1.symm) hown (hts (.methodLink RX0 29 arraycopyName) (List.mem_of_getElem? (i := 3) rfl)) (hts (.native arraycopyName) (List.mem_of_getElem? (i := 4) rfl)) (hts (.static arraycopyName) (List.mem_of_getElem? (i := 5) rfl)) (hts (.initialized "java/lang/System") (List.mem_of_getElem? (i := 6) rfl)) hK hP hD hS 2 9 0 0 rfl rfl rfl rfl rfl (by decide) (by decide) (by decide) (by decide) (by decide) (fun i hi => rfl) (Nat.le_of_ble_eq_true rfl) (Nat.le_of_ble_eq_true rfl) dX0_takeBack_43 (fun H locs hP hD hS => ?_)
    have hP : va_P (gD Γ) vwCl (chgW Γ a b (R, (1 - 1)) ++ setW Γ a2 b2 (va_cpy (R 0) v 0 0 15)) H := hP
    have hD : va_D A (chgW Γ a b (R, (1 - 1)) ++ setW Γ a2 b2 (va_cpy (R 0) v 0 0 15)) := hD
    exact re_v hQ ha hx hb hr hlk hAe hP hS dX0_takeBack_46 (by skip; rfl)
  · --
    refine lv_aload_n hx hb dX0_takeBack_0 rfl (lv_at hl 0 rfl) ?_
    refine va_get (D := gD Γ) (cl := vwCl) (tys := gTy Γ) (ci := 0) (v := .int 2) (C := RX0) (T := TX0) (N := 2) hx hb hts iX0_takeBack_0 hown hK hP 0 rfl rfl 1 (Nat.le_of_ble_eq_true rfl) (hts (.fieldLink RX0 16 "DeadTimeLoop$Changes" "count" "I") (List.mem_of_getElem? (i := 1) rfl)) (fun _ h9 => h9) rfl dX0_takeBack_1 ?_
    refine lv_if_le (tgt := 46) hx hb dX0_takeBack_4 (by decide) (fun c => absurd c (by decide)) (fun _ => ?_)
    refine lv_aload_n hx hb dX0_takeBack_7 rfl (lv_at hl 0 rfl) ?_
    refine va_get (D := gD Γ) (cl := vwCl) (tys := gTy Γ) (ci := 0) (v := .int 2) (C := RX0) (T := TX0) (N := 2) hx hb hts iX0_takeBack_0 hown hK hP 0 rfl rfl 1 (Nat.le_of_ble_eq_true rfl) (hts (.fieldLink RX0 16 "DeadTimeLoop$Changes" "count" "I") (List.mem_of_getElem? (i := 1) rfl)) (fun _ h9 => h9) rfl dX0_takeBack_8 ?_
    refine lv_bipush (v := 6) hx hb dX0_takeBack_11 (by decide) ?_
    refine lv_icmp_gt (tgt := 46) hx hb dX0_takeBack_13 (by decide) (fun c => absurd c (by decide)) (fun _ => ?_)
    refine lv_aload_n hx hb dX0_takeBack_16 rfl (lv_at hl 0 rfl) ?_
    refine lv_dup hx hb dX0_takeBack_17 rfl ?_
    refine va_get (D := gD Γ) (cl := vwCl) (tys := gTy Γ) (ci := 0) (v := .int 2) (C := RX0) (T := TX0) (N := 2) hx hb hts iX0_takeBack_0 hown hK hP 0 rfl rfl 1 (Nat.le_of_ble_eq_true rfl) (hts (.fieldLink RX0 16 "DeadTimeLoop$Changes" "count" "I") (List.mem_of_getElem? (i := 1) rfl)) (fun _ h9 => h9) rfl dX0_takeBack_18 ?_
    refine lv_iconst (v := 1) hx hb dX0_takeBack_21 (by decide) ?_
    refine lv_isub hx hb dX0_takeBack_22 ?_
    refine va_put (D := gD Γ) (cl := vwCl) (tys := gTy Γ) (ci := 0) (v := .int (2 - 1)) (ty := tyX0 1) (C := RX0) (T := TX0) (N := 2) hx hb hts iX0_takeBack_0 tyX0 tyX0_ok nmX0 hown hK hP hD hS 0 rfl rfl 1 (Nat.le_of_ble_eq_true rfl) (hts (.fieldLink RX0 16 "DeadTimeLoop$Changes" "count" "I") (List.mem_of_getElem? (i := 1) rfl)) (fun _ h9 => h9) rfl (tyX0_ok 1 (Nat.le_of_ble_eq_true rfl)) rfl rfl (Nat.le_of_ble_eq_true rfl) dX0_takeBack_23 (fun H locs hP hD hS => ?_)
    have hP : va_P (gD Γ) vwCl (chgW Γ a b (R, (2 - 1)) ++ setW Γ a2 b2 v) H := hP
    have hD : va_D A (chgW Γ a b (R, (2 - 1)) ++ setW Γ a2 b2 v) := hD
    refine lv_aload_n hx hb dX0_takeBack_26 rfl (lv_at hl 0 rfl) ?_
    refine va_get (D := gD Γ) (cl := vwCl) (tys := gTy Γ) (ci := 0) (v := .ref (a (b + 1))) (C := RX0) (T := TX0) (N := 2) hx hb hts iX0_takeBack_0 hown hK hP 0 rfl rfl 0 (Nat.le_of_ble_eq_true rfl) (hts (.fieldLink RX0 11 "DeadTimeLoop$Changes" "rows" "[[I") (List.mem_of_getElem? (i := 2) rfl)) (fun _ h9 => h9) rfl dX0_takeBack_27 ?_
    refine lv_aload_n hx hb dX0_takeBack_30 rfl (lv_at hl 0 rfl) ?_
    refine va_get (D := gD Γ) (cl := vwCl) (tys := gTy Γ) (ci := 0) (v := .int (2 - 1)) (C := RX0) (T := TX0) (N := 2) hx hb hts iX0_takeBack_0 hown hK hP 0 rfl rfl 1 (Nat.le_of_ble_eq_true rfl) (hts (.fieldLink RX0 16 "DeadTimeLoop$Changes" "count" "I") (List.mem_of_getElem? (i := 1) rfl)) (fun _ h9 => h9) rfl dX0_takeBack_31 ?_
    refine ka_aald (D := gD Γ) (cl := vwCl) (tys := gTy Γ) hx hb hK hP 1 3 rfl rfl 1 (by decide) (by decide) (by decide) (v := (a (b + 3))) rfl dX0_takeBack_34 ?_
    refine lv_iconst (v := 0) hx hb dX0_takeBack_35 (by decide) ?_
    refine lv_aload_n hx hb dX0_takeBack_36 rfl (lv_at hl 1 rfl) ?_
    refine va_getN (D := gD Γ) (cl := vwCl) (tys := gTy Γ) (ci := 3) (v := .ref (a2 (b2 + 1))) (C := RX3) (T := TX3) (N := 1) hx hb hts iX0_takeBack_3 hown hK hP 8 rfl rfl 0 (Nat.le_of_ble_eq_true rfl) (va_Nw.use rfl hG.1.2.1) (fun _ h9 => h9) rfl dX0_takeBack_37 ?_
    refine lv_iconst (v := 0) hx hb dX0_takeBack_40 (by decide) ?_
    refine lv_bipush (v := 15) hx hb dX0_takeBack_41 (by decide) ?_
    refine va_copyi (D := gD Γ) (cl := vwCl) (tys := gTy Γ) (f := (R 1)) (g := v) hx hb (hml.trans hl.1.symm) hown (hts (.methodLink RX0 29 arraycopyName) (List.mem_of_getElem? (i := 3) rfl)) (hts (.native arraycopyName) (List.mem_of_getElem? (i := 4) rfl)) (hts (.static arraycopyName) (List.mem_of_getElem? (i := 5) rfl)) (hts (.initialized "java/lang/System") (List.mem_of_getElem? (i := 6) rfl)) hK hP hD hS 3 9 0 0 rfl rfl rfl rfl rfl (by decide) (by decide) (by decide) (by decide) (by decide) (fun i hi => rfl) (Nat.le_of_ble_eq_true rfl) (Nat.le_of_ble_eq_true rfl) dX0_takeBack_43 (fun H locs hP hD hS => ?_)
    have hP : va_P (gD Γ) vwCl (chgW Γ a b (R, (2 - 1)) ++ setW Γ a2 b2 (va_cpy (R 1) v 0 0 15)) H := hP
    have hD : va_D A (chgW Γ a b (R, (2 - 1)) ++ setW Γ a2 b2 (va_cpy (R 1) v 0 0 15)) := hD
    exact re_v hQ ha hx hb hr hlk hAe hP hS dX0_takeBack_46 (by skip; rfl)
  · --
    refine lv_aload_n hx hb dX0_takeBack_0 rfl (lv_at hl 0 rfl) ?_
    refine va_get (D := gD Γ) (cl := vwCl) (tys := gTy Γ) (ci := 0) (v := .int 3) (C := RX0) (T := TX0) (N := 2) hx hb hts iX0_takeBack_0 hown hK hP 0 rfl rfl 1 (Nat.le_of_ble_eq_true rfl) (hts (.fieldLink RX0 16 "DeadTimeLoop$Changes" "count" "I") (List.mem_of_getElem? (i := 1) rfl)) (fun _ h9 => h9) rfl dX0_takeBack_1 ?_
    refine lv_if_le (tgt := 46) hx hb dX0_takeBack_4 (by decide) (fun c => absurd c (by decide)) (fun _ => ?_)
    refine lv_aload_n hx hb dX0_takeBack_7 rfl (lv_at hl 0 rfl) ?_
    refine va_get (D := gD Γ) (cl := vwCl) (tys := gTy Γ) (ci := 0) (v := .int 3) (C := RX0) (T := TX0) (N := 2) hx hb hts iX0_takeBack_0 hown hK hP 0 rfl rfl 1 (Nat.le_of_ble_eq_true rfl) (hts (.fieldLink RX0 16 "DeadTimeLoop$Changes" "count" "I") (List.mem_of_getElem? (i := 1) rfl)) (fun _ h9 => h9) rfl dX0_takeBack_8 ?_
    refine lv_bipush (v := 6) hx hb dX0_takeBack_11 (by decide) ?_
    refine lv_icmp_gt (tgt := 46) hx hb dX0_takeBack_13 (by decide) (fun c => absurd c (by decide)) (fun _ => ?_)
    refine lv_aload_n hx hb dX0_takeBack_16 rfl (lv_at hl 0 rfl) ?_
    refine lv_dup hx hb dX0_takeBack_17 rfl ?_
    refine va_get (D := gD Γ) (cl := vwCl) (tys := gTy Γ) (ci := 0) (v := .int 3) (C := RX0) (T := TX0) (N := 2) hx hb hts iX0_takeBack_0 hown hK hP 0 rfl rfl 1 (Nat.le_of_ble_eq_true rfl) (hts (.fieldLink RX0 16 "DeadTimeLoop$Changes" "count" "I") (List.mem_of_getElem? (i := 1) rfl)) (fun _ h9 => h9) rfl dX0_takeBack_18 ?_
    refine lv_iconst (v := 1) hx hb dX0_takeBack_21 (by decide) ?_
    refine lv_isub hx hb dX0_takeBack_22 ?_
    refine va_put (D := gD Γ) (cl := vwCl) (tys := gTy Γ) (ci := 0) (v := .int (3 - 1)) (ty := tyX0 1) (C := RX0) (T := TX0) (N := 2) hx hb hts iX0_takeBack_0 tyX0 tyX0_ok nmX0 hown hK hP hD hS 0 rfl rfl 1 (Nat.le_of_ble_eq_true rfl) (hts (.fieldLink RX0 16 "DeadTimeLoop$Changes" "count" "I") (List.mem_of_getElem? (i := 1) rfl)) (fun _ h9 => h9) rfl (tyX0_ok 1 (Nat.le_of_ble_eq_true rfl)) rfl rfl (Nat.le_of_ble_eq_true rfl) dX0_takeBack_23 (fun H locs hP hD hS => ?_)
    have hP : va_P (gD Γ) vwCl (chgW Γ a b (R, (3 - 1)) ++ setW Γ a2 b2 v) H := hP
    have hD : va_D A (chgW Γ a b (R, (3 - 1)) ++ setW Γ a2 b2 v) := hD
    refine lv_aload_n hx hb dX0_takeBack_26 rfl (lv_at hl 0 rfl) ?_
    refine va_get (D := gD Γ) (cl := vwCl) (tys := gTy Γ) (ci := 0) (v := .ref (a (b + 1))) (C := RX0) (T := TX0) (N := 2) hx hb hts iX0_takeBack_0 hown hK hP 0 rfl rfl 0 (Nat.le_of_ble_eq_true rfl) (hts (.fieldLink RX0 11 "DeadTimeLoop$Changes" "rows" "[[I") (List.mem_of_getElem? (i := 2) rfl)) (fun _ h9 => h9) rfl dX0_takeBack_27 ?_
    refine lv_aload_n hx hb dX0_takeBack_30 rfl (lv_at hl 0 rfl) ?_
    refine va_get (D := gD Γ) (cl := vwCl) (tys := gTy Γ) (ci := 0) (v := .int (3 - 1)) (C := RX0) (T := TX0) (N := 2) hx hb hts iX0_takeBack_0 hown hK hP 0 rfl rfl 1 (Nat.le_of_ble_eq_true rfl) (hts (.fieldLink RX0 16 "DeadTimeLoop$Changes" "count" "I") (List.mem_of_getElem? (i := 1) rfl)) (fun _ h9 => h9) rfl dX0_takeBack_31 ?_
    refine ka_aald (D := gD Γ) (cl := vwCl) (tys := gTy Γ) hx hb hK hP 1 3 rfl rfl 2 (by decide) (by decide) (by decide) (v := (a (b + 4))) rfl dX0_takeBack_34 ?_
    refine lv_iconst (v := 0) hx hb dX0_takeBack_35 (by decide) ?_
    refine lv_aload_n hx hb dX0_takeBack_36 rfl (lv_at hl 1 rfl) ?_
    refine va_getN (D := gD Γ) (cl := vwCl) (tys := gTy Γ) (ci := 3) (v := .ref (a2 (b2 + 1))) (C := RX3) (T := TX3) (N := 1) hx hb hts iX0_takeBack_3 hown hK hP 8 rfl rfl 0 (Nat.le_of_ble_eq_true rfl) (va_Nw.use rfl hG.1.2.1) (fun _ h9 => h9) rfl dX0_takeBack_37 ?_
    refine lv_iconst (v := 0) hx hb dX0_takeBack_40 (by decide) ?_
    refine lv_bipush (v := 15) hx hb dX0_takeBack_41 (by decide) ?_
    refine va_copyi (D := gD Γ) (cl := vwCl) (tys := gTy Γ) (f := (R 2)) (g := v) hx hb (hml.trans hl.1.symm) hown (hts (.methodLink RX0 29 arraycopyName) (List.mem_of_getElem? (i := 3) rfl)) (hts (.native arraycopyName) (List.mem_of_getElem? (i := 4) rfl)) (hts (.static arraycopyName) (List.mem_of_getElem? (i := 5) rfl)) (hts (.initialized "java/lang/System") (List.mem_of_getElem? (i := 6) rfl)) hK hP hD hS 4 9 0 0 rfl rfl rfl rfl rfl (by decide) (by decide) (by decide) (by decide) (by decide) (fun i hi => rfl) (Nat.le_of_ble_eq_true rfl) (Nat.le_of_ble_eq_true rfl) dX0_takeBack_43 (fun H locs hP hD hS => ?_)
    have hP : va_P (gD Γ) vwCl (chgW Γ a b (R, (3 - 1)) ++ setW Γ a2 b2 (va_cpy (R 2) v 0 0 15)) H := hP
    have hD : va_D A (chgW Γ a b (R, (3 - 1)) ++ setW Γ a2 b2 (va_cpy (R 2) v 0 0 15)) := hD
    exact re_v hQ ha hx hb hr hlk hAe hP hS dX0_takeBack_46 (by skip; rfl)
  · --
    refine lv_aload_n hx hb dX0_takeBack_0 rfl (lv_at hl 0 rfl) ?_
    refine va_get (D := gD Γ) (cl := vwCl) (tys := gTy Γ) (ci := 0) (v := .int 4) (C := RX0) (T := TX0) (N := 2) hx hb hts iX0_takeBack_0 hown hK hP 0 rfl rfl 1 (Nat.le_of_ble_eq_true rfl) (hts (.fieldLink RX0 16 "DeadTimeLoop$Changes" "count" "I") (List.mem_of_getElem? (i := 1) rfl)) (fun _ h9 => h9) rfl dX0_takeBack_1 ?_
    refine lv_if_le (tgt := 46) hx hb dX0_takeBack_4 (by decide) (fun c => absurd c (by decide)) (fun _ => ?_)
    refine lv_aload_n hx hb dX0_takeBack_7 rfl (lv_at hl 0 rfl) ?_
    refine va_get (D := gD Γ) (cl := vwCl) (tys := gTy Γ) (ci := 0) (v := .int 4) (C := RX0) (T := TX0) (N := 2) hx hb hts iX0_takeBack_0 hown hK hP 0 rfl rfl 1 (Nat.le_of_ble_eq_true rfl) (hts (.fieldLink RX0 16 "DeadTimeLoop$Changes" "count" "I") (List.mem_of_getElem? (i := 1) rfl)) (fun _ h9 => h9) rfl dX0_takeBack_8 ?_
    refine lv_bipush (v := 6) hx hb dX0_takeBack_11 (by decide) ?_
    refine lv_icmp_gt (tgt := 46) hx hb dX0_takeBack_13 (by decide) (fun c => absurd c (by decide)) (fun _ => ?_)
    refine lv_aload_n hx hb dX0_takeBack_16 rfl (lv_at hl 0 rfl) ?_
    refine lv_dup hx hb dX0_takeBack_17 rfl ?_
    refine va_get (D := gD Γ) (cl := vwCl) (tys := gTy Γ) (ci := 0) (v := .int 4) (C := RX0) (T := TX0) (N := 2) hx hb hts iX0_takeBack_0 hown hK hP 0 rfl rfl 1 (Nat.le_of_ble_eq_true rfl) (hts (.fieldLink RX0 16 "DeadTimeLoop$Changes" "count" "I") (List.mem_of_getElem? (i := 1) rfl)) (fun _ h9 => h9) rfl dX0_takeBack_18 ?_
    refine lv_iconst (v := 1) hx hb dX0_takeBack_21 (by decide) ?_
    refine lv_isub hx hb dX0_takeBack_22 ?_
    refine va_put (D := gD Γ) (cl := vwCl) (tys := gTy Γ) (ci := 0) (v := .int (4 - 1)) (ty := tyX0 1) (C := RX0) (T := TX0) (N := 2) hx hb hts iX0_takeBack_0 tyX0 tyX0_ok nmX0 hown hK hP hD hS 0 rfl rfl 1 (Nat.le_of_ble_eq_true rfl) (hts (.fieldLink RX0 16 "DeadTimeLoop$Changes" "count" "I") (List.mem_of_getElem? (i := 1) rfl)) (fun _ h9 => h9) rfl (tyX0_ok 1 (Nat.le_of_ble_eq_true rfl)) rfl rfl (Nat.le_of_ble_eq_true rfl) dX0_takeBack_23 (fun H locs hP hD hS => ?_)
    have hP : va_P (gD Γ) vwCl (chgW Γ a b (R, (4 - 1)) ++ setW Γ a2 b2 v) H := hP
    have hD : va_D A (chgW Γ a b (R, (4 - 1)) ++ setW Γ a2 b2 v) := hD
    refine lv_aload_n hx hb dX0_takeBack_26 rfl (lv_at hl 0 rfl) ?_
    refine va_get (D := gD Γ) (cl := vwCl) (tys := gTy Γ) (ci := 0) (v := .ref (a (b + 1))) (C := RX0) (T := TX0) (N := 2) hx hb hts iX0_takeBack_0 hown hK hP 0 rfl rfl 0 (Nat.le_of_ble_eq_true rfl) (hts (.fieldLink RX0 11 "DeadTimeLoop$Changes" "rows" "[[I") (List.mem_of_getElem? (i := 2) rfl)) (fun _ h9 => h9) rfl dX0_takeBack_27 ?_
    refine lv_aload_n hx hb dX0_takeBack_30 rfl (lv_at hl 0 rfl) ?_
    refine va_get (D := gD Γ) (cl := vwCl) (tys := gTy Γ) (ci := 0) (v := .int (4 - 1)) (C := RX0) (T := TX0) (N := 2) hx hb hts iX0_takeBack_0 hown hK hP 0 rfl rfl 1 (Nat.le_of_ble_eq_true rfl) (hts (.fieldLink RX0 16 "DeadTimeLoop$Changes" "count" "I") (List.mem_of_getElem? (i := 1) rfl)) (fun _ h9 => h9) rfl dX0_takeBack_31 ?_
    refine ka_aald (D := gD Γ) (cl := vwCl) (tys := gTy Γ) hx hb hK hP 1 3 rfl rfl 3 (by decide) (by decide) (by decide) (v := (a (b + 5))) rfl dX0_takeBack_34 ?_
    refine lv_iconst (v := 0) hx hb dX0_takeBack_35 (by decide) ?_
    refine lv_aload_n hx hb dX0_takeBack_36 rfl (lv_at hl 1 rfl) ?_
    refine va_getN (D := gD Γ) (cl := vwCl) (tys := gTy Γ) (ci := 3) (v := .ref (a2 (b2 + 1))) (C := RX3) (T := TX3) (N := 1) hx hb hts iX0_takeBack_3 hown hK hP 8 rfl rfl 0 (Nat.le_of_ble_eq_true rfl) (va_Nw.use rfl hG.1.2.1) (fun _ h9 => h9) rfl dX0_takeBack_37 ?_
    refine lv_iconst (v := 0) hx hb dX0_takeBack_40 (by decide) ?_
    refine lv_bipush (v := 15) hx hb dX0_takeBack_41 (by decide) ?_
    refine va_copyi (D := gD Γ) (cl := vwCl) (tys := gTy Γ) (f := (R 3)) (g := v) hx hb (hml.trans hl.1.symm) hown (hts (.methodLink RX0 29 arraycopyName) (List.mem_of_getElem? (i := 3) rfl)) (hts (.native arraycopyName) (List.mem_of_getElem? (i := 4) rfl)) (hts (.static arraycopyName) (List.mem_of_getElem? (i := 5) rfl)) (hts (.initialized "java/lang/System") (List.mem_of_getElem? (i := 6) rfl)) hK hP hD hS 5 9 0 0 rfl rfl rfl rfl rfl (by decide) (by decide) (by decide) (by decide) (by decide) (fun i hi => rfl) (Nat.le_of_ble_eq_true rfl) (Nat.le_of_ble_eq_true rfl) dX0_takeBack_43 (fun H locs hP hD hS => ?_)
    have hP : va_P (gD Γ) vwCl (chgW Γ a b (R, (4 - 1)) ++ setW Γ a2 b2 (va_cpy (R 3) v 0 0 15)) H := hP
    have hD : va_D A (chgW Γ a b (R, (4 - 1)) ++ setW Γ a2 b2 (va_cpy (R 3) v 0 0 15)) := hD
    exact re_v hQ ha hx hb hr hlk hAe hP hS dX0_takeBack_46 (by skip; rfl)
  · --
    refine lv_aload_n hx hb dX0_takeBack_0 rfl (lv_at hl 0 rfl) ?_
    refine va_get (D := gD Γ) (cl := vwCl) (tys := gTy Γ) (ci := 0) (v := .int 5) (C := RX0) (T := TX0) (N := 2) hx hb hts iX0_takeBack_0 hown hK hP 0 rfl rfl 1 (Nat.le_of_ble_eq_true rfl) (hts (.fieldLink RX0 16 "DeadTimeLoop$Changes" "count" "I") (List.mem_of_getElem? (i := 1) rfl)) (fun _ h9 => h9) rfl dX0_takeBack_1 ?_
    refine lv_if_le (tgt := 46) hx hb dX0_takeBack_4 (by decide) (fun c => absurd c (by decide)) (fun _ => ?_)
    refine lv_aload_n hx hb dX0_takeBack_7 rfl (lv_at hl 0 rfl) ?_
    refine va_get (D := gD Γ) (cl := vwCl) (tys := gTy Γ) (ci := 0) (v := .int 5) (C := RX0) (T := TX0) (N := 2) hx hb hts iX0_takeBack_0 hown hK hP 0 rfl rfl 1 (Nat.le_of_ble_eq_true rfl) (hts (.fieldLink RX0 16 "DeadTimeLoop$Changes" "count" "I") (List.mem_of_getElem? (i := 1) rfl)) (fun _ h9 => h9) rfl dX0_takeBack_8 ?_
    refine lv_bipush (v := 6) hx hb dX0_takeBack_11 (by decide) ?_
    refine lv_icmp_gt (tgt := 46) hx hb dX0_takeBack_13 (by decide) (fun c => absurd c (by decide)) (fun _ => ?_)
    refine lv_aload_n hx hb dX0_takeBack_16 rfl (lv_at hl 0 rfl) ?_
    refine lv_dup hx hb dX0_takeBack_17 rfl ?_
    refine va_get (D := gD Γ) (cl := vwCl) (tys := gTy Γ) (ci := 0) (v := .int 5) (C := RX0) (T := TX0) (N := 2) hx hb hts iX0_takeBack_0 hown hK hP 0 rfl rfl 1 (Nat.le_of_ble_eq_true rfl) (hts (.fieldLink RX0 16 "DeadTimeLoop$Changes" "count" "I") (List.mem_of_getElem? (i := 1) rfl)) (fun _ h9 => h9) rfl dX0_takeBack_18 ?_
    refine lv_iconst (v := 1) hx hb dX0_takeBack_21 (by decide) ?_
    refine lv_isub hx hb dX0_takeBack_22 ?_
    refine va_put (D := gD Γ) (cl := vwCl) (tys := gTy Γ) (ci := 0) (v := .int (5 - 1)) (ty := tyX0 1) (C := RX0) (T := TX0) (N := 2) hx hb hts iX0_takeBack_0 tyX0 tyX0_ok nmX0 hown hK hP hD hS 0 rfl rfl 1 (Nat.le_of_ble_eq_true rfl) (hts (.fieldLink RX0 16 "DeadTimeLoop$Changes" "count" "I") (List.mem_of_getElem? (i := 1) rfl)) (fun _ h9 => h9) rfl (tyX0_ok 1 (Nat.le_of_ble_eq_true rfl)) rfl rfl (Nat.le_of_ble_eq_true rfl) dX0_takeBack_23 (fun H locs hP hD hS => ?_)
    have hP : va_P (gD Γ) vwCl (chgW Γ a b (R, (5 - 1)) ++ setW Γ a2 b2 v) H := hP
    have hD : va_D A (chgW Γ a b (R, (5 - 1)) ++ setW Γ a2 b2 v) := hD
    refine lv_aload_n hx hb dX0_takeBack_26 rfl (lv_at hl 0 rfl) ?_
    refine va_get (D := gD Γ) (cl := vwCl) (tys := gTy Γ) (ci := 0) (v := .ref (a (b + 1))) (C := RX0) (T := TX0) (N := 2) hx hb hts iX0_takeBack_0 hown hK hP 0 rfl rfl 0 (Nat.le_of_ble_eq_true rfl) (hts (.fieldLink RX0 11 "DeadTimeLoop$Changes" "rows" "[[I") (List.mem_of_getElem? (i := 2) rfl)) (fun _ h9 => h9) rfl dX0_takeBack_27 ?_
    refine lv_aload_n hx hb dX0_takeBack_30 rfl (lv_at hl 0 rfl) ?_
    refine va_get (D := gD Γ) (cl := vwCl) (tys := gTy Γ) (ci := 0) (v := .int (5 - 1)) (C := RX0) (T := TX0) (N := 2) hx hb hts iX0_takeBack_0 hown hK hP 0 rfl rfl 1 (Nat.le_of_ble_eq_true rfl) (hts (.fieldLink RX0 16 "DeadTimeLoop$Changes" "count" "I") (List.mem_of_getElem? (i := 1) rfl)) (fun _ h9 => h9) rfl dX0_takeBack_31 ?_
    refine ka_aald (D := gD Γ) (cl := vwCl) (tys := gTy Γ) hx hb hK hP 1 3 rfl rfl 4 (by decide) (by decide) (by decide) (v := (a (b + 6))) rfl dX0_takeBack_34 ?_
    refine lv_iconst (v := 0) hx hb dX0_takeBack_35 (by decide) ?_
    refine lv_aload_n hx hb dX0_takeBack_36 rfl (lv_at hl 1 rfl) ?_
    refine va_getN (D := gD Γ) (cl := vwCl) (tys := gTy Γ) (ci := 3) (v := .ref (a2 (b2 + 1))) (C := RX3) (T := TX3) (N := 1) hx hb hts iX0_takeBack_3 hown hK hP 8 rfl rfl 0 (Nat.le_of_ble_eq_true rfl) (va_Nw.use rfl hG.1.2.1) (fun _ h9 => h9) rfl dX0_takeBack_37 ?_
    refine lv_iconst (v := 0) hx hb dX0_takeBack_40 (by decide) ?_
    refine lv_bipush (v := 15) hx hb dX0_takeBack_41 (by decide) ?_
    refine va_copyi (D := gD Γ) (cl := vwCl) (tys := gTy Γ) (f := (R 4)) (g := v) hx hb (hml.trans hl.1.symm) hown (hts (.methodLink RX0 29 arraycopyName) (List.mem_of_getElem? (i := 3) rfl)) (hts (.native arraycopyName) (List.mem_of_getElem? (i := 4) rfl)) (hts (.static arraycopyName) (List.mem_of_getElem? (i := 5) rfl)) (hts (.initialized "java/lang/System") (List.mem_of_getElem? (i := 6) rfl)) hK hP hD hS 6 9 0 0 rfl rfl rfl rfl rfl (by decide) (by decide) (by decide) (by decide) (by decide) (fun i hi => rfl) (Nat.le_of_ble_eq_true rfl) (Nat.le_of_ble_eq_true rfl) dX0_takeBack_43 (fun H locs hP hD hS => ?_)
    have hP : va_P (gD Γ) vwCl (chgW Γ a b (R, (5 - 1)) ++ setW Γ a2 b2 (va_cpy (R 4) v 0 0 15)) H := hP
    have hD : va_D A (chgW Γ a b (R, (5 - 1)) ++ setW Γ a2 b2 (va_cpy (R 4) v 0 0 15)) := hD
    exact re_v hQ ha hx hb hr hlk hAe hP hS dX0_takeBack_46 (by skip; rfl)
  · --
    refine lv_aload_n hx hb dX0_takeBack_0 rfl (lv_at hl 0 rfl) ?_
    refine va_get (D := gD Γ) (cl := vwCl) (tys := gTy Γ) (ci := 0) (v := .int 6) (C := RX0) (T := TX0) (N := 2) hx hb hts iX0_takeBack_0 hown hK hP 0 rfl rfl 1 (Nat.le_of_ble_eq_true rfl) (hts (.fieldLink RX0 16 "DeadTimeLoop$Changes" "count" "I") (List.mem_of_getElem? (i := 1) rfl)) (fun _ h9 => h9) rfl dX0_takeBack_1 ?_
    refine lv_if_le (tgt := 46) hx hb dX0_takeBack_4 (by decide) (fun c => absurd c (by decide)) (fun _ => ?_)
    refine lv_aload_n hx hb dX0_takeBack_7 rfl (lv_at hl 0 rfl) ?_
    refine va_get (D := gD Γ) (cl := vwCl) (tys := gTy Γ) (ci := 0) (v := .int 6) (C := RX0) (T := TX0) (N := 2) hx hb hts iX0_takeBack_0 hown hK hP 0 rfl rfl 1 (Nat.le_of_ble_eq_true rfl) (hts (.fieldLink RX0 16 "DeadTimeLoop$Changes" "count" "I") (List.mem_of_getElem? (i := 1) rfl)) (fun _ h9 => h9) rfl dX0_takeBack_8 ?_
    refine lv_bipush (v := 6) hx hb dX0_takeBack_11 (by decide) ?_
    refine lv_icmp_gt (tgt := 46) hx hb dX0_takeBack_13 (by decide) (fun c => absurd c (by decide)) (fun _ => ?_)
    refine lv_aload_n hx hb dX0_takeBack_16 rfl (lv_at hl 0 rfl) ?_
    refine lv_dup hx hb dX0_takeBack_17 rfl ?_
    refine va_get (D := gD Γ) (cl := vwCl) (tys := gTy Γ) (ci := 0) (v := .int 6) (C := RX0) (T := TX0) (N := 2) hx hb hts iX0_takeBack_0 hown hK hP 0 rfl rfl 1 (Nat.le_of_ble_eq_true rfl) (hts (.fieldLink RX0 16 "DeadTimeLoop$Changes" "count" "I") (List.mem_of_getElem? (i := 1) rfl)) (fun _ h9 => h9) rfl dX0_takeBack_18 ?_
    refine lv_iconst (v := 1) hx hb dX0_takeBack_21 (by decide) ?_
    refine lv_isub hx hb dX0_takeBack_22 ?_
    refine va_put (D := gD Γ) (cl := vwCl) (tys := gTy Γ) (ci := 0) (v := .int (6 - 1)) (ty := tyX0 1) (C := RX0) (T := TX0) (N := 2) hx hb hts iX0_takeBack_0 tyX0 tyX0_ok nmX0 hown hK hP hD hS 0 rfl rfl 1 (Nat.le_of_ble_eq_true rfl) (hts (.fieldLink RX0 16 "DeadTimeLoop$Changes" "count" "I") (List.mem_of_getElem? (i := 1) rfl)) (fun _ h9 => h9) rfl (tyX0_ok 1 (Nat.le_of_ble_eq_true rfl)) rfl rfl (Nat.le_of_ble_eq_true rfl) dX0_takeBack_23 (fun H locs hP hD hS => ?_)
    have hP : va_P (gD Γ) vwCl (chgW Γ a b (R, (6 - 1)) ++ setW Γ a2 b2 v) H := hP
    have hD : va_D A (chgW Γ a b (R, (6 - 1)) ++ setW Γ a2 b2 v) := hD
    refine lv_aload_n hx hb dX0_takeBack_26 rfl (lv_at hl 0 rfl) ?_
    refine va_get (D := gD Γ) (cl := vwCl) (tys := gTy Γ) (ci := 0) (v := .ref (a (b + 1))) (C := RX0) (T := TX0) (N := 2) hx hb hts iX0_takeBack_0 hown hK hP 0 rfl rfl 0 (Nat.le_of_ble_eq_true rfl) (hts (.fieldLink RX0 11 "DeadTimeLoop$Changes" "rows" "[[I") (List.mem_of_getElem? (i := 2) rfl)) (fun _ h9 => h9) rfl dX0_takeBack_27 ?_
    refine lv_aload_n hx hb dX0_takeBack_30 rfl (lv_at hl 0 rfl) ?_
    refine va_get (D := gD Γ) (cl := vwCl) (tys := gTy Γ) (ci := 0) (v := .int (6 - 1)) (C := RX0) (T := TX0) (N := 2) hx hb hts iX0_takeBack_0 hown hK hP 0 rfl rfl 1 (Nat.le_of_ble_eq_true rfl) (hts (.fieldLink RX0 16 "DeadTimeLoop$Changes" "count" "I") (List.mem_of_getElem? (i := 1) rfl)) (fun _ h9 => h9) rfl dX0_takeBack_31 ?_
    refine ka_aald (D := gD Γ) (cl := vwCl) (tys := gTy Γ) hx hb hK hP 1 3 rfl rfl 5 (by decide) (by decide) (by decide) (v := (a (b + 7))) rfl dX0_takeBack_34 ?_
    refine lv_iconst (v := 0) hx hb dX0_takeBack_35 (by decide) ?_
    refine lv_aload_n hx hb dX0_takeBack_36 rfl (lv_at hl 1 rfl) ?_
    refine va_getN (D := gD Γ) (cl := vwCl) (tys := gTy Γ) (ci := 3) (v := .ref (a2 (b2 + 1))) (C := RX3) (T := TX3) (N := 1) hx hb hts iX0_takeBack_3 hown hK hP 8 rfl rfl 0 (Nat.le_of_ble_eq_true rfl) (va_Nw.use rfl hG.1.2.1) (fun _ h9 => h9) rfl dX0_takeBack_37 ?_
    refine lv_iconst (v := 0) hx hb dX0_takeBack_40 (by decide) ?_
    refine lv_bipush (v := 15) hx hb dX0_takeBack_41 (by decide) ?_
    refine va_copyi (D := gD Γ) (cl := vwCl) (tys := gTy Γ) (f := (R 5)) (g := v) hx hb (hml.trans hl.1.symm) hown (hts (.methodLink RX0 29 arraycopyName) (List.mem_of_getElem? (i := 3) rfl)) (hts (.native arraycopyName) (List.mem_of_getElem? (i := 4) rfl)) (hts (.static arraycopyName) (List.mem_of_getElem? (i := 5) rfl)) (hts (.initialized "java/lang/System") (List.mem_of_getElem? (i := 6) rfl)) hK hP hD hS 7 9 0 0 rfl rfl rfl rfl rfl (by decide) (by decide) (by decide) (by decide) (by decide) (fun i hi => rfl) (Nat.le_of_ble_eq_true rfl) (Nat.le_of_ble_eq_true rfl) dX0_takeBack_43 (fun H locs hP hD hS => ?_)
    have hP : va_P (gD Γ) vwCl (chgW Γ a b (R, (6 - 1)) ++ setW Γ a2 b2 (va_cpy (R 5) v 0 0 15)) H := hP
    have hD : va_D A (chgW Γ a b (R, (6 - 1)) ++ setW Γ a2 b2 (va_cpy (R 5) v 0 0 15)) := hD
    exact re_v hQ ha hx hb hr hlk hAe hP hS dX0_takeBack_46 (by skip; rfl)
