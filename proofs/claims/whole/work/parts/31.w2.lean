def rm_X5_copy : Room := { frames := 1, cells := 0, slots := 0, locals := 28 }
theorem iX5_copy_5 : ∀ w ∈ u_ws RX5 TX5 5, w ∈ wsX5_copy := fun w h => (List.mem_cons_of_mem _ (List.mem_append_right _ h))
set_option maxHeartbeats 4000000 in
set_option maxRecDepth 100000 in
theorem c_X5_copy (Γ : gT) (l : Launch) (a : Nat → Nat) (b : Nat) (a2 : Nat → Nat) (b2 : Nat) (w : Wat) (w2 : Wat)  : Cv Γ l yX5_copy wsX5_copy rm_X5_copy [.ref (a b), .ref (a2 b2)] (watW Γ a b w ++ watW Γ a2 b2 w2) (watW Γ a b ((va_cpy (wSig w2) (wSig w) 0 0 4, va_cpy (wLeast w2) (wLeast w) 0 0 4, va_cpy (wGreat w2) (wGreat w) 0 0 4, va_cpy (wGtick w2) (wGtick w) 0 0 4, (wCnt w2))) ++ watW Γ a2 b2 w2) := by
  refine Cv.of (cc := cX5_copy) (own := RX5) (nL := 2) (ret := none) (by decide +kernel) rfl rfl (Nat.le_of_ble_eq_true rfl) ?_
  intro p e s m args below meth c A Q H locs ls ha hAe hQ hx hb hml hr hts hown hlk hP hK hD hS hA hG hl
  have hh : Hd Γ p s m args c cX5_copy RX5 2 wsX5_copy A := ⟨⟨hx, hb, hml, hown, hts⟩, hK, hA, hG⟩
  have hl : lv_has ls 2 [(0, .ref (a b)), (1, .ref (a2 b2))] := hl
  refine lv_aload_n hx hb dX5_copy_0 rfl (lv_at hl 1 rfl) ?_
  refine va_get (D := gD Γ) (cl := vwCl) (tys := gTy Γ) (ci := 5) (v := .ref (a2 (b2 + 1))) (C := RX5) (T := TX5) (N := 5) hx hb hts iX5_copy_5 hown hK hP 5 rfl rfl 0 (Nat.le_of_ble_eq_true rfl) (hts (.fieldLink RX5 9 "DeadTimeLoop$Watches" "signals" "[I") (List.mem_of_getElem? (i := 1) rfl)) (fun _ h9 => h9) rfl dX5_copy_1 ?_
  refine lv_iconst (v := 0) hx hb dX5_copy_4 (by decide) ?_
  refine lv_aload_n hx hb dX5_copy_5 rfl (lv_at hl 0 rfl) ?_
  refine va_get (D := gD Γ) (cl := vwCl) (tys := gTy Γ) (ci := 5) (v := .ref (a (b + 1))) (C := RX5) (T := TX5) (N := 5) hx hb hts iX5_copy_5 hown hK hP 0 rfl rfl 0 (Nat.le_of_ble_eq_true rfl) (hts (.fieldLink RX5 9 "DeadTimeLoop$Watches" "signals" "[I") (List.mem_of_getElem? (i := 1) rfl)) (fun _ h9 => h9) rfl dX5_copy_6 ?_
  refine lv_iconst (v := 0) hx hb dX5_copy_9 (by decide) ?_
  refine lv_iconst (v := 4) hx hb dX5_copy_10 (by decide) ?_
  refine va_copyi (D := gD Γ) (cl := vwCl) (tys := gTy Γ) (f := (wSig w2)) (g := (wSig w)) hx hb (hml.trans hl.1.symm) hown (hts (.methodLink RX5 28 arraycopyName) (List.mem_of_getElem? (i := 2) rfl)) (hts (.native arraycopyName) (List.mem_of_getElem? (i := 3) rfl)) (hts (.static arraycopyName) (List.mem_of_getElem? (i := 4) rfl)) (hts (.initialized "java/lang/System") (List.mem_of_getElem? (i := 5) rfl)) hK hP hD hS 6 1 0 0 rfl rfl rfl rfl rfl (by decide) (by decide) (by decide) (by decide) (by decide) (fun i hi => rfl) (Nat.le_of_ble_eq_true rfl) (Nat.le_of_ble_eq_true rfl) dX5_copy_11 (fun H locs hP hD hS => ?_)
  have hP : va_P (gD Γ) vwCl (watW Γ a b ((va_cpy (wSig w2) (wSig w) 0 0 4), (wLeast w), (wGreat w), (wGtick w), (wCnt w)) ++ watW Γ a2 b2 w2) H := hP
  have hD : va_D A (watW Γ a b ((va_cpy (wSig w2) (wSig w) 0 0 4), (wLeast w), (wGreat w), (wGtick w), (wCnt w)) ++ watW Γ a2 b2 w2) := hD
  refine lv_aload_n hx hb dX5_copy_14 rfl (lv_at hl 1 rfl) ?_
  refine va_get (D := gD Γ) (cl := vwCl) (tys := gTy Γ) (ci := 5) (v := .ref (a2 (b2 + 2))) (C := RX5) (T := TX5) (N := 5) hx hb hts iX5_copy_5 hown hK hP 5 rfl rfl 1 (Nat.le_of_ble_eq_true rfl) (hts (.fieldLink RX5 15 "DeadTimeLoop$Watches" "least" "[I") (List.mem_of_getElem? (i := 6) rfl)) (fun _ h9 => h9) rfl dX5_copy_15 ?_
  refine lv_iconst (v := 0) hx hb dX5_copy_18 (by decide) ?_
  refine lv_aload_n hx hb dX5_copy_19 rfl (lv_at hl 0 rfl) ?_
  refine va_get (D := gD Γ) (cl := vwCl) (tys := gTy Γ) (ci := 5) (v := .ref (a (b + 2))) (C := RX5) (T := TX5) (N := 5) hx hb hts iX5_copy_5 hown hK hP 0 rfl rfl 1 (Nat.le_of_ble_eq_true rfl) (hts (.fieldLink RX5 15 "DeadTimeLoop$Watches" "least" "[I") (List.mem_of_getElem? (i := 6) rfl)) (fun _ h9 => h9) rfl dX5_copy_20 ?_
  refine lv_iconst (v := 0) hx hb dX5_copy_23 (by decide) ?_
  refine lv_iconst (v := 4) hx hb dX5_copy_24 (by decide) ?_
  refine va_copyi (D := gD Γ) (cl := vwCl) (tys := gTy Γ) (f := (wLeast w2)) (g := (wLeast w)) hx hb (hml.trans hl.1.symm) hown (hts (.methodLink RX5 28 arraycopyName) (List.mem_of_getElem? (i := 2) rfl)) (hts (.native arraycopyName) (List.mem_of_getElem? (i := 3) rfl)) (hts (.static arraycopyName) (List.mem_of_getElem? (i := 4) rfl)) (hts (.initialized "java/lang/System") (List.mem_of_getElem? (i := 5) rfl)) hK hP hD hS 7 2 0 0 rfl rfl rfl rfl rfl (by decide) (by decide) (by decide) (by decide) (by decide) (fun i hi => rfl) (Nat.le_of_ble_eq_true rfl) (Nat.le_of_ble_eq_true rfl) dX5_copy_25 (fun H locs hP hD hS => ?_)
  have hP : va_P (gD Γ) vwCl (watW Γ a b ((va_cpy (wSig w2) (wSig w) 0 0 4), (va_cpy (wLeast w2) (wLeast w) 0 0 4), (wGreat w), (wGtick w), (wCnt w)) ++ watW Γ a2 b2 w2) H := hP
  have hD : va_D A (watW Γ a b ((va_cpy (wSig w2) (wSig w) 0 0 4), (va_cpy (wLeast w2) (wLeast w) 0 0 4), (wGreat w), (wGtick w), (wCnt w)) ++ watW Γ a2 b2 w2) := hD
  refine lv_aload_n hx hb dX5_copy_28 rfl (lv_at hl 1 rfl) ?_
  refine va_get (D := gD Γ) (cl := vwCl) (tys := gTy Γ) (ci := 5) (v := .ref (a2 (b2 + 3))) (C := RX5) (T := TX5) (N := 5) hx hb hts iX5_copy_5 hown hK hP 5 rfl rfl 2 (Nat.le_of_ble_eq_true rfl) (hts (.fieldLink RX5 18 "DeadTimeLoop$Watches" "greatest" "[I") (List.mem_of_getElem? (i := 7) rfl)) (fun _ h9 => h9) rfl dX5_copy_29 ?_
  refine lv_iconst (v := 0) hx hb dX5_copy_32 (by decide) ?_
  refine lv_aload_n hx hb dX5_copy_33 rfl (lv_at hl 0 rfl) ?_
  refine va_get (D := gD Γ) (cl := vwCl) (tys := gTy Γ) (ci := 5) (v := .ref (a (b + 3))) (C := RX5) (T := TX5) (N := 5) hx hb hts iX5_copy_5 hown hK hP 0 rfl rfl 2 (Nat.le_of_ble_eq_true rfl) (hts (.fieldLink RX5 18 "DeadTimeLoop$Watches" "greatest" "[I") (List.mem_of_getElem? (i := 7) rfl)) (fun _ h9 => h9) rfl dX5_copy_34 ?_
  refine lv_iconst (v := 0) hx hb dX5_copy_37 (by decide) ?_
  refine lv_iconst (v := 4) hx hb dX5_copy_38 (by decide) ?_
  refine va_copyi (D := gD Γ) (cl := vwCl) (tys := gTy Γ) (f := (wGreat w2)) (g := (wGreat w)) hx hb (hml.trans hl.1.symm) hown (hts (.methodLink RX5 28 arraycopyName) (List.mem_of_getElem? (i := 2) rfl)) (hts (.native arraycopyName) (List.mem_of_getElem? (i := 3) rfl)) (hts (.static arraycopyName) (List.mem_of_getElem? (i := 4) rfl)) (hts (.initialized "java/lang/System") (List.mem_of_getElem? (i := 5) rfl)) hK hP hD hS 8 3 0 0 rfl rfl rfl rfl rfl (by decide) (by decide) (by decide) (by decide) (by decide) (fun i hi => rfl) (Nat.le_of_ble_eq_true rfl) (Nat.le_of_ble_eq_true rfl) dX5_copy_39 (fun H locs hP hD hS => ?_)
  have hP : va_P (gD Γ) vwCl (watW Γ a b ((va_cpy (wSig w2) (wSig w) 0 0 4), (va_cpy (wLeast w2) (wLeast w) 0 0 4), (va_cpy (wGreat w2) (wGreat w) 0 0 4), (wGtick w), (wCnt w)) ++ watW Γ a2 b2 w2) H := hP
  have hD : va_D A (watW Γ a b ((va_cpy (wSig w2) (wSig w) 0 0 4), (va_cpy (wLeast w2) (wLeast w) 0 0 4), (va_cpy (wGreat w2) (wGreat w) 0 0 4), (wGtick w), (wCnt w)) ++ watW Γ a2 b2 w2) := hD
  refine lv_aload_n hx hb dX5_copy_42 rfl (lv_at hl 1 rfl) ?_
  refine va_get (D := gD Γ) (cl := vwCl) (tys := gTy Γ) (ci := 5) (v := .ref (a2 (b2 + 4))) (C := RX5) (T := TX5) (N := 5) hx hb hts iX5_copy_5 hown hK hP 5 rfl rfl 3 (Nat.le_of_ble_eq_true rfl) (hts (.fieldLink RX5 21 "DeadTimeLoop$Watches" "greatestTick" "[I") (List.mem_of_getElem? (i := 8) rfl)) (fun _ h9 => h9) rfl dX5_copy_43 ?_
  refine lv_iconst (v := 0) hx hb dX5_copy_46 (by decide) ?_
  refine lv_aload_n hx hb dX5_copy_47 rfl (lv_at hl 0 rfl) ?_
  refine va_get (D := gD Γ) (cl := vwCl) (tys := gTy Γ) (ci := 5) (v := .ref (a (b + 4))) (C := RX5) (T := TX5) (N := 5) hx hb hts iX5_copy_5 hown hK hP 0 rfl rfl 3 (Nat.le_of_ble_eq_true rfl) (hts (.fieldLink RX5 21 "DeadTimeLoop$Watches" "greatestTick" "[I") (List.mem_of_getElem? (i := 8) rfl)) (fun _ h9 => h9) rfl dX5_copy_48 ?_
  refine lv_iconst (v := 0) hx hb dX5_copy_51 (by decide) ?_
  refine lv_iconst (v := 4) hx hb dX5_copy_52 (by decide) ?_
  refine va_copyi (D := gD Γ) (cl := vwCl) (tys := gTy Γ) (f := (wGtick w2)) (g := (wGtick w)) hx hb (hml.trans hl.1.symm) hown (hts (.methodLink RX5 28 arraycopyName) (List.mem_of_getElem? (i := 2) rfl)) (hts (.native arraycopyName) (List.mem_of_getElem? (i := 3) rfl)) (hts (.static arraycopyName) (List.mem_of_getElem? (i := 4) rfl)) (hts (.initialized "java/lang/System") (List.mem_of_getElem? (i := 5) rfl)) hK hP hD hS 9 4 0 0 rfl rfl rfl rfl rfl (by decide) (by decide) (by decide) (by decide) (by decide) (fun i hi => rfl) (Nat.le_of_ble_eq_true rfl) (Nat.le_of_ble_eq_true rfl) dX5_copy_53 (fun H locs hP hD hS => ?_)
  have hP : va_P (gD Γ) vwCl (watW Γ a b ((va_cpy (wSig w2) (wSig w) 0 0 4), (va_cpy (wLeast w2) (wLeast w) 0 0 4), (va_cpy (wGreat w2) (wGreat w) 0 0 4), (va_cpy (wGtick w2) (wGtick w) 0 0 4), (wCnt w)) ++ watW Γ a2 b2 w2) H := hP
  have hD : va_D A (watW Γ a b ((va_cpy (wSig w2) (wSig w) 0 0 4), (va_cpy (wLeast w2) (wLeast w) 0 0 4), (va_cpy (wGreat w2) (wGreat w) 0 0 4), (va_cpy (wGtick w2) (wGtick w) 0 0 4), (wCnt w)) ++ watW Γ a2 b2 w2) := hD
  refine lv_aload_n hx hb dX5_copy_56 rfl (lv_at hl 0 rfl) ?_
  refine lv_aload_n hx hb dX5_copy_57 rfl (lv_at hl 1 rfl) ?_
  refine va_get (D := gD Γ) (cl := vwCl) (tys := gTy Γ) (ci := 5) (v := .int (wCnt w2)) (C := RX5) (T := TX5) (N := 5) hx hb hts iX5_copy_5 hown hK hP 5 rfl rfl 4 (Nat.le_of_ble_eq_true rfl) (hts (.fieldLink RX5 24 "DeadTimeLoop$Watches" "count" "I") (List.mem_of_getElem? (i := 9) rfl)) (fun _ h9 => h9) rfl dX5_copy_58 ?_
  refine va_put (D := gD Γ) (cl := vwCl) (tys := gTy Γ) (ci := 5) (v := .int (wCnt w2)) (ty := tyX5 4) (C := RX5) (T := TX5) (N := 5) hx hb hts iX5_copy_5 tyX5 tyX5_ok nmX5 hown hK hP hD hS 0 rfl rfl 4 (Nat.le_of_ble_eq_true rfl) (hts (.fieldLink RX5 24 "DeadTimeLoop$Watches" "count" "I") (List.mem_of_getElem? (i := 9) rfl)) (fun _ h9 => h9) rfl (tyX5_ok 4 (Nat.le_of_ble_eq_true rfl)) rfl rfl (Nat.le_of_ble_eq_true rfl) dX5_copy_61 (fun H locs hP hD hS => ?_)
  have hP : va_P (gD Γ) vwCl (watW Γ a b ((va_cpy (wSig w2) (wSig w) 0 0 4), (va_cpy (wLeast w2) (wLeast w) 0 0 4), (va_cpy (wGreat w2) (wGreat w) 0 0 4), (va_cpy (wGtick w2) (wGtick w) 0 0 4), (wCnt w2)) ++ watW Γ a2 b2 w2) H := hP
  have hD : va_D A (watW Γ a b ((va_cpy (wSig w2) (wSig w) 0 0 4), (va_cpy (wLeast w2) (wLeast w) 0 0 4), (va_cpy (wGreat w2) (wGreat w) 0 0 4), (va_cpy (wGtick w2) (wGtick w) 0 0 4), (wCnt w2)) ++ watW Γ a2 b2 w2) := hD
  exact re_v hQ ha hx hb hr hlk hAe hP hS dX5_copy_64 (by skip; first | rfl | simp [])
def rm_X5_placeOf : Room := { frames := 0, cells := 0, slots := 0, locals := 0 }
theorem iX5_placeOf_5 : ∀ w ∈ u_ws RX5 TX5 5, w ∈ wsX5_placeOf := fun w h => (List.mem_cons_of_mem _ (List.mem_append_right _ h))
set_option maxHeartbeats 4000000 in
set_option maxRecDepth 100000 in
theorem c_X5_placeOf (Γ : gT) (l : Launch) (a : Nat → Nat) (b : Nat) (w : Wat) (sg : Int32)  : Ci Γ l yX5_placeOf wsX5_placeOf rm_X5_placeOf [.ref (a b), .int sg] (watW Γ a b w) (fPlace (wCnt w) (wSig w) sg) (watW Γ a b w) := by
  refine Ci.of (cc := cX5_placeOf) (own := RX5) (nL := 3) (ret := (some .int)) (by decide +kernel) rfl rfl (Nat.le_of_ble_eq_true rfl) ?_
  intro p e s m args below meth c A Q H locs ls ha hAe hQ hx hb hml hr hts hown hlk hP hK hD hS hA hG hl
  have hh : Hd Γ p s m args c cX5_placeOf RX5 3 wsX5_placeOf A := ⟨⟨hx, hb, hml, hown, hts⟩, hK, hA, hG⟩
  have hl : lv_has ls 3 [(0, .ref (a b)), (1, .int sg)] := hl
  refine lv_iconst (v := 0) hx hb dX5_placeOf_0 (by decide) ?_
  refine lv_istore_n (lv' := [(2, .int 0), (0, .ref (a b)), (1, .int sg)]) hx hb dX5_placeOf_1 rfl hl (by decide) rfl (fun ls hl => ?_)
  have hJ_2 : ∀ n : Nat, ∀ (i : Nat) (x : Int32), (x = nI i) → (i ≤ 4) → (5 ≤ i + n) → (fPlaceN (wCnt w) (wSig w) sg n i = fPlace (wCnt w) (wSig w) sg) → ∀ (H : Heap) (locs : List Loc) (ls : Array Slot), va_P (gD Γ) vwCl (watW Γ a b w) H → va_D A (watW Γ a b w) → va_S A s.heap H locs → lv_has ls 3 [(0, .ref (a b)), (1, .int sg), (2, .int x)] → W p l e rm_X5_placeOf s m args below meth c H locs 0 0 Q (F0 m 2 ls []) := by
    intro n
    induction n with
    | zero =>
      intro i x ex hi hn hg
      omega
    | succ n ih =>
      intro i x ex hi hn hg H locs ls hP hD hS hl
      refine lv_iload_n hx hb dX5_placeOf_2 rfl (lv_at hl 2 rfl) ?_
      refine lv_aload_n hx hb dX5_placeOf_3 rfl (lv_at hl 0 rfl) ?_
      refine va_get (D := gD Γ) (cl := vwCl) (tys := gTy Γ) (ci := 5) (v := .int (wCnt w)) (C := RX5) (T := TX5) (N := 5) hx hb hts iX5_placeOf_5 hown hK hP 0 rfl rfl 4 (Nat.le_of_ble_eq_true rfl) (hts (.fieldLink RX5 24 "DeadTimeLoop$Watches" "count" "I") (List.mem_of_getElem? (i := 1) rfl)) (fun _ h9 => h9) rfl dX5_placeOf_4 ?_
      refine lv_icmp_ge (tgt := 33) hx hb dX5_placeOf_7 (by decide) (fun c_7 => ?_) (fun c_7 => ?_)
      · -- yes
        refine lv_iconst (v := (-1)) hx hb dX5_placeOf_33 (by decide) ?_
        exact re_i hQ ha hx hb hr hlk hAe hP hS dX5_placeOf_34 (by rw [← hg]; subst ex; simp [fPlaceN, c_7]) (by skip; first | rfl | simp [c_7])
      · -- no
        refine lv_iload_n hx hb dX5_placeOf_10 rfl (lv_at hl 2 rfl) ?_
        refine lv_iconst (v := 4) hx hb dX5_placeOf_11 (by decide) ?_
        refine lv_icmp_ge (tgt := 33) hx hb dX5_placeOf_12 (by decide) (fun c_12 => ?_) (fun c_12 => ?_)
        · -- yes
          refine lv_iconst (v := (-1)) hx hb dX5_placeOf_33 (by decide) ?_
          exact re_i hQ ha hx hb hr hlk hAe hP hS dX5_placeOf_34 (by rw [← hg]; subst ex; simp [fPlaceN, c_7, c_12]) (by skip; first | rfl | simp [c_7, c_12])
        · -- no
          refine lv_aload_n hx hb dX5_placeOf_15 rfl (lv_at hl 0 rfl) ?_
          refine va_get (D := gD Γ) (cl := vwCl) (tys := gTy Γ) (ci := 5) (v := .ref (a (b + 1))) (C := RX5) (T := TX5) (N := 5) hx hb hts iX5_placeOf_5 hown hK hP 0 rfl rfl 0 (Nat.le_of_ble_eq_true rfl) (hts (.fieldLink RX5 9 "DeadTimeLoop$Watches" "signals" "[I") (List.mem_of_getElem? (i := 2) rfl)) (fun _ h9 => h9) rfl dX5_placeOf_16 ?_
          refine lv_iload_n hx hb dX5_placeOf_19 rfl (lv_at hl 2 rfl) ?_
          refine ka_iald (D := gD Γ) (cl := vwCl) (tys := gTy Γ) hx hb hK hP 1 0 rfl rfl i ex (lt_of_nle (by rw [← ex]; exact c_12) (by omega) (by decide)) (by decide) (v := ((wSig w) i)) rfl dX5_placeOf_20 ?_
          refine lv_iload_n hx hb dX5_placeOf_21 rfl (lv_at hl 1 rfl) ?_
          refine lv_icmp_ne (tgt := 27) hx hb dX5_placeOf_22 (by decide) (fun c_22 => ?_) (fun c_22 => ?_)
          · -- yes
            refine lv_iinc (v := (x + 1)) (lv' := [(2, .int (x + 1)), (0, .ref (a b)), (1, .int sg)]) hx hb dX5_placeOf_27 hl (k := 2) rfl rfl (by decide) rfl (fun ls hl => ?_)
            refine lv_goto (tgt := 2) hx hb dX5_placeOf_30 (by decide) ?_
            exact ih (i + 1) (x + 1) (by rw [ex]; exact nI_1 i) (by have := lt_of_nle (k := 4) (by rw [← ex]; exact c_12) (by omega) (by decide); omega) (by omega) (by rw [← hg]; subst ex; simp [fPlaceN, c_7, c_12, c_22]) _ _ _ hP hD hS (lv_sub hl [1, 2, 0] rfl)
          · -- no
            refine lv_iload_n hx hb dX5_placeOf_25 rfl (lv_at hl 2 rfl) ?_
            exact re_i hQ ha hx hb hr hlk hAe hP hS dX5_placeOf_26 (by rw [← hg]; subst ex; simp [fPlaceN, c_7, c_12, c_22]) (by skip; first | rfl | simp [c_7, c_12, c_22])
  exact hJ_2 5 0 0 rfl (by omega) (by omega) rfl _ _ _ hP hD hS (lv_sub hl [1, 2, 0] rfl)
