def rm_X5_copy : Room := { frames := 1, cells := 0, slots := 0, locals := 28 }
theorem iX5_copy_5 : ∀ w ∈ u_ws RX5 TX5 5, w ∈ wsX5_copy := fun w h => (List.mem_cons_of_mem _ (List.mem_append_right _ h))
set_option maxHeartbeats 1000000 in
set_option maxRecDepth 100000 in
theorem c_X5_copy (Γ : gT) (l : Launch) (a : Nat → Nat) (b : Nat) (a2 : Nat → Nat) (b2 : Nat) (w : Wat) (w2 : Wat)  : Cv Γ l yX5_copy wsX5_copy rm_X5_copy [.ref (a b), .ref (a2 b2)] (watW Γ a b w ++ watW Γ a2 b2 w2) (watW Γ a b ((va_cpy (wSig w2) (wSig w) 0 0 4, va_cpy (wLeast w2) (wLeast w) 0 0 4, va_cpy (wGreat w2) (wGreat w) 0 0 4, va_cpy (wGtick w2) (wGtick w) 0 0 4, (wCnt w2))) ++ watW Γ a2 b2 w2) := by
  refine Cv.of (cc := cX5_copy) (own := RX5) (nL := 2) (ret := none) (by decide +kernel) rfl rfl (Nat.le_of_ble_eq_true rfl) ?_
  intro p e s m args below meth c A Q H locs ls ha hAe hQ hx hb hml hr hts hown hlk hP hK hD hS hA hG hl
  have hh : Hd Γ p s m args c cX5_copy RX5 2 wsX5_copy A := ⟨⟨hx, hb, hml, hown, hts⟩, hK, hA, hG⟩
  have hl : lv_has ls 2 [(0, .ref (a b)), (1, .ref (a2 b2))] := hl
  refine lv_aload_n hx hb dX5_copy_0 rfl (lv_at hl 1 rfl) ?_
  refine va_get (D := gD Γ) (cl := vwCl) (tys := gTy Γ) (ci := 5) (v := .ref (a2 (b2 + 1))) (C := RX5) (T := TX5) (N := 5) hx hb hts iX5_copy_5 hown hK hP 5 rfl rfl 0 (Nat.le_of_ble_eq_true rfl) (hts (.fieldLink RX5 9 "DeadTimeLoop$Watches" "signals" "[I") (List.mem_of_getElem? (i := 1) rfl)) (fun _ h9 => h9) rfl dX5_copy_1 ?_
  refine lv_iconst (v := 0) hx hb dX5_copy_4 (by decide) ?_
  refine lv_aload_n hx hb dX5_copy_5 rfl (lv_at hl 0 rfl) ?_
  refine va_get (D := gD Γ) (cl := vwCl) (tys := gTy Γ) (ci := 5) (v := .ref (a (b + 1))) (C := RX5) (T := TX5) (N := 5) hx hb hts iX5_copy_5 hown hK hP 0 rfl rfl 0 (Nat.le_of_ble_eq_true rfl) (hts (.fieldLink RX5 9 "DeadTimeLoop$Watches" "signals" "[I") (List.mem_of_getElem? (i := 1) rfl)) (fun _ h9 => h9) rfl dX5_copy_6 ?_
  refine lv_iconst (v := 0) hx hb dX5_copy_9 (by decide) ?_
  refine lv_iconst (v := 4) hx hb dX5_copy_10 (by decide) ?_
  refine va_copyi (D := gD Γ) (cl := vwCl) (tys := gTy Γ) (f := (wSig w2)) (g := (wSig w)) hx hb (hml.trans hl.1.symm) hown (hts (.methodLink RX5 28 arraycopyName) (List.mem_of_getElem? (i := 2) rfl)) (hts (.native arraycopyName) (List.mem_of_getElem? (i := 3) rfl)) (hts (.static arraycopyName) (List.mem_of_getElem? (i := 4) rfl)) (hts (.initialized "java/lang/System") (List.mem_of_getElem? (i := 5) rfl)) hK hP hD hS 6 1 0 0 rfl rfl rfl rfl rfl (by decide) (by decide) (by decide) (by decide) (by decide) (fun i hi => rfl) (Nat.le_of_ble_eq_true rfl) (Nat.le_of_ble_eq_true rfl) dX5_copy_11 (fun H locs hP hD hS => ?_)
  have hP : va_P (gD Γ) vwCl (watW Γ a b ((va_cpy (wSig w2) (wSig w) 0 0 4), (wLeast w), (wGreat w), (wGtick w), (wCnt w)) ++ watW Γ a2 b2 w2) H := hP
  have hD : va_D A (watW Γ a b ((va_cpy (wSig w2) (wSig w) 0 0 4), (wLeast w), (wGreat w), (wGtick w), (wCnt w)) ++ watW Γ a2 b2 w2) := hD
  refine lv_aload_n hx hb dX5_copy_14 rfl (lv_at hl 1 rfl) ?_
  refine va_get (D := gD Γ) (cl := vwCl) (tys := gTy Γ) (ci := 5) (v := .ref (a2 (b2 + 2))) (C := RX5) (T := TX5) (N := 5) hx hb hts iX5_copy_5 hown hK hP 5 rfl rfl 1 (Nat.le_of_ble_eq_true rfl) (hts (.fieldLink RX5 15 "DeadTimeLoop$Watches" "least" "[I") (List.mem_of_getElem? (i := 6) rfl)) (fun _ h9 => h9) rfl dX5_copy_15 ?_
  refine lv_iconst (v := 0) hx hb dX5_copy_18 (by decide) ?_
  refine lv_aload_n hx hb dX5_copy_19 rfl (lv_at hl 0 rfl) ?_
  refine va_get (D := gD Γ) (cl := vwCl) (tys := gTy Γ) (ci := 5) (v := .ref (a (b + 2))) (C := RX5) (T := TX5) (N := 5) hx hb hts iX5_copy_5 hown hK hP 0 rfl rfl 1 (Nat.le_of_ble_eq_true rfl) (hts (.fieldLink RX5 15 "DeadTimeLoop$Watches" "least" "[I") (List.mem_of_getElem? (i := 6) rfl)) (fun _ h9 => h9) rfl dX5_copy_20 ?_
  refine lv_iconst (v := 0) hx hb dX5_copy_23 (by decide) ?_
  refine lv_iconst (v := 4) hx hb dX5_copy_24 (by decide) ?_
  refine va_copyi (D := gD Γ) (cl := vwCl) (tys := gTy Γ) (f := (wLeast w2)) (g := (wLeast w)) hx hb (hml.trans hl.1.symm) hown (hts (.methodLink RX5 28 arraycopyName) (List.mem_of_getElem? (i := 2) rfl)) (hts (.native arraycopyName) (List.mem_of_getElem? (i := 3) rfl)) (hts (.static arraycopyName) (List.mem_of_getElem? (i := 4) rfl)) (hts (.initialized "java/lang/System") (List.mem_of_getElem? (i := 5) rfl)) hK hP hD hS 7 2 0 0 rfl rfl rfl rfl rfl (by decide) (by decide) (by decide) (by decide) (by decide) (fun i hi => rfl) (Nat.le_of_ble_eq_true rfl) (Nat.le_of_ble_eq_true rfl) dX5_copy_25 (fun H locs hP hD hS => ?_)
  have hP : va_P (gD Γ) vwCl (watW Γ a b ((va_cpy (wSig w2) (wSig w) 0 0 4), (va_cpy (wLeast w2) (wLeast w) 0 0 4), (wGreat w), (wGtick w), (wCnt w)) ++ watW Γ a2 b2 w2) H := hP
  have hD : va_D A (watW Γ a b ((va_cpy (wSig w2) (wSig w) 0 0 4), (va_cpy (wLeast w2) (wLeast w) 0 0 4), (wGreat w), (wGtick w), (wCnt w)) ++ watW Γ a2 b2 w2) := hD
  refine lv_aload_n hx hb dX5_copy_28 rfl (lv_at hl 1 rfl) ?_
  refine va_get (D := gD Γ) (cl := vwCl) (tys := gTy Γ) (ci := 5) (v := .ref (a2 (b2 + 3))) (C := RX5) (T := TX5) (N := 5) hx hb hts iX5_copy_5 hown hK hP 5 rfl rfl 2 (Nat.le_of_ble_eq_true rfl) (hts (.fieldLink RX5 18 "DeadTimeLoop$Watches" "greatest" "[I") (List.mem_of_getElem? (i := 7) rfl)) (fun _ h9 => h9) rfl dX5_copy_29 ?_
  refine lv_iconst (v := 0) hx hb dX5_copy_32 (by decide) ?_
  refine lv_aload_n hx hb dX5_copy_33 rfl (lv_at hl 0 rfl) ?_
  refine va_get (D := gD Γ) (cl := vwCl) (tys := gTy Γ) (ci := 5) (v := .ref (a (b + 3))) (C := RX5) (T := TX5) (N := 5) hx hb hts iX5_copy_5 hown hK hP 0 rfl rfl 2 (Nat.le_of_ble_eq_true rfl) (hts (.fieldLink RX5 18 "DeadTimeLoop$Watches" "greatest" "[I") (List.mem_of_getElem? (i := 7) rfl)) (fun _ h9 => h9) rfl dX5_copy_34 ?_
  refine lv_iconst (v := 0) hx hb dX5_copy_37 (by decide) ?_
  refine lv_iconst (v := 4) hx hb dX5_copy_38 (by decide) ?_
  refine va_copyi (D := gD Γ) (cl := vwCl) (tys := gTy Γ) (f := (wGreat w2)) (g := (wGreat w)) hx hb (hml.trans hl.1.symm) hown (hts (.methodLink RX5 28 arraycopyName) (List.mem_of_getElem? (i := 2) rfl)) (hts (.native arraycopyName) (List.mem_of_getElem? (i := 3) rfl)) (hts (.static arraycopyName) (List.mem_of_getElem? (i := 4) rfl)) (hts (.initialized "java/lang/System") (List.mem_of_getElem? (i := 5) rfl)) hK hP hD hS 8 3 0 0 rfl rfl rfl rfl rfl (by decide) (by decide) (by decide) (by decide) (by decide) (fun i hi => rfl) (Nat.le_of_ble_eq_true rfl) (Nat.le_of_ble_eq_true rfl) dX5_copy_39 (fun H locs hP hD hS => ?_)
  have hP : va_P (gD Γ) vwCl (watW Γ a b ((va_cpy (wSig w2) (wSig w) 0 0 4), (va_cpy (wLeast w2) (wLeast w) 0 0 4), (va_cpy (wGreat w2) (wGreat w) 0 0 4), (wGtick w), (wCnt w)) ++ watW Γ a2 b2 w2) H := hP
  have hD : va_D A (watW Γ a b ((va_cpy (wSig w2) (wSig w) 0 0 4), (va_cpy (wLeast w2) (wLeast w) 0 0 4), (va_cpy (wGreat w2) (wGreat w) 0 0 4), (wGtick w), (wCnt w)) ++ watW Γ a2 b2 w2) := hD
  refine lv_aload_n hx hb dX5_copy_42 rfl (lv_at hl 1 rfl) ?_
  refine va_get (D := gD Γ) (cl := vwCl) (tys := gTy Γ) (ci := 5) (v := .ref (a2 (b2 + 4))) (C := RX5) (T := TX5) (N := 5) hx hb hts iX5_copy_5 hown hK hP 5 rfl rfl 3 (Nat.le_of_ble_eq_true rfl) (hts (.fieldLink RX5 21 "DeadTimeLoop$Watches" "greatestTick" "[I") (List.mem_of_getElem? (i := 8) rfl)) (fun _ h9 => h9) rfl dX5_copy_43 ?_
  refine lv_iconst (v := 0) hx hb dX5_copy_46 (by decide) ?_
  refine lv_aload_n hx hb dX5_copy_47 rfl (lv_at hl 0 rfl) ?_
  refine va_get (D := gD Γ) (cl := vwCl) (tys := gTy Γ) (ci := 5) (v := .ref (a (b + 4))) (C := RX5) (T := TX5) (N := 5) hx hb hts iX5_copy_5 hown hK hP 0 rfl rfl 3 (Nat.le_of_ble_eq_true rfl) (hts (.fieldLink RX5 21 "DeadTimeLoop$Watches" "greatestTick" "[I") (List.mem_of_getElem? (i := 8) rfl)) (fun _ h9 => h9) rfl dX5_copy_48 ?_
  refine lv_iconst (v := 0) hx hb dX5_copy_51 (by decide) ?_
  refine lv_iconst (v := 4) hx hb dX5_copy_52 (by decide) ?_
  refine va_copyi (D := gD Γ) (cl := vwCl) (tys := gTy Γ) (f := (wGtick w2)) (g := (wGtick w)) hx hb (hml.trans hl.1.symm) hown (hts (.methodLink RX5 28 arraycopyName) (List.mem_of_getElem? (i := 2) rfl)) (hts (.native arraycopyName) (List.mem_of_getElem? (i := 3) rfl)) (hts (.static arraycopyName) (List.mem_of_getElem? (i := 4) rfl)) (hts (.initialized "java/lang/System") (List.mem_of_getElem? (i := 5) rfl)) hK hP hD hS 9 4 0 0 rfl rfl rfl rfl rfl (by decide) (by decide) (by decide) (by decide) (by decide) (fun i hi => rfl) (Nat.le_of_ble_eq_true rfl) (Nat.le_of_ble_eq_true rfl) dX5_copy_53 (fun H locs hP hD hS => ?_)
  have hP : va_P (gD Γ) vwCl (watW Γ a b ((va_cpy (wSig w2) (wSig w) 0 0 4), (va_cpy (wLeast w2) (wLeast w) 0 0 4), (va_cpy (wGreat w2) (wGreat w) 0 0 4), (va_cpy (wGtick w2) (wGtick w) 0 0 4), (wCnt w)) ++ watW Γ a2 b2 w2) H := hP
  have hD : va_D A (watW Γ a b ((va_cpy (wSig w2) (wSig w) 0 0 4), (va_cpy (wLeast w2) (wLeast w) 0 0 4), (va_cpy (wGreat w2) (wGreat w) 0 0 4), (va_cpy (wGtick w2) (wGtick w) 0 0 4), (wCnt w)) ++ watW Γ a2 b2 w2) := hD
  refine lv_aload_n hx hb dX5_copy_56 rfl (lv_at hl 0 rfl) ?_
  refine lv_aload_n hx hb dX5_copy_57 rfl (lv_at hl 1 rfl) ?_
  refine va_get (D := gD Γ) (cl := vwCl) (tys := gTy Γ) (ci := 5) (v := .int (wCnt w2)) (C := RX5) (T := TX5) (N := 5) hx hb hts iX5_copy_5 hown hK hP 5 rfl rfl 4 (Nat.le_of_ble_eq_true rfl) (hts (.fieldLink RX5 24 "DeadTimeLoop$Watches" "count" "I") (List.mem_of_getElem? (i := 9) rfl)) (fun _ h9 => h9) rfl dX5_copy_58 ?_
  refine va_put (D := gD Γ) (cl := vwCl) (tys := gTy Γ) (ci := 5) (v := .int (wCnt w2)) (ty := tyX5 4) (C := RX5) (T := TX5) (N := 5) hx hb hts iX5_copy_5 tyX5 tyX5_ok nmX5 hown hK hP hD hS 0 rfl rfl 4 (Nat.le_of_ble_eq_true rfl) (hts (.fieldLink RX5 24 "DeadTimeLoop$Watches" "count" "I") (List.mem_of_getElem? (i := 9) rfl)) (fun _ h9 => h9) rfl (tyX5_ok 4 (Nat.le_of_ble_eq_true rfl)) rfl rfl (Nat.le_of_ble_eq_true rfl) dX5_copy_61 (fun H locs hP hD hS => ?_)
  have hP : va_P (gD Γ) vwCl (watW Γ a b ((va_cpy (wSig w2) (wSig w) 0 0 4), (va_cpy (wLeast w2) (wLeast w) 0 0 4), (va_cpy (wGreat w2) (wGreat w) 0 0 4), (va_cpy (wGtick w2) (wGtick w) 0 0 4), (wCnt w2)) ++ watW Γ a2 b2 w2) H := hP
  have hD : va_D A (watW Γ a b ((va_cpy (wSig w2) (wSig w) 0 0 4), (va_cpy (wLeast w2) (wLeast w) 0 0 4), (va_cpy (wGreat w2) (wGreat w) 0 0 4), (va_cpy (wGtick w2) (wGtick w) 0 0 4), (wCnt w2)) ++ watW Γ a2 b2 w2) := hD
  exact re_v hQ ha hx hb hr hlk hAe hP hS dX5_copy_64 (by skip; first | rfl | simp [])
def rm_X5_hasSeen : Room := { frames := 0, cells := 0, slots := 0, locals := 0 }
theorem iX5_hasSeen_5 : ∀ w ∈ u_ws RX5 TX5 5, w ∈ wsX5_hasSeen := fun w h => (List.mem_cons_of_mem _ (List.mem_append_right _ h))
set_option maxHeartbeats 1000000 in
set_option maxRecDepth 100000 in
theorem c_X5_hasSeen (Γ : gT) (l : Launch) (a : Nat → Nat) (b : Nat) (w : Wat) (k : Int32)  : Ci Γ l yX5_hasSeen wsX5_hasSeen rm_X5_hasSeen [.ref (a b), .int k] (watW Γ a b w) (fSeen (wGtick w) k) (watW Γ a b w) := by
  refine Ci.of (cc := cX5_hasSeen) (own := RX5) (nL := 2) (ret := (some .boolean)) (by decide +kernel) rfl rfl (Nat.le_of_ble_eq_true rfl) ?_
  intro p e s m args below meth c A Q H locs ls ha hAe hQ hx hb hml hr hts hown hlk hP hK hD hS hA hG hl
  have hh : Hd Γ p s m args c cX5_hasSeen RX5 2 wsX5_hasSeen A := ⟨⟨hx, hb, hml, hown, hts⟩, hK, hA, hG⟩
  have hl : lv_has ls 2 [(0, .ref (a b)), (1, .int k)] := hl
  refine lv_iload_n hx hb dX5_hasSeen_0 rfl (lv_at hl 1 rfl) ?_
  refine lv_if_lt (tgt := 23) hx hb dX5_hasSeen_1 (by decide) (fun c_1 => ?_) (fun c_1 => ?_)
  · -- yes
    refine lv_iconst (v := 0) hx hb dX5_hasSeen_23 (by decide) ?_
    exact re_z hQ ha hx hb hr hlk hAe hP hS dX5_hasSeen_24 rfl (by skip; first | rfl | simp [fSeen, c_1]) (by skip; first | rfl | simp [fSeen, c_1])
  · -- no
    refine lv_iload_n hx hb dX5_hasSeen_4 rfl (lv_at hl 1 rfl) ?_
    refine lv_iconst (v := 4) hx hb dX5_hasSeen_5 (by decide) ?_
    refine lv_icmp_ge (tgt := 23) hx hb dX5_hasSeen_6 (by decide) (fun c_6 => ?_) (fun c_6 => ?_)
    · -- yes
      refine lv_iconst (v := 0) hx hb dX5_hasSeen_23 (by decide) ?_
      exact re_z hQ ha hx hb hr hlk hAe hP hS dX5_hasSeen_24 rfl (by skip; first | rfl | simp [fSeen, c_1, c_6]) (by skip; first | rfl | simp [fSeen, c_1, c_6])
    · -- no
      refine lv_aload_n hx hb dX5_hasSeen_9 rfl (lv_at hl 0 rfl) ?_
      refine va_get (D := gD Γ) (cl := vwCl) (tys := gTy Γ) (ci := 5) (v := .ref (a (b + 4))) (C := RX5) (T := TX5) (N := 5) hx hb hts iX5_hasSeen_5 hown hK hP 0 rfl rfl 3 (Nat.le_of_ble_eq_true rfl) (hts (.fieldLink RX5 21 "DeadTimeLoop$Watches" "greatestTick" "[I") (List.mem_of_getElem? (i := 1) rfl)) (fun _ h9 => h9) rfl dX5_hasSeen_10 ?_
      refine lv_iload_n hx hb dX5_hasSeen_13 rfl (lv_at hl 1 rfl) ?_
      refine ka_iald (D := gD Γ) (cl := vwCl) (tys := gTy Γ) hx hb hK hP 4 0 rfl rfl (k.toNatClampNeg) (nI_of_in (in_rng (n := 4) (by decide) c_1 c_6) (by decide)) (in_lt (in_rng (n := 4) (by decide) c_1 c_6)) (by decide) (v := ((wGtick w) k.toNatClampNeg)) rfl dX5_hasSeen_14 ?_
      refine lv_iconst (v := (-1)) hx hb dX5_hasSeen_15 (by decide) ?_
      refine lv_icmp_eq (tgt := 23) hx hb dX5_hasSeen_16 (by decide) (fun c_16 => ?_) (fun c_16 => ?_)
      · -- yes
        refine lv_iconst (v := 0) hx hb dX5_hasSeen_23 (by decide) ?_
        exact re_z hQ ha hx hb hr hlk hAe hP hS dX5_hasSeen_24 rfl (by skip; first | rfl | simp [fSeen, c_1, c_6, c_16]) (by skip; first | rfl | simp [fSeen, c_1, c_6, c_16])
      · -- no
        refine lv_iconst (v := 1) hx hb dX5_hasSeen_19 (by decide) ?_
        refine lv_goto (tgt := 24) hx hb dX5_hasSeen_20 (by decide) ?_
        exact re_z hQ ha hx hb hr hlk hAe hP hS dX5_hasSeen_24 rfl (by skip; first | rfl | simp [fSeen, c_1, c_6, c_16]) (by skip; first | rfl | simp [fSeen, c_1, c_6, c_16])
def rm_X5_seeOne : Room := { frames := 1, cells := 0, slots := 0, locals := 21 }
theorem iX5_seeOne_5 : ∀ w ∈ u_ws RX5 TX5 5, w ∈ wsX5_seeOne := fun w h => (List.mem_cons_of_mem _ (List.mem_append_right _ h))
set_option maxHeartbeats 1000000 in
set_option maxRecDepth 100000 in
theorem c_X5_seeOne (Γ : gT) (l : Launch) (a : Nat → Nat) (b : Nat) (w : Wat) (k : Int32) (v : Int32) (tick : Int32) (hk : vp_in k 4) : Cv Γ l yX5_seeOne wsX5_seeOne rm_X5_seeOne [.ref (a b), .int k, .int v, .int tick] (watW Γ a b w) (watW Γ a b (fSeeOne w k v tick)) := by
  refine Cv.of (cc := cX5_seeOne) (own := RX5) (nL := 5) (ret := none) (by decide +kernel) rfl rfl (Nat.le_of_ble_eq_true rfl) ?_
  intro p e s m args below meth c A Q H locs ls ha hAe hQ hx hb hml hr hts hown hlk hP hK hD hS hA hG hl
  have hh : Hd Γ p s m args c cX5_seeOne RX5 5 wsX5_seeOne A := ⟨⟨hx, hb, hml, hown, hts⟩, hK, hA, hG⟩
  have hl : lv_has ls 5 [(0, .ref (a b)), (1, .int k), (2, .int v), (3, .int tick)] := hl
  refine lv_aload_n hx hb dX5_seeOne_0 rfl (lv_at hl 0 rfl) ?_
  refine lv_iload_n hx hb dX5_seeOne_1 rfl (lv_at hl 1 rfl) ?_
  refine ca_Via hh hl.1 (c_X5_hasSeen Γ l a b w k) (cwV 1 hts gX5_seeOne_X5_hasSeen rfl rfl rfl (by decide +kernel) ⟨(Nat.le_of_ble_eq_true rfl), (Nat.le_of_ble_eq_true rfl)⟩) (As := [.int k]) (rest := []) rfl dX5_seeOne_2 rfl (Nat.le_of_ble_eq_true rfl) hP hD hS (q0 := 0) (ci := 5) rfl rfl rfl (wf := watW Γ a b w) rfl ⟨Nat.zero_le _, Nat.zero_le _⟩ (fun H locs hP hD hS => ?_)
  refine lv_if_ne (tgt := 12) hx hb dX5_seeOne_5 (by decide) (fun c_5 => ?_) (fun c_5 => ?_)
  · -- yes
    refine lv_iconst (v := 0) hx hb dX5_seeOne_12 (by decide) ?_
    refine lv_istore (lv' := [(4, .int 0), (0, .ref (a b)), (1, .int k), (2, .int v), (3, .int tick)]) hx hb dX5_seeOne_13 hl (by decide) rfl (fun ls hl => ?_)
    refine lv_iload hx hb dX5_seeOne_15 (lv_at hl 0 rfl) ?_
    refine lv_if_ne (tgt := 30) hx hb dX5_seeOne_17 (by decide) (fun c => (c (by decide)).elim) (fun _ => ?_)
    refine lv_iload_n hx hb dX5_seeOne_20 rfl (lv_at hl 3 rfl) ?_
    refine lv_aload_n hx hb dX5_seeOne_21 rfl (lv_at hl 1 rfl) ?_
    refine va_get (D := gD Γ) (cl := vwCl) (tys := gTy Γ) (ci := 5) (v := .ref (a (b + 2))) (C := RX5) (T := TX5) (N := 5) hx hb hts iX5_seeOne_5 hown hK hP 0 rfl rfl 1 (Nat.le_of_ble_eq_true rfl) (hts (.fieldLink RX5 15 "DeadTimeLoop$Watches" "least" "[I") (List.mem_of_getElem? (i := 1) rfl)) (fun _ h9 => h9) rfl dX5_seeOne_22 ?_
    refine lv_iload_n hx hb dX5_seeOne_25 rfl (lv_at hl 2 rfl) ?_
    refine ka_iald (D := gD Γ) (cl := vwCl) (tys := gTy Γ) hx hb hK hP 2 0 rfl rfl (k.toNatClampNeg) (nI_of_in hk (by decide)) (in_lt hk) (by decide) (v := ((wLeast w) k.toNatClampNeg)) rfl dX5_seeOne_26 ?_
    refine lv_icmp_ge (tgt := 37) hx hb dX5_seeOne_27 (by decide) (fun c_27 => ?_) (fun c_27 => ?_)
    · -- yes
      refine lv_iload hx hb dX5_seeOne_37 (lv_at hl 0 rfl) ?_
      refine lv_if_ne (tgt := 52) hx hb dX5_seeOne_39 (by decide) (fun c => (c (by decide)).elim) (fun _ => ?_)
      refine lv_iload_n hx hb dX5_seeOne_42 rfl (lv_at hl 3 rfl) ?_
      refine lv_aload_n hx hb dX5_seeOne_43 rfl (lv_at hl 1 rfl) ?_
      refine va_get (D := gD Γ) (cl := vwCl) (tys := gTy Γ) (ci := 5) (v := .ref (a (b + 3))) (C := RX5) (T := TX5) (N := 5) hx hb hts iX5_seeOne_5 hown hK hP 0 rfl rfl 2 (Nat.le_of_ble_eq_true rfl) (hts (.fieldLink RX5 18 "DeadTimeLoop$Watches" "greatest" "[I") (List.mem_of_getElem? (i := 2) rfl)) (fun _ h9 => h9) rfl dX5_seeOne_44 ?_
      refine lv_iload_n hx hb dX5_seeOne_47 rfl (lv_at hl 2 rfl) ?_
      refine ka_iald (D := gD Γ) (cl := vwCl) (tys := gTy Γ) hx hb hK hP 3 0 rfl rfl (k.toNatClampNeg) (nI_of_in hk (by decide)) (in_lt hk) (by decide) (v := ((wGreat w) k.toNatClampNeg)) rfl dX5_seeOne_48 ?_
      refine lv_icmp_le (tgt := 66) hx hb dX5_seeOne_49 (by decide) (fun c_49 => ?_) (fun c_49 => ?_)
      · -- yes
        exact re_v hQ ha hx hb hr hlk hAe hP hS dX5_seeOne_66 (by skip; first | rfl | simp [fSeeOne, fSeeOne1, fFirst, fSeeLo, fSeeHi, fSeeGt, c_5, c_27, c_49])
      · -- no
        refine lv_aload_n hx hb dX5_seeOne_52 rfl (lv_at hl 1 rfl) ?_
        refine va_get (D := gD Γ) (cl := vwCl) (tys := gTy Γ) (ci := 5) (v := .ref (a (b + 3))) (C := RX5) (T := TX5) (N := 5) hx hb hts iX5_seeOne_5 hown hK hP 0 rfl rfl 2 (Nat.le_of_ble_eq_true rfl) (hts (.fieldLink RX5 18 "DeadTimeLoop$Watches" "greatest" "[I") (List.mem_of_getElem? (i := 2) rfl)) (fun _ h9 => h9) rfl dX5_seeOne_53 ?_
        refine lv_iload_n hx hb dX5_seeOne_56 rfl (lv_at hl 2 rfl) ?_
        refine lv_iload_n hx hb dX5_seeOne_57 rfl (lv_at hl 3 rfl) ?_
        refine ka_iast (D := gD Γ) (cl := vwCl) (tys := gTy Γ) hx hb hK hP hD hS 3 0 rfl rfl (k.toNatClampNeg) (nI_of_in hk (by decide)) (in_lt hk) (by decide) (wf := watW Γ a b ((wSig w), (wLeast w), (upd (wGreat w) k.toNatClampNeg v), (wGtick w), (wCnt w))) rfl dX5_seeOne_58 (fun H locs hP hD hS => ?_)
        refine lv_aload_n hx hb dX5_seeOne_59 rfl (lv_at hl 1 rfl) ?_
        refine va_get (D := gD Γ) (cl := vwCl) (tys := gTy Γ) (ci := 5) (v := .ref (a (b + 4))) (C := RX5) (T := TX5) (N := 5) hx hb hts iX5_seeOne_5 hown hK hP 0 rfl rfl 3 (Nat.le_of_ble_eq_true rfl) (hts (.fieldLink RX5 21 "DeadTimeLoop$Watches" "greatestTick" "[I") (List.mem_of_getElem? (i := 3) rfl)) (fun _ h9 => h9) rfl dX5_seeOne_60 ?_
        refine lv_iload_n hx hb dX5_seeOne_63 rfl (lv_at hl 2 rfl) ?_
        refine lv_iload_n hx hb dX5_seeOne_64 rfl (lv_at hl 4 rfl) ?_
        refine ka_iast (D := gD Γ) (cl := vwCl) (tys := gTy Γ) hx hb hK hP hD hS 4 0 rfl rfl (k.toNatClampNeg) (nI_of_in hk (by decide)) (in_lt hk) (by decide) (wf := watW Γ a b ((wSig w), (wLeast w), (upd (wGreat w) k.toNatClampNeg v), (upd (wGtick w) k.toNatClampNeg tick), (wCnt w))) rfl dX5_seeOne_65 (fun H locs hP hD hS => ?_)
        exact re_v hQ ha hx hb hr hlk hAe hP hS dX5_seeOne_66 (by skip; first | rfl | simp [fSeeOne, fSeeOne1, fFirst, fSeeLo, fSeeHi, fSeeGt, c_5, c_27, c_49])
    · -- no
      refine lv_aload_n hx hb dX5_seeOne_30 rfl (lv_at hl 1 rfl) ?_
      refine va_get (D := gD Γ) (cl := vwCl) (tys := gTy Γ) (ci := 5) (v := .ref (a (b + 2))) (C := RX5) (T := TX5) (N := 5) hx hb hts iX5_seeOne_5 hown hK hP 0 rfl rfl 1 (Nat.le_of_ble_eq_true rfl) (hts (.fieldLink RX5 15 "DeadTimeLoop$Watches" "least" "[I") (List.mem_of_getElem? (i := 1) rfl)) (fun _ h9 => h9) rfl dX5_seeOne_31 ?_
      refine lv_iload_n hx hb dX5_seeOne_34 rfl (lv_at hl 2 rfl) ?_
      refine lv_iload_n hx hb dX5_seeOne_35 rfl (lv_at hl 3 rfl) ?_
      refine ka_iast (D := gD Γ) (cl := vwCl) (tys := gTy Γ) hx hb hK hP hD hS 2 0 rfl rfl (k.toNatClampNeg) (nI_of_in hk (by decide)) (in_lt hk) (by decide) (wf := watW Γ a b ((wSig w), (upd (wLeast w) k.toNatClampNeg v), (wGreat w), (wGtick w), (wCnt w))) rfl dX5_seeOne_36 (fun H locs hP hD hS => ?_)
      refine lv_iload hx hb dX5_seeOne_37 (lv_at hl 0 rfl) ?_
      refine lv_if_ne (tgt := 52) hx hb dX5_seeOne_39 (by decide) (fun c => (c (by decide)).elim) (fun _ => ?_)
      refine lv_iload_n hx hb dX5_seeOne_42 rfl (lv_at hl 3 rfl) ?_
      refine lv_aload_n hx hb dX5_seeOne_43 rfl (lv_at hl 1 rfl) ?_
      refine va_get (D := gD Γ) (cl := vwCl) (tys := gTy Γ) (ci := 5) (v := .ref (a (b + 3))) (C := RX5) (T := TX5) (N := 5) hx hb hts iX5_seeOne_5 hown hK hP 0 rfl rfl 2 (Nat.le_of_ble_eq_true rfl) (hts (.fieldLink RX5 18 "DeadTimeLoop$Watches" "greatest" "[I") (List.mem_of_getElem? (i := 2) rfl)) (fun _ h9 => h9) rfl dX5_seeOne_44 ?_
      refine lv_iload_n hx hb dX5_seeOne_47 rfl (lv_at hl 2 rfl) ?_
      refine ka_iald (D := gD Γ) (cl := vwCl) (tys := gTy Γ) hx hb hK hP 3 0 rfl rfl (k.toNatClampNeg) (nI_of_in hk (by decide)) (in_lt hk) (by decide) (v := ((wGreat w) k.toNatClampNeg)) rfl dX5_seeOne_48 ?_
      refine lv_icmp_le (tgt := 66) hx hb dX5_seeOne_49 (by decide) (fun c_49b => ?_) (fun c_49b => ?_)
      · -- yes
        exact re_v hQ ha hx hb hr hlk hAe hP hS dX5_seeOne_66 (by skip; first | rfl | simp [fSeeOne, fSeeOne1, fFirst, fSeeLo, fSeeHi, fSeeGt, c_5, c_27, c_49b])
      · -- no
        refine lv_aload_n hx hb dX5_seeOne_52 rfl (lv_at hl 1 rfl) ?_
        refine va_get (D := gD Γ) (cl := vwCl) (tys := gTy Γ) (ci := 5) (v := .ref (a (b + 3))) (C := RX5) (T := TX5) (N := 5) hx hb hts iX5_seeOne_5 hown hK hP 0 rfl rfl 2 (Nat.le_of_ble_eq_true rfl) (hts (.fieldLink RX5 18 "DeadTimeLoop$Watches" "greatest" "[I") (List.mem_of_getElem? (i := 2) rfl)) (fun _ h9 => h9) rfl dX5_seeOne_53 ?_
        refine lv_iload_n hx hb dX5_seeOne_56 rfl (lv_at hl 2 rfl) ?_
        refine lv_iload_n hx hb dX5_seeOne_57 rfl (lv_at hl 3 rfl) ?_
        refine ka_iast (D := gD Γ) (cl := vwCl) (tys := gTy Γ) hx hb hK hP hD hS 3 0 rfl rfl (k.toNatClampNeg) (nI_of_in hk (by decide)) (in_lt hk) (by decide) (wf := watW Γ a b ((wSig w), (upd (wLeast w) k.toNatClampNeg v), (upd (wGreat w) k.toNatClampNeg v), (wGtick w), (wCnt w))) rfl dX5_seeOne_58 (fun H locs hP hD hS => ?_)
        refine lv_aload_n hx hb dX5_seeOne_59 rfl (lv_at hl 1 rfl) ?_
        refine va_get (D := gD Γ) (cl := vwCl) (tys := gTy Γ) (ci := 5) (v := .ref (a (b + 4))) (C := RX5) (T := TX5) (N := 5) hx hb hts iX5_seeOne_5 hown hK hP 0 rfl rfl 3 (Nat.le_of_ble_eq_true rfl) (hts (.fieldLink RX5 21 "DeadTimeLoop$Watches" "greatestTick" "[I") (List.mem_of_getElem? (i := 3) rfl)) (fun _ h9 => h9) rfl dX5_seeOne_60 ?_
        refine lv_iload_n hx hb dX5_seeOne_63 rfl (lv_at hl 2 rfl) ?_
        refine lv_iload_n hx hb dX5_seeOne_64 rfl (lv_at hl 4 rfl) ?_
        refine ka_iast (D := gD Γ) (cl := vwCl) (tys := gTy Γ) hx hb hK hP hD hS 4 0 rfl rfl (k.toNatClampNeg) (nI_of_in hk (by decide)) (in_lt hk) (by decide) (wf := watW Γ a b ((wSig w), (upd (wLeast w) k.toNatClampNeg v), (upd (wGreat w) k.toNatClampNeg v), (upd (wGtick w) k.toNatClampNeg tick), (wCnt w))) rfl dX5_seeOne_65 (fun H locs hP hD hS => ?_)
        exact re_v hQ ha hx hb hr hlk hAe hP hS dX5_seeOne_66 (by skip; first | rfl | simp [fSeeOne, fSeeOne1, fFirst, fSeeLo, fSeeHi, fSeeGt, c_5, c_27, c_49b])
  · -- no
    refine lv_iconst (v := 1) hx hb dX5_seeOne_8 (by decide) ?_
    refine lv_goto (tgt := 13) hx hb dX5_seeOne_9 (by decide) ?_
    refine lv_istore (lv' := [(4, .int 1), (0, .ref (a b)), (1, .int k), (2, .int v), (3, .int tick)]) hx hb dX5_seeOne_13 hl (by decide) rfl (fun ls hl => ?_)
    refine lv_iload hx hb dX5_seeOne_15 (lv_at hl 0 rfl) ?_
    refine lv_if_ne (tgt := 30) hx hb dX5_seeOne_17 (by decide) (fun _ => ?_) (fun c => absurd c (by decide))
    refine lv_aload_n hx hb dX5_seeOne_30 rfl (lv_at hl 1 rfl) ?_
    refine va_get (D := gD Γ) (cl := vwCl) (tys := gTy Γ) (ci := 5) (v := .ref (a (b + 2))) (C := RX5) (T := TX5) (N := 5) hx hb hts iX5_seeOne_5 hown hK hP 0 rfl rfl 1 (Nat.le_of_ble_eq_true rfl) (hts (.fieldLink RX5 15 "DeadTimeLoop$Watches" "least" "[I") (List.mem_of_getElem? (i := 1) rfl)) (fun _ h9 => h9) rfl dX5_seeOne_31 ?_
    refine lv_iload_n hx hb dX5_seeOne_34 rfl (lv_at hl 2 rfl) ?_
    refine lv_iload_n hx hb dX5_seeOne_35 rfl (lv_at hl 3 rfl) ?_
    refine ka_iast (D := gD Γ) (cl := vwCl) (tys := gTy Γ) hx hb hK hP hD hS 2 0 rfl rfl (k.toNatClampNeg) (nI_of_in hk (by decide)) (in_lt hk) (by decide) (wf := watW Γ a b ((wSig w), (upd (wLeast w) k.toNatClampNeg v), (wGreat w), (wGtick w), (wCnt w))) rfl dX5_seeOne_36 (fun H locs hP hD hS => ?_)
    refine lv_iload hx hb dX5_seeOne_37 (lv_at hl 0 rfl) ?_
    refine lv_if_ne (tgt := 52) hx hb dX5_seeOne_39 (by decide) (fun _ => ?_) (fun c => absurd c (by decide))
    refine lv_aload_n hx hb dX5_seeOne_52 rfl (lv_at hl 1 rfl) ?_
    refine va_get (D := gD Γ) (cl := vwCl) (tys := gTy Γ) (ci := 5) (v := .ref (a (b + 3))) (C := RX5) (T := TX5) (N := 5) hx hb hts iX5_seeOne_5 hown hK hP 0 rfl rfl 2 (Nat.le_of_ble_eq_true rfl) (hts (.fieldLink RX5 18 "DeadTimeLoop$Watches" "greatest" "[I") (List.mem_of_getElem? (i := 2) rfl)) (fun _ h9 => h9) rfl dX5_seeOne_53 ?_
    refine lv_iload_n hx hb dX5_seeOne_56 rfl (lv_at hl 2 rfl) ?_
    refine lv_iload_n hx hb dX5_seeOne_57 rfl (lv_at hl 3 rfl) ?_
    refine ka_iast (D := gD Γ) (cl := vwCl) (tys := gTy Γ) hx hb hK hP hD hS 3 0 rfl rfl (k.toNatClampNeg) (nI_of_in hk (by decide)) (in_lt hk) (by decide) (wf := watW Γ a b ((wSig w), (upd (wLeast w) k.toNatClampNeg v), (upd (wGreat w) k.toNatClampNeg v), (wGtick w), (wCnt w))) rfl dX5_seeOne_58 (fun H locs hP hD hS => ?_)
    refine lv_aload_n hx hb dX5_seeOne_59 rfl (lv_at hl 1 rfl) ?_
    refine va_get (D := gD Γ) (cl := vwCl) (tys := gTy Γ) (ci := 5) (v := .ref (a (b + 4))) (C := RX5) (T := TX5) (N := 5) hx hb hts iX5_seeOne_5 hown hK hP 0 rfl rfl 3 (Nat.le_of_ble_eq_true rfl) (hts (.fieldLink RX5 21 "DeadTimeLoop$Watches" "greatestTick" "[I") (List.mem_of_getElem? (i := 3) rfl)) (fun _ h9 => h9) rfl dX5_seeOne_60 ?_
    refine lv_iload_n hx hb dX5_seeOne_63 rfl (lv_at hl 2 rfl) ?_
    refine lv_iload_n hx hb dX5_seeOne_64 rfl (lv_at hl 4 rfl) ?_
    refine ka_iast (D := gD Γ) (cl := vwCl) (tys := gTy Γ) hx hb hK hP hD hS 4 0 rfl rfl (k.toNatClampNeg) (nI_of_in hk (by decide)) (in_lt hk) (by decide) (wf := watW Γ a b ((wSig w), (upd (wLeast w) k.toNatClampNeg v), (upd (wGreat w) k.toNatClampNeg v), (upd (wGtick w) k.toNatClampNeg tick), (wCnt w))) rfl dX5_seeOne_65 (fun H locs hP hD hS => ?_)
    exact re_v hQ ha hx hb hr hlk hAe hP hS dX5_seeOne_66 (by skip; first | rfl | simp [fSeeOne, fSeeOne1, fFirst, fSeeLo, fSeeHi, fSeeGt, c_5])
def rm_X5_see : Room := { frames := 2, cells := 0, slots := 0, locals := 45 }
theorem iX5_see_5 : ∀ w ∈ u_ws RX5 TX5 5, w ∈ wsX5_see := fun w h => (List.mem_cons_of_mem _ (List.mem_append_right _ h))
set_option maxHeartbeats 1000000 in
set_option maxRecDepth 100000 in
theorem c_X5_see (Γ : gT) (l : Launch) (a : Nat → Nat) (b : Nat) (a2 : Nat → Nat) (b2 : Nat) (w : Wat) (pv : Nat → Int32) (tick : Int32)  : Cv Γ l yX5_see wsX5_see rm_X5_see [.ref (a b), .ref (a2 b2), .int tick] (watW Γ a b w ++ arrP Γ a2 b2 pv) (watW Γ a b (fWsee w pv tick) ++ arrP Γ a2 b2 pv) := by
  refine Cv.of (cc := cX5_see) (own := RX5) (nL := 5) (ret := none) (by decide +kernel) rfl rfl (Nat.le_of_ble_eq_true rfl) ?_
  intro p e s m args below meth c A Q H locs ls ha hAe hQ hx hb hml hr hts hown hlk hP hK hD hS hA hG hl
  have hh : Hd Γ p s m args c cX5_see RX5 5 wsX5_see A := ⟨⟨hx, hb, hml, hown, hts⟩, hK, hA, hG⟩
  have hl : lv_has ls 5 [(0, .ref (a b)), (1, .ref (a2 b2)), (2, .int tick)] := hl
  refine lv_iconst (v := 0) hx hb dX5_see_0 (by decide) ?_
  refine lv_istore_n (lv' := [(3, .int 0), (0, .ref (a b)), (1, .ref (a2 b2)), (2, .int tick)]) hx hb dX5_see_1 rfl hl (by decide) rfl (fun ls hl => ?_)
  have hJ_2 : ∀ n : Nat, ∀ (i : Nat) (x : Int32) (w1 : Wat), (x = nI i) → (i ≤ 4) → (5 ≤ i + n) → (fWseeN pv tick n i w1 = fWsee w pv tick) → ∀ (H : Heap) (locs : List Loc) (ls : Array Slot), va_P (gD Γ) vwCl (watW Γ a b w1 ++ arrP Γ a2 b2 pv) H → va_D A (watW Γ a b w1 ++ arrP Γ a2 b2 pv) → va_S A s.heap H locs → lv_has ls 5 [(0, .ref (a b)), (1, .ref (a2 b2)), (2, .int tick), (3, .int x)] → W p l e rm_X5_see s m args below meth c H locs 0 0 Q (F0 m 2 ls []) := by
    intro n
    induction n with
    | zero =>
      intro i x w1 ex hi hn hg
      omega
    | succ n ih =>
      intro i x w1 ex hi hn hg H locs ls hP hD hS hl
      refine lv_iload_n hx hb dX5_see_2 rfl (lv_at hl 3 rfl) ?_
      refine lv_aload_n hx hb dX5_see_3 rfl (lv_at hl 0 rfl) ?_
      refine va_get (D := gD Γ) (cl := vwCl) (tys := gTy Γ) (ci := 5) (v := .int (wCnt w1)) (C := RX5) (T := TX5) (N := 5) hx hb hts iX5_see_5 hown hK hP 0 rfl rfl 4 (Nat.le_of_ble_eq_true rfl) (hts (.fieldLink RX5 24 "DeadTimeLoop$Watches" "count" "I") (List.mem_of_getElem? (i := 1) rfl)) (fun _ h9 => h9) rfl dX5_see_4 ?_
      refine lv_icmp_ge (tgt := 51) hx hb dX5_see_7 (by decide) (fun c_7 => ?_) (fun c_7 => ?_)
      · -- yes
        exact re_v hQ ha hx hb hr hlk hAe hP hS dX5_see_51 (by subst ex; rw [← hg]; simp [fWseeN, c_7])
      · -- no
        refine lv_iload_n hx hb dX5_see_10 rfl (lv_at hl 3 rfl) ?_
        refine lv_iconst (v := 4) hx hb dX5_see_11 (by decide) ?_
        refine lv_icmp_ge (tgt := 51) hx hb dX5_see_12 (by decide) (fun c_12 => ?_) (fun c_12 => ?_)
        · -- yes
          exact re_v hQ ha hx hb hr hlk hAe hP hS dX5_see_51 (by subst ex; rw [← hg]; simp [fWseeN, c_7, c_12])
        · -- no
          refine lv_aload_n hx hb dX5_see_15 rfl (lv_at hl 0 rfl) ?_
          refine va_get (D := gD Γ) (cl := vwCl) (tys := gTy Γ) (ci := 5) (v := .ref (a (b + 1))) (C := RX5) (T := TX5) (N := 5) hx hb hts iX5_see_5 hown hK hP 0 rfl rfl 0 (Nat.le_of_ble_eq_true rfl) (hts (.fieldLink RX5 9 "DeadTimeLoop$Watches" "signals" "[I") (List.mem_of_getElem? (i := 2) rfl)) (fun _ h9 => h9) rfl dX5_see_16 ?_
          refine lv_iload_n hx hb dX5_see_19 rfl (lv_at hl 3 rfl) ?_
          refine ka_iald (D := gD Γ) (cl := vwCl) (tys := gTy Γ) hx hb hK hP 1 0 rfl rfl i ex (lt_of_nle (by rw [← ex]; exact c_12) (by omega) (by decide)) (by decide) (v := ((wSig w1) i)) rfl dX5_see_20 ?_
          refine lv_istore (lv' := [(4, .int ((wSig w1) i)), (0, .ref (a b)), (1, .ref (a2 b2)), (2, .int tick), (3, .int x)]) hx hb dX5_see_21 hl (by decide) rfl (fun ls hl => ?_)
          refine lv_iload hx hb dX5_see_23 (lv_at hl 0 rfl) ?_
          refine lv_if_lt (tgt := 45) hx hb dX5_see_25 (by decide) (fun c_25 => ?_) (fun c_25 => ?_)
          · -- yes
            refine lv_iinc (v := (x + 1)) (lv' := [(3, .int (x + 1)), (4, .int ((wSig w1) i)), (0, .ref (a b)), (1, .ref (a2 b2)), (2, .int tick)]) hx hb dX5_see_45 hl (k := 4) rfl rfl (by decide) rfl (fun ls hl => ?_)
            refine lv_goto (tgt := 2) hx hb dX5_see_48 (by decide) ?_
            exact ih (i + 1) _ w1 (by rw [ex]; exact nI_1 i) (by have := lt_of_nle (k := 4) (by rw [← ex]; exact c_12) (by omega) (by decide); omega) (by omega) (by skip; rw [← hg]; subst ex; simp [fWseeN, fWsee1, c_7, c_12, c_25]) _ _ _ hP hD hS (lv_sub hl [2, 3, 4, 0] rfl)
          · -- no
            refine lv_iload hx hb dX5_see_28 (lv_at hl 0 rfl) ?_
            refine lv_aload_n hx hb dX5_see_30 rfl (lv_at hl 2 rfl) ?_
            refine va_alen (D := gD Γ) (cl := vwCl) (tys := gTy Γ) hx hb hK hP 5 0 rfl rfl (v := 10) rfl dX5_see_31 ?_
            refine lv_icmp_ge (tgt := 45) hx hb dX5_see_32 (by decide) (fun c_32 => ?_) (fun c_32 => ?_)
            · -- yes
              refine lv_iinc (v := (x + 1)) (lv' := [(3, .int (x + 1)), (4, .int ((wSig w1) i)), (0, .ref (a b)), (1, .ref (a2 b2)), (2, .int tick)]) hx hb dX5_see_45 hl (k := 4) rfl rfl (by decide) rfl (fun ls hl => ?_)
              refine lv_goto (tgt := 2) hx hb dX5_see_48 (by decide) ?_
              exact ih (i + 1) _ w1 (by rw [ex]; exact nI_1 i) (by have := lt_of_nle (k := 4) (by rw [← ex]; exact c_12) (by omega) (by decide); omega) (by omega) (by skip; rw [← hg]; subst ex; simp [fWseeN, fWsee1, c_7, c_12, c_25, c_32]) _ _ _ hP hD hS (lv_sub hl [2, 3, 4, 0] rfl)
            · -- no
              refine lv_aload_n hx hb dX5_see_35 rfl (lv_at hl 1 rfl) ?_
              refine lv_iload_n hx hb dX5_see_36 rfl (lv_at hl 4 rfl) ?_
              refine lv_aload_n hx hb dX5_see_37 rfl (lv_at hl 2 rfl) ?_
              refine lv_iload hx hb dX5_see_38 (lv_at hl 0 rfl) ?_
              refine ka_iald (D := gD Γ) (cl := vwCl) (tys := gTy Γ) hx hb hK hP 5 0 rfl rfl (((wSig w1) i).toNatClampNeg) (nI_of_in (in_rng (n := 10) (by decide) c_25 c_32) (by decide)) (in_lt (in_rng (n := 10) (by decide) c_25 c_32)) (by decide) (v := (pv (((wSig w1) i).toNatClampNeg))) rfl dX5_see_40 ?_
              refine lv_iload_n hx hb dX5_see_41 rfl (lv_at hl 3 rfl) ?_
              obtain ⟨u_42, eu_42⟩ : ∃ z : Wat, z = fSeeOne w1 x (pv (((wSig w1) i).toNatClampNeg)) tick := ⟨_, rfl⟩
              have hM_42 : Cv Γ l yX5_seeOne wsX5_seeOne rm_X5_seeOne [.ref (a b), .int x, .int (pv (((wSig w1) i).toNatClampNeg)), .int tick] (watW Γ a b w1) (watW Γ a b u_42) := by rw [eu_42]; exact c_X5_seeOne Γ l a b w1 x (pv (((wSig w1) i).toNatClampNeg)) tick (by rw [ex]; exact vp_in_nI (lt_of_nle (k := 4) (by rw [← ex]; exact c_12) (by omega) (by decide)) (by decide))
              refine ca_Vv hh hl.1 hM_42 (cwV 3 hts gX5_see_X5_seeOne rfl rfl rfl (by decide +kernel) ⟨(Nat.le_of_ble_eq_true rfl), (Nat.le_of_ble_eq_true rfl)⟩) (As := [.int x, .int (pv (((wSig w1) i).toNatClampNeg)), .int tick]) (rest := []) rfl dX5_see_42 rfl (Nat.le_of_ble_eq_true rfl) hP hD hS [0, 1, 2, 3, 4] rfl rfl (q0 := 0) (ci := 5) rfl rfl rfl 5 rfl rfl (wf := watW Γ a b u_42 ++ arrP Γ a2 b2 pv) rfl rfl ⟨Nat.zero_le _, Nat.zero_le _⟩ (fun H locs hP hD hS => ?_)
              refine lv_iinc (v := (x + 1)) (lv' := [(3, .int (x + 1)), (4, .int ((wSig w1) i)), (0, .ref (a b)), (1, .ref (a2 b2)), (2, .int tick)]) hx hb dX5_see_45 hl (k := 4) rfl rfl (by decide) rfl (fun ls hl => ?_)
              refine lv_goto (tgt := 2) hx hb dX5_see_48 (by decide) ?_
              exact ih (i + 1) _ u_42 (by rw [ex]; exact nI_1 i) (by have := lt_of_nle (k := 4) (by rw [← ex]; exact c_12) (by omega) (by decide); omega) (by omega) (by subst eu_42; rw [← hg]; subst ex; simp [fWseeN, fWsee1, c_7, c_12, c_25, c_32]) _ _ _ hP hD hS (lv_sub hl [2, 3, 4, 0] rfl)
  exact hJ_2 5 0 0 w rfl (by omega) (by omega) rfl _ _ _ hP hD hS (lv_sub hl [1, 2, 3, 0] rfl)
