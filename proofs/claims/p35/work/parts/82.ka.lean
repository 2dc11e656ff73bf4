def zI : Nat → Int32 := fun _ => 0
def zL : Nat → Int64 := fun _ => 0
def sett0 : Sett := va_cpy pInitial (fun _ => 0) 0 0 15
def sec0 : Sec := (0, 0, 0, 0, 1)
def wat0 : Wat := ((fun _ => 0), (fun _ => 0), (fun _ => 0), (fun _ => 0), 0)
def lop0 : Lop := (0, 0, 0, 0, 0, (fun _ => 0), (fun _ => 0), sec0, wat0)
def chg0 : Chg := ((fun _ _ => 0), 0)
def txt0 : Txt := ((fun _ => 0), (fun _ => 0), (fun _ => 0), 0, 0)
def x0 : Xst := (sett0, chg0, txt0, lop0, lop0, lop0, 0, sett0, sett0, lop0, lop0)
def m0 : Mst := ((fun _ => 0), (fun _ => 0), (fun _ => 0), 0, (fun _ => 0), (fun _ => 0), (fun _ => 0), 0, (fun _ => 0), (fun _ => 0), (fun _ => 0), 0, (fun _ => 0), (fun _ => 0), 0, 0, 0, 0)
theorem chgW_ext {Γ : gT} {a c : Nat → Nat} {b : Nat} (h : ∀ j : Nat, j < 8 → a (b + j) = c j) (x : Chg) : chgW Γ a b x = chgW Γ c 0 x := by
  unfold chgW
  have f : (fun i => if i < 6 then some (a (b + 2 + i)) else none) = (fun i => if i < 6 then some (c (0 + 2 + i)) else none) := by
    funext i
    by_cases hi : i < 6
    · rw [if_pos hi, if_pos hi, show b + 2 + i = b + (2 + i) by omega, h (2 + i) (by omega), Nat.zero_add]
    · rw [if_neg hi, if_neg hi]
  rw [f, show a b = c 0 from h 0 (by decide), h 1 (by decide), h 2 (by decide), h 3 (by decide), h 4 (by decide), h 5 (by decide), h 6 (by decide), h 7 (by decide)]
def rm_X2_init : Room := { frames := 1, cells := 0, slots := 0, locals := 28 }
theorem iX2_init_2 : ∀ w ∈ u_ws RX2 TX2 5, w ∈ wsX2_init := fun w h => (List.mem_cons_of_mem _ (List.mem_append_right _ h))
set_option maxHeartbeats 4000000 in
set_option maxRecDepth 100000 in
theorem c_X2_init (Γ : gT) (l : Launch) (h0 : Nat) : Cn Γ l yX2_init wsX2_init rm_X2_init h0 [(h0, .inr (2, [.long 0, .long 0, .int 0, .int 0, .int 0]))] 0 0 (fun a => secW Γ a 0 sec0) := by
  refine Cn.of (cc := cX2_init) (own := RX2) (nL := 1) (ret := none) (by decide +kernel) rfl rfl rfl (Nat.le_of_ble_eq_true rfl) ?_
  intro p e s m args below meth c A Q ls ha hAe hQ hx hb hml hr hts hown hlk hin hP hK hD hS hA hG hO hl
  obtain ⟨H, hHe⟩ : ∃ H : Heap, H = s.heap := ⟨_, rfl⟩
  rw [← hHe] at hP ⊢
  have hS : va_S A s.heap H [] := by rw [hHe]; exact hS
  have hh : Hd Γ p s m args c cX2_init RX2 1 wsX2_init A := ⟨⟨hx, hb, hml, hown, hts⟩, hK, hA, hG⟩
  refine lv_aload_n hx hb dX2_init_0 rfl (lv_at hl 0 rfl) ?_
  refine W.objInit hx hb hown (hts (.methodLink RX2 1 objectInit) (List.mem_of_getElem? (i := 1) rfl)) (hts (.instanceMethod objectInit) (List.mem_of_getElem? (i := 2) rfl)) (hts (.code objectInit ⟨#[0xb1]⟩ 1 none) (List.mem_of_getElem? (i := 3) rfl)) rfl (by rw [hml]; exact hl.1) rfl dX2_init_1 (Nat.le_of_ble_eq_true rfl) (Nat.le_of_ble_eq_true rfl) ?_
  refine W.eq (g2 := F0 m 4 ls []) rfl ?_
  refine lv_aload_n hx hb dX2_init_4 rfl (lv_at hl 0 rfl) ?_
  refine lv_lconst (v := 0) hx hb dX2_init_5 (by decide) ?_
  refine va_put (D := gD Γ) (cl := vwCl) (tys := gTy Γ) (ci := 2) (v := .long 0) (ty := tyX2 0) (C := RX2) (T := TX2) (N := 5) hx hb hts iX2_init_2 tyX2 tyX2_ok nmX2 hown hK hP hD hS 0 rfl rfl 0 (Nat.le_of_ble_eq_true rfl) (hts (.fieldLink RX2 7 "DeadTimeLoop$Section" "errorSum" "J") (List.mem_of_getElem? (i := 4) rfl)) (fun _ h9 => h9) rfl (tyX2_ok 0 (Nat.le_of_ble_eq_true rfl)) rfl rfl (Nat.le_of_ble_eq_true rfl) dX2_init_6 (fun H locs hP hD hS => ?_)
  have hP : va_P (gD Γ) vwCl ([(h0, .inr (2, [.long 0, .long 0, .int 0, .int 0, .int 0]))] : va_W) H := hP
  have hD : va_D A ([(h0, .inr (2, [.long 0, .long 0, .int 0, .int 0, .int 0]))] : va_W) := hD
  refine lv_aload_n hx hb dX2_init_9 rfl (lv_at hl 0 rfl) ?_
  refine lv_lconst (v := 0) hx hb dX2_init_10 (by decide) ?_
  refine va_put (D := gD Γ) (cl := vwCl) (tys := gTy Γ) (ci := 2) (v := .long 0) (ty := tyX2 1) (C := RX2) (T := TX2) (N := 5) hx hb hts iX2_init_2 tyX2 tyX2_ok nmX2 hown hK hP hD hS 0 rfl rfl 1 (Nat.le_of_ble_eq_true rfl) (hts (.fieldLink RX2 13 "DeadTimeLoop$Section" "effort" "J") (List.mem_of_getElem? (i := 5) rfl)) (fun _ h9 => h9) rfl (tyX2_ok 1 (Nat.le_of_ble_eq_true rfl)) rfl rfl (Nat.le_of_ble_eq_true rfl) dX2_init_11 (fun H locs hP hD hS => ?_)
  have hP : va_P (gD Γ) vwCl ([(h0, .inr (2, [.long 0, .long 0, .int 0, .int 0, .int 0]))] : va_W) H := hP
  have hD : va_D A ([(h0, .inr (2, [.long 0, .long 0, .int 0, .int 0, .int 0]))] : va_W) := hD
  refine lv_aload_n hx hb dX2_init_14 rfl (lv_at hl 0 rfl) ?_
  refine lv_iconst (v := 0) hx hb dX2_init_15 (by decide) ?_
  refine va_put (D := gD Γ) (cl := vwCl) (tys := gTy Γ) (ci := 2) (v := .int 0) (ty := tyX2 2) (C := RX2) (T := TX2) (N := 5) hx hb hts iX2_init_2 tyX2 tyX2_ok nmX2 hown hK hP hD hS 0 rfl rfl 2 (Nat.le_of_ble_eq_true rfl) (hts (.fieldLink RX2 16 "DeadTimeLoop$Section" "overshoot" "I") (List.mem_of_getElem? (i := 6) rfl)) (fun _ h9 => h9) rfl (tyX2_ok 2 (Nat.le_of_ble_eq_true rfl)) rfl rfl (Nat.le_of_ble_eq_true rfl) dX2_init_16 (fun H locs hP hD hS => ?_)
  have hP : va_P (gD Γ) vwCl ([(h0, .inr (2, [.long 0, .long 0, .int 0, .int 0, .int 0]))] : va_W) H := hP
  have hD : va_D A ([(h0, .inr (2, [.long 0, .long 0, .int 0, .int 0, .int 0]))] : va_W) := hD
  refine lv_aload_n hx hb dX2_init_19 rfl (lv_at hl 0 rfl) ?_
  refine lv_iconst (v := 0) hx hb dX2_init_20 (by decide) ?_
  refine va_put (D := gD Γ) (cl := vwCl) (tys := gTy Γ) (ci := 2) (v := .int 0) (ty := tyX2 3) (C := RX2) (T := TX2) (N := 5) hx hb hts iX2_init_2 tyX2 tyX2_ok nmX2 hown hK hP hD hS 0 rfl rfl 3 (Nat.le_of_ble_eq_true rfl) (hts (.fieldLink RX2 20 "DeadTimeLoop$Section" "ticks" "I") (List.mem_of_getElem? (i := 7) rfl)) (fun _ h9 => h9) rfl (tyX2_ok 3 (Nat.le_of_ble_eq_true rfl)) rfl rfl (Nat.le_of_ble_eq_true rfl) dX2_init_21 (fun H locs hP hD hS => ?_)
  have hP : va_P (gD Γ) vwCl ([(h0, .inr (2, [.long 0, .long 0, .int 0, .int 0, .int 0]))] : va_W) H := hP
  have hD : va_D A ([(h0, .inr (2, [.long 0, .long 0, .int 0, .int 0, .int 0]))] : va_W) := hD
  refine lv_aload_n hx hb dX2_init_24 rfl (lv_at hl 0 rfl) ?_
  refine lv_iconst (v := 1) hx hb dX2_init_25 (by decide) ?_
  refine va_put (D := gD Γ) (cl := vwCl) (tys := gTy Γ) (ci := 2) (v := .int 1) (ty := tyX2 4) (C := RX2) (T := TX2) (N := 5) hx hb hts iX2_init_2 tyX2 tyX2_ok nmX2 hown hK hP hD hS 0 rfl rfl 4 (Nat.le_of_ble_eq_true rfl) (hts (.fieldLink RX2 23 "DeadTimeLoop$Section" "upwards" "Z") (List.mem_of_getElem? (i := 8) rfl)) (fun _ h9 => h9) rfl (tyX2_ok 4 (Nat.le_of_ble_eq_true rfl)) rfl rfl (Nat.le_of_ble_eq_true rfl) dX2_init_26 (fun H locs hP hD hS => ?_)
  have hP : va_P (gD Γ) vwCl ([(h0, .inr (2, [.long 0, .long 0, .int 0, .int 0, .int 1]))] : va_W) H := hP
  have hD : va_D A ([(h0, .inr (2, [.long 0, .long 0, .int 0, .int 0, .int 1]))] : va_W) := hD
  exact re_c (fun j => ([h0] : List Nat).getD j 0) hQ ha hx hb hr hlk hAe rfl hP hD hS (Nat.le_of_ble_eq_true rfl) (Nat.le_of_ble_eq_true rfl) dX2_init_29
def rm_X5_init : Room := { frames := 1, cells := 4, slots := 16, locals := 28 }
theorem iX5_init_5 : ∀ w ∈ u_ws RX5 TX5 5, w ∈ wsX5_init := fun w h => (List.mem_cons_of_mem _ (List.mem_append_right _ h))
set_option maxHeartbeats 4000000 in
set_option maxRecDepth 100000 in
theorem c_X5_init (Γ : gT) (l : Launch) (h0 : Nat) : Cn Γ l yX5_init wsX5_init rm_X5_init h0 [(h0, .inr (5, [.null, .null, .null, .null, .int 0]))] 4 16 (fun a => watW Γ a 0 wat0) := by
  refine Cn.of (cc := cX5_init) (own := RX5) (nL := 1) (ret := none) (by decide +kernel) rfl rfl rfl (Nat.le_of_ble_eq_true rfl) ?_
  intro p e s m args below meth c A Q ls ha hAe hQ hx hb hml hr hts hown hlk hin hP hK hD hS hA hG hO hl
  obtain ⟨H, hHe⟩ : ∃ H : Heap, H = s.heap := ⟨_, rfl⟩
  rw [← hHe] at hP ⊢
  have hS : va_S A s.heap H [] := by rw [hHe]; exact hS
  have hh : Hd Γ p s m args c cX5_init RX5 1 wsX5_init A := ⟨⟨hx, hb, hml, hown, hts⟩, hK, hA, hG⟩
  refine lv_aload_n hx hb dX5_init_0 rfl (lv_at hl 0 rfl) ?_
  refine W.objInit hx hb hown (hts (.methodLink RX5 3 objectInit) (List.mem_of_getElem? (i := 1) rfl)) (hts (.instanceMethod objectInit) (List.mem_of_getElem? (i := 2) rfl)) (hts (.code objectInit ⟨#[0xb1]⟩ 1 none) (List.mem_of_getElem? (i := 3) rfl)) rfl (by rw [hml]; exact hl.1) rfl dX5_init_1 (Nat.le_of_ble_eq_true rfl) (Nat.le_of_ble_eq_true rfl) ?_
  refine W.eq (g2 := F0 m 4 ls []) rfl ?_
  refine lv_aload_n hx hb dX5_init_4 rfl (lv_at hl 0 rfl) ?_
  refine lv_iconst (v := 4) hx hb dX5_init_5 (by decide) ?_
  refine na_i (N := 4) hh (hts (.arrayClass .int) (List.mem_of_getElem? (i := 4) rfl)) hP hD hS (by decide) (by decide) (by decide) (Nat.le_of_ble_eq_true rfl) (Nat.le_of_ble_eq_true rfl) dX5_init_6 (fun q6 H hP hD hS => ?_)
  have hP : va_P (gD Γ) vwCl (([(h0, .inr (5, [.null, .null, .null, .null, .int 0]))] : va_W) ++ [(q6, .inl (cI Γ, 4, .inl (fun _ => 0)))]) H := hP
  have hD : va_D A (([(h0, .inr (5, [.null, .null, .null, .null, .int 0]))] : va_W) ++ [(q6, .inl (cI Γ, 4, .inl (fun _ => 0)))]) := hD
  refine va_putF (D := gD Γ) (cl := vwCl) (tys := gTy Γ) (ci := 5) (v := .ref q6) (ty := tyX5 0) (C := RX5) (T := TX5) (N := 5) hx hb hts iX5_init_5 tyX5 tyX5_ok nmX5 hown hK hP hD hS 0 rfl rfl 0 (Nat.le_of_ble_eq_true rfl) (hts (.fieldLink RX5 9 "DeadTimeLoop$Watches" "signals" "[I") (List.mem_of_getElem? (i := 5) rfl)) (fun _ h9 => h9) rfl hin rfl (tyX5_ok 0 (Nat.le_of_ble_eq_true rfl)) rfl rfl (Nat.le_of_ble_eq_true rfl) dX5_init_8 (fun H locs hP hD hS => ?_)
  have hP : va_P (gD Γ) vwCl (([(h0, .inr (5, [.ref q6, .null, .null, .null, .int 0]))] : va_W) ++ [(q6, .inl (cI Γ, 4, .inl (fun _ => 0)))]) H := hP
  have hD : va_D A (([(h0, .inr (5, [.ref q6, .null, .null, .null, .int 0]))] : va_W) ++ [(q6, .inl (cI Γ, 4, .inl (fun _ => 0)))]) := hD
  refine lv_aload_n hx hb dX5_init_11 rfl (lv_at hl 0 rfl) ?_
  refine lv_iconst (v := 4) hx hb dX5_init_12 (by decide) ?_
  refine na_i (N := 4) hh (hts (.arrayClass .int) (List.mem_of_getElem? (i := 4) rfl)) hP hD hS (by decide) (by decide) (by decide) (Nat.le_of_ble_eq_true rfl) (Nat.le_of_ble_eq_true rfl) dX5_init_13 (fun q13 H hP hD hS => ?_)
  have hP : va_P (gD Γ) vwCl ((([(h0, .inr (5, [.ref q6, .null, .null, .null, .int 0]))] : va_W) ++ [(q6, .inl (cI Γ, 4, .inl (fun _ => 0)))]) ++ [(q13, .inl (cI Γ, 4, .inl (fun _ => 0)))]) H := hP
  have hD : va_D A ((([(h0, .inr (5, [.ref q6, .null, .null, .null, .int 0]))] : va_W) ++ [(q6, .inl (cI Γ, 4, .inl (fun _ => 0)))]) ++ [(q13, .inl (cI Γ, 4, .inl (fun _ => 0)))]) := hD
  refine va_putF (D := gD Γ) (cl := vwCl) (tys := gTy Γ) (ci := 5) (v := .ref q13) (ty := tyX5 1) (C := RX5) (T := TX5) (N := 5) hx hb hts iX5_init_5 tyX5 tyX5_ok nmX5 hown hK hP hD hS 0 rfl rfl 1 (Nat.le_of_ble_eq_true rfl) (hts (.fieldLink RX5 15 "DeadTimeLoop$Watches" "least" "[I") (List.mem_of_getElem? (i := 6) rfl)) (fun _ h9 => h9) rfl hin rfl (tyX5_ok 1 (Nat.le_of_ble_eq_true rfl)) rfl rfl (Nat.le_of_ble_eq_true rfl) dX5_init_15 (fun H locs hP hD hS => ?_)
  have hP : va_P (gD Γ) vwCl ((([(h0, .inr (5, [.ref q6, .ref q13, .null, .null, .int 0]))] : va_W) ++ [(q6, .inl (cI Γ, 4, .inl (fun _ => 0)))]) ++ [(q13, .inl (cI Γ, 4, .inl (fun _ => 0)))]) H := hP
  have hD : va_D A ((([(h0, .inr (5, [.ref q6, .ref q13, .null, .null, .int 0]))] : va_W) ++ [(q6, .inl (cI Γ, 4, .inl (fun _ => 0)))]) ++ [(q13, .inl (cI Γ, 4, .inl (fun _ => 0)))]) := hD
  refine lv_aload_n hx hb dX5_init_18 rfl (lv_at hl 0 rfl) ?_
  refine lv_iconst (v := 4) hx hb dX5_init_19 (by decide) ?_
  refine na_i (N := 4) hh (hts (.arrayClass .int) (List.mem_of_getElem? (i := 4) rfl)) hP hD hS (by decide) (by decide) (by decide) (Nat.le_of_ble_eq_true rfl) (Nat.le_of_ble_eq_true rfl) dX5_init_20 (fun q20 H hP hD hS => ?_)
  have hP : va_P (gD Γ) vwCl (((([(h0, .inr (5, [.ref q6, .ref q13, .null, .null, .int 0]))] : va_W) ++ [(q6, .inl (cI Γ, 4, .inl (fun _ => 0)))]) ++ [(q13, .inl (cI Γ, 4, .inl (fun _ => 0)))]) ++ [(q20, .inl (cI Γ, 4, .inl (fun _ => 0)))]) H := hP
  have hD : va_D A (((([(h0, .inr (5, [.ref q6, .ref q13, .null, .null, .int 0]))] : va_W) ++ [(q6, .inl (cI Γ, 4, .inl (fun _ => 0)))]) ++ [(q13, .inl (cI Γ, 4, .inl (fun _ => 0)))]) ++ [(q20, .inl (cI Γ, 4, .inl (fun _ => 0)))]) := hD
  refine va_putF (D := gD Γ) (cl := vwCl) (tys := gTy Γ) (ci := 5) (v := .ref q20) (ty := tyX5 2) (C := RX5) (T := TX5) (N := 5) hx hb hts iX5_init_5 tyX5 tyX5_ok nmX5 hown hK hP hD hS 0 rfl rfl 2 (Nat.le_of_ble_eq_true rfl) (hts (.fieldLink RX5 18 "DeadTimeLoop$Watches" "greatest" "[I") (List.mem_of_getElem? (i := 7) rfl)) (fun _ h9 => h9) rfl hin rfl (tyX5_ok 2 (Nat.le_of_ble_eq_true rfl)) rfl rfl (Nat.le_of_ble_eq_true rfl) dX5_init_22 (fun H locs hP hD hS => ?_)
  have hP : va_P (gD Γ) vwCl (((([(h0, .inr (5, [.ref q6, .ref q13, .ref q20, .null, .int 0]))] : va_W) ++ [(q6, .inl (cI Γ, 4, .inl (fun _ => 0)))]) ++ [(q13, .inl (cI Γ, 4, .inl (fun _ => 0)))]) ++ [(q20, .inl (cI Γ, 4, .inl (fun _ => 0)))]) H := hP
  have hD : va_D A (((([(h0, .inr (5, [.ref q6, .ref q13, .ref q20, .null, .int 0]))] : va_W) ++ [(q6, .inl (cI Γ, 4, .inl (fun _ => 0)))]) ++ [(q13, .inl (cI Γ, 4, .inl (fun _ => 0)))]) ++ [(q20, .inl (cI Γ, 4, .inl (fun _ => 0)))]) := hD
  refine lv_aload_n hx hb dX5_init_25 rfl (lv_at hl 0 rfl) ?_
  refine lv_iconst (v := 4) hx hb dX5_init_26 (by decide) ?_
  refine na_i (N := 4) hh (hts (.arrayClass .int) (List.mem_of_getElem? (i := 4) rfl)) hP hD hS (by decide) (by decide) (by decide) (Nat.le_of_ble_eq_true rfl) (Nat.le_of_ble_eq_true rfl) dX5_init_27 (fun q27 H hP hD hS => ?_)
  have hP : va_P (gD Γ) vwCl ((((([(h0, .inr (5, [.ref q6, .ref q13, .ref q20, .null, .int 0]))] : va_W) ++ [(q6, .inl (cI Γ, 4, .inl (fun _ => 0)))]) ++ [(q13, .inl (cI Γ, 4, .inl (fun _ => 0)))]) ++ [(q20, .inl (cI Γ, 4, .inl (fun _ => 0)))]) ++ [(q27, .inl (cI Γ, 4, .inl (fun _ => 0)))]) H := hP
  have hD : va_D A ((((([(h0, .inr (5, [.ref q6, .ref q13, .ref q20, .null, .int 0]))] : va_W) ++ [(q6, .inl (cI Γ, 4, .inl (fun _ => 0)))]) ++ [(q13, .inl (cI Γ, 4, .inl (fun _ => 0)))]) ++ [(q20, .inl (cI Γ, 4, .inl (fun _ => 0)))]) ++ [(q27, .inl (cI Γ, 4, .inl (fun _ => 0)))]) := hD
  refine va_putF (D := gD Γ) (cl := vwCl) (tys := gTy Γ) (ci := 5) (v := .ref q27) (ty := tyX5 3) (C := RX5) (T := TX5) (N := 5) hx hb hts iX5_init_5 tyX5 tyX5_ok nmX5 hown hK hP hD hS 0 rfl rfl 3 (Nat.le_of_ble_eq_true rfl) (hts (.fieldLink RX5 21 "DeadTimeLoop$Watches" "greatestTick" "[I") (List.mem_of_getElem? (i := 8) rfl)) (fun _ h9 => h9) rfl hin rfl (tyX5_ok 3 (Nat.le_of_ble_eq_true rfl)) rfl rfl (Nat.le_of_ble_eq_true rfl) dX5_init_29 (fun H locs hP hD hS => ?_)
  have hP : va_P (gD Γ) vwCl ((((([(h0, .inr (5, [.ref q6, .ref q13, .ref q20, .ref q27, .int 0]))] : va_W) ++ [(q6, .inl (cI Γ, 4, .inl (fun _ => 0)))]) ++ [(q13, .inl (cI Γ, 4, .inl (fun _ => 0)))]) ++ [(q20, .inl (cI Γ, 4, .inl (fun _ => 0)))]) ++ [(q27, .inl (cI Γ, 4, .inl (fun _ => 0)))]) H := hP
  have hD : va_D A ((((([(h0, .inr (5, [.ref q6, .ref q13, .ref q20, .ref q27, .int 0]))] : va_W) ++ [(q6, .inl (cI Γ, 4, .inl (fun _ => 0)))]) ++ [(q13, .inl (cI Γ, 4, .inl (fun _ => 0)))]) ++ [(q20, .inl (cI Γ, 4, .inl (fun _ => 0)))]) ++ [(q27, .inl (cI Γ, 4, .inl (fun _ => 0)))]) := hD
  refine lv_aload_n hx hb dX5_init_32 rfl (lv_at hl 0 rfl) ?_
  refine lv_iconst (v := 0) hx hb dX5_init_33 (by decide) ?_
  refine va_put (D := gD Γ) (cl := vwCl) (tys := gTy Γ) (ci := 5) (v := .int 0) (ty := tyX5 4) (C := RX5) (T := TX5) (N := 5) hx hb hts iX5_init_5 tyX5 tyX5_ok nmX5 hown hK hP hD hS 0 rfl rfl 4 (Nat.le_of_ble_eq_true rfl) (hts (.fieldLink RX5 24 "DeadTimeLoop$Watches" "count" "I") (List.mem_of_getElem? (i := 9) rfl)) (fun _ h9 => h9) rfl (tyX5_ok 4 (Nat.le_of_ble_eq_true rfl)) rfl rfl (Nat.le_of_ble_eq_true rfl) dX5_init_34 (fun H locs hP hD hS => ?_)
  have hP : va_P (gD Γ) vwCl ((((([(h0, .inr (5, [.ref q6, .ref q13, .ref q20, .ref q27, .int 0]))] : va_W) ++ [(q6, .inl (cI Γ, 4, .inl (fun _ => 0)))]) ++ [(q13, .inl (cI Γ, 4, .inl (fun _ => 0)))]) ++ [(q20, .inl (cI Γ, 4, .inl (fun _ => 0)))]) ++ [(q27, .inl (cI Γ, 4, .inl (fun _ => 0)))]) H := hP
  have hD : va_D A ((((([(h0, .inr (5, [.ref q6, .ref q13, .ref q20, .ref q27, .int 0]))] : va_W) ++ [(q6, .inl (cI Γ, 4, .inl (fun _ => 0)))]) ++ [(q13, .inl (cI Γ, 4, .inl (fun _ => 0)))]) ++ [(q20, .inl (cI Γ, 4, .inl (fun _ => 0)))]) ++ [(q27, .inl (cI Γ, 4, .inl (fun _ => 0)))]) := hD
  exact re_c (fun j => ([h0, q6, q13, q20, q27] : List Nat).getD j 0) hQ ha hx hb hr hlk hAe rfl hP hD hS (Nat.le_of_ble_eq_true rfl) (Nat.le_of_ble_eq_true rfl) dX5_init_37
def rm_X3_init : Room := { frames := 1, cells := 1, slots := 15, locals := 28 }
theorem iX3_init_3 : ∀ w ∈ u_ws RX3 TX3 1, w ∈ wsX3_init := fun w h => (List.mem_cons_of_mem _ (List.mem_append_right _ h))
set_option maxHeartbeats 4000000 in
set_option maxRecDepth 100000 in
theorem c_X3_init (Γ : gT) (l : Launch) (h0 : Nat) : Cn Γ l yX3_init wsX3_init rm_X3_init h0 [(h0, .inr (3, [.null]))] 1 15 (fun a => setW Γ a 0 sett0) := by
  refine Cn.of (cc := cX3_init) (own := RX3) (nL := 1) (ret := none) (by decide +kernel) rfl rfl rfl (Nat.le_of_ble_eq_true rfl) ?_
  intro p e s m args below meth c A Q ls ha hAe hQ hx hb hml hr hts hown hlk hin hP hK hD hS hA hG hO hl
  obtain ⟨H, hHe⟩ : ∃ H : Heap, H = s.heap := ⟨_, rfl⟩
  rw [← hHe] at hP ⊢
  have hS : va_S A s.heap H [] := by rw [hHe]; exact hS
  have hh : Hd Γ p s m args c cX3_init RX3 1 wsX3_init A := ⟨⟨hx, hb, hml, hown, hts⟩, hK, hA, hG⟩
  refine lv_aload_n hx hb dX3_init_0 rfl (lv_at hl 0 rfl) ?_
  refine W.objInit hx hb hown (hts (.methodLink RX3 3 objectInit) (List.mem_of_getElem? (i := 1) rfl)) (hts (.instanceMethod objectInit) (List.mem_of_getElem? (i := 2) rfl)) (hts (.code objectInit ⟨#[0xb1]⟩ 1 none) (List.mem_of_getElem? (i := 3) rfl)) rfl (by rw [hml]; exact hl.1) rfl dX3_init_1 (Nat.le_of_ble_eq_true rfl) (Nat.le_of_ble_eq_true rfl) ?_
  refine W.eq (g2 := F0 m 4 ls []) rfl ?_
  refine lv_aload_n hx hb dX3_init_4 rfl (lv_at hl 0 rfl) ?_
  refine lv_bipush (v := 15) hx hb dX3_init_5 (by decide) ?_
  refine na_i (N := 15) hh (hts (.arrayClass .int) (List.mem_of_getElem? (i := 4) rfl)) hP hD hS (by decide) (by decide) (by decide) (Nat.le_of_ble_eq_true rfl) (Nat.le_of_ble_eq_true rfl) dX3_init_7 (fun q7 H hP hD hS => ?_)
  have hP : va_P (gD Γ) vwCl (([(h0, .inr (3, [.null]))] : va_W) ++ [(q7, .inl (cI Γ, 15, .inl (fun _ => 0)))]) H := hP
  have hD : va_D A (([(h0, .inr (3, [.null]))] : va_W) ++ [(q7, .inl (cI Γ, 15, .inl (fun _ => 0)))]) := hD
  refine va_putF (D := gD Γ) (cl := vwCl) (tys := gTy Γ) (ci := 3) (v := .ref q7) (ty := tyX3 0) (C := RX3) (T := TX3) (N := 1) hx hb hts iX3_init_3 tyX3 tyX3_ok nmX3 hown hK hP hD hS 0 rfl rfl 0 (Nat.le_of_ble_eq_true rfl) (hts (.fieldLink RX3 9 "DeadTimeLoop$Settings" "values" "[I") (List.mem_of_getElem? (i := 5) rfl)) (fun _ h9 => h9) rfl hin rfl (tyX3_ok 0 (Nat.le_of_ble_eq_true rfl)) rfl rfl (Nat.le_of_ble_eq_true rfl) dX3_init_9 (fun H locs hP hD hS => ?_)
  have hP : va_P (gD Γ) vwCl (([(h0, .inr (3, [.ref q7]))] : va_W) ++ [(q7, .inl (cI Γ, 15, .inl (fun _ => 0)))]) H := hP
  have hD : va_D A (([(h0, .inr (3, [.ref q7]))] : va_W) ++ [(q7, .inl (cI Γ, 15, .inl (fun _ => 0)))]) := hD
  refine va_getsN hx hb hG.2.2.2.2.1.1 hS hown (va_Nw.use rfl hG.1.1) (fun _ h9 => h9) dX3_init_12 ?_
  refine lv_iconst (v := 0) hx hb dX3_init_15 (by decide) ?_
  refine lv_aload_n hx hb dX3_init_16 rfl (lv_at hl 0 rfl) ?_
  refine va_get (D := gD Γ) (cl := vwCl) (tys := gTy Γ) (ci := 3) (v := .ref q7) (C := RX3) (T := TX3) (N := 1) hx hb hts iX3_init_3 hown hK hP 0 rfl rfl 0 (Nat.le_of_ble_eq_true rfl) (hts (.fieldLink RX3 9 "DeadTimeLoop$Settings" "values" "[I") (List.mem_of_getElem? (i := 5) rfl)) (fun _ h9 => h9) rfl dX3_init_17 ?_
  refine lv_iconst (v := 0) hx hb dX3_init_20 (by decide) ?_
  refine lv_bipush (v := 15) hx hb dX3_init_21 (by decide) ?_
  refine ta_copy hh hl.1 (hts (.methodLink RX3 18 arraycopyName) (List.mem_of_getElem? (i := 6) rfl)) (hts (.native arraycopyName) (List.mem_of_getElem? (i := 7) rfl)) (hts (.static arraycopyName) (List.mem_of_getElem? (i := 8) rfl)) (hts (.initialized "java/lang/System") (List.mem_of_getElem? (i := 9) rfl)) hP hD hS hG.2.2.2.2.1.2 1 rfl (Nat.le_of_ble_eq_true rfl) (Nat.le_of_ble_eq_true rfl) dX3_init_23 (fun H locs hP hD hS => ?_)
  have hP : va_P (gD Γ) vwCl (([(h0, .inr (3, [.ref q7]))] : va_W) ++ [(q7, .inl (cI Γ, 15, .inl sett0))]) H := hP
  have hD : va_D A (([(h0, .inr (3, [.ref q7]))] : va_W) ++ [(q7, .inl (cI Γ, 15, .inl sett0))]) := hD
  exact re_c (fun j => ([h0, q7] : List Nat).getD j 0) hQ ha hx hb hr hlk hAe rfl hP hD hS (Nat.le_of_ble_eq_true rfl) (Nat.le_of_ble_eq_true rfl) dX3_init_26
def rm_X4_init : Room := { frames := 1, cells := 3, slots := 112, locals := 28 }
theorem iX4_init_4 : ∀ w ∈ u_ws RX4 TX4 5, w ∈ wsX4_init := fun w h => (List.mem_cons_of_mem _ (List.mem_append_right _ h))
set_option maxHeartbeats 4000000 in
set_option maxRecDepth 100000 in
theorem c_X4_init (Γ : gT) (l : Launch) (h0 : Nat) : Cn Γ l yX4_init wsX4_init rm_X4_init h0 [(h0, .inr (4, [.null, .null, .null, .int 0, .int 0]))] 3 112 (fun a => txtW Γ a 0 txt0) := by
  refine Cn.of (cc := cX4_init) (own := RX4) (nL := 1) (ret := none) (by decide +kernel) rfl rfl rfl (Nat.le_of_ble_eq_true rfl) ?_
  intro p e s m args below meth c A Q ls ha hAe hQ hx hb hml hr hts hown hlk hin hP hK hD hS hA hG hO hl
  obtain ⟨H, hHe⟩ : ∃ H : Heap, H = s.heap := ⟨_, rfl⟩
  rw [← hHe] at hP ⊢
  have hS : va_S A s.heap H [] := by rw [hHe]; exact hS
  have hh : Hd Γ p s m args c cX4_init RX4 1 wsX4_init A := ⟨⟨hx, hb, hml, hown, hts⟩, hK, hA, hG⟩
  refine lv_aload_n hx hb dX4_init_0 rfl (lv_at hl 0 rfl) ?_
  refine W.objInit hx hb hown (hts (.methodLink RX4 3 objectInit) (List.mem_of_getElem? (i := 1) rfl)) (hts (.instanceMethod objectInit) (List.mem_of_getElem? (i := 2) rfl)) (hts (.code objectInit ⟨#[0xb1]⟩ 1 none) (List.mem_of_getElem? (i := 3) rfl)) rfl (by rw [hml]; exact hl.1) rfl dX4_init_1 (Nat.le_of_ble_eq_true rfl) (Nat.le_of_ble_eq_true rfl) ?_
  refine W.eq (g2 := F0 m 4 ls []) rfl ?_
  refine lv_aload_n hx hb dX4_init_4 rfl (lv_at hl 0 rfl) ?_
  refine lv_bipush (v := 80) hx hb dX4_init_5 (by decide) ?_
  refine na_c (N := 80) hh (hts (.arrayClass .char) (List.mem_of_getElem? (i := 4) rfl)) hP hD hS (by decide) (by decide) (by decide) (Nat.le_of_ble_eq_true rfl) (Nat.le_of_ble_eq_true rfl) dX4_init_7 (fun q7 H hP hD hS => ?_)
  have hP : va_P (gD Γ) vwCl (([(h0, .inr (4, [.null, .null, .null, .int 0, .int 0]))] : va_W) ++ [(q7, .inl (cC Γ, 80, .inl (fun _ => 0)))]) H := hP
  have hD : va_D A (([(h0, .inr (4, [.null, .null, .null, .int 0, .int 0]))] : va_W) ++ [(q7, .inl (cC Γ, 80, .inl (fun _ => 0)))]) := hD
  refine va_putF (D := gD Γ) (cl := vwCl) (tys := gTy Γ) (ci := 4) (v := .ref q7) (ty := tyX4 0) (C := RX4) (T := TX4) (N := 5) hx hb hts iX4_init_4 tyX4 tyX4_ok nmX4 hown hK hP hD hS 0 rfl rfl 0 (Nat.le_of_ble_eq_true rfl) (hts (.fieldLink RX4 9 "DeadTimeLoop$Text" "characters" "[C") (List.mem_of_getElem? (i := 5) rfl)) (fun _ h9 => h9) rfl hin rfl (tyX4_ok 0 (Nat.le_of_ble_eq_true rfl)) rfl rfl (Nat.le_of_ble_eq_true rfl) dX4_init_9 (fun H locs hP hD hS => ?_)
  have hP : va_P (gD Γ) vwCl (([(h0, .inr (4, [.ref q7, .null, .null, .int 0, .int 0]))] : va_W) ++ [(q7, .inl (cC Γ, 80, .inl (fun _ => 0)))]) H := hP
  have hD : va_D A (([(h0, .inr (4, [.ref q7, .null, .null, .int 0, .int 0]))] : va_W) ++ [(q7, .inl (cC Γ, 80, .inl (fun _ => 0)))]) := hD
  refine lv_aload_n hx hb dX4_init_12 rfl (lv_at hl 0 rfl) ?_
  refine lv_bipush (v := 16) hx hb dX4_init_13 (by decide) ?_
  refine na_i (N := 16) hh (hts (.arrayClass .int) (List.mem_of_getElem? (i := 6) rfl)) hP hD hS (by decide) (by decide) (by decide) (Nat.le_of_ble_eq_true rfl) (Nat.le_of_ble_eq_true rfl) dX4_init_15 (fun q15 H hP hD hS => ?_)
  have hP : va_P (gD Γ) vwCl ((([(h0, .inr (4, [.ref q7, .null, .null, .int 0, .int 0]))] : va_W) ++ [(q7, .inl (cC Γ, 80, .inl (fun _ => 0)))]) ++ [(q15, .inl (cI Γ, 16, .inl (fun _ => 0)))]) H := hP
  have hD : va_D A ((([(h0, .inr (4, [.ref q7, .null, .null, .int 0, .int 0]))] : va_W) ++ [(q7, .inl (cC Γ, 80, .inl (fun _ => 0)))]) ++ [(q15, .inl (cI Γ, 16, .inl (fun _ => 0)))]) := hD
  refine va_putF (D := gD Γ) (cl := vwCl) (tys := gTy Γ) (ci := 4) (v := .ref q15) (ty := tyX4 1) (C := RX4) (T := TX4) (N := 5) hx hb hts iX4_init_4 tyX4 tyX4_ok nmX4 hown hK hP hD hS 0 rfl rfl 1 (Nat.le_of_ble_eq_true rfl) (hts (.fieldLink RX4 15 "DeadTimeLoop$Text" "targets" "[I") (List.mem_of_getElem? (i := 7) rfl)) (fun _ h9 => h9) rfl hin rfl (tyX4_ok 1 (Nat.le_of_ble_eq_true rfl)) rfl rfl (Nat.le_of_ble_eq_true rfl) dX4_init_17 (fun H locs hP hD hS => ?_)
  have hP : va_P (gD Γ) vwCl ((([(h0, .inr (4, [.ref q7, .ref q15, .null, .int 0, .int 0]))] : va_W) ++ [(q7, .inl (cC Γ, 80, .inl (fun _ => 0)))]) ++ [(q15, .inl (cI Γ, 16, .inl (fun _ => 0)))]) H := hP
  have hD : va_D A ((([(h0, .inr (4, [.ref q7, .ref q15, .null, .int 0, .int 0]))] : va_W) ++ [(q7, .inl (cC Γ, 80, .inl (fun _ => 0)))]) ++ [(q15, .inl (cI Γ, 16, .inl (fun _ => 0)))]) := hD
  refine lv_aload_n hx hb dX4_init_20 rfl (lv_at hl 0 rfl) ?_
  refine lv_bipush (v := 16) hx hb dX4_init_21 (by decide) ?_
  refine na_i (N := 16) hh (hts (.arrayClass .int) (List.mem_of_getElem? (i := 6) rfl)) hP hD hS (by decide) (by decide) (by decide) (Nat.le_of_ble_eq_true rfl) (Nat.le_of_ble_eq_true rfl) dX4_init_23 (fun q23 H hP hD hS => ?_)
  have hP : va_P (gD Γ) vwCl (((([(h0, .inr (4, [.ref q7, .ref q15, .null, .int 0, .int 0]))] : va_W) ++ [(q7, .inl (cC Γ, 80, .inl (fun _ => 0)))]) ++ [(q15, .inl (cI Γ, 16, .inl (fun _ => 0)))]) ++ [(q23, .inl (cI Γ, 16, .inl (fun _ => 0)))]) H := hP
  have hD : va_D A (((([(h0, .inr (4, [.ref q7, .ref q15, .null, .int 0, .int 0]))] : va_W) ++ [(q7, .inl (cC Γ, 80, .inl (fun _ => 0)))]) ++ [(q15, .inl (cI Γ, 16, .inl (fun _ => 0)))]) ++ [(q23, .inl (cI Γ, 16, .inl (fun _ => 0)))]) := hD
  refine va_putF (D := gD Γ) (cl := vwCl) (tys := gTy Γ) (ci := 4) (v := .ref q23) (ty := tyX4 2) (C := RX4) (T := TX4) (N := 5) hx hb hts iX4_init_4 tyX4 tyX4_ok nmX4 hown hK hP hD hS 0 rfl rfl 2 (Nat.le_of_ble_eq_true rfl) (hts (.fieldLink RX4 19 "DeadTimeLoop$Text" "wanted" "[I") (List.mem_of_getElem? (i := 8) rfl)) (fun _ h9 => h9) rfl hin rfl (tyX4_ok 2 (Nat.le_of_ble_eq_true rfl)) rfl rfl (Nat.le_of_ble_eq_true rfl) dX4_init_25 (fun H locs hP hD hS => ?_)
  have hP : va_P (gD Γ) vwCl (((([(h0, .inr (4, [.ref q7, .ref q15, .ref q23, .int 0, .int 0]))] : va_W) ++ [(q7, .inl (cC Γ, 80, .inl (fun _ => 0)))]) ++ [(q15, .inl (cI Γ, 16, .inl (fun _ => 0)))]) ++ [(q23, .inl (cI Γ, 16, .inl (fun _ => 0)))]) H := hP
  have hD : va_D A (((([(h0, .inr (4, [.ref q7, .ref q15, .ref q23, .int 0, .int 0]))] : va_W) ++ [(q7, .inl (cC Γ, 80, .inl (fun _ => 0)))]) ++ [(q15, .inl (cI Γ, 16, .inl (fun _ => 0)))]) ++ [(q23, .inl (cI Γ, 16, .inl (fun _ => 0)))]) := hD
  refine lv_aload_n hx hb dX4_init_28 rfl (lv_at hl 0 rfl) ?_
  refine lv_iconst (v := 0) hx hb dX4_init_29 (by decide) ?_
  refine va_put (D := gD Γ) (cl := vwCl) (tys := gTy Γ) (ci := 4) (v := .int 0) (ty := tyX4 3) (C := RX4) (T := TX4) (N := 5) hx hb hts iX4_init_4 tyX4 tyX4_ok nmX4 hown hK hP hD hS 0 rfl rfl 3 (Nat.le_of_ble_eq_true rfl) (hts (.fieldLink RX4 22 "DeadTimeLoop$Text" "length" "I") (List.mem_of_getElem? (i := 9) rfl)) (fun _ h9 => h9) rfl (tyX4_ok 3 (Nat.le_of_ble_eq_true rfl)) rfl rfl (Nat.le_of_ble_eq_true rfl) dX4_init_30 (fun H locs hP hD hS => ?_)
  have hP : va_P (gD Γ) vwCl (((([(h0, .inr (4, [.ref q7, .ref q15, .ref q23, .int 0, .int 0]))] : va_W) ++ [(q7, .inl (cC Γ, 80, .inl (fun _ => 0)))]) ++ [(q15, .inl (cI Γ, 16, .inl (fun _ => 0)))]) ++ [(q23, .inl (cI Γ, 16, .inl (fun _ => 0)))]) H := hP
  have hD : va_D A (((([(h0, .inr (4, [.ref q7, .ref q15, .ref q23, .int 0, .int 0]))] : va_W) ++ [(q7, .inl (cC Γ, 80, .inl (fun _ => 0)))]) ++ [(q15, .inl (cI Γ, 16, .inl (fun _ => 0)))]) ++ [(q23, .inl (cI Γ, 16, .inl (fun _ => 0)))]) := hD
  refine lv_aload_n hx hb dX4_init_33 rfl (lv_at hl 0 rfl) ?_
  refine lv_iconst (v := 0) hx hb dX4_init_34 (by decide) ?_
  refine va_put (D := gD Γ) (cl := vwCl) (tys := gTy Γ) (ci := 4) (v := .int 0) (ty := tyX4 4) (C := RX4) (T := TX4) (N := 5) hx hb hts iX4_init_4 tyX4 tyX4_ok nmX4 hown hK hP hD hS 0 rfl rfl 4 (Nat.le_of_ble_eq_true rfl) (hts (.fieldLink RX4 26 "DeadTimeLoop$Text" "count" "I") (List.mem_of_getElem? (i := 10) rfl)) (fun _ h9 => h9) rfl (tyX4_ok 4 (Nat.le_of_ble_eq_true rfl)) rfl rfl (Nat.le_of_ble_eq_true rfl) dX4_init_35 (fun H locs hP hD hS => ?_)
  have hP : va_P (gD Γ) vwCl (((([(h0, .inr (4, [.ref q7, .ref q15, .ref q23, .int 0, .int 0]))] : va_W) ++ [(q7, .inl (cC Γ, 80, .inl (fun _ => 0)))]) ++ [(q15, .inl (cI Γ, 16, .inl (fun _ => 0)))]) ++ [(q23, .inl (cI Γ, 16, .inl (fun _ => 0)))]) H := hP
  have hD : va_D A (((([(h0, .inr (4, [.ref q7, .ref q15, .ref q23, .int 0, .int 0]))] : va_W) ++ [(q7, .inl (cC Γ, 80, .inl (fun _ => 0)))]) ++ [(q15, .inl (cI Γ, 16, .inl (fun _ => 0)))]) ++ [(q23, .inl (cI Γ, 16, .inl (fun _ => 0)))]) := hD
  exact re_c (fun j => ([h0, q7, q15, q23] : List Nat).getD j 0) hQ ha hx hb hr hlk hAe rfl hP hD hS (Nat.le_of_ble_eq_true rfl) (Nat.le_of_ble_eq_true rfl) dX4_init_38
def rm_X1_init : Room := { frames := 2, cells := 8, slots := 676, locals := 60 }
theorem iX1_init_1 : ∀ w ∈ u_ws RX1 TX1 9, w ∈ wsX1_init := fun w h => (List.mem_cons_of_mem _ (List.mem_append_left _ (List.mem_append_left _ (List.mem_append_right _ h))))
theorem iX1_init_2 : ∀ w ∈ u_ws RX2 TX2 5, w ∈ wsX1_init := fun w h => (List.mem_cons_of_mem _ (List.mem_append_left _ (List.mem_append_right _ h)))
theorem iX1_init_5 : ∀ w ∈ u_ws RX5 TX5 5, w ∈ wsX1_init := fun w h => (List.mem_cons_of_mem _ (List.mem_append_right _ h))
set_option maxHeartbeats 4000000 in
set_option maxRecDepth 100000 in
theorem c_X1_init (Γ : gT) (l : Launch) (h0 : Nat) : Cn Γ l yX1_init wsX1_init rm_X1_init h0 [(h0, .inr (1, [.int 0, .int 0, .int 0, .int 0, .int 0, .null, .null, .null, .null]))] 8 676 (fun a => lopW Γ a 0 lop0) := by
  refine Cn.of (cc := cX1_init) (own := RX1) (nL := 1) (ret := none) (by decide +kernel) rfl rfl rfl (Nat.le_of_ble_eq_true rfl) ?_
  intro p e s m args below meth c A Q ls ha hAe hQ hx hb hml hr hts hown hlk hin hP hK hD hS hA hG hO hl
  obtain ⟨H, hHe⟩ : ∃ H : Heap, H = s.heap := ⟨_, rfl⟩
  rw [← hHe] at hP ⊢
  have hS : va_S A s.heap H [] := by rw [hHe]; exact hS
  have hh : Hd Γ p s m args c cX1_init RX1 1 wsX1_init A := ⟨⟨hx, hb, hml, hown, hts⟩, hK, hA, hG⟩
  refine lv_aload_n hx hb dX1_init_0 rfl (lv_at hl 0 rfl) ?_
  refine W.objInit hx hb hown (hts (.methodLink RX1 3 objectInit) (List.mem_of_getElem? (i := 1) rfl)) (hts (.instanceMethod objectInit) (List.mem_of_getElem? (i := 2) rfl)) (hts (.code objectInit ⟨#[0xb1]⟩ 1 none) (List.mem_of_getElem? (i := 3) rfl)) rfl (by rw [hml]; exact hl.1) rfl dX1_init_1 (Nat.le_of_ble_eq_true rfl) (Nat.le_of_ble_eq_true rfl) ?_
  refine W.eq (g2 := F0 m 4 ls []) rfl ?_
  refine lv_aload_n hx hb dX1_init_4 rfl (lv_at hl 0 rfl) ?_
  refine lv_iconst (v := 0) hx hb dX1_init_5 (by decide) ?_
  refine va_put (D := gD Γ) (cl := vwCl) (tys := gTy Γ) (ci := 1) (v := .int 0) (ty := tyX1 0) (C := RX1) (T := TX1) (N := 9) hx hb hts iX1_init_1 tyX1 tyX1_ok nmX1 hown hK hP hD hS 0 rfl rfl 0 (Nat.le_of_ble_eq_true rfl) (hts (.fieldLink RX1 9 "DeadTimeLoop$Loop" "now" "I") (List.mem_of_getElem? (i := 4) rfl)) (fun _ h9 => h9) rfl (tyX1_ok 0 (Nat.le_of_ble_eq_true rfl)) rfl rfl (Nat.le_of_ble_eq_true rfl) dX1_init_6 (fun H locs hP hD hS => ?_)
  have hP : va_P (gD Γ) vwCl ([(h0, .inr (1, [.int 0, .int 0, .int 0, .int 0, .int 0, .null, .null, .null, .null]))] : va_W) H := hP
  have hD : va_D A ([(h0, .inr (1, [.int 0, .int 0, .int 0, .int 0, .int 0, .null, .null, .null, .null]))] : va_W) := hD
  refine lv_aload_n hx hb dX1_init_9 rfl (lv_at hl 0 rfl) ?_
  refine lv_iconst (v := 0) hx hb dX1_init_10 (by decide) ?_
  refine va_put (D := gD Γ) (cl := vwCl) (tys := gTy Γ) (ci := 1) (v := .int 0) (ty := tyX1 1) (C := RX1) (T := TX1) (N := 9) hx hb hts iX1_init_1 tyX1 tyX1_ok nmX1 hown hK hP hD hS 0 rfl rfl 1 (Nat.le_of_ble_eq_true rfl) (hts (.fieldLink RX1 15 "DeadTimeLoop$Loop" "load" "I") (List.mem_of_getElem? (i := 5) rfl)) (fun _ h9 => h9) rfl (tyX1_ok 1 (Nat.le_of_ble_eq_true rfl)) rfl rfl (Nat.le_of_ble_eq_true rfl) dX1_init_11 (fun H locs hP hD hS => ?_)
  have hP : va_P (gD Γ) vwCl ([(h0, .inr (1, [.int 0, .int 0, .int 0, .int 0, .int 0, .null, .null, .null, .null]))] : va_W) H := hP
  have hD : va_D A ([(h0, .inr (1, [.int 0, .int 0, .int 0, .int 0, .int 0, .null, .null, .null, .null]))] : va_W) := hD
  refine lv_aload_n hx hb dX1_init_14 rfl (lv_at hl 0 rfl) ?_
  refine lv_iconst (v := 0) hx hb dX1_init_15 (by decide) ?_
  refine va_put (D := gD Γ) (cl := vwCl) (tys := gTy Γ) (ci := 1) (v := .int 0) (ty := tyX1 2) (C := RX1) (T := TX1) (N := 9) hx hb hts iX1_init_1 tyX1 tyX1_ok nmX1 hown hK hP hD hS 0 rfl rfl 2 (Nat.le_of_ble_eq_true rfl) (hts (.fieldLink RX1 18 "DeadTimeLoop$Loop" "seed" "I") (List.mem_of_getElem? (i := 6) rfl)) (fun _ h9 => h9) rfl (tyX1_ok 2 (Nat.le_of_ble_eq_true rfl)) rfl rfl (Nat.le_of_ble_eq_true rfl) dX1_init_16 (fun H locs hP hD hS => ?_)
  have hP : va_P (gD Γ) vwCl ([(h0, .inr (1, [.int 0, .int 0, .int 0, .int 0, .int 0, .null, .null, .null, .null]))] : va_W) H := hP
  have hD : va_D A ([(h0, .inr (1, [.int 0, .int 0, .int 0, .int 0, .int 0, .null, .null, .null, .null]))] : va_W) := hD
  refine lv_aload_n hx hb dX1_init_19 rfl (lv_at hl 0 rfl) ?_
  refine lv_iconst (v := 0) hx hb dX1_init_20 (by decide) ?_
  refine va_put (D := gD Γ) (cl := vwCl) (tys := gTy Γ) (ci := 1) (v := .int 0) (ty := tyX1 3) (C := RX1) (T := TX1) (N := 9) hx hb hts iX1_init_1 tyX1 tyX1_ok nmX1 hown hK hP hD hS 0 rfl rfl 3 (Nat.le_of_ble_eq_true rfl) (hts (.fieldLink RX1 21 "DeadTimeLoop$Loop" "badTicks" "I") (List.mem_of_getElem? (i := 7) rfl)) (fun _ h9 => h9) rfl (tyX1_ok 3 (Nat.le_of_ble_eq_true rfl)) rfl rfl (Nat.le_of_ble_eq_true rfl) dX1_init_21 (fun H locs hP hD hS => ?_)
  have hP : va_P (gD Γ) vwCl ([(h0, .inr (1, [.int 0, .int 0, .int 0, .int 0, .int 0, .null, .null, .null, .null]))] : va_W) H := hP
  have hD : va_D A ([(h0, .inr (1, [.int 0, .int 0, .int 0, .int 0, .int 0, .null, .null, .null, .null]))] : va_W) := hD
  refine lv_aload_n hx hb dX1_init_24 rfl (lv_at hl 0 rfl) ?_
  refine lv_iconst (v := 0) hx hb dX1_init_25 (by decide) ?_
  refine va_put (D := gD Γ) (cl := vwCl) (tys := gTy Γ) (ci := 1) (v := .int 0) (ty := tyX1 4) (C := RX1) (T := TX1) (N := 9) hx hb hts iX1_init_1 tyX1 tyX1_ok nmX1 hown hK hP hD hS 0 rfl rfl 4 (Nat.le_of_ble_eq_true rfl) (hts (.fieldLink RX1 24 "DeadTimeLoop$Loop" "goodTicks" "I") (List.mem_of_getElem? (i := 8) rfl)) (fun _ h9 => h9) rfl (tyX1_ok 4 (Nat.le_of_ble_eq_true rfl)) rfl rfl (Nat.le_of_ble_eq_true rfl) dX1_init_26 (fun H locs hP hD hS => ?_)
  have hP : va_P (gD Γ) vwCl ([(h0, .inr (1, [.int 0, .int 0, .int 0, .int 0, .int 0, .null, .null, .null, .null]))] : va_W) H := hP
  have hD : va_D A ([(h0, .inr (1, [.int 0, .int 0, .int 0, .int 0, .int 0, .null, .null, .null, .null]))] : va_W) := hD
  refine lv_aload_n hx hb dX1_init_29 rfl (lv_at hl 0 rfl) ?_
  refine lv_bipush (v := 10) hx hb dX1_init_30 (by decide) ?_
  refine na_i (N := 10) hh (hts (.arrayClass .int) (List.mem_of_getElem? (i := 9) rfl)) hP hD hS (by decide) (by decide) (by decide) (Nat.le_of_ble_eq_true rfl) (Nat.le_of_ble_eq_true rfl) dX1_init_32 (fun q32 H hP hD hS => ?_)
  have hP : va_P (gD Γ) vwCl (([(h0, .inr (1, [.int 0, .int 0, .int 0, .int 0, .int 0, .null, .null, .null, .null]))] : va_W) ++ [(q32, .inl (cI Γ, 10, .inl (fun _ => 0)))]) H := hP
  have hD : va_D A (([(h0, .inr (1, [.int 0, .int 0, .int 0, .int 0, .int 0, .null, .null, .null, .null]))] : va_W) ++ [(q32, .inl (cI Γ, 10, .inl (fun _ => 0)))]) := hD
  refine va_putF (D := gD Γ) (cl := vwCl) (tys := gTy Γ) (ci := 1) (v := .ref q32) (ty := tyX1 5) (C := RX1) (T := TX1) (N := 9) hx hb hts iX1_init_1 tyX1 tyX1_ok nmX1 hown hK hP hD hS 0 rfl rfl 5 (Nat.le_of_ble_eq_true rfl) (hts (.fieldLink RX1 27 "DeadTimeLoop$Loop" "present" "[I") (List.mem_of_getElem? (i := 10) rfl)) (fun _ h9 => h9) rfl hin rfl (tyX1_ok 5 (Nat.le_of_ble_eq_true rfl)) rfl rfl (Nat.le_of_ble_eq_true rfl) dX1_init_34 (fun H locs hP hD hS => ?_)
  have hP : va_P (gD Γ) vwCl (([(h0, .inr (1, [.int 0, .int 0, .int 0, .int 0, .int 0, .ref q32, .null, .null, .null]))] : va_W) ++ [(q32, .inl (cI Γ, 10, .inl (fun _ => 0)))]) H := hP
  have hD : va_D A (([(h0, .inr (1, [.int 0, .int 0, .int 0, .int 0, .int 0, .ref q32, .null, .null, .null]))] : va_W) ++ [(q32, .inl (cI Γ, 10, .inl (fun _ => 0)))]) := hD
  refine lv_aload_n hx hb dX1_init_37 rfl (lv_at hl 0 rfl) ?_
  refine lv_sipush (v := 640) hx hb dX1_init_38 (by decide) ?_
  refine na_i (N := 640) hh (hts (.arrayClass .int) (List.mem_of_getElem? (i := 9) rfl)) hP hD hS (by decide) (by decide) (by decide) (Nat.le_of_ble_eq_true rfl) (Nat.le_of_ble_eq_true rfl) dX1_init_41 (fun q41 H hP hD hS => ?_)
  have hP : va_P (gD Γ) vwCl ((([(h0, .inr (1, [.int 0, .int 0, .int 0, .int 0, .int 0, .ref q32, .null, .null, .null]))] : va_W) ++ [(q32, .inl (cI Γ, 10, .inl (fun _ => 0)))]) ++ [(q41, .inl (cI Γ, 640, .inl (fun _ => 0)))]) H := hP
  have hD : va_D A ((([(h0, .inr (1, [.int 0, .int 0, .int 0, .int 0, .int 0, .ref q32, .null, .null, .null]))] : va_W) ++ [(q32, .inl (cI Γ, 10, .inl (fun _ => 0)))]) ++ [(q41, .inl (cI Γ, 640, .inl (fun _ => 0)))]) := hD
  refine va_putF (D := gD Γ) (cl := vwCl) (tys := gTy Γ) (ci := 1) (v := .ref q41) (ty := tyX1 6) (C := RX1) (T := TX1) (N := 9) hx hb hts iX1_init_1 tyX1 tyX1_ok nmX1 hown hK hP hD hS 0 rfl rfl 6 (Nat.le_of_ble_eq_true rfl) (hts (.fieldLink RX1 31 "DeadTimeLoop$Loop" "records" "[I") (List.mem_of_getElem? (i := 11) rfl)) (fun _ h9 => h9) rfl hin rfl (tyX1_ok 6 (Nat.le_of_ble_eq_true rfl)) rfl rfl (Nat.le_of_ble_eq_true rfl) dX1_init_43 (fun H locs hP hD hS => ?_)
  have hP : va_P (gD Γ) vwCl ((([(h0, .inr (1, [.int 0, .int 0, .int 0, .int 0, .int 0, .ref q32, .ref q41, .null, .null]))] : va_W) ++ [(q32, .inl (cI Γ, 10, .inl (fun _ => 0)))]) ++ [(q41, .inl (cI Γ, 640, .inl (fun _ => 0)))]) H := hP
  have hD : va_D A ((([(h0, .inr (1, [.int 0, .int 0, .int 0, .int 0, .int 0, .ref q32, .ref q41, .null, .null]))] : va_W) ++ [(q32, .inl (cI Γ, 10, .inl (fun _ => 0)))]) ++ [(q41, .inl (cI Γ, 640, .inl (fun _ => 0)))]) := hD
  refine lv_aload_n hx hb dX1_init_46 rfl (lv_at hl 0 rfl) ?_
  refine va_new (D := gD Γ) (cl := vwCl) (tys := gTy Γ) (ci := 2) (fs := [.long 0, .long 0, .int 0, .int 0, .int 0]) (C := RX2) (T := TX2) (N := 5) hx hb hts iX1_init_2 tyX2 tyX2_ok hown (hts (.classLink RX1 34 RX2) (List.mem_of_getElem? (i := 12) rfl)) (hts (.instantiable RX2 5) (List.mem_of_getElem? (i := 13) rfl)) (hts (.initialized RX2) (List.mem_of_getElem? (i := 14) rfl)) hK hP hD hS hA rfl (fun j hj => by rcases (show j = 0 ∨ j = 1 ∨ j = 2 ∨ j = 3 ∨ j = 4 by omega) with rfl | rfl | rfl | rfl | rfl <;> rfl) (Nat.le_of_ble_eq_true rfl) (Nat.le_of_ble_eq_true rfl) dX1_init_47 (fun q47 H hP hD hS => ?_)
  have hP : va_P (gD Γ) vwCl (((([(h0, .inr (1, [.int 0, .int 0, .int 0, .int 0, .int 0, .ref q32, .ref q41, .null, .null]))] : va_W) ++ [(q32, .inl (cI Γ, 10, .inl (fun _ => 0)))]) ++ [(q41, .inl (cI Γ, 640, .inl (fun _ => 0)))]) ++ [(q47, .inr (2, [.long 0, .long 0, .int 0, .int 0, .int 0]))]) H := hP
  have hD : va_D A (((([(h0, .inr (1, [.int 0, .int 0, .int 0, .int 0, .int 0, .ref q32, .ref q41, .null, .null]))] : va_W) ++ [(q32, .inl (cI Γ, 10, .inl (fun _ => 0)))]) ++ [(q41, .inl (cI Γ, 640, .inl (fun _ => 0)))]) ++ [(q47, .inr (2, [.long 0, .long 0, .int 0, .int 0, .int 0]))]) := hD
  refine lv_dup hx hb dX1_init_50 rfl ?_
  have hP : va_P (gD Γ) vwCl (((([(h0, .inr (1, [.int 0, .int 0, .int 0, .int 0, .int 0, .ref q32, .ref q41, .null, .null]))] : va_W) ++ [(q32, .inl (cI Γ, 10, .inl (fun _ => 0)))]) ++ [(q41, .inl (cI Γ, 640, .inl (fun _ => 0)))]) ++ [(q47, .inr (2, [.long 0, .long 0, .int 0, .int 0, .int 0]))]) H := hP
  have hD : va_D A (((([(h0, .inr (1, [.int 0, .int 0, .int 0, .int 0, .int 0, .ref q32, .ref q41, .null, .null]))] : va_W) ++ [(q32, .inl (cI Γ, 10, .inl (fun _ => 0)))]) ++ [(q41, .inl (cI Γ, 640, .inl (fun _ => 0)))]) ++ [(q47, .inr (2, [.long 0, .long 0, .int 0, .int 0, .int 0]))]) := hD
  refine ca_I (rest := [.ref q47, .ref (h0)]) hh hO hl.1 (c_X2_init Γ l q47) (cwI 0 hts gX1_init_X2_init rfl rfl rfl (hts (.initialized RX2) (List.mem_of_getElem? (i := 14) rfl)) (hts (.methodLink RX1 36 yX2_init) (List.mem_of_getElem? (i := 20) rfl)) (hts (.instanceMethod yX2_init) (List.mem_of_getElem? (i := 21) rfl)) rfl (by decide +kernel) ⟨(Nat.le_of_ble_eq_true rfl), (Nat.le_of_ble_eq_true rfl)⟩) dX1_init_51 rfl (Nat.le_of_ble_eq_true rfl) hP hD hS ⟨(Nat.le_of_ble_eq_true rfl), (Nat.le_of_ble_eq_true rfl)⟩ (fun a51 H locs e51 hP9 hD9 hS => ?_)
  subst e51
  have hP := hP9
  have hD := hD9
  have hP : va_P (gD Γ) vwCl (((([(h0, .inr (1, [.int 0, .int 0, .int 0, .int 0, .int 0, .ref q32, .ref q41, .null, .null]))] : va_W) ++ [(q32, .inl (cI Γ, 10, .inl (fun _ => 0)))]) ++ [(q41, .inl (cI Γ, 640, .inl (fun _ => 0)))]) ++ secW Γ a51 0 sec0) H := hP
  have hD : va_D A (((([(h0, .inr (1, [.int 0, .int 0, .int 0, .int 0, .int 0, .ref q32, .ref q41, .null, .null]))] : va_W) ++ [(q32, .inl (cI Γ, 10, .inl (fun _ => 0)))]) ++ [(q41, .inl (cI Γ, 640, .inl (fun _ => 0)))]) ++ secW Γ a51 0 sec0) := hD
  refine va_putF (D := gD Γ) (cl := vwCl) (tys := gTy Γ) (ci := 1) (v := .ref (a51 0)) (ty := tyX1 7) (C := RX1) (T := TX1) (N := 9) hx hb hts iX1_init_1 tyX1 tyX1_ok nmX1 hown hK hP hD hS 0 rfl rfl 7 (Nat.le_of_ble_eq_true rfl) (hts (.fieldLink RX1 37 "DeadTimeLoop$Loop" "section" "LDeadTimeLoop$Section;") (List.mem_of_getElem? (i := 15) rfl)) (fun _ h9 => h9) rfl hin rfl (tyX1_ok 7 (Nat.le_of_ble_eq_true rfl)) rfl rfl (Nat.le_of_ble_eq_true rfl) dX1_init_54 (fun H locs hP hD hS => ?_)
  have hP : va_P (gD Γ) vwCl (((([(h0, .inr (1, [.int 0, .int 0, .int 0, .int 0, .int 0, .ref q32, .ref q41, .ref (a51 0), .null]))] : va_W) ++ [(q32, .inl (cI Γ, 10, .inl (fun _ => 0)))]) ++ [(q41, .inl (cI Γ, 640, .inl (fun _ => 0)))]) ++ secW Γ a51 0 sec0) H := hP
  have hD : va_D A (((([(h0, .inr (1, [.int 0, .int 0, .int 0, .int 0, .int 0, .ref q32, .ref q41, .ref (a51 0), .null]))] : va_W) ++ [(q32, .inl (cI Γ, 10, .inl (fun _ => 0)))]) ++ [(q41, .inl (cI Γ, 640, .inl (fun _ => 0)))]) ++ secW Γ a51 0 sec0) := hD
  refine lv_aload_n hx hb dX1_init_57 rfl (lv_at hl 0 rfl) ?_
  refine va_new (D := gD Γ) (cl := vwCl) (tys := gTy Γ) (ci := 5) (fs := [.null, .null, .null, .null, .int 0]) (C := RX5) (T := TX5) (N := 5) hx hb hts iX1_init_5 tyX5 tyX5_ok hown (hts (.classLink RX1 41 RX5) (List.mem_of_getElem? (i := 16) rfl)) (hts (.instantiable RX5 5) (List.mem_of_getElem? (i := 17) rfl)) (hts (.initialized RX5) (List.mem_of_getElem? (i := 18) rfl)) hK hP hD hS hA rfl (fun j hj => by rcases (show j = 0 ∨ j = 1 ∨ j = 2 ∨ j = 3 ∨ j = 4 by omega) with rfl | rfl | rfl | rfl | rfl <;> rfl) (Nat.le_of_ble_eq_true rfl) (Nat.le_of_ble_eq_true rfl) dX1_init_58 (fun q58 H hP hD hS => ?_)
  have hP : va_P (gD Γ) vwCl ((((([(h0, .inr (1, [.int 0, .int 0, .int 0, .int 0, .int 0, .ref q32, .ref q41, .ref (a51 0), .null]))] : va_W) ++ [(q32, .inl (cI Γ, 10, .inl (fun _ => 0)))]) ++ [(q41, .inl (cI Γ, 640, .inl (fun _ => 0)))]) ++ secW Γ a51 0 sec0) ++ [(q58, .inr (5, [.null, .null, .null, .null, .int 0]))]) H := hP
  have hD : va_D A ((((([(h0, .inr (1, [.int 0, .int 0, .int 0, .int 0, .int 0, .ref q32, .ref q41, .ref (a51 0), .null]))] : va_W) ++ [(q32, .inl (cI Γ, 10, .inl (fun _ => 0)))]) ++ [(q41, .inl (cI Γ, 640, .inl (fun _ => 0)))]) ++ secW Γ a51 0 sec0) ++ [(q58, .inr (5, [.null, .null, .null, .null, .int 0]))]) := hD
  refine lv_dup hx hb dX1_init_61 rfl ?_
  have hP : va_P (gD Γ) vwCl ((((([(h0, .inr (1, [.int 0, .int 0, .int 0, .int 0, .int 0, .ref q32, .ref q41, .ref (a51 0), .null]))] : va_W) ++ [(q32, .inl (cI Γ, 10, .inl (fun _ => 0)))]) ++ [(q41, .inl (cI Γ, 640, .inl (fun _ => 0)))]) ++ secW Γ a51 0 sec0) ++ [(q58, .inr (5, [.null, .null, .null, .null, .int 0]))]) H := hP
  have hD : va_D A ((((([(h0, .inr (1, [.int 0, .int 0, .int 0, .int 0, .int 0, .ref q32, .ref q41, .ref (a51 0), .null]))] : va_W) ++ [(q32, .inl (cI Γ, 10, .inl (fun _ => 0)))]) ++ [(q41, .inl (cI Γ, 640, .inl (fun _ => 0)))]) ++ secW Γ a51 0 sec0) ++ [(q58, .inr (5, [.null, .null, .null, .null, .int 0]))]) := hD
  refine ca_I (rest := [.ref q58, .ref (h0)]) hh hO hl.1 (c_X5_init Γ l q58) (cwI 0 hts gX1_init_X5_init rfl rfl rfl (hts (.initialized RX5) (List.mem_of_getElem? (i := 18) rfl)) (hts (.methodLink RX1 43 yX5_init) (List.mem_of_getElem? (i := 29) rfl)) (hts (.instanceMethod yX5_init) (List.mem_of_getElem? (i := 30) rfl)) rfl (by decide +kernel) ⟨(Nat.le_of_ble_eq_true rfl), (Nat.le_of_ble_eq_true rfl)⟩) dX1_init_62 rfl (Nat.le_of_ble_eq_true rfl) hP hD hS ⟨(Nat.le_of_ble_eq_true rfl), (Nat.le_of_ble_eq_true rfl)⟩ (fun a62 H locs e62 hP9 hD9 hS => ?_)
  subst e62
  have hP := hP9
  have hD := hD9
  have hP : va_P (gD Γ) vwCl ((((([(h0, .inr (1, [.int 0, .int 0, .int 0, .int 0, .int 0, .ref q32, .ref q41, .ref (a51 0), .null]))] : va_W) ++ [(q32, .inl (cI Γ, 10, .inl (fun _ => 0)))]) ++ [(q41, .inl (cI Γ, 640, .inl (fun _ => 0)))]) ++ secW Γ a51 0 sec0) ++ watW Γ a62 0 wat0) H := hP
  have hD : va_D A ((((([(h0, .inr (1, [.int 0, .int 0, .int 0, .int 0, .int 0, .ref q32, .ref q41, .ref (a51 0), .null]))] : va_W) ++ [(q32, .inl (cI Γ, 10, .inl (fun _ => 0)))]) ++ [(q41, .inl (cI Γ, 640, .inl (fun _ => 0)))]) ++ secW Γ a51 0 sec0) ++ watW Γ a62 0 wat0) := hD
  refine va_putF (D := gD Γ) (cl := vwCl) (tys := gTy Γ) (ci := 1) (v := .ref (a62 0)) (ty := tyX1 8) (C := RX1) (T := TX1) (N := 9) hx hb hts iX1_init_1 tyX1 tyX1_ok nmX1 hown hK hP hD hS 0 rfl rfl 8 (Nat.le_of_ble_eq_true rfl) (hts (.fieldLink RX1 44 "DeadTimeLoop$Loop" "watches" "LDeadTimeLoop$Watches;") (List.mem_of_getElem? (i := 19) rfl)) (fun _ h9 => h9) rfl hin rfl (tyX1_ok 8 (Nat.le_of_ble_eq_true rfl)) rfl rfl (Nat.le_of_ble_eq_true rfl) dX1_init_65 (fun H locs hP hD hS => ?_)
  have hP : va_P (gD Γ) vwCl ((((([(h0, .inr (1, [.int 0, .int 0, .int 0, .int 0, .int 0, .ref q32, .ref q41, .ref (a51 0), .ref (a62 0)]))] : va_W) ++ [(q32, .inl (cI Γ, 10, .inl (fun _ => 0)))]) ++ [(q41, .inl (cI Γ, 640, .inl (fun _ => 0)))]) ++ secW Γ a51 0 sec0) ++ watW Γ a62 0 wat0) H := hP
  have hD : va_D A ((((([(h0, .inr (1, [.int 0, .int 0, .int 0, .int 0, .int 0, .ref q32, .ref q41, .ref (a51 0), .ref (a62 0)]))] : va_W) ++ [(q32, .inl (cI Γ, 10, .inl (fun _ => 0)))]) ++ [(q41, .inl (cI Γ, 640, .inl (fun _ => 0)))]) ++ secW Γ a51 0 sec0) ++ watW Γ a62 0 wat0) := hD
  exact re_c (fun j => ([h0, q32, q41, (a51 0), (a62 0), (a62 1), (a62 2), (a62 3), (a62 4)] : List Nat).getD j 0) hQ ha hx hb hr hlk hAe rfl hP hD hS (Nat.le_of_ble_eq_true rfl) (Nat.le_of_ble_eq_true rfl) dX1_init_68
