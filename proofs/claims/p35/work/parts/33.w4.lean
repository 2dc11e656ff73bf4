def rm_X1_begin : Room := { frames := 1, cells := 0, slots := 0, locals := 21 }
theorem iX1_begin_1 : ∀ w ∈ u_ws RX1 TX1 9, w ∈ wsX1_begin := fun w h => (List.mem_cons_of_mem _ (List.mem_append_left _ (List.mem_append_left _ (List.mem_append_right _ h))))
theorem iX1_begin_5 : ∀ w ∈ u_ws RX5 TX5 5, w ∈ wsX1_begin := fun w h => (List.mem_cons_of_mem _ (List.mem_append_left _ (List.mem_append_right _ h)))
set_option maxHeartbeats 1000000 in
set_option maxRecDepth 100000 in
theorem c_X1_begin (Γ : gT) (l : Launch) (a : Nat → Nat) (b : Nat) (σ : Lop)  : Cv Γ l yX1_begin wsX1_begin rm_X1_begin [.ref (a b)] (lopW Γ a b σ) (lopW Γ a b (fBegin σ)) := by
  refine Cv.of (cc := cX1_begin) (own := RX1) (nL := 2) (ret := none) (by decide +kernel) rfl rfl (Nat.le_of_ble_eq_true rfl) ?_
  intro p e s m args below meth c A Q H locs ls ha hAe hQ hx hb hml hr hts hown hlk hP hK hD hS hA hG hl
  have hh : Hd Γ p s m args c cX1_begin RX1 2 wsX1_begin A := ⟨⟨hx, hb, hml, hown, hts⟩, hK, hA, hG⟩
  have hl : lv_has ls 2 [(0, .ref (a b))] := hl
  refine lv_aload_n hx hb dX1_begin_0 rfl (lv_at hl 0 rfl) ?_
  refine lv_iconst (v := 0) hx hb dX1_begin_1 (by decide) ?_
  refine va_put (D := gD Γ) (cl := vwCl) (tys := gTy Γ) (ci := 1) (v := .int 0) (ty := tyX1 0) (C := RX1) (T := TX1) (N := 9) hx hb hts iX1_begin_1 tyX1 tyX1_ok nmX1 hown hK hP hD hS 0 rfl rfl 0 (Nat.le_of_ble_eq_true rfl) (hts (.fieldLink RX1 9 "DeadTimeLoop$Loop" "now" "I") (List.mem_of_getElem? (i := 1) rfl)) (fun _ h9 => h9) rfl (tyX1_ok 0 (Nat.le_of_ble_eq_true rfl)) rfl rfl (Nat.le_of_ble_eq_true rfl) dX1_begin_2 (fun H locs hP hD hS => ?_)
  have hP : va_P (gD Γ) vwCl (lopW Γ a b (0, (lLoad σ), (lSeed σ), (lBad σ), (lGood σ), (lPres σ), (lRecs σ), (lSec σ), (lWat σ))) H := hP
  have hD : va_D A (lopW Γ a b (0, (lLoad σ), (lSeed σ), (lBad σ), (lGood σ), (lPres σ), (lRecs σ), (lSec σ), (lWat σ))) := hD
  refine lv_aload_n hx hb dX1_begin_5 rfl (lv_at hl 0 rfl) ?_
  refine lv_iconst (v := 0) hx hb dX1_begin_6 (by decide) ?_
  refine va_put (D := gD Γ) (cl := vwCl) (tys := gTy Γ) (ci := 1) (v := .int 0) (ty := tyX1 1) (C := RX1) (T := TX1) (N := 9) hx hb hts iX1_begin_1 tyX1 tyX1_ok nmX1 hown hK hP hD hS 0 rfl rfl 1 (Nat.le_of_ble_eq_true rfl) (hts (.fieldLink RX1 15 "DeadTimeLoop$Loop" "load" "I") (List.mem_of_getElem? (i := 2) rfl)) (fun _ h9 => h9) rfl (tyX1_ok 1 (Nat.le_of_ble_eq_true rfl)) rfl rfl (Nat.le_of_ble_eq_true rfl) dX1_begin_7 (fun H locs hP hD hS => ?_)
  have hP : va_P (gD Γ) vwCl (lopW Γ a b (0, 0, (lSeed σ), (lBad σ), (lGood σ), (lPres σ), (lRecs σ), (lSec σ), (lWat σ))) H := hP
  have hD : va_D A (lopW Γ a b (0, 0, (lSeed σ), (lBad σ), (lGood σ), (lPres σ), (lRecs σ), (lSec σ), (lWat σ))) := hD
  refine lv_aload_n hx hb dX1_begin_10 rfl (lv_at hl 0 rfl) ?_
  refine lv_iconst (v := 0) hx hb dX1_begin_11 (by decide) ?_
  refine va_put (D := gD Γ) (cl := vwCl) (tys := gTy Γ) (ci := 1) (v := .int 0) (ty := tyX1 2) (C := RX1) (T := TX1) (N := 9) hx hb hts iX1_begin_1 tyX1 tyX1_ok nmX1 hown hK hP hD hS 0 rfl rfl 2 (Nat.le_of_ble_eq_true rfl) (hts (.fieldLink RX1 18 "DeadTimeLoop$Loop" "seed" "I") (List.mem_of_getElem? (i := 3) rfl)) (fun _ h9 => h9) rfl (tyX1_ok 2 (Nat.le_of_ble_eq_true rfl)) rfl rfl (Nat.le_of_ble_eq_true rfl) dX1_begin_12 (fun H locs hP hD hS => ?_)
  have hP : va_P (gD Γ) vwCl (lopW Γ a b (0, 0, 0, (lBad σ), (lGood σ), (lPres σ), (lRecs σ), (lSec σ), (lWat σ))) H := hP
  have hD : va_D A (lopW Γ a b (0, 0, 0, (lBad σ), (lGood σ), (lPres σ), (lRecs σ), (lSec σ), (lWat σ))) := hD
  refine lv_aload_n hx hb dX1_begin_15 rfl (lv_at hl 0 rfl) ?_
  refine lv_iconst (v := 0) hx hb dX1_begin_16 (by decide) ?_
  refine va_put (D := gD Γ) (cl := vwCl) (tys := gTy Γ) (ci := 1) (v := .int 0) (ty := tyX1 3) (C := RX1) (T := TX1) (N := 9) hx hb hts iX1_begin_1 tyX1 tyX1_ok nmX1 hown hK hP hD hS 0 rfl rfl 3 (Nat.le_of_ble_eq_true rfl) (hts (.fieldLink RX1 21 "DeadTimeLoop$Loop" "badTicks" "I") (List.mem_of_getElem? (i := 4) rfl)) (fun _ h9 => h9) rfl (tyX1_ok 3 (Nat.le_of_ble_eq_true rfl)) rfl rfl (Nat.le_of_ble_eq_true rfl) dX1_begin_17 (fun H locs hP hD hS => ?_)
  have hP : va_P (gD Γ) vwCl (lopW Γ a b (0, 0, 0, 0, (lGood σ), (lPres σ), (lRecs σ), (lSec σ), (lWat σ))) H := hP
  have hD : va_D A (lopW Γ a b (0, 0, 0, 0, (lGood σ), (lPres σ), (lRecs σ), (lSec σ), (lWat σ))) := hD
  refine lv_aload_n hx hb dX1_begin_20 rfl (lv_at hl 0 rfl) ?_
  refine lv_iconst (v := 0) hx hb dX1_begin_21 (by decide) ?_
  refine va_put (D := gD Γ) (cl := vwCl) (tys := gTy Γ) (ci := 1) (v := .int 0) (ty := tyX1 4) (C := RX1) (T := TX1) (N := 9) hx hb hts iX1_begin_1 tyX1 tyX1_ok nmX1 hown hK hP hD hS 0 rfl rfl 4 (Nat.le_of_ble_eq_true rfl) (hts (.fieldLink RX1 24 "DeadTimeLoop$Loop" "goodTicks" "I") (List.mem_of_getElem? (i := 5) rfl)) (fun _ h9 => h9) rfl (tyX1_ok 4 (Nat.le_of_ble_eq_true rfl)) rfl rfl (Nat.le_of_ble_eq_true rfl) dX1_begin_22 (fun H locs hP hD hS => ?_)
  have hP : va_P (gD Γ) vwCl (lopW Γ a b (0, 0, 0, 0, 0, (lPres σ), (lRecs σ), (lSec σ), (lWat σ))) H := hP
  have hD : va_D A (lopW Γ a b (0, 0, 0, 0, 0, (lPres σ), (lRecs σ), (lSec σ), (lWat σ))) := hD
  refine lv_iconst (v := 0) hx hb dX1_begin_25 (by decide) ?_
  refine lv_istore_n (lv' := [(1, .int 0), (0, .ref (a b))]) hx hb dX1_begin_26 rfl hl (by decide) rfl (fun ls hl => ?_)
  have hJ_27 : ∀ n : Nat, ∀ (i : Nat) (x : Int32), (x = nI i) → (i ≤ 10) → (11 ≤ i + n) → ∀ (H : Heap) (locs : List Loc) (ls : Array Slot), va_P (gD Γ) vwCl (lopW Γ a b (0, 0, 0, 0, 0, (fZeroN (lPres σ) i), (lRecs σ), (lSec σ), (lWat σ))) H → va_D A (lopW Γ a b (0, 0, 0, 0, 0, (fZeroN (lPres σ) i), (lRecs σ), (lSec σ), (lWat σ))) → va_S A s.heap H locs → lv_has ls 2 [(0, .ref (a b)), (1, .int x)] → W p l e rm_X1_begin s m args below meth c H locs 0 0 Q (F0 m 27 ls []) := by
    intro n
    induction n with
    | zero =>
      intro i x ex hi hn
      intro _ h1 h2; omega
    | succ n ih =>
      intro i x ex hi hn H locs ls hP hD hS hl
      refine lv_iload_n hx hb dX1_begin_27 rfl (lv_at hl 1 rfl) ?_
      refine lv_bipush (v := 10) hx hb dX1_begin_28 (by decide) ?_
      refine lv_icmp_ge (tgt := 46) hx hb dX1_begin_30 (by decide) (fun c_30 => ?_) (fun c_30 => ?_)
      · -- yes
        refine lv_aload_n hx hb dX1_begin_46 rfl (lv_at hl 0 rfl) ?_
        refine va_get (D := gD Γ) (cl := vwCl) (tys := gTy Γ) (ci := 1) (v := .ref (a (b + 3))) (C := RX1) (T := TX1) (N := 9) hx hb hts iX1_begin_1 hown hK hP 0 rfl rfl 7 (Nat.le_of_ble_eq_true rfl) (hts (.fieldLink RX1 37 "DeadTimeLoop$Loop" "section" "LDeadTimeLoop$Section;") (List.mem_of_getElem? (i := 7) rfl)) (fun _ h9 => h9) rfl dX1_begin_47 ?_
        refine lv_iconst (v := 1) hx hb dX1_begin_50 (by decide) ?_
        obtain ⟨u_51, eu_51⟩ : ∃ z : Sec, z = fSecBegin 1 := ⟨_, rfl⟩
        have hM_51 : Cv Γ l yX2_begin wsX2_begin rm_X2_begin [.ref (a (b + 3)), .int 1] (secW Γ a (b + 3) (lSec σ)) (secW Γ a (b + 3) u_51) := by rw [eu_51]; exact c_X2_begin Γ l a (b + 3) (lSec σ) 1 (by decide)
        refine ca_Vv hh hl.1 hM_51 (cwV 1 hts gX1_begin_X2_begin rfl rfl rfl (by decide +kernel) ⟨(Nat.le_of_ble_eq_true rfl), (Nat.le_of_ble_eq_true rfl)⟩) (As := [.int 1]) (rest := []) rfl dX1_begin_51 rfl (Nat.le_of_ble_eq_true rfl) hP hD hS [3] rfl rfl (q0 := 3) (ci := 2) rfl rfl rfl 1 rfl rfl (wf := lopW Γ a b (0, 0, 0, 0, 0, (fZeroN (lPres σ) i), (lRecs σ), u_51, (lWat σ))) rfl rfl ⟨Nat.zero_le _, Nat.zero_le _⟩ (fun H locs hP hD hS => ?_)
        refine lv_aload_n hx hb dX1_begin_54 rfl (lv_at hl 0 rfl) ?_
        refine va_get (D := gD Γ) (cl := vwCl) (tys := gTy Γ) (ci := 1) (v := .ref (a (b + 4))) (C := RX1) (T := TX1) (N := 9) hx hb hts iX1_begin_1 hown hK hP 0 rfl rfl 8 (Nat.le_of_ble_eq_true rfl) (hts (.fieldLink RX1 44 "DeadTimeLoop$Loop" "watches" "LDeadTimeLoop$Watches;") (List.mem_of_getElem? (i := 8) rfl)) (fun _ h9 => h9) rfl dX1_begin_55 ?_
        refine lv_iconst (v := 0) hx hb dX1_begin_58 (by decide) ?_
        refine va_put (D := gD Γ) (cl := vwCl) (tys := gTy Γ) (ci := 5) (v := .int 0) (ty := tyX5 4) (C := RX5) (T := TX5) (N := 5) hx hb hts iX1_begin_5 tyX5 tyX5_ok nmX5 hown hK hP hD hS 4 rfl rfl 4 (Nat.le_of_ble_eq_true rfl) (hts (.fieldLink RX1 52 "DeadTimeLoop$Watches" "count" "I") (List.mem_of_getElem? (i := 9) rfl)) (fun _ h9 => h9) rfl (tyX5_ok 4 (Nat.le_of_ble_eq_true rfl)) rfl rfl (Nat.le_of_ble_eq_true rfl) dX1_begin_59 (fun H locs hP hD hS => ?_)
        have hP : va_P (gD Γ) vwCl (lopW Γ a b (0, 0, 0, 0, 0, (fZeroN (lPres σ) i), (lRecs σ), u_51, ((wSig (lWat σ)), (wLeast (lWat σ)), (wGreat (lWat σ)), (wGtick (lWat σ)), 0))) H := hP
        have hD : va_D A (lopW Γ a b (0, 0, 0, 0, 0, (fZeroN (lPres σ) i), (lRecs σ), u_51, ((wSig (lWat σ)), (wLeast (lWat σ)), (wGreat (lWat σ)), (wGtick (lWat σ)), 0))) := hD
        exact re_v hQ ha hx hb hr hlk hAe hP hS dX1_begin_62 (by subst eu_51; have hi10 : i = 10 := (by have := c_30; rw [ex] at this; rcases Nat.lt_or_ge i 10 with q | q; exact absurd this (nI_ge q (by decide)); omega); subst hi10; rfl)
      · -- no
        refine lv_aload_n hx hb dX1_begin_33 rfl (lv_at hl 0 rfl) ?_
        refine va_get (D := gD Γ) (cl := vwCl) (tys := gTy Γ) (ci := 1) (v := .ref (a (b + 1))) (C := RX1) (T := TX1) (N := 9) hx hb hts iX1_begin_1 hown hK hP 0 rfl rfl 5 (Nat.le_of_ble_eq_true rfl) (hts (.fieldLink RX1 27 "DeadTimeLoop$Loop" "present" "[I") (List.mem_of_getElem? (i := 6) rfl)) (fun _ h9 => h9) rfl dX1_begin_34 ?_
        refine lv_iload_n hx hb dX1_begin_37 rfl (lv_at hl 1 rfl) ?_
        refine lv_iconst (v := 0) hx hb dX1_begin_38 (by decide) ?_
        refine ka_iast (D := gD Γ) (cl := vwCl) (tys := gTy Γ) hx hb hK hP hD hS 1 0 rfl rfl i ex (lt_of_nle (by rw [← ex]; exact c_30) (by omega) (by decide)) (by decide) (wf := lopW Γ a b (0, 0, 0, 0, 0, (upd (fZeroN (lPres σ) i) i 0), (lRecs σ), (lSec σ), (lWat σ))) rfl dX1_begin_39 (fun H locs hP hD hS => ?_)
        refine lv_iinc (v := (x + 1)) (lv' := [(1, .int (x + 1)), (0, .ref (a b))]) hx hb dX1_begin_40 hl (k := 1) rfl rfl (by decide) rfl (fun ls hl => ?_)
        refine lv_goto (tgt := 27) hx hb dX1_begin_43 (by decide) ?_
        exact ih (i + 1) _ (by rw [ex]; exact nI_1 i) (by have := lt_of_nle (k := 10) (by rw [← ex]; exact c_30) (by omega) (by decide); omega) (by omega) _ _ _ hP hD hS (lv_sub hl [1, 0] rfl)
  exact hJ_27 11 0 0 rfl (by omega) (by omega) _ _ _ hP hD hS (lv_sub hl [1, 0] rfl)
def rm_X1_keepRecords : Room := { frames := 1, cells := 0, slots := 0, locals := 22 }
theorem iX1_keepRecords_1 : ∀ w ∈ u_ws RX1 TX1 9, w ∈ wsX1_keepRecords := fun w h => (List.mem_cons_of_mem _ (List.mem_append_right _ h))
set_option maxHeartbeats 1000000 in
set_option maxRecDepth 100000 in
theorem c_X1_keepRecords (Γ : gT) (l : Launch) (a : Nat → Nat) (b : Nat) (σ : Lop) (hnow : ¬ lNow σ < 0) : Cv Γ l yX1_keepRecords wsX1_keepRecords rm_X1_keepRecords [.ref (a b)] (lopW Γ a b σ) (lopW Γ a b (fTick3 σ)) := by
  refine Cv.of (cc := cX1_keepRecords) (own := RX1) (nL := 2) (ret := none) (by decide +kernel) rfl rfl (Nat.le_of_ble_eq_true rfl) ?_
  intro p e s m args below meth c A Q H locs ls ha hAe hQ hx hb hml hr hts hown hlk hP hK hD hS hA hG hl
  have hh : Hd Γ p s m args c cX1_keepRecords RX1 2 wsX1_keepRecords A := ⟨⟨hx, hb, hml, hown, hts⟩, hK, hA, hG⟩
  have hl : lv_has ls 2 [(0, .ref (a b))] := hl
  refine lv_iconst (v := 0) hx hb dX1_keepRecords_0 (by decide) ?_
  refine lv_istore_n (lv' := [(1, .int 0), (0, .ref (a b))]) hx hb dX1_keepRecords_1 rfl hl (by decide) rfl (fun ls hl => ?_)
  have hJ_2 : ∀ n : Nat, ∀ (i : Nat) (x : Int32), (x = nI i) → (i ≤ 10) → (11 ≤ i + n) → ∀ (H : Heap) (locs : List Loc) (ls : Array Slot), va_P (gD Γ) vwCl (lopW Γ a b ((lNow σ), (lLoad σ), (lSeed σ), (lBad σ), (lGood σ), (lPres σ), (fKeepN (lNow σ) (lPres σ) (lRecs σ) i), (lSec σ), (lWat σ))) H → va_D A (lopW Γ a b ((lNow σ), (lLoad σ), (lSeed σ), (lBad σ), (lGood σ), (lPres σ), (fKeepN (lNow σ) (lPres σ) (lRecs σ) i), (lSec σ), (lWat σ))) → va_S A s.heap H locs → lv_has ls 2 [(0, .ref (a b)), (1, .int x)] → W p l e rm_X1_keepRecords s m args below meth c H locs 0 0 Q (F0 m 2 ls []) := by
    intro n
    induction n with
    | zero =>
      intro i x ex hi hn
      intro _ h1 h2; omega
    | succ n ih =>
      intro i x ex hi hn H locs ls hP hD hS hl
      refine lv_iload_n hx hb dX1_keepRecords_2 rfl (lv_at hl 1 rfl) ?_
      refine lv_bipush (v := 10) hx hb dX1_keepRecords_3 (by decide) ?_
      refine lv_icmp_ge (tgt := 39) hx hb dX1_keepRecords_5 (by decide) (fun c_5 => ?_) (fun c_5 => ?_)
      · -- yes
        exact re_v hQ ha hx hb hr hlk hAe hP hS dX1_keepRecords_39 (by have hi10 : i = 10 := (by have := c_5; rw [ex] at this; rcases Nat.lt_or_ge i 10 with q | q; exact absurd this (nI_ge q (by decide)); omega); subst hi10; rfl)
      · -- no
        refine lv_aload_n hx hb dX1_keepRecords_8 rfl (lv_at hl 0 rfl) ?_
        refine va_get (D := gD Γ) (cl := vwCl) (tys := gTy Γ) (ci := 1) (v := .ref (a (b + 2))) (C := RX1) (T := TX1) (N := 9) hx hb hts iX1_keepRecords_1 hown hK hP 0 rfl rfl 6 (Nat.le_of_ble_eq_true rfl) (hts (.fieldLink RX1 31 "DeadTimeLoop$Loop" "records" "[I") (List.mem_of_getElem? (i := 1) rfl)) (fun _ h9 => h9) rfl dX1_keepRecords_9 ?_
        refine lv_iload_n hx hb dX1_keepRecords_12 rfl (lv_at hl 1 rfl) ?_
        refine lv_bipush (v := 64) hx hb dX1_keepRecords_13 (by decide) ?_
        refine lv_imul hx hb dX1_keepRecords_15 ?_
        refine lv_aload_n hx hb dX1_keepRecords_16 rfl (lv_at hl 0 rfl) ?_
        refine va_get (D := gD Γ) (cl := vwCl) (tys := gTy Γ) (ci := 1) (v := .int (lNow σ)) (C := RX1) (T := TX1) (N := 9) hx hb hts iX1_keepRecords_1 hown hK hP 0 rfl rfl 0 (Nat.le_of_ble_eq_true rfl) (hts (.fieldLink RX1 9 "DeadTimeLoop$Loop" "now" "I") (List.mem_of_getElem? (i := 2) rfl)) (fun _ h9 => h9) rfl dX1_keepRecords_17 ?_
        refine lv_bipush (v := 64) hx hb dX1_keepRecords_20 (by decide) ?_
        refine ca_Si hh hl.1 (c_J9_floorMod_7cf53 Γ l (lNow σ) 64 (by decide)) (va_cwS 2 hts gX1_keepRecords_J9_floorMod_7cf53 rfl rfl rfl (by decide +kernel) ⟨(Nat.le_of_ble_eq_true rfl), (Nat.le_of_ble_eq_true rfl)⟩) (As := [.int (lNow σ), .int 64]) (rest := [.int (x * 64), .ref (a (b + 2))]) rfl dX1_keepRecords_22 rfl (Nat.le_of_ble_eq_true rfl) hP hD hS ⟨Nat.zero_le _, Nat.zero_le _⟩ (fun H locs hP hS => ?_)
        refine lv_iadd hx hb dX1_keepRecords_25 ?_
        refine lv_aload_n hx hb dX1_keepRecords_26 rfl (lv_at hl 0 rfl) ?_
        refine va_get (D := gD Γ) (cl := vwCl) (tys := gTy Γ) (ci := 1) (v := .ref (a (b + 1))) (C := RX1) (T := TX1) (N := 9) hx hb hts iX1_keepRecords_1 hown hK hP 0 rfl rfl 5 (Nat.le_of_ble_eq_true rfl) (hts (.fieldLink RX1 27 "DeadTimeLoop$Loop" "present" "[I") (List.mem_of_getElem? (i := 3) rfl)) (fun _ h9 => h9) rfl dX1_keepRecords_27 ?_
        refine lv_iload_n hx hb dX1_keepRecords_30 rfl (lv_at hl 1 rfl) ?_
        refine ka_iald (D := gD Γ) (cl := vwCl) (tys := gTy Γ) hx hb hK hP 1 0 rfl rfl i ex (lt_of_nle (by rw [← ex]; exact c_5) (by omega) (by decide)) (by decide) (v := ((lPres σ) i)) rfl dX1_keepRecords_31 ?_
        refine ka_iast (D := gD Γ) (cl := vwCl) (tys := gTy Γ) hx hb hK hP hD hS 2 0 rfl rfl ((((nI i) * 64) + (kFmod (lNow σ) 64)).toNatClampNeg) (by rw [ex]; exact nI_of_in (keep_in (lt_of_nle (k := 10) (by rw [← ex]; exact c_5) (by omega) (by decide)) hnow) (by decide)) (in_lt (keep_in (lt_of_nle (k := 10) (by rw [← ex]; exact c_5) (by omega) (by decide)) hnow)) (by decide) (wf := lopW Γ a b ((lNow σ), (lLoad σ), (lSeed σ), (lBad σ), (lGood σ), (lPres σ), (upd (fKeepN (lNow σ) (lPres σ) (lRecs σ) i) ((((nI i) * 64) + (kFmod (lNow σ) 64)).toNatClampNeg) ((lPres σ) i)), (lSec σ), (lWat σ))) rfl dX1_keepRecords_32 (fun H locs hP hD hS => ?_)
        refine lv_iinc (v := (x + 1)) (lv' := [(1, .int (x + 1)), (0, .ref (a b))]) hx hb dX1_keepRecords_33 hl (k := 1) rfl rfl (by decide) rfl (fun ls hl => ?_)
        refine lv_goto (tgt := 2) hx hb dX1_keepRecords_36 (by decide) ?_
        exact ih (i + 1) _ (by rw [ex]; exact nI_1 i) (by have := lt_of_nle (k := 10) (by rw [← ex]; exact c_5) (by omega) (by decide); omega) (by omega) _ _ _ hP hD hS (lv_sub hl [1, 0] rfl)
  exact hJ_2 11 0 0 rfl (by omega) (by omega) _ _ _ hP hD hS (lv_sub hl [1, 0] rfl)
