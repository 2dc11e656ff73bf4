def rm_X6_advance_1 : Room := { frames := 5, cells := 0, slots := 0, locals := 137 }
theorem iX6_advance_6 : ∀ w ∈ u_ws RX6 TX6 11, w ∈ wsX6_advance := fun w h => (List.mem_cons_of_mem _ (List.mem_append_left _ (List.mem_append_left _ (List.mem_append_left _ (List.mem_append_left _ (List.mem_append_right _ h))))))
set_option maxHeartbeats 1000000 in
set_option maxRecDepth 100000 in
theorem c_X6_advance_1 (Γ : gT) (l : Launch) (a : Nat → Nat) (x : Xst) (tk : Int32) (N : Nat) (T : Nat) (hN : lNow (xLoop x) = nI N) (hN2 : N + T < 2 ^ 31) (hT : tk = nI T) : Cv Γ l yX6_advance wsX6_advance rm_X6_advance_1 [.ref (a 0), .ref (a 15), .int tk] (xW Γ a x) (xW Γ a (xPut_loop x (fAdv (xSet x) tk.toNatClampNeg (xLoop x)))) := by
  refine Cv.of (cc := cX6_advance) (own := RX6) (nL := 4) (ret := none) (by decide +kernel) rfl rfl (Nat.le_of_ble_eq_true rfl) ?_
  intro p e s m args below meth c A Q H locs ls ha hAe hQ hx hb hml hr hts hown hlk hP hK hD hS hA hG hl
  have hh : Hd Γ p s m args c cX6_advance RX6 4 wsX6_advance A := ⟨⟨hx, hb, hml, hown, hts⟩, hK, hA, hG⟩
  have hl : lv_has ls 4 [(0, .ref (a 0)), (1, .ref (a 15)), (2, .int tk)] := hl
  refine lv_iconst (v := 0) hx hb dX6_advance_0 (by decide) ?_
  refine lv_istore_n (lv' := [(3, .int 0), (0, .ref (a 0)), (1, .ref (a 15)), (2, .int tk)]) hx hb dX6_advance_1 rfl hl (by decide) rfl (fun ls hl => ?_)
  have hJ_2 : ∀ n : Nat, ∀ (i : Nat) (y : Int32) (σ1 : Lop), (y = nI i) → (i ≤ T) → (T + 1 ≤ i + n) → (lNow σ1 = nI (N + i)) → (fAdv (xSet x) (T - i) σ1 = fAdv (xSet x) T (xLoop x)) → ∀ (H : Heap) (locs : List Loc) (ls : Array Slot), va_P (gD Γ) vwCl (xW Γ a ((xSet x), (xChg x), (xTxt x), σ1, (xFst x), (xSnd x), (xCnt x), (xTs x), (xIs x), (xTrial x), (xIdeal x))) H → va_D A (xW Γ a ((xSet x), (xChg x), (xTxt x), σ1, (xFst x), (xSnd x), (xCnt x), (xTs x), (xIs x), (xTrial x), (xIdeal x))) → va_S A s.heap H locs → lv_has ls 4 [(0, .ref (a 0)), (1, .ref (a 15)), (2, .int tk), (3, .int y)] → W p l e rm_X6_advance_1 s m args below meth c H locs 0 0 Q (F0 m 2 ls []) := by
    intro n
    induction n with
    | zero =>
      intro i y σ1 ey hi hn hs hg
      omega
    | succ n ih =>
      intro i y σ1 ey hi hn hs hg H locs ls hP hD hS hl
      refine lv_iload_n hx hb dX6_advance_2 rfl (lv_at hl 3 rfl) ?_
      refine lv_iload_n hx hb dX6_advance_3 rfl (lv_at hl 2 rfl) ?_
      refine lv_icmp_ge (tgt := 22) hx hb dX6_advance_4 (by decide) (fun c_4 => ?_) (fun c_4 => ?_)
      · -- yes
        exact re_v hQ ha hx hb hr hlk hAe hP hS dX6_advance_22 (by have e : i = T := (by rw [hT, ey] at c_4; rcases Nat.lt_or_ge i T with q | q; exact absurd c_4 (nI_ge q (by omega)); omega); rw [e, Nat.sub_self] at hg; rw [hT, nI_clamp (by omega), ← hg]; simp only [xPut_loop, fAdv])
      · -- no
        refine lv_aload_n hx hb dX6_advance_7 rfl (lv_at hl 1 rfl) ?_
        refine lv_aload_n hx hb dX6_advance_8 rfl (lv_at hl 0 rfl) ?_
        refine va_get (D := gD Γ) (cl := vwCl) (tys := gTy Γ) (ci := 6) (v := .ref (a 1)) (C := RX6) (T := TX6) (N := 11) hx hb hts iX6_advance_6 hown hK hP 0 rfl rfl 0 (Nat.le_of_ble_eq_true rfl) (hts (.fieldLink RX6 12 "DeadTimeLoop" "settings" "LDeadTimeLoop$Settings;") (List.mem_of_getElem? (i := 1) rfl)) (fun _ h9 => h9) rfl dX6_advance_9 ?_
        refine lv_iconst (v := 0) hx hb dX6_advance_12 (by decide) ?_
        obtain ⟨u_13, eu_13⟩ : ∃ z : Lop, z = fTick σ1 (xSet x) 0 := ⟨_, rfl⟩
        have hM_13 : Cv Γ l yX1_tick wsX1_tick rm_X1_tick [.ref (a 15), .ref (a 1), .int 0] (lopW Γ a 15 σ1 ++ setW Γ a 1 (xSet x)) (lopW Γ a 15 u_13 ++ setW Γ a 1 (xSet x)) := by rw [eu_13]; exact c_X1_tick Γ l a 15 a 1 σ1 (xSet x) 0 (by rw [hs]; exact nI_pos (by omega))
        refine ca_Vv hh hl.1 hM_13 (cwV 2 hts gX6_advance_X1_tick rfl rfl rfl (by decide +kernel) ⟨(Nat.le_of_ble_eq_true rfl), (Nat.le_of_ble_eq_true rfl)⟩) (As := [.ref (a 1), .int 0]) (rest := []) rfl dX6_advance_13 rfl (Nat.le_of_ble_eq_true rfl) hP hD hS ([15, 16, 17, 18, 19, 20, 21, 22, 23] ++ [1, 2]) rfl (map_app2 (xB_at_loop Γ a _) (xB_at_settings Γ a _)) (q0 := 15) (ci := 1) rfl rfl rfl 11 rfl rfl (wf := xW Γ a ((xSet x), (xChg x), (xTxt x), u_13, (xFst x), (xSnd x), (xCnt x), (xTs x), (xIs x), (xTrial x), (xIdeal x))) ((va_upd_app [15, 16, 17, 18, 19, 20, 21, 22, 23] _ _ [1, 2] _ rfl).trans ((congrArg (fun z => va_upd z [1, 2] _) (xB_up_loop Γ a _ _)).trans (xB_up_settings Γ a _ _))) (xW_addr _ _ _ _) ⟨Nat.zero_le _, Nat.zero_le _⟩ (fun H locs hP hD hS => ?_)
        refine lv_iinc (v := (y + 1)) (lv' := [(3, .int (y + 1)), (0, .ref (a 0)), (1, .ref (a 15)), (2, .int tk)]) hx hb dX6_advance_16 hl (k := 3) rfl rfl (by decide) rfl (fun ls hl => ?_)
        refine lv_goto (tgt := 2) hx hb dX6_advance_19 (by decide) ?_
        exact ih (i + 1) _ u_13 (by rw [ey]; exact nI_1 i) (by have := lt_of_nle (i := i) (k := T) (by rw [← hT, ← ey]; exact c_4) (by omega) (by omega); omega) (by omega) (by rw [eu_13, fTick_now, hs]; exact nI_1 _) (by have := lt_of_nle (i := i) (k := T) (by rw [← hT, ← ey]; exact c_4) (by omega) (by omega); rw [← hg, show T - i = (T - (i + 1)) + 1 from by omega, fAdv_s, eu_13]) _ _ _ hP hD hS (lv_sub hl [1, 2, 3, 0] rfl)
  exact hJ_2 (T + 1) 0 0 (xLoop x) rfl (by omega) (by omega) hN rfl _ _ _ hP hD hS (lv_sub hl [1, 2, 3, 0] rfl)
def rm_X6_advance_2 : Room := { frames := 5, cells := 0, slots := 0, locals := 137 }
set_option maxHeartbeats 1000000 in
set_option maxRecDepth 100000 in
theorem c_X6_advance_2 (Γ : gT) (l : Launch) (a : Nat → Nat) (x : Xst) (tk : Int32) (N : Nat) (T : Nat) (hN : lNow (xTrial x) = nI N) (hN2 : N + T < 2 ^ 31) (hT : tk = nI T) : Cv Γ l yX6_advance wsX6_advance rm_X6_advance_2 [.ref (a 0), .ref (a 46), .int tk] (xW Γ a x) (xW Γ a (xPut_trial x (fAdv (xSet x) tk.toNatClampNeg (xTrial x)))) := by
  refine Cv.of (cc := cX6_advance) (own := RX6) (nL := 4) (ret := none) (by decide +kernel) rfl rfl (Nat.le_of_ble_eq_true rfl) ?_
  intro p e s m args below meth c A Q H locs ls ha hAe hQ hx hb hml hr hts hown hlk hP hK hD hS hA hG hl
  have hh : Hd Γ p s m args c cX6_advance RX6 4 wsX6_advance A := ⟨⟨hx, hb, hml, hown, hts⟩, hK, hA, hG⟩
  have hl : lv_has ls 4 [(0, .ref (a 0)), (1, .ref (a 46)), (2, .int tk)] := hl
  refine lv_iconst (v := 0) hx hb dX6_advance_0 (by decide) ?_
  refine lv_istore_n (lv' := [(3, .int 0), (0, .ref (a 0)), (1, .ref (a 46)), (2, .int tk)]) hx hb dX6_advance_1 rfl hl (by decide) rfl (fun ls hl => ?_)
  have hJ_2 : ∀ n : Nat, ∀ (i : Nat) (y : Int32) (σ1 : Lop), (y = nI i) → (i ≤ T) → (T + 1 ≤ i + n) → (lNow σ1 = nI (N + i)) → (fAdv (xSet x) (T - i) σ1 = fAdv (xSet x) T (xTrial x)) → ∀ (H : Heap) (locs : List Loc) (ls : Array Slot), va_P (gD Γ) vwCl (xW Γ a ((xSet x), (xChg x), (xTxt x), (xLoop x), (xFst x), (xSnd x), (xCnt x), (xTs x), (xIs x), σ1, (xIdeal x))) H → va_D A (xW Γ a ((xSet x), (xChg x), (xTxt x), (xLoop x), (xFst x), (xSnd x), (xCnt x), (xTs x), (xIs x), σ1, (xIdeal x))) → va_S A s.heap H locs → lv_has ls 4 [(0, .ref (a 0)), (1, .ref (a 46)), (2, .int tk), (3, .int y)] → W p l e rm_X6_advance_2 s m args below meth c H locs 0 0 Q (F0 m 2 ls []) := by
    intro n
    induction n with
    | zero =>
      intro i y σ1 ey hi hn hs hg
      omega
    | succ n ih =>
      intro i y σ1 ey hi hn hs hg H locs ls hP hD hS hl
      refine lv_iload_n hx hb dX6_advance_2 rfl (lv_at hl 3 rfl) ?_
      refine lv_iload_n hx hb dX6_advance_3 rfl (lv_at hl 2 rfl) ?_
      refine lv_icmp_ge (tgt := 22) hx hb dX6_advance_4 (by decide) (fun c_4 => ?_) (fun c_4 => ?_)
      · -- yes
        exact re_v hQ ha hx hb hr hlk hAe hP hS dX6_advance_22 (by have e : i = T := (by rw [hT, ey] at c_4; rcases Nat.lt_or_ge i T with q | q; exact absurd c_4 (nI_ge q (by omega)); omega); rw [e, Nat.sub_self] at hg; rw [hT, nI_clamp (by omega), ← hg]; simp only [xPut_trial, fAdv])
      · -- no
        refine lv_aload_n hx hb dX6_advance_7 rfl (lv_at hl 1 rfl) ?_
        refine lv_aload_n hx hb dX6_advance_8 rfl (lv_at hl 0 rfl) ?_
        refine va_get (D := gD Γ) (cl := vwCl) (tys := gTy Γ) (ci := 6) (v := .ref (a 1)) (C := RX6) (T := TX6) (N := 11) hx hb hts iX6_advance_6 hown hK hP 0 rfl rfl 0 (Nat.le_of_ble_eq_true rfl) (hts (.fieldLink RX6 12 "DeadTimeLoop" "settings" "LDeadTimeLoop$Settings;") (List.mem_of_getElem? (i := 1) rfl)) (fun _ h9 => h9) rfl dX6_advance_9 ?_
        refine lv_iconst (v := 0) hx hb dX6_advance_12 (by decide) ?_
        obtain ⟨u_13, eu_13⟩ : ∃ z : Lop, z = fTick σ1 (xSet x) 0 := ⟨_, rfl⟩
        have hM_13 : Cv Γ l yX1_tick wsX1_tick rm_X1_tick [.ref (a 46), .ref (a 1), .int 0] (lopW Γ a 46 σ1 ++ setW Γ a 1 (xSet x)) (lopW Γ a 46 u_13 ++ setW Γ a 1 (xSet x)) := by rw [eu_13]; exact c_X1_tick Γ l a 46 a 1 σ1 (xSet x) 0 (by rw [hs]; exact nI_pos (by omega))
        refine ca_Vv hh hl.1 hM_13 (cwV 2 hts gX6_advance_X1_tick rfl rfl rfl (by decide +kernel) ⟨(Nat.le_of_ble_eq_true rfl), (Nat.le_of_ble_eq_true rfl)⟩) (As := [.ref (a 1), .int 0]) (rest := []) rfl dX6_advance_13 rfl (Nat.le_of_ble_eq_true rfl) hP hD hS ([46, 47, 48, 49, 50, 51, 52, 53, 54] ++ [1, 2]) rfl (map_app2 (xB_at_trial Γ a _) (xB_at_settings Γ a _)) (q0 := 46) (ci := 1) rfl rfl rfl 11 rfl rfl (wf := xW Γ a ((xSet x), (xChg x), (xTxt x), (xLoop x), (xFst x), (xSnd x), (xCnt x), (xTs x), (xIs x), u_13, (xIdeal x))) ((va_upd_app [46, 47, 48, 49, 50, 51, 52, 53, 54] _ _ [1, 2] _ rfl).trans ((congrArg (fun z => va_upd z [1, 2] _) (xB_up_trial Γ a _ _)).trans (xB_up_settings Γ a _ _))) (xW_addr _ _ _ _) ⟨Nat.zero_le _, Nat.zero_le _⟩ (fun H locs hP hD hS => ?_)
        refine lv_iinc (v := (y + 1)) (lv' := [(3, .int (y + 1)), (0, .ref (a 0)), (1, .ref (a 46)), (2, .int tk)]) hx hb dX6_advance_16 hl (k := 3) rfl rfl (by decide) rfl (fun ls hl => ?_)
        refine lv_goto (tgt := 2) hx hb dX6_advance_19 (by decide) ?_
        exact ih (i + 1) _ u_13 (by rw [ey]; exact nI_1 i) (by have := lt_of_nle (i := i) (k := T) (by rw [← hT, ← ey]; exact c_4) (by omega) (by omega); omega) (by omega) (by rw [eu_13, fTick_now, hs]; exact nI_1 _) (by have := lt_of_nle (i := i) (k := T) (by rw [← hT, ← ey]; exact c_4) (by omega) (by omega); rw [← hg, show T - i = (T - (i + 1)) + 1 from by omega, fAdv_s, eu_13]) _ _ _ hP hD hS (lv_sub hl [1, 2, 3, 0] rfl)
  exact hJ_2 (T + 1) 0 0 (xTrial x) rfl (by omega) (by omega) hN rfl _ _ _ hP hD hS (lv_sub hl [1, 2, 3, 0] rfl)
def rm_X6_run : Room := { frames := 6, cells := 0, slots := 0, locals := 160 }
theorem iX6_run_1 : ∀ w ∈ u_ws RX1 TX1 9, w ∈ wsX6_run := fun w h => (List.mem_cons_of_mem _ (List.mem_append_left _ (List.mem_append_left _ (List.mem_append_left _ (List.mem_append_right _ h)))))
theorem iX6_run_6 : ∀ w ∈ u_ws RX6 TX6 11, w ∈ wsX6_run := fun w h => (List.mem_cons_of_mem _ (List.mem_append_left _ (List.mem_append_left _ (List.mem_append_left _ (List.mem_append_left _ (List.mem_append_right _ h))))))
set_option maxHeartbeats 1000000 in
set_option maxRecDepth 100000 in
theorem c_X6_run (Γ : gT) (l : Launch) (a : Nat → Nat) (x : Xst) (t : Int32) (N : Nat) (hN : lNow (xLoop x) = nI N) (hN2 : N < 2000000) : Ci Γ l yX6_run wsX6_run rm_X6_run [.ref (a 0), .int t] (xW Γ a x) (rRun x t) (xW Γ a (gRun x t)) := by
  refine Ci.of (cc := cX6_run) (own := RX6) (nL := 2) (ret := (some .int)) (by decide +kernel) rfl rfl (Nat.le_of_ble_eq_true rfl) ?_
  intro p e s m args below meth c A Q H locs ls ha hAe hQ hx hb hml hr hts hown hlk hP hK hD hS hA hG hl
  have hh : Hd Γ p s m args c cX6_run RX6 2 wsX6_run A := ⟨⟨hx, hb, hml, hown, hts⟩, hK, hA, hG⟩
  have hl : lv_has ls 2 [(0, .ref (a 0)), (1, .int t)] := hl
  refine lv_iload_n hx hb dX6_run_0 rfl (lv_at hl 1 rfl) ?_
  refine lv_iconst (v := 1) hx hb dX6_run_1 (by decide) ?_
  refine lv_icmp_lt (tgt := 12) hx hb dX6_run_2 (by decide) (fun c_2 => ?_) (fun c_2 => ?_)
  · -- yes
    refine lv_ldc hx hb hown (hts (.constant RX6 63 (-2000000001)) (List.mem_of_getElem? (i := 1) rfl)) dX6_run_12 ?_
    exact re_i hQ ha hx hb hr hlk hAe hP hS dX6_run_14 (by simp only [rRun, c_2, if_true, if_false]; try (subst eu_38; simp only [xPut_loop])) (by simp only [gRun, c_2, if_true, if_false])
  · -- no
    refine lv_iload_n hx hb dX6_run_5 rfl (lv_at hl 1 rfl) ?_
    refine lv_sipush (v := 500) hx hb dX6_run_6 (by decide) ?_
    refine lv_icmp_le (tgt := 15) hx hb dX6_run_9 (by decide) (fun c_9 => ?_) (fun c_9 => ?_)
    · -- yes
      refine lv_iload_n hx hb dX6_run_15 rfl (lv_at hl 1 rfl) ?_
      refine lv_ldc hx hb hown (hts (.constant RX6 134 (100000)) (List.mem_of_getElem? (i := 2) rfl)) dX6_run_16 ?_
      refine lv_aload_n hx hb dX6_run_18 rfl (lv_at hl 0 rfl) ?_
      refine va_get (D := gD Γ) (cl := vwCl) (tys := gTy Γ) (ci := 6) (v := .ref (a 15)) (C := RX6) (T := TX6) (N := 11) hx hb hts iX6_run_6 hown hK hP 0 rfl rfl 3 (Nat.le_of_ble_eq_true rfl) (hts (.fieldLink RX6 33 "DeadTimeLoop" "loop" "LDeadTimeLoop$Loop;") (List.mem_of_getElem? (i := 3) rfl)) (fun _ h9 => h9) rfl dX6_run_19 ?_
      refine va_get (D := gD Γ) (cl := vwCl) (tys := gTy Γ) (ci := 1) (v := .int (lNow (xLoop x))) (C := RX1) (T := TX1) (N := 9) hx hb hts iX6_run_1 hown hK hP 15 rfl rfl 0 (Nat.le_of_ble_eq_true rfl) (hts (.fieldLink RX6 135 "DeadTimeLoop$Loop" "now" "I") (List.mem_of_getElem? (i := 4) rfl)) (fun _ h9 => h9) rfl dX6_run_22 ?_
      refine lv_isub hx hb dX6_run_25 ?_
      refine lv_icmp_le (tgt := 32) hx hb dX6_run_26 (by decide) (fun c_26 => ?_) (fun c_26 => ?_)
      · -- yes
        refine lv_aload_n hx hb dX6_run_32 rfl (lv_at hl 0 rfl) ?_
        refine lv_aload_n hx hb dX6_run_33 rfl (lv_at hl 0 rfl) ?_
        refine va_get (D := gD Γ) (cl := vwCl) (tys := gTy Γ) (ci := 6) (v := .ref (a 15)) (C := RX6) (T := TX6) (N := 11) hx hb hts iX6_run_6 hown hK hP 0 rfl rfl 3 (Nat.le_of_ble_eq_true rfl) (hts (.fieldLink RX6 33 "DeadTimeLoop" "loop" "LDeadTimeLoop$Loop;") (List.mem_of_getElem? (i := 3) rfl)) (fun _ h9 => h9) rfl dX6_run_34 ?_
        refine lv_iload_n hx hb dX6_run_37 rfl (lv_at hl 1 rfl) ?_
        obtain ⟨u_38, eu_38⟩ : ∃ z : Xst, z = xPut_loop x (fAdv (xSet x) t.toNatClampNeg (xLoop x)) := ⟨_, rfl⟩
        have hM_38 : Cv Γ l yX6_advance wsX6_advance rm_X6_advance_1 [.ref (a 0), .ref (a 15), .int t] (xW Γ a x) (xW Γ a u_38) := by rw [eu_38]; exact c_X6_advance_1 Γ l a x t N t.toNatClampNeg hN (by have := (rngT c_2 c_9).2.1; omega) (rngT c_2 c_9).1
        refine ca_Vva hh hl.1 hM_38 (cwV 2 hts gX6_run_X6_advance rfl rfl rfl (by decide +kernel) ⟨(Nat.le_of_ble_eq_true rfl), (Nat.le_of_ble_eq_true rfl)⟩) (As := [.ref (a 15), .int t]) (rest := []) rfl dX6_run_38 rfl (Nat.le_of_ble_eq_true rfl) hP hD hS (q0 := 0) (ci := 6) rfl rfl rfl (wf := xW Γ a u_38) (xW_addr _ _ _ _) ⟨Nat.zero_le _, Nat.zero_le _⟩ (fun H locs hP hD hS => ?_)
        refine lv_aload_n hx hb dX6_run_41 rfl (lv_at hl 0 rfl) ?_
        refine va_get (D := gD Γ) (cl := vwCl) (tys := gTy Γ) (ci := 6) (v := .ref (a 15)) (C := RX6) (T := TX6) (N := 11) hx hb hts iX6_run_6 hown hK hP 0 rfl rfl 3 (Nat.le_of_ble_eq_true rfl) (hts (.fieldLink RX6 33 "DeadTimeLoop" "loop" "LDeadTimeLoop$Loop;") (List.mem_of_getElem? (i := 3) rfl)) (fun _ h9 => h9) rfl dX6_run_42 ?_
        refine va_get (D := gD Γ) (cl := vwCl) (tys := gTy Γ) (ci := 1) (v := .int (lNow (xLoop u_38))) (C := RX1) (T := TX1) (N := 9) hx hb hts iX6_run_1 hown hK hP 15 rfl rfl 0 (Nat.le_of_ble_eq_true rfl) (hts (.fieldLink RX6 135 "DeadTimeLoop$Loop" "now" "I") (List.mem_of_getElem? (i := 4) rfl)) (fun _ h9 => h9) rfl dX6_run_45 ?_
        exact re_i hQ ha hx hb hr hlk hAe hP hS dX6_run_48 (by simp only [rRun, ← eu_38, c_2, c_9, c_26, if_true, if_false]; try (subst eu_38; simp only [xPut_loop])) (by simp only [gRun, ← eu_38, c_2, c_9, c_26, if_true, if_false])
      · -- no
        refine lv_ldc hx hb hown (hts (.constant RX6 120 (-2000000003)) (List.mem_of_getElem? (i := 5) rfl)) dX6_run_29 ?_
        exact re_i hQ ha hx hb hr hlk hAe hP hS dX6_run_31 (by simp only [rRun, c_2, c_9, c_26, if_true, if_false]; try (subst eu_38; simp only [xPut_loop])) (by simp only [gRun, c_2, c_9, c_26, if_true, if_false])
    · -- no
      refine lv_ldc hx hb hown (hts (.constant RX6 63 (-2000000001)) (List.mem_of_getElem? (i := 1) rfl)) dX6_run_12 ?_
      exact re_i hQ ha hx hb hr hlk hAe hP hS dX6_run_14 (by simp only [rRun, c_2, c_9, if_true, if_false]; try (subst eu_38; simp only [xPut_loop])) (by simp only [gRun, c_2, c_9, if_true, if_false])
def rm_X6_ahead : Room := { frames := 6, cells := 0, slots := 0, locals := 160 }
theorem iX6_ahead_1 : ∀ w ∈ u_ws RX1 TX1 9, w ∈ wsX6_ahead := fun w h => (List.mem_cons_of_mem _ (List.mem_append_left _ (List.mem_append_left _ (List.mem_append_left _ (List.mem_append_right _ h)))))
theorem iX6_ahead_6 : ∀ w ∈ u_ws RX6 TX6 11, w ∈ wsX6_ahead := fun w h => (List.mem_cons_of_mem _ (List.mem_append_left _ (List.mem_append_left _ (List.mem_append_left _ (List.mem_append_left _ (List.mem_append_right _ h))))))
set_option maxHeartbeats 1000000 in
set_option maxRecDepth 100000 in
theorem c_X6_ahead (Γ : gT) (l : Launch) (a : Nat → Nat) (x : Xst) (t : Int32) (s1 : Int32) (N : Nat) (hN : lNow (xLoop x) = nI N) (hN2 : N < 2000000) (hB : lB (xLoop x)) : Ci Γ l yX6_ahead wsX6_ahead rm_X6_ahead [.ref (a 0), .int t, .int s1] (xW Γ a x) (rAhead x t s1) (xW Γ a (gAhead x t s1)) := by
  refine Ci.of (cc := cX6_ahead) (own := RX6) (nL := 3) (ret := (some .int)) (by decide +kernel) rfl rfl (Nat.le_of_ble_eq_true rfl) ?_
  intro p e s m args below meth c A Q H locs ls ha hAe hQ hx hb hml hr hts hown hlk hP hK hD hS hA hG hl
  have hh : Hd Γ p s m args c cX6_ahead RX6 3 wsX6_ahead A := ⟨⟨hx, hb, hml, hown, hts⟩, hK, hA, hG⟩
  have hl : lv_has ls 3 [(0, .ref (a 0)), (1, .int t), (2, .int s1)] := hl
  refine lv_iload_n hx hb dX6_ahead_0 rfl (lv_at hl 1 rfl) ?_
  refine lv_iconst (v := 1) hx hb dX6_ahead_1 (by decide) ?_
  refine lv_icmp_lt (tgt := 19) hx hb dX6_ahead_2 (by decide) (fun c_2 => ?_) (fun c_2 => ?_)
  · -- yes
    refine lv_ldc hx hb hown (hts (.constant RX6 63 (-2000000001)) (List.mem_of_getElem? (i := 1) rfl)) dX6_ahead_19 ?_
    exact re_i hQ ha hx hb hr hlk hAe hP hS dX6_ahead_21 (by simp only [rAhead, c_2, if_true, if_false]; try (subst eu_39; subst eu_30; simp only [xPut_trial])) (by simp only [gAhead, c_2, if_true, if_false]; try (subst eu_39; subst eu_30; simp only [xPut_trial]))
  · -- no
    refine lv_iload_n hx hb dX6_ahead_5 rfl (lv_at hl 1 rfl) ?_
    refine lv_sipush (v := 500) hx hb dX6_ahead_6 (by decide) ?_
    refine lv_icmp_gt (tgt := 19) hx hb dX6_ahead_9 (by decide) (fun c_9 => ?_) (fun c_9 => ?_)
    · -- yes
      refine lv_ldc hx hb hown (hts (.constant RX6 63 (-2000000001)) (List.mem_of_getElem? (i := 1) rfl)) dX6_ahead_19 ?_
      exact re_i hQ ha hx hb hr hlk hAe hP hS dX6_ahead_21 (by simp only [rAhead, c_2, c_9, if_true, if_false]; try (subst eu_39; subst eu_30; simp only [xPut_trial])) (by simp only [gAhead, c_2, c_9, if_true, if_false]; try (subst eu_39; subst eu_30; simp only [xPut_trial]))
    · -- no
      refine lv_iload_n hx hb dX6_ahead_12 rfl (lv_at hl 2 rfl) ?_
      refine ca_Si hh hl.1 (c_X6_isSignal Γ l s1) (va_cwS 1 hts gX6_ahead_X6_isSignal rfl rfl rfl (by decide +kernel) ⟨(Nat.le_of_ble_eq_true rfl), (Nat.le_of_ble_eq_true rfl)⟩) (As := [.int s1]) (rest := []) rfl dX6_ahead_13 rfl (Nat.le_of_ble_eq_true rfl) hP hD hS ⟨Nat.zero_le _, Nat.zero_le _⟩ (fun H locs hP hS => ?_)
      refine lv_if_ne (tgt := 22) hx hb dX6_ahead_16 (by decide) (fun c_16 => ?_) (fun c_16 => ?_)
      · -- yes
        refine lv_aload_n hx hb dX6_ahead_22 rfl (lv_at hl 0 rfl) ?_
        refine va_get (D := gD Γ) (cl := vwCl) (tys := gTy Γ) (ci := 6) (v := .ref (a 46)) (C := RX6) (T := TX6) (N := 11) hx hb hts iX6_ahead_6 hown hK hP 0 rfl rfl 9 (Nat.le_of_ble_eq_true rfl) (hts (.fieldLink RX6 53 "DeadTimeLoop" "trial" "LDeadTimeLoop$Loop;") (List.mem_of_getElem? (i := 2) rfl)) (fun _ h9 => h9) rfl dX6_ahead_23 ?_
        refine lv_aload_n hx hb dX6_ahead_26 rfl (lv_at hl 0 rfl) ?_
        refine va_get (D := gD Γ) (cl := vwCl) (tys := gTy Γ) (ci := 6) (v := .ref (a 15)) (C := RX6) (T := TX6) (N := 11) hx hb hts iX6_ahead_6 hown hK hP 0 rfl rfl 3 (Nat.le_of_ble_eq_true rfl) (hts (.fieldLink RX6 33 "DeadTimeLoop" "loop" "LDeadTimeLoop$Loop;") (List.mem_of_getElem? (i := 3) rfl)) (fun _ h9 => h9) rfl dX6_ahead_27 ?_
        obtain ⟨u_30, eu_30⟩ : ∃ z : Lop, z = fLoopCopy (xTrial x) (xLoop x) := ⟨_, rfl⟩
        have hM_30 : Cv Γ l yX1_copy wsX1_copy rm_X1_copy [.ref (a 46), .ref (a 15)] (lopW Γ a 46 (xTrial x) ++ lopW Γ a 15 (xLoop x)) (lopW Γ a 46 u_30 ++ lopW Γ a 15 (xLoop x)) := by rw [eu_30]; exact c_X1_copy Γ l a 46 a 15 (xTrial x) (xLoop x) hB
        refine ca_Vv hh hl.1 hM_30 (cwV 1 hts gX6_ahead_X1_copy rfl rfl rfl (by decide +kernel) ⟨(Nat.le_of_ble_eq_true rfl), (Nat.le_of_ble_eq_true rfl)⟩) (As := [.ref (a 15)]) (rest := []) rfl dX6_ahead_30 rfl (Nat.le_of_ble_eq_true rfl) hP hD hS ([46, 47, 48, 49, 50, 51, 52, 53, 54] ++ [15, 16, 17, 18, 19, 20, 21, 22, 23]) rfl (map_app2 (xB_at_trial Γ a _) (xB_at_loop Γ a _)) (q0 := 46) (ci := 1) rfl rfl rfl 18 rfl rfl (wf := xW Γ a ((xSet x), (xChg x), (xTxt x), (xLoop x), (xFst x), (xSnd x), (xCnt x), (xTs x), (xIs x), u_30, (xIdeal x))) ((va_upd_app [46, 47, 48, 49, 50, 51, 52, 53, 54] _ _ [15, 16, 17, 18, 19, 20, 21, 22, 23] _ rfl).trans ((congrArg (fun z => va_upd z [15, 16, 17, 18, 19, 20, 21, 22, 23] _) (xB_up_trial Γ a _ _)).trans (xB_up_loop Γ a _ _))) (xW_addr _ _ _ _) ⟨Nat.zero_le _, Nat.zero_le _⟩ (fun H locs hP hD hS => ?_)
        refine lv_aload_n hx hb dX6_ahead_33 rfl (lv_at hl 0 rfl) ?_
        refine lv_aload_n hx hb dX6_ahead_34 rfl (lv_at hl 0 rfl) ?_
        refine va_get (D := gD Γ) (cl := vwCl) (tys := gTy Γ) (ci := 6) (v := .ref (a 46)) (C := RX6) (T := TX6) (N := 11) hx hb hts iX6_ahead_6 hown hK hP 0 rfl rfl 9 (Nat.le_of_ble_eq_true rfl) (hts (.fieldLink RX6 53 "DeadTimeLoop" "trial" "LDeadTimeLoop$Loop;") (List.mem_of_getElem? (i := 2) rfl)) (fun _ h9 => h9) rfl dX6_ahead_35 ?_
        refine lv_iload_n hx hb dX6_ahead_38 rfl (lv_at hl 1 rfl) ?_
        obtain ⟨u_39, eu_39⟩ : ∃ z : Xst, z = xPut_trial ((xSet x), (xChg x), (xTxt x), (xLoop x), (xFst x), (xSnd x), (xCnt x), (xTs x), (xIs x), u_30, (xIdeal x)) (fAdv (xSet ((xSet x), (xChg x), (xTxt x), (xLoop x), (xFst x), (xSnd x), (xCnt x), (xTs x), (xIs x), u_30, (xIdeal x))) t.toNatClampNeg (xTrial ((xSet x), (xChg x), (xTxt x), (xLoop x), (xFst x), (xSnd x), (xCnt x), (xTs x), (xIs x), u_30, (xIdeal x)))) := ⟨_, rfl⟩
        have hM_39 : Cv Γ l yX6_advance wsX6_advance rm_X6_advance_2 [.ref (a 0), .ref (a 46), .int t] (xW Γ a ((xSet x), (xChg x), (xTxt x), (xLoop x), (xFst x), (xSnd x), (xCnt x), (xTs x), (xIs x), u_30, (xIdeal x))) (xW Γ a u_39) := by rw [eu_39]; exact c_X6_advance_2 Γ l a ((xSet x), (xChg x), (xTxt x), (xLoop x), (xFst x), (xSnd x), (xCnt x), (xTs x), (xIs x), u_30, (xIdeal x)) t N t.toNatClampNeg (by show lNow u_30 = nI N; rw [eu_30, fCopy_now]; exact hN) (by have := (rngT' c_2 c_9).2.1; omega) (rngT' c_2 c_9).1
        refine ca_Vva hh hl.1 hM_39 (cwV 2 hts gX6_ahead_X6_advance rfl rfl rfl (by decide +kernel) ⟨(Nat.le_of_ble_eq_true rfl), (Nat.le_of_ble_eq_true rfl)⟩) (As := [.ref (a 46), .int t]) (rest := []) rfl dX6_ahead_39 rfl (Nat.le_of_ble_eq_true rfl) hP hD hS (q0 := 0) (ci := 6) rfl rfl rfl (wf := xW Γ a u_39) (xW_addr _ _ _ _) ⟨Nat.zero_le _, Nat.zero_le _⟩ (fun H locs hP hD hS => ?_)
        refine lv_aload_n hx hb dX6_ahead_42 rfl (lv_at hl 0 rfl) ?_
        refine va_get (D := gD Γ) (cl := vwCl) (tys := gTy Γ) (ci := 6) (v := .ref (a 46)) (C := RX6) (T := TX6) (N := 11) hx hb hts iX6_ahead_6 hown hK hP 0 rfl rfl 9 (Nat.le_of_ble_eq_true rfl) (hts (.fieldLink RX6 53 "DeadTimeLoop" "trial" "LDeadTimeLoop$Loop;") (List.mem_of_getElem? (i := 2) rfl)) (fun _ h9 => h9) rfl dX6_ahead_43 ?_
        refine va_get (D := gD Γ) (cl := vwCl) (tys := gTy Γ) (ci := 1) (v := .ref (a 47)) (C := RX1) (T := TX1) (N := 9) hx hb hts iX6_ahead_1 hown hK hP 46 rfl rfl 5 (Nat.le_of_ble_eq_true rfl) (hts (.fieldLink RX6 145 "DeadTimeLoop$Loop" "present" "[I") (List.mem_of_getElem? (i := 4) rfl)) (fun _ h9 => h9) rfl dX6_ahead_46 ?_
        refine lv_iload_n hx hb dX6_ahead_49 rfl (lv_at hl 2 rfl) ?_
        refine ka_iald (D := gD Γ) (cl := vwCl) (tys := gTy Γ) hx hb hK hP 47 0 rfl rfl (s1.toNatClampNeg) (nI_of_in (fSig_in c_16) (by decide)) (in_lt (fSig_in c_16)) (by decide) (v := ((lPres (xTrial u_39)) s1.toNatClampNeg)) rfl dX6_ahead_50 ?_
        exact re_i hQ ha hx hb hr hlk hAe hP hS dX6_ahead_51 (by simp only [rAhead, c_2, c_9, c_16, if_true, if_false]; try (subst eu_39; subst eu_30; simp only [xPut_trial])) (by simp only [gAhead, c_2, c_9, c_16, if_true, if_false]; try (subst eu_39; subst eu_30; simp only [xPut_trial]))
      · -- no
        refine lv_ldc hx hb hown (hts (.constant RX6 63 (-2000000001)) (List.mem_of_getElem? (i := 1) rfl)) dX6_ahead_19 ?_
        exact re_i hQ ha hx hb hr hlk hAe hP hS dX6_ahead_21 (by simp only [rAhead, c_2, c_9, c_16, if_true, if_false]; try (subst eu_39; subst eu_30; simp only [xPut_trial])) (by simp only [gAhead, c_2, c_9, c_16, if_true, if_false]; try (subst eu_39; subst eu_30; simp only [xPut_trial]))
def rm_X6_storedAt : Room := { frames := 0, cells := 0, slots := 0, locals := 0 }
theorem iX6_storedAt_6 : ∀ w ∈ u_ws RX6 TX6 11, w ∈ wsX6_storedAt := fun w h => (List.mem_cons_of_mem _ (List.mem_append_right _ h))
set_option maxHeartbeats 1000000 in
set_option maxRecDepth 100000 in
theorem c_X6_storedAt (Γ : gT) (l : Launch) (a : Nat → Nat) (x : Xst) (k : Int32)  : Cr Γ l yX6_storedAt wsX6_storedAt rm_X6_storedAt [.ref (a 0), .int k] (xW Γ a x) (fStAt a k) (xW Γ a x) := by
  refine Cr.of (cc := cX6_storedAt) (own := RX6) (nL := 2) (ret := (some (.object "DeadTimeLoop$Loop"))) (by decide +kernel) rfl rfl (Nat.le_of_ble_eq_true rfl) ?_
  intro p e s m args below meth c A Q H locs ls ha hAe hQ hx hb hml hr hts hown hlk hP hK hD hS hA hG hl
  have hh : Hd Γ p s m args c cX6_storedAt RX6 2 wsX6_storedAt A := ⟨⟨hx, hb, hml, hown, hts⟩, hK, hA, hG⟩
  have hl : lv_has ls 2 [(0, .ref (a 0)), (1, .int k)] := hl
  refine lv_iload_n hx hb dX6_storedAt_0 rfl (lv_at hl 1 rfl) ?_
  refine lv_if_ne (tgt := 11) hx hb dX6_storedAt_1 (by decide) (fun c_1 => ?_) (fun c_1 => ?_)
  · -- yes
    refine lv_aload_n hx hb dX6_storedAt_11 rfl (lv_at hl 0 rfl) ?_
    refine va_get (D := gD Γ) (cl := vwCl) (tys := gTy Γ) (ci := 6) (v := .ref (a 33)) (C := RX6) (T := TX6) (N := 11) hx hb hts iX6_storedAt_6 hown hK hP 0 rfl rfl 5 (Nat.le_of_ble_eq_true rfl) (hts (.fieldLink RX6 40 "DeadTimeLoop" "secondStored" "LDeadTimeLoop$Loop;") (List.mem_of_getElem? (i := 2) rfl)) (fun _ h9 => h9) rfl dX6_storedAt_12 ?_
    exact re_a hQ ha hx hb hr hlk hAe hP hS dX6_storedAt_15 (Or.inl ⟨_, rfl⟩) (by simp [fStAt, c_1]) rfl
  · -- no
    refine lv_aload_n hx hb dX6_storedAt_4 rfl (lv_at hl 0 rfl) ?_
    refine va_get (D := gD Γ) (cl := vwCl) (tys := gTy Γ) (ci := 6) (v := .ref (a 24)) (C := RX6) (T := TX6) (N := 11) hx hb hts iX6_storedAt_6 hown hK hP 0 rfl rfl 4 (Nat.le_of_ble_eq_true rfl) (hts (.fieldLink RX6 37 "DeadTimeLoop" "firstStored" "LDeadTimeLoop$Loop;") (List.mem_of_getElem? (i := 1) rfl)) (fun _ h9 => h9) rfl dX6_storedAt_5 ?_
    refine lv_goto (tgt := 15) hx hb dX6_storedAt_8 (by decide) ?_
    exact re_a hQ ha hx hb hr hlk hAe hP hS dX6_storedAt_15 (Or.inl ⟨_, rfl⟩) (by simp [fStAt, c_1]) rfl
def rm_X6_store : Room := { frames := 3, cells := 0, slots := 0, locals := 70 }
theorem iX6_store_6 : ∀ w ∈ u_ws RX6 TX6 11, w ∈ wsX6_store := fun w h => (List.mem_cons_of_mem _ (List.mem_append_left _ (List.mem_append_left _ (List.mem_append_left _ (List.mem_append_right _ h)))))
set_option maxHeartbeats 1000000 in
set_option maxRecDepth 100000 in
theorem c_X6_store (Γ : gT) (l : Launch) (a : Nat → Nat) (x : Xst) (hs : xCnt x = 0 ∨ xCnt x = 1 ∨ xCnt x = 2) (hB : lB (xLoop x)) : Ci Γ l yX6_store wsX6_store rm_X6_store [.ref (a 0)] (xW Γ a x) (rStore x) (xW Γ a (gStore x)) := by
  refine Ci.of (cc := cX6_store) (own := RX6) (nL := 1) (ret := (some .int)) (by decide +kernel) rfl rfl (Nat.le_of_ble_eq_true rfl) ?_
  intro p e s m args below meth c A Q H locs ls ha hAe hQ hx hb hml hr hts hown hlk hP hK hD hS hA hG hl
  have hh : Hd Γ p s m args c cX6_store RX6 1 wsX6_store A := ⟨⟨hx, hb, hml, hown, hts⟩, hK, hA, hG⟩
  have hl : lv_has ls 1 [(0, .ref (a 0))] := hl
  obtain ⟨x1, x2, x3, x4, x5, x6, xc, x8, x9, x10, x11⟩ := x
  change xc = 0 ∨ xc = 1 ∨ xc = 2 at hs
  rcases hs with rfl | rfl | rfl
  · --
    refine lv_aload_n hx hb dX6_store_0 rfl (lv_at hl 0 rfl) ?_
    refine va_get (D := gD Γ) (cl := vwCl) (tys := gTy Γ) (ci := 6) (v := .int 0) (C := RX6) (T := TX6) (N := 11) hx hb hts iX6_store_6 hown hK hP 0 rfl rfl 6 (Nat.le_of_ble_eq_true rfl) (hts (.fieldLink RX6 43 "DeadTimeLoop" "storedStates" "I") (List.mem_of_getElem? (i := 1) rfl)) (fun _ h9 => h9) rfl dX6_store_1 ?_
    refine lv_iconst (v := 2) hx hb dX6_store_4 (by decide) ?_
    refine lv_icmp_lt (tgt := 11) hx hb dX6_store_5 (by decide) (fun _ => ?_) (fun c => (c (by decide)).elim)
    refine lv_aload_n hx hb dX6_store_11 rfl (lv_at hl 0 rfl) ?_
    refine lv_aload_n hx hb dX6_store_12 rfl (lv_at hl 0 rfl) ?_
    refine va_get (D := gD Γ) (cl := vwCl) (tys := gTy Γ) (ci := 6) (v := .int 0) (C := RX6) (T := TX6) (N := 11) hx hb hts iX6_store_6 hown hK hP 0 rfl rfl 6 (Nat.le_of_ble_eq_true rfl) (hts (.fieldLink RX6 43 "DeadTimeLoop" "storedStates" "I") (List.mem_of_getElem? (i := 1) rfl)) (fun _ h9 => h9) rfl dX6_store_13 ?_
    refine ca_Vra hh hl.1 (c_X6_storedAt Γ l a (x1, x2, x3, x4, x5, x6, 0, x8, x9, x10, x11) 0) (cwV 1 hts gX6_store_X6_storedAt rfl rfl rfl (by decide +kernel) ⟨(Nat.le_of_ble_eq_true rfl), (Nat.le_of_ble_eq_true rfl)⟩) (As := [.int 0]) (rest := []) rfl dX6_store_16 rfl (Nat.le_of_ble_eq_true rfl) hP hD hS (q0 := 0) (ci := 6) rfl rfl rfl (wf := xW Γ a (x1, x2, x3, x4, x5, x6, 0, x8, x9, x10, x11)) (xW_addr _ _ _ _) ⟨Nat.zero_le _, Nat.zero_le _⟩ (fun H locs hP hD hS => ?_)
    refine W.eq (g2 := F0 m 19 ls [.ref (a 24)]) (by rw [show fStAt a 0 = a 24 from if_pos (by decide)]) ?_
    refine lv_aload_n hx hb dX6_store_19 rfl (lv_at hl 0 rfl) ?_
    refine va_get (D := gD Γ) (cl := vwCl) (tys := gTy Γ) (ci := 6) (v := .ref (a 15)) (C := RX6) (T := TX6) (N := 11) hx hb hts iX6_store_6 hown hK hP 0 rfl rfl 3 (Nat.le_of_ble_eq_true rfl) (hts (.fieldLink RX6 33 "DeadTimeLoop" "loop" "LDeadTimeLoop$Loop;") (List.mem_of_getElem? (i := 3) rfl)) (fun _ h9 => h9) rfl dX6_store_20 ?_
    obtain ⟨u_23, eu_23⟩ : ∃ z : Lop, z = fLoopCopy x5 x4 := ⟨_, rfl⟩
    have hM_23 : Cv Γ l yX1_copy wsX1_copy rm_X1_copy [.ref (a 24), .ref (a 15)] (lopW Γ a 24 x5 ++ lopW Γ a 15 x4) (lopW Γ a 24 u_23 ++ lopW Γ a 15 x4) := by rw [eu_23]; exact c_X1_copy Γ l a 24 a 15 x5 x4 hB
    refine ca_Vv hh hl.1 hM_23 (cwV 1 hts gX6_store_X1_copy rfl rfl rfl (by decide +kernel) ⟨(Nat.le_of_ble_eq_true rfl), (Nat.le_of_ble_eq_true rfl)⟩) (As := [.ref (a 15)]) (rest := []) rfl dX6_store_23 rfl (Nat.le_of_ble_eq_true rfl) hP hD hS ([24, 25, 26, 27, 28, 29, 30, 31, 32] ++ [15, 16, 17, 18, 19, 20, 21, 22, 23]) rfl (map_app2 (xB_at_firstStored Γ a _) (xB_at_loop Γ a _)) (q0 := 24) (ci := 1) rfl rfl rfl 18 rfl rfl (wf := xW Γ a (x1, x2, x3, x4, u_23, x6, 0, x8, x9, x10, x11)) ((va_upd_app [24, 25, 26, 27, 28, 29, 30, 31, 32] _ _ [15, 16, 17, 18, 19, 20, 21, 22, 23] _ rfl).trans ((congrArg (fun z => va_upd z [15, 16, 17, 18, 19, 20, 21, 22, 23] _) (xB_up_firstStored Γ a _ _)).trans (xB_up_loop Γ a _ _))) (xW_addr _ _ _ _) ⟨Nat.zero_le _, Nat.zero_le _⟩ (fun H locs hP hD hS => ?_)
    refine lv_aload_n hx hb dX6_store_26 rfl (lv_at hl 0 rfl) ?_
    refine lv_dup hx hb dX6_store_27 rfl ?_
    refine va_get (D := gD Γ) (cl := vwCl) (tys := gTy Γ) (ci := 6) (v := .int 0) (C := RX6) (T := TX6) (N := 11) hx hb hts iX6_store_6 hown hK hP 0 rfl rfl 6 (Nat.le_of_ble_eq_true rfl) (hts (.fieldLink RX6 43 "DeadTimeLoop" "storedStates" "I") (List.mem_of_getElem? (i := 1) rfl)) (fun _ h9 => h9) rfl dX6_store_28 ?_
    refine lv_iconst (v := 1) hx hb dX6_store_31 (by decide) ?_
    refine lv_iadd hx hb dX6_store_32 ?_
    refine va_put (D := gD Γ) (cl := vwCl) (tys := gTy Γ) (ci := 6) (v := .int (0 + 1)) (ty := tyX6 6) (C := RX6) (T := TX6) (N := 11) hx hb hts iX6_store_6 tyX6 tyX6_ok nmX6 hown hK hP hD hS 0 rfl rfl 6 (Nat.le_of_ble_eq_true rfl) (hts (.fieldLink RX6 43 "DeadTimeLoop" "storedStates" "I") (List.mem_of_getElem? (i := 1) rfl)) (fun _ h9 => h9) rfl (tyX6_ok 6 (Nat.le_of_ble_eq_true rfl)) rfl rfl (Nat.le_of_ble_eq_true rfl) dX6_store_33 (fun H locs hP hD hS => ?_)
    have hP : va_P (gD Γ) vwCl (xW Γ a (x1, x2, x3, x4, u_23, x6, (0 + 1), x8, x9, x10, x11)) H := hP
    have hD : va_D A (xW Γ a (x1, x2, x3, x4, u_23, x6, (0 + 1), x8, x9, x10, x11)) := hD
    refine lv_aload_n hx hb dX6_store_36 rfl (lv_at hl 0 rfl) ?_
    refine va_get (D := gD Γ) (cl := vwCl) (tys := gTy Γ) (ci := 6) (v := .int (0 + 1)) (C := RX6) (T := TX6) (N := 11) hx hb hts iX6_store_6 hown hK hP 0 rfl rfl 6 (Nat.le_of_ble_eq_true rfl) (hts (.fieldLink RX6 43 "DeadTimeLoop" "storedStates" "I") (List.mem_of_getElem? (i := 1) rfl)) (fun _ h9 => h9) rfl dX6_store_37 ?_
    exact re_i hQ ha hx hb hr hlk hAe hP hS dX6_store_40 rfl (by subst eu_23; rfl)
  · --
    refine lv_aload_n hx hb dX6_store_0 rfl (lv_at hl 0 rfl) ?_
    refine va_get (D := gD Γ) (cl := vwCl) (tys := gTy Γ) (ci := 6) (v := .int 1) (C := RX6) (T := TX6) (N := 11) hx hb hts iX6_store_6 hown hK hP 0 rfl rfl 6 (Nat.le_of_ble_eq_true rfl) (hts (.fieldLink RX6 43 "DeadTimeLoop" "storedStates" "I") (List.mem_of_getElem? (i := 1) rfl)) (fun _ h9 => h9) rfl dX6_store_1 ?_
    refine lv_iconst (v := 2) hx hb dX6_store_4 (by decide) ?_
    refine lv_icmp_lt (tgt := 11) hx hb dX6_store_5 (by decide) (fun _ => ?_) (fun c => (c (by decide)).elim)
    refine lv_aload_n hx hb dX6_store_11 rfl (lv_at hl 0 rfl) ?_
    refine lv_aload_n hx hb dX6_store_12 rfl (lv_at hl 0 rfl) ?_
    refine va_get (D := gD Γ) (cl := vwCl) (tys := gTy Γ) (ci := 6) (v := .int 1) (C := RX6) (T := TX6) (N := 11) hx hb hts iX6_store_6 hown hK hP 0 rfl rfl 6 (Nat.le_of_ble_eq_true rfl) (hts (.fieldLink RX6 43 "DeadTimeLoop" "storedStates" "I") (List.mem_of_getElem? (i := 1) rfl)) (fun _ h9 => h9) rfl dX6_store_13 ?_
    refine ca_Vra hh hl.1 (c_X6_storedAt Γ l a (x1, x2, x3, x4, x5, x6, 1, x8, x9, x10, x11) 1) (cwV 1 hts gX6_store_X6_storedAt rfl rfl rfl (by decide +kernel) ⟨(Nat.le_of_ble_eq_true rfl), (Nat.le_of_ble_eq_true rfl)⟩) (As := [.int 1]) (rest := []) rfl dX6_store_16 rfl (Nat.le_of_ble_eq_true rfl) hP hD hS (q0 := 0) (ci := 6) rfl rfl rfl (wf := xW Γ a (x1, x2, x3, x4, x5, x6, 1, x8, x9, x10, x11)) (xW_addr _ _ _ _) ⟨Nat.zero_le _, Nat.zero_le _⟩ (fun H locs hP hD hS => ?_)
    refine W.eq (g2 := F0 m 19 ls [.ref (a 33)]) (by rw [show fStAt a 1 = a 33 from if_neg (by decide)]) ?_
    refine lv_aload_n hx hb dX6_store_19 rfl (lv_at hl 0 rfl) ?_
    refine va_get (D := gD Γ) (cl := vwCl) (tys := gTy Γ) (ci := 6) (v := .ref (a 15)) (C := RX6) (T := TX6) (N := 11) hx hb hts iX6_store_6 hown hK hP 0 rfl rfl 3 (Nat.le_of_ble_eq_true rfl) (hts (.fieldLink RX6 33 "DeadTimeLoop" "loop" "LDeadTimeLoop$Loop;") (List.mem_of_getElem? (i := 3) rfl)) (fun _ h9 => h9) rfl dX6_store_20 ?_
    obtain ⟨u_23b, eu_23b⟩ : ∃ z : Lop, z = fLoopCopy x6 x4 := ⟨_, rfl⟩
    have hM_23b : Cv Γ l yX1_copy wsX1_copy rm_X1_copy [.ref (a 33), .ref (a 15)] (lopW Γ a 33 x6 ++ lopW Γ a 15 x4) (lopW Γ a 33 u_23b ++ lopW Γ a 15 x4) := by rw [eu_23b]; exact c_X1_copy Γ l a 33 a 15 x6 x4 hB
    refine ca_Vv hh hl.1 hM_23b (cwV 1 hts gX6_store_X1_copy rfl rfl rfl (by decide +kernel) ⟨(Nat.le_of_ble_eq_true rfl), (Nat.le_of_ble_eq_true rfl)⟩) (As := [.ref (a 15)]) (rest := []) rfl dX6_store_23 rfl (Nat.le_of_ble_eq_true rfl) hP hD hS ([33, 34, 35, 36, 37, 38, 39, 40, 41] ++ [15, 16, 17, 18, 19, 20, 21, 22, 23]) rfl (map_app2 (xB_at_secondStored Γ a _) (xB_at_loop Γ a _)) (q0 := 33) (ci := 1) rfl rfl rfl 18 rfl rfl (wf := xW Γ a (x1, x2, x3, x4, x5, u_23b, 1, x8, x9, x10, x11)) ((va_upd_app [33, 34, 35, 36, 37, 38, 39, 40, 41] _ _ [15, 16, 17, 18, 19, 20, 21, 22, 23] _ rfl).trans ((congrArg (fun z => va_upd z [15, 16, 17, 18, 19, 20, 21, 22, 23] _) (xB_up_secondStored Γ a _ _)).trans (xB_up_loop Γ a _ _))) (xW_addr _ _ _ _) ⟨Nat.zero_le _, Nat.zero_le _⟩ (fun H locs hP hD hS => ?_)
    refine lv_aload_n hx hb dX6_store_26 rfl (lv_at hl 0 rfl) ?_
    refine lv_dup hx hb dX6_store_27 rfl ?_
    refine va_get (D := gD Γ) (cl := vwCl) (tys := gTy Γ) (ci := 6) (v := .int 1) (C := RX6) (T := TX6) (N := 11) hx hb hts iX6_store_6 hown hK hP 0 rfl rfl 6 (Nat.le_of_ble_eq_true rfl) (hts (.fieldLink RX6 43 "DeadTimeLoop" "storedStates" "I") (List.mem_of_getElem? (i := 1) rfl)) (fun _ h9 => h9) rfl dX6_store_28 ?_
    refine lv_iconst (v := 1) hx hb dX6_store_31 (by decide) ?_
    refine lv_iadd hx hb dX6_store_32 ?_
    refine va_put (D := gD Γ) (cl := vwCl) (tys := gTy Γ) (ci := 6) (v := .int (1 + 1)) (ty := tyX6 6) (C := RX6) (T := TX6) (N := 11) hx hb hts iX6_store_6 tyX6 tyX6_ok nmX6 hown hK hP hD hS 0 rfl rfl 6 (Nat.le_of_ble_eq_true rfl) (hts (.fieldLink RX6 43 "DeadTimeLoop" "storedStates" "I") (List.mem_of_getElem? (i := 1) rfl)) (fun _ h9 => h9) rfl (tyX6_ok 6 (Nat.le_of_ble_eq_true rfl)) rfl rfl (Nat.le_of_ble_eq_true rfl) dX6_store_33 (fun H locs hP hD hS => ?_)
    have hP : va_P (gD Γ) vwCl (xW Γ a (x1, x2, x3, x4, x5, u_23b, (1 + 1), x8, x9, x10, x11)) H := hP
    have hD : va_D A (xW Γ a (x1, x2, x3, x4, x5, u_23b, (1 + 1), x8, x9, x10, x11)) := hD
    refine lv_aload_n hx hb dX6_store_36 rfl (lv_at hl 0 rfl) ?_
    refine va_get (D := gD Γ) (cl := vwCl) (tys := gTy Γ) (ci := 6) (v := .int (1 + 1)) (C := RX6) (T := TX6) (N := 11) hx hb hts iX6_store_6 hown hK hP 0 rfl rfl 6 (Nat.le_of_ble_eq_true rfl) (hts (.fieldLink RX6 43 "DeadTimeLoop" "storedStates" "I") (List.mem_of_getElem? (i := 1) rfl)) (fun _ h9 => h9) rfl dX6_store_37 ?_
    exact re_i hQ ha hx hb hr hlk hAe hP hS dX6_store_40 rfl (by subst eu_23b; rfl)
  · --
    refine lv_aload_n hx hb dX6_store_0 rfl (lv_at hl 0 rfl) ?_
    refine va_get (D := gD Γ) (cl := vwCl) (tys := gTy Γ) (ci := 6) (v := .int 2) (C := RX6) (T := TX6) (N := 11) hx hb hts iX6_store_6 hown hK hP 0 rfl rfl 6 (Nat.le_of_ble_eq_true rfl) (hts (.fieldLink RX6 43 "DeadTimeLoop" "storedStates" "I") (List.mem_of_getElem? (i := 1) rfl)) (fun _ h9 => h9) rfl dX6_store_1 ?_
    refine lv_iconst (v := 2) hx hb dX6_store_4 (by decide) ?_
    refine lv_icmp_lt (tgt := 11) hx hb dX6_store_5 (by decide) (fun c => absurd c (by decide)) (fun _ => ?_)
    refine lv_ldc hx hb hown (hts (.constant RX6 120 (-2000000003)) (List.mem_of_getElem? (i := 2) rfl)) dX6_store_8 ?_
    exact re_i hQ ha hx hb hr hlk hAe hP hS dX6_store_10 rfl (by skip; rfl)
def rm_X6_recall : Room := { frames := 3, cells := 0, slots := 0, locals := 70 }
theorem iX6_recall_6 : ∀ w ∈ u_ws RX6 TX6 11, w ∈ wsX6_recall := fun w h => (List.mem_cons_of_mem _ (List.mem_append_left _ (List.mem_append_left _ (List.mem_append_left _ (List.mem_append_right _ h)))))
set_option maxHeartbeats 1000000 in
set_option maxRecDepth 100000 in
theorem c_X6_recall (Γ : gT) (l : Launch) (a : Nat → Nat) (x : Xst) (hs : xCnt x = 0 ∨ xCnt x = 1 ∨ xCnt x = 2) (hB1 : lB (xFst x)) (hB2 : lB (xSnd x)) : Ci Γ l yX6_recall wsX6_recall rm_X6_recall [.ref (a 0)] (xW Γ a x) (rRecall x) (xW Γ a (gRecall x)) := by
  refine Ci.of (cc := cX6_recall) (own := RX6) (nL := 1) (ret := (some .int)) (by decide +kernel) rfl rfl (Nat.le_of_ble_eq_true rfl) ?_
  intro p e s m args below meth c A Q H locs ls ha hAe hQ hx hb hml hr hts hown hlk hP hK hD hS hA hG hl
  have hh : Hd Γ p s m args c cX6_recall RX6 1 wsX6_recall A := ⟨⟨hx, hb, hml, hown, hts⟩, hK, hA, hG⟩
  have hl : lv_has ls 1 [(0, .ref (a 0))] := hl
  obtain ⟨x1, x2, x3, x4, x5, x6, xc, x8, x9, x10, x11⟩ := x
  change xc = 0 ∨ xc = 1 ∨ xc = 2 at hs
  rcases hs with rfl | rfl | rfl
  · --
    refine lv_aload_n hx hb dX6_recall_0 rfl (lv_at hl 0 rfl) ?_
    refine va_get (D := gD Γ) (cl := vwCl) (tys := gTy Γ) (ci := 6) (v := .int 0) (C := RX6) (T := TX6) (N := 11) hx hb hts iX6_recall_6 hown hK hP 0 rfl rfl 6 (Nat.le_of_ble_eq_true rfl) (hts (.fieldLink RX6 43 "DeadTimeLoop" "storedStates" "I") (List.mem_of_getElem? (i := 1) rfl)) (fun _ h9 => h9) rfl dX6_recall_1 ?_
    refine lv_if_ne (tgt := 10) hx hb dX6_recall_4 (by decide) (fun c => (c (by decide)).elim) (fun _ => ?_)
    refine lv_ldc hx hb hown (hts (.constant RX6 98 (-2000000002)) (List.mem_of_getElem? (i := 2) rfl)) dX6_recall_7 ?_
    exact re_i hQ ha hx hb hr hlk hAe hP hS dX6_recall_9 rfl (by skip; rfl)
  · --
    refine lv_aload_n hx hb dX6_recall_0 rfl (lv_at hl 0 rfl) ?_
    refine va_get (D := gD Γ) (cl := vwCl) (tys := gTy Γ) (ci := 6) (v := .int 1) (C := RX6) (T := TX6) (N := 11) hx hb hts iX6_recall_6 hown hK hP 0 rfl rfl 6 (Nat.le_of_ble_eq_true rfl) (hts (.fieldLink RX6 43 "DeadTimeLoop" "storedStates" "I") (List.mem_of_getElem? (i := 1) rfl)) (fun _ h9 => h9) rfl dX6_recall_1 ?_
    refine lv_if_ne (tgt := 10) hx hb dX6_recall_4 (by decide) (fun _ => ?_) (fun c => absurd c (by decide))
    refine lv_aload_n hx hb dX6_recall_10 rfl (lv_at hl 0 rfl) ?_
    refine lv_dup hx hb dX6_recall_11 rfl ?_
    refine va_get (D := gD Γ) (cl := vwCl) (tys := gTy Γ) (ci := 6) (v := .int 1) (C := RX6) (T := TX6) (N := 11) hx hb hts iX6_recall_6 hown hK hP 0 rfl rfl 6 (Nat.le_of_ble_eq_true rfl) (hts (.fieldLink RX6 43 "DeadTimeLoop" "storedStates" "I") (List.mem_of_getElem? (i := 1) rfl)) (fun _ h9 => h9) rfl dX6_recall_12 ?_
    refine lv_iconst (v := 1) hx hb dX6_recall_15 (by decide) ?_
    refine lv_isub hx hb dX6_recall_16 ?_
    refine va_put (D := gD Γ) (cl := vwCl) (tys := gTy Γ) (ci := 6) (v := .int (1 - 1)) (ty := tyX6 6) (C := RX6) (T := TX6) (N := 11) hx hb hts iX6_recall_6 tyX6 tyX6_ok nmX6 hown hK hP hD hS 0 rfl rfl 6 (Nat.le_of_ble_eq_true rfl) (hts (.fieldLink RX6 43 "DeadTimeLoop" "storedStates" "I") (List.mem_of_getElem? (i := 1) rfl)) (fun _ h9 => h9) rfl (tyX6_ok 6 (Nat.le_of_ble_eq_true rfl)) rfl rfl (Nat.le_of_ble_eq_true rfl) dX6_recall_17 (fun H locs hP hD hS => ?_)
    have hP : va_P (gD Γ) vwCl (xW Γ a (x1, x2, x3, x4, x5, x6, (1 - 1), x8, x9, x10, x11)) H := hP
    have hD : va_D A (xW Γ a (x1, x2, x3, x4, x5, x6, (1 - 1), x8, x9, x10, x11)) := hD
    refine lv_aload_n hx hb dX6_recall_20 rfl (lv_at hl 0 rfl) ?_
    refine va_get (D := gD Γ) (cl := vwCl) (tys := gTy Γ) (ci := 6) (v := .ref (a 15)) (C := RX6) (T := TX6) (N := 11) hx hb hts iX6_recall_6 hown hK hP 0 rfl rfl 3 (Nat.le_of_ble_eq_true rfl) (hts (.fieldLink RX6 33 "DeadTimeLoop" "loop" "LDeadTimeLoop$Loop;") (List.mem_of_getElem? (i := 3) rfl)) (fun _ h9 => h9) rfl dX6_recall_21 ?_
    refine lv_aload_n hx hb dX6_recall_24 rfl (lv_at hl 0 rfl) ?_
    refine lv_aload_n hx hb dX6_recall_25 rfl (lv_at hl 0 rfl) ?_
    refine va_get (D := gD Γ) (cl := vwCl) (tys := gTy Γ) (ci := 6) (v := .int (1 - 1)) (C := RX6) (T := TX6) (N := 11) hx hb hts iX6_recall_6 hown hK hP 0 rfl rfl 6 (Nat.le_of_ble_eq_true rfl) (hts (.fieldLink RX6 43 "DeadTimeLoop" "storedStates" "I") (List.mem_of_getElem? (i := 1) rfl)) (fun _ h9 => h9) rfl dX6_recall_26 ?_
    refine ca_Vra hh hl.1 (c_X6_storedAt Γ l a (x1, x2, x3, x4, x5, x6, (1 - 1), x8, x9, x10, x11) (1 - 1)) (cwV 1 hts gX6_recall_X6_storedAt rfl rfl rfl (by decide +kernel) ⟨(Nat.le_of_ble_eq_true rfl), (Nat.le_of_ble_eq_true rfl)⟩) (As := [.int (1 - 1)]) (rest := [.ref (a 15)]) rfl dX6_recall_29 rfl (Nat.le_of_ble_eq_true rfl) hP hD hS (q0 := 0) (ci := 6) rfl rfl rfl (wf := xW Γ a (x1, x2, x3, x4, x5, x6, (1 - 1), x8, x9, x10, x11)) (xW_addr _ _ _ _) ⟨Nat.zero_le _, Nat.zero_le _⟩ (fun H locs hP hD hS => ?_)
    refine W.eq (g2 := F0 m 32 ls [.ref (a 24), .ref (a 15)]) (by rw [show fStAt a (1 - 1) = a 24 from if_pos (by decide)]) ?_
    obtain ⟨u_32, eu_32⟩ : ∃ z : Lop, z = fLoopCopy x4 x5 := ⟨_, rfl⟩
    have hM_32 : Cv Γ l yX1_copy wsX1_copy rm_X1_copy [.ref (a 15), .ref (a 24)] (lopW Γ a 15 x4 ++ lopW Γ a 24 x5) (lopW Γ a 15 u_32 ++ lopW Γ a 24 x5) := by rw [eu_32]; exact c_X1_copy Γ l a 15 a 24 x4 x5 (by first | exact hB1 | exact hB2)
    refine ca_Vv hh hl.1 hM_32 (cwV 1 hts gX6_recall_X1_copy rfl rfl rfl (by decide +kernel) ⟨(Nat.le_of_ble_eq_true rfl), (Nat.le_of_ble_eq_true rfl)⟩) (As := [.ref (a 24)]) (rest := []) rfl dX6_recall_32 rfl (Nat.le_of_ble_eq_true rfl) hP hD hS ([15, 16, 17, 18, 19, 20, 21, 22, 23] ++ [24, 25, 26, 27, 28, 29, 30, 31, 32]) rfl (map_app2 (xB_at_loop Γ a _) (xB_at_firstStored Γ a _)) (q0 := 15) (ci := 1) rfl rfl rfl 18 rfl rfl (wf := xW Γ a (x1, x2, x3, u_32, x5, x6, (1 - 1), x8, x9, x10, x11)) ((va_upd_app [15, 16, 17, 18, 19, 20, 21, 22, 23] _ _ [24, 25, 26, 27, 28, 29, 30, 31, 32] _ rfl).trans ((congrArg (fun z => va_upd z [24, 25, 26, 27, 28, 29, 30, 31, 32] _) (xB_up_loop Γ a _ _)).trans (xB_up_firstStored Γ a _ _))) (xW_addr _ _ _ _) ⟨Nat.zero_le _, Nat.zero_le _⟩ (fun H locs hP hD hS => ?_)
    refine lv_aload_n hx hb dX6_recall_35 rfl (lv_at hl 0 rfl) ?_
    refine va_get (D := gD Γ) (cl := vwCl) (tys := gTy Γ) (ci := 6) (v := .int (1 - 1)) (C := RX6) (T := TX6) (N := 11) hx hb hts iX6_recall_6 hown hK hP 0 rfl rfl 6 (Nat.le_of_ble_eq_true rfl) (hts (.fieldLink RX6 43 "DeadTimeLoop" "storedStates" "I") (List.mem_of_getElem? (i := 1) rfl)) (fun _ h9 => h9) rfl dX6_recall_36 ?_
    exact re_i hQ ha hx hb hr hlk hAe hP hS dX6_recall_39 rfl (by subst eu_32; rfl)
  · --
    refine lv_aload_n hx hb dX6_recall_0 rfl (lv_at hl 0 rfl) ?_
    refine va_get (D := gD Γ) (cl := vwCl) (tys := gTy Γ) (ci := 6) (v := .int 2) (C := RX6) (T := TX6) (N := 11) hx hb hts iX6_recall_6 hown hK hP 0 rfl rfl 6 (Nat.le_of_ble_eq_true rfl) (hts (.fieldLink RX6 43 "DeadTimeLoop" "storedStates" "I") (List.mem_of_getElem? (i := 1) rfl)) (fun _ h9 => h9) rfl dX6_recall_1 ?_
    refine lv_if_ne (tgt := 10) hx hb dX6_recall_4 (by decide) (fun _ => ?_) (fun c => absurd c (by decide))
    refine lv_aload_n hx hb dX6_recall_10 rfl (lv_at hl 0 rfl) ?_
    refine lv_dup hx hb dX6_recall_11 rfl ?_
    refine va_get (D := gD Γ) (cl := vwCl) (tys := gTy Γ) (ci := 6) (v := .int 2) (C := RX6) (T := TX6) (N := 11) hx hb hts iX6_recall_6 hown hK hP 0 rfl rfl 6 (Nat.le_of_ble_eq_true rfl) (hts (.fieldLink RX6 43 "DeadTimeLoop" "storedStates" "I") (List.mem_of_getElem? (i := 1) rfl)) (fun _ h9 => h9) rfl dX6_recall_12 ?_
    refine lv_iconst (v := 1) hx hb dX6_recall_15 (by decide) ?_
    refine lv_isub hx hb dX6_recall_16 ?_
    refine va_put (D := gD Γ) (cl := vwCl) (tys := gTy Γ) (ci := 6) (v := .int (2 - 1)) (ty := tyX6 6) (C := RX6) (T := TX6) (N := 11) hx hb hts iX6_recall_6 tyX6 tyX6_ok nmX6 hown hK hP hD hS 0 rfl rfl 6 (Nat.le_of_ble_eq_true rfl) (hts (.fieldLink RX6 43 "DeadTimeLoop" "storedStates" "I") (List.mem_of_getElem? (i := 1) rfl)) (fun _ h9 => h9) rfl (tyX6_ok 6 (Nat.le_of_ble_eq_true rfl)) rfl rfl (Nat.le_of_ble_eq_true rfl) dX6_recall_17 (fun H locs hP hD hS => ?_)
    have hP : va_P (gD Γ) vwCl (xW Γ a (x1, x2, x3, x4, x5, x6, (2 - 1), x8, x9, x10, x11)) H := hP
    have hD : va_D A (xW Γ a (x1, x2, x3, x4, x5, x6, (2 - 1), x8, x9, x10, x11)) := hD
    refine lv_aload_n hx hb dX6_recall_20 rfl (lv_at hl 0 rfl) ?_
    refine va_get (D := gD Γ) (cl := vwCl) (tys := gTy Γ) (ci := 6) (v := .ref (a 15)) (C := RX6) (T := TX6) (N := 11) hx hb hts iX6_recall_6 hown hK hP 0 rfl rfl 3 (Nat.le_of_ble_eq_true rfl) (hts (.fieldLink RX6 33 "DeadTimeLoop" "loop" "LDeadTimeLoop$Loop;") (List.mem_of_getElem? (i := 3) rfl)) (fun _ h9 => h9) rfl dX6_recall_21 ?_
    refine lv_aload_n hx hb dX6_recall_24 rfl (lv_at hl 0 rfl) ?_
    refine lv_aload_n hx hb dX6_recall_25 rfl (lv_at hl 0 rfl) ?_
    refine va_get (D := gD Γ) (cl := vwCl) (tys := gTy Γ) (ci := 6) (v := .int (2 - 1)) (C := RX6) (T := TX6) (N := 11) hx hb hts iX6_recall_6 hown hK hP 0 rfl rfl 6 (Nat.le_of_ble_eq_true rfl) (hts (.fieldLink RX6 43 "DeadTimeLoop" "storedStates" "I") (List.mem_of_getElem? (i := 1) rfl)) (fun _ h9 => h9) rfl dX6_recall_26 ?_
    refine ca_Vra hh hl.1 (c_X6_storedAt Γ l a (x1, x2, x3, x4, x5, x6, (2 - 1), x8, x9, x10, x11) (2 - 1)) (cwV 1 hts gX6_recall_X6_storedAt rfl rfl rfl (by decide +kernel) ⟨(Nat.le_of_ble_eq_true rfl), (Nat.le_of_ble_eq_true rfl)⟩) (As := [.int (2 - 1)]) (rest := [.ref (a 15)]) rfl dX6_recall_29 rfl (Nat.le_of_ble_eq_true rfl) hP hD hS (q0 := 0) (ci := 6) rfl rfl rfl (wf := xW Γ a (x1, x2, x3, x4, x5, x6, (2 - 1), x8, x9, x10, x11)) (xW_addr _ _ _ _) ⟨Nat.zero_le _, Nat.zero_le _⟩ (fun H locs hP hD hS => ?_)
    refine W.eq (g2 := F0 m 32 ls [.ref (a 33), .ref (a 15)]) (by rw [show fStAt a (2 - 1) = a 33 from if_neg (by decide)]) ?_
    obtain ⟨u_32b, eu_32b⟩ : ∃ z : Lop, z = fLoopCopy x4 x6 := ⟨_, rfl⟩
    have hM_32b : Cv Γ l yX1_copy wsX1_copy rm_X1_copy [.ref (a 15), .ref (a 33)] (lopW Γ a 15 x4 ++ lopW Γ a 33 x6) (lopW Γ a 15 u_32b ++ lopW Γ a 33 x6) := by rw [eu_32b]; exact c_X1_copy Γ l a 15 a 33 x4 x6 (by first | exact hB1 | exact hB2)
    refine ca_Vv hh hl.1 hM_32b (cwV 1 hts gX6_recall_X1_copy rfl rfl rfl (by decide +kernel) ⟨(Nat.le_of_ble_eq_true rfl), (Nat.le_of_ble_eq_true rfl)⟩) (As := [.ref (a 33)]) (rest := []) rfl dX6_recall_32 rfl (Nat.le_of_ble_eq_true rfl) hP hD hS ([15, 16, 17, 18, 19, 20, 21, 22, 23] ++ [33, 34, 35, 36, 37, 38, 39, 40, 41]) rfl (map_app2 (xB_at_loop Γ a _) (xB_at_secondStored Γ a _)) (q0 := 15) (ci := 1) rfl rfl rfl 18 rfl rfl (wf := xW Γ a (x1, x2, x3, u_32b, x5, x6, (2 - 1), x8, x9, x10, x11)) ((va_upd_app [15, 16, 17, 18, 19, 20, 21, 22, 23] _ _ [33, 34, 35, 36, 37, 38, 39, 40, 41] _ rfl).trans ((congrArg (fun z => va_upd z [33, 34, 35, 36, 37, 38, 39, 40, 41] _) (xB_up_loop Γ a _ _)).trans (xB_up_secondStored Γ a _ _))) (xW_addr _ _ _ _) ⟨Nat.zero_le _, Nat.zero_le _⟩ (fun H locs hP hD hS => ?_)
    refine lv_aload_n hx hb dX6_recall_35 rfl (lv_at hl 0 rfl) ?_
    refine va_get (D := gD Γ) (cl := vwCl) (tys := gTy Γ) (ci := 6) (v := .int (2 - 1)) (C := RX6) (T := TX6) (N := 11) hx hb hts iX6_recall_6 hown hK hP 0 rfl rfl 6 (Nat.le_of_ble_eq_true rfl) (hts (.fieldLink RX6 43 "DeadTimeLoop" "storedStates" "I") (List.mem_of_getElem? (i := 1) rfl)) (fun _ h9 => h9) rfl dX6_recall_36 ?_
    exact re_i hQ ha hx hb hr hlk hAe hP hS dX6_recall_39 rfl (by subst eu_32b; rfl)
def rm_X6_difference : Room := { frames := 1, cells := 0, slots := 0, locals := 24 }
theorem iX6_difference_1 : ∀ w ∈ u_ws RX1 TX1 9, w ∈ wsX6_difference := fun w h => (List.mem_cons_of_mem _ (List.mem_append_right _ h))
theorem iX6_difference_6 : ∀ w ∈ u_ws RX6 TX6 11, w ∈ wsX6_difference := fun w h => (List.mem_cons_of_mem _ (List.mem_append_left _ (List.mem_append_right _ h)))
set_option maxHeartbeats 1000000 in
set_option maxRecDepth 100000 in
theorem c_X6_difference (Γ : gT) (l : Launch) (a : Nat → Nat) (x : Xst)  : Ci Γ l yX6_difference wsX6_difference rm_X6_difference [.ref (a 0)] (xW Γ a x) (fDiff (xTrial x) (xIdeal x)) (xW Γ a x) := by
  refine Ci.of (cc := cX6_difference) (own := RX6) (nL := 1) (ret := (some .int)) (by decide +kernel) rfl rfl (Nat.le_of_ble_eq_true rfl) ?_
  intro p e s m args below meth c A Q H locs ls ha hAe hQ hx hb hml hr hts hown hlk hP hK hD hS hA hG hl
  have hh : Hd Γ p s m args c cX6_difference RX6 1 wsX6_difference A := ⟨⟨hx, hb, hml, hown, hts⟩, hK, hA, hG⟩
  have hl : lv_has ls 1 [(0, .ref (a 0))] := hl
  refine lv_aload_n hx hb dX6_difference_0 rfl (lv_at hl 0 rfl) ?_
  refine va_get (D := gD Γ) (cl := vwCl) (tys := gTy Γ) (ci := 6) (v := .ref (a 46)) (C := RX6) (T := TX6) (N := 11) hx hb hts iX6_difference_6 hown hK hP 0 rfl rfl 9 (Nat.le_of_ble_eq_true rfl) (hts (.fieldLink RX6 53 "DeadTimeLoop" "trial" "LDeadTimeLoop$Loop;") (List.mem_of_getElem? (i := 1) rfl)) (fun _ h9 => h9) rfl dX6_difference_1 ?_
  refine va_get (D := gD Γ) (cl := vwCl) (tys := gTy Γ) (ci := 1) (v := .ref (a 47)) (C := RX1) (T := TX1) (N := 9) hx hb hts iX6_difference_1 hown hK hP 46 rfl rfl 5 (Nat.le_of_ble_eq_true rfl) (hts (.fieldLink RX6 145 "DeadTimeLoop$Loop" "present" "[I") (List.mem_of_getElem? (i := 2) rfl)) (fun _ h9 => h9) rfl dX6_difference_4 ?_
  refine lv_bipush (v := 8) hx hb dX6_difference_7 (by decide) ?_
  refine ka_iald (D := gD Γ) (cl := vwCl) (tys := gTy Γ) hx hb hK hP 47 0 rfl rfl 8 (by decide) (by decide) (by decide) (v := ((lPres (xTrial x)) 8)) rfl dX6_difference_9 ?_
  refine lv_aload_n hx hb dX6_difference_10 rfl (lv_at hl 0 rfl) ?_
  refine va_get (D := gD Γ) (cl := vwCl) (tys := gTy Γ) (ci := 6) (v := .ref (a 55)) (C := RX6) (T := TX6) (N := 11) hx hb hts iX6_difference_6 hown hK hP 0 rfl rfl 10 (Nat.le_of_ble_eq_true rfl) (hts (.fieldLink RX6 56 "DeadTimeLoop" "ideal" "LDeadTimeLoop$Loop;") (List.mem_of_getElem? (i := 3) rfl)) (fun _ h9 => h9) rfl dX6_difference_11 ?_
  refine va_get (D := gD Γ) (cl := vwCl) (tys := gTy Γ) (ci := 1) (v := .ref (a 56)) (C := RX1) (T := TX1) (N := 9) hx hb hts iX6_difference_1 hown hK hP 55 rfl rfl 5 (Nat.le_of_ble_eq_true rfl) (hts (.fieldLink RX6 145 "DeadTimeLoop$Loop" "present" "[I") (List.mem_of_getElem? (i := 2) rfl)) (fun _ h9 => h9) rfl dX6_difference_14 ?_
  refine lv_bipush (v := 8) hx hb dX6_difference_17 (by decide) ?_
  refine ka_iald (D := gD Γ) (cl := vwCl) (tys := gTy Γ) hx hb hK hP 56 0 rfl rfl 8 (by decide) (by decide) (by decide) (v := ((lPres (xIdeal x)) 8)) rfl dX6_difference_19 ?_
  refine lv_isub hx hb dX6_difference_20 ?_
  refine va_mabs hx hb (hml.trans hl.1.symm) hown (hts (.methodLink RX6 206 Lib.Math.abs.name) (List.mem_of_getElem? (i := 4) rfl)) (hts (.static Lib.Math.abs.name) (List.mem_of_getElem? (i := 5) rfl)) (hts (.initialized "java/lang/Math") (List.mem_of_getElem? (i := 6) rfl)) (hts (.code Lib.Math.abs.name Lib.Math.abs.code 1 (some .int)) (List.mem_of_getElem? (i := 7) rfl)) (Nat.le_of_ble_eq_true rfl) (Nat.le_of_ble_eq_true rfl) (Nat.le_of_ble_eq_true rfl) (Nat.le_of_ble_eq_true rfl) dX6_difference_21 ?_
  refine W.eq (g2 := F0 m 24 ls [.int (kAbs (((lPres (xTrial x)) 8) - ((lPres (xIdeal x)) 8)))]) rfl ?_
  exact re_i hQ ha hx hb hr hlk hAe hP hS dX6_difference_24 rfl rfl
def rm_X6_errorsWith : Room := { frames := 5, cells := 0, slots := 0, locals := 137 }
theorem iX6_errorsWith_1 : ∀ w ∈ u_ws RX1 TX1 9, w ∈ wsX6_errorsWith := fun w h => (List.mem_cons_of_mem _ (List.mem_append_left _ (List.mem_append_left _ (List.mem_append_left _ (List.mem_append_right _ h)))))
theorem iX6_errorsWith_6 : ∀ w ∈ u_ws RX6 TX6 11, w ∈ wsX6_errorsWith := fun w h => (List.mem_cons_of_mem _ (List.mem_append_left _ (List.mem_append_left _ (List.mem_append_left _ (List.mem_append_left _ (List.mem_append_right _ h))))))
set_option maxHeartbeats 1000000 in
set_option maxRecDepth 100000 in
theorem c_X6_errorsWith (Γ : gT) (l : Launch) (a : Nat → Nat) (x : Xst) (gain : Int32) (tk : Int32) (N : Nat) (T : Nat) (hN : lNow (xLoop x) = nI N) (hN2 : N + T < 2 ^ 31) (hT : tk = nI T) (hB : lB (xLoop x)) : Cl Γ l yX6_errorsWith wsX6_errorsWith rm_X6_errorsWith [.ref (a 0), .int gain, .int tk] (xW Γ a x) (xErr x gain tk.toNatClampNeg) (xW Γ a (xErrX x gain tk.toNatClampNeg)) := by
  refine Cl.of (cc := cX6_errorsWith) (own := RX6) (nL := 6) (ret := (some .long)) (by decide +kernel) rfl rfl (Nat.le_of_ble_eq_true rfl) ?_
  intro p e s m args below meth c A Q H locs ls ha hAe hQ hx hb hml hr hts hown hlk hP hK hD hS hA hG hl
  have hh : Hd Γ p s m args c cX6_errorsWith RX6 6 wsX6_errorsWith A := ⟨⟨hx, hb, hml, hown, hts⟩, hK, hA, hG⟩
  have hl : lv_has ls 6 [(0, .ref (a 0)), (1, .int gain), (2, .int tk)] := hl
  refine lv_aload_n hx hb dX6_errorsWith_0 rfl (lv_at hl 0 rfl) ?_
  refine va_get (D := gD Γ) (cl := vwCl) (tys := gTy Γ) (ci := 6) (v := .ref (a 42)) (C := RX6) (T := TX6) (N := 11) hx hb hts iX6_errorsWith_6 hown hK hP 0 rfl rfl 7 (Nat.le_of_ble_eq_true rfl) (hts (.fieldLink RX6 47 "DeadTimeLoop" "trialSettings" "LDeadTimeLoop$Settings;") (List.mem_of_getElem? (i := 1) rfl)) (fun _ h9 => h9) rfl dX6_errorsWith_1 ?_
  refine lv_aload_n hx hb dX6_errorsWith_4 rfl (lv_at hl 0 rfl) ?_
  refine va_get (D := gD Γ) (cl := vwCl) (tys := gTy Γ) (ci := 6) (v := .ref (a 1)) (C := RX6) (T := TX6) (N := 11) hx hb hts iX6_errorsWith_6 hown hK hP 0 rfl rfl 0 (Nat.le_of_ble_eq_true rfl) (hts (.fieldLink RX6 12 "DeadTimeLoop" "settings" "LDeadTimeLoop$Settings;") (List.mem_of_getElem? (i := 2) rfl)) (fun _ h9 => h9) rfl dX6_errorsWith_5 ?_
  obtain ⟨u_8, eu_8⟩ : ∃ z : Sett, z = va_cpy (xSet x) (xTs x) 0 0 15 := ⟨_, rfl⟩
  have hM_8 : Cv Γ l yX3_copy wsX3_copy rm_X3_copy [.ref (a 42), .ref (a 1)] (setW Γ a 42 (xTs x) ++ setW Γ a 1 (xSet x)) (setW Γ a 42 u_8 ++ setW Γ a 1 (xSet x)) := by rw [eu_8]; exact c_X3_copy Γ l a 42 a 1 (xTs x) (xSet x)
  refine ca_Vv hh hl.1 hM_8 (cwV 1 hts gX6_errorsWith_X3_copy rfl rfl rfl (by decide +kernel) ⟨(Nat.le_of_ble_eq_true rfl), (Nat.le_of_ble_eq_true rfl)⟩) (As := [.ref (a 1)]) (rest := []) rfl dX6_errorsWith_8 rfl (Nat.le_of_ble_eq_true rfl) hP hD hS ([42, 43] ++ [1, 2]) rfl (map_app2 (xB_at_trialSettings Γ a _) (xB_at_settings Γ a _)) (q0 := 42) (ci := 3) rfl rfl rfl 4 rfl rfl (wf := xW Γ a ((xSet x), (xChg x), (xTxt x), (xLoop x), (xFst x), (xSnd x), (xCnt x), u_8, (xIs x), (xTrial x), (xIdeal x))) ((va_upd_app [42, 43] _ _ [1, 2] _ rfl).trans ((congrArg (fun z => va_upd z [1, 2] _) (xB_up_trialSettings Γ a _ _)).trans (xB_up_settings Γ a _ _))) (xW_addr _ _ _ _) ⟨Nat.zero_le _, Nat.zero_le _⟩ (fun H locs hP hD hS => ?_)
  refine lv_aload_n hx hb dX6_errorsWith_11 rfl (lv_at hl 0 rfl) ?_
  refine va_get (D := gD Γ) (cl := vwCl) (tys := gTy Γ) (ci := 6) (v := .ref (a 42)) (C := RX6) (T := TX6) (N := 11) hx hb hts iX6_errorsWith_6 hown hK hP 0 rfl rfl 7 (Nat.le_of_ble_eq_true rfl) (hts (.fieldLink RX6 47 "DeadTimeLoop" "trialSettings" "LDeadTimeLoop$Settings;") (List.mem_of_getElem? (i := 1) rfl)) (fun _ h9 => h9) rfl dX6_errorsWith_12 ?_
  refine lv_iconst (v := 0) hx hb dX6_errorsWith_15 (by decide) ?_
  refine lv_iload_n hx hb dX6_errorsWith_16 rfl (lv_at hl 1 rfl) ?_
  obtain ⟨u_17, eu_17⟩ : ∃ z : Sett, z = fSet u_8 0 gain := ⟨_, rfl⟩
  have hM_17 : Cv Γ l yX3_set wsX3_set rm_X3_set [.ref (a 42), .int 0, .int gain] (setW Γ a 42 u_8) (setW Γ a 42 u_17) := by rw [eu_17]; exact c_X3_set Γ l a 42 u_8 0 gain
  refine ca_Vv hh hl.1 hM_17 (cwV 2 hts gX6_errorsWith_X3_set rfl rfl rfl (by decide +kernel) ⟨(Nat.le_of_ble_eq_true rfl), (Nat.le_of_ble_eq_true rfl)⟩) (As := [.int 0, .int gain]) (rest := []) rfl dX6_errorsWith_17 rfl (Nat.le_of_ble_eq_true rfl) hP hD hS [42, 43] rfl (xB_at_trialSettings Γ a _) (q0 := 42) (ci := 3) rfl rfl rfl 2 rfl rfl (wf := xW Γ a ((xSet x), (xChg x), (xTxt x), (xLoop x), (xFst x), (xSnd x), (xCnt x), u_17, (xIs x), (xTrial x), (xIdeal x))) (xB_up_trialSettings Γ a _ _) (xW_addr _ _ _ _) ⟨Nat.zero_le _, Nat.zero_le _⟩ (fun H locs hP hD hS => ?_)
  refine lv_aload_n hx hb dX6_errorsWith_20 rfl (lv_at hl 0 rfl) ?_
  refine va_get (D := gD Γ) (cl := vwCl) (tys := gTy Γ) (ci := 6) (v := .ref (a 46)) (C := RX6) (T := TX6) (N := 11) hx hb hts iX6_errorsWith_6 hown hK hP 0 rfl rfl 9 (Nat.le_of_ble_eq_true rfl) (hts (.fieldLink RX6 53 "DeadTimeLoop" "trial" "LDeadTimeLoop$Loop;") (List.mem_of_getElem? (i := 3) rfl)) (fun _ h9 => h9) rfl dX6_errorsWith_21 ?_
  refine lv_aload_n hx hb dX6_errorsWith_24 rfl (lv_at hl 0 rfl) ?_
  refine va_get (D := gD Γ) (cl := vwCl) (tys := gTy Γ) (ci := 6) (v := .ref (a 15)) (C := RX6) (T := TX6) (N := 11) hx hb hts iX6_errorsWith_6 hown hK hP 0 rfl rfl 3 (Nat.le_of_ble_eq_true rfl) (hts (.fieldLink RX6 33 "DeadTimeLoop" "loop" "LDeadTimeLoop$Loop;") (List.mem_of_getElem? (i := 4) rfl)) (fun _ h9 => h9) rfl dX6_errorsWith_25 ?_
  obtain ⟨u_28, eu_28⟩ : ∃ z : Lop, z = fLoopCopy (xTrial x) (xLoop x) := ⟨_, rfl⟩
  have hM_28 : Cv Γ l yX1_copy wsX1_copy rm_X1_copy [.ref (a 46), .ref (a 15)] (lopW Γ a 46 (xTrial x) ++ lopW Γ a 15 (xLoop x)) (lopW Γ a 46 u_28 ++ lopW Γ a 15 (xLoop x)) := by rw [eu_28]; exact c_X1_copy Γ l a 46 a 15 (xTrial x) (xLoop x) hB
  refine ca_Vv hh hl.1 hM_28 (cwV 1 hts gX6_errorsWith_X1_copy rfl rfl rfl (by decide +kernel) ⟨(Nat.le_of_ble_eq_true rfl), (Nat.le_of_ble_eq_true rfl)⟩) (As := [.ref (a 15)]) (rest := []) rfl dX6_errorsWith_28 rfl (Nat.le_of_ble_eq_true rfl) hP hD hS ([46, 47, 48, 49, 50, 51, 52, 53, 54] ++ [15, 16, 17, 18, 19, 20, 21, 22, 23]) rfl (map_app2 (xB_at_trial Γ a _) (xB_at_loop Γ a _)) (q0 := 46) (ci := 1) rfl rfl rfl 18 rfl rfl (wf := xW Γ a ((xSet x), (xChg x), (xTxt x), (xLoop x), (xFst x), (xSnd x), (xCnt x), u_17, (xIs x), u_28, (xIdeal x))) ((va_upd_app [46, 47, 48, 49, 50, 51, 52, 53, 54] _ _ [15, 16, 17, 18, 19, 20, 21, 22, 23] _ rfl).trans ((congrArg (fun z => va_upd z [15, 16, 17, 18, 19, 20, 21, 22, 23] _) (xB_up_trial Γ a _ _)).trans (xB_up_loop Γ a _ _))) (xW_addr _ _ _ _) ⟨Nat.zero_le _, Nat.zero_le _⟩ (fun H locs hP hD hS => ?_)
  refine lv_lconst (v := 0) hx hb dX6_errorsWith_31 (by decide) ?_
  refine lv_lstore_n (lv' := [(3, .long 0), (0, .ref (a 0)), (1, .int gain), (2, .int tk)]) hx hb dX6_errorsWith_32 rfl hl (by decide) rfl (fun ls hl => ?_)
  refine lv_iconst (v := 0) hx hb dX6_errorsWith_33 (by decide) ?_
  refine lv_istore (lv' := [(5, .int 0), (3, .long 0), (0, .ref (a 0)), (1, .int gain), (2, .int tk)]) hx hb dX6_errorsWith_34 hl (by decide) rfl (fun ls hl => ?_)
  have hJ_36 : ∀ n : Nat, ∀ (i : Nat) (y : Int32) (sum : Int64) (σ1 : Lop), (y = nI i) → (i ≤ T) → (T + 1 ≤ i + n) → (lNow σ1 = nI (N + i)) → (fErrS (xErrV x gain) (T - i) σ1 sum = xErr x gain T) → (fAdv (xErrV x gain) (T - i) σ1 = fAdv (xErrV x gain) T (fLoopCopy (xTrial x) (xLoop x))) → ∀ (H : Heap) (locs : List Loc) (ls : Array Slot), va_P (gD Γ) vwCl (xW Γ a ((xSet x), (xChg x), (xTxt x), (xLoop x), (xFst x), (xSnd x), (xCnt x), u_17, (xIs x), σ1, (xIdeal x))) H → va_D A (xW Γ a ((xSet x), (xChg x), (xTxt x), (xLoop x), (xFst x), (xSnd x), (xCnt x), u_17, (xIs x), σ1, (xIdeal x))) → va_S A s.heap H locs → lv_has ls 6 [(0, .ref (a 0)), (1, .int gain), (2, .int tk), (3, .long sum), (5, .int y)] → W p l e rm_X6_errorsWith s m args below meth c H locs 0 0 Q (F0 m 36 ls []) := by
    intro n
    induction n with
    | zero =>
      intro i y sum σ1 ey hi hn hs hg hg2
      omega
    | succ n ih =>
      intro i y sum σ1 ey hi hn hs hg hg2 H locs ls hP hD hS hl
      refine lv_iload hx hb dX6_errorsWith_36 (lv_at hl 4 rfl) ?_
      refine lv_iload_n hx hb dX6_errorsWith_38 rfl (lv_at hl 2 rfl) ?_
      refine lv_icmp_ge (tgt := 86) hx hb dX6_errorsWith_39 (by decide) (fun c_39 => ?_) (fun c_39 => ?_)
      · -- yes
        refine lv_lload_n hx hb dX6_errorsWith_86 rfl (lv_at hl 3 rfl) ?_
        exact re_l hQ ha hx hb hr hlk hAe hP hS dX6_errorsWith_87 (by have e : i = T := (by rw [hT, ey] at c_39; rcases Nat.lt_or_ge i T with q | q; exact absurd c_39 (nI_ge q (by omega)); omega); rw [e, Nat.sub_self] at hg; rw [hT, nI_clamp (by omega), ← hg]; rfl) (by have e : i = T := (by rw [hT, ey] at c_39; rcases Nat.lt_or_ge i T with q | q; exact absurd c_39 (nI_ge q (by omega)); omega); rw [e, Nat.sub_self] at hg2; have e3 : xErrV x gain = u_17 := (by rw [eu_17, eu_8]; rfl); rw [hT, nI_clamp (by omega)]; simp only [xErrX]; rw [← hg2, e3]; rfl)
      · -- no
        refine lv_aload_n hx hb dX6_errorsWith_42 rfl (lv_at hl 0 rfl) ?_
        refine va_get (D := gD Γ) (cl := vwCl) (tys := gTy Γ) (ci := 6) (v := .ref (a 46)) (C := RX6) (T := TX6) (N := 11) hx hb hts iX6_errorsWith_6 hown hK hP 0 rfl rfl 9 (Nat.le_of_ble_eq_true rfl) (hts (.fieldLink RX6 53 "DeadTimeLoop" "trial" "LDeadTimeLoop$Loop;") (List.mem_of_getElem? (i := 3) rfl)) (fun _ h9 => h9) rfl dX6_errorsWith_43 ?_
        refine lv_aload_n hx hb dX6_errorsWith_46 rfl (lv_at hl 0 rfl) ?_
        refine va_get (D := gD Γ) (cl := vwCl) (tys := gTy Γ) (ci := 6) (v := .ref (a 42)) (C := RX6) (T := TX6) (N := 11) hx hb hts iX6_errorsWith_6 hown hK hP 0 rfl rfl 7 (Nat.le_of_ble_eq_true rfl) (hts (.fieldLink RX6 47 "DeadTimeLoop" "trialSettings" "LDeadTimeLoop$Settings;") (List.mem_of_getElem? (i := 1) rfl)) (fun _ h9 => h9) rfl dX6_errorsWith_47 ?_
        refine lv_iconst (v := 0) hx hb dX6_errorsWith_50 (by decide) ?_
        obtain ⟨u_51, eu_51⟩ : ∃ z : Lop, z = fTick σ1 u_17 0 := ⟨_, rfl⟩
        have hM_51 : Cv Γ l yX1_tick wsX1_tick rm_X1_tick [.ref (a 46), .ref (a 42), .int 0] (lopW Γ a 46 σ1 ++ setW Γ a 42 u_17) (lopW Γ a 46 u_51 ++ setW Γ a 42 u_17) := by rw [eu_51]; exact c_X1_tick Γ l a 46 a 42 σ1 u_17 0 (by rw [hs]; exact nI_pos (by omega))
        refine ca_Vv hh hl.1 hM_51 (cwV 2 hts gX6_errorsWith_X1_tick rfl rfl rfl (by decide +kernel) ⟨(Nat.le_of_ble_eq_true rfl), (Nat.le_of_ble_eq_true rfl)⟩) (As := [.ref (a 42), .int 0]) (rest := []) rfl dX6_errorsWith_51 rfl (Nat.le_of_ble_eq_true rfl) hP hD hS ([46, 47, 48, 49, 50, 51, 52, 53, 54] ++ [42, 43]) rfl (map_app2 (xB_at_trial Γ a _) (xB_at_trialSettings Γ a _)) (q0 := 46) (ci := 1) rfl rfl rfl 11 rfl rfl (wf := xW Γ a ((xSet x), (xChg x), (xTxt x), (xLoop x), (xFst x), (xSnd x), (xCnt x), u_17, (xIs x), u_51, (xIdeal x))) ((va_upd_app [46, 47, 48, 49, 50, 51, 52, 53, 54] _ _ [42, 43] _ rfl).trans ((congrArg (fun z => va_upd z [42, 43] _) (xB_up_trial Γ a _ _)).trans (xB_up_trialSettings Γ a _ _))) (xW_addr _ _ _ _) ⟨Nat.zero_le _, Nat.zero_le _⟩ (fun H locs hP hD hS => ?_)
        refine lv_lload_n hx hb dX6_errorsWith_54 rfl (lv_at hl 3 rfl) ?_
        refine lv_aload_n hx hb dX6_errorsWith_55 rfl (lv_at hl 0 rfl) ?_
        refine va_get (D := gD Γ) (cl := vwCl) (tys := gTy Γ) (ci := 6) (v := .ref (a 46)) (C := RX6) (T := TX6) (N := 11) hx hb hts iX6_errorsWith_6 hown hK hP 0 rfl rfl 9 (Nat.le_of_ble_eq_true rfl) (hts (.fieldLink RX6 53 "DeadTimeLoop" "trial" "LDeadTimeLoop$Loop;") (List.mem_of_getElem? (i := 3) rfl)) (fun _ h9 => h9) rfl dX6_errorsWith_56 ?_
        refine va_get (D := gD Γ) (cl := vwCl) (tys := gTy Γ) (ci := 1) (v := .ref (a 47)) (C := RX1) (T := TX1) (N := 9) hx hb hts iX6_errorsWith_1 hown hK hP 46 rfl rfl 5 (Nat.le_of_ble_eq_true rfl) (hts (.fieldLink RX6 145 "DeadTimeLoop$Loop" "present" "[I") (List.mem_of_getElem? (i := 5) rfl)) (fun _ h9 => h9) rfl dX6_errorsWith_59 ?_
        refine lv_iconst (v := 0) hx hb dX6_errorsWith_62 (by decide) ?_
        refine ka_iald (D := gD Γ) (cl := vwCl) (tys := gTy Γ) hx hb hK hP 47 0 rfl rfl 0 (by decide) (by decide) (by decide) (v := ((lPres u_51) 0)) rfl dX6_errorsWith_63 ?_
        refine lv_aload_n hx hb dX6_errorsWith_64 rfl (lv_at hl 0 rfl) ?_
        refine va_get (D := gD Γ) (cl := vwCl) (tys := gTy Γ) (ci := 6) (v := .ref (a 46)) (C := RX6) (T := TX6) (N := 11) hx hb hts iX6_errorsWith_6 hown hK hP 0 rfl rfl 9 (Nat.le_of_ble_eq_true rfl) (hts (.fieldLink RX6 53 "DeadTimeLoop" "trial" "LDeadTimeLoop$Loop;") (List.mem_of_getElem? (i := 3) rfl)) (fun _ h9 => h9) rfl dX6_errorsWith_65 ?_
        refine va_get (D := gD Γ) (cl := vwCl) (tys := gTy Γ) (ci := 1) (v := .ref (a 47)) (C := RX1) (T := TX1) (N := 9) hx hb hts iX6_errorsWith_1 hown hK hP 46 rfl rfl 5 (Nat.le_of_ble_eq_true rfl) (hts (.fieldLink RX6 145 "DeadTimeLoop$Loop" "present" "[I") (List.mem_of_getElem? (i := 5) rfl)) (fun _ h9 => h9) rfl dX6_errorsWith_68 ?_
        refine lv_iconst (v := 1) hx hb dX6_errorsWith_71 (by decide) ?_
        refine ka_iald (D := gD Γ) (cl := vwCl) (tys := gTy Γ) hx hb hK hP 47 0 rfl rfl 1 (by decide) (by decide) (by decide) (v := ((lPres u_51) 1)) rfl dX6_errorsWith_72 ?_
        refine lv_isub hx hb dX6_errorsWith_73 ?_
        refine va_mabs hx hb (hml.trans hl.1.symm) hown (hts (.methodLink RX6 206 Lib.Math.abs.name) (List.mem_of_getElem? (i := 6) rfl)) (hts (.static Lib.Math.abs.name) (List.mem_of_getElem? (i := 7) rfl)) (hts (.initialized "java/lang/Math") (List.mem_of_getElem? (i := 8) rfl)) (hts (.code Lib.Math.abs.name Lib.Math.abs.code 1 (some .int)) (List.mem_of_getElem? (i := 9) rfl)) (Nat.le_of_ble_eq_true rfl) (Nat.le_of_ble_eq_true rfl) (Nat.le_of_ble_eq_true rfl) (Nat.le_of_ble_eq_true rfl) dX6_errorsWith_74 ?_
        refine W.eq (g2 := F0 m 77 ls [.int (kAbs (((lPres u_51) 0) - ((lPres u_51) 1))), .long sum]) rfl ?_
        refine lv_i2l (v := (kAbs (((lPres u_51) 0) - ((lPres u_51) 1))).toInt64) hx hb dX6_errorsWith_77 rfl ?_
        refine lv_ladd hx hb dX6_errorsWith_78 ?_
        refine lv_topl (fun r_79 er_79 => ?_)
        have er_79 : r_79 = (sum + ((kAbs (((lPres u_51) 0) - ((lPres u_51) 1))).toInt64)) := er_79
        refine lv_lstore_n (lv' := [(3, .long r_79), (0, .ref (a 0)), (1, .int gain), (2, .int tk), (5, .int y)]) hx hb dX6_errorsWith_79 rfl hl (by decide) rfl (fun ls hl => ?_)
        refine lv_iinc (v := (y + 1)) (lv' := [(5, .int (y + 1)), (3, .long r_79), (0, .ref (a 0)), (1, .int gain), (2, .int tk)]) hx hb dX6_errorsWith_80 hl (k := 4) rfl rfl (by decide) rfl (fun ls hl => ?_)
        refine lv_goto (tgt := 36) hx hb dX6_errorsWith_83 (by decide) ?_
        exact ih (i + 1) _ _ u_51 (by rw [ey]; exact nI_1 i) (by have := lt_of_nle (i := i) (k := T) (by rw [← hT, ← ey]; exact c_39) (by omega) (by omega); omega) (by omega) (by rw [eu_51, fTick_now, hs]; exact nI_1 _) (by have := lt_of_nle (i := i) (k := T) (by rw [← hT, ← ey]; exact c_39) (by omega) (by omega); rw [← hg, show T - i = (T - (i + 1)) + 1 from by omega, fErrS_s]; rw [show xErrV x gain = u_17 from by rw [eu_17, eu_8]; rfl, ← eu_51]; subst er_79; subst eu_51; subst eu_28; subst eu_17; subst eu_8; rfl) (by have := lt_of_nle (i := i) (k := T) (by rw [← hT, ← ey]; exact c_39) (by omega) (by omega); rw [← hg2, show T - i = (T - (i + 1)) + 1 from by omega, fAdv_s]; rw [show xErrV x gain = u_17 from by rw [eu_17, eu_8]; rfl, ← eu_51]) _ _ _ hP hD hS (lv_sub hl [2, 3, 4, 1, 0] rfl)
  exact hJ_36 (T + 1) 0 0 0 u_28 rfl (by omega) (by omega) (by rw [eu_28, fCopy_now]; exact hN) (by rw [eu_28]; rfl) (by rw [eu_28]; rfl) _ _ _ hP hD hS (lv_sub hl [2, 3, 4, 1, 0] rfl)
