def rm_L_isAhead : Room := { frames := 7, cells := 64, slots := 3699, locals := 189 }
theorem iL_isAhead_6 : ∀ w ∈ u_ws RX6 TX6 11, w ∈ wsL_isAhead := fun w h => (List.mem_cons_of_mem _ (List.mem_append_left _ (List.mem_append_left _ (List.mem_append_left _ (List.mem_append_left _ (List.mem_append_left _ (List.mem_append_left _ (List.mem_append_right _ h))))))))
set_option maxHeartbeats 4000000 in
set_option maxRecDepth 100000 in
theorem c_L_isAhead (Γ : gT) (l : Launch) (C : Nat) (hC : C < 2147483648) : Cs Γ l yL_isAhead wsL_isAhead rm_L_isAhead [.int (nI C)] 1 64 3699 := by
  refine Cs.of (cc := cL_isAhead) (own := RL) (nL := 14) (ret := (some .boolean)) (by decide +kernel) rfl rfl (Nat.le_of_ble_eq_true rfl) ?_
  intro p e s m args below meth c A Q ls ha hAe hQ hx hb hml hr hts hown hlk hP hK hD hS hA hG hO hl
  obtain ⟨H, hHe⟩ : ∃ H : Heap, H = s.heap := ⟨_, rfl⟩
  rw [← hHe] at hP ⊢
  have hS : va_S A s.heap H [] := by rw [hHe]; exact hS
  have hh : Hd Γ p s m args c cL_isAhead RL 14 wsL_isAhead A := ⟨⟨hx, hb, hml, hown, hts⟩, hK, hA, hG⟩
  have hl : lv_has ls 14 [(0, .int (nI C))] := hl
  refine va_new (D := gD Γ) (cl := vwCl) (tys := gTy Γ) (ci := 6) (fs := [.null, .null, .null, .null, .null, .null, .int 0, .null, .null, .null, .null]) (C := RX6) (T := TX6) (N := 11) hx hb hts iL_isAhead_6 tyX6 tyX6_ok hown (hts (.classLink RL 9 RX6) (List.mem_of_getElem? (i := 1) rfl)) (hts (.instantiable RX6 11) (List.mem_of_getElem? (i := 2) rfl)) (hts (.initialized RX6) (List.mem_of_getElem? (i := 3) rfl)) hK hP hD hS hA rfl (fun j hj => by rcases (show j = 0 ∨ j = 1 ∨ j = 2 ∨ j = 3 ∨ j = 4 ∨ j = 5 ∨ j = 6 ∨ j = 7 ∨ j = 8 ∨ j = 9 ∨ j = 10 by omega) with rfl | rfl | rfl | rfl | rfl | rfl | rfl | rfl | rfl | rfl | rfl <;> rfl) (Nat.le_of_ble_eq_true rfl) (Nat.le_of_ble_eq_true rfl) dL_isAhead_0 (fun q0 H hP hD hS => ?_)
  refine lv_dup hx hb dL_isAhead_3 rfl ?_
  refine ca_I (rest := [.ref q0]) (ws := []) hh hO hl.1 (c_X6_init Γ l q0) (cwI 0 hts gL_isAhead_X6_init rfl rfl rfl (hts (.initialized RX6) (List.mem_of_getElem? (i := 3) rfl)) (hts (.methodLink RL 11 yX6_init) (List.mem_of_getElem? (i := 4) rfl)) (hts (.instanceMethod yX6_init) (List.mem_of_getElem? (i := 5) rfl)) rfl (by decide +kernel) ⟨(Nat.le_of_ble_eq_true rfl), (Nat.le_of_ble_eq_true rfl)⟩) dL_isAhead_4 rfl (Nat.le_of_ble_eq_true rfl) hP hD hS ⟨(Nat.le_of_ble_eq_true rfl), (Nat.le_of_ble_eq_true rfl)⟩ (fun a H locs e4 hP9 hD9 hS => ?_)
  subst e4
  have hP : va_P (gD Γ) vwCl (xW Γ a x0) H := hP9
  have hD : va_D A (xW Γ a x0) := hD9
  refine lv_astore_n (lv' := [(1, .ref (a 0)), (0, .int (nI C))]) hx hb dL_isAhead_7 rfl hl (by decide) rfl (fun ls hl => ?_)
  refine W.widen (k := 64) (n := 3699) (Nat.le_of_ble_eq_true rfl) (Nat.le_of_ble_eq_true rfl) ?_
  have y_0 := z_new
  have o_0 := pk_new
  refine lv_aload_n hx hb dL_isAhead_8 rfl (lv_at hl 0 rfl) ?_
  refine lv_bipush (v := 14) hx hb dL_isAhead_9 (by decide) ?_
  refine lv_iload_n hx hb dL_isAhead_11 rfl (lv_at hl 1 rfl) ?_
  refine lv_bipush (v := 90) hx hb dL_isAhead_12 (by decide) ?_
  refine lv_irem hx hb dL_isAhead_14 (by decide) ?_
  refine W.eq (g2 := F0 m 15 ls [.int (nI (C % 90)), .int 14, .ref (a 0)]) (by rw [show ((nI C) - (nI C) / 90 * 90) = (nI (C % 90)) from pk_rem (a := C) (d := 90) (by omega) (by decide) (by decide)]) ?_
  obtain ⟨u_15, eu_15⟩ : ∃ z : Xst, z = gSetParameter x0 14 (nI (C % 90)) := ⟨_, rfl⟩
  have hM_15 : Ci Γ l yX6_setParameter wsX6_setParameter rm_X6_setParameter [.ref (a 0), .int 14, .int (nI (C % 90))] (xW Γ a x0) (rSetParameter x0 14 (nI (C % 90))) (xW Γ a u_15) := by rw [eu_15]; exact c_X6_setParameter Γ l a x0 14 (nI (C % 90)) y_0.ok
  refine ca_Via hh hl.1 hM_15 (cwV 2 hts gL_isAhead_X6_setParameter rfl rfl rfl (by decide +kernel) ⟨(Nat.le_of_ble_eq_true rfl), (Nat.le_of_ble_eq_true rfl)⟩) (As := [.int 14, .int (nI (C % 90))]) (rest := []) rfl dL_isAhead_15 rfl (Nat.le_of_ble_eq_true rfl) hP hD hS (q0 := 0) (ci := 6) rfl rfl rfl (wf := xW Γ a u_15) (xW_addr _ _ _ _) ⟨(Nat.le_of_ble_eq_true rfl), (Nat.le_of_ble_eq_true rfl)⟩ (fun H locs hP hD hS => ?_)
  have b_15 := bd_P 14 0 1000 (by decide +kernel) (by decide +kernel) (w := (nI (C % 90))) (nI_toInt (by omega)) (by omega) (by omega)
  obtain ⟨v_15, ev_15⟩ : ∃ z : Sett, z = upd sett0 14 (nI (C % 90)) := ⟨_, rfl⟩
  obtain ⟨s_15, y_15⟩ : rSetParameter x0 14 (nI (C % 90)) = sett0 14 ∧ ZS u_15 v_15 (nU 0) lop0 0 lop0 := by rw [eu_15, ev_15]; exact z_setP y_0 14 (by decide) b_15
  have o_15 : pOk v_15 := by rw [ev_15]; exact pk_updP o_0 b_15
  have a_15 : rSetParameter x0 14 (nI (C % 90)) = 0 := s_15.trans (sv 14 (by decide) (by decide +kernel))
  refine lv_if_ne (tgt := 85) hx hb dL_isAhead_18 (by decide) (fun c => absurd c (not_ne a_15)) (fun _ => ?_)
  refine lv_aload_n hx hb dL_isAhead_21 rfl (lv_at hl 0 rfl) ?_
  refine lv_bipush (v := 7) hx hb dL_isAhead_22 (by decide) ?_
  refine lv_iload_n hx hb dL_isAhead_24 rfl (lv_at hl 1 rfl) ?_
  refine lv_iconst (v := 3) hx hb dL_isAhead_25 (by decide) ?_
  refine lv_ishr hx hb dL_isAhead_26 ?_
  refine W.eq (g2 := F0 m 27 ls [.int (nI (C / 8)), .int 7, .ref (a 0)]) (by rw [show ((nI C) >>> (3 &&& 31)) = (nI (C / 8)) from pk_shrN (n := C) (by omega) _ 3 (by decide +kernel)]) ?_
  refine lv_sipush (v := 300) hx hb dL_isAhead_27 (by decide) ?_
  refine lv_irem hx hb dL_isAhead_30 (by decide) ?_
  refine W.eq (g2 := F0 m 31 ls [.int (nI ((C / 8) % 300)), .int 7, .ref (a 0)]) (by rw [show ((nI (C / 8)) - (nI (C / 8)) / 300 * 300) = (nI ((C / 8) % 300)) from pk_rem (a := C / 8) (d := 300) (by omega) (by decide) (by decide)]) ?_
  obtain ⟨u_31, eu_31⟩ : ∃ z : Xst, z = gSetParameter u_15 7 (nI ((C / 8) % 300)) := ⟨_, rfl⟩
  have hM_31 : Ci Γ l yX6_setParameter wsX6_setParameter rm_X6_setParameter [.ref (a 0), .int 7, .int (nI ((C / 8) % 300))] (xW Γ a u_15) (rSetParameter u_15 7 (nI ((C / 8) % 300))) (xW Γ a u_31) := by rw [eu_31]; exact c_X6_setParameter Γ l a u_15 7 (nI ((C / 8) % 300)) y_15.ok
  refine ca_Via hh hl.1 hM_31 (cwV 2 hts gL_isAhead_X6_setParameter rfl rfl rfl (by decide +kernel) ⟨(Nat.le_of_ble_eq_true rfl), (Nat.le_of_ble_eq_true rfl)⟩) (As := [.int 7, .int (nI ((C / 8) % 300))]) (rest := []) rfl dL_isAhead_31 rfl (Nat.le_of_ble_eq_true rfl) hP hD hS (q0 := 0) (ci := 6) rfl rfl rfl (wf := xW Γ a u_31) (xW_addr _ _ _ _) ⟨(Nat.le_of_ble_eq_true rfl), (Nat.le_of_ble_eq_true rfl)⟩ (fun H locs hP hD hS => ?_)
  have b_31 := bd_P 7 0 300 (by decide +kernel) (by decide +kernel) (w := (nI ((C / 8) % 300))) (nI_toInt (by omega)) (by omega) (by omega)
  obtain ⟨v_31, ev_31⟩ : ∃ z : Sett, z = upd v_15 7 (nI ((C / 8) % 300)) := ⟨_, rfl⟩
  obtain ⟨s_31, y_31⟩ : rSetParameter u_15 7 (nI ((C / 8) % 300)) = v_15 7 ∧ ZS u_31 v_31 (nU (nU 0)) lop0 0 lop0 := by rw [eu_31, ev_31]; exact z_setP y_15 7 (by decide) b_31
  have o_31 : pOk v_31 := by rw [ev_31]; exact pk_updP o_15 b_31
  have a_31 : rSetParameter u_15 7 (nI ((C / 8) % 300)) = 50 := s_31.trans (by rw [ev_15, pk_un (by decide)]; exact sv 7 (by decide) (by decide +kernel))
  refine lv_bipush (v := 50) hx hb dL_isAhead_34 (by decide) ?_
  refine lv_icmp_ne (tgt := 85) hx hb dL_isAhead_36 (by decide) (fun c => absurd c (not_ne a_31)) (fun _ => ?_)
  refine lv_aload_n hx hb dL_isAhead_39 rfl (lv_at hl 0 rfl) ?_
  refine lv_iload_n hx hb dL_isAhead_40 rfl (lv_at hl 1 rfl) ?_
  refine lv_iconst (v := 5) hx hb dL_isAhead_41 (by decide) ?_
  refine lv_ishr hx hb dL_isAhead_42 ?_
  refine W.eq (g2 := F0 m 43 ls [.int (nI (C / 32)), .ref (a 0)]) (by rw [show ((nI C) >>> (5 &&& 31)) = (nI (C / 32)) from pk_shrN (n := C) (by omega) _ 5 (by decide +kernel)]) ?_
  refine lv_sipush (v := 9000) hx hb dL_isAhead_43 (by decide) ?_
  refine lv_irem hx hb dL_isAhead_46 (by decide) ?_
  refine W.eq (g2 := F0 m 47 ls [.int (nI ((C / 32) % 9000)), .ref (a 0)]) (by rw [show ((nI (C / 32)) - (nI (C / 32)) / 9000 * 9000) = (nI ((C / 32) % 9000)) from pk_rem (a := C / 32) (d := 9000) (by omega) (by decide) (by decide)]) ?_
  obtain ⟨u_47, eu_47⟩ : ∃ z : Xst, z = gSetSetpoint u_31 (nI ((C / 32) % 9000)) := ⟨_, rfl⟩
  have hM_47 : Ci Γ l yX6_setSetpoint wsX6_setSetpoint rm_X6_setSetpoint [.ref (a 0), .int (nI ((C / 32) % 9000))] (xW Γ a u_31) (rSetSetpoint u_31 (nI ((C / 32) % 9000))) (xW Γ a u_47) := by rw [eu_47]; exact c_X6_setSetpoint Γ l a u_31 (nI ((C / 32) % 9000))
  refine ca_Via hh hl.1 hM_47 (cwV 1 hts gL_isAhead_X6_setSetpoint rfl rfl rfl (by decide +kernel) ⟨(Nat.le_of_ble_eq_true rfl), (Nat.le_of_ble_eq_true rfl)⟩) (As := [.int (nI ((C / 32) % 9000))]) (rest := []) rfl dL_isAhead_47 rfl (Nat.le_of_ble_eq_true rfl) hP hD hS (q0 := 0) (ci := 6) rfl rfl rfl (wf := xW Γ a u_47) (xW_addr _ _ _ _) ⟨(Nat.le_of_ble_eq_true rfl), (Nat.le_of_ble_eq_true rfl)⟩ (fun H locs hP hD hS => ?_)
  obtain ⟨σ_47, eσ_47⟩ : ∃ z : Lop, z = fSetR lop0 (nI ((C / 32) % 9000)) := ⟨_, rfl⟩
  have b_47 : ((nI ((C / 32) % 9000)) : Int32).toInt = _ := (nI_toInt (by omega))
  obtain ⟨s_47, y_47⟩ : rSetSetpoint u_31 (nI ((C / 32) % 9000)) = lPres lop0 0 ∧ ZS u_47 v_31 (nU (nU 0)) σ_47 0 lop0 := by rw [eu_47]; exact (eσ_47 ▸ z_sp y_31 (by rw [b_47]; omega) (by rw [b_47]; omega))
  have a_47 : rSetSetpoint u_31 (nI ((C / 32) % 9000)) = 0 := s_47
  refine lv_if_ne (tgt := 85) hx hb dL_isAhead_50 (by decide) (fun c => absurd c (not_ne a_47)) (fun _ => ?_)
  refine lv_aload_n hx hb dL_isAhead_53 rfl (lv_at hl 0 rfl) ?_
  refine lv_iload_n hx hb dL_isAhead_54 rfl (lv_at hl 1 rfl) ?_
  refine lv_bipush (v := 7) hx hb dL_isAhead_55 (by decide) ?_
  refine lv_ishr hx hb dL_isAhead_57 ?_
  refine W.eq (g2 := F0 m 58 ls [.int (nI (C / 128)), .ref (a 0)]) (by rw [show ((nI C) >>> (7 &&& 31)) = (nI (C / 128)) from pk_shrN (n := C) (by omega) _ 7 (by decide +kernel)]) ?_
  refine lv_sipush (v := 700) hx hb dL_isAhead_58 (by decide) ?_
  refine lv_irem hx hb dL_isAhead_61 (by decide) ?_
  refine W.eq (g2 := F0 m 62 ls [.int (nI ((C / 128) % 700)), .ref (a 0)]) (by rw [show ((nI (C / 128)) - (nI (C / 128)) / 700 * 700) = (nI ((C / 128) % 700)) from pk_rem (a := C / 128) (d := 700) (by omega) (by decide) (by decide)]) ?_
  obtain ⟨u_62, eu_62⟩ : ∃ z : Xst, z = gSetLoad u_47 (nI ((C / 128) % 700)) := ⟨_, rfl⟩
  have hM_62 : Ci Γ l yX6_setLoad wsX6_setLoad rm_X6_setLoad [.ref (a 0), .int (nI ((C / 128) % 700))] (xW Γ a u_47) (rSetLoad u_47 (nI ((C / 128) % 700))) (xW Γ a u_62) := by rw [eu_62]; exact c_X6_setLoad Γ l a u_47 (nI ((C / 128) % 700))
  refine ca_Via hh hl.1 hM_62 (cwV 1 hts gL_isAhead_X6_setLoad rfl rfl rfl (by decide +kernel) ⟨(Nat.le_of_ble_eq_true rfl), (Nat.le_of_ble_eq_true rfl)⟩) (As := [.int (nI ((C / 128) % 700))]) (rest := []) rfl dL_isAhead_62 rfl (Nat.le_of_ble_eq_true rfl) hP hD hS (q0 := 0) (ci := 6) rfl rfl rfl (wf := xW Γ a u_62) (xW_addr _ _ _ _) ⟨(Nat.le_of_ble_eq_true rfl), (Nat.le_of_ble_eq_true rfl)⟩ (fun H locs hP hD hS => ?_)
  obtain ⟨σ_62, eσ_62⟩ : ∃ z : Lop, z = lPut_load σ_47 (nI ((C / 128) % 700)) := ⟨_, rfl⟩
  have b_62 : ((nI ((C / 128) % 700)) : Int32).toInt = _ := (nI_toInt (by omega))
  obtain ⟨s_62, y_62⟩ : rSetLoad u_47 (nI ((C / 128) % 700)) = lLoad σ_47 ∧ ZS u_62 v_31 (nU (nU 0)) σ_62 0 lop0 := by rw [eu_62]; exact (eσ_62 ▸ z_ld y_47 (by rw [b_62]; omega) (by rw [b_62]; omega))
  have a_62 : rSetLoad u_47 (nI ((C / 128) % 700)) = 0 := s_62.trans (by rw [eσ_47]; rfl)
  refine lv_if_ne (tgt := 85) hx hb dL_isAhead_65 (by decide) (fun c => absurd c (not_ne a_62)) (fun _ => ?_)
  obtain ⟨n0, hn0⟩ := LR_new
  have hL1 : LR σ_47 (mSetRow n0 (nI (C / 32 % 9000))) 0 := by rw [eσ_47]; exact LR_setR hn0 ⟨by rw [b_47]; omega, by rw [b_47]; omega⟩
  have hL2 : LR σ_62 (vp_updL (mSetRow n0 (nI (C / 32 % 9000))) 642 (nI (C / 128 % 700)).toInt64) 0 := by rw [eσ_62]; exact LR_load hL1 (by rw [b_62]; omega) (by rw [b_62]; omega)
  refine lv_aload_n hx hb dL_isAhead_68 rfl (lv_at hl 0 rfl) ?_
  refine lv_iconst (v := 1) hx hb dL_isAhead_69 (by decide) ?_
  refine lv_iload_n hx hb dL_isAhead_70 rfl (lv_at hl 1 rfl) ?_
  refine lv_bipush (v := 40) hx hb dL_isAhead_71 (by decide) ?_
  refine lv_irem hx hb dL_isAhead_73 (by decide) ?_
  refine W.eq (g2 := F0 m 74 ls [.int (nI (C % 40)), .int 1, .ref (a 0)]) (by rw [show ((nI C) - (nI C) / 40 * 40) = (nI (C % 40)) from pk_rem (a := C) (d := 40) (by omega) (by decide) (by decide)]) ?_
  refine lv_iadd hx hb dL_isAhead_74 ?_
  refine W.eq (g2 := F0 m 75 ls [.int (nI (1 + (C % 40))), .ref (a 0)]) (by rw [show (1 + (nI (C % 40))) = (nI (1 + (C % 40))) from nI_add 1 (C % 40)]) ?_
  obtain ⟨u_75, eu_75⟩ : ∃ z : Xst, z = gRun u_62 (nI (1 + (C % 40))) := ⟨_, rfl⟩
  have hM_75 : Ci Γ l yX6_run wsX6_run rm_X6_run [.ref (a 0), .int (nI (1 + (C % 40)))] (xW Γ a u_62) (rRun u_62 (nI (1 + (C % 40)))) (xW Γ a u_75) := by rw [eu_75]; exact c_X6_run Γ l a u_62 (nI (1 + (C % 40))) 0 (by rw [y_62.2.2.2.1]; exact hL2.1) (by omega)
  refine ca_Via hh hl.1 hM_75 (cwV 1 hts gL_isAhead_X6_run rfl rfl rfl (by decide +kernel) ⟨(Nat.le_of_ble_eq_true rfl), (Nat.le_of_ble_eq_true rfl)⟩) (As := [.int (nI (1 + (C % 40)))]) (rest := []) rfl dL_isAhead_75 rfl (Nat.le_of_ble_eq_true rfl) hP hD hS (q0 := 0) (ci := 6) rfl rfl rfl (wf := xW Γ a u_75) (xW_addr _ _ _ _) ⟨(Nat.le_of_ble_eq_true rfl), (Nat.le_of_ble_eq_true rfl)⟩ (fun H locs hP hD hS => ?_)
  obtain ⟨s_75, y_75⟩ : rRun u_62 (nI (1 + (C % 40))) = nI (0 + (1 + (C % 40))) ∧ ZS u_75 v_31 (nU (nU 0)) (fAdv v_31 (1 + (C % 40)) σ_62) 0 lop0 := by rw [eu_75]; exact z_run (T := 1 + (C % 40)) y_62 hL2.1 (by omega) (by omega) (by omega)
  have q0 := LR_adv (RS_self o_31) (1 + (C % 40)) 0 σ_62 _ hL2 (by omega)
  rw [Nat.zero_add] at q0
  obtain ⟨nr, hL⟩ : ∃ nr : mRow, LR (fAdv v_31 (1 + (C % 40)) σ_62) nr (1 + C % 40) := ⟨_, q0⟩
  obtain ⟨σ1, eσ1⟩ : ∃ z : Lop, z = fAdv v_31 (1 + (C % 40)) σ_62 := ⟨_, rfl⟩
  rw [← eσ1] at hL y_75
  refine lv_if_le (tgt := 85) hx hb dL_isAhead_78 (by decide) (fun c => absurd c (by rw [s_75]; exact nI_nle (by omega) (by omega))) (fun _ => ?_)
  refine lv_iconst (v := 1) hx hb dL_isAhead_81 (by decide) ?_
  refine lv_goto (tgt := 86) hx hb dL_isAhead_82 (by decide) ?_
  refine lv_istore_n (lv' := [(2, .int 1), (1, .ref (a 0)), (0, .int (nI C))]) hx hb dL_isAhead_86 rfl hl (by decide) rfl (fun ls hl => ?_)
  refine lv_iconst (v := 1) hx hb dL_isAhead_87 (by decide) ?_
  refine lv_iload_n hx hb dL_isAhead_88 rfl (lv_at hl 2 rfl) ?_
  refine lv_iconst (v := 4) hx hb dL_isAhead_89 (by decide) ?_
  refine lv_ishr hx hb dL_isAhead_90 ?_
  refine W.eq (g2 := F0 m 91 ls [.int (nI (C / 16)), .int 1]) (by rw [show ((nI C) >>> (4 &&& 31)) = (nI (C / 16)) from pk_shrN (n := C) (by omega) _ 4 (by decide +kernel)]) ?_
  refine lv_bipush (v := 30) hx hb dL_isAhead_91 (by decide) ?_
  refine lv_irem hx hb dL_isAhead_93 (by decide) ?_
  refine W.eq (g2 := F0 m 94 ls [.int (nI ((C / 16) % 30)), .int 1]) (by rw [show ((nI (C / 16)) - (nI (C / 16)) / 30 * 30) = (nI ((C / 16) % 30)) from pk_rem (a := C / 16) (d := 30) (by omega) (by decide) (by decide)]) ?_
  refine lv_iadd hx hb dL_isAhead_94 ?_
  refine W.eq (g2 := F0 m 95 ls [.int (nI (1 + ((C / 16) % 30)))]) (by rw [show (1 + (nI ((C / 16) % 30))) = (nI (1 + ((C / 16) % 30))) from nI_add 1 ((C / 16) % 30)]) ?_
  refine lv_istore_n (lv' := [(3, .int (nI (1 + ((C / 16) % 30)))), (2, .int 1), (1, .ref (a 0)), (0, .int (nI C))]) hx hb dL_isAhead_95 rfl hl (by decide) rfl (fun ls hl => ?_)
  refine lv_aload_n hx hb dL_isAhead_96 rfl (lv_at hl 2 rfl) ?_
  refine lv_iload_n hx hb dL_isAhead_97 rfl (lv_at hl 0 rfl) ?_
  obtain ⟨u_98, eu_98⟩ : ∃ z : Xst, z = gBest u_75 (nI (1 + ((C / 16) % 30))) := ⟨_, rfl⟩
  have hM_98 : Ci Γ l yX6_bestGain wsX6_bestGain rm_X6_bestGain [.ref (a 0), .int (nI (1 + ((C / 16) % 30)))] (xW Γ a u_75) (rBest u_75 (nI (1 + ((C / 16) % 30)))) (xW Γ a u_98) := by rw [eu_98]; exact c_X6_bestGain Γ l a u_75 (nI (1 + ((C / 16) % 30))) (1 + C % 40) (by rw [y_75.2.2.2.1]; exact hL.1) (by omega) (by rw [y_75.2.2.2.1]; exact LR_lB hL)
  refine ca_Via hh hl.1 hM_98 (cwV 1 hts gL_isAhead_X6_bestGain rfl rfl rfl (by decide +kernel) ⟨(Nat.le_of_ble_eq_true rfl), (Nat.le_of_ble_eq_true rfl)⟩) (As := [.int (nI (1 + ((C / 16) % 30)))]) (rest := []) rfl dL_isAhead_98 rfl (Nat.le_of_ble_eq_true rfl) hP hD hS (q0 := 0) (ci := 6) rfl rfl rfl (wf := xW Γ a u_98) (xW_addr _ _ _ _) ⟨(Nat.le_of_ble_eq_true rfl), (Nat.le_of_ble_eq_true rfl)⟩ (fun H locs hP hD hS => ?_)
  obtain ⟨B, hB20, eB, hmin, y_98⟩ : ∃ B : Nat, B ≤ 20 ∧ rBest u_75 (nI (1 + ((C / 16) % 30))) = nI (250 * B) ∧ (∀ i : Nat, i ≤ 20 → eG v_31 (1 + C / 16 % 30) σ1 B ≤ eG v_31 (1 + C / 16 % 30) σ1 i ∧ (i < B → eG v_31 (1 + C / 16 % 30) σ1 B < eG v_31 (1 + C / 16 % 30) σ1 i)) ∧ ZS u_98 v_31 (nU (nU 0)) σ1 0 lop0 := by rw [eu_98]; exact z_best (T := 1 + C / 16 % 30) y_75 o_31 hL (by omega) (by omega) (by omega)
  refine W.eq (g2 := F0 m 101 ls [.int (nI (250 * B))]) (by rw [show (rBest u_75 (nI (1 + ((C / 16) % 30)))) = (nI (250 * B)) from eB]) ?_
  refine lv_istore (lv' := [(4, .int (nI (250 * B))), (3, .int (nI (1 + ((C / 16) % 30)))), (2, .int 1), (1, .ref (a 0)), (0, .int (nI C))]) hx hb dL_isAhead_101 hl (by decide) rfl (fun ls hl => ?_)
  refine lv_iconst (v := 1) hx hb dL_isAhead_103 (by decide) ?_
  refine lv_iload_n hx hb dL_isAhead_104 rfl (lv_at hl 4 rfl) ?_
  refine lv_iconst (v := 2) hx hb dL_isAhead_105 (by decide) ?_
  refine lv_ishr hx hb dL_isAhead_106 ?_
  refine W.eq (g2 := F0 m 107 ls [.int (nI (C / 4)), .int 1]) (by rw [show ((nI C) >>> (2 &&& 31)) = (nI (C / 4)) from pk_shrN (n := C) (by omega) _ 2 (by decide +kernel)]) ?_
  refine lv_bipush (v := 9) hx hb dL_isAhead_107 (by decide) ?_
  refine lv_irem hx hb dL_isAhead_109 (by decide) ?_
  refine W.eq (g2 := F0 m 110 ls [.int (nI ((C / 4) % 9)), .int 1]) (by rw [show ((nI (C / 4)) - (nI (C / 4)) / 9 * 9) = (nI ((C / 4) % 9)) from pk_rem (a := C / 4) (d := 9) (by omega) (by decide) (by decide)]) ?_
  refine lv_iadd hx hb dL_isAhead_110 ?_
  refine W.eq (g2 := F0 m 111 ls [.int (nI (1 + ((C / 4) % 9)))]) (by rw [show (1 + (nI ((C / 4) % 9))) = (nI (1 + ((C / 4) % 9))) from nI_add 1 ((C / 4) % 9)]) ?_
  refine lv_istore (lv' := [(5, .int (nI (1 + ((C / 4) % 9)))), (4, .int (nI (250 * B))), (3, .int (nI (1 + ((C / 16) % 30)))), (2, .int 1), (1, .ref (a 0)), (0, .int (nI C))]) hx hb dL_isAhead_111 hl (by decide) rfl (fun ls hl => ?_)
  refine lv_aload_n hx hb dL_isAhead_113 rfl (lv_at hl 4 rfl) ?_
  refine lv_iload_n hx hb dL_isAhead_114 rfl (lv_at hl 2 rfl) ?_
  refine lv_iload hx hb dL_isAhead_115 (lv_at hl 0 rfl) ?_
  obtain ⟨u_117, eu_117⟩ : ∃ z : Xst, z = gAhead u_98 (nI (1 + ((C / 16) % 30))) (nI (1 + ((C / 4) % 9))) := ⟨_, rfl⟩
  have hM_117 : Ci Γ l yX6_ahead wsX6_ahead rm_X6_ahead [.ref (a 0), .int (nI (1 + ((C / 16) % 30))), .int (nI (1 + ((C / 4) % 9)))] (xW Γ a u_98) (rAhead u_98 (nI (1 + ((C / 16) % 30))) (nI (1 + ((C / 4) % 9)))) (xW Γ a u_117) := by rw [eu_117]; exact c_X6_ahead Γ l a u_98 (nI (1 + ((C / 16) % 30))) (nI (1 + ((C / 4) % 9))) (1 + C % 40) (by rw [y_98.2.2.2.1]; exact hL.1) (by omega) (by rw [y_98.2.2.2.1]; exact LR_lB hL)
  refine ca_Via hh hl.1 hM_117 (cwV 2 hts gL_isAhead_X6_ahead rfl rfl rfl (by decide +kernel) ⟨(Nat.le_of_ble_eq_true rfl), (Nat.le_of_ble_eq_true rfl)⟩) (As := [.int (nI (1 + ((C / 16) % 30))), .int (nI (1 + ((C / 4) % 9)))]) (rest := []) rfl dL_isAhead_117 rfl (Nat.le_of_ble_eq_true rfl) hP hD hS (q0 := 0) (ci := 6) rfl rfl rfl (wf := xW Γ a u_117) (xW_addr _ _ _ _) ⟨(Nat.le_of_ble_eq_true rfl), (Nat.le_of_ble_eq_true rfl)⟩ (fun H locs hP hD hS => ?_)
  obtain ⟨s_117, y_117⟩ : rAhead u_98 (nI (1 + ((C / 16) % 30))) (nI (1 + ((C / 4) % 9))) = lPres (fAdv v_31 (1 + C / 16 % 30) (fLoopCopy (xTrial u_98) σ1)) (1 + C / 4 % 9) ∧ ZS u_117 v_31 (nU (nU 0)) σ1 0 lop0 := by rw [eu_117]; exact z_ahead (T := 1 + C / 16 % 30) (s := 1 + C / 4 % 9) y_98 (by omega) (by omega) (by omega)
  obtain ⟨due, edue⟩ : ∃ z : Int32, z = lPres (fAdv v_31 (1 + C / 16 % 30) σ1) (1 + C / 4 % 9) := ⟨_, rfl⟩
  have sd : rAhead u_98 (nI (1 + ((C / 16) % 30))) (nI (1 + ((C / 4) % 9))) = due := by rw [s_117, edue]; exact adv_sig (RS_self o_31) (RS_self o_31) (LR_copy hL (fun _ _ => rfl)) hL (by omega) (by omega)
  refine W.eq (g2 := F0 m 120 ls [.int due]) (by rw [show (rAhead u_98 (nI (1 + ((C / 16) % 30))) (nI (1 + ((C / 4) % 9)))) = due from sd]) ?_
  refine lv_istore (lv' := [(6, .int due), (5, .int (nI (1 + ((C / 4) % 9)))), (4, .int (nI (250 * B))), (3, .int (nI (1 + ((C / 16) % 30)))), (2, .int 1), (1, .ref (a 0)), (0, .int (nI C))]) hx hb dL_isAhead_120 hl (by decide) rfl (fun ls hl => ?_)
  refine lv_iload_n hx hb dL_isAhead_122 rfl (lv_at hl 4 rfl) ?_
  refine lv_if_eq (tgt := 173) hx hb dL_isAhead_123 (by decide) (fun c => absurd c (by decide)) (fun _ => ?_)
  refine lv_iload hx hb dL_isAhead_126 (lv_at hl 2 rfl) ?_
  refine lv_sipush (v := 250) hx hb dL_isAhead_128 (by decide) ?_
  refine lv_irem hx hb dL_isAhead_131 (by decide) ?_
  refine W.eq (g2 := F0 m 132 ls [.int (nI (0))]) (by rw [show ((nI (250 * B)) - (nI (250 * B)) / 250 * 250) = (nI (0)) from (by have q := pk_rem (a := 250 * B) (d := 250) (by omega) (by decide) (by decide); rw [Nat.mul_mod_right] at q; exact q)]) ?_
  refine lv_if_ne (tgt := 173) hx hb dL_isAhead_132 (by decide) (fun c => absurd c (not_ne rfl)) (fun _ => ?_)
  refine lv_iload hx hb dL_isAhead_135 (lv_at hl 2 rfl) ?_
  refine lv_if_lt (tgt := 173) hx hb dL_isAhead_137 (by decide) (fun c => absurd c (nI_pos (n := 250 * B) (by omega))) (fun _ => ?_)
  refine lv_iload hx hb dL_isAhead_140 (lv_at hl 2 rfl) ?_
  refine lv_sipush (v := 5000) hx hb dL_isAhead_142 (by decide) ?_
  refine lv_icmp_gt (tgt := 173) hx hb dL_isAhead_145 (by decide) (fun c => absurd c (show ¬ (5000 : Int32) < nI (250 * B) from nI_nlt (a := 5000) (b := 250 * B) (by omega) (by decide))) (fun _ => ?_)
  refine lv_aload_n hx hb dL_isAhead_148 rfl (lv_at hl 5 rfl) ?_
  obtain ⟨u_149, eu_149⟩ : ∃ z : Xst, z = gStore u_117 := ⟨_, rfl⟩
  have hM_149 : Ci Γ l yX6_store wsX6_store rm_X6_store [.ref (a 0)] (xW Γ a u_117) (rStore u_117) (xW Γ a u_149) := by rw [eu_149]; exact c_X6_store Γ l a u_117 (Or.inl y_117.2.2.2.2.1) (by rw [y_117.2.2.2.1]; exact LR_lB hL)
  refine ca_Via hh hl.1 hM_149 (cwV 0 hts gL_isAhead_X6_store rfl rfl rfl (by decide +kernel) ⟨(Nat.le_of_ble_eq_true rfl), (Nat.le_of_ble_eq_true rfl)⟩) (As := []) (rest := []) rfl dL_isAhead_149 rfl (Nat.le_of_ble_eq_true rfl) hP hD hS (q0 := 0) (ci := 6) rfl rfl rfl (wf := xW Γ a u_149) (xW_addr _ _ _ _) ⟨(Nat.le_of_ble_eq_true rfl), (Nat.le_of_ble_eq_true rfl)⟩ (fun H locs hP hD hS => ?_)
  obtain ⟨s_149, y_149⟩ : rStore u_117 = 1 ∧ ZS u_149 v_31 (nU (nU 0)) σ1 1 (fLoopCopy lop0 σ1) := by rw [eu_149]; exact z_store y_117
  refine lv_iconst (v := 1) hx hb dL_isAhead_152 (by decide) ?_
  refine lv_icmp_ne (tgt := 173) hx hb dL_isAhead_153 (by decide) (fun c => absurd c (not_ne s_149)) (fun _ => ?_)
  refine lv_aload_n hx hb dL_isAhead_156 rfl (lv_at hl 5 rfl) ?_
  refine lv_iconst (v := 0) hx hb dL_isAhead_157 (by decide) ?_
  refine lv_iload hx hb dL_isAhead_158 (lv_at hl 2 rfl) ?_
  obtain ⟨u_160, eu_160⟩ : ∃ z : Xst, z = gSetParameter u_149 0 (nI (250 * B)) := ⟨_, rfl⟩
  have hM_160 : Ci Γ l yX6_setParameter wsX6_setParameter rm_X6_setParameter [.ref (a 0), .int 0, .int (nI (250 * B))] (xW Γ a u_149) (rSetParameter u_149 0 (nI (250 * B))) (xW Γ a u_160) := by rw [eu_160]; exact c_X6_setParameter Γ l a u_149 0 (nI (250 * B)) y_149.ok
  refine ca_Via hh hl.1 hM_160 (cwV 2 hts gL_isAhead_X6_setParameter rfl rfl rfl (by decide +kernel) ⟨(Nat.le_of_ble_eq_true rfl), (Nat.le_of_ble_eq_true rfl)⟩) (As := [.int 0, .int (nI (250 * B))]) (rest := []) rfl dL_isAhead_160 rfl (Nat.le_of_ble_eq_true rfl) hP hD hS (q0 := 0) (ci := 6) rfl rfl rfl (wf := xW Γ a u_160) (xW_addr _ _ _ _) ⟨(Nat.le_of_ble_eq_true rfl), (Nat.le_of_ble_eq_true rfl)⟩ (fun H locs hP hD hS => ?_)
  have b_160 := bd_P 0 0 20000 (by decide +kernel) (by decide +kernel) (w := (nI (250 * B))) (nI_toInt (by omega)) (by omega) (by omega)
  have e0_160 : upd v_31 0 (nI (250 * B)) = upd v_31 0 (nI (250 * B)) := by rfl
  obtain ⟨s_160, y_160⟩ : rSetParameter u_149 0 (nI (250 * B)) = v_31 0 ∧ ZS u_160 (upd v_31 0 (nI (250 * B))) (nU (nU (nU 0))) σ1 1 (fLoopCopy lop0 σ1) := by rw [eu_160, ← e0_160]; exact z_setP y_149 0 (by decide) b_160
  refine lv_sipush (v := 1000) hx hb dL_isAhead_163 (by decide) ?_
  refine lv_icmp_ne (tgt := 173) hx hb dL_isAhead_166 (by decide) (fun c => absurd c (not_ne (s_160.trans (by rw [ev_31, pk_un (by decide), ev_15, pk_un (by decide)]; exact sv 0 (by decide) (by decide +kernel))))) (fun _ => ?_)
  refine lv_iconst (v := 1) hx hb dL_isAhead_169 (by decide) ?_
  refine lv_goto (tgt := 174) hx hb dL_isAhead_170 (by decide) ?_
  refine lv_istore_n (lv' := [(2, .int 1), (6, .int due), (5, .int (nI (1 + ((C / 4) % 9)))), (4, .int (nI (250 * B))), (3, .int (nI (1 + ((C / 16) % 30)))), (1, .ref (a 0)), (0, .int (nI C))]) hx hb dL_isAhead_174 rfl hl (by decide) rfl (fun ls hl => ?_)
  refine lv_aload_n hx hb dL_isAhead_175 rfl (lv_at hl 5 rfl) ?_
  refine lv_iconst (v := 0) hx hb dL_isAhead_176 (by decide) ?_
  refine ca_Vla hh hl.1 (c_X6_measure Γ l a u_160 0) (cwV 1 hts gL_isAhead_X6_measure rfl rfl rfl (by decide +kernel) ⟨(Nat.le_of_ble_eq_true rfl), (Nat.le_of_ble_eq_true rfl)⟩) (As := [.int 0]) (rest := []) rfl dL_isAhead_177 rfl (Nat.le_of_ble_eq_true rfl) hP hD hS (q0 := 0) (ci := 6) rfl rfl rfl (wf := xW Γ a u_160) (xW_addr _ _ _ _) ⟨(Nat.le_of_ble_eq_true rfl), (Nat.le_of_ble_eq_true rfl)⟩ (fun H locs hP hD hS => ?_)
  refine W.eq (g2 := F0 m 180 ls [.long (sErr (lSec σ1))]) (by rw [show (rMeasure u_160 0) = (sErr (lSec σ1)) from z_mea0 y_160]) ?_
  refine lv_lstore (lv' := [(7, .long (sErr (lSec σ1))), (2, .int 1), (6, .int due), (5, .int (nI (1 + ((C / 4) % 9)))), (4, .int (nI (250 * B))), (3, .int (nI (1 + ((C / 16) % 30)))), (1, .ref (a 0)), (0, .int (nI C))]) hx hb dL_isAhead_180 hl (by decide) rfl (fun ls hl => ?_)
  refine lv_iload_n hx hb dL_isAhead_182 rfl (lv_at hl 1 rfl) ?_
  refine lv_if_eq (tgt := 198) hx hb dL_isAhead_183 (by decide) (fun c => absurd c (by decide)) (fun _ => ?_)
  refine lv_aload_n hx hb dL_isAhead_186 rfl (lv_at hl 6 rfl) ?_
  refine lv_iload_n hx hb dL_isAhead_187 rfl (lv_at hl 5 rfl) ?_
  obtain ⟨u_188, eu_188⟩ : ∃ z : Xst, z = gRun u_160 (nI (1 + ((C / 16) % 30))) := ⟨_, rfl⟩
  have hM_188 : Ci Γ l yX6_run wsX6_run rm_X6_run [.ref (a 0), .int (nI (1 + ((C / 16) % 30)))] (xW Γ a u_160) (rRun u_160 (nI (1 + ((C / 16) % 30)))) (xW Γ a u_188) := by rw [eu_188]; exact c_X6_run Γ l a u_160 (nI (1 + ((C / 16) % 30))) (1 + C % 40) (by rw [y_160.2.2.2.1]; exact hL.1) (by omega)
  refine ca_Via hh hl.1 hM_188 (cwV 1 hts gL_isAhead_X6_run rfl rfl rfl (by decide +kernel) ⟨(Nat.le_of_ble_eq_true rfl), (Nat.le_of_ble_eq_true rfl)⟩) (As := [.int (nI (1 + ((C / 16) % 30)))]) (rest := []) rfl dL_isAhead_188 rfl (Nat.le_of_ble_eq_true rfl) hP hD hS (q0 := 0) (ci := 6) rfl rfl rfl (wf := xW Γ a u_188) (xW_addr _ _ _ _) ⟨(Nat.le_of_ble_eq_true rfl), (Nat.le_of_ble_eq_true rfl)⟩ (fun H locs hP hD hS => ?_)
  obtain ⟨s_188, y_188⟩ : rRun u_160 (nI (1 + ((C / 16) % 30))) = nI (1 + C % 40 + (1 + C / 16 % 30)) ∧ ZS u_188 (upd v_31 0 (nI (250 * B))) (nU (nU (nU 0))) (fAdv (upd v_31 0 (nI (250 * B))) (1 + C / 16 % 30) σ1) 1 (fLoopCopy lop0 σ1) := by rw [eu_188]; exact z_run (T := 1 + C / 16 % 30) y_160 hL.1 (by omega) (by omega) (by omega)
  refine lv_if_le (tgt := 198) hx hb dL_isAhead_191 (by decide) (fun c => absurd c (by rw [s_188]; exact nI_nle (by omega) (by omega))) (fun _ => ?_)
  refine lv_iconst (v := 1) hx hb dL_isAhead_194 (by decide) ?_
  refine lv_goto (tgt := 199) hx hb dL_isAhead_195 (by decide) ?_
  refine lv_istore_n (lv' := [(2, .int 1), (7, .long (sErr (lSec σ1))), (6, .int due), (5, .int (nI (1 + ((C / 4) % 9)))), (4, .int (nI (250 * B))), (3, .int (nI (1 + ((C / 16) % 30)))), (1, .ref (a 0)), (0, .int (nI C))]) hx hb dL_isAhead_199 rfl hl (by decide) rfl (fun ls hl => ?_)
  refine lv_aload_n hx hb dL_isAhead_200 rfl (lv_at hl 6 rfl) ?_
  refine lv_iconst (v := 0) hx hb dL_isAhead_201 (by decide) ?_
  refine ca_Vla hh hl.1 (c_X6_measure Γ l a u_188 0) (cwV 1 hts gL_isAhead_X6_measure rfl rfl rfl (by decide +kernel) ⟨(Nat.le_of_ble_eq_true rfl), (Nat.le_of_ble_eq_true rfl)⟩) (As := [.int 0]) (rest := []) rfl dL_isAhead_202 rfl (Nat.le_of_ble_eq_true rfl) hP hD hS (q0 := 0) (ci := 6) rfl rfl rfl (wf := xW Γ a u_188) (xW_addr _ _ _ _) ⟨(Nat.le_of_ble_eq_true rfl), (Nat.le_of_ble_eq_true rfl)⟩ (fun H locs hP hD hS => ?_)
  refine W.eq (g2 := F0 m 205 ls [.long (sErr (lSec (fAdv (upd v_31 0 (nI (250 * B))) (1 + C / 16 % 30) σ1)))]) (by rw [show (rMeasure u_188 0) = (sErr (lSec (fAdv (upd v_31 0 (nI (250 * B))) (1 + C / 16 % 30) σ1))) from z_mea0 y_188]) ?_
  refine lv_lload hx hb dL_isAhead_205 (lv_at hl 1 rfl) ?_
  refine lv_lsub hx hb dL_isAhead_207 ?_
  refine W.eq (g2 := F0 m 208 ls [.long (eF v_31 (1 + C / 16 % 30) σ1 (250 * B))]) (by rw [show ((sErr (lSec (fAdv (upd v_31 0 (nI (250 * B))) (1 + C / 16 % 30) σ1))) - (sErr (lSec σ1))) = (eF v_31 (1 + C / 16 % 30) σ1 (250 * B)) from err_grow (upd v_31 0 (nI (250 * B))) (1 + C / 16 % 30) σ1]) ?_
  refine lv_lstore (lv' := [(9, .long (eF v_31 (1 + C / 16 % 30) σ1 (250 * B))), (2, .int 1), (7, .long (sErr (lSec σ1))), (6, .int due), (5, .int (nI (1 + ((C / 4) % 9)))), (4, .int (nI (250 * B))), (3, .int (nI (1 + ((C / 16) % 30)))), (1, .ref (a 0)), (0, .int (nI C))]) hx hb dL_isAhead_208 hl (by decide) rfl (fun ls hl => ?_)
  refine lv_iconst (v := 0) hx hb dL_isAhead_210 (by decide) ?_
  refine lv_istore (lv' := [(11, .int 0), (9, .long (eF v_31 (1 + C / 16 % 30) σ1 (250 * B))), (2, .int 1), (7, .long (sErr (lSec σ1))), (6, .int due), (5, .int (nI (1 + ((C / 4) % 9)))), (4, .int (nI (250 * B))), (3, .int (nI (1 + ((C / 16) % 30)))), (1, .ref (a 0)), (0, .int (nI C))]) hx hb dL_isAhead_211 hl (by decide) rfl (fun ls hl => ?_)
  have hJ_213 : ∀ n : Nat, ∀ (q : Nat) (y : Int32) (x1 : Xst) (g : Nat) (v2 : Sett) (U : Nat) (σ2 : Lop) (φ2 : Lop), (y = nI (1250 * q)) → (q ≤ 5) → (6 ≤ q + n) → (g ≤ 20000) → (v2 = upd v_31 0 (nI g)) → (ZS x1 v2 U σ2 1 φ2) → (LR φ2 nr (1 + C % 40)) → ∀ (H : Heap) (locs : List Loc) (ls : Array Slot), va_P (gD Γ) vwCl (xW Γ a x1) H → va_D A (xW Γ a x1) → va_S A s.heap H locs → lv_has ls 14 [(0, .int (nI C)), (1, .ref (a 0)), (2, .int 1), (3, .int (nI (1 + ((C / 16) % 30)))), (4, .int (nI (250 * B))), (5, .int (nI (1 + ((C / 4) % 9)))), (6, .int due), (7, .long (sErr (lSec σ1))), (9, .long (eF v_31 (1 + C / 16 % 30) σ1 (250 * B))), (11, .int y)] → W p l e rm_L_isAhead s m args below meth c H locs 64 3699 Q (F0 m 213 ls []) := by
    intro n
    induction n with
    | zero =>
      intro q y x1 g v2 U σ2 φ2 ey hq hn hg hv2 hz hφ
      omega
    | succ n ih =>
      intro q y x1 g v2 U σ2 φ2 ey hq hn hg hv2 hz hφ H locs ls hP hD hS hl
      refine lv_iload hx hb dL_isAhead_213 (lv_at hl 9 rfl) ?_
      refine lv_sipush (v := 5000) hx hb dL_isAhead_215 (by decide) ?_
      refine lv_icmp_gt (tgt := 316) hx hb dL_isAhead_218 (by decide) (fun c_218 => ?_) (fun c_218 => ?_)
      · -- yes
        skip
        refine lv_iload_n hx hb dL_isAhead_316 rfl (lv_at hl 2 rfl) ?_
        refine lv_if_eq (tgt := 361) hx hb dL_isAhead_317 (by decide) (fun c => absurd c (by decide)) (fun _ => ?_)
        refine lv_aload_n hx hb dL_isAhead_320 rfl (lv_at hl 1 rfl) ?_
        obtain ⟨u_321, eu_321⟩ : ∃ z : Xst, z = gRecall x1 := ⟨_, rfl⟩
        have hM_321 : Ci Γ l yX6_recall wsX6_recall rm_X6_recall [.ref (a 0)] (xW Γ a x1) (rRecall x1) (xW Γ a u_321) := by rw [eu_321]; exact c_X6_recall Γ l a x1 (Or.inr (Or.inl hz.2.2.2.2.1)) (by rw [hz.2.2.2.2.2.1]; exact LR_lB hφ) hz.2.2.2.2.2.2
        refine ca_Via hh hl.1 hM_321 (cwV 0 hts gL_isAhead_X6_recall rfl rfl rfl (by decide +kernel) ⟨(Nat.le_of_ble_eq_true rfl), (Nat.le_of_ble_eq_true rfl)⟩) (As := []) (rest := []) rfl dL_isAhead_321 rfl (Nat.le_of_ble_eq_true rfl) hP hD hS (q0 := 0) (ci := 6) rfl rfl rfl (wf := xW Γ a u_321) (xW_addr _ _ _ _) ⟨(Nat.le_of_ble_eq_true rfl), (Nat.le_of_ble_eq_true rfl)⟩ (fun H locs hP hD hS => ?_)
        obtain ⟨s_321, y_321⟩ : rRecall x1 = 0 ∧ ZS u_321 v2 U (fLoopCopy σ2 φ2) 0 φ2 := by rw [eu_321]; exact z_recall hz
        have hc3 : LR (fLoopCopy σ2 φ2) nr (1 + C % 40) := LR_copy hφ (fun _ _ => rfl)
        refine lv_if_ne (tgt := 361) hx hb dL_isAhead_324 (by decide) (fun c => absurd c (not_ne s_321)) (fun _ => ?_)
        refine lv_aload_n hx hb dL_isAhead_327 rfl (lv_at hl 1 rfl) ?_
        refine lv_iconst (v := 0) hx hb dL_isAhead_328 (by decide) ?_
        refine lv_sipush (v := 1000) hx hb dL_isAhead_329 (by decide) ?_
        obtain ⟨u_332, eu_332⟩ : ∃ z : Xst, z = gSetParameter u_321 0 1000 := ⟨_, rfl⟩
        have hM_332 : Ci Γ l yX6_setParameter wsX6_setParameter rm_X6_setParameter [.ref (a 0), .int 0, .int 1000] (xW Γ a u_321) (rSetParameter u_321 0 1000) (xW Γ a u_332) := by rw [eu_332]; exact c_X6_setParameter Γ l a u_321 0 1000 y_321.ok
        refine ca_Via hh hl.1 hM_332 (cwV 2 hts gL_isAhead_X6_setParameter rfl rfl rfl (by decide +kernel) ⟨(Nat.le_of_ble_eq_true rfl), (Nat.le_of_ble_eq_true rfl)⟩) (As := [.int 0, .int 1000]) (rest := []) rfl dL_isAhead_332 rfl (Nat.le_of_ble_eq_true rfl) hP hD hS (q0 := 0) (ci := 6) rfl rfl rfl (wf := xW Γ a u_332) (xW_addr _ _ _ _) ⟨(Nat.le_of_ble_eq_true rfl), (Nat.le_of_ble_eq_true rfl)⟩ (fun H locs hP hD hS => ?_)
        have b_332 := bd_P 0 0 20000 (by decide +kernel) (by decide +kernel) (w := 1000) (show (1000 : Int32).toInt = 1000 from by decide) (by omega) (by omega)
        have e0_332 : upd v2 0 1000 = upd v_31 0 1000 := by rw [hv2, upd_upd]
        obtain ⟨s_332, y_332⟩ : rSetParameter u_321 0 1000 = v2 0 ∧ ZS u_332 (upd v_31 0 1000) (nU U) (fLoopCopy σ2 φ2) 0 φ2 := by rw [eu_332, ← e0_332]; exact z_setP y_321 0 (by decide) b_332
        have e1000 : upd v_31 0 1000 = v_31 := by have q := upd_back (v := v_31) (k := 0) (a := 0) (b := 1000) (by rw [ev_31, pk_un (by decide), ev_15, pk_un (by decide)]; exact sv 0 (by decide) (by decide +kernel)); rw [upd_upd] at q; exact q
        refine lv_if_lt (tgt := 361) hx hb dL_isAhead_335 (by decide) (fun c => absurd c (by rw [s_332, hv2, pk_us]; exact nI_pos (by omega))) (fun _ => ?_)
        refine lv_aload_n hx hb dL_isAhead_338 rfl (lv_at hl 1 rfl) ?_
        refine lv_iload_n hx hb dL_isAhead_339 rfl (lv_at hl 3 rfl) ?_
        obtain ⟨u_340, eu_340⟩ : ∃ z : Xst, z = gRun u_332 (nI (1 + ((C / 16) % 30))) := ⟨_, rfl⟩
        have hM_340 : Ci Γ l yX6_run wsX6_run rm_X6_run [.ref (a 0), .int (nI (1 + ((C / 16) % 30)))] (xW Γ a u_332) (rRun u_332 (nI (1 + ((C / 16) % 30)))) (xW Γ a u_340) := by rw [eu_340]; exact c_X6_run Γ l a u_332 (nI (1 + ((C / 16) % 30))) (1 + C % 40) (by rw [y_332.2.2.2.1]; exact hc3.1) (by omega)
        refine ca_Via hh hl.1 hM_340 (cwV 1 hts gL_isAhead_X6_run rfl rfl rfl (by decide +kernel) ⟨(Nat.le_of_ble_eq_true rfl), (Nat.le_of_ble_eq_true rfl)⟩) (As := [.int (nI (1 + ((C / 16) % 30)))]) (rest := []) rfl dL_isAhead_340 rfl (Nat.le_of_ble_eq_true rfl) hP hD hS (q0 := 0) (ci := 6) rfl rfl rfl (wf := xW Γ a u_340) (xW_addr _ _ _ _) ⟨(Nat.le_of_ble_eq_true rfl), (Nat.le_of_ble_eq_true rfl)⟩ (fun H locs hP hD hS => ?_)
        obtain ⟨s_340, y_340⟩ : rRun u_332 (nI (1 + ((C / 16) % 30))) = nI (1 + C % 40 + (1 + C / 16 % 30)) ∧ ZS u_340 (upd v_31 0 1000) (nU U) (fAdv (upd v_31 0 1000) (1 + C / 16 % 30) (fLoopCopy σ2 φ2)) 0 φ2 := by rw [eu_340]; exact z_run (T := 1 + C / 16 % 30) y_332 hc3.1 (by omega) (by omega) (by omega)
        refine lv_if_le (tgt := 361) hx hb dL_isAhead_343 (by decide) (fun c => absurd c (by rw [s_340]; exact nI_nle (by omega) (by omega))) (fun _ => ?_)
        refine lv_aload_n hx hb dL_isAhead_346 rfl (lv_at hl 1 rfl) ?_
        refine lv_iload hx hb dL_isAhead_347 (lv_at hl 5 rfl) ?_
        refine ca_Via hh hl.1 (c_X6_value Γ l a u_340 (nI (1 + ((C / 4) % 9)))) (cwV 1 hts gL_isAhead_X6_value rfl rfl rfl (by decide +kernel) ⟨(Nat.le_of_ble_eq_true rfl), (Nat.le_of_ble_eq_true rfl)⟩) (As := [.int (nI (1 + ((C / 4) % 9)))]) (rest := []) rfl dL_isAhead_349 rfl (Nat.le_of_ble_eq_true rfl) hP hD hS (q0 := 0) (ci := 6) rfl rfl rfl (wf := xW Γ a u_340) (xW_addr _ _ _ _) ⟨(Nat.le_of_ble_eq_true rfl), (Nat.le_of_ble_eq_true rfl)⟩ (fun H locs hP hD hS => ?_)
        refine lv_iload hx hb dL_isAhead_352 (lv_at hl 6 rfl) ?_
        refine lv_icmp_ne (tgt := 361) hx hb dL_isAhead_354 (by decide) (fun c => absurd c (not_ne (by rw [edue]; exact (z_val y_340 (1 + C / 4 % 9) (by omega)).trans (adv_sig (q := v_31) ⟨by rw [e1000]; exact o_31, fun _ _ => by rw [e1000]⟩ (RS_self o_31) hc3 hL (by omega) (by omega))))) (fun _ => ?_)
        refine lv_iconst (v := 1) hx hb dL_isAhead_357 (by decide) ?_
        refine lv_goto (tgt := 362) hx hb dL_isAhead_358 (by decide) ?_
        exact re_q hQ ha hx hb hr hlk hAe hS dL_isAhead_362 rfl rfl
      · -- no
        have hq4 : q ≤ 4 := by rw [ey] at c_218; have z := Int32.not_lt.mp c_218; rw [show (5000 : Int32) = nI 5000 from rfl, nI_leI (by omega) (by decide)] at z; omega
        refine lv_iload_n hx hb dL_isAhead_221 rfl (lv_at hl 2 rfl) ?_
        refine lv_if_eq (tgt := 316) hx hb dL_isAhead_222 (by decide) (fun c => absurd c (by decide)) (fun _ => ?_)
        refine lv_aload_n hx hb dL_isAhead_225 rfl (lv_at hl 1 rfl) ?_
        obtain ⟨u_226, eu_226⟩ : ∃ z : Xst, z = gRecall x1 := ⟨_, rfl⟩
        have hM_226 : Ci Γ l yX6_recall wsX6_recall rm_X6_recall [.ref (a 0)] (xW Γ a x1) (rRecall x1) (xW Γ a u_226) := by rw [eu_226]; exact c_X6_recall Γ l a x1 (Or.inr (Or.inl hz.2.2.2.2.1)) (by rw [hz.2.2.2.2.2.1]; exact LR_lB hφ) hz.2.2.2.2.2.2
        refine ca_Via hh hl.1 hM_226 (cwV 0 hts gL_isAhead_X6_recall rfl rfl rfl (by decide +kernel) ⟨(Nat.le_of_ble_eq_true rfl), (Nat.le_of_ble_eq_true rfl)⟩) (As := []) (rest := []) rfl dL_isAhead_226 rfl (Nat.le_of_ble_eq_true rfl) hP hD hS (q0 := 0) (ci := 6) rfl rfl rfl (wf := xW Γ a u_226) (xW_addr _ _ _ _) ⟨(Nat.le_of_ble_eq_true rfl), (Nat.le_of_ble_eq_true rfl)⟩ (fun H locs hP hD hS => ?_)
        obtain ⟨s_226, y_226⟩ : rRecall x1 = 0 ∧ ZS u_226 v2 U (fLoopCopy σ2 φ2) 0 φ2 := by rw [eu_226]; exact z_recall hz
        have hc2 : LR (fLoopCopy σ2 φ2) nr (1 + C % 40) := LR_copy hφ (fun _ _ => rfl)
        refine lv_if_ne (tgt := 262) hx hb dL_isAhead_229 (by decide) (fun c => absurd c (not_ne s_226)) (fun _ => ?_)
        refine lv_aload_n hx hb dL_isAhead_232 rfl (lv_at hl 1 rfl) ?_
        obtain ⟨u_233, eu_233⟩ : ∃ z : Xst, z = gStore u_226 := ⟨_, rfl⟩
        have hM_233 : Ci Γ l yX6_store wsX6_store rm_X6_store [.ref (a 0)] (xW Γ a u_226) (rStore u_226) (xW Γ a u_233) := by rw [eu_233]; exact c_X6_store Γ l a u_226 (Or.inl y_226.2.2.2.2.1) (by rw [y_226.2.2.2.1]; exact LR_lB hc2)
        refine ca_Via hh hl.1 hM_233 (cwV 0 hts gL_isAhead_X6_store rfl rfl rfl (by decide +kernel) ⟨(Nat.le_of_ble_eq_true rfl), (Nat.le_of_ble_eq_true rfl)⟩) (As := []) (rest := []) rfl dL_isAhead_233 rfl (Nat.le_of_ble_eq_true rfl) hP hD hS (q0 := 0) (ci := 6) rfl rfl rfl (wf := xW Γ a u_233) (xW_addr _ _ _ _) ⟨(Nat.le_of_ble_eq_true rfl), (Nat.le_of_ble_eq_true rfl)⟩ (fun H locs hP hD hS => ?_)
        obtain ⟨s_233, y_233⟩ : rStore u_226 = 1 ∧ ZS u_233 v2 U (fLoopCopy σ2 φ2) 1 (fLoopCopy φ2 (fLoopCopy σ2 φ2)) := by rw [eu_233]; exact z_store y_226
        have hφ3 : LR (fLoopCopy φ2 (fLoopCopy σ2 φ2)) nr (1 + C % 40) := LR_copy hc2 (fun _ _ => rfl)
        refine lv_iconst (v := 1) hx hb dL_isAhead_236 (by decide) ?_
        refine lv_icmp_ne (tgt := 262) hx hb dL_isAhead_237 (by decide) (fun c => absurd c (not_ne s_233)) (fun _ => ?_)
        refine lv_aload_n hx hb dL_isAhead_240 rfl (lv_at hl 1 rfl) ?_
        refine lv_iconst (v := 0) hx hb dL_isAhead_241 (by decide) ?_
        refine lv_iload hx hb dL_isAhead_242 (lv_at hl 9 rfl) ?_
        obtain ⟨u_244, eu_244⟩ : ∃ z : Xst, z = gSetParameter u_233 0 y := ⟨_, rfl⟩
        have hM_244 : Ci Γ l yX6_setParameter wsX6_setParameter rm_X6_setParameter [.ref (a 0), .int 0, .int y] (xW Γ a u_233) (rSetParameter u_233 0 y) (xW Γ a u_244) := by rw [eu_244]; exact c_X6_setParameter Γ l a u_233 0 y y_233.ok
        refine ca_Via hh hl.1 hM_244 (cwV 2 hts gL_isAhead_X6_setParameter rfl rfl rfl (by decide +kernel) ⟨(Nat.le_of_ble_eq_true rfl), (Nat.le_of_ble_eq_true rfl)⟩) (As := [.int 0, .int y]) (rest := []) rfl dL_isAhead_244 rfl (Nat.le_of_ble_eq_true rfl) hP hD hS (q0 := 0) (ci := 6) rfl rfl rfl (wf := xW Γ a u_244) (xW_addr _ _ _ _) ⟨(Nat.le_of_ble_eq_true rfl), (Nat.le_of_ble_eq_true rfl)⟩ (fun H locs hP hD hS => ?_)
        have b_244 := bd_P 0 0 20000 (by decide +kernel) (by decide +kernel) (w := y) (show (y : Int32).toInt = ((1250 * q : Nat) : Int) from by rw [ey]; exact nI_toInt (by omega)) (by omega) (by omega)
        have e0_244 : upd v2 0 y = upd v_31 0 (nI (1250 * q)) := by rw [hv2, upd_upd, ey]
        obtain ⟨s_244, y_244⟩ : rSetParameter u_233 0 y = v2 0 ∧ ZS u_244 (upd v_31 0 (nI (1250 * q))) (nU U) (fLoopCopy σ2 φ2) 1 (fLoopCopy φ2 (fLoopCopy σ2 φ2)) := by rw [eu_244, ← e0_244]; exact z_setP y_233 0 (by decide) b_244
        refine lv_if_lt (tgt := 262) hx hb dL_isAhead_247 (by decide) (fun c => absurd c (by rw [s_244, hv2, pk_us]; exact nI_pos (by omega))) (fun _ => ?_)
        refine lv_aload_n hx hb dL_isAhead_250 rfl (lv_at hl 1 rfl) ?_
        refine lv_iload_n hx hb dL_isAhead_251 rfl (lv_at hl 3 rfl) ?_
        obtain ⟨u_252, eu_252⟩ : ∃ z : Xst, z = gRun u_244 (nI (1 + ((C / 16) % 30))) := ⟨_, rfl⟩
        have hM_252 : Ci Γ l yX6_run wsX6_run rm_X6_run [.ref (a 0), .int (nI (1 + ((C / 16) % 30)))] (xW Γ a u_244) (rRun u_244 (nI (1 + ((C / 16) % 30)))) (xW Γ a u_252) := by rw [eu_252]; exact c_X6_run Γ l a u_244 (nI (1 + ((C / 16) % 30))) (1 + C % 40) (by rw [y_244.2.2.2.1]; exact hc2.1) (by omega)
        refine ca_Via hh hl.1 hM_252 (cwV 1 hts gL_isAhead_X6_run rfl rfl rfl (by decide +kernel) ⟨(Nat.le_of_ble_eq_true rfl), (Nat.le_of_ble_eq_true rfl)⟩) (As := [.int (nI (1 + ((C / 16) % 30)))]) (rest := []) rfl dL_isAhead_252 rfl (Nat.le_of_ble_eq_true rfl) hP hD hS (q0 := 0) (ci := 6) rfl rfl rfl (wf := xW Γ a u_252) (xW_addr _ _ _ _) ⟨(Nat.le_of_ble_eq_true rfl), (Nat.le_of_ble_eq_true rfl)⟩ (fun H locs hP hD hS => ?_)
        obtain ⟨s_252, y_252⟩ : rRun u_244 (nI (1 + ((C / 16) % 30))) = nI (1 + C % 40 + (1 + C / 16 % 30)) ∧ ZS u_252 (upd v_31 0 (nI (1250 * q))) (nU U) (fAdv (upd v_31 0 (nI (1250 * q))) (1 + C / 16 % 30) (fLoopCopy σ2 φ2)) 1 (fLoopCopy φ2 (fLoopCopy σ2 φ2)) := by rw [eu_252]; exact z_run (T := 1 + C / 16 % 30) y_244 hc2.1 (by omega) (by omega) (by omega)
        refine lv_if_le (tgt := 262) hx hb dL_isAhead_255 (by decide) (fun c => absurd c (by rw [s_252]; exact nI_nle (by omega) (by omega))) (fun _ => ?_)
        refine lv_iconst (v := 1) hx hb dL_isAhead_258 (by decide) ?_
        refine lv_goto (tgt := 263) hx hb dL_isAhead_259 (by decide) ?_
        refine lv_istore_n (lv' := [(2, .int 1), (0, .int (nI C)), (1, .ref (a 0)), (3, .int (nI (1 + ((C / 16) % 30)))), (4, .int (nI (250 * B))), (5, .int (nI (1 + ((C / 4) % 9)))), (6, .int due), (7, .long (sErr (lSec σ1))), (9, .long (eF v_31 (1 + C / 16 % 30) σ1 (250 * B))), (11, .int y)]) hx hb dL_isAhead_263 rfl hl (by decide) rfl (fun ls hl => ?_)
        refine lv_aload_n hx hb dL_isAhead_264 rfl (lv_at hl 2 rfl) ?_
        refine lv_iconst (v := 0) hx hb dL_isAhead_265 (by decide) ?_
        refine ca_Vla hh hl.1 (c_X6_measure Γ l a u_252 0) (cwV 1 hts gL_isAhead_X6_measure rfl rfl rfl (by decide +kernel) ⟨(Nat.le_of_ble_eq_true rfl), (Nat.le_of_ble_eq_true rfl)⟩) (As := [.int 0]) (rest := []) rfl dL_isAhead_266 rfl (Nat.le_of_ble_eq_true rfl) hP hD hS (q0 := 0) (ci := 6) rfl rfl rfl (wf := xW Γ a u_252) (xW_addr _ _ _ _) ⟨(Nat.le_of_ble_eq_true rfl), (Nat.le_of_ble_eq_true rfl)⟩ (fun H locs hP hD hS => ?_)
        refine W.eq (g2 := F0 m 269 ls [.long (sErr (lSec (fAdv (upd v_31 0 (nI (1250 * q))) (1 + C / 16 % 30) (fLoopCopy σ2 φ2))))]) (by rw [show (rMeasure u_252 0) = (sErr (lSec (fAdv (upd v_31 0 (nI (1250 * q))) (1 + C / 16 % 30) (fLoopCopy σ2 φ2)))) from z_mea0 y_252]) ?_
        refine lv_lload hx hb dL_isAhead_269 (lv_at hl 7 rfl) ?_
        refine lv_lsub hx hb dL_isAhead_271 ?_
        refine W.eq (g2 := F0 m 272 ls [.long (eF v_31 (1 + C / 16 % 30) σ1 (1250 * q))]) (by rw [show ((sErr (lSec (fAdv (upd v_31 0 (nI (1250 * q))) (1 + C / 16 % 30) (fLoopCopy σ2 φ2)))) - (sErr (lSec σ1))) = (eF v_31 (1 + C / 16 % 30) σ1 (1250 * q)) from (by rw [err_sec hL hc2, err_grow]; exact eF_copy o_31 hc2 hL (by omega) (by omega))]) ?_
        refine lv_lstore (lv' := [(12, .long (eF v_31 (1 + C / 16 % 30) σ1 (1250 * q))), (2, .int 1), (0, .int (nI C)), (1, .ref (a 0)), (3, .int (nI (1 + ((C / 16) % 30)))), (4, .int (nI (250 * B))), (5, .int (nI (1 + ((C / 4) % 9)))), (6, .int due), (7, .long (sErr (lSec σ1))), (9, .long (eF v_31 (1 + C / 16 % 30) σ1 (250 * B))), (11, .int y)]) hx hb dL_isAhead_272 hl (by decide) rfl (fun ls hl => ?_)
        refine lv_iload_n hx hb dL_isAhead_274 rfl (lv_at hl 1 rfl) ?_
        refine lv_if_eq (tgt := 305) hx hb dL_isAhead_275 (by decide) (fun c => absurd c (by decide)) (fun _ => ?_)
        refine lv_lload hx hb dL_isAhead_278 (lv_at hl 0 rfl) ?_
        refine lv_lload hx hb dL_isAhead_280 (lv_at hl 9 rfl) ?_
        refine W.lcmp hx hb dL_isAhead_282 ?_
        refine lv_if_gt (tgt := 301) hx hb dL_isAhead_283 (by decide) (fun c_283 => ?_) (fun c_283 => ?_)
        · -- yes
          have c_283 := (lg_cmp_gt _ _).mp c_283
          refine lv_iconst (v := 1) hx hb dL_isAhead_301 (by decide) ?_
          refine lv_goto (tgt := 306) hx hb dL_isAhead_302 (by decide) ?_
          refine lv_istore_n (lv' := [(2, .int 1), (12, .long (eF v_31 (1 + C / 16 % 30) σ1 (1250 * q))), (0, .int (nI C)), (1, .ref (a 0)), (3, .int (nI (1 + ((C / 16) % 30)))), (4, .int (nI (250 * B))), (5, .int (nI (1 + ((C / 4) % 9)))), (6, .int due), (7, .long (sErr (lSec σ1))), (9, .long (eF v_31 (1 + C / 16 % 30) σ1 (250 * B))), (11, .int y)]) hx hb dL_isAhead_306 rfl hl (by decide) rfl (fun ls hl => ?_)
          refine lv_iincW (v := (y + 1250)) (lv' := [(11, .int (y + 1250)), (2, .int 1), (12, .long (eF v_31 (1 + C / 16 % 30) σ1 (1250 * q))), (0, .int (nI C)), (1, .ref (a 0)), (3, .int (nI (1 + ((C / 16) % 30)))), (4, .int (nI (250 * B))), (5, .int (nI (1 + ((C / 4) % 9)))), (6, .int due), (7, .long (sErr (lSec σ1))), (9, .long (eF v_31 (1 + C / 16 % 30) σ1 (250 * B)))]) hx hb dL_isAhead_307 hl (k := 10) rfl rfl (by decide) rfl (fun ls hl => ?_)
          refine lv_goto (tgt := 213) hx hb dL_isAhead_313 (by decide) ?_
          exact ih (q + 1) _ _ (1250 * q) _ _ _ _ (by rw [ey]; exact nI_add (1250 * q) 1250) (by omega) (by omega) (by omega) rfl y_252 hφ3 _ _ _ hP hD hS (lv_sub hl [3, 4, 1, 5, 6, 7, 8, 9, 10, 0] rfl)
        · -- no
          have c_283 := mt (lg_cmp_gt _ _).mpr c_283
          have ck := chk_eq (v := v_31) (σ := σ1) (T := 1 + C / 16 % 30) (B := B) (q := q) rfl rfl hmin hq4 c_283
          refine lv_lload hx hb dL_isAhead_286 (lv_at hl 0 rfl) ?_
          refine lv_lload hx hb dL_isAhead_288 (lv_at hl 9 rfl) ?_
          refine W.lcmp hx hb dL_isAhead_290 ?_
          refine lv_if_ne (tgt := 305) hx hb dL_isAhead_291 (by decide) (fun c => absurd c (not_ne ((lg_cmp_eq _ _).mpr ck.1))) (fun _ => ?_)
          refine lv_iload hx hb dL_isAhead_294 (lv_at hl 10 rfl) ?_
          refine lv_iload hx hb dL_isAhead_296 (lv_at hl 5 rfl) ?_
          refine lv_icmp_lt (tgt := 305) hx hb dL_isAhead_298 (by decide) (fun c => absurd c (by rw [ey]; exact nI_nlt ck.2 (by omega))) (fun _ => ?_)
          refine lv_iconst (v := 1) hx hb dL_isAhead_301 (by decide) ?_
          refine lv_goto (tgt := 306) hx hb dL_isAhead_302 (by decide) ?_
          refine lv_istore_n (lv' := [(2, .int 1), (12, .long (eF v_31 (1 + C / 16 % 30) σ1 (1250 * q))), (0, .int (nI C)), (1, .ref (a 0)), (3, .int (nI (1 + ((C / 16) % 30)))), (4, .int (nI (250 * B))), (5, .int (nI (1 + ((C / 4) % 9)))), (6, .int due), (7, .long (sErr (lSec σ1))), (9, .long (eF v_31 (1 + C / 16 % 30) σ1 (250 * B))), (11, .int y)]) hx hb dL_isAhead_306 rfl hl (by decide) rfl (fun ls hl => ?_)
          refine lv_iincW (v := (y + 1250)) (lv' := [(11, .int (y + 1250)), (2, .int 1), (12, .long (eF v_31 (1 + C / 16 % 30) σ1 (1250 * q))), (0, .int (nI C)), (1, .ref (a 0)), (3, .int (nI (1 + ((C / 16) % 30)))), (4, .int (nI (250 * B))), (5, .int (nI (1 + ((C / 4) % 9)))), (6, .int due), (7, .long (sErr (lSec σ1))), (9, .long (eF v_31 (1 + C / 16 % 30) σ1 (250 * B)))]) hx hb dL_isAhead_307 hl (k := 10) rfl rfl (by decide) rfl (fun ls hl => ?_)
          refine lv_goto (tgt := 213) hx hb dL_isAhead_313 (by decide) ?_
          exact ih (q + 1) _ _ (1250 * q) _ _ _ _ (by rw [ey]; exact nI_add (1250 * q) 1250) (by omega) (by omega) (by omega) rfl y_252 hφ3 _ _ _ hP hD hS (lv_sub hl [3, 4, 1, 5, 6, 7, 8, 9, 10, 0] rfl)
  exact hJ_213 6 0 0 _ (250 * B) _ _ _ _ rfl (by omega) (by omega) (by omega) rfl y_188 (LR_copy hL (fun _ _ => rfl)) _ _ _ hP hD hS (lv_sub hl [9, 8, 2, 7, 6, 5, 4, 3, 1, 0] rfl)
