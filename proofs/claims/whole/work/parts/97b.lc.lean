set_option maxHeartbeats 2000000 in
set_option maxRecDepth 100000 in
theorem L_11 {Γ : gT} {p : Program} {l : Launch} {e : Env} {s : State} {m : MethodId} {below : List Frame} {meth : Method} {c : Code} {A : Nat → Prop} {a a2 : Nat → Nat} {b L i : Nat} {xs : Nat → Int32} {Q : State → Prop} (hh : Hd Γ p s m #[.ref b] c cL_law RL 4 wsL_law A) (hX : va_X b L xs s s.heap) (hbl : b < s.heap.size) (hbA : ¬ A b) (hi : i + 3 ≤ L) (hL : L ≤ 1536) {x : Xst} {μ : Mst} (hr : REL x μ) {H : Heap} {locs : List Loc} {ls : Array Slot} (hP : va_P (gD Γ) vwCl (xW Γ a x ++ modW Γ a2 0 μ) H) (hD : va_D A (xW Γ a x ++ modW Γ a2 0 μ)) (hS : va_S A s.heap H locs) (hl : lv_has ls 4 [(0, .ref b), (1, .ref (a 0)), (2, .ref (a2 0)), (3, .int (nI i))])
    (kk : ∀ (x1 : Xst) (μ1 : Mst) (H1 : Heap) (locs1 : List Loc) (ls1 : Array Slot), REL x1 μ1 → va_P (gD Γ) vwCl (xW Γ a x1 ++ modW Γ a2 0 μ1) H1 → va_D A (xW Γ a x1 ++ modW Γ a2 0 μ1) → va_S A s.heap H1 locs1 → lv_has ls1 4 [(0, .ref b), (1, .ref (a 0)), (2, .ref (a2 0)), (3, .int (nI i))] → W p l e room_1 s m #[.ref b] below meth c H1 locs1 600000 7302249 Q (F0 m 854 ls1 [])) : W p l e room_1 s m #[.ref b] below meth c H locs 600000 7302249 Q (F0 m 409 ls []) := by
  obtain ⟨hx, hb, hml, hown, hts⟩ := id hh.1
  obtain ⟨f_c, f_u, f_l0, ⟨L0, f_L, f_L2⟩, f_len, f_nm, ⟨N0, f_N, f_N7, f_N2⟩, f_ok, f_w, f_s, f_k, f_B, f_B1, f_B2, J0, f_J, f_J6, f_J7⟩ := REL_facts hr
  have h_1 : vp_in (nI i + 1) L := by rw [nI_1]; exact vp_in_nI (by omega) (by omega)
  have h_2 : vp_in (nI i + 2) L := by rw [show nI i + 2 = nI (i + 2) from nI_add i 2]; exact vp_in_nI (by omega) (by omega)
  refine lv_aload_n hx hb dL_law_409 rfl (lv_at hl 1 rfl) ?_
  refine la_i (pre := []) (w := xW Γ a x) (w1 := xW Γ a (gFault x)) (post := modW Γ a2 0 μ) hh hl.1 (c_X6_assigned Γ l a x  L0 f_L f_L2) (cwV 0 hts gL_law_X6_assigned rfl rfl rfl (by decide +kernel) ⟨(Nat.le_of_ble_eq_true rfl), (Nat.le_of_ble_eq_true rfl)⟩) (As := []) (rest := []) rfl dL_law_410 rfl (Nat.le_of_ble_eq_true rfl) hP hD hS (q0 := 0) (ci := 6) (x_at Γ a x _) rfl rfl (xW_len2 Γ a _ _) (xW_addr _ _ _ _) ⟨(Nat.le_of_ble_eq_true rfl), (Nat.le_of_ble_eq_true rfl)⟩ (fun H locs hP hD hS => ?_)
  refine lv_aload_n hx hb dL_law_413 rfl (lv_at hl 2 rfl) ?_
  refine la_im (pre := xW Γ a (gFault x)) (w := modW Γ a2 0 μ) (w1 := modW Γ a2 0 (hAssigned μ)) hh hl.1 (c_X7_assigned Γ l a2 0 μ   f_nm f_len) (cwV 0 hts gL_law_X7_assigned rfl rfl rfl (by decide +kernel) ⟨(Nat.le_of_ble_eq_true rfl), (Nat.le_of_ble_eq_true rfl)⟩) (As := []) (rest := [.int (rAssigned x)]) rfl dL_law_414 rfl (Nat.le_of_ble_eq_true rfl) hP hD hS (q0 := 64) (ci := 7) (m_at Γ a a2 _ μ) rfl rfl (modW_len2 Γ a2 _ _) (modW_addr2 Γ a2 _ _) ⟨(Nat.le_of_ble_eq_true rfl), (Nat.le_of_ble_eq_true rfl)⟩ (fun H locs hP hD hS => ?_)
  refine lv_icmp_eq (tgt := 854) hx hb dL_law_417 (by decide) (fun c_ => ?_) (fun c_ => ?_)
  · exact kk _ _ _ _ _ ((s_assigned hr ).2) hP hD hS hl
  · exact absurd ((s_assigned hr ).1) c_
set_option maxHeartbeats 2000000 in
set_option maxRecDepth 100000 in
theorem L_12 {Γ : gT} {p : Program} {l : Launch} {e : Env} {s : State} {m : MethodId} {below : List Frame} {meth : Method} {c : Code} {A : Nat → Prop} {a a2 : Nat → Nat} {b L i : Nat} {xs : Nat → Int32} {Q : State → Prop} (hh : Hd Γ p s m #[.ref b] c cL_law RL 4 wsL_law A) (hX : va_X b L xs s s.heap) (hbl : b < s.heap.size) (hbA : ¬ A b) (hi : i + 3 ≤ L) (hL : L ≤ 1536) {x : Xst} {μ : Mst} (hr : REL x μ) {H : Heap} {locs : List Loc} {ls : Array Slot} (hP : va_P (gD Γ) vwCl (xW Γ a x ++ modW Γ a2 0 μ) H) (hD : va_D A (xW Γ a x ++ modW Γ a2 0 μ)) (hS : va_S A s.heap H locs) (hl : lv_has ls 4 [(0, .ref b), (1, .ref (a 0)), (2, .ref (a2 0)), (3, .int (nI i))])
    (kk : ∀ (x1 : Xst) (μ1 : Mst) (H1 : Heap) (locs1 : List Loc) (ls1 : Array Slot), REL x1 μ1 → va_P (gD Γ) vwCl (xW Γ a x1 ++ modW Γ a2 0 μ1) H1 → va_D A (xW Γ a x1 ++ modW Γ a2 0 μ1) → va_S A s.heap H1 locs1 → lv_has ls1 4 [(0, .ref b), (1, .ref (a 0)), (2, .ref (a2 0)), (3, .int (nI i))] → W p l e room_1 s m #[.ref b] below meth c H1 locs1 600000 7302249 Q (F0 m 854 ls1 [])) : W p l e room_1 s m #[.ref b] below meth c H locs 600000 7302249 Q (F0 m 422 ls []) := by
  obtain ⟨hx, hb, hml, hown, hts⟩ := id hh.1
  obtain ⟨f_c, f_u, f_l0, ⟨L0, f_L, f_L2⟩, f_len, f_nm, ⟨N0, f_N, f_N7, f_N2⟩, f_ok, f_w, f_s, f_k, f_B, f_B1, f_B2, J0, f_J, f_J6, f_J7⟩ := REL_facts hr
  have h_1 : vp_in (nI i + 1) L := by rw [nI_1]; exact vp_in_nI (by omega) (by omega)
  have h_2 : vp_in (nI i + 2) L := by rw [show nI i + 2 = nI (i + 2) from nI_add i 2]; exact vp_in_nI (by omega) (by omega)
  refine lv_aload_n hx hb dL_law_422 rfl (lv_at hl 1 rfl) ?_
  refine lv_aload_n hx hb dL_law_423 rfl (lv_at hl 0 rfl) ?_
  refine lv_iload_n hx hb dL_law_424 rfl (lv_at hl 3 rfl) ?_
  refine lv_iconst (v := 1) hx hb dL_law_425 (by decide) ?_
  refine lv_iadd hx hb dL_law_426 ?_
  refine va_sld hx hb hX hbl hbA hS h_1 dL_law_427 ?_
  refine la_i (pre := []) (w := xW Γ a x) (w1 := xW Γ a (gAssignedAt x (xs (nI i + 1).toNatClampNeg))) (post := modW Γ a2 0 μ) hh hl.1 (c_X6_assignedAt Γ l a x (xs (nI i + 1).toNatClampNeg) L0 f_L f_L2) (cwV 1 hts gL_law_X6_assignedAt rfl rfl rfl (by decide +kernel) ⟨(Nat.le_of_ble_eq_true rfl), (Nat.le_of_ble_eq_true rfl)⟩) (As := [.int (xs (nI i + 1).toNatClampNeg)]) (rest := []) rfl dL_law_428 rfl (Nat.le_of_ble_eq_true rfl) hP hD hS (q0 := 0) (ci := 6) (x_at Γ a x _) rfl rfl (xW_len2 Γ a _ _) (xW_addr _ _ _ _) ⟨(Nat.le_of_ble_eq_true rfl), (Nat.le_of_ble_eq_true rfl)⟩ (fun H locs hP hD hS => ?_)
  refine lv_aload_n hx hb dL_law_431 rfl (lv_at hl 2 rfl) ?_
  refine lv_aload_n hx hb dL_law_432 rfl (lv_at hl 0 rfl) ?_
  refine lv_iload_n hx hb dL_law_433 rfl (lv_at hl 3 rfl) ?_
  refine lv_iconst (v := 1) hx hb dL_law_434 (by decide) ?_
  refine lv_iadd hx hb dL_law_435 ?_
  refine va_sld hx hb hX hbl hbA hS h_1 dL_law_436 ?_
  refine la_im (pre := xW Γ a (gAssignedAt x (xs (nI i + 1).toNatClampNeg))) (w := modW Γ a2 0 μ) (w1 := modW Γ a2 0 (hAssignedAt μ (xs (nI i + 1).toNatClampNeg))) hh hl.1 (c_X7_assignedAt Γ l a2 0 μ (xs (nI i + 1).toNatClampNeg)  f_nm f_len) (cwV 1 hts gL_law_X7_assignedAt rfl rfl rfl (by decide +kernel) ⟨(Nat.le_of_ble_eq_true rfl), (Nat.le_of_ble_eq_true rfl)⟩) (As := [.int (xs (nI i + 1).toNatClampNeg)]) (rest := [.int (rAssignedAt x (xs (nI i + 1).toNatClampNeg))]) rfl dL_law_437 rfl (Nat.le_of_ble_eq_true rfl) hP hD hS (q0 := 64) (ci := 7) (m_at Γ a a2 _ μ) rfl rfl (modW_len2 Γ a2 _ _) (modW_addr2 Γ a2 _ _) ⟨(Nat.le_of_ble_eq_true rfl), (Nat.le_of_ble_eq_true rfl)⟩ (fun H locs hP hD hS => ?_)
  refine lv_icmp_eq (tgt := 854) hx hb dL_law_440 (by decide) (fun c_ => ?_) (fun c_ => ?_)
  · exact kk _ _ _ _ _ ((s_assignedAt hr (xs (nI i + 1).toNatClampNeg)).2) hP hD hS hl
  · exact absurd ((s_assignedAt hr (xs (nI i + 1).toNatClampNeg)).1) c_
set_option maxHeartbeats 2000000 in
set_option maxRecDepth 100000 in
theorem L_13 {Γ : gT} {p : Program} {l : Launch} {e : Env} {s : State} {m : MethodId} {below : List Frame} {meth : Method} {c : Code} {A : Nat → Prop} {a a2 : Nat → Nat} {b L i : Nat} {xs : Nat → Int32} {Q : State → Prop} (hh : Hd Γ p s m #[.ref b] c cL_law RL 4 wsL_law A) (hX : va_X b L xs s s.heap) (hbl : b < s.heap.size) (hbA : ¬ A b) (hi : i + 3 ≤ L) (hL : L ≤ 1536) {x : Xst} {μ : Mst} (hr : REL x μ) {H : Heap} {locs : List Loc} {ls : Array Slot} (hP : va_P (gD Γ) vwCl (xW Γ a x ++ modW Γ a2 0 μ) H) (hD : va_D A (xW Γ a x ++ modW Γ a2 0 μ)) (hS : va_S A s.heap H locs) (hl : lv_has ls 4 [(0, .ref b), (1, .ref (a 0)), (2, .ref (a2 0)), (3, .int (nI i))])
    (kk : ∀ (x1 : Xst) (μ1 : Mst) (H1 : Heap) (locs1 : List Loc) (ls1 : Array Slot), REL x1 μ1 → va_P (gD Γ) vwCl (xW Γ a x1 ++ modW Γ a2 0 μ1) H1 → va_D A (xW Γ a x1 ++ modW Γ a2 0 μ1) → va_S A s.heap H1 locs1 → lv_has ls1 4 [(0, .ref b), (1, .ref (a 0)), (2, .ref (a2 0)), (3, .int (nI i))] → W p l e room_1 s m #[.ref b] below meth c H1 locs1 600000 7302249 Q (F0 m 854 ls1 [])) : W p l e room_1 s m #[.ref b] below meth c H locs 600000 7302249 Q (F0 m 445 ls []) := by
  obtain ⟨hx, hb, hml, hown, hts⟩ := id hh.1
  obtain ⟨f_c, f_u, f_l0, ⟨L0, f_L, f_L2⟩, f_len, f_nm, ⟨N0, f_N, f_N7, f_N2⟩, f_ok, f_w, f_s, f_k, f_B, f_B1, f_B2, J0, f_J, f_J6, f_J7⟩ := REL_facts hr
  have h_1 : vp_in (nI i + 1) L := by rw [nI_1]; exact vp_in_nI (by omega) (by omega)
  have h_2 : vp_in (nI i + 2) L := by rw [show nI i + 2 = nI (i + 2) from nI_add i 2]; exact vp_in_nI (by omega) (by omega)
  refine lv_aload_n hx hb dL_law_445 rfl (lv_at hl 1 rfl) ?_
  refine lv_aload_n hx hb dL_law_446 rfl (lv_at hl 0 rfl) ?_
  refine lv_iload_n hx hb dL_law_447 rfl (lv_at hl 3 rfl) ?_
  refine lv_iconst (v := 1) hx hb dL_law_448 (by decide) ?_
  refine lv_iadd hx hb dL_law_449 ?_
  refine va_sld hx hb hX hbl hbA hS h_1 dL_law_450 ?_
  refine la_i (pre := []) (w := xW Γ a x) (w1 := xW Γ a (gRun x (xs (nI i + 1).toNatClampNeg))) (post := modW Γ a2 0 μ) hh hl.1 (c_X6_run Γ l a x (xs (nI i + 1).toNatClampNeg) N0 f_N (by omega)) (cwV 1 hts gL_law_X6_run rfl rfl rfl (by decide +kernel) ⟨(Nat.le_of_ble_eq_true rfl), (Nat.le_of_ble_eq_true rfl)⟩) (As := [.int (xs (nI i + 1).toNatClampNeg)]) (rest := []) rfl dL_law_451 rfl (Nat.le_of_ble_eq_true rfl) hP hD hS (q0 := 0) (ci := 6) (x_at Γ a x _) rfl rfl (xW_len2 Γ a _ _) (xW_addr _ _ _ _) ⟨(Nat.le_of_ble_eq_true rfl), (Nat.le_of_ble_eq_true rfl)⟩ (fun H locs hP hD hS => ?_)
  refine lv_aload_n hx hb dL_law_454 rfl (lv_at hl 2 rfl) ?_
  refine lv_aload_n hx hb dL_law_455 rfl (lv_at hl 0 rfl) ?_
  refine lv_iload_n hx hb dL_law_456 rfl (lv_at hl 3 rfl) ?_
  refine lv_iconst (v := 1) hx hb dL_law_457 (by decide) ?_
  refine lv_iadd hx hb dL_law_458 ?_
  refine va_sld hx hb hX hbl hbA hS h_1 dL_law_459 ?_
  refine la_im (pre := xW Γ a (gRun x (xs (nI i + 1).toNatClampNeg))) (w := modW Γ a2 0 μ) (w1 := modW Γ a2 0 (hRun μ (xs (nI i + 1).toNatClampNeg))) hh hl.1 (c_X7_run Γ l a2 0 μ (xs (nI i + 1).toNatClampNeg) N0 f_ok f_N7 (by omega)) (cwV 1 hts gL_law_X7_run rfl rfl rfl (by decide +kernel) ⟨(Nat.le_of_ble_eq_true rfl), (Nat.le_of_ble_eq_true rfl)⟩) (As := [.int (xs (nI i + 1).toNatClampNeg)]) (rest := [.int (rRun x (xs (nI i + 1).toNatClampNeg))]) rfl dL_law_460 rfl (Nat.le_of_ble_eq_true rfl) hP hD hS (q0 := 64) (ci := 7) (m_at Γ a a2 _ μ) rfl rfl (modW_len2 Γ a2 _ _) (modW_addr2 Γ a2 _ _) ⟨(Nat.le_of_ble_eq_true rfl), (Nat.le_of_ble_eq_true rfl)⟩ (fun H locs hP hD hS => ?_)
  refine lv_icmp_eq (tgt := 854) hx hb dL_law_463 (by decide) (fun c_ => ?_) (fun c_ => ?_)
  · exact kk _ _ _ _ _ ((s_run hr (xs (nI i + 1).toNatClampNeg)).2) hP hD hS hl
  · exact absurd ((s_run hr (xs (nI i + 1).toNatClampNeg)).1) c_
set_option maxHeartbeats 2000000 in
set_option maxRecDepth 100000 in
theorem L_14 {Γ : gT} {p : Program} {l : Launch} {e : Env} {s : State} {m : MethodId} {below : List Frame} {meth : Method} {c : Code} {A : Nat → Prop} {a a2 : Nat → Nat} {b L i : Nat} {xs : Nat → Int32} {Q : State → Prop} (hh : Hd Γ p s m #[.ref b] c cL_law RL 4 wsL_law A) (hX : va_X b L xs s s.heap) (hbl : b < s.heap.size) (hbA : ¬ A b) (hi : i + 3 ≤ L) (hL : L ≤ 1536) {x : Xst} {μ : Mst} (hr : REL x μ) {H : Heap} {locs : List Loc} {ls : Array Slot} (hP : va_P (gD Γ) vwCl (xW Γ a x ++ modW Γ a2 0 μ) H) (hD : va_D A (xW Γ a x ++ modW Γ a2 0 μ)) (hS : va_S A s.heap H locs) (hl : lv_has ls 4 [(0, .ref b), (1, .ref (a 0)), (2, .ref (a2 0)), (3, .int (nI i))])
    (kk : ∀ (x1 : Xst) (μ1 : Mst) (H1 : Heap) (locs1 : List Loc) (ls1 : Array Slot), REL x1 μ1 → va_P (gD Γ) vwCl (xW Γ a x1 ++ modW Γ a2 0 μ1) H1 → va_D A (xW Γ a x1 ++ modW Γ a2 0 μ1) → va_S A s.heap H1 locs1 → lv_has ls1 4 [(0, .ref b), (1, .ref (a 0)), (2, .ref (a2 0)), (3, .int (nI i))] → W p l e room_1 s m #[.ref b] below meth c H1 locs1 600000 7302249 Q (F0 m 854 ls1 [])) : W p l e room_1 s m #[.ref b] below meth c H locs 600000 7302249 Q (F0 m 468 ls []) := by
  obtain ⟨hx, hb, hml, hown, hts⟩ := id hh.1
  obtain ⟨f_c, f_u, f_l0, ⟨L0, f_L, f_L2⟩, f_len, f_nm, ⟨N0, f_N, f_N7, f_N2⟩, f_ok, f_w, f_s, f_k, f_B, f_B1, f_B2, J0, f_J, f_J6, f_J7⟩ := REL_facts hr
  have h_1 : vp_in (nI i + 1) L := by rw [nI_1]; exact vp_in_nI (by omega) (by omega)
  have h_2 : vp_in (nI i + 2) L := by rw [show nI i + 2 = nI (i + 2) from nI_add i 2]; exact vp_in_nI (by omega) (by omega)
  refine lv_aload_n hx hb dL_law_468 rfl (lv_at hl 1 rfl) ?_
  refine la_i (pre := []) (w := xW Γ a x) (w1 := xW Γ a (x)) (post := modW Γ a2 0 μ) hh hl.1 (c_X6_time Γ l a x   ) (cwV 0 hts gL_law_X6_time rfl rfl rfl (by decide +kernel) ⟨(Nat.le_of_ble_eq_true rfl), (Nat.le_of_ble_eq_true rfl)⟩) (As := []) (rest := []) rfl dL_law_469 rfl (Nat.le_of_ble_eq_true rfl) hP hD hS (q0 := 0) (ci := 6) (x_at Γ a x _) rfl rfl (xW_len2 Γ a _ _) (xW_addr _ _ _ _) ⟨(Nat.le_of_ble_eq_true rfl), (Nat.le_of_ble_eq_true rfl)⟩ (fun H locs hP hD hS => ?_)
  refine lv_aload_n hx hb dL_law_472 rfl (lv_at hl 2 rfl) ?_
  refine la_im (pre := xW Γ a (x)) (w := modW Γ a2 0 μ) (w1 := modW Γ a2 0 (μ)) hh hl.1 (c_X7_time Γ l a2 0 μ   ) (cwV 0 hts gL_law_X7_time rfl rfl rfl (by decide +kernel) ⟨(Nat.le_of_ble_eq_true rfl), (Nat.le_of_ble_eq_true rfl)⟩) (As := []) (rest := [.int (lNow (xLoop x))]) rfl dL_law_473 rfl (Nat.le_of_ble_eq_true rfl) hP hD hS (q0 := 64) (ci := 7) (m_at Γ a a2 _ μ) rfl rfl (modW_len2 Γ a2 _ _) (modW_addr2 Γ a2 _ _) ⟨(Nat.le_of_ble_eq_true rfl), (Nat.le_of_ble_eq_true rfl)⟩ (fun H locs hP hD hS => ?_)
  refine lv_icmp_eq (tgt := 854) hx hb dL_law_476 (by decide) (fun c_ => ?_) (fun c_ => ?_)
  · exact kk _ _ _ _ _ (hr) hP hD hS hl
  · exact absurd (s_time hr ) c_
set_option maxHeartbeats 2000000 in
set_option maxRecDepth 100000 in
theorem L_15 {Γ : gT} {p : Program} {l : Launch} {e : Env} {s : State} {m : MethodId} {below : List Frame} {meth : Method} {c : Code} {A : Nat → Prop} {a a2 : Nat → Nat} {b L i : Nat} {xs : Nat → Int32} {Q : State → Prop} (hh : Hd Γ p s m #[.ref b] c cL_law RL 4 wsL_law A) (hX : va_X b L xs s s.heap) (hbl : b < s.heap.size) (hbA : ¬ A b) (hi : i + 3 ≤ L) (hL : L ≤ 1536) {x : Xst} {μ : Mst} (hr : REL x μ) {H : Heap} {locs : List Loc} {ls : Array Slot} (hP : va_P (gD Γ) vwCl (xW Γ a x ++ modW Γ a2 0 μ) H) (hD : va_D A (xW Γ a x ++ modW Γ a2 0 μ)) (hS : va_S A s.heap H locs) (hl : lv_has ls 4 [(0, .ref b), (1, .ref (a 0)), (2, .ref (a2 0)), (3, .int (nI i))])
    (kk : ∀ (x1 : Xst) (μ1 : Mst) (H1 : Heap) (locs1 : List Loc) (ls1 : Array Slot), REL x1 μ1 → va_P (gD Γ) vwCl (xW Γ a x1 ++ modW Γ a2 0 μ1) H1 → va_D A (xW Γ a x1 ++ modW Γ a2 0 μ1) → va_S A s.heap H1 locs1 → lv_has ls1 4 [(0, .ref b), (1, .ref (a 0)), (2, .ref (a2 0)), (3, .int (nI i))] → W p l e room_1 s m #[.ref b] below meth c H1 locs1 600000 7302249 Q (F0 m 854 ls1 [])) : W p l e room_1 s m #[.ref b] below meth c H locs 600000 7302249 Q (F0 m 481 ls []) := by
  obtain ⟨hx, hb, hml, hown, hts⟩ := id hh.1
  obtain ⟨f_c, f_u, f_l0, ⟨L0, f_L, f_L2⟩, f_len, f_nm, ⟨N0, f_N, f_N7, f_N2⟩, f_ok, f_w, f_s, f_k, f_B, f_B1, f_B2, J0, f_J, f_J6, f_J7⟩ := REL_facts hr
  have h_1 : vp_in (nI i + 1) L := by rw [nI_1]; exact vp_in_nI (by omega) (by omega)
  have h_2 : vp_in (nI i + 2) L := by rw [show nI i + 2 = nI (i + 2) from nI_add i 2]; exact vp_in_nI (by omega) (by omega)
  refine lv_aload_n hx hb dL_law_481 rfl (lv_at hl 1 rfl) ?_
  refine lv_aload_n hx hb dL_law_482 rfl (lv_at hl 0 rfl) ?_
  refine lv_iload_n hx hb dL_law_483 rfl (lv_at hl 3 rfl) ?_
  refine lv_iconst (v := 1) hx hb dL_law_484 (by decide) ?_
  refine lv_iadd hx hb dL_law_485 ?_
  refine va_sld hx hb hX hbl hbA hS h_1 dL_law_486 ?_
  refine la_i (pre := []) (w := xW Γ a x) (w1 := xW Γ a (x)) (post := modW Γ a2 0 μ) hh hl.1 (c_X6_value Γ l a x (xs (nI i + 1).toNatClampNeg)  ) (cwV 1 hts gL_law_X6_value rfl rfl rfl (by decide +kernel) ⟨(Nat.le_of_ble_eq_true rfl), (Nat.le_of_ble_eq_true rfl)⟩) (As := [.int (xs (nI i + 1).toNatClampNeg)]) (rest := []) rfl dL_law_487 rfl (Nat.le_of_ble_eq_true rfl) hP hD hS (q0 := 0) (ci := 6) (x_at Γ a x _) rfl rfl (xW_len2 Γ a _ _) (xW_addr _ _ _ _) ⟨(Nat.le_of_ble_eq_true rfl), (Nat.le_of_ble_eq_true rfl)⟩ (fun H locs hP hD hS => ?_)
  refine lv_aload_n hx hb dL_law_490 rfl (lv_at hl 2 rfl) ?_
  refine lv_aload_n hx hb dL_law_491 rfl (lv_at hl 0 rfl) ?_
  refine lv_iload_n hx hb dL_law_492 rfl (lv_at hl 3 rfl) ?_
  refine lv_iconst (v := 1) hx hb dL_law_493 (by decide) ?_
  refine lv_iadd hx hb dL_law_494 ?_
  refine va_sld hx hb hX hbl hbA hS h_1 dL_law_495 ?_
  refine la_im (pre := xW Γ a (x)) (w := modW Γ a2 0 μ) (w1 := modW Γ a2 0 (μ)) hh hl.1 (c_X7_value Γ l a2 0 μ (xs (nI i + 1).toNatClampNeg)  ) (cwV 1 hts gL_law_X7_value rfl rfl rfl (by decide +kernel) ⟨(Nat.le_of_ble_eq_true rfl), (Nat.le_of_ble_eq_true rfl)⟩) (As := [.int (xs (nI i + 1).toNatClampNeg)]) (rest := [.int (rValue x (xs (nI i + 1).toNatClampNeg))]) rfl dL_law_496 rfl (Nat.le_of_ble_eq_true rfl) hP hD hS (q0 := 64) (ci := 7) (m_at Γ a a2 _ μ) rfl rfl (modW_len2 Γ a2 _ _) (modW_addr2 Γ a2 _ _) ⟨(Nat.le_of_ble_eq_true rfl), (Nat.le_of_ble_eq_true rfl)⟩ (fun H locs hP hD hS => ?_)
  refine lv_icmp_eq (tgt := 854) hx hb dL_law_499 (by decide) (fun c_ => ?_) (fun c_ => ?_)
  · exact kk _ _ _ _ _ (hr) hP hD hS hl
  · exact absurd (s_value hr (xs (nI i + 1).toNatClampNeg)) c_
set_option maxHeartbeats 2000000 in
set_option maxRecDepth 100000 in
theorem L_16 {Γ : gT} {p : Program} {l : Launch} {e : Env} {s : State} {m : MethodId} {below : List Frame} {meth : Method} {c : Code} {A : Nat → Prop} {a a2 : Nat → Nat} {b L i : Nat} {xs : Nat → Int32} {Q : State → Prop} (hh : Hd Γ p s m #[.ref b] c cL_law RL 4 wsL_law A) (hX : va_X b L xs s s.heap) (hbl : b < s.heap.size) (hbA : ¬ A b) (hi : i + 3 ≤ L) (hL : L ≤ 1536) {x : Xst} {μ : Mst} (hr : REL x μ) {H : Heap} {locs : List Loc} {ls : Array Slot} (hP : va_P (gD Γ) vwCl (xW Γ a x ++ modW Γ a2 0 μ) H) (hD : va_D A (xW Γ a x ++ modW Γ a2 0 μ)) (hS : va_S A s.heap H locs) (hl : lv_has ls 4 [(0, .ref b), (1, .ref (a 0)), (2, .ref (a2 0)), (3, .int (nI i))])
    (kk : ∀ (x1 : Xst) (μ1 : Mst) (H1 : Heap) (locs1 : List Loc) (ls1 : Array Slot), REL x1 μ1 → va_P (gD Γ) vwCl (xW Γ a x1 ++ modW Γ a2 0 μ1) H1 → va_D A (xW Γ a x1 ++ modW Γ a2 0 μ1) → va_S A s.heap H1 locs1 → lv_has ls1 4 [(0, .ref b), (1, .ref (a 0)), (2, .ref (a2 0)), (3, .int (nI i))] → W p l e room_1 s m #[.ref b] below meth c H1 locs1 600000 7302249 Q (F0 m 854 ls1 [])) : W p l e room_1 s m #[.ref b] below meth c H locs 600000 7302249 Q (F0 m 504 ls []) := by
  obtain ⟨hx, hb, hml, hown, hts⟩ := id hh.1
  obtain ⟨f_c, f_u, f_l0, ⟨L0, f_L, f_L2⟩, f_len, f_nm, ⟨N0, f_N, f_N7, f_N2⟩, f_ok, f_w, f_s, f_k, f_B, f_B1, f_B2, J0, f_J, f_J6, f_J7⟩ := REL_facts hr
  have h_1 : vp_in (nI i + 1) L := by rw [nI_1]; exact vp_in_nI (by omega) (by omega)
  have h_2 : vp_in (nI i + 2) L := by rw [show nI i + 2 = nI (i + 2) from nI_add i 2]; exact vp_in_nI (by omega) (by omega)
  refine lv_aload_n hx hb dL_law_504 rfl (lv_at hl 1 rfl) ?_
  refine lv_aload_n hx hb dL_law_505 rfl (lv_at hl 0 rfl) ?_
  refine lv_iload_n hx hb dL_law_506 rfl (lv_at hl 3 rfl) ?_
  refine lv_iconst (v := 1) hx hb dL_law_507 (by decide) ?_
  refine lv_iadd hx hb dL_law_508 ?_
  refine va_sld hx hb hX hbl hbA hS h_1 dL_law_509 ?_
  refine lv_aload_n hx hb dL_law_510 rfl (lv_at hl 0 rfl) ?_
  refine lv_iload_n hx hb dL_law_511 rfl (lv_at hl 3 rfl) ?_
  refine lv_iconst (v := 2) hx hb dL_law_512 (by decide) ?_
  refine lv_iadd hx hb dL_law_513 ?_
  refine va_sld hx hb hX hbl hbA hS h_2 dL_law_514 ?_
  refine la_i (pre := []) (w := xW Γ a x) (w1 := xW Γ a (x)) (post := modW Γ a2 0 μ) hh hl.1 (c_X6_recorded Γ l a x (xs (nI i + 1).toNatClampNeg) (xs (nI i + 2).toNatClampNeg)  ) (cwV 2 hts gL_law_X6_recorded rfl rfl rfl (by decide +kernel) ⟨(Nat.le_of_ble_eq_true rfl), (Nat.le_of_ble_eq_true rfl)⟩) (As := [.int (xs (nI i + 1).toNatClampNeg), .int (xs (nI i + 2).toNatClampNeg)]) (rest := []) rfl dL_law_515 rfl (Nat.le_of_ble_eq_true rfl) hP hD hS (q0 := 0) (ci := 6) (x_at Γ a x _) rfl rfl (xW_len2 Γ a _ _) (xW_addr _ _ _ _) ⟨(Nat.le_of_ble_eq_true rfl), (Nat.le_of_ble_eq_true rfl)⟩ (fun H locs hP hD hS => ?_)
  refine lv_aload_n hx hb dL_law_518 rfl (lv_at hl 2 rfl) ?_
  refine lv_aload_n hx hb dL_law_519 rfl (lv_at hl 0 rfl) ?_
  refine lv_iload_n hx hb dL_law_520 rfl (lv_at hl 3 rfl) ?_
  refine lv_iconst (v := 1) hx hb dL_law_521 (by decide) ?_
  refine lv_iadd hx hb dL_law_522 ?_
  refine va_sld hx hb hX hbl hbA hS h_1 dL_law_523 ?_
  refine lv_aload_n hx hb dL_law_524 rfl (lv_at hl 0 rfl) ?_
  refine lv_iload_n hx hb dL_law_525 rfl (lv_at hl 3 rfl) ?_
  refine lv_iconst (v := 2) hx hb dL_law_526 (by decide) ?_
  refine lv_iadd hx hb dL_law_527 ?_
  refine va_sld hx hb hX hbl hbA hS h_2 dL_law_528 ?_
  refine la_im (pre := xW Γ a (x)) (w := modW Γ a2 0 μ) (w1 := modW Γ a2 0 (μ)) hh hl.1 (c_X7_recorded Γ l a2 0 μ (xs (nI i + 1).toNatClampNeg) (xs (nI i + 2).toNatClampNeg)  ) (cwV 2 hts gL_law_X7_recorded rfl rfl rfl (by decide +kernel) ⟨(Nat.le_of_ble_eq_true rfl), (Nat.le_of_ble_eq_true rfl)⟩) (As := [.int (xs (nI i + 1).toNatClampNeg), .int (xs (nI i + 2).toNatClampNeg)]) (rest := [.int (rRecorded x (xs (nI i + 1).toNatClampNeg) (xs (nI i + 2).toNatClampNeg))]) rfl dL_law_529 rfl (Nat.le_of_ble_eq_true rfl) hP hD hS (q0 := 64) (ci := 7) (m_at Γ a a2 _ μ) rfl rfl (modW_len2 Γ a2 _ _) (modW_addr2 Γ a2 _ _) ⟨(Nat.le_of_ble_eq_true rfl), (Nat.le_of_ble_eq_true rfl)⟩ (fun H locs hP hD hS => ?_)
  refine lv_icmp_eq (tgt := 854) hx hb dL_law_532 (by decide) (fun c_ => ?_) (fun c_ => ?_)
  · exact kk _ _ _ _ _ (hr) hP hD hS hl
  · exact absurd (s_recorded hr (xs (nI i + 1).toNatClampNeg) (xs (nI i + 2).toNatClampNeg)) c_
set_option maxHeartbeats 2000000 in
set_option maxRecDepth 100000 in
theorem L_17 {Γ : gT} {p : Program} {l : Launch} {e : Env} {s : State} {m : MethodId} {below : List Frame} {meth : Method} {c : Code} {A : Nat → Prop} {a a2 : Nat → Nat} {b L i : Nat} {xs : Nat → Int32} {Q : State → Prop} (hh : Hd Γ p s m #[.ref b] c cL_law RL 4 wsL_law A) (hX : va_X b L xs s s.heap) (hbl : b < s.heap.size) (hbA : ¬ A b) (hi : i + 3 ≤ L) (hL : L ≤ 1536) {x : Xst} {μ : Mst} (hr : REL x μ) {H : Heap} {locs : List Loc} {ls : Array Slot} (hP : va_P (gD Γ) vwCl (xW Γ a x ++ modW Γ a2 0 μ) H) (hD : va_D A (xW Γ a x ++ modW Γ a2 0 μ)) (hS : va_S A s.heap H locs) (hl : lv_has ls 4 [(0, .ref b), (1, .ref (a 0)), (2, .ref (a2 0)), (3, .int (nI i))])
    (kk : ∀ (x1 : Xst) (μ1 : Mst) (H1 : Heap) (locs1 : List Loc) (ls1 : Array Slot), REL x1 μ1 → va_P (gD Γ) vwCl (xW Γ a x1 ++ modW Γ a2 0 μ1) H1 → va_D A (xW Γ a x1 ++ modW Γ a2 0 μ1) → va_S A s.heap H1 locs1 → lv_has ls1 4 [(0, .ref b), (1, .ref (a 0)), (2, .ref (a2 0)), (3, .int (nI i))] → W p l e room_1 s m #[.ref b] below meth c H1 locs1 600000 7302249 Q (F0 m 854 ls1 [])) : W p l e room_1 s m #[.ref b] below meth c H locs 600000 7302249 Q (F0 m 537 ls []) := by
  obtain ⟨hx, hb, hml, hown, hts⟩ := id hh.1
  obtain ⟨f_c, f_u, f_l0, ⟨L0, f_L, f_L2⟩, f_len, f_nm, ⟨N0, f_N, f_N7, f_N2⟩, f_ok, f_w, f_s, f_k, f_B, f_B1, f_B2, J0, f_J, f_J6, f_J7⟩ := REL_facts hr
  have h_1 : vp_in (nI i + 1) L := by rw [nI_1]; exact vp_in_nI (by omega) (by omega)
  have h_2 : vp_in (nI i + 2) L := by rw [show nI i + 2 = nI (i + 2) from nI_add i 2]; exact vp_in_nI (by omega) (by omega)
  refine lv_aload_n hx hb dL_law_537 rfl (lv_at hl 1 rfl) ?_
  refine la_i (pre := []) (w := xW Γ a x) (w1 := xW Γ a (gRestart x)) (post := modW Γ a2 0 μ) hh hl.1 (c_X6_restart Γ l a x   ) (cwV 0 hts gL_law_X6_restart rfl rfl rfl (by decide +kernel) ⟨(Nat.le_of_ble_eq_true rfl), (Nat.le_of_ble_eq_true rfl)⟩) (As := []) (rest := []) rfl dL_law_538 rfl (Nat.le_of_ble_eq_true rfl) hP hD hS (q0 := 0) (ci := 6) (x_at Γ a x _) rfl rfl (xW_len2 Γ a _ _) (xW_addr _ _ _ _) ⟨(Nat.le_of_ble_eq_true rfl), (Nat.le_of_ble_eq_true rfl)⟩ (fun H locs hP hD hS => ?_)
  refine lv_aload_n hx hb dL_law_541 rfl (lv_at hl 2 rfl) ?_
  refine la_im (pre := xW Γ a (gRestart x)) (w := modW Γ a2 0 μ) (w1 := modW Γ a2 0 (hRestart μ)) hh hl.1 (c_X7_restart Γ l a2 0 μ   ) (cwV 0 hts gL_law_X7_restart rfl rfl rfl (by decide +kernel) ⟨(Nat.le_of_ble_eq_true rfl), (Nat.le_of_ble_eq_true rfl)⟩) (As := []) (rest := [.int (lNow (xLoop x))]) rfl dL_law_542 rfl (Nat.le_of_ble_eq_true rfl) hP hD hS (q0 := 64) (ci := 7) (m_at Γ a a2 _ μ) rfl rfl (modW_len2 Γ a2 _ _) (modW_addr2 Γ a2 _ _) ⟨(Nat.le_of_ble_eq_true rfl), (Nat.le_of_ble_eq_true rfl)⟩ (fun H locs hP hD hS => ?_)
  refine lv_icmp_eq (tgt := 854) hx hb dL_law_545 (by decide) (fun c_ => ?_) (fun c_ => ?_)
  · exact kk _ _ _ _ _ ((s_restart hr ).2) hP hD hS hl
  · exact absurd ((s_restart hr ).1) c_
set_option maxHeartbeats 2000000 in
set_option maxRecDepth 100000 in
theorem L_18 {Γ : gT} {p : Program} {l : Launch} {e : Env} {s : State} {m : MethodId} {below : List Frame} {meth : Method} {c : Code} {A : Nat → Prop} {a a2 : Nat → Nat} {b L i : Nat} {xs : Nat → Int32} {Q : State → Prop} (hh : Hd Γ p s m #[.ref b] c cL_law RL 4 wsL_law A) (hX : va_X b L xs s s.heap) (hbl : b < s.heap.size) (hbA : ¬ A b) (hi : i + 3 ≤ L) (hL : L ≤ 1536) {x : Xst} {μ : Mst} (hr : REL x μ) {H : Heap} {locs : List Loc} {ls : Array Slot} (hP : va_P (gD Γ) vwCl (xW Γ a x ++ modW Γ a2 0 μ) H) (hD : va_D A (xW Γ a x ++ modW Γ a2 0 μ)) (hS : va_S A s.heap H locs) (hl : lv_has ls 4 [(0, .ref b), (1, .ref (a 0)), (2, .ref (a2 0)), (3, .int (nI i))])
    (kk : ∀ (x1 : Xst) (μ1 : Mst) (H1 : Heap) (locs1 : List Loc) (ls1 : Array Slot), REL x1 μ1 → va_P (gD Γ) vwCl (xW Γ a x1 ++ modW Γ a2 0 μ1) H1 → va_D A (xW Γ a x1 ++ modW Γ a2 0 μ1) → va_S A s.heap H1 locs1 → lv_has ls1 4 [(0, .ref b), (1, .ref (a 0)), (2, .ref (a2 0)), (3, .int (nI i))] → W p l e room_1 s m #[.ref b] below meth c H1 locs1 600000 7302249 Q (F0 m 854 ls1 [])) : W p l e room_1 s m #[.ref b] below meth c H locs 600000 7302249 Q (F0 m 550 ls []) := by
  obtain ⟨hx, hb, hml, hown, hts⟩ := id hh.1
  obtain ⟨f_c, f_u, f_l0, ⟨L0, f_L, f_L2⟩, f_len, f_nm, ⟨N0, f_N, f_N7, f_N2⟩, f_ok, f_w, f_s, f_k, f_B, f_B1, f_B2, J0, f_J, f_J6, f_J7⟩ := REL_facts hr
  have h_1 : vp_in (nI i + 1) L := by rw [nI_1]; exact vp_in_nI (by omega) (by omega)
  have h_2 : vp_in (nI i + 2) L := by rw [show nI i + 2 = nI (i + 2) from nI_add i 2]; exact vp_in_nI (by omega) (by omega)
  refine lv_aload_n hx hb dL_law_550 rfl (lv_at hl 1 rfl) ?_
  refine lv_aload_n hx hb dL_law_551 rfl (lv_at hl 0 rfl) ?_
  refine lv_iload_n hx hb dL_law_552 rfl (lv_at hl 3 rfl) ?_
  refine lv_iconst (v := 1) hx hb dL_law_553 (by decide) ?_
  refine lv_iadd hx hb dL_law_554 ?_
  refine va_sld hx hb hX hbl hbA hS h_1 dL_law_555 ?_
  refine la_i (pre := []) (w := xW Γ a x) (w1 := xW Γ a (gWatch x (xs (nI i + 1).toNatClampNeg))) (post := modW Γ a2 0 μ) hh hl.1 (c_X6_watch Γ l a x (xs (nI i + 1).toNatClampNeg)  f_w) (cwV 1 hts gL_law_X6_watch rfl rfl rfl (by decide +kernel) ⟨(Nat.le_of_ble_eq_true rfl), (Nat.le_of_ble_eq_true rfl)⟩) (As := [.int (xs (nI i + 1).toNatClampNeg)]) (rest := []) rfl dL_law_556 rfl (Nat.le_of_ble_eq_true rfl) hP hD hS (q0 := 0) (ci := 6) (x_at Γ a x _) rfl rfl (xW_len2 Γ a _ _) (xW_addr _ _ _ _) ⟨(Nat.le_of_ble_eq_true rfl), (Nat.le_of_ble_eq_true rfl)⟩ (fun H locs hP hD hS => ?_)
  refine lv_aload_n hx hb dL_law_559 rfl (lv_at hl 2 rfl) ?_
  refine lv_aload_n hx hb dL_law_560 rfl (lv_at hl 0 rfl) ?_
  refine lv_iload_n hx hb dL_law_561 rfl (lv_at hl 3 rfl) ?_
  refine lv_iconst (v := 1) hx hb dL_law_562 (by decide) ?_
  refine lv_iadd hx hb dL_law_563 ?_
  refine va_sld hx hb hX hbl hbA hS h_1 dL_law_564 ?_
  refine la_im (pre := xW Γ a (gWatch x (xs (nI i + 1).toNatClampNeg))) (w := modW Γ a2 0 μ) (w1 := modW Γ a2 0 (hWatch μ (xs (nI i + 1).toNatClampNeg))) hh hl.1 (c_X7_watch Γ l a2 0 μ (xs (nI i + 1).toNatClampNeg)  f_ok) (cwV 1 hts gL_law_X7_watch rfl rfl rfl (by decide +kernel) ⟨(Nat.le_of_ble_eq_true rfl), (Nat.le_of_ble_eq_true rfl)⟩) (As := [.int (xs (nI i + 1).toNatClampNeg)]) (rest := [.int (rWatch x (xs (nI i + 1).toNatClampNeg))]) rfl dL_law_565 rfl (Nat.le_of_ble_eq_true rfl) hP hD hS (q0 := 64) (ci := 7) (m_at Γ a a2 _ μ) rfl rfl (modW_len2 Γ a2 _ _) (modW_addr2 Γ a2 _ _) ⟨(Nat.le_of_ble_eq_true rfl), (Nat.le_of_ble_eq_true rfl)⟩ (fun H locs hP hD hS => ?_)
  refine lv_icmp_eq (tgt := 854) hx hb dL_law_568 (by decide) (fun c_ => ?_) (fun c_ => ?_)
  · exact kk _ _ _ _ _ ((s_watch hr (xs (nI i + 1).toNatClampNeg)).2) hP hD hS hl
  · exact absurd ((s_watch hr (xs (nI i + 1).toNatClampNeg)).1) c_
set_option maxHeartbeats 2000000 in
set_option maxRecDepth 100000 in
theorem L_19 {Γ : gT} {p : Program} {l : Launch} {e : Env} {s : State} {m : MethodId} {below : List Frame} {meth : Method} {c : Code} {A : Nat → Prop} {a a2 : Nat → Nat} {b L i : Nat} {xs : Nat → Int32} {Q : State → Prop} (hh : Hd Γ p s m #[.ref b] c cL_law RL 4 wsL_law A) (hX : va_X b L xs s s.heap) (hbl : b < s.heap.size) (hbA : ¬ A b) (hi : i + 3 ≤ L) (hL : L ≤ 1536) {x : Xst} {μ : Mst} (hr : REL x μ) {H : Heap} {locs : List Loc} {ls : Array Slot} (hP : va_P (gD Γ) vwCl (xW Γ a x ++ modW Γ a2 0 μ) H) (hD : va_D A (xW Γ a x ++ modW Γ a2 0 μ)) (hS : va_S A s.heap H locs) (hl : lv_has ls 4 [(0, .ref b), (1, .ref (a 0)), (2, .ref (a2 0)), (3, .int (nI i))])
    (kk : ∀ (x1 : Xst) (μ1 : Mst) (H1 : Heap) (locs1 : List Loc) (ls1 : Array Slot), REL x1 μ1 → va_P (gD Γ) vwCl (xW Γ a x1 ++ modW Γ a2 0 μ1) H1 → va_D A (xW Γ a x1 ++ modW Γ a2 0 μ1) → va_S A s.heap H1 locs1 → lv_has ls1 4 [(0, .ref b), (1, .ref (a 0)), (2, .ref (a2 0)), (3, .int (nI i))] → W p l e room_1 s m #[.ref b] below meth c H1 locs1 600000 7302249 Q (F0 m 854 ls1 [])) : W p l e room_1 s m #[.ref b] below meth c H locs 600000 7302249 Q (F0 m 573 ls []) := by
  obtain ⟨hx, hb, hml, hown, hts⟩ := id hh.1
  obtain ⟨f_c, f_u, f_l0, ⟨L0, f_L, f_L2⟩, f_len, f_nm, ⟨N0, f_N, f_N7, f_N2⟩, f_ok, f_w, f_s, f_k, f_B, f_B1, f_B2, J0, f_J, f_J6, f_J7⟩ := REL_facts hr
  have h_1 : vp_in (nI i + 1) L := by rw [nI_1]; exact vp_in_nI (by omega) (by omega)
  have h_2 : vp_in (nI i + 2) L := by rw [show nI i + 2 = nI (i + 2) from nI_add i 2]; exact vp_in_nI (by omega) (by omega)
  refine lv_aload_n hx hb dL_law_573 rfl (lv_at hl 1 rfl) ?_
  refine lv_aload_n hx hb dL_law_574 rfl (lv_at hl 0 rfl) ?_
  refine lv_iload_n hx hb dL_law_575 rfl (lv_at hl 3 rfl) ?_
  refine lv_iconst (v := 1) hx hb dL_law_576 (by decide) ?_
  refine lv_iadd hx hb dL_law_577 ?_
  refine va_sld hx hb hX hbl hbA hS h_1 dL_law_578 ?_
  refine la_i (pre := []) (w := xW Γ a x) (w1 := xW Γ a (gUnwatch x (xs (nI i + 1).toNatClampNeg))) (post := modW Γ a2 0 μ) hh hl.1 (c_X6_unwatch Γ l a x (xs (nI i + 1).toNatClampNeg)  ) (cwV 1 hts gL_law_X6_unwatch rfl rfl rfl (by decide +kernel) ⟨(Nat.le_of_ble_eq_true rfl), (Nat.le_of_ble_eq_true rfl)⟩) (As := [.int (xs (nI i + 1).toNatClampNeg)]) (rest := []) rfl dL_law_579 rfl (Nat.le_of_ble_eq_true rfl) hP hD hS (q0 := 0) (ci := 6) (x_at Γ a x _) rfl rfl (xW_len2 Γ a _ _) (xW_addr _ _ _ _) ⟨(Nat.le_of_ble_eq_true rfl), (Nat.le_of_ble_eq_true rfl)⟩ (fun H locs hP hD hS => ?_)
  refine lv_aload_n hx hb dL_law_582 rfl (lv_at hl 2 rfl) ?_
  refine lv_aload_n hx hb dL_law_583 rfl (lv_at hl 0 rfl) ?_
  refine lv_iload_n hx hb dL_law_584 rfl (lv_at hl 3 rfl) ?_
  refine lv_iconst (v := 1) hx hb dL_law_585 (by decide) ?_
  refine lv_iadd hx hb dL_law_586 ?_
  refine va_sld hx hb hX hbl hbA hS h_1 dL_law_587 ?_
  refine la_im (pre := xW Γ a (gUnwatch x (xs (nI i + 1).toNatClampNeg))) (w := modW Γ a2 0 μ) (w1 := modW Γ a2 0 (hUnwatch μ (xs (nI i + 1).toNatClampNeg))) hh hl.1 (c_X7_unwatch Γ l a2 0 μ (xs (nI i + 1).toNatClampNeg)  f_ok) (cwV 1 hts gL_law_X7_unwatch rfl rfl rfl (by decide +kernel) ⟨(Nat.le_of_ble_eq_true rfl), (Nat.le_of_ble_eq_true rfl)⟩) (As := [.int (xs (nI i + 1).toNatClampNeg)]) (rest := [.int (rUnwatch x (xs (nI i + 1).toNatClampNeg))]) rfl dL_law_588 rfl (Nat.le_of_ble_eq_true rfl) hP hD hS (q0 := 64) (ci := 7) (m_at Γ a a2 _ μ) rfl rfl (modW_len2 Γ a2 _ _) (modW_addr2 Γ a2 _ _) ⟨(Nat.le_of_ble_eq_true rfl), (Nat.le_of_ble_eq_true rfl)⟩ (fun H locs hP hD hS => ?_)
  refine lv_icmp_eq (tgt := 854) hx hb dL_law_591 (by decide) (fun c_ => ?_) (fun c_ => ?_)
  · exact kk _ _ _ _ _ ((s_unwatch hr (xs (nI i + 1).toNatClampNeg)).2) hP hD hS hl
  · exact absurd ((s_unwatch hr (xs (nI i + 1).toNatClampNeg)).1) c_
set_option maxHeartbeats 2000000 in
set_option maxRecDepth 100000 in
theorem L_20 {Γ : gT} {p : Program} {l : Launch} {e : Env} {s : State} {m : MethodId} {below : List Frame} {meth : Method} {c : Code} {A : Nat → Prop} {a a2 : Nat → Nat} {b L i : Nat} {xs : Nat → Int32} {Q : State → Prop} (hh : Hd Γ p s m #[.ref b] c cL_law RL 4 wsL_law A) (hX : va_X b L xs s s.heap) (hbl : b < s.heap.size) (hbA : ¬ A b) (hi : i + 3 ≤ L) (hL : L ≤ 1536) {x : Xst} {μ : Mst} (hr : REL x μ) {H : Heap} {locs : List Loc} {ls : Array Slot} (hP : va_P (gD Γ) vwCl (xW Γ a x ++ modW Γ a2 0 μ) H) (hD : va_D A (xW Γ a x ++ modW Γ a2 0 μ)) (hS : va_S A s.heap H locs) (hl : lv_has ls 4 [(0, .ref b), (1, .ref (a 0)), (2, .ref (a2 0)), (3, .int (nI i))])
    (kk : ∀ (x1 : Xst) (μ1 : Mst) (H1 : Heap) (locs1 : List Loc) (ls1 : Array Slot), REL x1 μ1 → va_P (gD Γ) vwCl (xW Γ a x1 ++ modW Γ a2 0 μ1) H1 → va_D A (xW Γ a x1 ++ modW Γ a2 0 μ1) → va_S A s.heap H1 locs1 → lv_has ls1 4 [(0, .ref b), (1, .ref (a 0)), (2, .ref (a2 0)), (3, .int (nI i))] → W p l e room_1 s m #[.ref b] below meth c H1 locs1 600000 7302249 Q (F0 m 854 ls1 [])) : W p l e room_1 s m #[.ref b] below meth c H locs 600000 7302249 Q (F0 m 596 ls []) := by
  obtain ⟨hx, hb, hml, hown, hts⟩ := id hh.1
  obtain ⟨f_c, f_u, f_l0, ⟨L0, f_L, f_L2⟩, f_len, f_nm, ⟨N0, f_N, f_N7, f_N2⟩, f_ok, f_w, f_s, f_k, f_B, f_B1, f_B2, J0, f_J, f_J6, f_J7⟩ := REL_facts hr
  have h_1 : vp_in (nI i + 1) L := by rw [nI_1]; exact vp_in_nI (by omega) (by omega)
  have h_2 : vp_in (nI i + 2) L := by rw [show nI i + 2 = nI (i + 2) from nI_add i 2]; exact vp_in_nI (by omega) (by omega)
  refine lv_aload_n hx hb dL_law_596 rfl (lv_at hl 1 rfl) ?_
  refine lv_aload_n hx hb dL_law_597 rfl (lv_at hl 0 rfl) ?_
  refine lv_iload_n hx hb dL_law_598 rfl (lv_at hl 3 rfl) ?_
  refine lv_iconst (v := 1) hx hb dL_law_599 (by decide) ?_
  refine lv_iadd hx hb dL_law_600 ?_
  refine va_sld hx hb hX hbl hbA hS h_1 dL_law_601 ?_
  refine la_i (pre := []) (w := xW Γ a x) (w1 := xW Γ a (x)) (post := modW Γ a2 0 μ) hh hl.1 (c_X6_watchedAt Γ l a x (xs (nI i + 1).toNatClampNeg)  ) (cwV 1 hts gL_law_X6_watchedAt rfl rfl rfl (by decide +kernel) ⟨(Nat.le_of_ble_eq_true rfl), (Nat.le_of_ble_eq_true rfl)⟩) (As := [.int (xs (nI i + 1).toNatClampNeg)]) (rest := []) rfl dL_law_602 rfl (Nat.le_of_ble_eq_true rfl) hP hD hS (q0 := 0) (ci := 6) (x_at Γ a x _) rfl rfl (xW_len2 Γ a _ _) (xW_addr _ _ _ _) ⟨(Nat.le_of_ble_eq_true rfl), (Nat.le_of_ble_eq_true rfl)⟩ (fun H locs hP hD hS => ?_)
  refine lv_aload_n hx hb dL_law_605 rfl (lv_at hl 2 rfl) ?_
  refine lv_aload_n hx hb dL_law_606 rfl (lv_at hl 0 rfl) ?_
  refine lv_iload_n hx hb dL_law_607 rfl (lv_at hl 3 rfl) ?_
  refine lv_iconst (v := 1) hx hb dL_law_608 (by decide) ?_
  refine lv_iadd hx hb dL_law_609 ?_
  refine va_sld hx hb hX hbl hbA hS h_1 dL_law_610 ?_
  refine la_im (pre := xW Γ a (x)) (w := modW Γ a2 0 μ) (w1 := modW Γ a2 0 (μ)) hh hl.1 (c_X7_watchedAt Γ l a2 0 μ (xs (nI i + 1).toNatClampNeg)  f_ok) (cwV 1 hts gL_law_X7_watchedAt rfl rfl rfl (by decide +kernel) ⟨(Nat.le_of_ble_eq_true rfl), (Nat.le_of_ble_eq_true rfl)⟩) (As := [.int (xs (nI i + 1).toNatClampNeg)]) (rest := [.int (rWatchedAt x (xs (nI i + 1).toNatClampNeg))]) rfl dL_law_611 rfl (Nat.le_of_ble_eq_true rfl) hP hD hS (q0 := 64) (ci := 7) (m_at Γ a a2 _ μ) rfl rfl (modW_len2 Γ a2 _ _) (modW_addr2 Γ a2 _ _) ⟨(Nat.le_of_ble_eq_true rfl), (Nat.le_of_ble_eq_true rfl)⟩ (fun H locs hP hD hS => ?_)
  refine lv_icmp_eq (tgt := 854) hx hb dL_law_614 (by decide) (fun c_ => ?_) (fun c_ => ?_)
  · exact kk _ _ _ _ _ (hr) hP hD hS hl
  · exact absurd (s_watchedAt hr (xs (nI i + 1).toNatClampNeg)) c_
set_option maxHeartbeats 2000000 in
set_option maxRecDepth 100000 in
theorem L_21 {Γ : gT} {p : Program} {l : Launch} {e : Env} {s : State} {m : MethodId} {below : List Frame} {meth : Method} {c : Code} {A : Nat → Prop} {a a2 : Nat → Nat} {b L i : Nat} {xs : Nat → Int32} {Q : State → Prop} (hh : Hd Γ p s m #[.ref b] c cL_law RL 4 wsL_law A) (hX : va_X b L xs s s.heap) (hbl : b < s.heap.size) (hbA : ¬ A b) (hi : i + 3 ≤ L) (hL : L ≤ 1536) {x : Xst} {μ : Mst} (hr : REL x μ) {H : Heap} {locs : List Loc} {ls : Array Slot} (hP : va_P (gD Γ) vwCl (xW Γ a x ++ modW Γ a2 0 μ) H) (hD : va_D A (xW Γ a x ++ modW Γ a2 0 μ)) (hS : va_S A s.heap H locs) (hl : lv_has ls 4 [(0, .ref b), (1, .ref (a 0)), (2, .ref (a2 0)), (3, .int (nI i))])
    (kk : ∀ (x1 : Xst) (μ1 : Mst) (H1 : Heap) (locs1 : List Loc) (ls1 : Array Slot), REL x1 μ1 → va_P (gD Γ) vwCl (xW Γ a x1 ++ modW Γ a2 0 μ1) H1 → va_D A (xW Γ a x1 ++ modW Γ a2 0 μ1) → va_S A s.heap H1 locs1 → lv_has ls1 4 [(0, .ref b), (1, .ref (a 0)), (2, .ref (a2 0)), (3, .int (nI i))] → W p l e room_1 s m #[.ref b] below meth c H1 locs1 600000 7302249 Q (F0 m 854 ls1 [])) : W p l e room_1 s m #[.ref b] below meth c H locs 600000 7302249 Q (F0 m 619 ls []) := by
  obtain ⟨hx, hb, hml, hown, hts⟩ := id hh.1
  obtain ⟨f_c, f_u, f_l0, ⟨L0, f_L, f_L2⟩, f_len, f_nm, ⟨N0, f_N, f_N7, f_N2⟩, f_ok, f_w, f_s, f_k, f_B, f_B1, f_B2, J0, f_J, f_J6, f_J7⟩ := REL_facts hr
  have h_1 : vp_in (nI i + 1) L := by rw [nI_1]; exact vp_in_nI (by omega) (by omega)
  have h_2 : vp_in (nI i + 2) L := by rw [show nI i + 2 = nI (i + 2) from nI_add i 2]; exact vp_in_nI (by omega) (by omega)
  refine lv_aload_n hx hb dL_law_619 rfl (lv_at hl 1 rfl) ?_
  refine lv_aload_n hx hb dL_law_620 rfl (lv_at hl 0 rfl) ?_
  refine lv_iload_n hx hb dL_law_621 rfl (lv_at hl 3 rfl) ?_
  refine lv_iconst (v := 1) hx hb dL_law_622 (by decide) ?_
  refine lv_iadd hx hb dL_law_623 ?_
  refine va_sld hx hb hX hbl hbA hS h_1 dL_law_624 ?_
  refine lv_aload_n hx hb dL_law_625 rfl (lv_at hl 0 rfl) ?_
  refine lv_iload_n hx hb dL_law_626 rfl (lv_at hl 3 rfl) ?_
  refine lv_iconst (v := 2) hx hb dL_law_627 (by decide) ?_
  refine lv_iadd hx hb dL_law_628 ?_
  refine va_sld hx hb hX hbl hbA hS h_2 dL_law_629 ?_
  refine la_i (pre := []) (w := xW Γ a x) (w1 := xW Γ a (x)) (post := modW Γ a2 0 μ) hh hl.1 (c_X6_extreme Γ l a x (xs (nI i + 1).toNatClampNeg) (xs (nI i + 2).toNatClampNeg)  ) (cwV 2 hts gL_law_X6_extreme rfl rfl rfl (by decide +kernel) ⟨(Nat.le_of_ble_eq_true rfl), (Nat.le_of_ble_eq_true rfl)⟩) (As := [.int (xs (nI i + 1).toNatClampNeg), .int (xs (nI i + 2).toNatClampNeg)]) (rest := []) rfl dL_law_630 rfl (Nat.le_of_ble_eq_true rfl) hP hD hS (q0 := 0) (ci := 6) (x_at Γ a x _) rfl rfl (xW_len2 Γ a _ _) (xW_addr _ _ _ _) ⟨(Nat.le_of_ble_eq_true rfl), (Nat.le_of_ble_eq_true rfl)⟩ (fun H locs hP hD hS => ?_)
  refine lv_aload_n hx hb dL_law_633 rfl (lv_at hl 2 rfl) ?_
  refine lv_aload_n hx hb dL_law_634 rfl (lv_at hl 0 rfl) ?_
  refine lv_iload_n hx hb dL_law_635 rfl (lv_at hl 3 rfl) ?_
  refine lv_iconst (v := 1) hx hb dL_law_636 (by decide) ?_
  refine lv_iadd hx hb dL_law_637 ?_
  refine va_sld hx hb hX hbl hbA hS h_1 dL_law_638 ?_
  refine lv_aload_n hx hb dL_law_639 rfl (lv_at hl 0 rfl) ?_
  refine lv_iload_n hx hb dL_law_640 rfl (lv_at hl 3 rfl) ?_
  refine lv_iconst (v := 2) hx hb dL_law_641 (by decide) ?_
  refine lv_iadd hx hb dL_law_642 ?_
  refine va_sld hx hb hX hbl hbA hS h_2 dL_law_643 ?_
  refine la_im (pre := xW Γ a (x)) (w := modW Γ a2 0 μ) (w1 := modW Γ a2 0 (μ)) hh hl.1 (c_X7_extreme Γ l a2 0 μ (xs (nI i + 1).toNatClampNeg) (xs (nI i + 2).toNatClampNeg)  f_ok) (cwV 2 hts gL_law_X7_extreme rfl rfl rfl (by decide +kernel) ⟨(Nat.le_of_ble_eq_true rfl), (Nat.le_of_ble_eq_true rfl)⟩) (As := [.int (xs (nI i + 1).toNatClampNeg), .int (xs (nI i + 2).toNatClampNeg)]) (rest := [.int (rExtreme x (xs (nI i + 1).toNatClampNeg) (xs (nI i + 2).toNatClampNeg))]) rfl dL_law_644 rfl (Nat.le_of_ble_eq_true rfl) hP hD hS (q0 := 64) (ci := 7) (m_at Γ a a2 _ μ) rfl rfl (modW_len2 Γ a2 _ _) (modW_addr2 Γ a2 _ _) ⟨(Nat.le_of_ble_eq_true rfl), (Nat.le_of_ble_eq_true rfl)⟩ (fun H locs hP hD hS => ?_)
  refine lv_icmp_eq (tgt := 854) hx hb dL_law_647 (by decide) (fun c_ => ?_) (fun c_ => ?_)
  · exact kk _ _ _ _ _ (hr) hP hD hS hl
  · exact absurd (s_extreme hr (xs (nI i + 1).toNatClampNeg) (xs (nI i + 2).toNatClampNeg)) c_
