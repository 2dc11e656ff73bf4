set_option maxHeartbeats 2000000 in
set_option maxRecDepth 100000 in
theorem L_22 {Γ : gT} {p : Program} {l : Launch} {e : Env} {s : State} {m : MethodId} {below : List Frame} {meth : Method} {c : Code} {A : Nat → Prop} {a a2 : Nat → Nat} {b L i : Nat} {xs : Nat → Int32} {Q : State → Prop} (hh : Hd Γ p s m #[.ref b] c cL_law RL 4 wsL_law A) (hX : va_X b L xs s s.heap) (hbl : b < s.heap.size) (hbA : ¬ A b) (hi : i + 3 ≤ L) (hL : L ≤ 1536) {x : Xst} {μ : Mst} (hr : REL x μ) {H : Heap} {locs : List Loc} {ls : Array Slot} (hP : va_P (gD Γ) vwCl (xW Γ a x ++ modW Γ a2 0 μ) H) (hD : va_D A (xW Γ a x ++ modW Γ a2 0 μ)) (hS : va_S A s.heap H locs) (hl : lv_has ls 4 [(0, .ref b), (1, .ref (a 0)), (2, .ref (a2 0)), (3, .int (nI i))])
    (kk : ∀ (x1 : Xst) (μ1 : Mst) (H1 : Heap) (locs1 : List Loc) (ls1 : Array Slot), REL x1 μ1 → va_P (gD Γ) vwCl (xW Γ a x1 ++ modW Γ a2 0 μ1) H1 → va_D A (xW Γ a x1 ++ modW Γ a2 0 μ1) → va_S A s.heap H1 locs1 → lv_has ls1 4 [(0, .ref b), (1, .ref (a 0)), (2, .ref (a2 0)), (3, .int (nI i))] → W p l e room_1 s m #[.ref b] below meth c H1 locs1 600000 7302249 Q (F0 m 854 ls1 [])) : W p l e room_1 s m #[.ref b] below meth c H locs 600000 7302249 Q (F0 m 652 ls []) := by
  obtain ⟨hx, hb, hml, hown, hts⟩ := id hh.1
  obtain ⟨f_c, f_u, f_l0, ⟨L0, f_L, f_L2⟩, f_len, f_nm, ⟨N0, f_N, f_N7, f_N2⟩, f_ok, f_w, f_s, f_k, f_B, f_B1, f_B2, J0, f_J, f_J6, f_J7⟩ := REL_facts hr
  have h_1 : vp_in (nI i + 1) L := by rw [nI_1]; exact vp_in_nI (by omega) (by omega)
  have h_2 : vp_in (nI i + 2) L := by rw [show nI i + 2 = nI (i + 2) from nI_add i 2]; exact vp_in_nI (by omega) (by omega)
  refine lv_aload_n hx hb dL_law_652 rfl (lv_at hl 1 rfl) ?_
  refine lv_aload_n hx hb dL_law_653 rfl (lv_at hl 0 rfl) ?_
  refine lv_iload_n hx hb dL_law_654 rfl (lv_at hl 3 rfl) ?_
  refine lv_iconst (v := 1) hx hb dL_law_655 (by decide) ?_
  refine lv_iadd hx hb dL_law_656 ?_
  refine va_sld hx hb hX hbl hbA hS h_1 dL_law_657 ?_
  refine la_l (pre := []) (w := xW Γ a x) (w1 := xW Γ a (x)) (post := modW Γ a2 0 μ) hh hl.1 (c_X6_measure Γ l a x (xs (nI i + 1).toNatClampNeg)  ) (cwV 1 hts gL_law_X6_measure rfl rfl rfl (by decide +kernel) ⟨(Nat.le_of_ble_eq_true rfl), (Nat.le_of_ble_eq_true rfl)⟩) (As := [.int (xs (nI i + 1).toNatClampNeg)]) (rest := []) rfl dL_law_658 rfl (Nat.le_of_ble_eq_true rfl) hP hD hS (q0 := 0) (ci := 6) (x_at Γ a x _) rfl rfl (xW_len2 Γ a _ _) (xW_addr _ _ _ _) ⟨(Nat.le_of_ble_eq_true rfl), (Nat.le_of_ble_eq_true rfl)⟩ (fun H locs hP hD hS => ?_)
  refine lv_aload_n hx hb dL_law_661 rfl (lv_at hl 2 rfl) ?_
  refine lv_aload_n hx hb dL_law_662 rfl (lv_at hl 0 rfl) ?_
  refine lv_iload_n hx hb dL_law_663 rfl (lv_at hl 3 rfl) ?_
  refine lv_iconst (v := 1) hx hb dL_law_664 (by decide) ?_
  refine lv_iadd hx hb dL_law_665 ?_
  refine va_sld hx hb hX hbl hbA hS h_1 dL_law_666 ?_
  refine la_lm (pre := xW Γ a (x)) (w := modW Γ a2 0 μ) (w1 := modW Γ a2 0 (μ)) hh hl.1 (c_X7_measure Γ l a2 0 μ (xs (nI i + 1).toNatClampNeg)  ) (cwV 1 hts gL_law_X7_measure rfl rfl rfl (by decide +kernel) ⟨(Nat.le_of_ble_eq_true rfl), (Nat.le_of_ble_eq_true rfl)⟩) (As := [.int (xs (nI i + 1).toNatClampNeg)]) (rest := [.long (rMeasure x (xs (nI i + 1).toNatClampNeg))]) rfl dL_law_667 rfl (Nat.le_of_ble_eq_true rfl) hP hD hS (q0 := 64) (ci := 7) (m_at Γ a a2 _ μ) rfl rfl (modW_len2 Γ a2 _ _) (modW_addr2 Γ a2 _ _) ⟨(Nat.le_of_ble_eq_true rfl), (Nat.le_of_ble_eq_true rfl)⟩ (fun H locs hP hD hS => ?_)
  refine W.lcmp hx hb dL_law_670 ?_
  refine lv_if_eq (tgt := 854) hx hb dL_law_671 (by decide) (fun c_ => ?_) (fun c_ => ?_)
  · exact kk _ _ _ _ _ (hr) hP hD hS hl
  · exact absurd ((lg_cmp_eq _ _).mpr (s_measure hr (xs (nI i + 1).toNatClampNeg))) c_
set_option maxHeartbeats 2000000 in
set_option maxRecDepth 100000 in
theorem L_23 {Γ : gT} {p : Program} {l : Launch} {e : Env} {s : State} {m : MethodId} {below : List Frame} {meth : Method} {c : Code} {A : Nat → Prop} {a a2 : Nat → Nat} {b L i : Nat} {xs : Nat → Int32} {Q : State → Prop} (hh : Hd Γ p s m #[.ref b] c cL_law RL 4 wsL_law A) (hX : va_X b L xs s s.heap) (hbl : b < s.heap.size) (hbA : ¬ A b) (hi : i + 3 ≤ L) (hL : L ≤ 1536) {x : Xst} {μ : Mst} (hr : REL x μ) {H : Heap} {locs : List Loc} {ls : Array Slot} (hP : va_P (gD Γ) vwCl (xW Γ a x ++ modW Γ a2 0 μ) H) (hD : va_D A (xW Γ a x ++ modW Γ a2 0 μ)) (hS : va_S A s.heap H locs) (hl : lv_has ls 4 [(0, .ref b), (1, .ref (a 0)), (2, .ref (a2 0)), (3, .int (nI i))])
    (kk : ∀ (x1 : Xst) (μ1 : Mst) (H1 : Heap) (locs1 : List Loc) (ls1 : Array Slot), REL x1 μ1 → va_P (gD Γ) vwCl (xW Γ a x1 ++ modW Γ a2 0 μ1) H1 → va_D A (xW Γ a x1 ++ modW Γ a2 0 μ1) → va_S A s.heap H1 locs1 → lv_has ls1 4 [(0, .ref b), (1, .ref (a 0)), (2, .ref (a2 0)), (3, .int (nI i))] → W p l e room_1 s m #[.ref b] below meth c H1 locs1 600000 7302249 Q (F0 m 854 ls1 [])) : W p l e room_1 s m #[.ref b] below meth c H locs 600000 7302249 Q (F0 m 676 ls []) := by
  obtain ⟨hx, hb, hml, hown, hts⟩ := id hh.1
  obtain ⟨f_c, f_u, f_l0, ⟨L0, f_L, f_L2⟩, f_len, f_nm, ⟨N0, f_N, f_N7, f_N2⟩, f_ok, f_w, f_s, f_k, f_B, f_B1, f_B2, J0, f_J, f_J6, f_J7⟩ := REL_facts hr
  have h_1 : vp_in (nI i + 1) L := by rw [nI_1]; exact vp_in_nI (by omega) (by omega)
  have h_2 : vp_in (nI i + 2) L := by rw [show nI i + 2 = nI (i + 2) from nI_add i 2]; exact vp_in_nI (by omega) (by omega)
  refine lv_aload_n hx hb dL_law_676 rfl (lv_at hl 1 rfl) ?_
  refine lv_aload_n hx hb dL_law_677 rfl (lv_at hl 0 rfl) ?_
  refine lv_iload_n hx hb dL_law_678 rfl (lv_at hl 3 rfl) ?_
  refine lv_iconst (v := 1) hx hb dL_law_679 (by decide) ?_
  refine lv_iadd hx hb dL_law_680 ?_
  refine va_sld hx hb hX hbl hbA hS h_1 dL_law_681 ?_
  refine la_i (pre := []) (w := xW Γ a x) (w1 := xW Γ a (x)) (post := modW Γ a2 0 μ) hh hl.1 (c_X6_settledTicks Γ l a x (xs (nI i + 1).toNatClampNeg)  ) (cwV 1 hts gL_law_X6_settledTicks rfl rfl rfl (by decide +kernel) ⟨(Nat.le_of_ble_eq_true rfl), (Nat.le_of_ble_eq_true rfl)⟩) (As := [.int (xs (nI i + 1).toNatClampNeg)]) (rest := []) rfl dL_law_682 rfl (Nat.le_of_ble_eq_true rfl) hP hD hS (q0 := 0) (ci := 6) (x_at Γ a x _) rfl rfl (xW_len2 Γ a _ _) (xW_addr _ _ _ _) ⟨(Nat.le_of_ble_eq_true rfl), (Nat.le_of_ble_eq_true rfl)⟩ (fun H locs hP hD hS => ?_)
  refine lv_aload_n hx hb dL_law_685 rfl (lv_at hl 2 rfl) ?_
  refine lv_aload_n hx hb dL_law_686 rfl (lv_at hl 0 rfl) ?_
  refine lv_iload_n hx hb dL_law_687 rfl (lv_at hl 3 rfl) ?_
  refine lv_iconst (v := 1) hx hb dL_law_688 (by decide) ?_
  refine lv_iadd hx hb dL_law_689 ?_
  refine va_sld hx hb hX hbl hbA hS h_1 dL_law_690 ?_
  refine la_im (pre := xW Γ a (x)) (w := modW Γ a2 0 μ) (w1 := modW Γ a2 0 (μ)) hh hl.1 (c_X7_settledTicks Γ l a2 0 μ (xs (nI i + 1).toNatClampNeg)  ) (cwV 1 hts gL_law_X7_settledTicks rfl rfl rfl (by decide +kernel) ⟨(Nat.le_of_ble_eq_true rfl), (Nat.le_of_ble_eq_true rfl)⟩) (As := [.int (xs (nI i + 1).toNatClampNeg)]) (rest := [.int (rSettled x (xs (nI i + 1).toNatClampNeg))]) rfl dL_law_691 rfl (Nat.le_of_ble_eq_true rfl) hP hD hS (q0 := 64) (ci := 7) (m_at Γ a a2 _ μ) rfl rfl (modW_len2 Γ a2 _ _) (modW_addr2 Γ a2 _ _) ⟨(Nat.le_of_ble_eq_true rfl), (Nat.le_of_ble_eq_true rfl)⟩ (fun H locs hP hD hS => ?_)
  refine lv_icmp_eq (tgt := 854) hx hb dL_law_694 (by decide) (fun c_ => ?_) (fun c_ => ?_)
  · exact kk _ _ _ _ _ (hr) hP hD hS hl
  · exact absurd (s_settled hr (xs (nI i + 1).toNatClampNeg)) c_
set_option maxHeartbeats 2000000 in
set_option maxRecDepth 100000 in
theorem L_24 {Γ : gT} {p : Program} {l : Launch} {e : Env} {s : State} {m : MethodId} {below : List Frame} {meth : Method} {c : Code} {A : Nat → Prop} {a a2 : Nat → Nat} {b L i : Nat} {xs : Nat → Int32} {Q : State → Prop} (hh : Hd Γ p s m #[.ref b] c cL_law RL 4 wsL_law A) (hX : va_X b L xs s s.heap) (hbl : b < s.heap.size) (hbA : ¬ A b) (hi : i + 3 ≤ L) (hL : L ≤ 1536) {x : Xst} {μ : Mst} (hr : REL x μ) {H : Heap} {locs : List Loc} {ls : Array Slot} (hP : va_P (gD Γ) vwCl (xW Γ a x ++ modW Γ a2 0 μ) H) (hD : va_D A (xW Γ a x ++ modW Γ a2 0 μ)) (hS : va_S A s.heap H locs) (hl : lv_has ls 4 [(0, .ref b), (1, .ref (a 0)), (2, .ref (a2 0)), (3, .int (nI i))])
    (kk : ∀ (x1 : Xst) (μ1 : Mst) (H1 : Heap) (locs1 : List Loc) (ls1 : Array Slot), REL x1 μ1 → va_P (gD Γ) vwCl (xW Γ a x1 ++ modW Γ a2 0 μ1) H1 → va_D A (xW Γ a x1 ++ modW Γ a2 0 μ1) → va_S A s.heap H1 locs1 → lv_has ls1 4 [(0, .ref b), (1, .ref (a 0)), (2, .ref (a2 0)), (3, .int (nI i))] → W p l e room_1 s m #[.ref b] below meth c H1 locs1 600000 7302249 Q (F0 m 854 ls1 [])) : W p l e room_1 s m #[.ref b] below meth c H locs 600000 7302249 Q (F0 m 699 ls []) := by
  obtain ⟨hx, hb, hml, hown, hts⟩ := id hh.1
  obtain ⟨f_c, f_u, f_l0, ⟨L0, f_L, f_L2⟩, f_len, f_nm, ⟨N0, f_N, f_N7, f_N2⟩, f_ok, f_w, f_s, f_k, f_B, f_B1, f_B2, J0, f_J, f_J6, f_J7⟩ := REL_facts hr
  have h_1 : vp_in (nI i + 1) L := by rw [nI_1]; exact vp_in_nI (by omega) (by omega)
  have h_2 : vp_in (nI i + 2) L := by rw [show nI i + 2 = nI (i + 2) from nI_add i 2]; exact vp_in_nI (by omega) (by omega)
  refine lv_aload_n hx hb dL_law_699 rfl (lv_at hl 1 rfl) ?_
  refine la_i (pre := []) (w := xW Γ a x) (w1 := xW Γ a (gStore x)) (post := modW Γ a2 0 μ) hh hl.1 (c_X6_store Γ l a x   f_s f_B) (cwV 0 hts gL_law_X6_store rfl rfl rfl (by decide +kernel) ⟨(Nat.le_of_ble_eq_true rfl), (Nat.le_of_ble_eq_true rfl)⟩) (As := []) (rest := []) rfl dL_law_700 rfl (Nat.le_of_ble_eq_true rfl) hP hD hS (q0 := 0) (ci := 6) (x_at Γ a x _) rfl rfl (xW_len2 Γ a _ _) (xW_addr _ _ _ _) ⟨(Nat.le_of_ble_eq_true rfl), (Nat.le_of_ble_eq_true rfl)⟩ (fun H locs hP hD hS => ?_)
  refine lv_aload_n hx hb dL_law_703 rfl (lv_at hl 2 rfl) ?_
  refine la_im (pre := xW Γ a (gStore x)) (w := modW Γ a2 0 μ) (w1 := modW Γ a2 0 (hStore μ )) hh hl.1 (c_X7_store Γ l a2 0 μ   f_k) (cwV 0 hts gL_law_X7_store rfl rfl rfl (by decide +kernel) ⟨(Nat.le_of_ble_eq_true rfl), (Nat.le_of_ble_eq_true rfl)⟩) (As := []) (rest := [.int (rStore x)]) rfl dL_law_704 rfl (Nat.le_of_ble_eq_true rfl) hP hD hS (q0 := 64) (ci := 7) (m_at Γ a a2 _ μ) rfl rfl (modW_len2 Γ a2 _ _) (modW_addr2 Γ a2 _ _) ⟨(Nat.le_of_ble_eq_true rfl), (Nat.le_of_ble_eq_true rfl)⟩ (fun H locs hP hD hS => ?_)
  refine lv_icmp_eq (tgt := 854) hx hb dL_law_707 (by decide) (fun c_ => ?_) (fun c_ => ?_)
  · exact kk _ _ _ _ _ ((s_store hr ).2) hP hD hS hl
  · exact absurd ((s_store hr ).1) c_
set_option maxHeartbeats 2000000 in
set_option maxRecDepth 100000 in
theorem L_25 {Γ : gT} {p : Program} {l : Launch} {e : Env} {s : State} {m : MethodId} {below : List Frame} {meth : Method} {c : Code} {A : Nat → Prop} {a a2 : Nat → Nat} {b L i : Nat} {xs : Nat → Int32} {Q : State → Prop} (hh : Hd Γ p s m #[.ref b] c cL_law RL 4 wsL_law A) (hX : va_X b L xs s s.heap) (hbl : b < s.heap.size) (hbA : ¬ A b) (hi : i + 3 ≤ L) (hL : L ≤ 1536) {x : Xst} {μ : Mst} (hr : REL x μ) {H : Heap} {locs : List Loc} {ls : Array Slot} (hP : va_P (gD Γ) vwCl (xW Γ a x ++ modW Γ a2 0 μ) H) (hD : va_D A (xW Γ a x ++ modW Γ a2 0 μ)) (hS : va_S A s.heap H locs) (hl : lv_has ls 4 [(0, .ref b), (1, .ref (a 0)), (2, .ref (a2 0)), (3, .int (nI i))])
    (kk : ∀ (x1 : Xst) (μ1 : Mst) (H1 : Heap) (locs1 : List Loc) (ls1 : Array Slot), REL x1 μ1 → va_P (gD Γ) vwCl (xW Γ a x1 ++ modW Γ a2 0 μ1) H1 → va_D A (xW Γ a x1 ++ modW Γ a2 0 μ1) → va_S A s.heap H1 locs1 → lv_has ls1 4 [(0, .ref b), (1, .ref (a 0)), (2, .ref (a2 0)), (3, .int (nI i))] → W p l e room_1 s m #[.ref b] below meth c H1 locs1 600000 7302249 Q (F0 m 854 ls1 [])) : W p l e room_1 s m #[.ref b] below meth c H locs 600000 7302249 Q (F0 m 712 ls []) := by
  obtain ⟨hx, hb, hml, hown, hts⟩ := id hh.1
  obtain ⟨f_c, f_u, f_l0, ⟨L0, f_L, f_L2⟩, f_len, f_nm, ⟨N0, f_N, f_N7, f_N2⟩, f_ok, f_w, f_s, f_k, f_B, f_B1, f_B2, J0, f_J, f_J6, f_J7⟩ := REL_facts hr
  have h_1 : vp_in (nI i + 1) L := by rw [nI_1]; exact vp_in_nI (by omega) (by omega)
  have h_2 : vp_in (nI i + 2) L := by rw [show nI i + 2 = nI (i + 2) from nI_add i 2]; exact vp_in_nI (by omega) (by omega)
  refine lv_aload_n hx hb dL_law_712 rfl (lv_at hl 1 rfl) ?_
  refine la_i (pre := []) (w := xW Γ a x) (w1 := xW Γ a (gRecall x)) (post := modW Γ a2 0 μ) hh hl.1 (c_X6_recall Γ l a x   f_s f_B1 f_B2) (cwV 0 hts gL_law_X6_recall rfl rfl rfl (by decide +kernel) ⟨(Nat.le_of_ble_eq_true rfl), (Nat.le_of_ble_eq_true rfl)⟩) (As := []) (rest := []) rfl dL_law_713 rfl (Nat.le_of_ble_eq_true rfl) hP hD hS (q0 := 0) (ci := 6) (x_at Γ a x _) rfl rfl (xW_len2 Γ a _ _) (xW_addr _ _ _ _) ⟨(Nat.le_of_ble_eq_true rfl), (Nat.le_of_ble_eq_true rfl)⟩ (fun H locs hP hD hS => ?_)
  refine lv_aload_n hx hb dL_law_716 rfl (lv_at hl 2 rfl) ?_
  refine la_im (pre := xW Γ a (gRecall x)) (w := modW Γ a2 0 μ) (w1 := modW Γ a2 0 (hRecall μ )) hh hl.1 (c_X7_recall Γ l a2 0 μ   f_k) (cwV 0 hts gL_law_X7_recall rfl rfl rfl (by decide +kernel) ⟨(Nat.le_of_ble_eq_true rfl), (Nat.le_of_ble_eq_true rfl)⟩) (As := []) (rest := [.int (rRecall x)]) rfl dL_law_717 rfl (Nat.le_of_ble_eq_true rfl) hP hD hS (q0 := 64) (ci := 7) (m_at Γ a a2 _ μ) rfl rfl (modW_len2 Γ a2 _ _) (modW_addr2 Γ a2 _ _) ⟨(Nat.le_of_ble_eq_true rfl), (Nat.le_of_ble_eq_true rfl)⟩ (fun H locs hP hD hS => ?_)
  refine lv_icmp_eq (tgt := 854) hx hb dL_law_720 (by decide) (fun c_ => ?_) (fun c_ => ?_)
  · exact kk _ _ _ _ _ ((s_recall hr ).2) hP hD hS hl
  · exact absurd ((s_recall hr ).1) c_
set_option maxHeartbeats 2000000 in
set_option maxRecDepth 100000 in
theorem L_26 {Γ : gT} {p : Program} {l : Launch} {e : Env} {s : State} {m : MethodId} {below : List Frame} {meth : Method} {c : Code} {A : Nat → Prop} {a a2 : Nat → Nat} {b L i : Nat} {xs : Nat → Int32} {Q : State → Prop} (hh : Hd Γ p s m #[.ref b] c cL_law RL 4 wsL_law A) (hX : va_X b L xs s s.heap) (hbl : b < s.heap.size) (hbA : ¬ A b) (hi : i + 3 ≤ L) (hL : L ≤ 1536) {x : Xst} {μ : Mst} (hr : REL x μ) {H : Heap} {locs : List Loc} {ls : Array Slot} (hP : va_P (gD Γ) vwCl (xW Γ a x ++ modW Γ a2 0 μ) H) (hD : va_D A (xW Γ a x ++ modW Γ a2 0 μ)) (hS : va_S A s.heap H locs) (hl : lv_has ls 4 [(0, .ref b), (1, .ref (a 0)), (2, .ref (a2 0)), (3, .int (nI i))])
    (kk : ∀ (x1 : Xst) (μ1 : Mst) (H1 : Heap) (locs1 : List Loc) (ls1 : Array Slot), REL x1 μ1 → va_P (gD Γ) vwCl (xW Γ a x1 ++ modW Γ a2 0 μ1) H1 → va_D A (xW Γ a x1 ++ modW Γ a2 0 μ1) → va_S A s.heap H1 locs1 → lv_has ls1 4 [(0, .ref b), (1, .ref (a 0)), (2, .ref (a2 0)), (3, .int (nI i))] → W p l e room_1 s m #[.ref b] below meth c H1 locs1 600000 7302249 Q (F0 m 854 ls1 [])) : W p l e room_1 s m #[.ref b] below meth c H locs 600000 7302249 Q (F0 m 725 ls []) := by
  obtain ⟨hx, hb, hml, hown, hts⟩ := id hh.1
  obtain ⟨f_c, f_u, f_l0, ⟨L0, f_L, f_L2⟩, f_len, f_nm, ⟨N0, f_N, f_N7, f_N2⟩, f_ok, f_w, f_s, f_k, f_B, f_B1, f_B2, J0, f_J, f_J6, f_J7⟩ := REL_facts hr
  have h_1 : vp_in (nI i + 1) L := by rw [nI_1]; exact vp_in_nI (by omega) (by omega)
  have h_2 : vp_in (nI i + 2) L := by rw [show nI i + 2 = nI (i + 2) from nI_add i 2]; exact vp_in_nI (by omega) (by omega)
  refine lv_aload_n hx hb dL_law_725 rfl (lv_at hl 1 rfl) ?_
  refine lv_aload_n hx hb dL_law_726 rfl (lv_at hl 0 rfl) ?_
  refine lv_iload_n hx hb dL_law_727 rfl (lv_at hl 3 rfl) ?_
  refine lv_iconst (v := 1) hx hb dL_law_728 (by decide) ?_
  refine lv_iadd hx hb dL_law_729 ?_
  refine va_sld hx hb hX hbl hbA hS h_1 dL_law_730 ?_
  refine la_l (pre := []) (w := xW Γ a x) (w1 := xW Γ a (x)) (post := modW Γ a2 0 μ) hh hl.1 (c_X6_correlation Γ l a x (xs (nI i + 1).toNatClampNeg)  (by rw [f_N]; exact nI_pos (by omega))) (cwV 1 hts gL_law_X6_correlation rfl rfl rfl (by decide +kernel) ⟨(Nat.le_of_ble_eq_true rfl), (Nat.le_of_ble_eq_true rfl)⟩) (As := [.int (xs (nI i + 1).toNatClampNeg)]) (rest := []) rfl dL_law_731 rfl (Nat.le_of_ble_eq_true rfl) hP hD hS (q0 := 0) (ci := 6) (x_at Γ a x _) rfl rfl (xW_len2 Γ a _ _) (xW_addr _ _ _ _) ⟨(Nat.le_of_ble_eq_true rfl), (Nat.le_of_ble_eq_true rfl)⟩ (fun H locs hP hD hS => ?_)
  refine lv_aload_n hx hb dL_law_734 rfl (lv_at hl 2 rfl) ?_
  refine lv_aload_n hx hb dL_law_735 rfl (lv_at hl 0 rfl) ?_
  refine lv_iload_n hx hb dL_law_736 rfl (lv_at hl 3 rfl) ?_
  refine lv_iconst (v := 1) hx hb dL_law_737 (by decide) ?_
  refine lv_iadd hx hb dL_law_738 ?_
  refine va_sld hx hb hX hbl hbA hS h_1 dL_law_739 ?_
  refine la_lm (pre := xW Γ a (x)) (w := modW Γ a2 0 μ) (w1 := modW Γ a2 0 (μ)) hh hl.1 (c_X7_correlation Γ l a2 0 μ (xs (nI i + 1).toNatClampNeg) N0 f_N7 (by omega)) (cwV 1 hts gL_law_X7_correlation rfl rfl rfl (by decide +kernel) ⟨(Nat.le_of_ble_eq_true rfl), (Nat.le_of_ble_eq_true rfl)⟩) (As := [.int (xs (nI i + 1).toNatClampNeg)]) (rest := [.long (rCorrelation x (xs (nI i + 1).toNatClampNeg))]) rfl dL_law_740 rfl (Nat.le_of_ble_eq_true rfl) hP hD hS (q0 := 64) (ci := 7) (m_at Γ a a2 _ μ) rfl rfl (modW_len2 Γ a2 _ _) (modW_addr2 Γ a2 _ _) ⟨(Nat.le_of_ble_eq_true rfl), (Nat.le_of_ble_eq_true rfl)⟩ (fun H locs hP hD hS => ?_)
  refine W.lcmp hx hb dL_law_743 ?_
  refine lv_if_eq (tgt := 854) hx hb dL_law_744 (by decide) (fun c_ => ?_) (fun c_ => ?_)
  · exact kk _ _ _ _ _ (hr) hP hD hS hl
  · exact absurd ((lg_cmp_eq _ _).mpr (s_correlation hr (xs (nI i + 1).toNatClampNeg))) c_
set_option maxHeartbeats 2000000 in
set_option maxRecDepth 100000 in
theorem L_27 {Γ : gT} {p : Program} {l : Launch} {e : Env} {s : State} {m : MethodId} {below : List Frame} {meth : Method} {c : Code} {A : Nat → Prop} {a a2 : Nat → Nat} {b L i : Nat} {xs : Nat → Int32} {Q : State → Prop} (hh : Hd Γ p s m #[.ref b] c cL_law RL 4 wsL_law A) (hX : va_X b L xs s s.heap) (hbl : b < s.heap.size) (hbA : ¬ A b) (hi : i + 3 ≤ L) (hL : L ≤ 1536) {x : Xst} {μ : Mst} (hr : REL x μ) {H : Heap} {locs : List Loc} {ls : Array Slot} (hP : va_P (gD Γ) vwCl (xW Γ a x ++ modW Γ a2 0 μ) H) (hD : va_D A (xW Γ a x ++ modW Γ a2 0 μ)) (hS : va_S A s.heap H locs) (hl : lv_has ls 4 [(0, .ref b), (1, .ref (a 0)), (2, .ref (a2 0)), (3, .int (nI i))])
    (kk : ∀ (x1 : Xst) (μ1 : Mst) (H1 : Heap) (locs1 : List Loc) (ls1 : Array Slot), REL x1 μ1 → va_P (gD Γ) vwCl (xW Γ a x1 ++ modW Γ a2 0 μ1) H1 → va_D A (xW Γ a x1 ++ modW Γ a2 0 μ1) → va_S A s.heap H1 locs1 → lv_has ls1 4 [(0, .ref b), (1, .ref (a 0)), (2, .ref (a2 0)), (3, .int (nI i))] → W p l e room_1 s m #[.ref b] below meth c H1 locs1 600000 7302249 Q (F0 m 854 ls1 [])) : W p l e room_1 s m #[.ref b] below meth c H locs 600000 7302249 Q (F0 m 749 ls []) := by
  obtain ⟨hx, hb, hml, hown, hts⟩ := id hh.1
  obtain ⟨f_c, f_u, f_l0, ⟨L0, f_L, f_L2⟩, f_len, f_nm, ⟨N0, f_N, f_N7, f_N2⟩, f_ok, f_w, f_s, f_k, f_B, f_B1, f_B2, J0, f_J, f_J6, f_J7⟩ := REL_facts hr
  have h_1 : vp_in (nI i + 1) L := by rw [nI_1]; exact vp_in_nI (by omega) (by omega)
  have h_2 : vp_in (nI i + 2) L := by rw [show nI i + 2 = nI (i + 2) from nI_add i 2]; exact vp_in_nI (by omega) (by omega)
  refine lv_aload_n hx hb dL_law_749 rfl (lv_at hl 1 rfl) ?_
  refine la_i (pre := []) (w := xW Γ a x) (w1 := xW Γ a (x)) (post := modW Γ a2 0 μ) hh hl.1 (c_X6_estimatedLag Γ l a x   (by rw [f_N]; exact nI_pos (by omega))) (cwV 0 hts gL_law_X6_estimatedLag rfl rfl rfl (by decide +kernel) ⟨(Nat.le_of_ble_eq_true rfl), (Nat.le_of_ble_eq_true rfl)⟩) (As := []) (rest := []) rfl dL_law_750 rfl (Nat.le_of_ble_eq_true rfl) hP hD hS (q0 := 0) (ci := 6) (x_at Γ a x _) rfl rfl (xW_len2 Γ a _ _) (xW_addr _ _ _ _) ⟨(Nat.le_of_ble_eq_true rfl), (Nat.le_of_ble_eq_true rfl)⟩ (fun H locs hP hD hS => ?_)
  refine lv_aload_n hx hb dL_law_753 rfl (lv_at hl 2 rfl) ?_
  refine la_im (pre := xW Γ a (x)) (w := modW Γ a2 0 μ) (w1 := modW Γ a2 0 (μ)) hh hl.1 (c_X7_estimatedLag Γ l a2 0 μ  N0 f_N7 (by omega)) (cwV 0 hts gL_law_X7_estimatedLag rfl rfl rfl (by decide +kernel) ⟨(Nat.le_of_ble_eq_true rfl), (Nat.le_of_ble_eq_true rfl)⟩) (As := []) (rest := [.int (rEstimated x)]) rfl dL_law_754 rfl (Nat.le_of_ble_eq_true rfl) hP hD hS (q0 := 64) (ci := 7) (m_at Γ a a2 _ μ) rfl rfl (modW_len2 Γ a2 _ _) (modW_addr2 Γ a2 _ _) ⟨(Nat.le_of_ble_eq_true rfl), (Nat.le_of_ble_eq_true rfl)⟩ (fun H locs hP hD hS => ?_)
  refine lv_icmp_eq (tgt := 854) hx hb dL_law_757 (by decide) (fun c_ => ?_) (fun c_ => ?_)
  · exact kk _ _ _ _ _ (hr) hP hD hS hl
  · exact absurd (s_estimated hr ) c_
set_option maxHeartbeats 2000000 in
set_option maxRecDepth 100000 in
theorem L_28 {Γ : gT} {p : Program} {l : Launch} {e : Env} {s : State} {m : MethodId} {below : List Frame} {meth : Method} {c : Code} {A : Nat → Prop} {a a2 : Nat → Nat} {b L i : Nat} {xs : Nat → Int32} {Q : State → Prop} (hh : Hd Γ p s m #[.ref b] c cL_law RL 4 wsL_law A) (hX : va_X b L xs s s.heap) (hbl : b < s.heap.size) (hbA : ¬ A b) (hi : i + 3 ≤ L) (hL : L ≤ 1536) {x : Xst} {μ : Mst} (hr : REL x μ) {H : Heap} {locs : List Loc} {ls : Array Slot} (hP : va_P (gD Γ) vwCl (xW Γ a x ++ modW Γ a2 0 μ) H) (hD : va_D A (xW Γ a x ++ modW Γ a2 0 μ)) (hS : va_S A s.heap H locs) (hl : lv_has ls 4 [(0, .ref b), (1, .ref (a 0)), (2, .ref (a2 0)), (3, .int (nI i))])
    (kk : ∀ (x1 : Xst) (μ1 : Mst) (H1 : Heap) (locs1 : List Loc) (ls1 : Array Slot), REL x1 μ1 → va_P (gD Γ) vwCl (xW Γ a x1 ++ modW Γ a2 0 μ1) H1 → va_D A (xW Γ a x1 ++ modW Γ a2 0 μ1) → va_S A s.heap H1 locs1 → lv_has ls1 4 [(0, .ref b), (1, .ref (a 0)), (2, .ref (a2 0)), (3, .int (nI i))] → W p l e room_1 s m #[.ref b] below meth c H1 locs1 600000 7302249 Q (F0 m 854 ls1 [])) : W p l e room_1 s m #[.ref b] below meth c H locs 600000 7302249 Q (F0 m 762 ls []) := by
  obtain ⟨hx, hb, hml, hown, hts⟩ := id hh.1
  obtain ⟨f_c, f_u, f_l0, ⟨L0, f_L, f_L2⟩, f_len, f_nm, ⟨N0, f_N, f_N7, f_N2⟩, f_ok, f_w, f_s, f_k, f_B, f_B1, f_B2, J0, f_J, f_J6, f_J7⟩ := REL_facts hr
  have h_1 : vp_in (nI i + 1) L := by rw [nI_1]; exact vp_in_nI (by omega) (by omega)
  have h_2 : vp_in (nI i + 2) L := by rw [show nI i + 2 = nI (i + 2) from nI_add i 2]; exact vp_in_nI (by omega) (by omega)
  refine lv_aload_n hx hb dL_law_762 rfl (lv_at hl 1 rfl) ?_
  refine la_i (pre := []) (w := xW Γ a x) (w1 := xW Γ a (gTune x)) (post := modW Γ a2 0 μ) hh hl.1 (c_X6_tuneDelay Γ l a x   (by rw [f_N]; exact nI_pos (by omega)) f_c) (cwV 0 hts gL_law_X6_tuneDelay rfl rfl rfl (by decide +kernel) ⟨(Nat.le_of_ble_eq_true rfl), (Nat.le_of_ble_eq_true rfl)⟩) (As := []) (rest := []) rfl dL_law_763 rfl (Nat.le_of_ble_eq_true rfl) hP hD hS (q0 := 0) (ci := 6) (x_at Γ a x _) rfl rfl (xW_len2 Γ a _ _) (xW_addr _ _ _ _) ⟨(Nat.le_of_ble_eq_true rfl), (Nat.le_of_ble_eq_true rfl)⟩ (fun H locs hP hD hS => ?_)
  refine lv_aload_n hx hb dL_law_766 rfl (lv_at hl 2 rfl) ?_
  refine la_im (pre := xW Γ a (gTune x)) (w := modW Γ a2 0 μ) (w1 := modW Γ a2 0 (hTune μ )) hh hl.1 (c_X7_tuneDelay Γ l a2 0 μ  N0 f_N7 (by omega) f_u) (cwV 0 hts gL_law_X7_tuneDelay rfl rfl rfl (by decide +kernel) ⟨(Nat.le_of_ble_eq_true rfl), (Nat.le_of_ble_eq_true rfl)⟩) (As := []) (rest := [.int (rTune x)]) rfl dL_law_767 rfl (Nat.le_of_ble_eq_true rfl) hP hD hS (q0 := 64) (ci := 7) (m_at Γ a a2 _ μ) rfl rfl (modW_len2 Γ a2 _ _) (modW_addr2 Γ a2 _ _) ⟨(Nat.le_of_ble_eq_true rfl), (Nat.le_of_ble_eq_true rfl)⟩ (fun H locs hP hD hS => ?_)
  refine lv_icmp_eq (tgt := 854) hx hb dL_law_770 (by decide) (fun c_ => ?_) (fun c_ => ?_)
  · exact kk _ _ _ _ _ ((s_tune hr ).2) hP hD hS hl
  · exact absurd ((s_tune hr ).1) c_
set_option maxHeartbeats 2000000 in
set_option maxRecDepth 100000 in
theorem L_29 {Γ : gT} {p : Program} {l : Launch} {e : Env} {s : State} {m : MethodId} {below : List Frame} {meth : Method} {c : Code} {A : Nat → Prop} {a a2 : Nat → Nat} {b L i : Nat} {xs : Nat → Int32} {Q : State → Prop} (hh : Hd Γ p s m #[.ref b] c cL_law RL 4 wsL_law A) (hX : va_X b L xs s s.heap) (hbl : b < s.heap.size) (hbA : ¬ A b) (hi : i + 3 ≤ L) (hL : L ≤ 1536) {x : Xst} {μ : Mst} (hr : REL x μ) {H : Heap} {locs : List Loc} {ls : Array Slot} (hP : va_P (gD Γ) vwCl (xW Γ a x ++ modW Γ a2 0 μ) H) (hD : va_D A (xW Γ a x ++ modW Γ a2 0 μ)) (hS : va_S A s.heap H locs) (hl : lv_has ls 4 [(0, .ref b), (1, .ref (a 0)), (2, .ref (a2 0)), (3, .int (nI i))])
    (kk : ∀ (x1 : Xst) (μ1 : Mst) (H1 : Heap) (locs1 : List Loc) (ls1 : Array Slot), REL x1 μ1 → va_P (gD Γ) vwCl (xW Γ a x1 ++ modW Γ a2 0 μ1) H1 → va_D A (xW Γ a x1 ++ modW Γ a2 0 μ1) → va_S A s.heap H1 locs1 → lv_has ls1 4 [(0, .ref b), (1, .ref (a 0)), (2, .ref (a2 0)), (3, .int (nI i))] → W p l e room_1 s m #[.ref b] below meth c H1 locs1 600000 7302249 Q (F0 m 854 ls1 [])) : W p l e room_1 s m #[.ref b] below meth c H locs 600000 7302249 Q (F0 m 775 ls []) := by
  obtain ⟨hx, hb, hml, hown, hts⟩ := id hh.1
  obtain ⟨f_c, f_u, f_l0, ⟨L0, f_L, f_L2⟩, f_len, f_nm, ⟨N0, f_N, f_N7, f_N2⟩, f_ok, f_w, f_s, f_k, f_B, f_B1, f_B2, J0, f_J, f_J6, f_J7⟩ := REL_facts hr
  have h_1 : vp_in (nI i + 1) L := by rw [nI_1]; exact vp_in_nI (by omega) (by omega)
  have h_2 : vp_in (nI i + 2) L := by rw [show nI i + 2 = nI (i + 2) from nI_add i 2]; exact vp_in_nI (by omega) (by omega)
  refine lv_aload_n hx hb dL_law_775 rfl (lv_at hl 1 rfl) ?_
  refine lv_aload_n hx hb dL_law_776 rfl (lv_at hl 0 rfl) ?_
  refine lv_iload_n hx hb dL_law_777 rfl (lv_at hl 3 rfl) ?_
  refine lv_iconst (v := 1) hx hb dL_law_778 (by decide) ?_
  refine lv_iadd hx hb dL_law_779 ?_
  refine va_sld hx hb hX hbl hbA hS h_1 dL_law_780 ?_
  refine lv_aload_n hx hb dL_law_781 rfl (lv_at hl 0 rfl) ?_
  refine lv_iload_n hx hb dL_law_782 rfl (lv_at hl 3 rfl) ?_
  refine lv_iconst (v := 2) hx hb dL_law_783 (by decide) ?_
  refine lv_iadd hx hb dL_law_784 ?_
  refine va_sld hx hb hX hbl hbA hS h_2 dL_law_785 ?_
  refine la_i (pre := []) (w := xW Γ a x) (w1 := xW Γ a (gAhead x (xs (nI i + 1).toNatClampNeg) (xs (nI i + 2).toNatClampNeg))) (post := modW Γ a2 0 μ) hh hl.1 (c_X6_ahead Γ l a x (xs (nI i + 1).toNatClampNeg) (xs (nI i + 2).toNatClampNeg) N0 f_N (by omega) f_B) (cwV 2 hts gL_law_X6_ahead rfl rfl rfl (by decide +kernel) ⟨(Nat.le_of_ble_eq_true rfl), (Nat.le_of_ble_eq_true rfl)⟩) (As := [.int (xs (nI i + 1).toNatClampNeg), .int (xs (nI i + 2).toNatClampNeg)]) (rest := []) rfl dL_law_786 rfl (Nat.le_of_ble_eq_true rfl) hP hD hS (q0 := 0) (ci := 6) (x_at Γ a x _) rfl rfl (xW_len2 Γ a _ _) (xW_addr _ _ _ _) ⟨(Nat.le_of_ble_eq_true rfl), (Nat.le_of_ble_eq_true rfl)⟩ (fun H locs hP hD hS => ?_)
  refine lv_aload_n hx hb dL_law_789 rfl (lv_at hl 2 rfl) ?_
  refine lv_aload_n hx hb dL_law_790 rfl (lv_at hl 0 rfl) ?_
  refine lv_iload_n hx hb dL_law_791 rfl (lv_at hl 3 rfl) ?_
  refine lv_iconst (v := 1) hx hb dL_law_792 (by decide) ?_
  refine lv_iadd hx hb dL_law_793 ?_
  refine va_sld hx hb hX hbl hbA hS h_1 dL_law_794 ?_
  refine lv_aload_n hx hb dL_law_795 rfl (lv_at hl 0 rfl) ?_
  refine lv_iload_n hx hb dL_law_796 rfl (lv_at hl 3 rfl) ?_
  refine lv_iconst (v := 2) hx hb dL_law_797 (by decide) ?_
  refine lv_iadd hx hb dL_law_798 ?_
  refine va_sld hx hb hX hbl hbA hS h_2 dL_law_799 ?_
  refine la_im (pre := xW Γ a (gAhead x (xs (nI i + 1).toNatClampNeg) (xs (nI i + 2).toNatClampNeg))) (w := modW Γ a2 0 μ) (w1 := modW Γ a2 0 (hAhead μ (xs (nI i + 1).toNatClampNeg) (xs (nI i + 2).toNatClampNeg))) hh hl.1 (c_X7_ahead Γ l a2 0 μ (xs (nI i + 1).toNatClampNeg) (xs (nI i + 2).toNatClampNeg) N0 f_ok f_N7 (by omega)) (cwV 2 hts gL_law_X7_ahead rfl rfl rfl (by decide +kernel) ⟨(Nat.le_of_ble_eq_true rfl), (Nat.le_of_ble_eq_true rfl)⟩) (As := [.int (xs (nI i + 1).toNatClampNeg), .int (xs (nI i + 2).toNatClampNeg)]) (rest := [.int (rAhead x (xs (nI i + 1).toNatClampNeg) (xs (nI i + 2).toNatClampNeg))]) rfl dL_law_800 rfl (Nat.le_of_ble_eq_true rfl) hP hD hS (q0 := 64) (ci := 7) (m_at Γ a a2 _ μ) rfl rfl (modW_len2 Γ a2 _ _) (modW_addr2 Γ a2 _ _) ⟨(Nat.le_of_ble_eq_true rfl), (Nat.le_of_ble_eq_true rfl)⟩ (fun H locs hP hD hS => ?_)
  refine lv_icmp_eq (tgt := 854) hx hb dL_law_803 (by decide) (fun c_ => ?_) (fun c_ => ?_)
  · exact kk _ _ _ _ _ (s_aheadS hr (xs (nI i + 1).toNatClampNeg) (xs (nI i + 2).toNatClampNeg)) hP hD hS hl
  · exact absurd (s_ahead hr (xs (nI i + 1).toNatClampNeg) (xs (nI i + 2).toNatClampNeg)) c_
set_option maxHeartbeats 2000000 in
set_option maxRecDepth 100000 in
theorem L_30 {Γ : gT} {p : Program} {l : Launch} {e : Env} {s : State} {m : MethodId} {below : List Frame} {meth : Method} {c : Code} {A : Nat → Prop} {a a2 : Nat → Nat} {b L i : Nat} {xs : Nat → Int32} {Q : State → Prop} (hh : Hd Γ p s m #[.ref b] c cL_law RL 4 wsL_law A) (hX : va_X b L xs s s.heap) (hbl : b < s.heap.size) (hbA : ¬ A b) (hi : i + 3 ≤ L) (hL : L ≤ 1536) {x : Xst} {μ : Mst} (hr : REL x μ) {H : Heap} {locs : List Loc} {ls : Array Slot} (hP : va_P (gD Γ) vwCl (xW Γ a x ++ modW Γ a2 0 μ) H) (hD : va_D A (xW Γ a x ++ modW Γ a2 0 μ)) (hS : va_S A s.heap H locs) (hl : lv_has ls 4 [(0, .ref b), (1, .ref (a 0)), (2, .ref (a2 0)), (3, .int (nI i))])
    (kk : ∀ (x1 : Xst) (μ1 : Mst) (H1 : Heap) (locs1 : List Loc) (ls1 : Array Slot), REL x1 μ1 → va_P (gD Γ) vwCl (xW Γ a x1 ++ modW Γ a2 0 μ1) H1 → va_D A (xW Γ a x1 ++ modW Γ a2 0 μ1) → va_S A s.heap H1 locs1 → lv_has ls1 4 [(0, .ref b), (1, .ref (a 0)), (2, .ref (a2 0)), (3, .int (nI i))] → W p l e room_1 s m #[.ref b] below meth c H1 locs1 600000 7302249 Q (F0 m 854 ls1 [])) : W p l e room_1 s m #[.ref b] below meth c H locs 600000 7302249 Q (F0 m 808 ls []) := by
  obtain ⟨hx, hb, hml, hown, hts⟩ := id hh.1
  obtain ⟨f_c, f_u, f_l0, ⟨L0, f_L, f_L2⟩, f_len, f_nm, ⟨N0, f_N, f_N7, f_N2⟩, f_ok, f_w, f_s, f_k, f_B, f_B1, f_B2, J0, f_J, f_J6, f_J7⟩ := REL_facts hr
  have h_1 : vp_in (nI i + 1) L := by rw [nI_1]; exact vp_in_nI (by omega) (by omega)
  have h_2 : vp_in (nI i + 2) L := by rw [show nI i + 2 = nI (i + 2) from nI_add i 2]; exact vp_in_nI (by omega) (by omega)
  refine lv_aload_n hx hb dL_law_808 rfl (lv_at hl 1 rfl) ?_
  refine lv_aload_n hx hb dL_law_809 rfl (lv_at hl 0 rfl) ?_
  refine lv_iload_n hx hb dL_law_810 rfl (lv_at hl 3 rfl) ?_
  refine lv_iconst (v := 1) hx hb dL_law_811 (by decide) ?_
  refine lv_iadd hx hb dL_law_812 ?_
  refine va_sld hx hb hX hbl hbA hS h_1 dL_law_813 ?_
  refine la_i (pre := []) (w := xW Γ a x) (w1 := xW Γ a (gBest x (xs (nI i + 1).toNatClampNeg))) (post := modW Γ a2 0 μ) hh hl.1 (c_X6_bestGain Γ l a x (xs (nI i + 1).toNatClampNeg) N0 f_N (by omega) f_B) (cwV 1 hts gL_law_X6_bestGain rfl rfl rfl (by decide +kernel) ⟨(Nat.le_of_ble_eq_true rfl), (Nat.le_of_ble_eq_true rfl)⟩) (As := [.int (xs (nI i + 1).toNatClampNeg)]) (rest := []) rfl dL_law_814 rfl (Nat.le_of_ble_eq_true rfl) hP hD hS (q0 := 0) (ci := 6) (x_at Γ a x _) rfl rfl (xW_len2 Γ a _ _) (xW_addr _ _ _ _) ⟨(Nat.le_of_ble_eq_true rfl), (Nat.le_of_ble_eq_true rfl)⟩ (fun H locs hP hD hS => ?_)
  refine lv_aload_n hx hb dL_law_817 rfl (lv_at hl 2 rfl) ?_
  refine lv_aload_n hx hb dL_law_818 rfl (lv_at hl 0 rfl) ?_
  refine lv_iload_n hx hb dL_law_819 rfl (lv_at hl 3 rfl) ?_
  refine lv_iconst (v := 1) hx hb dL_law_820 (by decide) ?_
  refine lv_iadd hx hb dL_law_821 ?_
  refine va_sld hx hb hX hbl hbA hS h_1 dL_law_822 ?_
  refine la_im (pre := xW Γ a (gBest x (xs (nI i + 1).toNatClampNeg))) (w := modW Γ a2 0 μ) (w1 := modW Γ a2 0 (hBest μ (xs (nI i + 1).toNatClampNeg))) hh hl.1 (c_X7_bestGain Γ l a2 0 μ (xs (nI i + 1).toNatClampNeg) N0 f_ok f_N7 (by omega)) (cwV 1 hts gL_law_X7_bestGain rfl rfl rfl (by decide +kernel) ⟨(Nat.le_of_ble_eq_true rfl), (Nat.le_of_ble_eq_true rfl)⟩) (As := [.int (xs (nI i + 1).toNatClampNeg)]) (rest := [.int (rBest x (xs (nI i + 1).toNatClampNeg))]) rfl dL_law_823 rfl (Nat.le_of_ble_eq_true rfl) hP hD hS (q0 := 64) (ci := 7) (m_at Γ a a2 _ μ) rfl rfl (modW_len2 Γ a2 _ _) (modW_addr2 Γ a2 _ _) ⟨(Nat.le_of_ble_eq_true rfl), (Nat.le_of_ble_eq_true rfl)⟩ (fun H locs hP hD hS => ?_)
  refine lv_icmp_eq (tgt := 854) hx hb dL_law_826 (by decide) (fun c_ => ?_) (fun c_ => ?_)
  · exact kk _ _ _ _ _ ((s_best hr (xs (nI i + 1).toNatClampNeg)).2) hP hD hS hl
  · exact absurd ((s_best hr (xs (nI i + 1).toNatClampNeg)).1) c_
set_option maxHeartbeats 2000000 in
set_option maxRecDepth 100000 in
theorem L_31 {Γ : gT} {p : Program} {l : Launch} {e : Env} {s : State} {m : MethodId} {below : List Frame} {meth : Method} {c : Code} {A : Nat → Prop} {a a2 : Nat → Nat} {b L i : Nat} {xs : Nat → Int32} {Q : State → Prop} (hh : Hd Γ p s m #[.ref b] c cL_law RL 4 wsL_law A) (hX : va_X b L xs s s.heap) (hbl : b < s.heap.size) (hbA : ¬ A b) (hi : i + 3 ≤ L) (hL : L ≤ 1536) {x : Xst} {μ : Mst} (hr : REL x μ) {H : Heap} {locs : List Loc} {ls : Array Slot} (hP : va_P (gD Γ) vwCl (xW Γ a x ++ modW Γ a2 0 μ) H) (hD : va_D A (xW Γ a x ++ modW Γ a2 0 μ)) (hS : va_S A s.heap H locs) (hl : lv_has ls 4 [(0, .ref b), (1, .ref (a 0)), (2, .ref (a2 0)), (3, .int (nI i))])
    (kk : ∀ (x1 : Xst) (μ1 : Mst) (H1 : Heap) (locs1 : List Loc) (ls1 : Array Slot), REL x1 μ1 → va_P (gD Γ) vwCl (xW Γ a x1 ++ modW Γ a2 0 μ1) H1 → va_D A (xW Γ a x1 ++ modW Γ a2 0 μ1) → va_S A s.heap H1 locs1 → lv_has ls1 4 [(0, .ref b), (1, .ref (a 0)), (2, .ref (a2 0)), (3, .int (nI i))] → W p l e room_1 s m #[.ref b] below meth c H1 locs1 600000 7302249 Q (F0 m 854 ls1 [])) : W p l e room_1 s m #[.ref b] below meth c H locs 600000 7302249 Q (F0 m 831 ls []) := by
  obtain ⟨hx, hb, hml, hown, hts⟩ := id hh.1
  obtain ⟨f_c, f_u, f_l0, ⟨L0, f_L, f_L2⟩, f_len, f_nm, ⟨N0, f_N, f_N7, f_N2⟩, f_ok, f_w, f_s, f_k, f_B, f_B1, f_B2, J0, f_J, f_J6, f_J7⟩ := REL_facts hr
  have h_1 : vp_in (nI i + 1) L := by rw [nI_1]; exact vp_in_nI (by omega) (by omega)
  have h_2 : vp_in (nI i + 2) L := by rw [show nI i + 2 = nI (i + 2) from nI_add i 2]; exact vp_in_nI (by omega) (by omega)
  refine lv_aload_n hx hb dL_law_831 rfl (lv_at hl 1 rfl) ?_
  refine lv_aload_n hx hb dL_law_832 rfl (lv_at hl 0 rfl) ?_
  refine lv_iload_n hx hb dL_law_833 rfl (lv_at hl 3 rfl) ?_
  refine lv_iconst (v := 1) hx hb dL_law_834 (by decide) ?_
  refine lv_iadd hx hb dL_law_835 ?_
  refine va_sld hx hb hX hbl hbA hS h_1 dL_law_836 ?_
  refine la_i (pre := []) (w := xW Γ a x) (w1 := xW Γ a (gIdeal x (xs (nI i + 1).toNatClampNeg))) (post := modW Γ a2 0 μ) hh hl.1 (c_X6_idealDifference Γ l a x (xs (nI i + 1).toNatClampNeg) J0 f_J6 f_J) (cwV 1 hts gL_law_X6_idealDifference rfl rfl rfl (by decide +kernel) ⟨(Nat.le_of_ble_eq_true rfl), (Nat.le_of_ble_eq_true rfl)⟩) (As := [.int (xs (nI i + 1).toNatClampNeg)]) (rest := []) rfl dL_law_837 rfl (Nat.le_of_ble_eq_true rfl) hP hD hS (q0 := 0) (ci := 6) (x_at Γ a x _) rfl rfl (xW_len2 Γ a _ _) (xW_addr _ _ _ _) ⟨(Nat.le_of_ble_eq_true rfl), (Nat.le_of_ble_eq_true rfl)⟩ (fun H locs hP hD hS => ?_)
  refine lv_aload_n hx hb dL_law_840 rfl (lv_at hl 2 rfl) ?_
  refine lv_aload_n hx hb dL_law_841 rfl (lv_at hl 0 rfl) ?_
  refine lv_iload_n hx hb dL_law_842 rfl (lv_at hl 3 rfl) ?_
  refine lv_iconst (v := 1) hx hb dL_law_843 (by decide) ?_
  refine lv_iadd hx hb dL_law_844 ?_
  refine va_sld hx hb hX hbl hbA hS h_1 dL_law_845 ?_
  refine la_im (pre := xW Γ a (gIdeal x (xs (nI i + 1).toNatClampNeg))) (w := modW Γ a2 0 μ) (w1 := modW Γ a2 0 (hIdeal μ (xs (nI i + 1).toNatClampNeg))) hh hl.1 (c_X7_idealDifference Γ l a2 0 μ (xs (nI i + 1).toNatClampNeg) J0 f_ok f_J7 f_J) (cwV 1 hts gL_law_X7_idealDifference rfl rfl rfl (by decide +kernel) ⟨(Nat.le_of_ble_eq_true rfl), (Nat.le_of_ble_eq_true rfl)⟩) (As := [.int (xs (nI i + 1).toNatClampNeg)]) (rest := [.int (rIdeal x (xs (nI i + 1).toNatClampNeg))]) rfl dL_law_846 rfl (Nat.le_of_ble_eq_true rfl) hP hD hS (q0 := 64) (ci := 7) (m_at Γ a a2 _ μ) rfl rfl (modW_len2 Γ a2 _ _) (modW_addr2 Γ a2 _ _) ⟨(Nat.le_of_ble_eq_true rfl), (Nat.le_of_ble_eq_true rfl)⟩ (fun H locs hP hD hS => ?_)
  refine lv_icmp_eq (tgt := 854) hx hb dL_law_849 (by decide) (fun c_ => ?_) (fun c_ => ?_)
  · exact kk _ _ _ _ _ ((s_ideal hr (xs (nI i + 1).toNatClampNeg)).2) hP hD hS hl
  · exact absurd ((s_ideal hr (xs (nI i + 1).toNatClampNeg)).1) c_
