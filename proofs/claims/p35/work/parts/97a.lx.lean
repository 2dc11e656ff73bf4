def rm_L_isExact : Room := { frames := 7, cells := 64, slots := 3699, locals := 181 }
theorem iL_isExact_6 : ∀ w ∈ u_ws RX6 TX6 11, w ∈ wsL_isExact := fun w h => (List.mem_cons_of_mem _ (List.mem_append_left _ (List.mem_append_left _ (List.mem_append_left _ (List.mem_append_left _ (List.mem_append_left _ (List.mem_append_left _ (List.mem_append_right _ h))))))))
set_option maxHeartbeats 4000000 in
set_option maxRecDepth 100000 in
theorem c_L_isExact (Γ : gT) (l : Launch) (C : Nat) (hC : C < 2147483648) : Cs Γ l yL_isExact wsL_isExact rm_L_isExact [.int (nI C)] 1 64 3699 := by
  refine Cs.of (cc := cL_isExact) (own := RL) (nL := 7) (ret := (some .boolean)) (by decide +kernel) rfl rfl (Nat.le_of_ble_eq_true rfl) ?_
  intro p e s m args below meth c A Q ls ha hAe hQ hx hb hml hr hts hown hlk hP hK hD hS hA hG hO hl
  obtain ⟨H, hHe⟩ : ∃ H : Heap, H = s.heap := ⟨_, rfl⟩
  rw [← hHe] at hP ⊢
  have hS : va_S A s.heap H [] := by rw [hHe]; exact hS
  have hh : Hd Γ p s m args c cL_isExact RL 7 wsL_isExact A := ⟨⟨hx, hb, hml, hown, hts⟩, hK, hA, hG⟩
  have hl : lv_has ls 7 [(0, .int (nI C))] := hl
  refine va_new (D := gD Γ) (cl := vwCl) (tys := gTy Γ) (ci := 6) (fs := [.null, .null, .null, .null, .null, .null, .int 0, .null, .null, .null, .null]) (C := RX6) (T := TX6) (N := 11) hx hb hts iL_isExact_6 tyX6 tyX6_ok hown (hts (.classLink RL 9 RX6) (List.mem_of_getElem? (i := 1) rfl)) (hts (.instantiable RX6 11) (List.mem_of_getElem? (i := 2) rfl)) (hts (.initialized RX6) (List.mem_of_getElem? (i := 3) rfl)) hK hP hD hS hA rfl (fun j hj => by rcases (show j = 0 ∨ j = 1 ∨ j = 2 ∨ j = 3 ∨ j = 4 ∨ j = 5 ∨ j = 6 ∨ j = 7 ∨ j = 8 ∨ j = 9 ∨ j = 10 by omega) with rfl | rfl | rfl | rfl | rfl | rfl | rfl | rfl | rfl | rfl | rfl <;> rfl) (Nat.le_of_ble_eq_true rfl) (Nat.le_of_ble_eq_true rfl) dL_isExact_0 (fun q0 H hP hD hS => ?_)
  refine lv_dup hx hb dL_isExact_3 rfl ?_
  refine ca_I (rest := [.ref q0]) (ws := []) hh hO hl.1 (c_X6_init Γ l q0) (cwI 0 hts gL_isExact_X6_init rfl rfl rfl (hts (.initialized RX6) (List.mem_of_getElem? (i := 3) rfl)) (hts (.methodLink RL 11 yX6_init) (List.mem_of_getElem? (i := 6) rfl)) (hts (.instanceMethod yX6_init) (List.mem_of_getElem? (i := 7) rfl)) rfl (by decide +kernel) ⟨(Nat.le_of_ble_eq_true rfl), (Nat.le_of_ble_eq_true rfl)⟩) dL_isExact_4 rfl (Nat.le_of_ble_eq_true rfl) hP hD hS ⟨(Nat.le_of_ble_eq_true rfl), (Nat.le_of_ble_eq_true rfl)⟩ (fun a H locs e4 hP9 hD9 hS => ?_)
  subst e4
  have hP : va_P (gD Γ) vwCl (xW Γ a x0) H := hP9
  have hD : va_D A (xW Γ a x0) := hD9
  refine lv_astore_n (lv' := [(1, .ref (a 0)), (0, .int (nI C))]) hx hb dL_isExact_7 rfl hl (by decide) rfl (fun ls hl => ?_)
  refine W.widen (k := 64) (n := 3699) (Nat.le_of_ble_eq_true rfl) (Nat.le_of_ble_eq_true rfl) ?_
  have y_0 := z_new
  have o_0 := pk_new
  refine lv_iload_n hx hb dL_isExact_8 rfl (lv_at hl 1 rfl) ?_
  refine lv_iconst (v := 2) hx hb dL_isExact_9 (by decide) ?_
  refine lv_ishr hx hb dL_isExact_10 ?_
  refine W.eq (g2 := F0 m 11 ls [.int (nI (C / 4))]) (by rw [show ((nI C) >>> (2 &&& 31)) = (nI (C / 4)) from pk_shrN (n := C) (by omega) _ 2 (by decide +kernel)]) ?_
  refine lv_sipush (v := 3000) hx hb dL_isExact_11 (by decide) ?_
  refine lv_irem hx hb dL_isExact_14 (by decide) ?_
  refine W.eq (g2 := F0 m 15 ls [.int (nI ((C / 4) % 3000))]) (by rw [show ((nI (C / 4)) - (nI (C / 4)) / 3000 * 3000) = (nI ((C / 4) % 3000)) from pk_rem (a := C / 4) (d := 3000) (by omega) (by decide) (by decide)]) ?_
  refine lv_sipush (v := 500) hx hb dL_isExact_15 (by decide) ?_
  refine lv_isub hx hb dL_isExact_18 ?_
  refine lv_istore_n (lv' := [(2, .int ((nI ((C / 4) % 3000)) - 500)), (1, .ref (a 0)), (0, .int (nI C))]) hx hb dL_isExact_19 rfl hl (by decide) rfl (fun ls hl => ?_)
  refine lv_iload_n hx hb dL_isExact_20 rfl (lv_at hl 2 rfl) ?_
  refine lv_iconst (v := 5) hx hb dL_isExact_21 (by decide) ?_
  refine lv_ishr hx hb dL_isExact_22 ?_
  refine W.eq (g2 := F0 m 23 ls [.int (nI (C / 32))]) (by rw [show ((nI C) >>> (5 &&& 31)) = (nI (C / 32)) from pk_shrN (n := C) (by omega) _ 5 (by decide +kernel)]) ?_
  refine lv_sipush (v := 1000) hx hb dL_isExact_23 (by decide) ?_
  refine lv_irem hx hb dL_isExact_26 (by decide) ?_
  refine W.eq (g2 := F0 m 27 ls [.int (nI ((C / 32) % 1000))]) (by rw [show ((nI (C / 32)) - (nI (C / 32)) / 1000 * 1000) = (nI ((C / 32) % 1000)) from pk_rem (a := C / 32) (d := 1000) (by omega) (by decide) (by decide)]) ?_
  refine lv_istore_n (lv' := [(3, .int (nI ((C / 32) % 1000))), (2, .int ((nI ((C / 4) % 3000)) - 500)), (1, .ref (a 0)), (0, .int (nI C))]) hx hb dL_isExact_27 rfl hl (by decide) rfl (fun ls hl => ?_)
  refine lv_iload_n hx hb dL_isExact_28 rfl (lv_at hl 3 rfl) ?_
  refine lv_bipush (v := 8) hx hb dL_isExact_29 (by decide) ?_
  refine lv_ishr hx hb dL_isExact_31 ?_
  refine W.eq (g2 := F0 m 32 ls [.int (nI (C / 256))]) (by rw [show ((nI C) >>> (8 &&& 31)) = (nI (C / 256)) from pk_shrN (n := C) (by omega) _ 8 (by decide +kernel)]) ?_
  refine lv_bipush (v := 31) hx hb dL_isExact_32 (by decide) ?_
  refine lv_irem hx hb dL_isExact_34 (by decide) ?_
  refine W.eq (g2 := F0 m 35 ls [.int (nI ((C / 256) % 31))]) (by rw [show ((nI (C / 256)) - (nI (C / 256)) / 31 * 31) = (nI ((C / 256) % 31)) from pk_rem (a := C / 256) (d := 31) (by omega) (by decide) (by decide)]) ?_
  refine lv_istore (lv' := [(4, .int (nI ((C / 256) % 31))), (3, .int (nI ((C / 32) % 1000))), (2, .int ((nI ((C / 4) % 3000)) - 500)), (1, .ref (a 0)), (0, .int (nI C))]) hx hb dL_isExact_35 hl (by decide) rfl (fun ls hl => ?_)
  refine lv_aload_n hx hb dL_isExact_37 rfl (lv_at hl 3 rfl) ?_
  refine lv_iconst (v := 0) hx hb dL_isExact_38 (by decide) ?_
  refine lv_iload_n hx hb dL_isExact_39 rfl (lv_at hl 4 rfl) ?_
  refine lv_iconst (v := 3) hx hb dL_isExact_40 (by decide) ?_
  refine lv_ishr hx hb dL_isExact_41 ?_
  refine W.eq (g2 := F0 m 42 ls [.int (nI (C / 8)), .int 0, .ref (a 0)]) (by rw [show ((nI C) >>> (3 &&& 31)) = (nI (C / 8)) from pk_shrN (n := C) (by omega) _ 3 (by decide +kernel)]) ?_
  refine lv_sipush (v := 3000) hx hb dL_isExact_42 (by decide) ?_
  refine lv_irem hx hb dL_isExact_45 (by decide) ?_
  refine W.eq (g2 := F0 m 46 ls [.int (nI ((C / 8) % 3000)), .int 0, .ref (a 0)]) (by rw [show ((nI (C / 8)) - (nI (C / 8)) / 3000 * 3000) = (nI ((C / 8) % 3000)) from pk_rem (a := C / 8) (d := 3000) (by omega) (by decide) (by decide)]) ?_
  obtain ⟨u_46, eu_46⟩ : ∃ z : Xst, z = gSetParameter x0 0 (nI ((C / 8) % 3000)) := ⟨_, rfl⟩
  have hM_46 : Ci Γ l yX6_setParameter wsX6_setParameter rm_X6_setParameter [.ref (a 0), .int 0, .int (nI ((C / 8) % 3000))] (xW Γ a x0) (rSetParameter x0 0 (nI ((C / 8) % 3000))) (xW Γ a u_46) := by rw [eu_46]; exact c_X6_setParameter Γ l a x0 0 (nI ((C / 8) % 3000)) y_0.ok
  refine ca_Via hh hl.1 hM_46 (cwV 2 hts gL_isExact_X6_setParameter rfl rfl rfl (by decide +kernel) ⟨(Nat.le_of_ble_eq_true rfl), (Nat.le_of_ble_eq_true rfl)⟩) (As := [.int 0, .int (nI ((C / 8) % 3000))]) (rest := []) rfl dL_isExact_46 rfl (Nat.le_of_ble_eq_true rfl) hP hD hS (q0 := 0) (ci := 6) rfl rfl rfl (wf := xW Γ a u_46) (xW_addr _ _ _ _) ⟨(Nat.le_of_ble_eq_true rfl), (Nat.le_of_ble_eq_true rfl)⟩ (fun H locs hP hD hS => ?_)
  have b_46 := bd_P 0 0 20000 (by decide +kernel) (by decide +kernel) (w := (nI ((C / 8) % 3000))) (nI_toInt (by omega)) (by omega) (by omega)
  obtain ⟨v_46, ev_46⟩ : ∃ z : Sett, z = upd sett0 0 (nI ((C / 8) % 3000)) := ⟨_, rfl⟩
  obtain ⟨s_46, y_46⟩ : rSetParameter x0 0 (nI ((C / 8) % 3000)) = sett0 0 ∧ ZS u_46 v_46 (nU 0) lop0 0 lop0 := by rw [eu_46, ev_46]; exact z_setP y_0 0 (by decide) b_46
  have a_46 : rSetParameter x0 0 (nI ((C / 8) % 3000)) = 1000 := s_46.trans (sv 0 (by decide) (by decide +kernel))
  refine lv_sipush (v := 1000) hx hb dL_isExact_49 (by decide) ?_
  refine lv_icmp_ne (tgt := 157) hx hb dL_isExact_52 (by decide) (fun c => absurd c (not_ne a_46)) (fun _ => ?_)
  refine lv_aload_n hx hb dL_isExact_55 rfl (lv_at hl 3 rfl) ?_
  refine lv_iconst (v := 1) hx hb dL_isExact_56 (by decide) ?_
  refine lv_iload_n hx hb dL_isExact_57 rfl (lv_at hl 4 rfl) ?_
  refine lv_bipush (v := 9) hx hb dL_isExact_58 (by decide) ?_
  refine lv_ishr hx hb dL_isExact_60 ?_
  refine W.eq (g2 := F0 m 61 ls [.int (nI (C / 512)), .int 1, .ref (a 0)]) (by rw [show ((nI C) >>> (9 &&& 31)) = (nI (C / 512)) from pk_shrN (n := C) (by omega) _ 9 (by decide +kernel)]) ?_
  refine lv_sipush (v := 800) hx hb dL_isExact_61 (by decide) ?_
  refine lv_irem hx hb dL_isExact_64 (by decide) ?_
  refine W.eq (g2 := F0 m 65 ls [.int (nI ((C / 512) % 800)), .int 1, .ref (a 0)]) (by rw [show ((nI (C / 512)) - (nI (C / 512)) / 800 * 800) = (nI ((C / 512) % 800)) from pk_rem (a := C / 512) (d := 800) (by omega) (by decide) (by decide)]) ?_
  obtain ⟨u_65, eu_65⟩ : ∃ z : Xst, z = gSetParameter u_46 1 (nI ((C / 512) % 800)) := ⟨_, rfl⟩
  have hM_65 : Ci Γ l yX6_setParameter wsX6_setParameter rm_X6_setParameter [.ref (a 0), .int 1, .int (nI ((C / 512) % 800))] (xW Γ a u_46) (rSetParameter u_46 1 (nI ((C / 512) % 800))) (xW Γ a u_65) := by rw [eu_65]; exact c_X6_setParameter Γ l a u_46 1 (nI ((C / 512) % 800)) y_46.ok
  refine ca_Via hh hl.1 hM_65 (cwV 2 hts gL_isExact_X6_setParameter rfl rfl rfl (by decide +kernel) ⟨(Nat.le_of_ble_eq_true rfl), (Nat.le_of_ble_eq_true rfl)⟩) (As := [.int 1, .int (nI ((C / 512) % 800))]) (rest := []) rfl dL_isExact_65 rfl (Nat.le_of_ble_eq_true rfl) hP hD hS (q0 := 0) (ci := 6) rfl rfl rfl (wf := xW Γ a u_65) (xW_addr _ _ _ _) ⟨(Nat.le_of_ble_eq_true rfl), (Nat.le_of_ble_eq_true rfl)⟩ (fun H locs hP hD hS => ?_)
  have b_65 := bd_P 1 0 20000 (by decide +kernel) (by decide +kernel) (w := (nI ((C / 512) % 800))) (nI_toInt (by omega)) (by omega) (by omega)
  obtain ⟨v_65, ev_65⟩ : ∃ z : Sett, z = upd v_46 1 (nI ((C / 512) % 800)) := ⟨_, rfl⟩
  obtain ⟨s_65, y_65⟩ : rSetParameter u_46 1 (nI ((C / 512) % 800)) = v_46 1 ∧ ZS u_65 v_65 (nU (nU 0)) lop0 0 lop0 := by rw [eu_65, ev_65]; exact z_setP y_46 1 (by decide) b_65
  have a_65 : rSetParameter u_46 1 (nI ((C / 512) % 800)) = 100 := s_65.trans (by rw [ev_46, pk_un (by decide)]; exact sv 1 (by decide) (by decide +kernel))
  refine lv_bipush (v := 100) hx hb dL_isExact_68 (by decide) ?_
  refine lv_icmp_ne (tgt := 157) hx hb dL_isExact_70 (by decide) (fun c => absurd c (not_ne a_65)) (fun _ => ?_)
  refine lv_aload_n hx hb dL_isExact_73 rfl (lv_at hl 3 rfl) ?_
  refine lv_iconst (v := 2) hx hb dL_isExact_74 (by decide) ?_
  refine lv_iload_n hx hb dL_isExact_75 rfl (lv_at hl 2 rfl) ?_
  obtain ⟨u_76, eu_76⟩ : ∃ z : Xst, z = gSetParameter u_65 2 ((nI ((C / 4) % 3000)) - 500) := ⟨_, rfl⟩
  have hM_76 : Ci Γ l yX6_setParameter wsX6_setParameter rm_X6_setParameter [.ref (a 0), .int 2, .int ((nI ((C / 4) % 3000)) - 500)] (xW Γ a u_65) (rSetParameter u_65 2 ((nI ((C / 4) % 3000)) - 500)) (xW Γ a u_76) := by rw [eu_76]; exact c_X6_setParameter Γ l a u_65 2 ((nI ((C / 4) % 3000)) - 500) y_65.ok
  refine ca_Via hh hl.1 hM_76 (cwV 2 hts gL_isExact_X6_setParameter rfl rfl rfl (by decide +kernel) ⟨(Nat.le_of_ble_eq_true rfl), (Nat.le_of_ble_eq_true rfl)⟩) (As := [.int 2, .int ((nI ((C / 4) % 3000)) - 500)]) (rest := []) rfl dL_isExact_76 rfl (Nat.le_of_ble_eq_true rfl) hP hD hS (q0 := 0) (ci := 6) rfl rfl rfl (wf := xW Γ a u_76) (xW_addr _ _ _ _) ⟨(Nat.le_of_ble_eq_true rfl), (Nat.le_of_ble_eq_true rfl)⟩ (fun H locs hP hD hS => ?_)
  have b_76 := bd_P 2 (-5000) 5000 (by decide +kernel) (by decide +kernel) (w := ((nI ((C / 4) % 3000)) - 500)) (pk_sub_toInt (a := (C / 4) % 3000) (b := 500) (by omega) (by omega)) (by omega) (by omega)
  obtain ⟨v_76, ev_76⟩ : ∃ z : Sett, z = upd v_65 2 ((nI ((C / 4) % 3000)) - 500) := ⟨_, rfl⟩
  obtain ⟨s_76, y_76⟩ : rSetParameter u_65 2 ((nI ((C / 4) % 3000)) - 500) = v_65 2 ∧ ZS u_76 v_76 (nU (nU (nU 0))) lop0 0 lop0 := by rw [eu_76, ev_76]; exact z_setP y_65 2 (by decide) b_76
  have a_76 : rSetParameter u_65 2 ((nI ((C / 4) % 3000)) - 500) = 1000 := s_76.trans (by rw [ev_65, pk_un (by decide), ev_46, pk_un (by decide)]; exact sv 2 (by decide) (by decide +kernel))
  refine lv_sipush (v := 1000) hx hb dL_isExact_79 (by decide) ?_
  refine lv_icmp_ne (tgt := 157) hx hb dL_isExact_82 (by decide) (fun c => absurd c (not_ne a_76)) (fun _ => ?_)
  refine lv_aload_n hx hb dL_isExact_85 rfl (lv_at hl 3 rfl) ?_
  refine lv_iconst (v := 5) hx hb dL_isExact_86 (by decide) ?_
  refine lv_iload_n hx hb dL_isExact_87 rfl (lv_at hl 2 rfl) ?_
  obtain ⟨u_88, eu_88⟩ : ∃ z : Xst, z = gSetParameter u_76 5 ((nI ((C / 4) % 3000)) - 500) := ⟨_, rfl⟩
  have hM_88 : Ci Γ l yX6_setParameter wsX6_setParameter rm_X6_setParameter [.ref (a 0), .int 5, .int ((nI ((C / 4) % 3000)) - 500)] (xW Γ a u_76) (rSetParameter u_76 5 ((nI ((C / 4) % 3000)) - 500)) (xW Γ a u_88) := by rw [eu_88]; exact c_X6_setParameter Γ l a u_76 5 ((nI ((C / 4) % 3000)) - 500) y_76.ok
  refine ca_Via hh hl.1 hM_88 (cwV 2 hts gL_isExact_X6_setParameter rfl rfl rfl (by decide +kernel) ⟨(Nat.le_of_ble_eq_true rfl), (Nat.le_of_ble_eq_true rfl)⟩) (As := [.int 5, .int ((nI ((C / 4) % 3000)) - 500)]) (rest := []) rfl dL_isExact_88 rfl (Nat.le_of_ble_eq_true rfl) hP hD hS (q0 := 0) (ci := 6) rfl rfl rfl (wf := xW Γ a u_88) (xW_addr _ _ _ _) ⟨(Nat.le_of_ble_eq_true rfl), (Nat.le_of_ble_eq_true rfl)⟩ (fun H locs hP hD hS => ?_)
  have b_88 := bd_P 5 (-5000) 5000 (by decide +kernel) (by decide +kernel) (w := ((nI ((C / 4) % 3000)) - 500)) (pk_sub_toInt (a := (C / 4) % 3000) (b := 500) (by omega) (by omega)) (by omega) (by omega)
  obtain ⟨v_88, ev_88⟩ : ∃ z : Sett, z = upd v_76 5 ((nI ((C / 4) % 3000)) - 500) := ⟨_, rfl⟩
  obtain ⟨s_88, y_88⟩ : rSetParameter u_76 5 ((nI ((C / 4) % 3000)) - 500) = v_76 5 ∧ ZS u_88 v_88 (nU (nU (nU (nU 0)))) lop0 0 lop0 := by rw [eu_88, ev_88]; exact z_setP y_76 5 (by decide) b_88
  have a_88 : rSetParameter u_76 5 ((nI ((C / 4) % 3000)) - 500) = 1000 := s_88.trans (by rw [ev_76, pk_un (by decide), ev_65, pk_un (by decide), ev_46, pk_un (by decide)]; exact sv 5 (by decide) (by decide +kernel))
  refine lv_sipush (v := 1000) hx hb dL_isExact_91 (by decide) ?_
  refine lv_icmp_ne (tgt := 157) hx hb dL_isExact_94 (by decide) (fun c => absurd c (not_ne a_88)) (fun _ => ?_)
  refine lv_aload_n hx hb dL_isExact_97 rfl (lv_at hl 3 rfl) ?_
  refine lv_iconst (v := 3) hx hb dL_isExact_98 (by decide) ?_
  refine lv_iload_n hx hb dL_isExact_99 rfl (lv_at hl 1 rfl) ?_
  obtain ⟨u_100, eu_100⟩ : ∃ z : Xst, z = gSetParameter u_88 3 (nI ((C / 32) % 1000)) := ⟨_, rfl⟩
  have hM_100 : Ci Γ l yX6_setParameter wsX6_setParameter rm_X6_setParameter [.ref (a 0), .int 3, .int (nI ((C / 32) % 1000))] (xW Γ a u_88) (rSetParameter u_88 3 (nI ((C / 32) % 1000))) (xW Γ a u_100) := by rw [eu_100]; exact c_X6_setParameter Γ l a u_88 3 (nI ((C / 32) % 1000)) y_88.ok
  refine ca_Via hh hl.1 hM_100 (cwV 2 hts gL_isExact_X6_setParameter rfl rfl rfl (by decide +kernel) ⟨(Nat.le_of_ble_eq_true rfl), (Nat.le_of_ble_eq_true rfl)⟩) (As := [.int 3, .int (nI ((C / 32) % 1000))]) (rest := []) rfl dL_isExact_100 rfl (Nat.le_of_ble_eq_true rfl) hP hD hS (q0 := 0) (ci := 6) rfl rfl rfl (wf := xW Γ a u_100) (xW_addr _ _ _ _) ⟨(Nat.le_of_ble_eq_true rfl), (Nat.le_of_ble_eq_true rfl)⟩ (fun H locs hP hD hS => ?_)
  have b_100 := bd_P 3 0 999 (by decide +kernel) (by decide +kernel) (w := (nI ((C / 32) % 1000))) (nI_toInt (by omega)) (by omega) (by omega)
  obtain ⟨v_100, ev_100⟩ : ∃ z : Sett, z = upd v_88 3 (nI ((C / 32) % 1000)) := ⟨_, rfl⟩
  obtain ⟨s_100, y_100⟩ : rSetParameter u_88 3 (nI ((C / 32) % 1000)) = v_88 3 ∧ ZS u_100 v_100 (nU (nU (nU (nU (nU 0))))) lop0 0 lop0 := by rw [eu_100, ev_100]; exact z_setP y_88 3 (by decide) b_100
  have a_100 : rSetParameter u_88 3 (nI ((C / 32) % 1000)) = 800 := s_100.trans (by rw [ev_88, pk_un (by decide), ev_76, pk_un (by decide), ev_65, pk_un (by decide), ev_46, pk_un (by decide)]; exact sv 3 (by decide) (by decide +kernel))
  refine lv_sipush (v := 800) hx hb dL_isExact_103 (by decide) ?_
  refine lv_icmp_ne (tgt := 157) hx hb dL_isExact_106 (by decide) (fun c => absurd c (not_ne a_100)) (fun _ => ?_)
  refine lv_aload_n hx hb dL_isExact_109 rfl (lv_at hl 3 rfl) ?_
  refine lv_bipush (v := 6) hx hb dL_isExact_110 (by decide) ?_
  refine lv_iload_n hx hb dL_isExact_112 rfl (lv_at hl 1 rfl) ?_
  obtain ⟨u_113, eu_113⟩ : ∃ z : Xst, z = gSetParameter u_100 6 (nI ((C / 32) % 1000)) := ⟨_, rfl⟩
  have hM_113 : Ci Γ l yX6_setParameter wsX6_setParameter rm_X6_setParameter [.ref (a 0), .int 6, .int (nI ((C / 32) % 1000))] (xW Γ a u_100) (rSetParameter u_100 6 (nI ((C / 32) % 1000))) (xW Γ a u_113) := by rw [eu_113]; exact c_X6_setParameter Γ l a u_100 6 (nI ((C / 32) % 1000)) y_100.ok
  refine ca_Via hh hl.1 hM_113 (cwV 2 hts gL_isExact_X6_setParameter rfl rfl rfl (by decide +kernel) ⟨(Nat.le_of_ble_eq_true rfl), (Nat.le_of_ble_eq_true rfl)⟩) (As := [.int 6, .int (nI ((C / 32) % 1000))]) (rest := []) rfl dL_isExact_113 rfl (Nat.le_of_ble_eq_true rfl) hP hD hS (q0 := 0) (ci := 6) rfl rfl rfl (wf := xW Γ a u_113) (xW_addr _ _ _ _) ⟨(Nat.le_of_ble_eq_true rfl), (Nat.le_of_ble_eq_true rfl)⟩ (fun H locs hP hD hS => ?_)
  have b_113 := bd_P 6 0 999 (by decide +kernel) (by decide +kernel) (w := (nI ((C / 32) % 1000))) (nI_toInt (by omega)) (by omega) (by omega)
  obtain ⟨v_113, ev_113⟩ : ∃ z : Sett, z = upd v_100 6 (nI ((C / 32) % 1000)) := ⟨_, rfl⟩
  obtain ⟨s_113, y_113⟩ : rSetParameter u_100 6 (nI ((C / 32) % 1000)) = v_100 6 ∧ ZS u_113 v_113 (nU (nU (nU (nU (nU (nU 0)))))) lop0 0 lop0 := by rw [eu_113, ev_113]; exact z_setP y_100 6 (by decide) b_113
  have a_113 : rSetParameter u_100 6 (nI ((C / 32) % 1000)) = 800 := s_113.trans (by rw [ev_100, pk_un (by decide), ev_88, pk_un (by decide), ev_76, pk_un (by decide), ev_65, pk_un (by decide), ev_46, pk_un (by decide)]; exact sv 6 (by decide) (by decide +kernel))
  refine lv_sipush (v := 800) hx hb dL_isExact_116 (by decide) ?_
  refine lv_icmp_ne (tgt := 157) hx hb dL_isExact_119 (by decide) (fun c => absurd c (not_ne a_113)) (fun _ => ?_)
  refine lv_aload_n hx hb dL_isExact_122 rfl (lv_at hl 3 rfl) ?_
  refine lv_iconst (v := 4) hx hb dL_isExact_123 (by decide) ?_
  refine lv_bipush (v := 10) hx hb dL_isExact_124 (by decide) ?_
  refine lv_iload hx hb dL_isExact_126 (lv_at hl 0 rfl) ?_
  refine lv_imul hx hb dL_isExact_128 ?_
  refine W.eq (g2 := F0 m 129 ls [.int (nI (10 * ((C / 256) % 31))), .int 4, .ref (a 0)]) (by rw [show (10 * (nI ((C / 256) % 31))) = (nI (10 * ((C / 256) % 31))) from pk_mul 10 ((C / 256) % 31)]) ?_
  obtain ⟨u_129, eu_129⟩ : ∃ z : Xst, z = gSetParameter u_113 4 (nI (10 * ((C / 256) % 31))) := ⟨_, rfl⟩
  have hM_129 : Ci Γ l yX6_setParameter wsX6_setParameter rm_X6_setParameter [.ref (a 0), .int 4, .int (nI (10 * ((C / 256) % 31)))] (xW Γ a u_113) (rSetParameter u_113 4 (nI (10 * ((C / 256) % 31)))) (xW Γ a u_129) := by rw [eu_129]; exact c_X6_setParameter Γ l a u_113 4 (nI (10 * ((C / 256) % 31))) y_113.ok
  refine ca_Via hh hl.1 hM_129 (cwV 2 hts gL_isExact_X6_setParameter rfl rfl rfl (by decide +kernel) ⟨(Nat.le_of_ble_eq_true rfl), (Nat.le_of_ble_eq_true rfl)⟩) (As := [.int 4, .int (nI (10 * ((C / 256) % 31)))]) (rest := []) rfl dL_isExact_129 rfl (Nat.le_of_ble_eq_true rfl) hP hD hS (q0 := 0) (ci := 6) rfl rfl rfl (wf := xW Γ a u_129) (xW_addr _ _ _ _) ⟨(Nat.le_of_ble_eq_true rfl), (Nat.le_of_ble_eq_true rfl)⟩ (fun H locs hP hD hS => ?_)
  have b_129 := bd_P 4 0 300 (by decide +kernel) (by decide +kernel) (w := (nI (10 * ((C / 256) % 31)))) (nI_toInt (by omega)) (by omega) (by omega)
  obtain ⟨v_129, ev_129⟩ : ∃ z : Sett, z = upd v_113 4 (nI (10 * ((C / 256) % 31))) := ⟨_, rfl⟩
  obtain ⟨s_129, y_129⟩ : rSetParameter u_113 4 (nI (10 * ((C / 256) % 31))) = v_113 4 ∧ ZS u_129 v_129 (nU (nU (nU (nU (nU (nU (nU 0))))))) lop0 0 lop0 := by rw [eu_129, ev_129]; exact z_setP y_113 4 (by decide) b_129
  have a_129 : rSetParameter u_113 4 (nI (10 * ((C / 256) % 31))) = 50 := s_129.trans (by rw [ev_113, pk_un (by decide), ev_100, pk_un (by decide), ev_88, pk_un (by decide), ev_76, pk_un (by decide), ev_65, pk_un (by decide), ev_46, pk_un (by decide)]; exact sv 4 (by decide) (by decide +kernel))
  refine lv_bipush (v := 50) hx hb dL_isExact_132 (by decide) ?_
  refine lv_icmp_ne (tgt := 157) hx hb dL_isExact_134 (by decide) (fun c => absurd c (not_ne a_129)) (fun _ => ?_)
  refine lv_aload_n hx hb dL_isExact_137 rfl (lv_at hl 3 rfl) ?_
  refine lv_bipush (v := 7) hx hb dL_isExact_138 (by decide) ?_
  refine lv_bipush (v := 10) hx hb dL_isExact_140 (by decide) ?_
  refine lv_iload hx hb dL_isExact_142 (lv_at hl 0 rfl) ?_
  refine lv_imul hx hb dL_isExact_144 ?_
  refine W.eq (g2 := F0 m 145 ls [.int (nI (10 * ((C / 256) % 31))), .int 7, .ref (a 0)]) (by rw [show (10 * (nI ((C / 256) % 31))) = (nI (10 * ((C / 256) % 31))) from pk_mul 10 ((C / 256) % 31)]) ?_
  obtain ⟨u_145, eu_145⟩ : ∃ z : Xst, z = gSetParameter u_129 7 (nI (10 * ((C / 256) % 31))) := ⟨_, rfl⟩
  have hM_145 : Ci Γ l yX6_setParameter wsX6_setParameter rm_X6_setParameter [.ref (a 0), .int 7, .int (nI (10 * ((C / 256) % 31)))] (xW Γ a u_129) (rSetParameter u_129 7 (nI (10 * ((C / 256) % 31)))) (xW Γ a u_145) := by rw [eu_145]; exact c_X6_setParameter Γ l a u_129 7 (nI (10 * ((C / 256) % 31))) y_129.ok
  refine ca_Via hh hl.1 hM_145 (cwV 2 hts gL_isExact_X6_setParameter rfl rfl rfl (by decide +kernel) ⟨(Nat.le_of_ble_eq_true rfl), (Nat.le_of_ble_eq_true rfl)⟩) (As := [.int 7, .int (nI (10 * ((C / 256) % 31)))]) (rest := []) rfl dL_isExact_145 rfl (Nat.le_of_ble_eq_true rfl) hP hD hS (q0 := 0) (ci := 6) rfl rfl rfl (wf := xW Γ a u_145) (xW_addr _ _ _ _) ⟨(Nat.le_of_ble_eq_true rfl), (Nat.le_of_ble_eq_true rfl)⟩ (fun H locs hP hD hS => ?_)
  have b_145 := bd_P 7 0 300 (by decide +kernel) (by decide +kernel) (w := (nI (10 * ((C / 256) % 31)))) (nI_toInt (by omega)) (by omega) (by omega)
  obtain ⟨v_145, ev_145⟩ : ∃ z : Sett, z = upd v_129 7 (nI (10 * ((C / 256) % 31))) := ⟨_, rfl⟩
  obtain ⟨s_145, y_145⟩ : rSetParameter u_129 7 (nI (10 * ((C / 256) % 31))) = v_129 7 ∧ ZS u_145 v_145 (nU (nU (nU (nU (nU (nU (nU (nU 0)))))))) lop0 0 lop0 := by rw [eu_145, ev_145]; exact z_setP y_129 7 (by decide) b_145
  have a_145 : rSetParameter u_129 7 (nI (10 * ((C / 256) % 31))) = 50 := s_145.trans (by rw [ev_129, pk_un (by decide), ev_113, pk_un (by decide), ev_100, pk_un (by decide), ev_88, pk_un (by decide), ev_76, pk_un (by decide), ev_65, pk_un (by decide), ev_46, pk_un (by decide)]; exact sv 7 (by decide) (by decide +kernel))
  refine lv_bipush (v := 50) hx hb dL_isExact_148 (by decide) ?_
  refine lv_icmp_ne (tgt := 157) hx hb dL_isExact_150 (by decide) (fun c => absurd c (not_ne a_145)) (fun _ => ?_)
  refine lv_iconst (v := 1) hx hb dL_isExact_153 (by decide) ?_
  refine lv_goto (tgt := 158) hx hb dL_isExact_154 (by decide) ?_
  refine lv_istore (lv' := [(5, .int 1), (4, .int (nI ((C / 256) % 31))), (3, .int (nI ((C / 32) % 1000))), (2, .int ((nI ((C / 4) % 3000)) - 500)), (1, .ref (a 0)), (0, .int (nI C))]) hx hb dL_isExact_158 hl (by decide) rfl (fun ls hl => ?_)
  refine lv_iload hx hb dL_isExact_160 (lv_at hl 0 rfl) ?_
  refine lv_if_eq (tgt := 254) hx hb dL_isExact_162 (by decide) (fun c => absurd c (by decide)) (fun _ => ?_)
  refine lv_aload_n hx hb dL_isExact_165 rfl (lv_at hl 4 rfl) ?_
  refine lv_bipush (v := 8) hx hb dL_isExact_166 (by decide) ?_
  refine lv_iload_n hx hb dL_isExact_168 rfl (lv_at hl 5 rfl) ?_
  refine lv_iconst (v := 4) hx hb dL_isExact_169 (by decide) ?_
  refine lv_ishr hx hb dL_isExact_170 ?_
  refine W.eq (g2 := F0 m 171 ls [.int (nI (C / 16)), .int 8, .ref (a 0)]) (by rw [show ((nI C) >>> (4 &&& 31)) = (nI (C / 16)) from pk_shrN (n := C) (by omega) _ 4 (by decide +kernel)]) ?_
  refine lv_sipush (v := 1000) hx hb dL_isExact_171 (by decide) ?_
  refine lv_irem hx hb dL_isExact_174 (by decide) ?_
  refine W.eq (g2 := F0 m 175 ls [.int (nI ((C / 16) % 1000)), .int 8, .ref (a 0)]) (by rw [show ((nI (C / 16)) - (nI (C / 16)) / 1000 * 1000) = (nI ((C / 16) % 1000)) from pk_rem (a := C / 16) (d := 1000) (by omega) (by decide) (by decide)]) ?_
  obtain ⟨u_175, eu_175⟩ : ∃ z : Xst, z = gSetParameter u_145 8 (nI ((C / 16) % 1000)) := ⟨_, rfl⟩
  have hM_175 : Ci Γ l yX6_setParameter wsX6_setParameter rm_X6_setParameter [.ref (a 0), .int 8, .int (nI ((C / 16) % 1000))] (xW Γ a u_145) (rSetParameter u_145 8 (nI ((C / 16) % 1000))) (xW Γ a u_175) := by rw [eu_175]; exact c_X6_setParameter Γ l a u_145 8 (nI ((C / 16) % 1000)) y_145.ok
  refine ca_Via hh hl.1 hM_175 (cwV 2 hts gL_isExact_X6_setParameter rfl rfl rfl (by decide +kernel) ⟨(Nat.le_of_ble_eq_true rfl), (Nat.le_of_ble_eq_true rfl)⟩) (As := [.int 8, .int (nI ((C / 16) % 1000))]) (rest := []) rfl dL_isExact_175 rfl (Nat.le_of_ble_eq_true rfl) hP hD hS (q0 := 0) (ci := 6) rfl rfl rfl (wf := xW Γ a u_175) (xW_addr _ _ _ _) ⟨(Nat.le_of_ble_eq_true rfl), (Nat.le_of_ble_eq_true rfl)⟩ (fun H locs hP hD hS => ?_)
  have b_175 := bd_P 8 0 999 (by decide +kernel) (by decide +kernel) (w := (nI ((C / 16) % 1000))) (nI_toInt (by omega)) (by omega) (by omega)
  obtain ⟨v_175, ev_175⟩ : ∃ z : Sett, z = upd v_145 8 (nI ((C / 16) % 1000)) := ⟨_, rfl⟩
  obtain ⟨s_175, y_175⟩ : rSetParameter u_145 8 (nI ((C / 16) % 1000)) = v_145 8 ∧ ZS u_175 v_175 (nU (nU (nU (nU (nU (nU (nU (nU (nU 0))))))))) lop0 0 lop0 := by rw [eu_175, ev_175]; exact z_setP y_145 8 (by decide) b_175
  have a_175 : rSetParameter u_145 8 (nI ((C / 16) % 1000)) = 0 := s_175.trans (by rw [ev_145, pk_un (by decide), ev_129, pk_un (by decide), ev_113, pk_un (by decide), ev_100, pk_un (by decide), ev_88, pk_un (by decide), ev_76, pk_un (by decide), ev_65, pk_un (by decide), ev_46, pk_un (by decide)]; exact sv 8 (by decide) (by decide +kernel))
  refine lv_if_ne (tgt := 254) hx hb dL_isExact_178 (by decide) (fun c => absurd c (not_ne a_175)) (fun _ => ?_)
  refine lv_aload_n hx hb dL_isExact_181 rfl (lv_at hl 4 rfl) ?_
  refine lv_bipush (v := 11) hx hb dL_isExact_182 (by decide) ?_
  refine lv_iconst (v := 1) hx hb dL_isExact_184 (by decide) ?_
  refine lv_iload_n hx hb dL_isExact_185 rfl (lv_at hl 5 rfl) ?_
  refine lv_bipush (v := 7) hx hb dL_isExact_186 (by decide) ?_
  refine lv_ishr hx hb dL_isExact_188 ?_
  refine W.eq (g2 := F0 m 189 ls [.int (nI (C / 128)), .int 1, .int 11, .ref (a 0)]) (by rw [show ((nI C) >>> (7 &&& 31)) = (nI (C / 128)) from pk_shrN (n := C) (by omega) _ 7 (by decide +kernel)]) ?_
  refine lv_sipush (v := 5000) hx hb dL_isExact_189 (by decide) ?_
  refine lv_irem hx hb dL_isExact_192 (by decide) ?_
  refine W.eq (g2 := F0 m 193 ls [.int (nI ((C / 128) % 5000)), .int 1, .int 11, .ref (a 0)]) (by rw [show ((nI (C / 128)) - (nI (C / 128)) / 5000 * 5000) = (nI ((C / 128) % 5000)) from pk_rem (a := C / 128) (d := 5000) (by omega) (by decide) (by decide)]) ?_
  refine lv_iadd hx hb dL_isExact_193 ?_
  refine W.eq (g2 := F0 m 194 ls [.int (nI (1 + ((C / 128) % 5000))), .int 11, .ref (a 0)]) (by rw [show (1 + (nI ((C / 128) % 5000))) = (nI (1 + ((C / 128) % 5000))) from nI_add 1 ((C / 128) % 5000)]) ?_
  obtain ⟨u_194, eu_194⟩ : ∃ z : Xst, z = gSetParameter u_175 11 (nI (1 + ((C / 128) % 5000))) := ⟨_, rfl⟩
  have hM_194 : Ci Γ l yX6_setParameter wsX6_setParameter rm_X6_setParameter [.ref (a 0), .int 11, .int (nI (1 + ((C / 128) % 5000)))] (xW Γ a u_175) (rSetParameter u_175 11 (nI (1 + ((C / 128) % 5000)))) (xW Γ a u_194) := by rw [eu_194]; exact c_X6_setParameter Γ l a u_175 11 (nI (1 + ((C / 128) % 5000))) y_175.ok
  refine ca_Via hh hl.1 hM_194 (cwV 2 hts gL_isExact_X6_setParameter rfl rfl rfl (by decide +kernel) ⟨(Nat.le_of_ble_eq_true rfl), (Nat.le_of_ble_eq_true rfl)⟩) (As := [.int 11, .int (nI (1 + ((C / 128) % 5000)))]) (rest := []) rfl dL_isExact_194 rfl (Nat.le_of_ble_eq_true rfl) hP hD hS (q0 := 0) (ci := 6) rfl rfl rfl (wf := xW Γ a u_194) (xW_addr _ _ _ _) ⟨(Nat.le_of_ble_eq_true rfl), (Nat.le_of_ble_eq_true rfl)⟩ (fun H locs hP hD hS => ?_)
  have b_194 := bd_P 11 1 200000 (by decide +kernel) (by decide +kernel) (w := (nI (1 + ((C / 128) % 5000)))) (nI_toInt (by omega)) (by omega) (by omega)
  obtain ⟨v_194, ev_194⟩ : ∃ z : Sett, z = upd v_175 11 (nI (1 + ((C / 128) % 5000))) := ⟨_, rfl⟩
  obtain ⟨s_194, y_194⟩ : rSetParameter u_175 11 (nI (1 + ((C / 128) % 5000))) = v_175 11 ∧ ZS u_194 v_194 (nU (nU (nU (nU (nU (nU (nU (nU (nU (nU 0)))))))))) lop0 0 lop0 := by rw [eu_194, ev_194]; exact z_setP y_175 11 (by decide) b_194
  have a_194 : rSetParameter u_175 11 (nI (1 + ((C / 128) % 5000))) = 200000 := s_194.trans (by rw [ev_175, pk_un (by decide), ev_145, pk_un (by decide), ev_129, pk_un (by decide), ev_113, pk_un (by decide), ev_100, pk_un (by decide), ev_88, pk_un (by decide), ev_76, pk_un (by decide), ev_65, pk_un (by decide), ev_46, pk_un (by decide)]; exact sv 11 (by decide) (by decide +kernel))
  refine lv_ldc hx hb hown (hts (.constant RL 16 (200000)) (List.mem_of_getElem? (i := 4) rfl)) dL_isExact_197 ?_
  refine lv_icmp_ne (tgt := 254) hx hb dL_isExact_199 (by decide) (fun c => absurd c (not_ne a_194)) (fun _ => ?_)
  refine lv_aload_n hx hb dL_isExact_202 rfl (lv_at hl 4 rfl) ?_
  refine lv_bipush (v := 12) hx hb dL_isExact_203 (by decide) ?_
  refine lv_iload_n hx hb dL_isExact_205 rfl (lv_at hl 5 rfl) ?_
  refine lv_bipush (v := 50) hx hb dL_isExact_206 (by decide) ?_
  refine lv_irem hx hb dL_isExact_208 (by decide) ?_
  refine W.eq (g2 := F0 m 209 ls [.int (nI (C % 50)), .int 12, .ref (a 0)]) (by rw [show ((nI C) - (nI C) / 50 * 50) = (nI (C % 50)) from pk_rem (a := C) (d := 50) (by omega) (by decide) (by decide)]) ?_
  obtain ⟨u_209, eu_209⟩ : ∃ z : Xst, z = gSetParameter u_194 12 (nI (C % 50)) := ⟨_, rfl⟩
  have hM_209 : Ci Γ l yX6_setParameter wsX6_setParameter rm_X6_setParameter [.ref (a 0), .int 12, .int (nI (C % 50))] (xW Γ a u_194) (rSetParameter u_194 12 (nI (C % 50))) (xW Γ a u_209) := by rw [eu_209]; exact c_X6_setParameter Γ l a u_194 12 (nI (C % 50)) y_194.ok
  refine ca_Via hh hl.1 hM_209 (cwV 2 hts gL_isExact_X6_setParameter rfl rfl rfl (by decide +kernel) ⟨(Nat.le_of_ble_eq_true rfl), (Nat.le_of_ble_eq_true rfl)⟩) (As := [.int 12, .int (nI (C % 50))]) (rest := []) rfl dL_isExact_209 rfl (Nat.le_of_ble_eq_true rfl) hP hD hS (q0 := 0) (ci := 6) rfl rfl rfl (wf := xW Γ a u_209) (xW_addr _ _ _ _) ⟨(Nat.le_of_ble_eq_true rfl), (Nat.le_of_ble_eq_true rfl)⟩ (fun H locs hP hD hS => ?_)
  have b_209 := bd_P 12 0 100000 (by decide +kernel) (by decide +kernel) (w := (nI (C % 50))) (nI_toInt (by omega)) (by omega) (by omega)
  obtain ⟨v_209, ev_209⟩ : ∃ z : Sett, z = upd v_194 12 (nI (C % 50)) := ⟨_, rfl⟩
  obtain ⟨s_209, y_209⟩ : rSetParameter u_194 12 (nI (C % 50)) = v_194 12 ∧ ZS u_209 v_209 (nU (nU (nU (nU (nU (nU (nU (nU (nU (nU (nU 0))))))))))) lop0 0 lop0 := by rw [eu_209, ev_209]; exact z_setP y_194 12 (by decide) b_209
  have a_209 : rSetParameter u_194 12 (nI (C % 50)) = 5000 := s_209.trans (by rw [ev_194, pk_un (by decide), ev_175, pk_un (by decide), ev_145, pk_un (by decide), ev_129, pk_un (by decide), ev_113, pk_un (by decide), ev_100, pk_un (by decide), ev_88, pk_un (by decide), ev_76, pk_un (by decide), ev_65, pk_un (by decide), ev_46, pk_un (by decide)]; exact sv 12 (by decide) (by decide +kernel))
  refine lv_sipush (v := 5000) hx hb dL_isExact_212 (by decide) ?_
  refine lv_icmp_ne (tgt := 254) hx hb dL_isExact_215 (by decide) (fun c => absurd c (not_ne a_209)) (fun _ => ?_)
  refine lv_aload_n hx hb dL_isExact_218 rfl (lv_at hl 4 rfl) ?_
  refine lv_iload_n hx hb dL_isExact_219 rfl (lv_at hl 5 rfl) ?_
  refine lv_bipush (v := 6) hx hb dL_isExact_220 (by decide) ?_
  refine lv_ishr hx hb dL_isExact_222 ?_
  refine W.eq (g2 := F0 m 223 ls [.int (nI (C / 64)), .ref (a 0)]) (by rw [show ((nI C) >>> (6 &&& 31)) = (nI (C / 64)) from pk_shrN (n := C) (by omega) _ 6 (by decide +kernel)]) ?_
  refine lv_sipush (v := 30000) hx hb dL_isExact_223 (by decide) ?_
  refine lv_irem hx hb dL_isExact_226 (by decide) ?_
  refine W.eq (g2 := F0 m 227 ls [.int (nI ((C / 64) % 30000)), .ref (a 0)]) (by rw [show ((nI (C / 64)) - (nI (C / 64)) / 30000 * 30000) = (nI ((C / 64) % 30000)) from pk_rem (a := C / 64) (d := 30000) (by omega) (by decide) (by decide)]) ?_
  refine lv_sipush (v := 15000) hx hb dL_isExact_227 (by decide) ?_
  refine lv_isub hx hb dL_isExact_230 ?_
  obtain ⟨u_231, eu_231⟩ : ∃ z : Xst, z = gSetSetpoint u_209 ((nI ((C / 64) % 30000)) - 15000) := ⟨_, rfl⟩
  have hM_231 : Ci Γ l yX6_setSetpoint wsX6_setSetpoint rm_X6_setSetpoint [.ref (a 0), .int ((nI ((C / 64) % 30000)) - 15000)] (xW Γ a u_209) (rSetSetpoint u_209 ((nI ((C / 64) % 30000)) - 15000)) (xW Γ a u_231) := by rw [eu_231]; exact c_X6_setSetpoint Γ l a u_209 ((nI ((C / 64) % 30000)) - 15000)
  refine ca_Via hh hl.1 hM_231 (cwV 1 hts gL_isExact_X6_setSetpoint rfl rfl rfl (by decide +kernel) ⟨(Nat.le_of_ble_eq_true rfl), (Nat.le_of_ble_eq_true rfl)⟩) (As := [.int ((nI ((C / 64) % 30000)) - 15000)]) (rest := []) rfl dL_isExact_231 rfl (Nat.le_of_ble_eq_true rfl) hP hD hS (q0 := 0) (ci := 6) rfl rfl rfl (wf := xW Γ a u_231) (xW_addr _ _ _ _) ⟨(Nat.le_of_ble_eq_true rfl), (Nat.le_of_ble_eq_true rfl)⟩ (fun H locs hP hD hS => ?_)
  obtain ⟨σ_231, eσ_231⟩ : ∃ z : Lop, z = fSetR lop0 ((nI ((C / 64) % 30000)) - 15000) := ⟨_, rfl⟩
  have b_231 : (((nI ((C / 64) % 30000)) - 15000) : Int32).toInt = _ := (pk_sub_toInt (a := (C / 64) % 30000) (b := 15000) (by omega) (by omega))
  obtain ⟨s_231, y_231⟩ : rSetSetpoint u_209 ((nI ((C / 64) % 30000)) - 15000) = lPres lop0 0 ∧ ZS u_231 v_209 (nU (nU (nU (nU (nU (nU (nU (nU (nU (nU (nU 0))))))))))) σ_231 0 lop0 := by rw [eu_231]; exact (eσ_231 ▸ z_sp y_209 (by rw [b_231]; omega) (by rw [b_231]; omega))
  have a_231 : rSetSetpoint u_209 ((nI ((C / 64) % 30000)) - 15000) = 0 := s_231
  refine lv_if_ne (tgt := 254) hx hb dL_isExact_234 (by decide) (fun c => absurd c (not_ne a_231)) (fun _ => ?_)
  have w5 : v_209 5 = ((nI (C / 4 % 3000)) - 500) := (by rw [ev_209, pk_un (by decide), ev_194, pk_un (by decide), ev_175, pk_un (by decide), ev_145, pk_un (by decide), ev_129, pk_un (by decide), ev_113, pk_un (by decide), ev_100, pk_un (by decide), ev_88, pk_us])
  have w2 : v_209 2 = ((nI (C / 4 % 3000)) - 500) := (by rw [ev_209, pk_un (by decide), ev_194, pk_un (by decide), ev_175, pk_un (by decide), ev_145, pk_un (by decide), ev_129, pk_un (by decide), ev_113, pk_un (by decide), ev_100, pk_un (by decide), ev_88, pk_un (by decide), ev_76, pk_us])
  have w6 : v_209 6 = (nI (C / 32 % 1000)) := (by rw [ev_209, pk_un (by decide), ev_194, pk_un (by decide), ev_175, pk_un (by decide), ev_145, pk_un (by decide), ev_129, pk_un (by decide), ev_113, pk_us])
  have w3 : v_209 3 = (nI (C / 32 % 1000)) := (by rw [ev_209, pk_un (by decide), ev_194, pk_un (by decide), ev_175, pk_un (by decide), ev_145, pk_un (by decide), ev_129, pk_un (by decide), ev_113, pk_un (by decide), ev_100, pk_us])
  have w4 : v_209 4 = (nI (10 * (C / 256 % 31))) := (by rw [ev_209, pk_un (by decide), ev_194, pk_un (by decide), ev_175, pk_un (by decide), ev_145, pk_un (by decide), ev_129, pk_us])
  have w7 : v_209 7 = (nI (10 * (C / 256 % 31))) := (by rw [ev_209, pk_un (by decide), ev_194, pk_un (by decide), ev_175, pk_un (by decide), ev_145, pk_us])
  have w14 : v_209 14 = 0 := (by rw [ev_209, pk_un (by decide), ev_194, pk_un (by decide), ev_175, pk_un (by decide), ev_145, pk_un (by decide), ev_129, pk_un (by decide), ev_113, pk_un (by decide), ev_100, pk_un (by decide), ev_88, pk_un (by decide), ev_76, pk_un (by decide), ev_65, pk_un (by decide), ev_46, pk_un (by decide)]; exact sv 14 (by decide) (by decide +kernel))
  have w12 : v_209 12 = nI (C % 50) := (by rw [ev_209, pk_us])
  have w13 : v_209 13 = 5 := (by rw [ev_209, pk_un (by decide), ev_194, pk_un (by decide), ev_175, pk_un (by decide), ev_145, pk_un (by decide), ev_129, pk_un (by decide), ev_113, pk_un (by decide), ev_100, pk_un (by decide), ev_88, pk_un (by decide), ev_76, pk_un (by decide), ev_65, pk_un (by decide), ev_46, pk_un (by decide)]; exact sv 13 (by decide) (by decide +kernel))
  have hEX : EX v_209 (C / 256 % 31) := ⟨w5.trans w2.symm, w6.trans w3.symm, w4, w7, by omega, w14, by rw [w12, nI_toInt (by omega)]; omega, by rw [w13]; decide⟩
  refine lv_aload_n hx hb dL_isExact_237 rfl (lv_at hl 4 rfl) ?_
  refine lv_iconst (v := 1) hx hb dL_isExact_238 (by decide) ?_
  refine lv_iload_n hx hb dL_isExact_239 rfl (lv_at hl 5 rfl) ?_
  refine lv_bipush (v := 60) hx hb dL_isExact_240 (by decide) ?_
  refine lv_irem hx hb dL_isExact_242 (by decide) ?_
  refine W.eq (g2 := F0 m 243 ls [.int (nI (C % 60)), .int 1, .ref (a 0)]) (by rw [show ((nI C) - (nI C) / 60 * 60) = (nI (C % 60)) from pk_rem (a := C) (d := 60) (by omega) (by decide) (by decide)]) ?_
  refine lv_iadd hx hb dL_isExact_243 ?_
  refine W.eq (g2 := F0 m 244 ls [.int (nI (1 + (C % 60))), .ref (a 0)]) (by rw [show (1 + (nI (C % 60))) = (nI (1 + (C % 60))) from nI_add 1 (C % 60)]) ?_
  obtain ⟨u_244, eu_244⟩ : ∃ z : Xst, z = gIdeal u_231 (nI (1 + (C % 60))) := ⟨_, rfl⟩
  have hM_244 : Ci Γ l yX6_idealDifference wsX6_idealDifference rm_X6_idealDifference [.ref (a 0), .int (nI (1 + (C % 60)))] (xW Γ a u_231) (rIdeal u_231 (nI (1 + (C % 60)))) (xW Γ a u_244) := by rw [eu_244]; exact c_X6_idealDifference Γ l a u_231 (nI (1 + (C % 60))) (C / 256 % 31) (by rw [y_231.1]; exact EX_dead hEX) hEX.2.2.2.2.1
  refine ca_Via hh hl.1 hM_244 (cwV 1 hts gL_isExact_X6_idealDifference rfl rfl rfl (by decide +kernel) ⟨(Nat.le_of_ble_eq_true rfl), (Nat.le_of_ble_eq_true rfl)⟩) (As := [.int (nI (1 + (C % 60)))]) (rest := []) rfl dL_isExact_244 rfl (Nat.le_of_ble_eq_true rfl) hP hD hS (q0 := 0) (ci := 6) rfl rfl rfl (wf := xW Γ a u_244) (xW_addr _ _ _ _) ⟨(Nat.le_of_ble_eq_true rfl), (Nat.le_of_ble_eq_true rfl)⟩ (fun H locs hP hD hS => ?_)
  obtain ⟨s_244, y_244⟩ : rIdeal u_231 (nI (1 + (C % 60))) = 0 ∧ ZS u_244 v_209 (nU (nU (nU (nU (nU (nU (nU (nU (nU (nU (nU 0))))))))))) σ_231 0 lop0 := by rw [eu_244]; exact z_ideal (T := 1 + (C % 60)) y_231 hEX (by omega) (by omega)
  refine lv_if_ne (tgt := 254) hx hb dL_isExact_247 (by decide) (fun c => absurd c (not_ne s_244)) (fun _ => ?_)
  refine lv_iconst (v := 1) hx hb dL_isExact_250 (by decide) ?_
  refine lv_goto (tgt := 255) hx hb dL_isExact_251 (by decide) ?_
  refine lv_istore (lv' := [(5, .int 1), (4, .int (nI ((C / 256) % 31))), (3, .int (nI ((C / 32) % 1000))), (2, .int ((nI ((C / 4) % 3000)) - 500)), (1, .ref (a 0)), (0, .int (nI C))]) hx hb dL_isExact_255 hl (by decide) rfl (fun ls hl => ?_)
  refine lv_iconst (v := 0) hx hb dL_isExact_257 (by decide) ?_
  refine lv_istore (lv' := [(6, .int 0), (5, .int 1), (4, .int (nI ((C / 256) % 31))), (3, .int (nI ((C / 32) % 1000))), (2, .int ((nI ((C / 4) % 3000)) - 500)), (1, .ref (a 0)), (0, .int (nI C))]) hx hb dL_isExact_258 hl (by decide) rfl (fun ls hl => ?_)
  have hJ_260 : ∀ n : Nat, ∀ (i : Nat) (y : Int32) (x1 : Xst) (σ1 : Lop) (N : Nat), (y = nI i) → (i ≤ 5) → (6 ≤ i + n) → (ZS x1 v_209 (nU (nU (nU (nU (nU (nU (nU (nU (nU (nU (nU 0))))))))))) σ1 0 lop0) → (EA σ1 v_209 ((nI (C / 64 % 30000)) - 15000) (C / 256 % 31) N) → (N ≤ 20 * i) → ∀ (H : Heap) (locs : List Loc) (ls : Array Slot), va_P (gD Γ) vwCl (xW Γ a x1) H → va_D A (xW Γ a x1) → va_S A s.heap H locs → lv_has ls 7 [(0, .int (nI C)), (1, .ref (a 0)), (5, .int 1), (6, .int y)] → W p l e rm_L_isExact s m args below meth c H locs 64 3699 Q (F0 m 260 ls []) := by
    intro n
    induction n with
    | zero =>
      intro i y x1 σ1 N ey hi hn hz hE hN
      omega
    | succ n ih =>
      intro i y x1 σ1 N ey hi hn hz hE hN H locs ls hP hD hS hl
      refine lv_iload hx hb dL_isExact_260 (lv_at hl 3 rfl) ?_
      refine lv_iconst (v := 5) hx hb dL_isExact_262 (by decide) ?_
      refine lv_icmp_ge (tgt := 332) hx hb dL_isExact_263 (by decide) (fun c_263 => ?_) (fun c_263 => ?_)
      · -- yes
        refine lv_iload hx hb dL_isExact_332 (lv_at hl 2 rfl) ?_
        refine lv_if_eq (tgt := 362) hx hb dL_isExact_334 (by decide) (fun c => absurd c (by decide)) (fun _ => ?_)
        refine lv_aload_n hx hb dL_isExact_337 rfl (lv_at hl 1 rfl) ?_
        refine lv_bipush (v := 20) hx hb dL_isExact_338 (by decide) ?_
        obtain ⟨u_340, eu_340⟩ : ∃ z : Xst, z = gIdeal x1 20 := ⟨_, rfl⟩
        have hM_340 : Ci Γ l yX6_idealDifference wsX6_idealDifference rm_X6_idealDifference [.ref (a 0), .int 20] (xW Γ a x1) (rIdeal x1 20) (xW Γ a u_340) := by rw [eu_340]; exact c_X6_idealDifference Γ l a x1 20 (C / 256 % 31) (by rw [hz.1]; exact EX_dead hEX) hEX.2.2.2.2.1
        refine ca_Via hh hl.1 hM_340 (cwV 1 hts gL_isExact_X6_idealDifference rfl rfl rfl (by decide +kernel) ⟨(Nat.le_of_ble_eq_true rfl), (Nat.le_of_ble_eq_true rfl)⟩) (As := [.int 20]) (rest := []) rfl dL_isExact_340 rfl (Nat.le_of_ble_eq_true rfl) hP hD hS (q0 := 0) (ci := 6) rfl rfl rfl (wf := xW Γ a u_340) (xW_addr _ _ _ _) ⟨(Nat.le_of_ble_eq_true rfl), (Nat.le_of_ble_eq_true rfl)⟩ (fun H locs hP hD hS => ?_)
        obtain ⟨s_340, y_340⟩ : rIdeal x1 20 = 0 ∧ ZS u_340 v_209 (nU (nU (nU (nU (nU (nU (nU (nU (nU (nU (nU 0))))))))))) σ1 0 lop0 := by rw [eu_340]; exact z_ideal (T := 20) hz hEX (by omega) (by omega)
        refine lv_if_ne (tgt := 362) hx hb dL_isExact_343 (by decide) (fun c => absurd c (not_ne s_340)) (fun _ => ?_)
        refine lv_aload_n hx hb dL_isExact_346 rfl (lv_at hl 1 rfl) ?_
        refine lv_sipush (v := 201) hx hb dL_isExact_347 (by decide) ?_
        obtain ⟨u_350, eu_350⟩ : ∃ z : Xst, z = gIdeal u_340 201 := ⟨_, rfl⟩
        have hM_350 : Ci Γ l yX6_idealDifference wsX6_idealDifference rm_X6_idealDifference [.ref (a 0), .int 201] (xW Γ a u_340) (rIdeal u_340 201) (xW Γ a u_350) := by rw [eu_350]; exact c_X6_idealDifference Γ l a u_340 201 (C / 256 % 31) (by rw [y_340.1]; exact EX_dead hEX) hEX.2.2.2.2.1
        refine ca_Via hh hl.1 hM_350 (cwV 1 hts gL_isExact_X6_idealDifference rfl rfl rfl (by decide +kernel) ⟨(Nat.le_of_ble_eq_true rfl), (Nat.le_of_ble_eq_true rfl)⟩) (As := [.int 201]) (rest := []) rfl dL_isExact_350 rfl (Nat.le_of_ble_eq_true rfl) hP hD hS (q0 := 0) (ci := 6) rfl rfl rfl (wf := xW Γ a u_350) (xW_addr _ _ _ _) ⟨(Nat.le_of_ble_eq_true rfl), (Nat.le_of_ble_eq_true rfl)⟩ (fun H locs hP hD hS => ?_)
        refine lv_ldc hx hb hown (hts (.constant RL 30 (-2000000001)) (List.mem_of_getElem? (i := 5) rfl)) dL_isExact_353 ?_
        refine lv_icmp_ne (tgt := 362) hx hb dL_isExact_355 (by decide) (fun c => absurd c (not_ne (z_ideal_no _))) (fun _ => ?_)
        refine lv_iconst (v := 1) hx hb dL_isExact_358 (by decide) ?_
        refine lv_goto (tgt := 363) hx hb dL_isExact_359 (by decide) ?_
        exact re_q hQ ha hx hb hr hlk hAe hS dL_isExact_363 rfl rfl
      · -- no
        have hlt : i < 5 := lt_of_nle (k := 5) (by rw [← ey]; exact c_263) (by omega) (by decide)
        refine lv_iload hx hb dL_isExact_266 (lv_at hl 2 rfl) ?_
        refine lv_if_eq (tgt := 332) hx hb dL_isExact_268 (by decide) (fun c => absurd c (by decide)) (fun _ => ?_)
        refine lv_aload_n hx hb dL_isExact_271 rfl (lv_at hl 1 rfl) ?_
        refine lv_iconst (v := 1) hx hb dL_isExact_272 (by decide) ?_
        refine lv_iload_n hx hb dL_isExact_273 rfl (lv_at hl 0 rfl) ?_
        refine lv_iconst (v := 3) hx hb dL_isExact_274 (by decide) ?_
        refine lv_iload hx hb dL_isExact_275 (lv_at hl 3 rfl) ?_
        refine lv_iadd hx hb dL_isExact_277 ?_
        refine lv_ishr hx hb dL_isExact_278 ?_
        obtain ⟨q1, eq1⟩ : ∃ z : Nat, z = C / 2 ^ (3 + i) := ⟨_, rfl⟩
        have hq1 : q1 < 2147483648 := by rw [eq1]; exact Nat.lt_of_le_of_lt (Nat.div_le_self _ _) hC
        refine W.eq (g2 := F0 m 279 ls [.int (nI (q1)), .int 1, .ref (a 0)]) (by rw [show ((nI C) >>> ((3 + y) &&& 31)) = (nI (q1)) from (by rw [ey, show (3 : Int32) + nI i = nI (3 + i) from nI_add 3 i, eq1]; exact pk_shrN (by omega) _ (3 + i) (sh_31 (3 + i) (by omega)))]) ?_
        refine lv_bipush (v := 20) hx hb dL_isExact_279 (by decide) ?_
        refine lv_irem hx hb dL_isExact_281 (by decide) ?_
        refine W.eq (g2 := F0 m 282 ls [.int (nI (q1 % 20)), .int 1, .ref (a 0)]) (by rw [show ((nI (q1)) - (nI (q1)) / 20 * 20) = (nI (q1 % 20)) from pk_rem (a := q1) (d := 20) (by omega) (by decide) (by decide)]) ?_
        refine lv_iadd hx hb dL_isExact_282 ?_
        refine W.eq (g2 := F0 m 283 ls [.int (nI (1 + (q1 % 20))), .ref (a 0)]) (by rw [show (1 + (nI (q1 % 20))) = (nI (1 + (q1 % 20))) from nI_add 1 (q1 % 20)]) ?_
        obtain ⟨u_283, eu_283⟩ : ∃ z : Xst, z = gRun x1 (nI (1 + (q1 % 20))) := ⟨_, rfl⟩
        have hM_283 : Ci Γ l yX6_run wsX6_run rm_X6_run [.ref (a 0), .int (nI (1 + (q1 % 20)))] (xW Γ a x1) (rRun x1 (nI (1 + (q1 % 20)))) (xW Γ a u_283) := by rw [eu_283]; exact c_X6_run Γ l a x1 (nI (1 + (q1 % 20))) N (by rw [hz.2.2.2.1]; exact hE.1) (by omega)
        refine ca_Via hh hl.1 hM_283 (cwV 1 hts gL_isExact_X6_run rfl rfl rfl (by decide +kernel) ⟨(Nat.le_of_ble_eq_true rfl), (Nat.le_of_ble_eq_true rfl)⟩) (As := [.int (nI (1 + (q1 % 20)))]) (rest := []) rfl dL_isExact_283 rfl (Nat.le_of_ble_eq_true rfl) hP hD hS (q0 := 0) (ci := 6) rfl rfl rfl (wf := xW Γ a u_283) (xW_addr _ _ _ _) ⟨(Nat.le_of_ble_eq_true rfl), (Nat.le_of_ble_eq_true rfl)⟩ (fun H locs hP hD hS => ?_)
        obtain ⟨s_283, y_283⟩ : rRun x1 (nI (1 + (q1 % 20))) = nI (N + (1 + (q1 % 20))) ∧ ZS u_283 v_209 (nU (nU (nU (nU (nU (nU (nU (nU (nU (nU (nU 0))))))))))) (fAdv v_209 (1 + (q1 % 20)) σ1) 0 lop0 := by rw [eu_283]; exact z_run (T := 1 + (q1 % 20)) hz hE.1 (by omega) (by omega) (by omega)
        have hE2 : EA (fAdv v_209 (1 + (q1 % 20)) σ1) v_209 ((nI (C / 64 % 30000)) - 15000) (C / 256 % 31) (N + (1 + (q1 % 20))) := ea_adv hEX (1 + (q1 % 20)) N σ1 hE (by omega)
        refine lv_if_le (tgt := 323) hx hb dL_isExact_286 (by decide) (fun c => absurd c (by rw [s_283]; exact nI_nle (by omega) (by omega))) (fun _ => ?_)
        refine lv_aload_n hx hb dL_isExact_289 rfl (lv_at hl 1 rfl) ?_
        refine lv_iconst (v := 5) hx hb dL_isExact_290 (by decide) ?_
        refine ca_Via hh hl.1 (c_X6_value Γ l a u_283 5) (cwV 1 hts gL_isExact_X6_value rfl rfl rfl (by decide +kernel) ⟨(Nat.le_of_ble_eq_true rfl), (Nat.le_of_ble_eq_true rfl)⟩) (As := [.int 5]) (rest := []) rfl dL_isExact_291 rfl (Nat.le_of_ble_eq_true rfl) hP hD hS (q0 := 0) (ci := 6) rfl rfl rfl (wf := xW Γ a u_283) (xW_addr _ _ _ _) ⟨(Nat.le_of_ble_eq_true rfl), (Nat.le_of_ble_eq_true rfl)⟩ (fun H locs hP hD hS => ?_)
        refine lv_if_ne (tgt := 323) hx hb dL_isExact_294 (by decide) (fun c => absurd c (not_ne ((z_val y_283 5 (by decide)).trans hE2.2.2.2.2.2.1))) (fun _ => ?_)
        refine lv_aload_n hx hb dL_isExact_297 rfl (lv_at hl 1 rfl) ?_
        refine lv_bipush (v := 9) hx hb dL_isExact_298 (by decide) ?_
        refine ca_Via hh hl.1 (c_X6_value Γ l a u_283 9) (cwV 1 hts gL_isExact_X6_value rfl rfl rfl (by decide +kernel) ⟨(Nat.le_of_ble_eq_true rfl), (Nat.le_of_ble_eq_true rfl)⟩) (As := [.int 9]) (rest := []) rfl dL_isExact_300 rfl (Nat.le_of_ble_eq_true rfl) hP hD hS (q0 := 0) (ci := 6) rfl rfl rfl (wf := xW Γ a u_283) (xW_addr _ _ _ _) ⟨(Nat.le_of_ble_eq_true rfl), (Nat.le_of_ble_eq_true rfl)⟩ (fun H locs hP hD hS => ?_)
        refine lv_if_ne (tgt := 323) hx hb dL_isExact_303 (by decide) (fun c => absurd c (not_ne ((z_val y_283 9 (by decide)).trans hE2.2.2.2.2.2.2.2.2.1))) (fun _ => ?_)
        refine lv_aload_n hx hb dL_isExact_306 rfl (lv_at hl 1 rfl) ?_
        refine lv_iconst (v := 4) hx hb dL_isExact_307 (by decide) ?_
        refine ca_Via hh hl.1 (c_X6_value Γ l a u_283 4) (cwV 1 hts gL_isExact_X6_value rfl rfl rfl (by decide +kernel) ⟨(Nat.le_of_ble_eq_true rfl), (Nat.le_of_ble_eq_true rfl)⟩) (As := [.int 4]) (rest := []) rfl dL_isExact_308 rfl (Nat.le_of_ble_eq_true rfl) hP hD hS (q0 := 0) (ci := 6) rfl rfl rfl (wf := xW Γ a u_283) (xW_addr _ _ _ _) ⟨(Nat.le_of_ble_eq_true rfl), (Nat.le_of_ble_eq_true rfl)⟩ (fun H locs hP hD hS => ?_)
        refine lv_aload_n hx hb dL_isExact_311 rfl (lv_at hl 1 rfl) ?_
        refine lv_iconst (v := 1) hx hb dL_isExact_312 (by decide) ?_
        refine ca_Via hh hl.1 (c_X6_value Γ l a u_283 1) (cwV 1 hts gL_isExact_X6_value rfl rfl rfl (by decide +kernel) ⟨(Nat.le_of_ble_eq_true rfl), (Nat.le_of_ble_eq_true rfl)⟩) (As := [.int 1]) (rest := [.int (rValue u_283 4)]) rfl dL_isExact_313 rfl (Nat.le_of_ble_eq_true rfl) hP hD hS (q0 := 0) (ci := 6) rfl rfl rfl (wf := xW Γ a u_283) (xW_addr _ _ _ _) ⟨(Nat.le_of_ble_eq_true rfl), (Nat.le_of_ble_eq_true rfl)⟩ (fun H locs hP hD hS => ?_)
        refine lv_icmp_ne (tgt := 323) hx hb dL_isExact_316 (by decide) (fun c => absurd c (not_ne (((z_val y_283 4 (by decide)).trans hE2.2.2.2.2.2.2.2.2.2.1).trans (z_val y_283 1 (by decide)).symm))) (fun _ => ?_)
        refine lv_iconst (v := 1) hx hb dL_isExact_319 (by decide) ?_
        refine lv_goto (tgt := 324) hx hb dL_isExact_320 (by decide) ?_
        refine lv_istore (lv' := [(5, .int 1), (0, .int (nI C)), (1, .ref (a 0)), (6, .int y)]) hx hb dL_isExact_324 hl (by decide) rfl (fun ls hl => ?_)
        refine lv_iinc (v := (y + 1)) (lv' := [(6, .int (y + 1)), (5, .int 1), (0, .int (nI C)), (1, .ref (a 0))]) hx hb dL_isExact_326 hl (k := 3) rfl rfl (by decide) rfl (fun ls hl => ?_)
        refine lv_goto (tgt := 260) hx hb dL_isExact_329 (by decide) ?_
        exact ih (i + 1) _ _ _ _ (by rw [ey]; exact nI_1 i) (by omega) (by omega) y_283 hE2 (by omega) _ _ _ hP hD hS (lv_sub hl [2, 3, 1, 0] rfl)
  exact hJ_260 6 0 _ _ _ 0 rfl (by omega) (by omega) y_244 (by rw [eσ_231]; exact ea_new _ _ _) (by omega) _ _ _ hP hD hS (lv_sub hl [6, 5, 1, 0] rfl)
