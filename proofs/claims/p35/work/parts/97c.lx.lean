def rm_L_isBounded : Room := { frames := 7, cells := 64, slots := 3699, locals := 181 }
theorem iL_isBounded_6 : ∀ w ∈ u_ws RX6 TX6 11, w ∈ wsL_isBounded := fun w h => (List.mem_cons_of_mem _ (List.mem_append_left _ (List.mem_append_left _ (List.mem_append_left _ (List.mem_append_left _ (List.mem_append_left _ (List.mem_append_left _ (List.mem_append_right _ h))))))))
set_option maxHeartbeats 4000000 in
set_option maxRecDepth 100000 in
theorem c_L_isBounded (Γ : gT) (l : Launch) (C : Nat) (hC : C < 2147483648) : Cs Γ l yL_isBounded wsL_isBounded rm_L_isBounded [.int (nI C)] 1 64 3699 := by
  refine Cs.of (cc := cL_isBounded) (own := RL) (nL := 15) (ret := (some .boolean)) (by decide +kernel) rfl rfl (Nat.le_of_ble_eq_true rfl) ?_
  intro p e s m args below meth c A Q ls ha hAe hQ hx hb hml hr hts hown hlk hP hK hD hS hA hG hO hl
  obtain ⟨H, hHe⟩ : ∃ H : Heap, H = s.heap := ⟨_, rfl⟩
  rw [← hHe] at hP ⊢
  have hS : va_S A s.heap H [] := by rw [hHe]; exact hS
  have hh : Hd Γ p s m args c cL_isBounded RL 15 wsL_isBounded A := ⟨⟨hx, hb, hml, hown, hts⟩, hK, hA, hG⟩
  have hl : lv_has ls 15 [(0, .int (nI C))] := hl
  refine va_new (D := gD Γ) (cl := vwCl) (tys := gTy Γ) (ci := 6) (fs := [.null, .null, .null, .null, .null, .null, .int 0, .null, .null, .null, .null]) (C := RX6) (T := TX6) (N := 11) hx hb hts iL_isBounded_6 tyX6 tyX6_ok hown (hts (.classLink RL 9 RX6) (List.mem_of_getElem? (i := 1) rfl)) (hts (.instantiable RX6 11) (List.mem_of_getElem? (i := 2) rfl)) (hts (.initialized RX6) (List.mem_of_getElem? (i := 3) rfl)) hK hP hD hS hA rfl (fun j hj => by rcases (show j = 0 ∨ j = 1 ∨ j = 2 ∨ j = 3 ∨ j = 4 ∨ j = 5 ∨ j = 6 ∨ j = 7 ∨ j = 8 ∨ j = 9 ∨ j = 10 by omega) with rfl | rfl | rfl | rfl | rfl | rfl | rfl | rfl | rfl | rfl | rfl <;> rfl) (Nat.le_of_ble_eq_true rfl) (Nat.le_of_ble_eq_true rfl) dL_isBounded_0 (fun q0 H hP hD hS => ?_)
  refine lv_dup hx hb dL_isBounded_3 rfl ?_
  refine ca_I (rest := [.ref q0]) (ws := []) hh hO hl.1 (c_X6_init Γ l q0) (cwI 0 hts gL_isBounded_X6_init rfl rfl rfl (hts (.initialized RX6) (List.mem_of_getElem? (i := 3) rfl)) (hts (.methodLink RL 11 yX6_init) (List.mem_of_getElem? (i := 9) rfl)) (hts (.instanceMethod yX6_init) (List.mem_of_getElem? (i := 10) rfl)) rfl (by decide +kernel) ⟨(Nat.le_of_ble_eq_true rfl), (Nat.le_of_ble_eq_true rfl)⟩) dL_isBounded_4 rfl (Nat.le_of_ble_eq_true rfl) hP hD hS ⟨(Nat.le_of_ble_eq_true rfl), (Nat.le_of_ble_eq_true rfl)⟩ (fun a H locs e4 hP9 hD9 hS => ?_)
  subst e4
  have hP : va_P (gD Γ) vwCl (xW Γ a x0) H := hP9
  have hD : va_D A (xW Γ a x0) := hD9
  refine lv_astore_n (lv' := [(1, .ref (a 0)), (0, .int (nI C))]) hx hb dL_isBounded_7 rfl hl (by decide) rfl (fun ls hl => ?_)
  refine W.widen (k := 64) (n := 3699) (Nat.le_of_ble_eq_true rfl) (Nat.le_of_ble_eq_true rfl) ?_
  have y_0 := z_new
  have o_0 := pk_new
  refine lv_iconst (v := 1) hx hb dL_isBounded_8 (by decide) ?_
  refine lv_iload_n hx hb dL_isBounded_9 rfl (lv_at hl 1 rfl) ?_
  refine lv_iconst (v := 2) hx hb dL_isBounded_10 (by decide) ?_
  refine lv_ishr hx hb dL_isBounded_11 ?_
  refine W.eq (g2 := F0 m 12 ls [.int (nI (C / 4)), .int 1]) (by rw [show ((nI C) >>> (2 &&& 31)) = (nI (C / 4)) from pk_shrN (n := C) (by omega) _ 2 (by decide +kernel)]) ?_
  refine lv_sipush (v := 3000) hx hb dL_isBounded_12 (by decide) ?_
  refine lv_irem hx hb dL_isBounded_15 (by decide) ?_
  refine W.eq (g2 := F0 m 16 ls [.int (nI ((C / 4) % 3000)), .int 1]) (by rw [show ((nI (C / 4)) - (nI (C / 4)) / 3000 * 3000) = (nI ((C / 4) % 3000)) from pk_rem (a := C / 4) (d := 3000) (by omega) (by decide) (by decide)]) ?_
  refine lv_iadd hx hb dL_isBounded_16 ?_
  refine W.eq (g2 := F0 m 17 ls [.int (nI (1 + ((C / 4) % 3000)))]) (by rw [show (1 + (nI ((C / 4) % 3000))) = (nI (1 + ((C / 4) % 3000))) from nI_add 1 ((C / 4) % 3000)]) ?_
  refine lv_istore_n (lv' := [(2, .int (nI (1 + ((C / 4) % 3000)))), (1, .ref (a 0)), (0, .int (nI C))]) hx hb dL_isBounded_17 rfl hl (by decide) rfl (fun ls hl => ?_)
  refine lv_iload_n hx hb dL_isBounded_18 rfl (lv_at hl 2 rfl) ?_
  refine lv_iconst (v := 5) hx hb dL_isBounded_19 (by decide) ?_
  refine lv_ishr hx hb dL_isBounded_20 ?_
  refine W.eq (g2 := F0 m 21 ls [.int (nI (C / 32))]) (by rw [show ((nI C) >>> (5 &&& 31)) = (nI (C / 32)) from pk_shrN (n := C) (by omega) _ 5 (by decide +kernel)]) ?_
  refine lv_sipush (v := 3000) hx hb dL_isBounded_21 (by decide) ?_
  refine lv_irem hx hb dL_isBounded_24 (by decide) ?_
  refine W.eq (g2 := F0 m 25 ls [.int (nI ((C / 32) % 3000))]) (by rw [show ((nI (C / 32)) - (nI (C / 32)) / 3000 * 3000) = (nI ((C / 32) % 3000)) from pk_rem (a := C / 32) (d := 3000) (by omega) (by decide) (by decide)]) ?_
  refine lv_ineg hx hb dL_isBounded_25 ?_
  refine lv_istore_n (lv' := [(3, .int (-(nI ((C / 32) % 3000)))), (2, .int (nI (1 + ((C / 4) % 3000)))), (1, .ref (a 0)), (0, .int (nI C))]) hx hb dL_isBounded_26 rfl hl (by decide) rfl (fun ls hl => ?_)
  refine lv_iconst (v := 1) hx hb dL_isBounded_27 (by decide) ?_
  refine lv_iload_n hx hb dL_isBounded_28 rfl (lv_at hl 3 rfl) ?_
  refine lv_bipush (v := 8) hx hb dL_isBounded_29 (by decide) ?_
  refine lv_ishr hx hb dL_isBounded_31 ?_
  refine W.eq (g2 := F0 m 32 ls [.int (nI (C / 256)), .int 1]) (by rw [show ((nI C) >>> (8 &&& 31)) = (nI (C / 256)) from pk_shrN (n := C) (by omega) _ 8 (by decide +kernel)]) ?_
  refine lv_sipush (v := 900) hx hb dL_isBounded_32 (by decide) ?_
  refine lv_irem hx hb dL_isBounded_35 (by decide) ?_
  refine W.eq (g2 := F0 m 36 ls [.int (nI ((C / 256) % 900)), .int 1]) (by rw [show ((nI (C / 256)) - (nI (C / 256)) / 900 * 900) = (nI ((C / 256) % 900)) from pk_rem (a := C / 256) (d := 900) (by omega) (by decide) (by decide)]) ?_
  refine lv_iadd hx hb dL_isBounded_36 ?_
  refine W.eq (g2 := F0 m 37 ls [.int (nI (1 + ((C / 256) % 900)))]) (by rw [show (1 + (nI ((C / 256) % 900))) = (nI (1 + ((C / 256) % 900))) from nI_add 1 ((C / 256) % 900)]) ?_
  refine lv_istore (lv' := [(4, .int (nI (1 + ((C / 256) % 900)))), (3, .int (-(nI ((C / 32) % 3000)))), (2, .int (nI (1 + ((C / 4) % 3000)))), (1, .ref (a 0)), (0, .int (nI C))]) hx hb dL_isBounded_37 hl (by decide) rfl (fun ls hl => ?_)
  refine lv_iconst (v := 1) hx hb dL_isBounded_39 (by decide) ?_
  refine lv_iload_n hx hb dL_isBounded_40 rfl (lv_at hl 4 rfl) ?_
  refine lv_iconst (v := 3) hx hb dL_isBounded_41 (by decide) ?_
  refine lv_ishr hx hb dL_isBounded_42 ?_
  refine W.eq (g2 := F0 m 43 ls [.int (nI (C / 8)), .int 1]) (by rw [show ((nI C) >>> (3 &&& 31)) = (nI (C / 8)) from pk_shrN (n := C) (by omega) _ 3 (by decide +kernel)]) ?_
  refine lv_bipush (v := 8) hx hb dL_isBounded_43 (by decide) ?_
  refine lv_irem hx hb dL_isBounded_45 (by decide) ?_
  refine W.eq (g2 := F0 m 46 ls [.int (nI ((C / 8) % 8)), .int 1]) (by rw [show ((nI (C / 8)) - (nI (C / 8)) / 8 * 8) = (nI ((C / 8) % 8)) from pk_rem (a := C / 8) (d := 8) (by omega) (by decide) (by decide)]) ?_
  refine lv_iadd hx hb dL_isBounded_46 ?_
  refine W.eq (g2 := F0 m 47 ls [.int (nI (1 + ((C / 8) % 8)))]) (by rw [show (1 + (nI ((C / 8) % 8))) = (nI (1 + ((C / 8) % 8))) from nI_add 1 ((C / 8) % 8)]) ?_
  refine lv_istore (lv' := [(5, .int (nI (1 + ((C / 8) % 8)))), (4, .int (nI (1 + ((C / 256) % 900)))), (3, .int (-(nI ((C / 32) % 3000)))), (2, .int (nI (1 + ((C / 4) % 3000)))), (1, .ref (a 0)), (0, .int (nI C))]) hx hb dL_isBounded_47 hl (by decide) rfl (fun ls hl => ?_)
  refine lv_aload_n hx hb dL_isBounded_49 rfl (lv_at hl 4 rfl) ?_
  refine lv_bipush (v := 10) hx hb dL_isBounded_50 (by decide) ?_
  refine lv_iload_n hx hb dL_isBounded_52 rfl (lv_at hl 3 rfl) ?_
  obtain ⟨u_53, eu_53⟩ : ∃ z : Xst, z = gSetParameter x0 10 (nI (1 + ((C / 4) % 3000))) := ⟨_, rfl⟩
  have hM_53 : Ci Γ l yX6_setParameter wsX6_setParameter rm_X6_setParameter [.ref (a 0), .int 10, .int (nI (1 + ((C / 4) % 3000)))] (xW Γ a x0) (rSetParameter x0 10 (nI (1 + ((C / 4) % 3000)))) (xW Γ a u_53) := by rw [eu_53]; exact c_X6_setParameter Γ l a x0 10 (nI (1 + ((C / 4) % 3000))) y_0.ok
  refine ca_Via hh hl.1 hM_53 (cwV 2 hts gL_isBounded_X6_setParameter rfl rfl rfl (by decide +kernel) ⟨(Nat.le_of_ble_eq_true rfl), (Nat.le_of_ble_eq_true rfl)⟩) (As := [.int 10, .int (nI (1 + ((C / 4) % 3000)))]) (rest := []) rfl dL_isBounded_53 rfl (Nat.le_of_ble_eq_true rfl) hP hD hS (q0 := 0) (ci := 6) rfl rfl rfl (wf := xW Γ a u_53) (xW_addr _ _ _ _) ⟨(Nat.le_of_ble_eq_true rfl), (Nat.le_of_ble_eq_true rfl)⟩ (fun H locs hP hD hS => ?_)
  have b_53 := bd_P 10 0 100000 (by decide +kernel) (by decide +kernel) (w := (nI (1 + ((C / 4) % 3000)))) (nI_toInt (by omega)) (by omega) (by omega)
  obtain ⟨v_53, ev_53⟩ : ∃ z : Sett, z = upd sett0 10 (nI (1 + ((C / 4) % 3000))) := ⟨_, rfl⟩
  obtain ⟨s_53, y_53⟩ : rSetParameter x0 10 (nI (1 + ((C / 4) % 3000))) = sett0 10 ∧ ZS u_53 v_53 (nU 0) lop0 0 lop0 := by rw [eu_53, ev_53]; exact z_setP y_0 10 (by decide) b_53
  have o_53 : pOk v_53 := by rw [ev_53]; exact pk_updP o_0 b_53
  have a_53 : rSetParameter x0 10 (nI (1 + ((C / 4) % 3000))) = 50000 := s_53.trans (sv 10 (by decide) (by decide +kernel))
  refine lv_ldc hx hb hown (hts (.constant RL 51 (50000)) (List.mem_of_getElem? (i := 4) rfl)) dL_isBounded_56 ?_
  refine lv_icmp_ne (tgt := 166) hx hb dL_isBounded_58 (by decide) (fun c => absurd c (not_ne a_53)) (fun _ => ?_)
  refine lv_aload_n hx hb dL_isBounded_61 rfl (lv_at hl 4 rfl) ?_
  refine lv_bipush (v := 9) hx hb dL_isBounded_62 (by decide) ?_
  refine lv_iload_n hx hb dL_isBounded_64 rfl (lv_at hl 2 rfl) ?_
  obtain ⟨u_65, eu_65⟩ : ∃ z : Xst, z = gSetParameter u_53 9 (-(nI ((C / 32) % 3000))) := ⟨_, rfl⟩
  have hM_65 : Ci Γ l yX6_setParameter wsX6_setParameter rm_X6_setParameter [.ref (a 0), .int 9, .int (-(nI ((C / 32) % 3000)))] (xW Γ a u_53) (rSetParameter u_53 9 (-(nI ((C / 32) % 3000)))) (xW Γ a u_65) := by rw [eu_65]; exact c_X6_setParameter Γ l a u_53 9 (-(nI ((C / 32) % 3000))) y_53.ok
  refine ca_Via hh hl.1 hM_65 (cwV 2 hts gL_isBounded_X6_setParameter rfl rfl rfl (by decide +kernel) ⟨(Nat.le_of_ble_eq_true rfl), (Nat.le_of_ble_eq_true rfl)⟩) (As := [.int 9, .int (-(nI ((C / 32) % 3000)))]) (rest := []) rfl dL_isBounded_65 rfl (Nat.le_of_ble_eq_true rfl) hP hD hS (q0 := 0) (ci := 6) rfl rfl rfl (wf := xW Γ a u_65) (xW_addr _ _ _ _) ⟨(Nat.le_of_ble_eq_true rfl), (Nat.le_of_ble_eq_true rfl)⟩ (fun H locs hP hD hS => ?_)
  have b_65 := bd_P 9 (-100000) 0 (by decide +kernel) (by decide +kernel) (w := (-(nI ((C / 32) % 3000)))) (neg_T (a := (C / 32) % 3000) (by omega)) (by omega) (by omega)
  obtain ⟨v_65, ev_65⟩ : ∃ z : Sett, z = upd v_53 9 (-(nI ((C / 32) % 3000))) := ⟨_, rfl⟩
  obtain ⟨s_65, y_65⟩ : rSetParameter u_53 9 (-(nI ((C / 32) % 3000))) = v_53 9 ∧ ZS u_65 v_65 (nU (nU 0)) lop0 0 lop0 := by rw [eu_65, ev_65]; exact z_setP y_53 9 (by decide) b_65
  have o_65 : pOk v_65 := by rw [ev_65]; exact pk_updP o_53 b_65
  have a_65 : rSetParameter u_53 9 (-(nI ((C / 32) % 3000))) = (-50000) := s_65.trans (by rw [ev_53, pk_un (by decide)]; exact sv 9 (by decide) (by decide +kernel))
  refine lv_ldc hx hb hown (hts (.constant RL 52 (-50000)) (List.mem_of_getElem? (i := 5) rfl)) dL_isBounded_68 ?_
  refine lv_icmp_ne (tgt := 166) hx hb dL_isBounded_70 (by decide) (fun c => absurd c (not_ne a_65)) (fun _ => ?_)
  refine lv_aload_n hx hb dL_isBounded_73 rfl (lv_at hl 4 rfl) ?_
  refine lv_bipush (v := 11) hx hb dL_isBounded_74 (by decide) ?_
  refine lv_iload hx hb dL_isBounded_76 (lv_at hl 1 rfl) ?_
  obtain ⟨u_78, eu_78⟩ : ∃ z : Xst, z = gSetParameter u_65 11 (nI (1 + ((C / 256) % 900))) := ⟨_, rfl⟩
  have hM_78 : Ci Γ l yX6_setParameter wsX6_setParameter rm_X6_setParameter [.ref (a 0), .int 11, .int (nI (1 + ((C / 256) % 900)))] (xW Γ a u_65) (rSetParameter u_65 11 (nI (1 + ((C / 256) % 900)))) (xW Γ a u_78) := by rw [eu_78]; exact c_X6_setParameter Γ l a u_65 11 (nI (1 + ((C / 256) % 900))) y_65.ok
  refine ca_Via hh hl.1 hM_78 (cwV 2 hts gL_isBounded_X6_setParameter rfl rfl rfl (by decide +kernel) ⟨(Nat.le_of_ble_eq_true rfl), (Nat.le_of_ble_eq_true rfl)⟩) (As := [.int 11, .int (nI (1 + ((C / 256) % 900)))]) (rest := []) rfl dL_isBounded_78 rfl (Nat.le_of_ble_eq_true rfl) hP hD hS (q0 := 0) (ci := 6) rfl rfl rfl (wf := xW Γ a u_78) (xW_addr _ _ _ _) ⟨(Nat.le_of_ble_eq_true rfl), (Nat.le_of_ble_eq_true rfl)⟩ (fun H locs hP hD hS => ?_)
  have b_78 := bd_P 11 1 200000 (by decide +kernel) (by decide +kernel) (w := (nI (1 + ((C / 256) % 900)))) (nI_toInt (by omega)) (by omega) (by omega)
  obtain ⟨v_78, ev_78⟩ : ∃ z : Sett, z = upd v_65 11 (nI (1 + ((C / 256) % 900))) := ⟨_, rfl⟩
  obtain ⟨s_78, y_78⟩ : rSetParameter u_65 11 (nI (1 + ((C / 256) % 900))) = v_65 11 ∧ ZS u_78 v_78 (nU (nU (nU 0))) lop0 0 lop0 := by rw [eu_78, ev_78]; exact z_setP y_65 11 (by decide) b_78
  have o_78 : pOk v_78 := by rw [ev_78]; exact pk_updP o_65 b_78
  have a_78 : rSetParameter u_65 11 (nI (1 + ((C / 256) % 900))) = 200000 := s_78.trans (by rw [ev_65, pk_un (by decide), ev_53, pk_un (by decide)]; exact sv 11 (by decide) (by decide +kernel))
  refine lv_ldc hx hb hown (hts (.constant RL 16 (200000)) (List.mem_of_getElem? (i := 6) rfl)) dL_isBounded_81 ?_
  refine lv_icmp_ne (tgt := 166) hx hb dL_isBounded_83 (by decide) (fun c => absurd c (not_ne a_78)) (fun _ => ?_)
  refine lv_aload_n hx hb dL_isBounded_86 rfl (lv_at hl 4 rfl) ?_
  refine lv_bipush (v := 13) hx hb dL_isBounded_87 (by decide) ?_
  refine lv_iload hx hb dL_isBounded_89 (lv_at hl 0 rfl) ?_
  obtain ⟨u_91, eu_91⟩ : ∃ z : Xst, z = gSetParameter u_78 13 (nI (1 + ((C / 8) % 8))) := ⟨_, rfl⟩
  have hM_91 : Ci Γ l yX6_setParameter wsX6_setParameter rm_X6_setParameter [.ref (a 0), .int 13, .int (nI (1 + ((C / 8) % 8)))] (xW Γ a u_78) (rSetParameter u_78 13 (nI (1 + ((C / 8) % 8)))) (xW Γ a u_91) := by rw [eu_91]; exact c_X6_setParameter Γ l a u_78 13 (nI (1 + ((C / 8) % 8))) y_78.ok
  refine ca_Via hh hl.1 hM_91 (cwV 2 hts gL_isBounded_X6_setParameter rfl rfl rfl (by decide +kernel) ⟨(Nat.le_of_ble_eq_true rfl), (Nat.le_of_ble_eq_true rfl)⟩) (As := [.int 13, .int (nI (1 + ((C / 8) % 8)))]) (rest := []) rfl dL_isBounded_91 rfl (Nat.le_of_ble_eq_true rfl) hP hD hS (q0 := 0) (ci := 6) rfl rfl rfl (wf := xW Γ a u_91) (xW_addr _ _ _ _) ⟨(Nat.le_of_ble_eq_true rfl), (Nat.le_of_ble_eq_true rfl)⟩ (fun H locs hP hD hS => ?_)
  have b_91 := bd_P 13 1 50 (by decide +kernel) (by decide +kernel) (w := (nI (1 + ((C / 8) % 8)))) (nI_toInt (by omega)) (by omega) (by omega)
  obtain ⟨v_91, ev_91⟩ : ∃ z : Sett, z = upd v_78 13 (nI (1 + ((C / 8) % 8))) := ⟨_, rfl⟩
  obtain ⟨s_91, y_91⟩ : rSetParameter u_78 13 (nI (1 + ((C / 8) % 8))) = v_78 13 ∧ ZS u_91 v_91 (nU (nU (nU (nU 0)))) lop0 0 lop0 := by rw [eu_91, ev_91]; exact z_setP y_78 13 (by decide) b_91
  have o_91 : pOk v_91 := by rw [ev_91]; exact pk_updP o_78 b_91
  have a_91 : rSetParameter u_78 13 (nI (1 + ((C / 8) % 8))) = 5 := s_91.trans (by rw [ev_78, pk_un (by decide), ev_65, pk_un (by decide), ev_53, pk_un (by decide)]; exact sv 13 (by decide) (by decide +kernel))
  refine lv_iconst (v := 5) hx hb dL_isBounded_94 (by decide) ?_
  refine lv_icmp_ne (tgt := 166) hx hb dL_isBounded_95 (by decide) (fun c => absurd c (not_ne a_91)) (fun _ => ?_)
  refine lv_aload_n hx hb dL_isBounded_98 rfl (lv_at hl 4 rfl) ?_
  refine lv_bipush (v := 12) hx hb dL_isBounded_99 (by decide) ?_
  refine lv_bipush (v := 100) hx hb dL_isBounded_101 (by decide) ?_
  obtain ⟨u_103, eu_103⟩ : ∃ z : Xst, z = gSetParameter u_91 12 100 := ⟨_, rfl⟩
  have hM_103 : Ci Γ l yX6_setParameter wsX6_setParameter rm_X6_setParameter [.ref (a 0), .int 12, .int 100] (xW Γ a u_91) (rSetParameter u_91 12 100) (xW Γ a u_103) := by rw [eu_103]; exact c_X6_setParameter Γ l a u_91 12 100 y_91.ok
  refine ca_Via hh hl.1 hM_103 (cwV 2 hts gL_isBounded_X6_setParameter rfl rfl rfl (by decide +kernel) ⟨(Nat.le_of_ble_eq_true rfl), (Nat.le_of_ble_eq_true rfl)⟩) (As := [.int 12, .int 100]) (rest := []) rfl dL_isBounded_103 rfl (Nat.le_of_ble_eq_true rfl) hP hD hS (q0 := 0) (ci := 6) rfl rfl rfl (wf := xW Γ a u_103) (xW_addr _ _ _ _) ⟨(Nat.le_of_ble_eq_true rfl), (Nat.le_of_ble_eq_true rfl)⟩ (fun H locs hP hD hS => ?_)
  have b_103 := bd_P 12 0 100000 (by decide +kernel) (by decide +kernel) (w := 100) (show (100 : Int32).toInt = 100 from by decide) (by omega) (by omega)
  obtain ⟨v_103, ev_103⟩ : ∃ z : Sett, z = upd v_91 12 100 := ⟨_, rfl⟩
  obtain ⟨s_103, y_103⟩ : rSetParameter u_91 12 100 = v_91 12 ∧ ZS u_103 v_103 (nU (nU (nU (nU (nU 0))))) lop0 0 lop0 := by rw [eu_103, ev_103]; exact z_setP y_91 12 (by decide) b_103
  have o_103 : pOk v_103 := by rw [ev_103]; exact pk_updP o_91 b_103
  have a_103 : rSetParameter u_91 12 100 = 5000 := s_103.trans (by rw [ev_91, pk_un (by decide), ev_78, pk_un (by decide), ev_65, pk_un (by decide), ev_53, pk_un (by decide)]; exact sv 12 (by decide) (by decide +kernel))
  refine lv_sipush (v := 5000) hx hb dL_isBounded_106 (by decide) ?_
  refine lv_icmp_ne (tgt := 166) hx hb dL_isBounded_109 (by decide) (fun c => absurd c (not_ne a_103)) (fun _ => ?_)
  refine lv_aload_n hx hb dL_isBounded_112 rfl (lv_at hl 4 rfl) ?_
  refine lv_iconst (v := 2) hx hb dL_isBounded_113 (by decide) ?_
  refine lv_sipush (v := 2000) hx hb dL_isBounded_114 (by decide) ?_
  refine lv_iload_n hx hb dL_isBounded_117 rfl (lv_at hl 5 rfl) ?_
  refine lv_sipush (v := 2000) hx hb dL_isBounded_118 (by decide) ?_
  refine lv_irem hx hb dL_isBounded_121 (by decide) ?_
  refine W.eq (g2 := F0 m 122 ls [.int (nI (C % 2000)), .int 2000, .int 2, .ref (a 0)]) (by rw [show ((nI C) - (nI C) / 2000 * 2000) = (nI (C % 2000)) from pk_rem (a := C) (d := 2000) (by omega) (by decide) (by decide)]) ?_
  refine lv_iadd hx hb dL_isBounded_122 ?_
  refine W.eq (g2 := F0 m 123 ls [.int (nI (2000 + (C % 2000))), .int 2, .ref (a 0)]) (by rw [show (2000 + (nI (C % 2000))) = (nI (2000 + (C % 2000))) from nI_add 2000 (C % 2000)]) ?_
  obtain ⟨u_123, eu_123⟩ : ∃ z : Xst, z = gSetParameter u_103 2 (nI (2000 + (C % 2000))) := ⟨_, rfl⟩
  have hM_123 : Ci Γ l yX6_setParameter wsX6_setParameter rm_X6_setParameter [.ref (a 0), .int 2, .int (nI (2000 + (C % 2000)))] (xW Γ a u_103) (rSetParameter u_103 2 (nI (2000 + (C % 2000)))) (xW Γ a u_123) := by rw [eu_123]; exact c_X6_setParameter Γ l a u_103 2 (nI (2000 + (C % 2000))) y_103.ok
  refine ca_Via hh hl.1 hM_123 (cwV 2 hts gL_isBounded_X6_setParameter rfl rfl rfl (by decide +kernel) ⟨(Nat.le_of_ble_eq_true rfl), (Nat.le_of_ble_eq_true rfl)⟩) (As := [.int 2, .int (nI (2000 + (C % 2000)))]) (rest := []) rfl dL_isBounded_123 rfl (Nat.le_of_ble_eq_true rfl) hP hD hS (q0 := 0) (ci := 6) rfl rfl rfl (wf := xW Γ a u_123) (xW_addr _ _ _ _) ⟨(Nat.le_of_ble_eq_true rfl), (Nat.le_of_ble_eq_true rfl)⟩ (fun H locs hP hD hS => ?_)
  have b_123 := bd_P 2 (-5000) 5000 (by decide +kernel) (by decide +kernel) (w := (nI (2000 + (C % 2000)))) (nI_toInt (by omega)) (by omega) (by omega)
  obtain ⟨v_123, ev_123⟩ : ∃ z : Sett, z = upd v_103 2 (nI (2000 + (C % 2000))) := ⟨_, rfl⟩
  obtain ⟨s_123, y_123⟩ : rSetParameter u_103 2 (nI (2000 + (C % 2000))) = v_103 2 ∧ ZS u_123 v_123 (nU (nU (nU (nU (nU (nU 0)))))) lop0 0 lop0 := by rw [eu_123, ev_123]; exact z_setP y_103 2 (by decide) b_123
  have o_123 : pOk v_123 := by rw [ev_123]; exact pk_updP o_103 b_123
  have a_123 : rSetParameter u_103 2 (nI (2000 + (C % 2000))) = 1000 := s_123.trans (by rw [ev_103, pk_un (by decide), ev_91, pk_un (by decide), ev_78, pk_un (by decide), ev_65, pk_un (by decide), ev_53, pk_un (by decide)]; exact sv 2 (by decide) (by decide +kernel))
  refine lv_sipush (v := 1000) hx hb dL_isBounded_126 (by decide) ?_
  refine lv_icmp_ne (tgt := 166) hx hb dL_isBounded_129 (by decide) (fun c => absurd c (not_ne a_123)) (fun _ => ?_)
  refine lv_aload_n hx hb dL_isBounded_132 rfl (lv_at hl 4 rfl) ?_
  refine lv_bipush (v := 14) hx hb dL_isBounded_133 (by decide) ?_
  refine lv_iload_n hx hb dL_isBounded_135 rfl (lv_at hl 5 rfl) ?_
  refine lv_bipush (v := 70) hx hb dL_isBounded_136 (by decide) ?_
  refine lv_irem hx hb dL_isBounded_138 (by decide) ?_
  refine W.eq (g2 := F0 m 139 ls [.int (nI (C % 70)), .int 14, .ref (a 0)]) (by rw [show ((nI C) - (nI C) / 70 * 70) = (nI (C % 70)) from pk_rem (a := C) (d := 70) (by omega) (by decide) (by decide)]) ?_
  obtain ⟨u_139, eu_139⟩ : ∃ z : Xst, z = gSetParameter u_123 14 (nI (C % 70)) := ⟨_, rfl⟩
  have hM_139 : Ci Γ l yX6_setParameter wsX6_setParameter rm_X6_setParameter [.ref (a 0), .int 14, .int (nI (C % 70))] (xW Γ a u_123) (rSetParameter u_123 14 (nI (C % 70))) (xW Γ a u_139) := by rw [eu_139]; exact c_X6_setParameter Γ l a u_123 14 (nI (C % 70)) y_123.ok
  refine ca_Via hh hl.1 hM_139 (cwV 2 hts gL_isBounded_X6_setParameter rfl rfl rfl (by decide +kernel) ⟨(Nat.le_of_ble_eq_true rfl), (Nat.le_of_ble_eq_true rfl)⟩) (As := [.int 14, .int (nI (C % 70))]) (rest := []) rfl dL_isBounded_139 rfl (Nat.le_of_ble_eq_true rfl) hP hD hS (q0 := 0) (ci := 6) rfl rfl rfl (wf := xW Γ a u_139) (xW_addr _ _ _ _) ⟨(Nat.le_of_ble_eq_true rfl), (Nat.le_of_ble_eq_true rfl)⟩ (fun H locs hP hD hS => ?_)
  have b_139 := bd_P 14 0 1000 (by decide +kernel) (by decide +kernel) (w := (nI (C % 70))) (nI_toInt (by omega)) (by omega) (by omega)
  obtain ⟨v_139, ev_139⟩ : ∃ z : Sett, z = upd v_123 14 (nI (C % 70)) := ⟨_, rfl⟩
  obtain ⟨s_139, y_139⟩ : rSetParameter u_123 14 (nI (C % 70)) = v_123 14 ∧ ZS u_139 v_139 (nU (nU (nU (nU (nU (nU (nU 0))))))) lop0 0 lop0 := by rw [eu_139, ev_139]; exact z_setP y_123 14 (by decide) b_139
  have o_139 : pOk v_139 := by rw [ev_139]; exact pk_updP o_123 b_139
  have a_139 : rSetParameter u_123 14 (nI (C % 70)) = 0 := s_139.trans (by rw [ev_123, pk_un (by decide), ev_103, pk_un (by decide), ev_91, pk_un (by decide), ev_78, pk_un (by decide), ev_65, pk_un (by decide), ev_53, pk_un (by decide)]; exact sv 14 (by decide) (by decide +kernel))
  refine lv_if_ne (tgt := 166) hx hb dL_isBounded_142 (by decide) (fun c => absurd c (not_ne a_139)) (fun _ => ?_)
  refine lv_aload_n hx hb dL_isBounded_145 rfl (lv_at hl 4 rfl) ?_
  refine lv_iload_n hx hb dL_isBounded_146 rfl (lv_at hl 5 rfl) ?_
  refine lv_iconst (v := 4) hx hb dL_isBounded_147 (by decide) ?_
  refine lv_ishr hx hb dL_isBounded_148 ?_
  refine W.eq (g2 := F0 m 149 ls [.int (nI (C / 16)), .ref (a 0)]) (by rw [show ((nI C) >>> (4 &&& 31)) = (nI (C / 16)) from pk_shrN (n := C) (by omega) _ 4 (by decide +kernel)]) ?_
  refine lv_ldc hx hb hown (hts (.constant RL 53 (40000)) (List.mem_of_getElem? (i := 7) rfl)) dL_isBounded_149 ?_
  refine lv_irem hx hb dL_isBounded_151 (by decide) ?_
  refine W.eq (g2 := F0 m 152 ls [.int (nI ((C / 16) % 40000)), .ref (a 0)]) (by rw [show ((nI (C / 16)) - (nI (C / 16)) / 40000 * 40000) = (nI ((C / 16) % 40000)) from pk_rem (a := C / 16) (d := 40000) (by omega) (by decide) (by decide)]) ?_
  refine lv_sipush (v := 20000) hx hb dL_isBounded_152 (by decide) ?_
  refine lv_isub hx hb dL_isBounded_155 ?_
  obtain ⟨u_156, eu_156⟩ : ∃ z : Xst, z = gSetSetpoint u_139 ((nI ((C / 16) % 40000)) - 20000) := ⟨_, rfl⟩
  have hM_156 : Ci Γ l yX6_setSetpoint wsX6_setSetpoint rm_X6_setSetpoint [.ref (a 0), .int ((nI ((C / 16) % 40000)) - 20000)] (xW Γ a u_139) (rSetSetpoint u_139 ((nI ((C / 16) % 40000)) - 20000)) (xW Γ a u_156) := by rw [eu_156]; exact c_X6_setSetpoint Γ l a u_139 ((nI ((C / 16) % 40000)) - 20000)
  refine ca_Via hh hl.1 hM_156 (cwV 1 hts gL_isBounded_X6_setSetpoint rfl rfl rfl (by decide +kernel) ⟨(Nat.le_of_ble_eq_true rfl), (Nat.le_of_ble_eq_true rfl)⟩) (As := [.int ((nI ((C / 16) % 40000)) - 20000)]) (rest := []) rfl dL_isBounded_156 rfl (Nat.le_of_ble_eq_true rfl) hP hD hS (q0 := 0) (ci := 6) rfl rfl rfl (wf := xW Γ a u_156) (xW_addr _ _ _ _) ⟨(Nat.le_of_ble_eq_true rfl), (Nat.le_of_ble_eq_true rfl)⟩ (fun H locs hP hD hS => ?_)
  obtain ⟨σ_156, eσ_156⟩ : ∃ z : Lop, z = fSetR lop0 ((nI ((C / 16) % 40000)) - 20000) := ⟨_, rfl⟩
  have b_156 : (((nI ((C / 16) % 40000)) - 20000) : Int32).toInt = _ := (pk_sub_toInt (a := (C / 16) % 40000) (b := 20000) (by omega) (by omega))
  obtain ⟨s_156, y_156⟩ : rSetSetpoint u_139 ((nI ((C / 16) % 40000)) - 20000) = lPres lop0 0 ∧ ZS u_156 v_139 (nU (nU (nU (nU (nU (nU (nU 0))))))) σ_156 0 lop0 := by rw [eu_156]; exact (eσ_156 ▸ z_sp y_139 (by rw [b_156]; omega) (by rw [b_156]; omega))
  have a_156 : rSetSetpoint u_139 ((nI ((C / 16) % 40000)) - 20000) = 0 := s_156
  refine lv_if_ne (tgt := 166) hx hb dL_isBounded_159 (by decide) (fun c => absurd c (not_ne a_156)) (fun _ => ?_)
  have w10 : v_139 10 = nI (1 + C / 4 % 3000) := (by rw [ev_139, pk_un (by decide), ev_123, pk_un (by decide), ev_103, pk_un (by decide), ev_91, pk_un (by decide), ev_78, pk_un (by decide), ev_65, pk_un (by decide), ev_53, pk_us])
  have w9 : v_139 9 = -(nI (C / 32 % 3000)) := (by rw [ev_139, pk_un (by decide), ev_123, pk_un (by decide), ev_103, pk_un (by decide), ev_91, pk_un (by decide), ev_78, pk_un (by decide), ev_65, pk_us])
  have w11 : v_139 11 = nI (1 + C / 256 % 900) := (by rw [ev_139, pk_un (by decide), ev_123, pk_un (by decide), ev_103, pk_un (by decide), ev_91, pk_un (by decide), ev_78, pk_us])
  have w13 : v_139 13 = nI (1 + C / 8 % 8) := (by rw [ev_139, pk_un (by decide), ev_123, pk_un (by decide), ev_103, pk_un (by decide), ev_91, pk_us])
  have w12 : v_139 12 = 100 := (by rw [ev_139, pk_un (by decide), ev_123, pk_un (by decide), ev_103, pk_us])
  have p2 : lPres σ_156 2 = 0 := by rw [eσ_156, fsr_pres, pk_un (by decide)]; rfl
  obtain ⟨n0, hn0⟩ := LR_new
  have y_6 : ZS u_156 v_139 6 σ_156 0 lop0 := by have e : (nU (nU (nU (nU (nU (nU (nU 0))))))) = 6 := (by decide); rw [e] at y_156; exact y_156
  have hB0 : BS u_156 v_139 σ_156 0 := ⟨y_6, ⟨_, by rw [eσ_156]; exact LR_setR hn0 ⟨by rw [b_156]; omega, by rw [b_156]; omega⟩⟩, o_139, w12, ⟨by rw [w9, p2, neg_T (by omega), zi0]; omega, by rw [w10, p2, nI_toInt (by omega), zi0]; omega⟩, by rw [eσ_156]; rfl⟩
  refine lv_iconst (v := 1) hx hb dL_isBounded_162 (by decide) ?_
  refine lv_goto (tgt := 167) hx hb dL_isBounded_163 (by decide) ?_
  refine lv_istore (lv' := [(6, .int 1), (5, .int (nI (1 + ((C / 8) % 8)))), (4, .int (nI (1 + ((C / 256) % 900)))), (3, .int (-(nI ((C / 32) % 3000)))), (2, .int (nI (1 + ((C / 4) % 3000)))), (1, .ref (a 0)), (0, .int (nI C))]) hx hb dL_isBounded_167 hl (by decide) rfl (fun ls hl => ?_)
  refine lv_iconst (v := 0) hx hb dL_isBounded_169 (by decide) ?_
  refine lv_istore (lv' := [(7, .int 0), (6, .int 1), (5, .int (nI (1 + ((C / 8) % 8)))), (4, .int (nI (1 + ((C / 256) % 900)))), (3, .int (-(nI ((C / 32) % 3000)))), (2, .int (nI (1 + ((C / 4) % 3000)))), (1, .ref (a 0)), (0, .int (nI C))]) hx hb dL_isBounded_170 hl (by decide) rfl (fun ls hl => ?_)
  refine lv_iconst (v := 0) hx hb dL_isBounded_172 (by decide) ?_
  refine lv_istore (lv' := [(8, .int 0), (7, .int 0), (6, .int 1), (5, .int (nI (1 + ((C / 8) % 8)))), (4, .int (nI (1 + ((C / 256) % 900)))), (3, .int (-(nI ((C / 32) % 3000)))), (2, .int (nI (1 + ((C / 4) % 3000)))), (1, .ref (a 0)), (0, .int (nI C))]) hx hb dL_isBounded_173 hl (by decide) rfl (fun ls hl => ?_)
  refine lv_iconst (v := 0) hx hb dL_isBounded_175 (by decide) ?_
  refine lv_istore (lv' := [(9, .int 0), (8, .int 0), (7, .int 0), (6, .int 1), (5, .int (nI (1 + ((C / 8) % 8)))), (4, .int (nI (1 + ((C / 256) % 900)))), (3, .int (-(nI ((C / 32) % 3000)))), (2, .int (nI (1 + ((C / 4) % 3000)))), (1, .ref (a 0)), (0, .int (nI C))]) hx hb dL_isBounded_176 hl (by decide) rfl (fun ls hl => ?_)
  refine lv_iconst (v := 0) hx hb dL_isBounded_178 (by decide) ?_
  refine lv_istore (lv' := [(10, .int 0), (9, .int 0), (8, .int 0), (7, .int 0), (6, .int 1), (5, .int (nI (1 + ((C / 8) % 8)))), (4, .int (nI (1 + ((C / 256) % 900)))), (3, .int (-(nI ((C / 32) % 3000)))), (2, .int (nI (1 + ((C / 4) % 3000)))), (1, .ref (a 0)), (0, .int (nI C))]) hx hb dL_isBounded_179 hl (by decide) rfl (fun ls hl => ?_)
  refine lv_iconst (v := 0) hx hb dL_isBounded_181 (by decide) ?_
  refine lv_istore (lv' := [(11, .int 0), (10, .int 0), (9, .int 0), (8, .int 0), (7, .int 0), (6, .int 1), (5, .int (nI (1 + ((C / 8) % 8)))), (4, .int (nI (1 + ((C / 256) % 900)))), (3, .int (-(nI ((C / 32) % 3000)))), (2, .int (nI (1 + ((C / 4) % 3000)))), (1, .ref (a 0)), (0, .int (nI C))]) hx hb dL_isBounded_182 hl (by decide) rfl (fun ls hl => ?_)
  have hJ_184 : ∀ n : Nat, ∀ (i : Nat) (y : Int32) (x1 : Xst) (σ1 : Lop) (had : Int32) (mode : Int32) (bad : Int32) (good : Int32), (y = nI i) → (i ≤ 60) → (61 ≤ i + n) → (BS x1 v_139 σ1 i) → (had = lPres σ1 2) → (mode = lPres σ1 9) → (bad = lBad σ1) → (good = lGood σ1) → ∀ (H : Heap) (locs : List Loc) (ls : Array Slot), va_P (gD Γ) vwCl (xW Γ a x1) H → va_D A (xW Γ a x1) → va_S A s.heap H locs → lv_has ls 15 [(0, .int (nI C)), (1, .ref (a 0)), (2, .int (nI (1 + ((C / 4) % 3000)))), (3, .int (-(nI ((C / 32) % 3000)))), (4, .int (nI (1 + ((C / 256) % 900)))), (5, .int (nI (1 + ((C / 8) % 8)))), (6, .int 1), (7, .int had), (8, .int mode), (9, .int bad), (10, .int good), (11, .int y)] → W p l e rm_L_isBounded s m args below meth c H locs 64 3699 Q (F0 m 184 ls []) := by
    intro n
    induction n with
    | zero =>
      intro i y x1 σ1 had mode bad good ey hi hn hB e7 e8 e9 e10
      omega
    | succ n ih =>
      intro i y x1 σ1 had mode bad good ey hi hn hB e7 e8 e9 e10 H locs ls hP hD hS hl
      refine lv_iload hx hb dL_isBounded_184 (lv_at hl 11 rfl) ?_
      refine lv_bipush (v := 60) hx hb dL_isBounded_186 (by decide) ?_
      refine lv_icmp_ge (tgt := 399) hx hb dL_isBounded_188 (by decide) (fun c_188 => ?_) (fun c_188 => ?_)
      · -- yes
        have hi60 : i = 60 := by rw [ey, show (60 : Int32) = nI 60 from rfl, nI_leI (by decide) (by omega)] at c_188; omega
        subst hi60
        refine lv_iload hx hb dL_isBounded_399 (lv_at hl 6 rfl) ?_
        refine lv_if_eq (tgt := 446) hx hb dL_isBounded_401 (by decide) (fun c => absurd c (by decide)) (fun _ => ?_)
        refine lv_aload_n hx hb dL_isBounded_404 rfl (lv_at hl 1 rfl) ?_
        refine lv_iconst (v := 3) hx hb dL_isBounded_405 (by decide) ?_
        refine ca_Vla hh hl.1 (c_X6_measure Γ l a x1 3) (cwV 1 hts gL_isBounded_X6_measure rfl rfl rfl (by decide +kernel) ⟨(Nat.le_of_ble_eq_true rfl), (Nat.le_of_ble_eq_true rfl)⟩) (As := [.int 3]) (rest := []) rfl dL_isBounded_406 rfl (Nat.le_of_ble_eq_true rfl) hP hD hS (q0 := 0) (ci := 6) rfl rfl rfl (wf := xW Γ a x1) (xW_addr _ _ _ _) ⟨(Nat.le_of_ble_eq_true rfl), (Nat.le_of_ble_eq_true rfl)⟩ (fun H locs hP hD hS => ?_)
        refine lv_ldc2 hx hb hown (hts (.constantLong RL 57 (60)) (List.mem_of_getElem? (i := 8) rfl)) dL_isBounded_409 ?_
        refine W.lcmp hx hb dL_isBounded_412 ?_
        refine lv_if_ne (tgt := 446) hx hb dL_isBounded_413 (by decide) (fun c => absurd c (not_ne ((lg_cmp_eq _ _).mpr (bs_ticks hB)))) (fun _ => ?_)
        refine lv_aload_n hx hb dL_isBounded_416 rfl (lv_at hl 1 rfl) ?_
        refine lv_iconst (v := 2) hx hb dL_isBounded_417 (by decide) ?_
        refine ca_Vla hh hl.1 (c_X6_measure Γ l a x1 2) (cwV 1 hts gL_isBounded_X6_measure rfl rfl rfl (by decide +kernel) ⟨(Nat.le_of_ble_eq_true rfl), (Nat.le_of_ble_eq_true rfl)⟩) (As := [.int 2]) (rest := []) rfl dL_isBounded_418 rfl (Nat.le_of_ble_eq_true rfl) hP hD hS (q0 := 0) (ci := 6) rfl rfl rfl (wf := xW Γ a x1) (xW_addr _ _ _ _) ⟨(Nat.le_of_ble_eq_true rfl), (Nat.le_of_ble_eq_true rfl)⟩ (fun H locs hP hD hS => ?_)
        refine lv_lconst (v := 0) hx hb dL_isBounded_421 (by decide) ?_
        refine W.lcmp hx hb dL_isBounded_422 ?_
        refine lv_if_lt (tgt := 446) hx hb dL_isBounded_423 (by decide) (fun c => absurd c (mt (lg_cmp_lt _ _).mp (bs_over hB))) (fun _ => ?_)
        refine lv_aload_n hx hb dL_isBounded_426 rfl (lv_at hl 1 rfl) ?_
        obtain ⟨u_427, eu_427⟩ : ∃ z : Xst, z = gUndo x1 := ⟨_, rfl⟩
        have hM_427 : Ci Γ l yX6_undo wsX6_undo rm_X6_undo [.ref (a 0)] (xW Γ a x1) (rUndo x1) (xW Γ a u_427) := by rw [eu_427]; exact c_X6_undo Γ l a x1 hB.1.ok
        refine ca_Via hh hl.1 hM_427 (cwV 0 hts gL_isBounded_X6_undo rfl rfl rfl (by decide +kernel) ⟨(Nat.le_of_ble_eq_true rfl), (Nat.le_of_ble_eq_true rfl)⟩) (As := []) (rest := []) rfl dL_isBounded_427 rfl (Nat.le_of_ble_eq_true rfl) hP hD hS (q0 := 0) (ci := 6) rfl rfl rfl (wf := xW Γ a u_427) (xW_addr _ _ _ _) ⟨(Nat.le_of_ble_eq_true rfl), (Nat.le_of_ble_eq_true rfl)⟩ (fun H locs hP hD hS => ?_)
        obtain ⟨s_427, y_427⟩ : rUndo x1 = nI 5 ∧ ZS u_427 (cBackV (xChg x1) v_139) 5 σ1 0 lop0 := by rw [eu_427]; exact z_undo (U := 5) hB.1
        refine lv_iconst (v := 5) hx hb dL_isBounded_430 (by decide) ?_
        refine lv_icmp_ne (tgt := 446) hx hb dL_isBounded_431 (by decide) (fun c => absurd c (not_ne s_427)) (fun _ => ?_)
        refine lv_aload_n hx hb dL_isBounded_434 rfl (lv_at hl 1 rfl) ?_
        obtain ⟨u_435, eu_435⟩ : ∃ z : Xst, z = gUndo u_427 := ⟨_, rfl⟩
        have hM_435 : Ci Γ l yX6_undo wsX6_undo rm_X6_undo [.ref (a 0)] (xW Γ a u_427) (rUndo u_427) (xW Γ a u_435) := by rw [eu_435]; exact c_X6_undo Γ l a u_427 y_427.ok
        refine ca_Via hh hl.1 hM_435 (cwV 0 hts gL_isBounded_X6_undo rfl rfl rfl (by decide +kernel) ⟨(Nat.le_of_ble_eq_true rfl), (Nat.le_of_ble_eq_true rfl)⟩) (As := []) (rest := []) rfl dL_isBounded_435 rfl (Nat.le_of_ble_eq_true rfl) hP hD hS (q0 := 0) (ci := 6) rfl rfl rfl (wf := xW Γ a u_435) (xW_addr _ _ _ _) ⟨(Nat.le_of_ble_eq_true rfl), (Nat.le_of_ble_eq_true rfl)⟩ (fun H locs hP hD hS => ?_)
        obtain ⟨s_435, y_435⟩ : rUndo u_427 = nI 4 ∧ ZS u_435 (cBackV (xChg u_427) (cBackV (xChg x1) v_139)) 4 σ1 0 lop0 := by rw [eu_435]; exact z_undo (U := 4) y_427
        refine lv_iconst (v := 4) hx hb dL_isBounded_438 (by decide) ?_
        refine lv_icmp_ne (tgt := 446) hx hb dL_isBounded_439 (by decide) (fun c => absurd c (not_ne s_435)) (fun _ => ?_)
        refine lv_iconst (v := 1) hx hb dL_isBounded_442 (by decide) ?_
        refine lv_goto (tgt := 447) hx hb dL_isBounded_443 (by decide) ?_
        exact re_q hQ ha hx hb hr hlk hAe hS dL_isBounded_447 rfl rfl
      · -- no
        have hlt : i < 60 := lt_of_nle (k := 60) (by rw [← ey]; exact c_188) (by omega) (by decide)
        refine lv_iload hx hb dL_isBounded_191 (lv_at hl 6 rfl) ?_
        refine lv_if_eq (tgt := 399) hx hb dL_isBounded_193 (by decide) (fun c => absurd c (by decide)) (fun _ => ?_)
        refine lv_aload_n hx hb dL_isBounded_196 rfl (lv_at hl 1 rfl) ?_
        refine lv_iconst (v := 1) hx hb dL_isBounded_197 (by decide) ?_
        obtain ⟨u_198, eu_198⟩ : ∃ z : Xst, z = gRun x1 1 := ⟨_, rfl⟩
        have hM_198 : Ci Γ l yX6_run wsX6_run rm_X6_run [.ref (a 0), .int 1] (xW Γ a x1) (rRun x1 1) (xW Γ a u_198) := by rw [eu_198]; exact c_X6_run Γ l a x1 1 i (by obtain ⟨nr, hnr⟩ := hB.2.1; rw [hB.1.2.2.2.1]; exact hnr.1) (by omega)
        refine ca_Via hh hl.1 hM_198 (cwV 1 hts gL_isBounded_X6_run rfl rfl rfl (by decide +kernel) ⟨(Nat.le_of_ble_eq_true rfl), (Nat.le_of_ble_eq_true rfl)⟩) (As := [.int 1]) (rest := []) rfl dL_isBounded_198 rfl (Nat.le_of_ble_eq_true rfl) hP hD hS (q0 := 0) (ci := 6) rfl rfl rfl (wf := xW Γ a u_198) (xW_addr _ _ _ _) ⟨(Nat.le_of_ble_eq_true rfl), (Nat.le_of_ble_eq_true rfl)⟩ (fun H locs hP hD hS => ?_)
        obtain ⟨s_198, hB2⟩ := bs_run hB hlt
        rw [← eu_198] at hB2
        refine lv_iload hx hb dL_isBounded_201 (lv_at hl 11 rfl) ?_
        refine lv_iconst (v := 1) hx hb dL_isBounded_203 (by decide) ?_
        refine lv_iadd hx hb dL_isBounded_204 ?_
        refine lv_icmp_ne (tgt := 212) hx hb dL_isBounded_205 (by decide) (fun c => absurd c (not_ne (by rw [s_198, ey]; exact (nI_1 i).symm))) (fun _ => ?_)
        refine lv_iconst (v := 1) hx hb dL_isBounded_208 (by decide) ?_
        refine lv_goto (tgt := 213) hx hb dL_isBounded_209 (by decide) ?_
        refine lv_istore (lv' := [(6, .int 1), (0, .int (nI C)), (1, .ref (a 0)), (2, .int (nI (1 + ((C / 4) % 3000)))), (3, .int (-(nI ((C / 32) % 3000)))), (4, .int (nI (1 + ((C / 256) % 900)))), (5, .int (nI (1 + ((C / 8) % 8)))), (7, .int had), (8, .int mode), (9, .int bad), (10, .int good), (11, .int y)]) hx hb dL_isBounded_213 hl (by decide) rfl (fun ls hl => ?_)
        refine lv_aload_n hx hb dL_isBounded_215 rfl (lv_at hl 2 rfl) ?_
        refine lv_iconst (v := 2) hx hb dL_isBounded_216 (by decide) ?_
        refine ca_Via hh hl.1 (c_X6_value Γ l a u_198 2) (cwV 1 hts gL_isBounded_X6_value rfl rfl rfl (by decide +kernel) ⟨(Nat.le_of_ble_eq_true rfl), (Nat.le_of_ble_eq_true rfl)⟩) (As := [.int 2]) (rest := []) rfl dL_isBounded_217 rfl (Nat.le_of_ble_eq_true rfl) hP hD hS (q0 := 0) (ci := 6) rfl rfl rfl (wf := xW Γ a u_198) (xW_addr _ _ _ _) ⟨(Nat.le_of_ble_eq_true rfl), (Nat.le_of_ble_eq_true rfl)⟩ (fun H locs hP hD hS => ?_)
        obtain ⟨u2, eu2⟩ : ∃ z : Int32, z = lPres (fTick σ1 v_139 0) 2 := ⟨_, rfl⟩
        refine W.eq (g2 := F0 m 220 ls [.int u2]) (by rw [show (rValue u_198 2) = u2 from (by rw [eu2]; exact z_val hB2.1 2 (by decide))]) ?_
        refine lv_istore (lv' := [(12, .int u2), (6, .int 1), (0, .int (nI C)), (1, .ref (a 0)), (2, .int (nI (1 + ((C / 4) % 3000)))), (3, .int (-(nI ((C / 32) % 3000)))), (4, .int (nI (1 + ((C / 256) % 900)))), (5, .int (nI (1 + ((C / 8) % 8)))), (7, .int had), (8, .int mode), (9, .int bad), (10, .int good), (11, .int y)]) hx hb dL_isBounded_220 hl (by decide) rfl (fun ls hl => ?_)
        refine lv_aload_n hx hb dL_isBounded_222 rfl (lv_at hl 3 rfl) ?_
        refine lv_iconst (v := 1) hx hb dL_isBounded_223 (by decide) ?_
        refine ca_Via hh hl.1 (c_X6_value Γ l a u_198 1) (cwV 1 hts gL_isBounded_X6_value rfl rfl rfl (by decide +kernel) ⟨(Nat.le_of_ble_eq_true rfl), (Nat.le_of_ble_eq_true rfl)⟩) (As := [.int 1]) (rest := []) rfl dL_isBounded_224 rfl (Nat.le_of_ble_eq_true rfl) hP hD hS (q0 := 0) (ci := 6) rfl rfl rfl (wf := xW Γ a u_198) (xW_addr _ _ _ _) ⟨(Nat.le_of_ble_eq_true rfl), (Nat.le_of_ble_eq_true rfl)⟩ (fun H locs hP hD hS => ?_)
        obtain ⟨m1, em1⟩ : ∃ z : Int32, z = lPres (fTick σ1 v_139 0) 1 := ⟨_, rfl⟩
        refine W.eq (g2 := F0 m 227 ls [.int m1]) (by rw [show (rValue u_198 1) = m1 from (by rw [em1]; exact z_val hB2.1 1 (by decide))]) ?_
        refine lv_aload_n hx hb dL_isBounded_227 rfl (lv_at hl 3 rfl) ?_
        refine lv_iconst (v := 4) hx hb dL_isBounded_228 (by decide) ?_
        refine ca_Via hh hl.1 (c_X6_value Γ l a u_198 4) (cwV 1 hts gL_isBounded_X6_value rfl rfl rfl (by decide +kernel) ⟨(Nat.le_of_ble_eq_true rfl), (Nat.le_of_ble_eq_true rfl)⟩) (As := [.int 4]) (rest := [.int m1]) rfl dL_isBounded_229 rfl (Nat.le_of_ble_eq_true rfl) hP hD hS (q0 := 0) (ci := 6) rfl rfl rfl (wf := xW Γ a u_198) (xW_addr _ _ _ _) ⟨(Nat.le_of_ble_eq_true rfl), (Nat.le_of_ble_eq_true rfl)⟩ (fun H locs hP hD hS => ?_)
        obtain ⟨p1, ep1⟩ : ∃ z : Int32, z = lPres (fTick σ1 v_139 0) 4 := ⟨_, rfl⟩
        refine W.eq (g2 := F0 m 232 ls [.int p1, .int m1]) (by rw [show (rValue u_198 4) = p1 from (by rw [ep1]; exact z_val hB2.1 4 (by decide))]) ?_
        refine lv_isub hx hb dL_isBounded_232 ?_
        refine lv_istore (lv' := [(13, .int (m1 - p1)), (12, .int u2), (6, .int 1), (0, .int (nI C)), (1, .ref (a 0)), (2, .int (nI (1 + ((C / 4) % 3000)))), (3, .int (-(nI ((C / 32) % 3000)))), (4, .int (nI (1 + ((C / 256) % 900)))), (5, .int (nI (1 + ((C / 8) % 8)))), (7, .int had), (8, .int mode), (9, .int bad), (10, .int good), (11, .int y)]) hx hb dL_isBounded_233 hl (by decide) rfl (fun ls hl => ?_)
        have hJ_254 : ∀ (b : Int32), (b = isB (m1 - p1)) → ∀ (H : Heap) (locs : List Loc) (ls : Array Slot), va_P (gD Γ) vwCl (xW Γ a u_198) H → va_D A (xW Γ a u_198) → va_S A s.heap H locs → lv_has ls 15 [(0, .int (nI C)), (1, .ref (a 0)), (2, .int (nI (1 + ((C / 4) % 3000)))), (3, .int (-(nI ((C / 32) % 3000)))), (4, .int (nI (1 + ((C / 256) % 900)))), (5, .int (nI (1 + ((C / 8) % 8)))), (6, .int 1), (7, .int had), (8, .int mode), (9, .int bad), (10, .int good), (11, .int y), (12, .int u2), (13, .int (m1 - p1))] → W p l e rm_L_isBounded s m args below meth c H locs 64 3699 Q (F0 m 254 ls [.int b]) := by
          intro b eb H locs ls hP hD hS hl
          refine lv_istore (lv' := [(14, .int b), (0, .int (nI C)), (1, .ref (a 0)), (2, .int (nI (1 + ((C / 4) % 3000)))), (3, .int (-(nI ((C / 32) % 3000)))), (4, .int (nI (1 + ((C / 256) % 900)))), (5, .int (nI (1 + ((C / 8) % 8)))), (6, .int 1), (7, .int had), (8, .int mode), (9, .int bad), (10, .int good), (11, .int y), (12, .int u2), (13, .int (m1 - p1))]) hx hb dL_isBounded_254 hl (by decide) rfl (fun ls hl => ?_)
          have hJ_269 : ∀ (b2 : Int32), (b2 = fBad b bad) → ∀ (H : Heap) (locs : List Loc) (ls : Array Slot), va_P (gD Γ) vwCl (xW Γ a u_198) H → va_D A (xW Γ a u_198) → va_S A s.heap H locs → lv_has ls 15 [(0, .int (nI C)), (1, .ref (a 0)), (2, .int (nI (1 + ((C / 4) % 3000)))), (3, .int (-(nI ((C / 32) % 3000)))), (4, .int (nI (1 + ((C / 256) % 900)))), (5, .int (nI (1 + ((C / 8) % 8)))), (6, .int 1), (7, .int had), (8, .int mode), (9, .int bad), (10, .int good), (11, .int y), (12, .int u2), (13, .int (m1 - p1)), (14, .int b)] → W p l e rm_L_isBounded s m args below meth c H locs 64 3699 Q (F0 m 269 ls [.int b2]) := by
            intro b2 eb2 H locs ls hP hD hS hl
            refine lv_istore (lv' := [(9, .int b2), (0, .int (nI C)), (1, .ref (a 0)), (2, .int (nI (1 + ((C / 4) % 3000)))), (3, .int (-(nI ((C / 32) % 3000)))), (4, .int (nI (1 + ((C / 256) % 900)))), (5, .int (nI (1 + ((C / 8) % 8)))), (6, .int 1), (7, .int had), (8, .int mode), (10, .int good), (11, .int y), (12, .int u2), (13, .int (m1 - p1)), (14, .int b)]) hx hb dL_isBounded_269 hl (by decide) rfl (fun ls hl => ?_)
            have hJ_284 : ∀ (b3 : Int32), (b3 = fGood b good) → ∀ (H : Heap) (locs : List Loc) (ls : Array Slot), va_P (gD Γ) vwCl (xW Γ a u_198) H → va_D A (xW Γ a u_198) → va_S A s.heap H locs → lv_has ls 15 [(0, .int (nI C)), (1, .ref (a 0)), (2, .int (nI (1 + ((C / 4) % 3000)))), (3, .int (-(nI ((C / 32) % 3000)))), (4, .int (nI (1 + ((C / 256) % 900)))), (5, .int (nI (1 + ((C / 8) % 8)))), (6, .int 1), (7, .int had), (8, .int mode), (9, .int b2), (10, .int good), (11, .int y), (12, .int u2), (13, .int (m1 - p1)), (14, .int b)] → W p l e rm_L_isBounded s m args below meth c H locs 64 3699 Q (F0 m 284 ls [.int b3]) := by
              intro b3 eb3 H locs ls hP hD hS hl
              refine lv_istore (lv' := [(10, .int b3), (0, .int (nI C)), (1, .ref (a 0)), (2, .int (nI (1 + ((C / 4) % 3000)))), (3, .int (-(nI ((C / 32) % 3000)))), (4, .int (nI (1 + ((C / 256) % 900)))), (5, .int (nI (1 + ((C / 8) % 8)))), (6, .int 1), (7, .int had), (8, .int mode), (9, .int b2), (11, .int y), (12, .int u2), (13, .int (m1 - p1)), (14, .int b)]) hx hb dL_isBounded_284 hl (by decide) rfl (fun ls hl => ?_)
              have hJ_322 : ∀ (m2 : Int32) (b4 : Int32) (g4 : Int32), (m2 = if lTurn mode b2 b3 (nI (1 + (C / 8) % 8)) = 0 then mode else 1 - mode) → (b4 = if lTurn mode b2 b3 (nI (1 + (C / 8) % 8)) = 0 then b2 else 0) → (g4 = if lTurn mode b2 b3 (nI (1 + (C / 8) % 8)) = 0 then b3 else 0) → ∀ (H : Heap) (locs : List Loc) (ls : Array Slot), va_P (gD Γ) vwCl (xW Γ a u_198) H → va_D A (xW Γ a u_198) → va_S A s.heap H locs → lv_has ls 15 [(0, .int (nI C)), (1, .ref (a 0)), (2, .int (nI (1 + ((C / 4) % 3000)))), (3, .int (-(nI ((C / 32) % 3000)))), (4, .int (nI (1 + ((C / 256) % 900)))), (5, .int (nI (1 + ((C / 8) % 8)))), (6, .int 1), (7, .int had), (8, .int m2), (9, .int b4), (10, .int g4), (11, .int y), (12, .int u2), (13, .int (m1 - p1)), (14, .int b)] → W p l e rm_L_isBounded s m args below meth c H locs 64 3699 Q (F0 m 322 ls []) := by
                intro m2 b4 g4 em eb4 eg4 H locs ls hP hD hS hl
                obtain ⟨k1, k2, k3, k4, k5, k6, k7, k8⟩ := bs_law (b := b) (t := lTurn mode b2 b3 (nI (1 + (C / 8) % 8))) hB hlt (by rw [eb, em1, ep1]) (by rw [e8, eb2, e9, eb3, e10, w13])
                refine lv_iload hx hb dL_isBounded_322 (lv_at hl 6 rfl) ?_
                refine lv_if_eq (tgt := 386) hx hb dL_isBounded_324 (by decide) (fun c => absurd c (by decide)) (fun _ => ?_)
                refine lv_iload hx hb dL_isBounded_327 (lv_at hl 12 rfl) ?_
                refine lv_iload_n hx hb dL_isBounded_329 rfl (lv_at hl 2 rfl) ?_
                refine lv_icmp_gt (tgt := 386) hx hb dL_isBounded_330 (by decide) (fun c => absurd c (by rw [eu2, ← w10]; exact k4)) (fun _ => ?_)
                refine lv_iload hx hb dL_isBounded_333 (lv_at hl 12 rfl) ?_
                refine lv_iload_n hx hb dL_isBounded_335 rfl (lv_at hl 3 rfl) ?_
                refine lv_icmp_lt (tgt := 386) hx hb dL_isBounded_336 (by decide) (fun c => absurd c (by rw [eu2, ← w9]; exact k5)) (fun _ => ?_)
                refine lv_iload hx hb dL_isBounded_339 (lv_at hl 12 rfl) ?_
                refine lv_iload hx hb dL_isBounded_341 (lv_at hl 7 rfl) ?_
                refine lv_isub hx hb dL_isBounded_343 ?_
                refine lv_iload hx hb dL_isBounded_344 (lv_at hl 4 rfl) ?_
                refine lv_icmp_gt (tgt := 386) hx hb dL_isBounded_346 (by decide) (fun c => absurd c (by rw [eu2, e7, ← w11]; exact k6)) (fun _ => ?_)
                refine lv_iload hx hb dL_isBounded_349 (lv_at hl 7 rfl) ?_
                refine lv_iload hx hb dL_isBounded_351 (lv_at hl 12 rfl) ?_
                refine lv_isub hx hb dL_isBounded_353 ?_
                refine lv_iload hx hb dL_isBounded_354 (lv_at hl 4 rfl) ?_
                refine lv_icmp_gt (tgt := 386) hx hb dL_isBounded_356 (by decide) (fun c => absurd c (by rw [eu2, e7, ← w11]; exact k7)) (fun _ => ?_)
                refine lv_aload_n hx hb dL_isBounded_359 rfl (lv_at hl 1 rfl) ?_
                refine lv_bipush (v := 9) hx hb dL_isBounded_360 (by decide) ?_
                refine ca_Via hh hl.1 (c_X6_value Γ l a u_198 9) (cwV 1 hts gL_isBounded_X6_value rfl rfl rfl (by decide +kernel) ⟨(Nat.le_of_ble_eq_true rfl), (Nat.le_of_ble_eq_true rfl)⟩) (As := [.int 9]) (rest := []) rfl dL_isBounded_362 rfl (Nat.le_of_ble_eq_true rfl) hP hD hS (q0 := 0) (ci := 6) rfl rfl rfl (wf := xW Γ a u_198) (xW_addr _ _ _ _) ⟨(Nat.le_of_ble_eq_true rfl), (Nat.le_of_ble_eq_true rfl)⟩ (fun H locs hP hD hS => ?_)
                refine lv_iload hx hb dL_isBounded_365 (lv_at hl 8 rfl) ?_
                refine lv_icmp_ne (tgt := 386) hx hb dL_isBounded_367 (by decide) (fun c => absurd c (not_ne ((z_val hB2.1 9 (by decide)).trans (k1.trans (by rw [em, e8]))))) (fun _ => ?_)
                refine lv_aload_n hx hb dL_isBounded_370 rfl (lv_at hl 1 rfl) ?_
                refine lv_bipush (v := 9) hx hb dL_isBounded_371 (by decide) ?_
                refine lv_iconst (v := 0) hx hb dL_isBounded_373 (by decide) ?_
                refine ca_Via hh hl.1 (c_X6_recorded Γ l a u_198 9 0) (cwV 2 hts gL_isBounded_X6_recorded rfl rfl rfl (by decide +kernel) ⟨(Nat.le_of_ble_eq_true rfl), (Nat.le_of_ble_eq_true rfl)⟩) (As := [.int 9, .int 0]) (rest := []) rfl dL_isBounded_374 rfl (Nat.le_of_ble_eq_true rfl) hP hD hS (q0 := 0) (ci := 6) rfl rfl rfl (wf := xW Γ a u_198) (xW_addr _ _ _ _) ⟨(Nat.le_of_ble_eq_true rfl), (Nat.le_of_ble_eq_true rfl)⟩ (fun H locs hP hD hS => ?_)
                refine lv_iload hx hb dL_isBounded_377 (lv_at hl 8 rfl) ?_
                refine lv_icmp_ne (tgt := 386) hx hb dL_isBounded_379 (by decide) (fun c => absurd c (not_ne ((by rw [eu_198]; exact k8.trans (k1.trans (by rw [em, e8])))))) (fun _ => ?_)
                refine lv_iconst (v := 1) hx hb dL_isBounded_382 (by decide) ?_
                refine lv_goto (tgt := 387) hx hb dL_isBounded_383 (by decide) ?_
                refine lv_istore (lv' := [(6, .int 1), (0, .int (nI C)), (1, .ref (a 0)), (2, .int (nI (1 + ((C / 4) % 3000)))), (3, .int (-(nI ((C / 32) % 3000)))), (4, .int (nI (1 + ((C / 256) % 900)))), (5, .int (nI (1 + ((C / 8) % 8)))), (7, .int had), (8, .int m2), (9, .int b4), (10, .int g4), (11, .int y), (12, .int u2), (13, .int (m1 - p1)), (14, .int b)]) hx hb dL_isBounded_387 hl (by decide) rfl (fun ls hl => ?_)
                refine lv_iload hx hb dL_isBounded_389 (lv_at hl 12 rfl) ?_
                refine lv_istore (lv' := [(7, .int u2), (6, .int 1), (0, .int (nI C)), (1, .ref (a 0)), (2, .int (nI (1 + ((C / 4) % 3000)))), (3, .int (-(nI ((C / 32) % 3000)))), (4, .int (nI (1 + ((C / 256) % 900)))), (5, .int (nI (1 + ((C / 8) % 8)))), (8, .int m2), (9, .int b4), (10, .int g4), (11, .int y), (12, .int u2), (13, .int (m1 - p1)), (14, .int b)]) hx hb dL_isBounded_391 hl (by decide) rfl (fun ls hl => ?_)
                refine lv_iinc (v := (y + 1)) (lv' := [(11, .int (y + 1)), (7, .int u2), (6, .int 1), (0, .int (nI C)), (1, .ref (a 0)), (2, .int (nI (1 + ((C / 4) % 3000)))), (3, .int (-(nI ((C / 32) % 3000)))), (4, .int (nI (1 + ((C / 256) % 900)))), (5, .int (nI (1 + ((C / 8) % 8)))), (8, .int m2), (9, .int b4), (10, .int g4), (12, .int u2), (13, .int (m1 - p1)), (14, .int b)]) hx hb dL_isBounded_393 hl (k := 11) rfl rfl (by decide) rfl (fun ls hl => ?_)
                refine lv_goto (tgt := 184) hx hb dL_isBounded_396 (by decide) ?_
                exact ih (i + 1) _ _ _ u2 m2 b4 g4 (by rw [ey]; exact nI_1 i) (by omega) (by omega) hB2 eu2 (by rw [k1, em, e8]) (by rw [k2, eb4, eb2, e9]) (by rw [k3, eg4, eb3, e10]) _ _ _ hP hD hS (lv_sub hl [3, 4, 5, 6, 7, 8, 2, 1, 9, 10, 11, 0] rfl)
              refine lv_iload hx hb dL_isBounded_286 (lv_at hl 9 rfl) ?_
              refine lv_if_ne (tgt := 301) hx hb dL_isBounded_288 (by decide) (fun c_288 => ?_) (fun c_288 => ?_)
              · -- yes
                refine lv_iload hx hb dL_isBounded_301 (lv_at hl 0 rfl) ?_
                refine lv_iconst (v := 2) hx hb dL_isBounded_303 (by decide) ?_
                refine lv_iload hx hb dL_isBounded_304 (lv_at hl 6 rfl) ?_
                refine lv_imul hx hb dL_isBounded_306 ?_
                refine lv_icmp_lt (tgt := 322) hx hb dL_isBounded_307 (by decide) (fun c_307 => ?_) (fun c_307 => ?_)
                · -- yes
                  exact hJ_322 mode b2 b3 (by first | rw [lT_a c_288 c_295, if_pos rfl] | rw [lT_b c_288 c_295, if_neg i32_10] | rw [lT_c c_288 c_307, if_pos rfl] | rw [lT_d c_288 c_307, if_neg i32_10]) (by first | rw [lT_a c_288 c_295, if_pos rfl] | rw [lT_b c_288 c_295, if_neg i32_10] | rw [lT_c c_288 c_307, if_pos rfl] | rw [lT_d c_288 c_307, if_neg i32_10]) (by first | rw [lT_a c_288 c_295, if_pos rfl] | rw [lT_b c_288 c_295, if_neg i32_10] | rw [lT_c c_288 c_307, if_pos rfl] | rw [lT_d c_288 c_307, if_neg i32_10]) _ _ _ hP hD hS (lv_sub hl [1, 2, 3, 4, 5, 6, 7, 8, 9, 10, 0, 11, 12, 13, 14] rfl)
                · -- no
                  refine lv_iconst (v := 1) hx hb dL_isBounded_310 (by decide) ?_
                  refine lv_iload hx hb dL_isBounded_311 (lv_at hl 9 rfl) ?_
                  refine lv_isub hx hb dL_isBounded_313 ?_
                  refine lv_istore (lv' := [(8, .int (1 - mode)), (10, .int b3), (0, .int (nI C)), (1, .ref (a 0)), (2, .int (nI (1 + ((C / 4) % 3000)))), (3, .int (-(nI ((C / 32) % 3000)))), (4, .int (nI (1 + ((C / 256) % 900)))), (5, .int (nI (1 + ((C / 8) % 8)))), (6, .int 1), (7, .int had), (9, .int b2), (11, .int y), (12, .int u2), (13, .int (m1 - p1)), (14, .int b)]) hx hb dL_isBounded_314 hl (by decide) rfl (fun ls hl => ?_)
                  refine lv_iconst (v := 0) hx hb dL_isBounded_316 (by decide) ?_
                  refine lv_istore (lv' := [(9, .int 0), (8, .int (1 - mode)), (10, .int b3), (0, .int (nI C)), (1, .ref (a 0)), (2, .int (nI (1 + ((C / 4) % 3000)))), (3, .int (-(nI ((C / 32) % 3000)))), (4, .int (nI (1 + ((C / 256) % 900)))), (5, .int (nI (1 + ((C / 8) % 8)))), (6, .int 1), (7, .int had), (11, .int y), (12, .int u2), (13, .int (m1 - p1)), (14, .int b)]) hx hb dL_isBounded_317 hl (by decide) rfl (fun ls hl => ?_)
                  refine lv_iconst (v := 0) hx hb dL_isBounded_319 (by decide) ?_
                  refine lv_istore (lv' := [(10, .int 0), (9, .int 0), (8, .int (1 - mode)), (0, .int (nI C)), (1, .ref (a 0)), (2, .int (nI (1 + ((C / 4) % 3000)))), (3, .int (-(nI ((C / 32) % 3000)))), (4, .int (nI (1 + ((C / 256) % 900)))), (5, .int (nI (1 + ((C / 8) % 8)))), (6, .int 1), (7, .int had), (11, .int y), (12, .int u2), (13, .int (m1 - p1)), (14, .int b)]) hx hb dL_isBounded_320 hl (by decide) rfl (fun ls hl => ?_)
                  exact hJ_322 (1 - mode) 0 0 (by first | rw [lT_a c_288 c_295, if_pos rfl] | rw [lT_b c_288 c_295, if_neg i32_10] | rw [lT_c c_288 c_307, if_pos rfl] | rw [lT_d c_288 c_307, if_neg i32_10]) (by first | rw [lT_a c_288 c_295, if_pos rfl] | rw [lT_b c_288 c_295, if_neg i32_10] | rw [lT_c c_288 c_307, if_pos rfl] | rw [lT_d c_288 c_307, if_neg i32_10]) (by first | rw [lT_a c_288 c_295, if_pos rfl] | rw [lT_b c_288 c_295, if_neg i32_10] | rw [lT_c c_288 c_307, if_pos rfl] | rw [lT_d c_288 c_307, if_neg i32_10]) _ _ _ hP hD hS (lv_sub hl [3, 4, 5, 6, 7, 8, 9, 10, 2, 1, 0, 11, 12, 13, 14] rfl)
              · -- no
                refine lv_iload hx hb dL_isBounded_291 (lv_at hl 10 rfl) ?_
                refine lv_iload hx hb dL_isBounded_293 (lv_at hl 6 rfl) ?_
                refine lv_icmp_lt (tgt := 322) hx hb dL_isBounded_295 (by decide) (fun c_295 => ?_) (fun c_295 => ?_)
                · -- yes
                  exact hJ_322 mode b2 b3 (by first | rw [lT_a c_288 c_295, if_pos rfl] | rw [lT_b c_288 c_295, if_neg i32_10] | rw [lT_c c_288 c_307, if_pos rfl] | rw [lT_d c_288 c_307, if_neg i32_10]) (by first | rw [lT_a c_288 c_295, if_pos rfl] | rw [lT_b c_288 c_295, if_neg i32_10] | rw [lT_c c_288 c_307, if_pos rfl] | rw [lT_d c_288 c_307, if_neg i32_10]) (by first | rw [lT_a c_288 c_295, if_pos rfl] | rw [lT_b c_288 c_295, if_neg i32_10] | rw [lT_c c_288 c_307, if_pos rfl] | rw [lT_d c_288 c_307, if_neg i32_10]) _ _ _ hP hD hS (lv_sub hl [1, 2, 3, 4, 5, 6, 7, 8, 9, 10, 0, 11, 12, 13, 14] rfl)
                · -- no
                  refine lv_goto (tgt := 310) hx hb dL_isBounded_298 (by decide) ?_
                  refine lv_iconst (v := 1) hx hb dL_isBounded_310 (by decide) ?_
                  refine lv_iload hx hb dL_isBounded_311 (lv_at hl 9 rfl) ?_
                  refine lv_isub hx hb dL_isBounded_313 ?_
                  refine lv_istore (lv' := [(8, .int (1 - mode)), (10, .int b3), (0, .int (nI C)), (1, .ref (a 0)), (2, .int (nI (1 + ((C / 4) % 3000)))), (3, .int (-(nI ((C / 32) % 3000)))), (4, .int (nI (1 + ((C / 256) % 900)))), (5, .int (nI (1 + ((C / 8) % 8)))), (6, .int 1), (7, .int had), (9, .int b2), (11, .int y), (12, .int u2), (13, .int (m1 - p1)), (14, .int b)]) hx hb dL_isBounded_314 hl (by decide) rfl (fun ls hl => ?_)
                  refine lv_iconst (v := 0) hx hb dL_isBounded_316 (by decide) ?_
                  refine lv_istore (lv' := [(9, .int 0), (8, .int (1 - mode)), (10, .int b3), (0, .int (nI C)), (1, .ref (a 0)), (2, .int (nI (1 + ((C / 4) % 3000)))), (3, .int (-(nI ((C / 32) % 3000)))), (4, .int (nI (1 + ((C / 256) % 900)))), (5, .int (nI (1 + ((C / 8) % 8)))), (6, .int 1), (7, .int had), (11, .int y), (12, .int u2), (13, .int (m1 - p1)), (14, .int b)]) hx hb dL_isBounded_317 hl (by decide) rfl (fun ls hl => ?_)
                  refine lv_iconst (v := 0) hx hb dL_isBounded_319 (by decide) ?_
                  refine lv_istore (lv' := [(10, .int 0), (9, .int 0), (8, .int (1 - mode)), (0, .int (nI C)), (1, .ref (a 0)), (2, .int (nI (1 + ((C / 4) % 3000)))), (3, .int (-(nI ((C / 32) % 3000)))), (4, .int (nI (1 + ((C / 256) % 900)))), (5, .int (nI (1 + ((C / 8) % 8)))), (6, .int 1), (7, .int had), (11, .int y), (12, .int u2), (13, .int (m1 - p1)), (14, .int b)]) hx hb dL_isBounded_320 hl (by decide) rfl (fun ls hl => ?_)
                  exact hJ_322 (1 - mode) 0 0 (by first | rw [lT_a c_288 c_295, if_pos rfl] | rw [lT_b c_288 c_295, if_neg i32_10] | rw [lT_c c_288 c_307, if_pos rfl] | rw [lT_d c_288 c_307, if_neg i32_10]) (by first | rw [lT_a c_288 c_295, if_pos rfl] | rw [lT_b c_288 c_295, if_neg i32_10] | rw [lT_c c_288 c_307, if_pos rfl] | rw [lT_d c_288 c_307, if_neg i32_10]) (by first | rw [lT_a c_288 c_295, if_pos rfl] | rw [lT_b c_288 c_295, if_neg i32_10] | rw [lT_c c_288 c_307, if_pos rfl] | rw [lT_d c_288 c_307, if_neg i32_10]) _ _ _ hP hD hS (lv_sub hl [3, 4, 5, 6, 7, 8, 9, 10, 2, 1, 0, 11, 12, 13, 14] rfl)
            refine lv_iload hx hb dL_isBounded_271 (lv_at hl 14 rfl) ?_
            refine lv_if_eq (tgt := 280) hx hb dL_isBounded_273 (by decide) (fun c_273 => ?_) (fun c_273 => ?_)
            · -- yes
              refine lv_iload hx hb dL_isBounded_280 (lv_at hl 10 rfl) ?_
              refine lv_iconst (v := 1) hx hb dL_isBounded_282 (by decide) ?_
              refine lv_iadd hx hb dL_isBounded_283 ?_
              exact hJ_284 (good + 1) (by unfold fGood; (try first | rw [if_pos c_188] | rw [if_neg c_188]); (try first | rw [if_pos c_273] | rw [if_neg c_273])) _ _ _ hP hD hS (lv_sub hl [1, 2, 3, 4, 5, 6, 7, 8, 9, 0, 10, 11, 12, 13, 14] rfl)
            · -- no
              refine lv_iconst (v := 0) hx hb dL_isBounded_276 (by decide) ?_
              refine lv_goto (tgt := 284) hx hb dL_isBounded_277 (by decide) ?_
              exact hJ_284 0 (by unfold fGood; (try first | rw [if_pos c_188] | rw [if_neg c_188]); (try first | rw [if_pos c_273] | rw [if_neg c_273])) _ _ _ hP hD hS (lv_sub hl [1, 2, 3, 4, 5, 6, 7, 8, 9, 0, 10, 11, 12, 13, 14] rfl)
          refine lv_iload hx hb dL_isBounded_256 (lv_at hl 0 rfl) ?_
          refine lv_if_eq (tgt := 268) hx hb dL_isBounded_258 (by decide) (fun c_258 => ?_) (fun c_258 => ?_)
          · -- yes
            refine lv_iconst (v := 0) hx hb dL_isBounded_268 (by decide) ?_
            exact hJ_269 0 (by unfold fBad; (try first | rw [if_pos c_188] | rw [if_neg c_188]); (try first | rw [if_pos c_258] | rw [if_neg c_258])) _ _ _ hP hD hS (lv_sub hl [1, 2, 3, 4, 5, 6, 7, 8, 9, 10, 11, 12, 13, 14, 0] rfl)
          · -- no
            refine lv_iload hx hb dL_isBounded_261 (lv_at hl 10 rfl) ?_
            refine lv_iconst (v := 1) hx hb dL_isBounded_263 (by decide) ?_
            refine lv_iadd hx hb dL_isBounded_264 ?_
            refine lv_goto (tgt := 269) hx hb dL_isBounded_265 (by decide) ?_
            exact hJ_269 (bad + 1) (by unfold fBad; (try first | rw [if_pos c_188] | rw [if_neg c_188]); (try first | rw [if_pos c_258] | rw [if_neg c_258])) _ _ _ hP hD hS (lv_sub hl [1, 2, 3, 4, 5, 6, 7, 8, 9, 10, 11, 12, 13, 14, 0] rfl)
        refine lv_iload hx hb dL_isBounded_235 (lv_at hl 0 rfl) ?_
        refine lv_bipush (v := 100) hx hb dL_isBounded_237 (by decide) ?_
        refine lv_icmp_gt (tgt := 249) hx hb dL_isBounded_239 (by decide) (fun c_239 => ?_) (fun c_239 => ?_)
        · -- yes
          refine lv_iconst (v := 1) hx hb dL_isBounded_249 (by decide) ?_
          refine lv_goto (tgt := 254) hx hb dL_isBounded_250 (by decide) ?_
          exact hJ_254 1 (by unfold isB; (try first | rw [if_pos c_188] | rw [if_neg c_188]); (try first | rw [if_pos c_239] | rw [if_neg c_239])) _ _ _ hP hD hS (lv_sub hl [3, 4, 5, 6, 7, 8, 2, 9, 10, 11, 12, 13, 1, 0] rfl)
        · -- no
          refine lv_iload hx hb dL_isBounded_242 (lv_at hl 0 rfl) ?_
          refine lv_bipush (v := (-100)) hx hb dL_isBounded_244 (by decide) ?_
          refine lv_icmp_ge (tgt := 253) hx hb dL_isBounded_246 (by decide) (fun c_246 => ?_) (fun c_246 => ?_)
          · -- yes
            refine lv_iconst (v := 0) hx hb dL_isBounded_253 (by decide) ?_
            exact hJ_254 0 (by unfold isB; (try first | rw [if_pos c_188] | rw [if_neg c_188]); (try first | rw [if_pos c_239] | rw [if_neg c_239]); (try first | rw [if_pos c_246] | rw [if_neg c_246])) _ _ _ hP hD hS (lv_sub hl [3, 4, 5, 6, 7, 8, 2, 9, 10, 11, 12, 13, 1, 0] rfl)
          · -- no
            refine lv_iconst (v := 1) hx hb dL_isBounded_249 (by decide) ?_
            refine lv_goto (tgt := 254) hx hb dL_isBounded_250 (by decide) ?_
            exact hJ_254 1 (by unfold isB; (try first | rw [if_pos c_188] | rw [if_neg c_188]); (try first | rw [if_pos c_239] | rw [if_neg c_239]); (try first | rw [if_pos c_246] | rw [if_neg c_246])) _ _ _ hP hD hS (lv_sub hl [3, 4, 5, 6, 7, 8, 2, 9, 10, 11, 12, 13, 1, 0] rfl)
  exact hJ_184 61 0 0 _ _ 0 0 0 0 rfl (by omega) (by omega) hB0 p2.symm (by rw [eσ_156, fsr_pres, pk_un (by decide)]; rfl) (by rw [eσ_156]; rfl) (by rw [eσ_156]; rfl) _ _ _ hP hD hS (lv_sub hl [11, 10, 9, 8, 7, 6, 5, 4, 3, 2, 1, 0] rfl)
