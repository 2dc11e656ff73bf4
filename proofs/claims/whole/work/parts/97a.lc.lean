set_option maxHeartbeats 2000000 in
set_option maxRecDepth 100000 in
theorem L_0 {Γ : gT} {p : Program} {l : Launch} {e : Env} {s : State} {m : MethodId} {below : List Frame} {meth : Method} {c : Code} {A : Nat → Prop} {a a2 : Nat → Nat} {b L i : Nat} {xs : Nat → Int32} {Q : State → Prop} (hh : Hd Γ p s m #[.ref b] c cL_law RL 4 wsL_law A) (hX : va_X b L xs s s.heap) (hbl : b < s.heap.size) (hbA : ¬ A b) (hi : i + 3 ≤ L) (hL : L ≤ 1536) {x : Xst} {μ : Mst} (hr : REL x μ) {H : Heap} {locs : List Loc} {ls : Array Slot} (hP : va_P (gD Γ) vwCl (xW Γ a x ++ modW Γ a2 0 μ) H) (hD : va_D A (xW Γ a x ++ modW Γ a2 0 μ)) (hS : va_S A s.heap H locs) (hl : lv_has ls 4 [(0, .ref b), (1, .ref (a 0)), (2, .ref (a2 0)), (3, .int (nI i))])
    (kk : ∀ (x1 : Xst) (μ1 : Mst) (H1 : Heap) (locs1 : List Loc) (ls1 : Array Slot), REL x1 μ1 → va_P (gD Γ) vwCl (xW Γ a x1 ++ modW Γ a2 0 μ1) H1 → va_D A (xW Γ a x1 ++ modW Γ a2 0 μ1) → va_S A s.heap H1 locs1 → lv_has ls1 4 [(0, .ref b), (1, .ref (a 0)), (2, .ref (a2 0)), (3, .int (nI i))] → W p l e room_1 s m #[.ref b] below meth c H1 locs1 600000 7302249 Q (F0 m 854 ls1 [])) : W p l e room_1 s m #[.ref b] below meth c H locs 600000 7302249 Q (F0 m 176 ls []) := by
  obtain ⟨hx, hb, hml, hown, hts⟩ := id hh.1
  obtain ⟨f_c, f_u, f_l0, ⟨L0, f_L, f_L2⟩, f_len, f_nm, ⟨N0, f_N, f_N7, f_N2⟩, f_ok, f_w, f_s, f_k, f_B, f_B1, f_B2, J0, f_J, f_J6, f_J7⟩ := REL_facts hr
  have h_1 : vp_in (nI i + 1) L := by rw [nI_1]; exact vp_in_nI (by omega) (by omega)
  have h_2 : vp_in (nI i + 2) L := by rw [show nI i + 2 = nI (i + 2) from nI_add i 2]; exact vp_in_nI (by omega) (by omega)
  refine lv_aload_n hx hb dL_law_176 rfl (lv_at hl 1 rfl) ?_
  refine lv_aload_n hx hb dL_law_177 rfl (lv_at hl 0 rfl) ?_
  refine lv_iload_n hx hb dL_law_178 rfl (lv_at hl 3 rfl) ?_
  refine lv_iconst (v := 1) hx hb dL_law_179 (by decide) ?_
  refine lv_iadd hx hb dL_law_180 ?_
  refine va_sld hx hb hX hbl hbA hS h_1 dL_law_181 ?_
  refine lv_aload_n hx hb dL_law_182 rfl (lv_at hl 0 rfl) ?_
  refine lv_iload_n hx hb dL_law_183 rfl (lv_at hl 3 rfl) ?_
  refine lv_iconst (v := 2) hx hb dL_law_184 (by decide) ?_
  refine lv_iadd hx hb dL_law_185 ?_
  refine va_sld hx hb hX hbl hbA hS h_2 dL_law_186 ?_
  refine la_i (pre := []) (w := xW Γ a x) (w1 := xW Γ a (gSetParameter x (xs (nI i + 1).toNatClampNeg) (xs (nI i + 2).toNatClampNeg))) (post := modW Γ a2 0 μ) hh hl.1 (c_X6_setParameter Γ l a x (xs (nI i + 1).toNatClampNeg) (xs (nI i + 2).toNatClampNeg)  f_c) (cwV 2 hts gL_law_X6_setParameter rfl rfl rfl (by decide +kernel) ⟨(Nat.le_of_ble_eq_true rfl), (Nat.le_of_ble_eq_true rfl)⟩) (As := [.int (xs (nI i + 1).toNatClampNeg), .int (xs (nI i + 2).toNatClampNeg)]) (rest := []) rfl dL_law_187 rfl (Nat.le_of_ble_eq_true rfl) hP hD hS (q0 := 0) (ci := 6) (x_at Γ a x _) rfl rfl (xW_len2 Γ a _ _) (xW_addr _ _ _ _) ⟨(Nat.le_of_ble_eq_true rfl), (Nat.le_of_ble_eq_true rfl)⟩ (fun H locs hP hD hS => ?_)
  refine lv_aload_n hx hb dL_law_190 rfl (lv_at hl 2 rfl) ?_
  refine lv_aload_n hx hb dL_law_191 rfl (lv_at hl 0 rfl) ?_
  refine lv_iload_n hx hb dL_law_192 rfl (lv_at hl 3 rfl) ?_
  refine lv_iconst (v := 1) hx hb dL_law_193 (by decide) ?_
  refine lv_iadd hx hb dL_law_194 ?_
  refine va_sld hx hb hX hbl hbA hS h_1 dL_law_195 ?_
  refine lv_aload_n hx hb dL_law_196 rfl (lv_at hl 0 rfl) ?_
  refine lv_iload_n hx hb dL_law_197 rfl (lv_at hl 3 rfl) ?_
  refine lv_iconst (v := 2) hx hb dL_law_198 (by decide) ?_
  refine lv_iadd hx hb dL_law_199 ?_
  refine va_sld hx hb hX hbl hbA hS h_2 dL_law_200 ?_
  refine la_im (pre := xW Γ a (gSetParameter x (xs (nI i + 1).toNatClampNeg) (xs (nI i + 2).toNatClampNeg))) (w := modW Γ a2 0 μ) (w1 := modW Γ a2 0 (hSetParameter μ (xs (nI i + 1).toNatClampNeg) (xs (nI i + 2).toNatClampNeg))) hh hl.1 (c_X7_setParameter Γ l a2 0 μ (xs (nI i + 1).toNatClampNeg) (xs (nI i + 2).toNatClampNeg)  f_u) (cwV 2 hts gL_law_X7_setParameter rfl rfl rfl (by decide +kernel) ⟨(Nat.le_of_ble_eq_true rfl), (Nat.le_of_ble_eq_true rfl)⟩) (As := [.int (xs (nI i + 1).toNatClampNeg), .int (xs (nI i + 2).toNatClampNeg)]) (rest := [.int (rSetParameter x (xs (nI i + 1).toNatClampNeg) (xs (nI i + 2).toNatClampNeg))]) rfl dL_law_201 rfl (Nat.le_of_ble_eq_true rfl) hP hD hS (q0 := 64) (ci := 7) (m_at Γ a a2 _ μ) rfl rfl (modW_len2 Γ a2 _ _) (modW_addr2 Γ a2 _ _) ⟨(Nat.le_of_ble_eq_true rfl), (Nat.le_of_ble_eq_true rfl)⟩ (fun H locs hP hD hS => ?_)
  refine lv_icmp_eq (tgt := 854) hx hb dL_law_204 (by decide) (fun c_ => ?_) (fun c_ => ?_)
  · exact kk _ _ _ _ _ ((s_setParameter hr (xs (nI i + 1).toNatClampNeg) (xs (nI i + 2).toNatClampNeg)).2) hP hD hS hl
  · exact absurd ((s_setParameter hr (xs (nI i + 1).toNatClampNeg) (xs (nI i + 2).toNatClampNeg)).1) c_
set_option maxHeartbeats 2000000 in
set_option maxRecDepth 100000 in
theorem L_1 {Γ : gT} {p : Program} {l : Launch} {e : Env} {s : State} {m : MethodId} {below : List Frame} {meth : Method} {c : Code} {A : Nat → Prop} {a a2 : Nat → Nat} {b L i : Nat} {xs : Nat → Int32} {Q : State → Prop} (hh : Hd Γ p s m #[.ref b] c cL_law RL 4 wsL_law A) (hX : va_X b L xs s s.heap) (hbl : b < s.heap.size) (hbA : ¬ A b) (hi : i + 3 ≤ L) (hL : L ≤ 1536) {x : Xst} {μ : Mst} (hr : REL x μ) {H : Heap} {locs : List Loc} {ls : Array Slot} (hP : va_P (gD Γ) vwCl (xW Γ a x ++ modW Γ a2 0 μ) H) (hD : va_D A (xW Γ a x ++ modW Γ a2 0 μ)) (hS : va_S A s.heap H locs) (hl : lv_has ls 4 [(0, .ref b), (1, .ref (a 0)), (2, .ref (a2 0)), (3, .int (nI i))])
    (kk : ∀ (x1 : Xst) (μ1 : Mst) (H1 : Heap) (locs1 : List Loc) (ls1 : Array Slot), REL x1 μ1 → va_P (gD Γ) vwCl (xW Γ a x1 ++ modW Γ a2 0 μ1) H1 → va_D A (xW Γ a x1 ++ modW Γ a2 0 μ1) → va_S A s.heap H1 locs1 → lv_has ls1 4 [(0, .ref b), (1, .ref (a 0)), (2, .ref (a2 0)), (3, .int (nI i))] → W p l e room_1 s m #[.ref b] below meth c H1 locs1 600000 7302249 Q (F0 m 854 ls1 [])) : W p l e room_1 s m #[.ref b] below meth c H locs 600000 7302249 Q (F0 m 209 ls []) := by
  obtain ⟨hx, hb, hml, hown, hts⟩ := id hh.1
  obtain ⟨f_c, f_u, f_l0, ⟨L0, f_L, f_L2⟩, f_len, f_nm, ⟨N0, f_N, f_N7, f_N2⟩, f_ok, f_w, f_s, f_k, f_B, f_B1, f_B2, J0, f_J, f_J6, f_J7⟩ := REL_facts hr
  have h_1 : vp_in (nI i + 1) L := by rw [nI_1]; exact vp_in_nI (by omega) (by omega)
  have h_2 : vp_in (nI i + 2) L := by rw [show nI i + 2 = nI (i + 2) from nI_add i 2]; exact vp_in_nI (by omega) (by omega)
  refine lv_aload_n hx hb dL_law_209 rfl (lv_at hl 1 rfl) ?_
  refine lv_aload_n hx hb dL_law_210 rfl (lv_at hl 0 rfl) ?_
  refine lv_iload_n hx hb dL_law_211 rfl (lv_at hl 3 rfl) ?_
  refine lv_iconst (v := 1) hx hb dL_law_212 (by decide) ?_
  refine lv_iadd hx hb dL_law_213 ?_
  refine va_sld hx hb hX hbl hbA hS h_1 dL_law_214 ?_
  refine la_i (pre := []) (w := xW Γ a x) (w1 := xW Γ a (x)) (post := modW Γ a2 0 μ) hh hl.1 (c_X6_parameter Γ l a x (xs (nI i + 1).toNatClampNeg)  ) (cwV 1 hts gL_law_X6_parameter rfl rfl rfl (by decide +kernel) ⟨(Nat.le_of_ble_eq_true rfl), (Nat.le_of_ble_eq_true rfl)⟩) (As := [.int (xs (nI i + 1).toNatClampNeg)]) (rest := []) rfl dL_law_215 rfl (Nat.le_of_ble_eq_true rfl) hP hD hS (q0 := 0) (ci := 6) (x_at Γ a x _) rfl rfl (xW_len2 Γ a _ _) (xW_addr _ _ _ _) ⟨(Nat.le_of_ble_eq_true rfl), (Nat.le_of_ble_eq_true rfl)⟩ (fun H locs hP hD hS => ?_)
  refine lv_aload_n hx hb dL_law_218 rfl (lv_at hl 2 rfl) ?_
  refine lv_aload_n hx hb dL_law_219 rfl (lv_at hl 0 rfl) ?_
  refine lv_iload_n hx hb dL_law_220 rfl (lv_at hl 3 rfl) ?_
  refine lv_iconst (v := 1) hx hb dL_law_221 (by decide) ?_
  refine lv_iadd hx hb dL_law_222 ?_
  refine va_sld hx hb hX hbl hbA hS h_1 dL_law_223 ?_
  refine la_im (pre := xW Γ a (x)) (w := modW Γ a2 0 μ) (w1 := modW Γ a2 0 (μ)) hh hl.1 (c_X7_parameter Γ l a2 0 μ (xs (nI i + 1).toNatClampNeg)  ) (cwV 1 hts gL_law_X7_parameter rfl rfl rfl (by decide +kernel) ⟨(Nat.le_of_ble_eq_true rfl), (Nat.le_of_ble_eq_true rfl)⟩) (As := [.int (xs (nI i + 1).toNatClampNeg)]) (rest := [.int (rParameter x (xs (nI i + 1).toNatClampNeg))]) rfl dL_law_224 rfl (Nat.le_of_ble_eq_true rfl) hP hD hS (q0 := 64) (ci := 7) (m_at Γ a a2 _ μ) rfl rfl (modW_len2 Γ a2 _ _) (modW_addr2 Γ a2 _ _) ⟨(Nat.le_of_ble_eq_true rfl), (Nat.le_of_ble_eq_true rfl)⟩ (fun H locs hP hD hS => ?_)
  refine lv_icmp_eq (tgt := 854) hx hb dL_law_227 (by decide) (fun c_ => ?_) (fun c_ => ?_)
  · exact kk _ _ _ _ _ (hr) hP hD hS hl
  · exact absurd (s_parameter hr (xs (nI i + 1).toNatClampNeg)) c_
set_option maxHeartbeats 2000000 in
set_option maxRecDepth 100000 in
theorem L_2 {Γ : gT} {p : Program} {l : Launch} {e : Env} {s : State} {m : MethodId} {below : List Frame} {meth : Method} {c : Code} {A : Nat → Prop} {a a2 : Nat → Nat} {b L i : Nat} {xs : Nat → Int32} {Q : State → Prop} (hh : Hd Γ p s m #[.ref b] c cL_law RL 4 wsL_law A) (hX : va_X b L xs s s.heap) (hbl : b < s.heap.size) (hbA : ¬ A b) (hi : i + 3 ≤ L) (hL : L ≤ 1536) {x : Xst} {μ : Mst} (hr : REL x μ) {H : Heap} {locs : List Loc} {ls : Array Slot} (hP : va_P (gD Γ) vwCl (xW Γ a x ++ modW Γ a2 0 μ) H) (hD : va_D A (xW Γ a x ++ modW Γ a2 0 μ)) (hS : va_S A s.heap H locs) (hl : lv_has ls 4 [(0, .ref b), (1, .ref (a 0)), (2, .ref (a2 0)), (3, .int (nI i))])
    (kk : ∀ (x1 : Xst) (μ1 : Mst) (H1 : Heap) (locs1 : List Loc) (ls1 : Array Slot), REL x1 μ1 → va_P (gD Γ) vwCl (xW Γ a x1 ++ modW Γ a2 0 μ1) H1 → va_D A (xW Γ a x1 ++ modW Γ a2 0 μ1) → va_S A s.heap H1 locs1 → lv_has ls1 4 [(0, .ref b), (1, .ref (a 0)), (2, .ref (a2 0)), (3, .int (nI i))] → W p l e room_1 s m #[.ref b] below meth c H1 locs1 600000 7302249 Q (F0 m 854 ls1 [])) : W p l e room_1 s m #[.ref b] below meth c H locs 600000 7302249 Q (F0 m 232 ls []) := by
  obtain ⟨hx, hb, hml, hown, hts⟩ := id hh.1
  obtain ⟨f_c, f_u, f_l0, ⟨L0, f_L, f_L2⟩, f_len, f_nm, ⟨N0, f_N, f_N7, f_N2⟩, f_ok, f_w, f_s, f_k, f_B, f_B1, f_B2, J0, f_J, f_J6, f_J7⟩ := REL_facts hr
  have h_1 : vp_in (nI i + 1) L := by rw [nI_1]; exact vp_in_nI (by omega) (by omega)
  have h_2 : vp_in (nI i + 2) L := by rw [show nI i + 2 = nI (i + 2) from nI_add i 2]; exact vp_in_nI (by omega) (by omega)
  refine lv_aload_n hx hb dL_law_232 rfl (lv_at hl 1 rfl) ?_
  refine lv_aload_n hx hb dL_law_233 rfl (lv_at hl 0 rfl) ?_
  refine lv_iload_n hx hb dL_law_234 rfl (lv_at hl 3 rfl) ?_
  refine lv_iconst (v := 1) hx hb dL_law_235 (by decide) ?_
  refine lv_iadd hx hb dL_law_236 ?_
  refine va_sld hx hb hX hbl hbA hS h_1 dL_law_237 ?_
  refine lv_aload_n hx hb dL_law_238 rfl (lv_at hl 0 rfl) ?_
  refine lv_iload_n hx hb dL_law_239 rfl (lv_at hl 3 rfl) ?_
  refine lv_iconst (v := 2) hx hb dL_law_240 (by decide) ?_
  refine lv_iadd hx hb dL_law_241 ?_
  refine va_sld hx hb hX hbl hbA hS h_2 dL_law_242 ?_
  refine la_i (pre := []) (w := xW Γ a x) (w1 := xW Γ a (x)) (post := modW Γ a2 0 μ) hh hl.1 (c_X6_nameAt Γ l a x (xs (nI i + 1).toNatClampNeg) (xs (nI i + 2).toNatClampNeg)  ) (cwV 2 hts gL_law_X6_nameAt rfl rfl rfl (by decide +kernel) ⟨(Nat.le_of_ble_eq_true rfl), (Nat.le_of_ble_eq_true rfl)⟩) (As := [.int (xs (nI i + 1).toNatClampNeg), .int (xs (nI i + 2).toNatClampNeg)]) (rest := []) rfl dL_law_243 rfl (Nat.le_of_ble_eq_true rfl) hP hD hS (q0 := 0) (ci := 6) (x_at Γ a x _) rfl rfl (xW_len2 Γ a _ _) (xW_addr _ _ _ _) ⟨(Nat.le_of_ble_eq_true rfl), (Nat.le_of_ble_eq_true rfl)⟩ (fun H locs hP hD hS => ?_)
  refine lv_aload_n hx hb dL_law_246 rfl (lv_at hl 2 rfl) ?_
  refine lv_aload_n hx hb dL_law_247 rfl (lv_at hl 0 rfl) ?_
  refine lv_iload_n hx hb dL_law_248 rfl (lv_at hl 3 rfl) ?_
  refine lv_iconst (v := 1) hx hb dL_law_249 (by decide) ?_
  refine lv_iadd hx hb dL_law_250 ?_
  refine va_sld hx hb hX hbl hbA hS h_1 dL_law_251 ?_
  refine lv_aload_n hx hb dL_law_252 rfl (lv_at hl 0 rfl) ?_
  refine lv_iload_n hx hb dL_law_253 rfl (lv_at hl 3 rfl) ?_
  refine lv_iconst (v := 2) hx hb dL_law_254 (by decide) ?_
  refine lv_iadd hx hb dL_law_255 ?_
  refine va_sld hx hb hX hbl hbA hS h_2 dL_law_256 ?_
  refine la_im (pre := xW Γ a (x)) (w := modW Γ a2 0 μ) (w1 := modW Γ a2 0 (μ)) hh hl.1 (c_X7_nameAt Γ l a2 0 μ (xs (nI i + 1).toNatClampNeg) (xs (nI i + 2).toNatClampNeg)  f_nm) (cwV 2 hts gL_law_X7_nameAt rfl rfl rfl (by decide +kernel) ⟨(Nat.le_of_ble_eq_true rfl), (Nat.le_of_ble_eq_true rfl)⟩) (As := [.int (xs (nI i + 1).toNatClampNeg), .int (xs (nI i + 2).toNatClampNeg)]) (rest := [.int (rNameAt x (xs (nI i + 1).toNatClampNeg) (xs (nI i + 2).toNatClampNeg))]) rfl dL_law_257 rfl (Nat.le_of_ble_eq_true rfl) hP hD hS (q0 := 64) (ci := 7) (m_at Γ a a2 _ μ) rfl rfl (modW_len2 Γ a2 _ _) (modW_addr2 Γ a2 _ _) ⟨(Nat.le_of_ble_eq_true rfl), (Nat.le_of_ble_eq_true rfl)⟩ (fun H locs hP hD hS => ?_)
  refine lv_icmp_eq (tgt := 854) hx hb dL_law_260 (by decide) (fun c_ => ?_) (fun c_ => ?_)
  · exact kk _ _ _ _ _ (hr) hP hD hS hl
  · exact absurd (s_nameAt hr (xs (nI i + 1).toNatClampNeg) (xs (nI i + 2).toNatClampNeg)) c_
set_option maxHeartbeats 2000000 in
set_option maxRecDepth 100000 in
theorem L_3 {Γ : gT} {p : Program} {l : Launch} {e : Env} {s : State} {m : MethodId} {below : List Frame} {meth : Method} {c : Code} {A : Nat → Prop} {a a2 : Nat → Nat} {b L i : Nat} {xs : Nat → Int32} {Q : State → Prop} (hh : Hd Γ p s m #[.ref b] c cL_law RL 4 wsL_law A) (hX : va_X b L xs s s.heap) (hbl : b < s.heap.size) (hbA : ¬ A b) (hi : i + 3 ≤ L) (hL : L ≤ 1536) {x : Xst} {μ : Mst} (hr : REL x μ) {H : Heap} {locs : List Loc} {ls : Array Slot} (hP : va_P (gD Γ) vwCl (xW Γ a x ++ modW Γ a2 0 μ) H) (hD : va_D A (xW Γ a x ++ modW Γ a2 0 μ)) (hS : va_S A s.heap H locs) (hl : lv_has ls 4 [(0, .ref b), (1, .ref (a 0)), (2, .ref (a2 0)), (3, .int (nI i))])
    (kk : ∀ (x1 : Xst) (μ1 : Mst) (H1 : Heap) (locs1 : List Loc) (ls1 : Array Slot), REL x1 μ1 → va_P (gD Γ) vwCl (xW Γ a x1 ++ modW Γ a2 0 μ1) H1 → va_D A (xW Γ a x1 ++ modW Γ a2 0 μ1) → va_S A s.heap H1 locs1 → lv_has ls1 4 [(0, .ref b), (1, .ref (a 0)), (2, .ref (a2 0)), (3, .int (nI i))] → W p l e room_1 s m #[.ref b] below meth c H1 locs1 600000 7302249 Q (F0 m 854 ls1 [])) : W p l e room_1 s m #[.ref b] below meth c H locs 600000 7302249 Q (F0 m 265 ls []) := by
  obtain ⟨hx, hb, hml, hown, hts⟩ := id hh.1
  obtain ⟨f_c, f_u, f_l0, ⟨L0, f_L, f_L2⟩, f_len, f_nm, ⟨N0, f_N, f_N7, f_N2⟩, f_ok, f_w, f_s, f_k, f_B, f_B1, f_B2, J0, f_J, f_J6, f_J7⟩ := REL_facts hr
  have h_1 : vp_in (nI i + 1) L := by rw [nI_1]; exact vp_in_nI (by omega) (by omega)
  have h_2 : vp_in (nI i + 2) L := by rw [show nI i + 2 = nI (i + 2) from nI_add i 2]; exact vp_in_nI (by omega) (by omega)
  refine lv_aload_n hx hb dL_law_265 rfl (lv_at hl 1 rfl) ?_
  refine la_i (pre := []) (w := xW Γ a x) (w1 := xW Γ a (gUndo x)) (post := modW Γ a2 0 μ) hh hl.1 (c_X6_undo Γ l a x   f_c) (cwV 0 hts gL_law_X6_undo rfl rfl rfl (by decide +kernel) ⟨(Nat.le_of_ble_eq_true rfl), (Nat.le_of_ble_eq_true rfl)⟩) (As := []) (rest := []) rfl dL_law_266 rfl (Nat.le_of_ble_eq_true rfl) hP hD hS (q0 := 0) (ci := 6) (x_at Γ a x _) rfl rfl (xW_len2 Γ a _ _) (xW_addr _ _ _ _) ⟨(Nat.le_of_ble_eq_true rfl), (Nat.le_of_ble_eq_true rfl)⟩ (fun H locs hP hD hS => ?_)
  refine lv_aload_n hx hb dL_law_269 rfl (lv_at hl 2 rfl) ?_
  refine la_im (pre := xW Γ a (gUndo x)) (w := modW Γ a2 0 μ) (w1 := modW Γ a2 0 (hUndo μ)) hh hl.1 (c_X7_undo Γ l a2 0 μ   f_u) (cwV 0 hts gL_law_X7_undo rfl rfl rfl (by decide +kernel) ⟨(Nat.le_of_ble_eq_true rfl), (Nat.le_of_ble_eq_true rfl)⟩) (As := []) (rest := [.int (rUndo x)]) rfl dL_law_270 rfl (Nat.le_of_ble_eq_true rfl) hP hD hS (q0 := 64) (ci := 7) (m_at Γ a a2 _ μ) rfl rfl (modW_len2 Γ a2 _ _) (modW_addr2 Γ a2 _ _) ⟨(Nat.le_of_ble_eq_true rfl), (Nat.le_of_ble_eq_true rfl)⟩ (fun H locs hP hD hS => ?_)
  refine lv_icmp_eq (tgt := 854) hx hb dL_law_273 (by decide) (fun c_ => ?_) (fun c_ => ?_)
  · exact kk _ _ _ _ _ ((s_undo hr ).2) hP hD hS hl
  · exact absurd ((s_undo hr ).1) c_
set_option maxHeartbeats 2000000 in
set_option maxRecDepth 100000 in
theorem L_4 {Γ : gT} {p : Program} {l : Launch} {e : Env} {s : State} {m : MethodId} {below : List Frame} {meth : Method} {c : Code} {A : Nat → Prop} {a a2 : Nat → Nat} {b L i : Nat} {xs : Nat → Int32} {Q : State → Prop} (hh : Hd Γ p s m #[.ref b] c cL_law RL 4 wsL_law A) (hX : va_X b L xs s s.heap) (hbl : b < s.heap.size) (hbA : ¬ A b) (hi : i + 3 ≤ L) (hL : L ≤ 1536) {x : Xst} {μ : Mst} (hr : REL x μ) {H : Heap} {locs : List Loc} {ls : Array Slot} (hP : va_P (gD Γ) vwCl (xW Γ a x ++ modW Γ a2 0 μ) H) (hD : va_D A (xW Γ a x ++ modW Γ a2 0 μ)) (hS : va_S A s.heap H locs) (hl : lv_has ls 4 [(0, .ref b), (1, .ref (a 0)), (2, .ref (a2 0)), (3, .int (nI i))])
    (kk : ∀ (x1 : Xst) (μ1 : Mst) (H1 : Heap) (locs1 : List Loc) (ls1 : Array Slot), REL x1 μ1 → va_P (gD Γ) vwCl (xW Γ a x1 ++ modW Γ a2 0 μ1) H1 → va_D A (xW Γ a x1 ++ modW Γ a2 0 μ1) → va_S A s.heap H1 locs1 → lv_has ls1 4 [(0, .ref b), (1, .ref (a 0)), (2, .ref (a2 0)), (3, .int (nI i))] → W p l e room_1 s m #[.ref b] below meth c H1 locs1 600000 7302249 Q (F0 m 854 ls1 [])) : W p l e room_1 s m #[.ref b] below meth c H locs 600000 7302249 Q (F0 m 278 ls []) := by
  obtain ⟨hx, hb, hml, hown, hts⟩ := id hh.1
  obtain ⟨f_c, f_u, f_l0, ⟨L0, f_L, f_L2⟩, f_len, f_nm, ⟨N0, f_N, f_N7, f_N2⟩, f_ok, f_w, f_s, f_k, f_B, f_B1, f_B2, J0, f_J, f_J6, f_J7⟩ := REL_facts hr
  have h_1 : vp_in (nI i + 1) L := by rw [nI_1]; exact vp_in_nI (by omega) (by omega)
  have h_2 : vp_in (nI i + 2) L := by rw [show nI i + 2 = nI (i + 2) from nI_add i 2]; exact vp_in_nI (by omega) (by omega)
  refine lv_aload_n hx hb dL_law_278 rfl (lv_at hl 1 rfl) ?_
  refine lv_aload_n hx hb dL_law_279 rfl (lv_at hl 0 rfl) ?_
  refine lv_iload_n hx hb dL_law_280 rfl (lv_at hl 3 rfl) ?_
  refine lv_iconst (v := 1) hx hb dL_law_281 (by decide) ?_
  refine lv_iadd hx hb dL_law_282 ?_
  refine va_sld hx hb hX hbl hbA hS h_1 dL_law_283 ?_
  refine la_i (pre := []) (w := xW Γ a x) (w1 := xW Γ a (gSetSetpoint x (xs (nI i + 1).toNatClampNeg))) (post := modW Γ a2 0 μ) hh hl.1 (c_X6_setSetpoint Γ l a x (xs (nI i + 1).toNatClampNeg)  ) (cwV 1 hts gL_law_X6_setSetpoint rfl rfl rfl (by decide +kernel) ⟨(Nat.le_of_ble_eq_true rfl), (Nat.le_of_ble_eq_true rfl)⟩) (As := [.int (xs (nI i + 1).toNatClampNeg)]) (rest := []) rfl dL_law_284 rfl (Nat.le_of_ble_eq_true rfl) hP hD hS (q0 := 0) (ci := 6) (x_at Γ a x _) rfl rfl (xW_len2 Γ a _ _) (xW_addr _ _ _ _) ⟨(Nat.le_of_ble_eq_true rfl), (Nat.le_of_ble_eq_true rfl)⟩ (fun H locs hP hD hS => ?_)
  refine lv_aload_n hx hb dL_law_287 rfl (lv_at hl 2 rfl) ?_
  refine lv_aload_n hx hb dL_law_288 rfl (lv_at hl 0 rfl) ?_
  refine lv_iload_n hx hb dL_law_289 rfl (lv_at hl 3 rfl) ?_
  refine lv_iconst (v := 1) hx hb dL_law_290 (by decide) ?_
  refine lv_iadd hx hb dL_law_291 ?_
  refine va_sld hx hb hX hbl hbA hS h_1 dL_law_292 ?_
  refine la_im (pre := xW Γ a (gSetSetpoint x (xs (nI i + 1).toNatClampNeg))) (w := modW Γ a2 0 μ) (w1 := modW Γ a2 0 (hSetSetpoint μ (xs (nI i + 1).toNatClampNeg))) hh hl.1 (c_X7_setSetpoint Γ l a2 0 μ (xs (nI i + 1).toNatClampNeg)  ) (cwV 1 hts gL_law_X7_setSetpoint rfl rfl rfl (by decide +kernel) ⟨(Nat.le_of_ble_eq_true rfl), (Nat.le_of_ble_eq_true rfl)⟩) (As := [.int (xs (nI i + 1).toNatClampNeg)]) (rest := [.int (rSetSetpoint x (xs (nI i + 1).toNatClampNeg))]) rfl dL_law_293 rfl (Nat.le_of_ble_eq_true rfl) hP hD hS (q0 := 64) (ci := 7) (m_at Γ a a2 _ μ) rfl rfl (modW_len2 Γ a2 _ _) (modW_addr2 Γ a2 _ _) ⟨(Nat.le_of_ble_eq_true rfl), (Nat.le_of_ble_eq_true rfl)⟩ (fun H locs hP hD hS => ?_)
  refine lv_icmp_eq (tgt := 854) hx hb dL_law_296 (by decide) (fun c_ => ?_) (fun c_ => ?_)
  · exact kk _ _ _ _ _ ((s_setSetpoint hr (xs (nI i + 1).toNatClampNeg)).2) hP hD hS hl
  · exact absurd ((s_setSetpoint hr (xs (nI i + 1).toNatClampNeg)).1) c_
set_option maxHeartbeats 2000000 in
set_option maxRecDepth 100000 in
theorem L_5 {Γ : gT} {p : Program} {l : Launch} {e : Env} {s : State} {m : MethodId} {below : List Frame} {meth : Method} {c : Code} {A : Nat → Prop} {a a2 : Nat → Nat} {b L i : Nat} {xs : Nat → Int32} {Q : State → Prop} (hh : Hd Γ p s m #[.ref b] c cL_law RL 4 wsL_law A) (hX : va_X b L xs s s.heap) (hbl : b < s.heap.size) (hbA : ¬ A b) (hi : i + 3 ≤ L) (hL : L ≤ 1536) {x : Xst} {μ : Mst} (hr : REL x μ) {H : Heap} {locs : List Loc} {ls : Array Slot} (hP : va_P (gD Γ) vwCl (xW Γ a x ++ modW Γ a2 0 μ) H) (hD : va_D A (xW Γ a x ++ modW Γ a2 0 μ)) (hS : va_S A s.heap H locs) (hl : lv_has ls 4 [(0, .ref b), (1, .ref (a 0)), (2, .ref (a2 0)), (3, .int (nI i))])
    (kk : ∀ (x1 : Xst) (μ1 : Mst) (H1 : Heap) (locs1 : List Loc) (ls1 : Array Slot), REL x1 μ1 → va_P (gD Γ) vwCl (xW Γ a x1 ++ modW Γ a2 0 μ1) H1 → va_D A (xW Γ a x1 ++ modW Γ a2 0 μ1) → va_S A s.heap H1 locs1 → lv_has ls1 4 [(0, .ref b), (1, .ref (a 0)), (2, .ref (a2 0)), (3, .int (nI i))] → W p l e room_1 s m #[.ref b] below meth c H1 locs1 600000 7302249 Q (F0 m 854 ls1 [])) : W p l e room_1 s m #[.ref b] below meth c H locs 600000 7302249 Q (F0 m 301 ls []) := by
  obtain ⟨hx, hb, hml, hown, hts⟩ := id hh.1
  obtain ⟨f_c, f_u, f_l0, ⟨L0, f_L, f_L2⟩, f_len, f_nm, ⟨N0, f_N, f_N7, f_N2⟩, f_ok, f_w, f_s, f_k, f_B, f_B1, f_B2, J0, f_J, f_J6, f_J7⟩ := REL_facts hr
  have h_1 : vp_in (nI i + 1) L := by rw [nI_1]; exact vp_in_nI (by omega) (by omega)
  have h_2 : vp_in (nI i + 2) L := by rw [show nI i + 2 = nI (i + 2) from nI_add i 2]; exact vp_in_nI (by omega) (by omega)
  refine lv_aload_n hx hb dL_law_301 rfl (lv_at hl 1 rfl) ?_
  refine lv_aload_n hx hb dL_law_302 rfl (lv_at hl 0 rfl) ?_
  refine lv_iload_n hx hb dL_law_303 rfl (lv_at hl 3 rfl) ?_
  refine lv_iconst (v := 1) hx hb dL_law_304 (by decide) ?_
  refine lv_iadd hx hb dL_law_305 ?_
  refine va_sld hx hb hX hbl hbA hS h_1 dL_law_306 ?_
  refine la_i (pre := []) (w := xW Γ a x) (w1 := xW Γ a (gSetLoad x (xs (nI i + 1).toNatClampNeg))) (post := modW Γ a2 0 μ) hh hl.1 (c_X6_setLoad Γ l a x (xs (nI i + 1).toNatClampNeg)  ) (cwV 1 hts gL_law_X6_setLoad rfl rfl rfl (by decide +kernel) ⟨(Nat.le_of_ble_eq_true rfl), (Nat.le_of_ble_eq_true rfl)⟩) (As := [.int (xs (nI i + 1).toNatClampNeg)]) (rest := []) rfl dL_law_307 rfl (Nat.le_of_ble_eq_true rfl) hP hD hS (q0 := 0) (ci := 6) (x_at Γ a x _) rfl rfl (xW_len2 Γ a _ _) (xW_addr _ _ _ _) ⟨(Nat.le_of_ble_eq_true rfl), (Nat.le_of_ble_eq_true rfl)⟩ (fun H locs hP hD hS => ?_)
  refine lv_aload_n hx hb dL_law_310 rfl (lv_at hl 2 rfl) ?_
  refine lv_aload_n hx hb dL_law_311 rfl (lv_at hl 0 rfl) ?_
  refine lv_iload_n hx hb dL_law_312 rfl (lv_at hl 3 rfl) ?_
  refine lv_iconst (v := 1) hx hb dL_law_313 (by decide) ?_
  refine lv_iadd hx hb dL_law_314 ?_
  refine va_sld hx hb hX hbl hbA hS h_1 dL_law_315 ?_
  refine la_im (pre := xW Γ a (gSetLoad x (xs (nI i + 1).toNatClampNeg))) (w := modW Γ a2 0 μ) (w1 := modW Γ a2 0 (hSetLoad μ (xs (nI i + 1).toNatClampNeg))) hh hl.1 (c_X7_setLoad Γ l a2 0 μ (xs (nI i + 1).toNatClampNeg)  ) (cwV 1 hts gL_law_X7_setLoad rfl rfl rfl (by decide +kernel) ⟨(Nat.le_of_ble_eq_true rfl), (Nat.le_of_ble_eq_true rfl)⟩) (As := [.int (xs (nI i + 1).toNatClampNeg)]) (rest := [.int (rSetLoad x (xs (nI i + 1).toNatClampNeg))]) rfl dL_law_316 rfl (Nat.le_of_ble_eq_true rfl) hP hD hS (q0 := 64) (ci := 7) (m_at Γ a a2 _ μ) rfl rfl (modW_len2 Γ a2 _ _) (modW_addr2 Γ a2 _ _) ⟨(Nat.le_of_ble_eq_true rfl), (Nat.le_of_ble_eq_true rfl)⟩ (fun H locs hP hD hS => ?_)
  refine lv_icmp_eq (tgt := 854) hx hb dL_law_319 (by decide) (fun c_ => ?_) (fun c_ => ?_)
  · exact kk _ _ _ _ _ ((s_setLoad hr (xs (nI i + 1).toNatClampNeg)).2) hP hD hS hl
  · exact absurd ((s_setLoad hr (xs (nI i + 1).toNatClampNeg)).1) c_
set_option maxHeartbeats 2000000 in
set_option maxRecDepth 100000 in
theorem L_6 {Γ : gT} {p : Program} {l : Launch} {e : Env} {s : State} {m : MethodId} {below : List Frame} {meth : Method} {c : Code} {A : Nat → Prop} {a a2 : Nat → Nat} {b L i : Nat} {xs : Nat → Int32} {Q : State → Prop} (hh : Hd Γ p s m #[.ref b] c cL_law RL 4 wsL_law A) (hX : va_X b L xs s s.heap) (hbl : b < s.heap.size) (hbA : ¬ A b) (hi : i + 3 ≤ L) (hL : L ≤ 1536) {x : Xst} {μ : Mst} (hr : REL x μ) {H : Heap} {locs : List Loc} {ls : Array Slot} (hP : va_P (gD Γ) vwCl (xW Γ a x ++ modW Γ a2 0 μ) H) (hD : va_D A (xW Γ a x ++ modW Γ a2 0 μ)) (hS : va_S A s.heap H locs) (hl : lv_has ls 4 [(0, .ref b), (1, .ref (a 0)), (2, .ref (a2 0)), (3, .int (nI i))])
    (kk : ∀ (x1 : Xst) (μ1 : Mst) (H1 : Heap) (locs1 : List Loc) (ls1 : Array Slot), REL x1 μ1 → va_P (gD Γ) vwCl (xW Γ a x1 ++ modW Γ a2 0 μ1) H1 → va_D A (xW Γ a x1 ++ modW Γ a2 0 μ1) → va_S A s.heap H1 locs1 → lv_has ls1 4 [(0, .ref b), (1, .ref (a 0)), (2, .ref (a2 0)), (3, .int (nI i))] → W p l e room_1 s m #[.ref b] below meth c H1 locs1 600000 7302249 Q (F0 m 854 ls1 [])) : W p l e room_1 s m #[.ref b] below meth c H locs 600000 7302249 Q (F0 m 324 ls []) := by
  obtain ⟨hx, hb, hml, hown, hts⟩ := id hh.1
  obtain ⟨f_c, f_u, f_l0, ⟨L0, f_L, f_L2⟩, f_len, f_nm, ⟨N0, f_N, f_N7, f_N2⟩, f_ok, f_w, f_s, f_k, f_B, f_B1, f_B2, J0, f_J, f_J6, f_J7⟩ := REL_facts hr
  have h_1 : vp_in (nI i + 1) L := by rw [nI_1]; exact vp_in_nI (by omega) (by omega)
  have h_2 : vp_in (nI i + 2) L := by rw [show nI i + 2 = nI (i + 2) from nI_add i 2]; exact vp_in_nI (by omega) (by omega)
  refine lv_aload_n hx hb dL_law_324 rfl (lv_at hl 1 rfl) ?_
  refine lv_aload_n hx hb dL_law_325 rfl (lv_at hl 0 rfl) ?_
  refine lv_iload_n hx hb dL_law_326 rfl (lv_at hl 3 rfl) ?_
  refine lv_iconst (v := 1) hx hb dL_law_327 (by decide) ?_
  refine lv_iadd hx hb dL_law_328 ?_
  refine va_sld hx hb hX hbl hbA hS h_1 dL_law_329 ?_
  refine la_i (pre := []) (w := xW Γ a x) (w1 := xW Γ a (gSetSeed x (xs (nI i + 1).toNatClampNeg))) (post := modW Γ a2 0 μ) hh hl.1 (c_X6_setSeed Γ l a x (xs (nI i + 1).toNatClampNeg)  ) (cwV 1 hts gL_law_X6_setSeed rfl rfl rfl (by decide +kernel) ⟨(Nat.le_of_ble_eq_true rfl), (Nat.le_of_ble_eq_true rfl)⟩) (As := [.int (xs (nI i + 1).toNatClampNeg)]) (rest := []) rfl dL_law_330 rfl (Nat.le_of_ble_eq_true rfl) hP hD hS (q0 := 0) (ci := 6) (x_at Γ a x _) rfl rfl (xW_len2 Γ a _ _) (xW_addr _ _ _ _) ⟨(Nat.le_of_ble_eq_true rfl), (Nat.le_of_ble_eq_true rfl)⟩ (fun H locs hP hD hS => ?_)
  refine lv_aload_n hx hb dL_law_333 rfl (lv_at hl 2 rfl) ?_
  refine lv_aload_n hx hb dL_law_334 rfl (lv_at hl 0 rfl) ?_
  refine lv_iload_n hx hb dL_law_335 rfl (lv_at hl 3 rfl) ?_
  refine lv_iconst (v := 1) hx hb dL_law_336 (by decide) ?_
  refine lv_iadd hx hb dL_law_337 ?_
  refine va_sld hx hb hX hbl hbA hS h_1 dL_law_338 ?_
  refine la_im (pre := xW Γ a (gSetSeed x (xs (nI i + 1).toNatClampNeg))) (w := modW Γ a2 0 μ) (w1 := modW Γ a2 0 (hSetSeed μ (xs (nI i + 1).toNatClampNeg))) hh hl.1 (c_X7_setSeed Γ l a2 0 μ (xs (nI i + 1).toNatClampNeg)  ) (cwV 1 hts gL_law_X7_setSeed rfl rfl rfl (by decide +kernel) ⟨(Nat.le_of_ble_eq_true rfl), (Nat.le_of_ble_eq_true rfl)⟩) (As := [.int (xs (nI i + 1).toNatClampNeg)]) (rest := [.int (rSetSeed x (xs (nI i + 1).toNatClampNeg))]) rfl dL_law_339 rfl (Nat.le_of_ble_eq_true rfl) hP hD hS (q0 := 64) (ci := 7) (m_at Γ a a2 _ μ) rfl rfl (modW_len2 Γ a2 _ _) (modW_addr2 Γ a2 _ _) ⟨(Nat.le_of_ble_eq_true rfl), (Nat.le_of_ble_eq_true rfl)⟩ (fun H locs hP hD hS => ?_)
  refine lv_icmp_eq (tgt := 854) hx hb dL_law_342 (by decide) (fun c_ => ?_) (fun c_ => ?_)
  · exact kk _ _ _ _ _ ((s_setSeed hr (xs (nI i + 1).toNatClampNeg)).2) hP hD hS hl
  · exact absurd ((s_setSeed hr (xs (nI i + 1).toNatClampNeg)).1) c_
set_option maxHeartbeats 2000000 in
set_option maxRecDepth 100000 in
theorem L_7 {Γ : gT} {p : Program} {l : Launch} {e : Env} {s : State} {m : MethodId} {below : List Frame} {meth : Method} {c : Code} {A : Nat → Prop} {a a2 : Nat → Nat} {b L i : Nat} {xs : Nat → Int32} {Q : State → Prop} (hh : Hd Γ p s m #[.ref b] c cL_law RL 4 wsL_law A) (hX : va_X b L xs s s.heap) (hbl : b < s.heap.size) (hbA : ¬ A b) (hi : i + 3 ≤ L) (hL : L ≤ 1536) {x : Xst} {μ : Mst} (hr : REL x μ) {H : Heap} {locs : List Loc} {ls : Array Slot} (hP : va_P (gD Γ) vwCl (xW Γ a x ++ modW Γ a2 0 μ) H) (hD : va_D A (xW Γ a x ++ modW Γ a2 0 μ)) (hS : va_S A s.heap H locs) (hl : lv_has ls 4 [(0, .ref b), (1, .ref (a 0)), (2, .ref (a2 0)), (3, .int (nI i))])
    (kk : ∀ (x1 : Xst) (μ1 : Mst) (H1 : Heap) (locs1 : List Loc) (ls1 : Array Slot), REL x1 μ1 → va_P (gD Γ) vwCl (xW Γ a x1 ++ modW Γ a2 0 μ1) H1 → va_D A (xW Γ a x1 ++ modW Γ a2 0 μ1) → va_S A s.heap H1 locs1 → lv_has ls1 4 [(0, .ref b), (1, .ref (a 0)), (2, .ref (a2 0)), (3, .int (nI i))] → W p l e room_1 s m #[.ref b] below meth c H1 locs1 600000 7302249 Q (F0 m 854 ls1 [])) : W p l e room_1 s m #[.ref b] below meth c H locs 600000 7302249 Q (F0 m 347 ls []) := by
  obtain ⟨hx, hb, hml, hown, hts⟩ := id hh.1
  obtain ⟨f_c, f_u, f_l0, ⟨L0, f_L, f_L2⟩, f_len, f_nm, ⟨N0, f_N, f_N7, f_N2⟩, f_ok, f_w, f_s, f_k, f_B, f_B1, f_B2, J0, f_J, f_J6, f_J7⟩ := REL_facts hr
  have h_1 : vp_in (nI i + 1) L := by rw [nI_1]; exact vp_in_nI (by omega) (by omega)
  have h_2 : vp_in (nI i + 2) L := by rw [show nI i + 2 = nI (i + 2) from nI_add i 2]; exact vp_in_nI (by omega) (by omega)
  refine lv_aload_n hx hb dL_law_347 rfl (lv_at hl 1 rfl) ?_
  refine lv_aload_n hx hb dL_law_348 rfl (lv_at hl 0 rfl) ?_
  refine lv_iload_n hx hb dL_law_349 rfl (lv_at hl 3 rfl) ?_
  refine lv_iconst (v := 1) hx hb dL_law_350 (by decide) ?_
  refine lv_iadd hx hb dL_law_351 ?_
  refine va_sld hx hb hX hbl hbA hS h_1 dL_law_352 ?_
  refine la_i (pre := []) (w := xW Γ a x) (w1 := xW Γ a (gType x (xs (nI i + 1).toNatClampNeg))) (post := modW Γ a2 0 μ) hh hl.1 (c_X6_type Γ l a x (xs (nI i + 1).toNatClampNeg)  f_l0) (cwV 1 hts gL_law_X6_type rfl rfl rfl (by decide +kernel) ⟨(Nat.le_of_ble_eq_true rfl), (Nat.le_of_ble_eq_true rfl)⟩) (As := [.int (xs (nI i + 1).toNatClampNeg)]) (rest := []) rfl dL_law_353 rfl (Nat.le_of_ble_eq_true rfl) hP hD hS (q0 := 0) (ci := 6) (x_at Γ a x _) rfl rfl (xW_len2 Γ a _ _) (xW_addr _ _ _ _) ⟨(Nat.le_of_ble_eq_true rfl), (Nat.le_of_ble_eq_true rfl)⟩ (fun H locs hP hD hS => ?_)
  refine lv_aload_n hx hb dL_law_356 rfl (lv_at hl 2 rfl) ?_
  refine lv_aload_n hx hb dL_law_357 rfl (lv_at hl 0 rfl) ?_
  refine lv_iload_n hx hb dL_law_358 rfl (lv_at hl 3 rfl) ?_
  refine lv_iconst (v := 1) hx hb dL_law_359 (by decide) ?_
  refine lv_iadd hx hb dL_law_360 ?_
  refine va_sld hx hb hX hbl hbA hS h_1 dL_law_361 ?_
  refine la_im (pre := xW Γ a (gType x (xs (nI i + 1).toNatClampNeg))) (w := modW Γ a2 0 μ) (w1 := modW Γ a2 0 (hType μ (xs (nI i + 1).toNatClampNeg))) hh hl.1 (c_X7_type Γ l a2 0 μ (xs (nI i + 1).toNatClampNeg)  f_len) (cwV 1 hts gL_law_X7_type rfl rfl rfl (by decide +kernel) ⟨(Nat.le_of_ble_eq_true rfl), (Nat.le_of_ble_eq_true rfl)⟩) (As := [.int (xs (nI i + 1).toNatClampNeg)]) (rest := [.int (rType x (xs (nI i + 1).toNatClampNeg))]) rfl dL_law_362 rfl (Nat.le_of_ble_eq_true rfl) hP hD hS (q0 := 64) (ci := 7) (m_at Γ a a2 _ μ) rfl rfl (modW_len2 Γ a2 _ _) (modW_addr2 Γ a2 _ _) ⟨(Nat.le_of_ble_eq_true rfl), (Nat.le_of_ble_eq_true rfl)⟩ (fun H locs hP hD hS => ?_)
  refine lv_icmp_eq (tgt := 854) hx hb dL_law_365 (by decide) (fun c_ => ?_) (fun c_ => ?_)
  · exact kk _ _ _ _ _ ((s_type hr (xs (nI i + 1).toNatClampNeg)).2) hP hD hS hl
  · exact absurd ((s_type hr (xs (nI i + 1).toNatClampNeg)).1) c_
set_option maxHeartbeats 2000000 in
set_option maxRecDepth 100000 in
theorem L_8 {Γ : gT} {p : Program} {l : Launch} {e : Env} {s : State} {m : MethodId} {below : List Frame} {meth : Method} {c : Code} {A : Nat → Prop} {a a2 : Nat → Nat} {b L i : Nat} {xs : Nat → Int32} {Q : State → Prop} (hh : Hd Γ p s m #[.ref b] c cL_law RL 4 wsL_law A) (hX : va_X b L xs s s.heap) (hbl : b < s.heap.size) (hbA : ¬ A b) (hi : i + 3 ≤ L) (hL : L ≤ 1536) {x : Xst} {μ : Mst} (hr : REL x μ) {H : Heap} {locs : List Loc} {ls : Array Slot} (hP : va_P (gD Γ) vwCl (xW Γ a x ++ modW Γ a2 0 μ) H) (hD : va_D A (xW Γ a x ++ modW Γ a2 0 μ)) (hS : va_S A s.heap H locs) (hl : lv_has ls 4 [(0, .ref b), (1, .ref (a 0)), (2, .ref (a2 0)), (3, .int (nI i))])
    (kk : ∀ (x1 : Xst) (μ1 : Mst) (H1 : Heap) (locs1 : List Loc) (ls1 : Array Slot), REL x1 μ1 → va_P (gD Γ) vwCl (xW Γ a x1 ++ modW Γ a2 0 μ1) H1 → va_D A (xW Γ a x1 ++ modW Γ a2 0 μ1) → va_S A s.heap H1 locs1 → lv_has ls1 4 [(0, .ref b), (1, .ref (a 0)), (2, .ref (a2 0)), (3, .int (nI i))] → W p l e room_1 s m #[.ref b] below meth c H1 locs1 600000 7302249 Q (F0 m 854 ls1 [])) : W p l e room_1 s m #[.ref b] below meth c H locs 600000 7302249 Q (F0 m 370 ls []) := by
  obtain ⟨hx, hb, hml, hown, hts⟩ := id hh.1
  obtain ⟨f_c, f_u, f_l0, ⟨L0, f_L, f_L2⟩, f_len, f_nm, ⟨N0, f_N, f_N7, f_N2⟩, f_ok, f_w, f_s, f_k, f_B, f_B1, f_B2, J0, f_J, f_J6, f_J7⟩ := REL_facts hr
  have h_1 : vp_in (nI i + 1) L := by rw [nI_1]; exact vp_in_nI (by omega) (by omega)
  have h_2 : vp_in (nI i + 2) L := by rw [show nI i + 2 = nI (i + 2) from nI_add i 2]; exact vp_in_nI (by omega) (by omega)
  refine lv_aload_n hx hb dL_law_370 rfl (lv_at hl 1 rfl) ?_
  refine la_i (pre := []) (w := xW Γ a x) (w1 := xW Γ a (gClearText x)) (post := modW Γ a2 0 μ) hh hl.1 (c_X6_clearText Γ l a x   ) (cwV 0 hts gL_law_X6_clearText rfl rfl rfl (by decide +kernel) ⟨(Nat.le_of_ble_eq_true rfl), (Nat.le_of_ble_eq_true rfl)⟩) (As := []) (rest := []) rfl dL_law_371 rfl (Nat.le_of_ble_eq_true rfl) hP hD hS (q0 := 0) (ci := 6) (x_at Γ a x _) rfl rfl (xW_len2 Γ a _ _) (xW_addr _ _ _ _) ⟨(Nat.le_of_ble_eq_true rfl), (Nat.le_of_ble_eq_true rfl)⟩ (fun H locs hP hD hS => ?_)
  refine lv_aload_n hx hb dL_law_374 rfl (lv_at hl 2 rfl) ?_
  refine la_im (pre := xW Γ a (gClearText x)) (w := modW Γ a2 0 μ) (w1 := modW Γ a2 0 (hClearText μ)) hh hl.1 (c_X7_clearText Γ l a2 0 μ   ) (cwV 0 hts gL_law_X7_clearText rfl rfl rfl (by decide +kernel) ⟨(Nat.le_of_ble_eq_true rfl), (Nat.le_of_ble_eq_true rfl)⟩) (As := []) (rest := [.int (tLen (xTxt x))]) rfl dL_law_375 rfl (Nat.le_of_ble_eq_true rfl) hP hD hS (q0 := 64) (ci := 7) (m_at Γ a a2 _ μ) rfl rfl (modW_len2 Γ a2 _ _) (modW_addr2 Γ a2 _ _) ⟨(Nat.le_of_ble_eq_true rfl), (Nat.le_of_ble_eq_true rfl)⟩ (fun H locs hP hD hS => ?_)
  refine lv_icmp_eq (tgt := 854) hx hb dL_law_378 (by decide) (fun c_ => ?_) (fun c_ => ?_)
  · exact kk _ _ _ _ _ ((s_clearText hr ).2) hP hD hS hl
  · exact absurd ((s_clearText hr ).1) c_
set_option maxHeartbeats 2000000 in
set_option maxRecDepth 100000 in
theorem L_9 {Γ : gT} {p : Program} {l : Launch} {e : Env} {s : State} {m : MethodId} {below : List Frame} {meth : Method} {c : Code} {A : Nat → Prop} {a a2 : Nat → Nat} {b L i : Nat} {xs : Nat → Int32} {Q : State → Prop} (hh : Hd Γ p s m #[.ref b] c cL_law RL 4 wsL_law A) (hX : va_X b L xs s s.heap) (hbl : b < s.heap.size) (hbA : ¬ A b) (hi : i + 3 ≤ L) (hL : L ≤ 1536) {x : Xst} {μ : Mst} (hr : REL x μ) {H : Heap} {locs : List Loc} {ls : Array Slot} (hP : va_P (gD Γ) vwCl (xW Γ a x ++ modW Γ a2 0 μ) H) (hD : va_D A (xW Γ a x ++ modW Γ a2 0 μ)) (hS : va_S A s.heap H locs) (hl : lv_has ls 4 [(0, .ref b), (1, .ref (a 0)), (2, .ref (a2 0)), (3, .int (nI i))])
    (kk : ∀ (x1 : Xst) (μ1 : Mst) (H1 : Heap) (locs1 : List Loc) (ls1 : Array Slot), REL x1 μ1 → va_P (gD Γ) vwCl (xW Γ a x1 ++ modW Γ a2 0 μ1) H1 → va_D A (xW Γ a x1 ++ modW Γ a2 0 μ1) → va_S A s.heap H1 locs1 → lv_has ls1 4 [(0, .ref b), (1, .ref (a 0)), (2, .ref (a2 0)), (3, .int (nI i))] → W p l e room_1 s m #[.ref b] below meth c H1 locs1 600000 7302249 Q (F0 m 854 ls1 [])) : W p l e room_1 s m #[.ref b] below meth c H locs 600000 7302249 Q (F0 m 383 ls []) := by
  obtain ⟨hx, hb, hml, hown, hts⟩ := id hh.1
  obtain ⟨f_c, f_u, f_l0, ⟨L0, f_L, f_L2⟩, f_len, f_nm, ⟨N0, f_N, f_N7, f_N2⟩, f_ok, f_w, f_s, f_k, f_B, f_B1, f_B2, J0, f_J, f_J6, f_J7⟩ := REL_facts hr
  have h_1 : vp_in (nI i + 1) L := by rw [nI_1]; exact vp_in_nI (by omega) (by omega)
  have h_2 : vp_in (nI i + 2) L := by rw [show nI i + 2 = nI (i + 2) from nI_add i 2]; exact vp_in_nI (by omega) (by omega)
  refine lv_aload_n hx hb dL_law_383 rfl (lv_at hl 1 rfl) ?_
  refine la_i (pre := []) (w := xW Γ a x) (w1 := xW Γ a (gFault x)) (post := modW Γ a2 0 μ) hh hl.1 (c_X6_fault Γ l a x  L0 f_L f_L2) (cwV 0 hts gL_law_X6_fault rfl rfl rfl (by decide +kernel) ⟨(Nat.le_of_ble_eq_true rfl), (Nat.le_of_ble_eq_true rfl)⟩) (As := []) (rest := []) rfl dL_law_384 rfl (Nat.le_of_ble_eq_true rfl) hP hD hS (q0 := 0) (ci := 6) (x_at Γ a x _) rfl rfl (xW_len2 Γ a _ _) (xW_addr _ _ _ _) ⟨(Nat.le_of_ble_eq_true rfl), (Nat.le_of_ble_eq_true rfl)⟩ (fun H locs hP hD hS => ?_)
  refine lv_aload_n hx hb dL_law_387 rfl (lv_at hl 2 rfl) ?_
  refine la_im (pre := xW Γ a (gFault x)) (w := modW Γ a2 0 μ) (w1 := modW Γ a2 0 (hFault μ)) hh hl.1 (c_X7_fault Γ l a2 0 μ   f_nm f_len) (cwV 0 hts gL_law_X7_fault rfl rfl rfl (by decide +kernel) ⟨(Nat.le_of_ble_eq_true rfl), (Nat.le_of_ble_eq_true rfl)⟩) (As := []) (rest := [.int (rFault x)]) rfl dL_law_388 rfl (Nat.le_of_ble_eq_true rfl) hP hD hS (q0 := 64) (ci := 7) (m_at Γ a a2 _ μ) rfl rfl (modW_len2 Γ a2 _ _) (modW_addr2 Γ a2 _ _) ⟨(Nat.le_of_ble_eq_true rfl), (Nat.le_of_ble_eq_true rfl)⟩ (fun H locs hP hD hS => ?_)
  refine lv_icmp_eq (tgt := 854) hx hb dL_law_391 (by decide) (fun c_ => ?_) (fun c_ => ?_)
  · exact kk _ _ _ _ _ ((s_fault hr ).2) hP hD hS hl
  · exact absurd ((s_fault hr ).1) c_
set_option maxHeartbeats 2000000 in
set_option maxRecDepth 100000 in
theorem L_10 {Γ : gT} {p : Program} {l : Launch} {e : Env} {s : State} {m : MethodId} {below : List Frame} {meth : Method} {c : Code} {A : Nat → Prop} {a a2 : Nat → Nat} {b L i : Nat} {xs : Nat → Int32} {Q : State → Prop} (hh : Hd Γ p s m #[.ref b] c cL_law RL 4 wsL_law A) (hX : va_X b L xs s s.heap) (hbl : b < s.heap.size) (hbA : ¬ A b) (hi : i + 3 ≤ L) (hL : L ≤ 1536) {x : Xst} {μ : Mst} (hr : REL x μ) {H : Heap} {locs : List Loc} {ls : Array Slot} (hP : va_P (gD Γ) vwCl (xW Γ a x ++ modW Γ a2 0 μ) H) (hD : va_D A (xW Γ a x ++ modW Γ a2 0 μ)) (hS : va_S A s.heap H locs) (hl : lv_has ls 4 [(0, .ref b), (1, .ref (a 0)), (2, .ref (a2 0)), (3, .int (nI i))])
    (kk : ∀ (x1 : Xst) (μ1 : Mst) (H1 : Heap) (locs1 : List Loc) (ls1 : Array Slot), REL x1 μ1 → va_P (gD Γ) vwCl (xW Γ a x1 ++ modW Γ a2 0 μ1) H1 → va_D A (xW Γ a x1 ++ modW Γ a2 0 μ1) → va_S A s.heap H1 locs1 → lv_has ls1 4 [(0, .ref b), (1, .ref (a 0)), (2, .ref (a2 0)), (3, .int (nI i))] → W p l e room_1 s m #[.ref b] below meth c H1 locs1 600000 7302249 Q (F0 m 854 ls1 [])) : W p l e room_1 s m #[.ref b] below meth c H locs 600000 7302249 Q (F0 m 396 ls []) := by
  obtain ⟨hx, hb, hml, hown, hts⟩ := id hh.1
  obtain ⟨f_c, f_u, f_l0, ⟨L0, f_L, f_L2⟩, f_len, f_nm, ⟨N0, f_N, f_N7, f_N2⟩, f_ok, f_w, f_s, f_k, f_B, f_B1, f_B2, J0, f_J, f_J6, f_J7⟩ := REL_facts hr
  have h_1 : vp_in (nI i + 1) L := by rw [nI_1]; exact vp_in_nI (by omega) (by omega)
  have h_2 : vp_in (nI i + 2) L := by rw [show nI i + 2 = nI (i + 2) from nI_add i 2]; exact vp_in_nI (by omega) (by omega)
  refine lv_aload_n hx hb dL_law_396 rfl (lv_at hl 1 rfl) ?_
  refine la_i (pre := []) (w := xW Γ a x) (w1 := xW Γ a (gApply x)) (post := modW Γ a2 0 μ) hh hl.1 (c_X6_apply Γ l a x  L0 f_L f_L2 f_c) (cwV 0 hts gL_law_X6_apply rfl rfl rfl (by decide +kernel) ⟨(Nat.le_of_ble_eq_true rfl), (Nat.le_of_ble_eq_true rfl)⟩) (As := []) (rest := []) rfl dL_law_397 rfl (Nat.le_of_ble_eq_true rfl) hP hD hS (q0 := 0) (ci := 6) (x_at Γ a x _) rfl rfl (xW_len2 Γ a _ _) (xW_addr _ _ _ _) ⟨(Nat.le_of_ble_eq_true rfl), (Nat.le_of_ble_eq_true rfl)⟩ (fun H locs hP hD hS => ?_)
  refine lv_aload_n hx hb dL_law_400 rfl (lv_at hl 2 rfl) ?_
  refine la_im (pre := xW Γ a (gApply x)) (w := modW Γ a2 0 μ) (w1 := modW Γ a2 0 (hApply μ)) hh hl.1 (c_X7_apply Γ l a2 0 μ   f_nm f_len f_u) (cwV 0 hts gL_law_X7_apply rfl rfl rfl (by decide +kernel) ⟨(Nat.le_of_ble_eq_true rfl), (Nat.le_of_ble_eq_true rfl)⟩) (As := []) (rest := [.int (rApply x)]) rfl dL_law_401 rfl (Nat.le_of_ble_eq_true rfl) hP hD hS (q0 := 64) (ci := 7) (m_at Γ a a2 _ μ) rfl rfl (modW_len2 Γ a2 _ _) (modW_addr2 Γ a2 _ _) ⟨(Nat.le_of_ble_eq_true rfl), (Nat.le_of_ble_eq_true rfl)⟩ (fun H locs hP hD hS => ?_)
  refine lv_icmp_eq (tgt := 854) hx hb dL_law_404 (by decide) (fun c_ => ?_) (fun c_ => ?_)
  · exact kk _ _ _ _ _ ((s_apply hr ).2) hP hD hS hl
  · exact absurd ((s_apply hr ).1) c_
