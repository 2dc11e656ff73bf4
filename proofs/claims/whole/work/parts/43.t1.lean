def rm_J0_coder_7d493 : Room := { frames := 0, cells := 0, slots := 0, locals := 0 }
set_option maxHeartbeats 1000000 in
set_option maxRecDepth 100000 in
theorem c_J0_coder_7d493 (Γ : gT) (l : Launch) (k : Nat) (hk : k < 15) : Ci Γ l yJ0_coder_7d493 wsJ0_coder_7d493 rm_J0_coder_7d493 [.ref (gSt Γ k)] ([]) (0) ([]) := by
  refine Ci.of (cc := cJ0_coder_7d493) (own := RJ0) (nL := 1) (ret := (some .byte)) (by decide +kernel) rfl rfl (Nat.le_of_ble_eq_true rfl) ?_
  intro p e s m args below meth c A Q H locs ls ha hAe hQ hx hb hml hr hts hown hlk hP hK hD hS hA hG hl
  have hh : Hd Γ p s m args c cJ0_coder_7d493 RJ0 1 wsJ0_coder_7d493 A := ⟨⟨hx, hb, hml, hown, hts⟩, hK, hA, hG⟩
  have hl : lv_has ls 1 [(0, .ref (gSt Γ k))] := hl
  refine va_gets (v := .int 1) hx hb hG.2.2.2.2.2.1 hS hown (hts (.fieldLink RJ0 38 "java/lang/String" "COMPACT_STRINGS" "Z") (List.mem_of_getElem? (i := 1) rfl)) (fun _ h9 => h9) dJ0_coder_7d493_0 ?_
  refine lv_if_eq (tgt := 13) hx hb dJ0_coder_7d493_3 (by decide) (fun c => absurd c (by decide)) (fun _ => ?_)
  refine lv_aload_n hx hb dJ0_coder_7d493_6 rfl (lv_at hl 0 rfl) ?_
  refine vk_getf (v := .int 0) hx hb (hG.2.2.2.2.2.2.2.1 k hk).2.1 hS hown (hts (.fieldLink RJ0 15 "java/lang/String" "coder" "B") (List.mem_of_getElem? (i := 2) rfl)) (fun _ h9 => h9) dJ0_coder_7d493_7 ?_
  refine lv_goto (tgt := 14) hx hb dJ0_coder_7d493_10 (by decide) ?_
  exact re_z hQ ha hx hb hr hlk hAe hP hS dJ0_coder_7d493_14 rfl rfl rfl
def rm_J0_length_8abf5 : Room := { frames := 1, cells := 0, slots := 0, locals := 20 }
set_option maxHeartbeats 1000000 in
set_option maxRecDepth 100000 in
theorem c_J0_length_8abf5 (Γ : gT) (l : Launch) (k : Nat) (hk : k < 15) : Ci Γ l yJ0_length_8abf5 wsJ0_length_8abf5 rm_J0_length_8abf5 [.ref (gSt Γ k)] ([]) (nI (vLen k)) ([]) := by
  refine Ci.of (cc := cJ0_length_8abf5) (own := RJ0) (nL := 1) (ret := (some .int)) (by decide +kernel) rfl rfl (Nat.le_of_ble_eq_true rfl) ?_
  intro p e s m args below meth c A Q H locs ls ha hAe hQ hx hb hml hr hts hown hlk hP hK hD hS hA hG hl
  have hh : Hd Γ p s m args c cJ0_length_8abf5 RJ0 1 wsJ0_length_8abf5 A := ⟨⟨hx, hb, hml, hown, hts⟩, hK, hA, hG⟩
  have hl : lv_has ls 1 [(0, .ref (gSt Γ k))] := hl
  refine lv_aload_n hx hb dJ0_length_8abf5_0 rfl (lv_at hl 0 rfl) ?_
  refine vk_getf (v := .ref (gBy Γ k)) hx hb (hG.2.2.2.2.2.2.2.1 k hk).2.2.1 hS hown (hts (.fieldLink RJ0 9 "java/lang/String" "value" "[B") (List.mem_of_getElem? (i := 1) rfl)) (fun _ h9 => h9) dJ0_length_8abf5_1 ?_
  refine va_tlen hx hb (hG.2.2.2.2.2.2.2.1 k hk).2.2.2 hS (v := (nI (vLen k))) rfl dJ0_length_8abf5_4 ?_
  refine lv_aload_n hx hb dJ0_length_8abf5_5 rfl (lv_at hl 0 rfl) ?_
  refine ca_Ki hh hl.1 (k := k) hk (c_J0_coder_7d493 Γ l k (by first | assumption | omega | decide)) (cwV 0 hts gJ0_length_8abf5_J0_coder_7d493 rfl rfl rfl (by decide +kernel) ⟨(Nat.le_of_ble_eq_true rfl), (Nat.le_of_ble_eq_true rfl)⟩) (As := []) (rest := [.int (nI (vLen k))]) rfl dJ0_length_8abf5_6 rfl (Nat.le_of_ble_eq_true rfl) hP hD hS ⟨Nat.zero_le _, Nat.zero_le _⟩ (fun H locs hP hS => ?_)
  refine lv_ishr hx hb dJ0_length_8abf5_9 ?_
  exact re_i hQ ha hx hb hr hlk hAe hP hS dJ0_length_8abf5_10 (by exact sc_shr0 (vLen_lt k)) rfl
def rm_J0_isLatin1_aae02 : Room := { frames := 0, cells := 0, slots := 0, locals := 0 }
set_option maxHeartbeats 1000000 in
set_option maxRecDepth 100000 in
theorem c_J0_isLatin1_aae02 (Γ : gT) (l : Launch) (k : Nat) (hk : k < 15) : Ci Γ l yJ0_isLatin1_aae02 wsJ0_isLatin1_aae02 rm_J0_isLatin1_aae02 [.ref (gSt Γ k)] ([]) (1) ([]) := by
  refine Ci.of (cc := cJ0_isLatin1_aae02) (own := RJ0) (nL := 1) (ret := (some .boolean)) (by decide +kernel) rfl rfl (Nat.le_of_ble_eq_true rfl) ?_
  intro p e s m args below meth c A Q H locs ls ha hAe hQ hx hb hml hr hts hown hlk hP hK hD hS hA hG hl
  have hh : Hd Γ p s m args c cJ0_isLatin1_aae02 RJ0 1 wsJ0_isLatin1_aae02 A := ⟨⟨hx, hb, hml, hown, hts⟩, hK, hA, hG⟩
  have hl : lv_has ls 1 [(0, .ref (gSt Γ k))] := hl
  refine va_gets (v := .int 1) hx hb hG.2.2.2.2.2.1 hS hown (hts (.fieldLink RJ0 38 "java/lang/String" "COMPACT_STRINGS" "Z") (List.mem_of_getElem? (i := 1) rfl)) (fun _ h9 => h9) dJ0_isLatin1_aae02_0 ?_
  refine lv_if_eq (tgt := 17) hx hb dJ0_isLatin1_aae02_3 (by decide) (fun c => absurd c (by decide)) (fun _ => ?_)
  refine lv_aload_n hx hb dJ0_isLatin1_aae02_6 rfl (lv_at hl 0 rfl) ?_
  refine vk_getf (v := .int 0) hx hb (hG.2.2.2.2.2.2.2.1 k hk).2.1 hS hown (hts (.fieldLink RJ0 15 "java/lang/String" "coder" "B") (List.mem_of_getElem? (i := 2) rfl)) (fun _ h9 => h9) dJ0_isLatin1_aae02_7 ?_
  refine lv_if_ne (tgt := 17) hx hb dJ0_isLatin1_aae02_10 (by decide) (fun c => (c (by decide)).elim) (fun _ => ?_)
  refine lv_iconst (v := 1) hx hb dJ0_isLatin1_aae02_13 (by decide) ?_
  refine lv_goto (tgt := 18) hx hb dJ0_isLatin1_aae02_14 (by decide) ?_
  exact re_z hQ ha hx hb hr hlk hAe hP hS dJ0_isLatin1_aae02_18 rfl rfl rfl
def rm_J3_ck_n : Room := { frames := 0, cells := 0, slots := 0, locals := 0 }
set_option maxHeartbeats 1000000 in
set_option maxRecDepth 100000 in
theorem c_J3_ck_n (Γ : gT) (l : Launch) (i1 : Int32) (n1 : Int32) (h1 : ¬ i1 < 0) (h2 : i1 < n1) : Ci Γ l yJ3_checkIndex_8e157 wsJ3_checkIndex_8e157 rm_J3_ck_n [.int i1, .int n1, .null] ([]) (i1) ([]) := by
  refine Ci.of (cc := cJ3_checkIndex_8e157) (own := RJ3) (nL := 3) (ret := (some .int)) (by decide +kernel) rfl rfl (Nat.le_of_ble_eq_true rfl) ?_
  intro p e s m args below meth c A Q H locs ls ha hAe hQ hx hb hml hr hts hown hlk hP hK hD hS hA hG hl
  have hh : Hd Γ p s m args c cJ3_checkIndex_8e157 RJ3 3 wsJ3_checkIndex_8e157 A := ⟨⟨hx, hb, hml, hown, hts⟩, hK, hA, hG⟩
  have hl : lv_has ls 3 [(0, .int i1), (1, .int n1), (2, .null)] := hl
  refine lv_iload_n hx hb dJ3_checkIndex_8e157_0 rfl (lv_at hl 0 rfl) ?_
  refine lv_if_lt (tgt := 9) hx hb dJ3_checkIndex_8e157_1 (by decide) (fun c => absurd c h1) (fun _ => ?_)
  refine lv_iload_n hx hb dJ3_checkIndex_8e157_4 rfl (lv_at hl 0 rfl) ?_
  refine lv_iload_n hx hb dJ3_checkIndex_8e157_5 rfl (lv_at hl 1 rfl) ?_
  refine lv_icmp_lt (tgt := 16) hx hb dJ3_checkIndex_8e157_6 (by decide) (fun _ => ?_) (fun c => absurd h2 c)
  refine lv_iload_n hx hb dJ3_checkIndex_8e157_16 rfl (lv_at hl 0 rfl) ?_
  exact re_i hQ ha hx hb hr hlk hAe hP hS dJ3_checkIndex_8e157_17 rfl rfl
def rm_J3_ck_r : Room := { frames := 0, cells := 0, slots := 0, locals := 0 }
set_option maxHeartbeats 1000000 in
set_option maxRecDepth 100000 in
theorem c_J3_ck_r (Γ : gT) (l : Launch) (i1 : Int32) (n1 : Int32) (f : Nat) (h1 : ¬ i1 < 0) (h2 : i1 < n1) : Ci Γ l yJ3_checkIndex_8e157 wsJ3_checkIndex_8e157 rm_J3_ck_r [.int i1, .int n1, .ref f] ([]) (i1) ([]) := by
  refine Ci.of (cc := cJ3_checkIndex_8e157) (own := RJ3) (nL := 3) (ret := (some .int)) (by decide +kernel) rfl rfl (Nat.le_of_ble_eq_true rfl) ?_
  intro p e s m args below meth c A Q H locs ls ha hAe hQ hx hb hml hr hts hown hlk hP hK hD hS hA hG hl
  have hh : Hd Γ p s m args c cJ3_checkIndex_8e157 RJ3 3 wsJ3_checkIndex_8e157 A := ⟨⟨hx, hb, hml, hown, hts⟩, hK, hA, hG⟩
  have hl : lv_has ls 3 [(0, .int i1), (1, .int n1), (2, .ref f)] := hl
  refine lv_iload_n hx hb dJ3_checkIndex_8e157_0 rfl (lv_at hl 0 rfl) ?_
  refine lv_if_lt (tgt := 9) hx hb dJ3_checkIndex_8e157_1 (by decide) (fun c => absurd c h1) (fun _ => ?_)
  refine lv_iload_n hx hb dJ3_checkIndex_8e157_4 rfl (lv_at hl 0 rfl) ?_
  refine lv_iload_n hx hb dJ3_checkIndex_8e157_5 rfl (lv_at hl 1 rfl) ?_
  refine lv_icmp_lt (tgt := 16) hx hb dJ3_checkIndex_8e157_6 (by decide) (fun _ => ?_) (fun c => absurd h2 c)
  refine lv_iload_n hx hb dJ3_checkIndex_8e157_16 rfl (lv_at hl 0 rfl) ?_
  exact re_i hQ ha hx hb hr hlk hAe hP hS dJ3_checkIndex_8e157_17 rfl rfl
def rm_J0_checkIndex_df160 : Room := { frames := 1, cells := 0, slots := 0, locals := 22 }
set_option maxHeartbeats 1000000 in
set_option maxRecDepth 100000 in
theorem c_J0_checkIndex_df160 (Γ : gT) (l : Launch) (i1 : Int32) (n1 : Int32) (h1 : ¬ i1 < 0) (h2 : i1 < n1) : Cv Γ l yJ0_checkIndex_df160 wsJ0_checkIndex_df160 rm_J0_checkIndex_df160 [.int i1, .int n1] ([]) ([]) := by
  refine Cv.of (cc := cJ0_checkIndex_df160) (own := RJ0) (nL := 2) (ret := none) (by decide +kernel) rfl rfl (Nat.le_of_ble_eq_true rfl) ?_
  intro p e s m args below meth c A Q H locs ls ha hAe hQ hx hb hml hr hts hown hlk hP hK hD hS hA hG hl
  have hh : Hd Γ p s m args c cJ0_checkIndex_df160 RJ0 2 wsJ0_checkIndex_df160 A := ⟨⟨hx, hb, hml, hown, hts⟩, hK, hA, hG⟩
  have hl : lv_has ls 2 [(0, .int i1), (1, .int n1)] := hl
  have hq := hG.2.2.2.2.2.2.1
  rcases hq with hq | ⟨tq, hq⟩
  · --
    refine lv_iload_n hx hb dJ0_checkIndex_df160_0 rfl (lv_at hl 0 rfl) ?_
    refine lv_iload_n hx hb dJ0_checkIndex_df160_1 rfl (lv_at hl 1 rfl) ?_
    refine va_gets (v := .null) hx hb hq hS hown (hts (.fieldLink RJ0 1053 "jdk/internal/util/Preconditions" "SIOOBE_FORMATTER" "Ljava/util/function/BiFunction;") (List.mem_of_getElem? (i := 1) rfl)) (fun _ h9 => h9) dJ0_checkIndex_df160_2 ?_
    refine ca_Si hh hl.1 (c_J3_ck_n Γ l i1 n1 h1 h2) (va_cwS 3 hts gJ0_checkIndex_df160_J3_checkIndex_8e157 rfl rfl rfl (by decide +kernel) ⟨(Nat.le_of_ble_eq_true rfl), (Nat.le_of_ble_eq_true rfl)⟩) (As := [.int i1, .int n1, .null]) (rest := []) rfl dJ0_checkIndex_df160_5 rfl (Nat.le_of_ble_eq_true rfl) hP hD hS ⟨Nat.zero_le _, Nat.zero_le _⟩ (fun H locs hP hS => ?_)
    refine lv_pop hx hb dJ0_checkIndex_df160_8 rfl ?_
    exact re_v hQ ha hx hb hr hlk hAe hP hS dJ0_checkIndex_df160_9 rfl
  · --
    refine lv_iload_n hx hb dJ0_checkIndex_df160_0 rfl (lv_at hl 0 rfl) ?_
    refine lv_iload_n hx hb dJ0_checkIndex_df160_1 rfl (lv_at hl 1 rfl) ?_
    refine va_gets (v := .ref tq) hx hb hq hS hown (hts (.fieldLink RJ0 1053 "jdk/internal/util/Preconditions" "SIOOBE_FORMATTER" "Ljava/util/function/BiFunction;") (List.mem_of_getElem? (i := 1) rfl)) (fun _ h9 => h9) dJ0_checkIndex_df160_2 ?_
    refine ca_Si hh hl.1 (c_J3_ck_r Γ l i1 n1 tq h1 h2) (va_cwS 3 hts gJ0_checkIndex_df160_J3_checkIndex_8e157 rfl rfl rfl (by decide +kernel) ⟨(Nat.le_of_ble_eq_true rfl), (Nat.le_of_ble_eq_true rfl)⟩) (As := [.int i1, .int n1, .ref tq]) (rest := []) rfl dJ0_checkIndex_df160_5 rfl (Nat.le_of_ble_eq_true rfl) hP hD hS ⟨Nat.zero_le _, Nat.zero_le _⟩ (fun H locs hP hS => ?_)
    refine lv_pop hx hb dJ0_checkIndex_df160_8 rfl ?_
    exact re_v hQ ha hx hb hr hlk hAe hP hS dJ0_checkIndex_df160_9 rfl
def rm_J1_charAt_3b067 : Room := { frames := 2, cells := 0, slots := 0, locals := 43 }
set_option maxHeartbeats 1000000 in
set_option maxRecDepth 100000 in
theorem c_J1_charAt_3b067 (Γ : gT) (l : Launch) (i1 : Int32) (k : Nat) (hk : k < 15) (hi : vp_in i1 (vLen k)) : Ci Γ l yJ1_charAt_3b067 wsJ1_charAt_3b067 rm_J1_charAt_3b067 [.ref (gBy Γ k), .int i1] ([]) (vLet k i1.toNatClampNeg) ([]) := by
  refine Ci.of (cc := cJ1_charAt_3b067) (own := RJ1) (nL := 2) (ret := (some .char)) (by decide +kernel) rfl rfl (Nat.le_of_ble_eq_true rfl) ?_
  intro p e s m args below meth c A Q H locs ls ha hAe hQ hx hb hml hr hts hown hlk hP hK hD hS hA hG hl
  have hh : Hd Γ p s m args c cJ1_charAt_3b067 RJ1 2 wsJ1_charAt_3b067 A := ⟨⟨hx, hb, hml, hown, hts⟩, hK, hA, hG⟩
  have hl : lv_has ls 2 [(0, .ref (gBy Γ k)), (1, .int i1)] := hl
  refine lv_iload_n hx hb dJ1_charAt_3b067_0 rfl (lv_at hl 1 rfl) ?_
  refine lv_aload_n hx hb dJ1_charAt_3b067_1 rfl (lv_at hl 0 rfl) ?_
  refine va_tlen hx hb (hG.2.2.2.2.2.2.2.1 k hk).2.2.2 hS (v := (nI (vLen k))) rfl dJ1_charAt_3b067_2 ?_
  refine ca_Sv hh hl.1 (c_J0_checkIndex_df160 Γ l i1 (nI (vLen k)) (fun q => hi (Or.inl q)) (by rw [nI_of_in hi (vLen_lt k)]; exact nI_lt (in_lt hi) (vLen_lt k))) (va_cwS 2 hts gJ1_charAt_3b067_J0_checkIndex_df160 rfl rfl rfl (by decide +kernel) ⟨(Nat.le_of_ble_eq_true rfl), (Nat.le_of_ble_eq_true rfl)⟩) (As := [.int i1, .int (nI (vLen k))]) (rest := []) rfl dJ1_charAt_3b067_3 rfl (Nat.le_of_ble_eq_true rfl) hP hD hS ⟨Nat.zero_le _, Nat.zero_le _⟩ (fun H locs hP hS => ?_)
  refine lv_aload_n hx hb dJ1_charAt_3b067_6 rfl (lv_at hl 0 rfl) ?_
  refine lv_iload_n hx hb dJ1_charAt_3b067_7 rfl (lv_at hl 1 rfl) ?_
  refine va_tb hx hb (hG.2.2.2.2.2.2.2.1 k hk).2.2.2 hS hi (v := .int (vByte k i1.toNatClampNeg)) rfl dJ1_charAt_3b067_8 ?_
  refine lv_sipush (v := 255) hx hb dJ1_charAt_3b067_9 (by decide) ?_
  refine lv_iand hx hb dJ1_charAt_3b067_12 ?_
  refine lv_i2c (v := ((vByte k i1.toNatClampNeg) &&& 255)) hx hb dJ1_charAt_3b067_13 (sc_c2 _) ?_
  exact re_z hQ ha hx hb hr hlk hAe hP hS dJ1_charAt_3b067_14 (sc_nar _) rfl rfl
def rm_J0_charAt_5068e : Room := { frames := 3, cells := 0, slots := 0, locals := 64 }
set_option maxHeartbeats 1000000 in
set_option maxRecDepth 100000 in
theorem c_J0_charAt_5068e (Γ : gT) (l : Launch) (i1 : Int32) (k : Nat) (hk : k < 15) (hi : vp_in i1 (vLen k)) : Ci Γ l yJ0_charAt_5068e wsJ0_charAt_5068e rm_J0_charAt_5068e [.ref (gSt Γ k), .int i1] ([]) (vLet k i1.toNatClampNeg) ([]) := by
  refine Ci.of (cc := cJ0_charAt_5068e) (own := RJ0) (nL := 2) (ret := (some .char)) (by decide +kernel) rfl rfl (Nat.le_of_ble_eq_true rfl) ?_
  intro p e s m args below meth c A Q H locs ls ha hAe hQ hx hb hml hr hts hown hlk hP hK hD hS hA hG hl
  have hh : Hd Γ p s m args c cJ0_charAt_5068e RJ0 2 wsJ0_charAt_5068e A := ⟨⟨hx, hb, hml, hown, hts⟩, hK, hA, hG⟩
  have hl : lv_has ls 2 [(0, .ref (gSt Γ k)), (1, .int i1)] := hl
  refine lv_aload_n hx hb dJ0_charAt_5068e_0 rfl (lv_at hl 0 rfl) ?_
  refine ca_Ki hh hl.1 (k := k) hk (c_J0_isLatin1_aae02 Γ l k hk) (cwV 0 hts gJ0_charAt_5068e_J0_isLatin1_aae02 rfl rfl rfl (by decide +kernel) ⟨(Nat.le_of_ble_eq_true rfl), (Nat.le_of_ble_eq_true rfl)⟩) (As := []) (rest := []) rfl dJ0_charAt_5068e_1 rfl (Nat.le_of_ble_eq_true rfl) hP hD hS ⟨Nat.zero_le _, Nat.zero_le _⟩ (fun H locs hP hS => ?_)
  refine lv_if_eq (tgt := 16) hx hb dJ0_charAt_5068e_4 (by decide) (fun c => absurd c (by decide)) (fun _ => ?_)
  refine lv_aload_n hx hb dJ0_charAt_5068e_7 rfl (lv_at hl 0 rfl) ?_
  refine vk_getf (v := .ref (gBy Γ k)) hx hb (hG.2.2.2.2.2.2.2.1 k hk).2.2.1 hS hown (hts (.fieldLink RJ0 9 "java/lang/String" "value" "[B") (List.mem_of_getElem? (i := 1) rfl)) (fun _ h9 => h9) dJ0_charAt_5068e_8 ?_
  refine lv_iload_n hx hb dJ0_charAt_5068e_11 rfl (lv_at hl 1 rfl) ?_
  refine ca_Si hh hl.1 (c_J1_charAt_3b067 Γ l i1 k hk hi) (va_cwS 2 hts gJ0_charAt_5068e_J1_charAt_3b067 rfl rfl rfl (by decide +kernel) ⟨(Nat.le_of_ble_eq_true rfl), (Nat.le_of_ble_eq_true rfl)⟩) (As := [.ref (gBy Γ k), .int i1]) (rest := []) rfl dJ0_charAt_5068e_12 rfl (Nat.le_of_ble_eq_true rfl) hP hD hS ⟨Nat.zero_le _, Nat.zero_le _⟩ (fun H locs hP hS => ?_)
  exact re_z hQ ha hx hb hr hlk hAe hP hS dJ0_charAt_5068e_15 (sc_nar _) rfl rfl
def rm_X6_nameOf : Room := { frames := 0, cells := 0, slots := 0, locals := 0 }
set_option maxHeartbeats 1000000 in
set_option maxRecDepth 100000 in
theorem c_X6_nameOf (Γ : gT) (l : Launch) (k : Int32) (hk : vp_in k 15) : Cr Γ l yX6_nameOf wsX6_nameOf rm_X6_nameOf [.int k] ([]) (gSt Γ k.toNatClampNeg) ([]) := by
  refine Cr.of (cc := cX6_nameOf) (own := RX6) (nL := 1) (ret := (some (.object "java/lang/String"))) (by decide +kernel) rfl rfl (Nat.le_of_ble_eq_true rfl) ?_
  intro p e s m args below meth c A Q H locs ls ha hAe hQ hx hb hml hr hts hown hlk hP hK hD hS hA hG hl
  have hh : Hd Γ p s m args c cX6_nameOf RX6 1 wsX6_nameOf A := ⟨⟨hx, hb, hml, hown, hts⟩, hK, hA, hG⟩
  have hl : lv_has ls 1 [(0, .int k)] := hl
  refine lv_iload_n hx hb dX6_nameOf_0 rfl (lv_at hl 0 rfl) ?_
  by_cases t_1_0 : k = 0
  · --
    refine lv_tableIn (tgt := 72) (off := 71) hx hb dX6_nameOf_1 (by rw [t_1_0]; decide) (by rw [t_1_0]; decide) (by rw [t_1_0]; rfl) (by decide) ?_
    refine va_ldcS hx hb hown (hG.2.1 0 (by decide)) dX6_nameOf_72 ?_
    exact re_a hQ ha hx hb hr hlk hAe hP hS dX6_nameOf_74 (Or.inl ⟨_, rfl⟩) (by first | rfl | (rw [t14]; rfl) | (simp [t_1_0]; done)) rfl
  by_cases t_1_1 : k = 1
  · --
    refine lv_tableIn (tgt := 75) (off := 74) hx hb dX6_nameOf_1 (by rw [t_1_1]; decide) (by rw [t_1_1]; decide) (by rw [t_1_1]; rfl) (by decide) ?_
    refine va_ldcS hx hb hown (hG.2.1 1 (by decide)) dX6_nameOf_75 ?_
    exact re_a hQ ha hx hb hr hlk hAe hP hS dX6_nameOf_77 (Or.inl ⟨_, rfl⟩) (by first | rfl | (rw [t14]; rfl) | (simp [t_1_1]; done)) rfl
  by_cases t_1_2 : k = 2
  · --
    refine lv_tableIn (tgt := 78) (off := 77) hx hb dX6_nameOf_1 (by rw [t_1_2]; decide) (by rw [t_1_2]; decide) (by rw [t_1_2]; rfl) (by decide) ?_
    refine va_ldcS hx hb hown (hG.2.1 2 (by decide)) dX6_nameOf_78 ?_
    exact re_a hQ ha hx hb hr hlk hAe hP hS dX6_nameOf_80 (Or.inl ⟨_, rfl⟩) (by first | rfl | (rw [t14]; rfl) | (simp [t_1_2]; done)) rfl
  by_cases t_1_3 : k = 3
  · --
    refine lv_tableIn (tgt := 81) (off := 80) hx hb dX6_nameOf_1 (by rw [t_1_3]; decide) (by rw [t_1_3]; decide) (by rw [t_1_3]; rfl) (by decide) ?_
    refine lv_ldcSw hx hb hown (hG.2.1 3 (by decide)) dX6_nameOf_81 ?_
    exact re_a hQ ha hx hb hr hlk hAe hP hS dX6_nameOf_84 (Or.inl ⟨_, rfl⟩) (by first | rfl | (rw [t14]; rfl) | (simp [t_1_3]; done)) rfl
  by_cases t_1_4 : k = 4
  · --
    refine lv_tableIn (tgt := 85) (off := 84) hx hb dX6_nameOf_1 (by rw [t_1_4]; decide) (by rw [t_1_4]; decide) (by rw [t_1_4]; rfl) (by decide) ?_
    refine lv_ldcSw hx hb hown (hG.2.1 4 (by decide)) dX6_nameOf_85 ?_
    exact re_a hQ ha hx hb hr hlk hAe hP hS dX6_nameOf_88 (Or.inl ⟨_, rfl⟩) (by first | rfl | (rw [t14]; rfl) | (simp [t_1_4]; done)) rfl
  by_cases t_1_5 : k = 5
  · --
    refine lv_tableIn (tgt := 89) (off := 88) hx hb dX6_nameOf_1 (by rw [t_1_5]; decide) (by rw [t_1_5]; decide) (by rw [t_1_5]; rfl) (by decide) ?_
    refine lv_ldcSw hx hb hown (hG.2.1 5 (by decide)) dX6_nameOf_89 ?_
    exact re_a hQ ha hx hb hr hlk hAe hP hS dX6_nameOf_92 (Or.inl ⟨_, rfl⟩) (by first | rfl | (rw [t14]; rfl) | (simp [t_1_5]; done)) rfl
  by_cases t_1_6 : k = 6
  · --
    refine lv_tableIn (tgt := 93) (off := 92) hx hb dX6_nameOf_1 (by rw [t_1_6]; decide) (by rw [t_1_6]; decide) (by rw [t_1_6]; rfl) (by decide) ?_
    refine lv_ldcSw hx hb hown (hG.2.1 6 (by decide)) dX6_nameOf_93 ?_
    exact re_a hQ ha hx hb hr hlk hAe hP hS dX6_nameOf_96 (Or.inl ⟨_, rfl⟩) (by first | rfl | (rw [t14]; rfl) | (simp [t_1_6]; done)) rfl
  by_cases t_1_7 : k = 7
  · --
    refine lv_tableIn (tgt := 97) (off := 96) hx hb dX6_nameOf_1 (by rw [t_1_7]; decide) (by rw [t_1_7]; decide) (by rw [t_1_7]; rfl) (by decide) ?_
    refine lv_ldcSw hx hb hown (hG.2.1 7 (by decide)) dX6_nameOf_97 ?_
    exact re_a hQ ha hx hb hr hlk hAe hP hS dX6_nameOf_100 (Or.inl ⟨_, rfl⟩) (by first | rfl | (rw [t14]; rfl) | (simp [t_1_7]; done)) rfl
  by_cases t_1_8 : k = 8
  · --
    refine lv_tableIn (tgt := 101) (off := 100) hx hb dX6_nameOf_1 (by rw [t_1_8]; decide) (by rw [t_1_8]; decide) (by rw [t_1_8]; rfl) (by decide) ?_
    refine lv_ldcSw hx hb hown (hG.2.1 8 (by decide)) dX6_nameOf_101 ?_
    exact re_a hQ ha hx hb hr hlk hAe hP hS dX6_nameOf_104 (Or.inl ⟨_, rfl⟩) (by first | rfl | (rw [t14]; rfl) | (simp [t_1_8]; done)) rfl
  by_cases t_1_9 : k = 9
  · --
    refine lv_tableIn (tgt := 105) (off := 104) hx hb dX6_nameOf_1 (by rw [t_1_9]; decide) (by rw [t_1_9]; decide) (by rw [t_1_9]; rfl) (by decide) ?_
    refine lv_ldcSw hx hb hown (hG.2.1 9 (by decide)) dX6_nameOf_105 ?_
    exact re_a hQ ha hx hb hr hlk hAe hP hS dX6_nameOf_108 (Or.inl ⟨_, rfl⟩) (by first | rfl | (rw [t14]; rfl) | (simp [t_1_9]; done)) rfl
  by_cases t_1_10 : k = 10
  · --
    refine lv_tableIn (tgt := 109) (off := 108) hx hb dX6_nameOf_1 (by rw [t_1_10]; decide) (by rw [t_1_10]; decide) (by rw [t_1_10]; rfl) (by decide) ?_
    refine lv_ldcSw hx hb hown (hG.2.1 10 (by decide)) dX6_nameOf_109 ?_
    exact re_a hQ ha hx hb hr hlk hAe hP hS dX6_nameOf_112 (Or.inl ⟨_, rfl⟩) (by first | rfl | (rw [t14]; rfl) | (simp [t_1_10]; done)) rfl
  by_cases t_1_11 : k = 11
  · --
    refine lv_tableIn (tgt := 113) (off := 112) hx hb dX6_nameOf_1 (by rw [t_1_11]; decide) (by rw [t_1_11]; decide) (by rw [t_1_11]; rfl) (by decide) ?_
    refine lv_ldcSw hx hb hown (hG.2.1 11 (by decide)) dX6_nameOf_113 ?_
    exact re_a hQ ha hx hb hr hlk hAe hP hS dX6_nameOf_116 (Or.inl ⟨_, rfl⟩) (by first | rfl | (rw [t14]; rfl) | (simp [t_1_11]; done)) rfl
  by_cases t_1_12 : k = 12
  · --
    refine lv_tableIn (tgt := 117) (off := 116) hx hb dX6_nameOf_1 (by rw [t_1_12]; decide) (by rw [t_1_12]; decide) (by rw [t_1_12]; rfl) (by decide) ?_
    refine lv_ldcSw hx hb hown (hG.2.1 12 (by decide)) dX6_nameOf_117 ?_
    exact re_a hQ ha hx hb hr hlk hAe hP hS dX6_nameOf_120 (Or.inl ⟨_, rfl⟩) (by first | rfl | (rw [t14]; rfl) | (simp [t_1_12]; done)) rfl
  by_cases t_1_13 : k = 13
  · --
    refine lv_tableIn (tgt := 121) (off := 120) hx hb dX6_nameOf_1 (by rw [t_1_13]; decide) (by rw [t_1_13]; decide) (by rw [t_1_13]; rfl) (by decide) ?_
    refine lv_ldcSw hx hb hown (hG.2.1 13 (by decide)) dX6_nameOf_121 ?_
    exact re_a hQ ha hx hb hr hlk hAe hP hS dX6_nameOf_124 (Or.inl ⟨_, rfl⟩) (by first | rfl | (rw [t14]; rfl) | (simp [t_1_13]; done)) rfl
  have t14 := tb_out14 hk t_1_0 t_1_1 t_1_2 t_1_3 t_1_4 t_1_5 t_1_6 t_1_7 t_1_8 t_1_9 t_1_10 t_1_11 t_1_12 t_1_13
  refine lv_tableOut (tgt := 125) hx hb dX6_nameOf_1 (Or.inr (by rw [t14]; decide)) (by decide) ?_
  refine lv_ldcSw hx hb hown (hG.2.1 14 (by decide)) dX6_nameOf_125 ?_
  exact re_a hQ ha hx hb hr hlk hAe hP hS dX6_nameOf_128 (Or.inl ⟨_, rfl⟩) (by first | rfl | (rw [t14]; rfl) | (simp [t14]; done)) rfl
def rm_X4_characterAt : Room := { frames := 0, cells := 0, slots := 0, locals := 0 }
theorem iX4_characterAt_4 : ∀ w ∈ u_ws RX4 TX4 5, w ∈ wsX4_characterAt := fun w h => (List.mem_cons_of_mem _ (List.mem_append_right _ h))
set_option maxHeartbeats 1000000 in
set_option maxRecDepth 100000 in
theorem c_X4_characterAt (Γ : gT) (l : Launch) (a : Nat → Nat) (b : Nat) (t : Txt) (i1 : Int32)  : Ci Γ l yX4_characterAt wsX4_characterAt rm_X4_characterAt [.ref (a b), .int i1] (txtW Γ a b t) (fChr (tChars t) (tLen t) i1) (txtW Γ a b t) := by
  refine Ci.of (cc := cX4_characterAt) (own := RX4) (nL := 2) (ret := (some .int)) (by decide +kernel) rfl rfl (Nat.le_of_ble_eq_true rfl) ?_
  intro p e s m args below meth c A Q H locs ls ha hAe hQ hx hb hml hr hts hown hlk hP hK hD hS hA hG hl
  have hh : Hd Γ p s m args c cX4_characterAt RX4 2 wsX4_characterAt A := ⟨⟨hx, hb, hml, hown, hts⟩, hK, hA, hG⟩
  have hl : lv_has ls 2 [(0, .ref (a b)), (1, .int i1)] := hl
  refine lv_iload_n hx hb dX4_characterAt_0 rfl (lv_at hl 1 rfl) ?_
  refine lv_if_lt (tgt := 27) hx hb dX4_characterAt_1 (by decide) (fun c_1 => ?_) (fun c_1 => ?_)
  · -- yes
    refine lv_iconst (v := 0) hx hb dX4_characterAt_27 (by decide) ?_
    exact re_i hQ ha hx hb hr hlk hAe hP hS dX4_characterAt_28 (by skip; first | rfl | simp [fChr, c_1]) (by skip; first | rfl | simp [fChr, c_1])
  · -- no
    refine lv_iload_n hx hb dX4_characterAt_4 rfl (lv_at hl 1 rfl) ?_
    refine lv_aload_n hx hb dX4_characterAt_5 rfl (lv_at hl 0 rfl) ?_
    refine va_get (D := gD Γ) (cl := vwCl) (tys := gTy Γ) (ci := 4) (v := .int (tLen t)) (C := RX4) (T := TX4) (N := 5) hx hb hts iX4_characterAt_4 hown hK hP 0 rfl rfl 3 (Nat.le_of_ble_eq_true rfl) (hts (.fieldLink RX4 22 "DeadTimeLoop$Text" "length" "I") (List.mem_of_getElem? (i := 1) rfl)) (fun _ h9 => h9) rfl dX4_characterAt_6 ?_
    refine lv_icmp_ge (tgt := 27) hx hb dX4_characterAt_9 (by decide) (fun c_9 => ?_) (fun c_9 => ?_)
    · -- yes
      refine lv_iconst (v := 0) hx hb dX4_characterAt_27 (by decide) ?_
      exact re_i hQ ha hx hb hr hlk hAe hP hS dX4_characterAt_28 (by skip; first | rfl | simp [fChr, c_1, c_9]) (by skip; first | rfl | simp [fChr, c_1, c_9])
    · -- no
      refine lv_iload_n hx hb dX4_characterAt_12 rfl (lv_at hl 1 rfl) ?_
      refine lv_bipush (v := 80) hx hb dX4_characterAt_13 (by decide) ?_
      refine lv_icmp_ge (tgt := 27) hx hb dX4_characterAt_15 (by decide) (fun c_15 => ?_) (fun c_15 => ?_)
      · -- yes
        refine lv_iconst (v := 0) hx hb dX4_characterAt_27 (by decide) ?_
        exact re_i hQ ha hx hb hr hlk hAe hP hS dX4_characterAt_28 (by skip; first | rfl | simp [fChr, c_1, c_9, c_15]) (by skip; first | rfl | simp [fChr, c_1, c_9, c_15])
      · -- no
        refine lv_aload_n hx hb dX4_characterAt_18 rfl (lv_at hl 0 rfl) ?_
        refine va_get (D := gD Γ) (cl := vwCl) (tys := gTy Γ) (ci := 4) (v := .ref (a (b + 1))) (C := RX4) (T := TX4) (N := 5) hx hb hts iX4_characterAt_4 hown hK hP 0 rfl rfl 0 (Nat.le_of_ble_eq_true rfl) (hts (.fieldLink RX4 9 "DeadTimeLoop$Text" "characters" "[C") (List.mem_of_getElem? (i := 2) rfl)) (fun _ h9 => h9) rfl dX4_characterAt_19 ?_
        refine lv_iload_n hx hb dX4_characterAt_22 rfl (lv_at hl 1 rfl) ?_
        refine ka_cald (D := gD Γ) (cl := vwCl) (tys := gTy Γ) hx hb hK hP 1 2 rfl rfl (i1.toNatClampNeg) (nI_of_in (in_rng (n := 80) (by decide) c_1 c_15) (by decide)) (in_lt (in_rng (n := 80) (by decide) c_1 c_15)) (by decide) (v := ((tChars t) i1.toNatClampNeg)) rfl dX4_characterAt_23 ?_
        refine lv_goto (tgt := 28) hx hb dX4_characterAt_24 (by decide) ?_
        exact re_i hQ ha hx hb hr hlk hAe hP hS dX4_characterAt_28 (by skip; first | rfl | simp [fChr, c_1, c_9, c_15]) (by skip; first | rfl | simp [fChr, c_1, c_9, c_15])
def rm_X4_isDigitAt : Room := { frames := 1, cells := 0, slots := 0, locals := 21 }
set_option maxHeartbeats 1000000 in
set_option maxRecDepth 100000 in
theorem c_X4_isDigitAt (Γ : gT) (l : Launch) (a : Nat → Nat) (b : Nat) (t : Txt) (i1 : Int32)  : Ci Γ l yX4_isDigitAt wsX4_isDigitAt rm_X4_isDigitAt [.ref (a b), .int i1] (txtW Γ a b t) (fDig (tChars t) (tLen t) i1) (txtW Γ a b t) := by
  refine Ci.of (cc := cX4_isDigitAt) (own := RX4) (nL := 3) (ret := (some .boolean)) (by decide +kernel) rfl rfl (Nat.le_of_ble_eq_true rfl) ?_
  intro p e s m args below meth c A Q H locs ls ha hAe hQ hx hb hml hr hts hown hlk hP hK hD hS hA hG hl
  have hh : Hd Γ p s m args c cX4_isDigitAt RX4 3 wsX4_isDigitAt A := ⟨⟨hx, hb, hml, hown, hts⟩, hK, hA, hG⟩
  have hl : lv_has ls 3 [(0, .ref (a b)), (1, .int i1)] := hl
  refine lv_aload_n hx hb dX4_isDigitAt_0 rfl (lv_at hl 0 rfl) ?_
  refine lv_iload_n hx hb dX4_isDigitAt_1 rfl (lv_at hl 1 rfl) ?_
  refine ca_Via hh hl.1 (c_X4_characterAt Γ l a b t i1) (cwV 1 hts gX4_isDigitAt_X4_characterAt rfl rfl rfl (by decide +kernel) ⟨(Nat.le_of_ble_eq_true rfl), (Nat.le_of_ble_eq_true rfl)⟩) (As := [.int i1]) (rest := []) rfl dX4_isDigitAt_2 rfl (Nat.le_of_ble_eq_true rfl) hP hD hS (q0 := 0) (ci := 4) rfl rfl rfl (wf := txtW Γ a b t) rfl ⟨Nat.zero_le _, Nat.zero_le _⟩ (fun H locs hP hD hS => ?_)
  refine lv_istore_n (lv' := [(2, .int (fChr (tChars t) (tLen t) i1)), (0, .ref (a b)), (1, .int i1)]) hx hb dX4_isDigitAt_5 rfl hl (by decide) rfl (fun ls hl => ?_)
  refine lv_iload_n hx hb dX4_isDigitAt_6 rfl (lv_at hl 0 rfl) ?_
  refine lv_bipush (v := 48) hx hb dX4_isDigitAt_7 (by decide) ?_
  refine lv_icmp_lt (tgt := 22) hx hb dX4_isDigitAt_9 (by decide) (fun c_9 => ?_) (fun c_9 => ?_)
  · -- yes
    refine lv_iconst (v := 0) hx hb dX4_isDigitAt_22 (by decide) ?_
    exact re_z hQ ha hx hb hr hlk hAe hP hS dX4_isDigitAt_23 rfl (by simp only [fDig, fDig1, c_9, if_true, if_false]) rfl
  · -- no
    refine lv_iload_n hx hb dX4_isDigitAt_12 rfl (lv_at hl 0 rfl) ?_
    refine lv_bipush (v := 57) hx hb dX4_isDigitAt_13 (by decide) ?_
    refine lv_icmp_gt (tgt := 22) hx hb dX4_isDigitAt_15 (by decide) (fun c_15 => ?_) (fun c_15 => ?_)
    · -- yes
      refine lv_iconst (v := 0) hx hb dX4_isDigitAt_22 (by decide) ?_
      exact re_z hQ ha hx hb hr hlk hAe hP hS dX4_isDigitAt_23 rfl (by simp only [fDig, fDig1, c_9, c_15, if_true, if_false]) rfl
    · -- no
      refine lv_iconst (v := 1) hx hb dX4_isDigitAt_18 (by decide) ?_
      refine lv_goto (tgt := 23) hx hb dX4_isDigitAt_19 (by decide) ?_
      exact re_z hQ ha hx hb hr hlk hAe hP hS dX4_isDigitAt_23 rfl (by simp only [fDig, fDig1, c_9, c_15, if_true, if_false]) rfl
def rm_X4_keep : Room := { frames := 2, cells := 0, slots := 0, locals := 41 }
theorem iX4_keep_4 : ∀ w ∈ u_ws RX4 TX4 5, w ∈ wsX4_keep := fun w h => (List.mem_cons_of_mem _ (List.mem_append_right _ h))
set_option maxHeartbeats 1000000 in
set_option maxRecDepth 100000 in
theorem c_X4_keep (Γ : gT) (l : Launch) (a : Nat → Nat) (b : Nat) (t : Txt) (k : Int32) (v : Int32) (hc0 : ¬ tCnt t < 0) : Ci Γ l yX4_keep wsX4_keep rm_X4_keep [.ref (a b), .int k, .int v] (txtW Γ a b t) (tKeepR (tCnt t) k v) (txtW Γ a b (tKeep t k v)) := by
  refine Ci.of (cc := cX4_keep) (own := RX4) (nL := 3) (ret := (some .boolean)) (by decide +kernel) rfl rfl (Nat.le_of_ble_eq_true rfl) ?_
  intro p e s m args below meth c A Q H locs ls ha hAe hQ hx hb hml hr hts hown hlk hP hK hD hS hA hG hl
  have hh : Hd Γ p s m args c cX4_keep RX4 3 wsX4_keep A := ⟨⟨hx, hb, hml, hown, hts⟩, hK, hA, hG⟩
  have hl : lv_has ls 3 [(0, .ref (a b)), (1, .int k), (2, .int v)] := hl
  refine lv_iload_n hx hb dX4_keep_0 rfl (lv_at hl 1 rfl) ?_
  refine lv_iload_n hx hb dX4_keep_1 rfl (lv_at hl 2 rfl) ?_
  refine ca_Ni hh hl.1 (c_X6_allows Γ l k v) ⟨va_cnB (host := RX6) 2 hts gX4_keep_X6_allows_n65 rfl rfl rfl hG.1.2.2.2.2.1 (hts (.initialized RX6) (List.mem_of_getElem? (i := 5) rfl)) (by decide +kernel) ⟨(Nat.le_of_ble_eq_true rfl), (Nat.le_of_ble_eq_true rfl)⟩, (hts (.static yX6_allows) (List.mem_of_getElem? (i := 4) rfl)), trivial⟩ (As := [.int k, .int v]) (rest := []) rfl dX4_keep_2 rfl (Nat.le_of_ble_eq_true rfl) hP hD hS ⟨Nat.zero_le _, Nat.zero_le _⟩ (fun H locs hP hS => ?_)
  refine lv_if_eq (tgt := 17) hx hb dX4_keep_5 (by decide) (fun c_5 => ?_) (fun c_5 => ?_)
  · -- yes
    refine lv_iconst (v := 0) hx hb dX4_keep_17 (by decide) ?_
    exact re_z hQ ha hx hb hr hlk hAe hP hS dX4_keep_18 rfl (by skip; first | rfl | simp [tKeep, tKeepR, c_5]) (by skip; first | rfl | simp [tKeep, tKeepR, c_5])
  · -- no
    refine lv_aload_n hx hb dX4_keep_8 rfl (lv_at hl 0 rfl) ?_
    refine va_get (D := gD Γ) (cl := vwCl) (tys := gTy Γ) (ci := 4) (v := .int (tCnt t)) (C := RX4) (T := TX4) (N := 5) hx hb hts iX4_keep_4 hown hK hP 0 rfl rfl 4 (Nat.le_of_ble_eq_true rfl) (hts (.fieldLink RX4 26 "DeadTimeLoop$Text" "count" "I") (List.mem_of_getElem? (i := 1) rfl)) (fun _ h9 => h9) rfl dX4_keep_9 ?_
    refine lv_bipush (v := 16) hx hb dX4_keep_12 (by decide) ?_
    refine lv_icmp_lt (tgt := 19) hx hb dX4_keep_14 (by decide) (fun c_14 => ?_) (fun c_14 => ?_)
    · -- yes
      refine lv_aload_n hx hb dX4_keep_19 rfl (lv_at hl 0 rfl) ?_
      refine va_get (D := gD Γ) (cl := vwCl) (tys := gTy Γ) (ci := 4) (v := .ref (a (b + 2))) (C := RX4) (T := TX4) (N := 5) hx hb hts iX4_keep_4 hown hK hP 0 rfl rfl 1 (Nat.le_of_ble_eq_true rfl) (hts (.fieldLink RX4 15 "DeadTimeLoop$Text" "targets" "[I") (List.mem_of_getElem? (i := 2) rfl)) (fun _ h9 => h9) rfl dX4_keep_20 ?_
      refine lv_aload_n hx hb dX4_keep_23 rfl (lv_at hl 0 rfl) ?_
      refine va_get (D := gD Γ) (cl := vwCl) (tys := gTy Γ) (ci := 4) (v := .int (tCnt t)) (C := RX4) (T := TX4) (N := 5) hx hb hts iX4_keep_4 hown hK hP 0 rfl rfl 4 (Nat.le_of_ble_eq_true rfl) (hts (.fieldLink RX4 26 "DeadTimeLoop$Text" "count" "I") (List.mem_of_getElem? (i := 1) rfl)) (fun _ h9 => h9) rfl dX4_keep_24 ?_
      refine lv_iload_n hx hb dX4_keep_27 rfl (lv_at hl 1 rfl) ?_
      refine ka_iast (D := gD Γ) (cl := vwCl) (tys := gTy Γ) hx hb hK hP hD hS 2 0 rfl rfl ((tCnt t).toNatClampNeg) (nI_of_in (in_rng (n := 16) (by decide) hc0 (Int32.not_le.mpr c_14)) (by decide)) (in_lt (in_rng (n := 16) (by decide) hc0 (Int32.not_le.mpr c_14))) (by decide) (wf := txtW Γ a b ((tChars t), (upd (tTarg t) ((tCnt t).toNatClampNeg) k), (tWant t), (tLen t), (tCnt t))) rfl dX4_keep_28 (fun H locs hP hD hS => ?_)
      refine lv_aload_n hx hb dX4_keep_29 rfl (lv_at hl 0 rfl) ?_
      refine va_get (D := gD Γ) (cl := vwCl) (tys := gTy Γ) (ci := 4) (v := .ref (a (b + 3))) (C := RX4) (T := TX4) (N := 5) hx hb hts iX4_keep_4 hown hK hP 0 rfl rfl 2 (Nat.le_of_ble_eq_true rfl) (hts (.fieldLink RX4 19 "DeadTimeLoop$Text" "wanted" "[I") (List.mem_of_getElem? (i := 3) rfl)) (fun _ h9 => h9) rfl dX4_keep_30 ?_
      refine lv_aload_n hx hb dX4_keep_33 rfl (lv_at hl 0 rfl) ?_
      refine va_get (D := gD Γ) (cl := vwCl) (tys := gTy Γ) (ci := 4) (v := .int (tCnt t)) (C := RX4) (T := TX4) (N := 5) hx hb hts iX4_keep_4 hown hK hP 0 rfl rfl 4 (Nat.le_of_ble_eq_true rfl) (hts (.fieldLink RX4 26 "DeadTimeLoop$Text" "count" "I") (List.mem_of_getElem? (i := 1) rfl)) (fun _ h9 => h9) rfl dX4_keep_34 ?_
      refine lv_iload_n hx hb dX4_keep_37 rfl (lv_at hl 2 rfl) ?_
      refine ka_iast (D := gD Γ) (cl := vwCl) (tys := gTy Γ) hx hb hK hP hD hS 3 0 rfl rfl ((tCnt t).toNatClampNeg) (nI_of_in (in_rng (n := 16) (by decide) hc0 (Int32.not_le.mpr c_14)) (by decide)) (in_lt (in_rng (n := 16) (by decide) hc0 (Int32.not_le.mpr c_14))) (by decide) (wf := txtW Γ a b ((tChars t), (upd (tTarg t) ((tCnt t).toNatClampNeg) k), (upd (tWant t) ((tCnt t).toNatClampNeg) v), (tLen t), (tCnt t))) rfl dX4_keep_38 (fun H locs hP hD hS => ?_)
      refine lv_aload_n hx hb dX4_keep_39 rfl (lv_at hl 0 rfl) ?_
      refine lv_dup hx hb dX4_keep_40 rfl ?_
      refine va_get (D := gD Γ) (cl := vwCl) (tys := gTy Γ) (ci := 4) (v := .int (tCnt t)) (C := RX4) (T := TX4) (N := 5) hx hb hts iX4_keep_4 hown hK hP 0 rfl rfl 4 (Nat.le_of_ble_eq_true rfl) (hts (.fieldLink RX4 26 "DeadTimeLoop$Text" "count" "I") (List.mem_of_getElem? (i := 1) rfl)) (fun _ h9 => h9) rfl dX4_keep_41 ?_
      refine lv_iconst (v := 1) hx hb dX4_keep_44 (by decide) ?_
      refine lv_iadd hx hb dX4_keep_45 ?_
      refine va_put (D := gD Γ) (cl := vwCl) (tys := gTy Γ) (ci := 4) (v := .int ((tCnt t) + 1)) (ty := tyX4 4) (C := RX4) (T := TX4) (N := 5) hx hb hts iX4_keep_4 tyX4 tyX4_ok nmX4 hown hK hP hD hS 0 rfl rfl 4 (Nat.le_of_ble_eq_true rfl) (hts (.fieldLink RX4 26 "DeadTimeLoop$Text" "count" "I") (List.mem_of_getElem? (i := 1) rfl)) (fun _ h9 => h9) rfl (tyX4_ok 4 (Nat.le_of_ble_eq_true rfl)) rfl rfl (Nat.le_of_ble_eq_true rfl) dX4_keep_46 (fun H locs hP hD hS => ?_)
      have hP : va_P (gD Γ) vwCl (txtW Γ a b ((tChars t), (upd (tTarg t) ((tCnt t).toNatClampNeg) k), (upd (tWant t) ((tCnt t).toNatClampNeg) v), (tLen t), ((tCnt t) + 1))) H := hP
      have hD : va_D A (txtW Γ a b ((tChars t), (upd (tTarg t) ((tCnt t).toNatClampNeg) k), (upd (tWant t) ((tCnt t).toNatClampNeg) v), (tLen t), ((tCnt t) + 1))) := hD
      refine lv_iconst (v := 1) hx hb dX4_keep_49 (by decide) ?_
      exact re_z hQ ha hx hb hr hlk hAe hP hS dX4_keep_50 rfl (by skip; first | rfl | simp [tKeep, tKeepR, c_5, c_14]) (by skip; first | rfl | simp [tKeep, tKeepR, c_5, c_14])
    · -- no
      refine lv_iconst (v := 0) hx hb dX4_keep_17 (by decide) ?_
      exact re_z hQ ha hx hb hr hlk hAe hP hS dX4_keep_18 rfl (by skip; first | rfl | simp [tKeep, tKeepR, c_5, c_14]) (by skip; first | rfl | simp [tKeep, tKeepR, c_5, c_14])
def rm_X4_standsAt : Room := { frames := 4, cells := 0, slots := 0, locals := 85 }
set_option maxHeartbeats 1000000 in
set_option maxRecDepth 100000 in
theorem c_X4_standsAt (Γ : gT) (l : Launch) (a : Nat → Nat) (b : Nat) (t : Txt) (start : Int32) (k : Nat) (hk : k < 15) : Ci Γ l yX4_standsAt wsX4_standsAt rm_X4_standsAt [.ref (a b), .ref (gSt Γ k), .int start] (txtW Γ a b t) (fStands (tChars t) (tLen t) k start) (txtW Γ a b t) := by
  refine Ci.of (cc := cX4_standsAt) (own := RX4) (nL := 4) (ret := (some .boolean)) (by decide +kernel) rfl rfl (Nat.le_of_ble_eq_true rfl) ?_
  intro p e s m args below meth c A Q H locs ls ha hAe hQ hx hb hml hr hts hown hlk hP hK hD hS hA hG hl
  have hh : Hd Γ p s m args c cX4_standsAt RX4 4 wsX4_standsAt A := ⟨⟨hx, hb, hml, hown, hts⟩, hK, hA, hG⟩
  have hl : lv_has ls 4 [(0, .ref (a b)), (1, .ref (gSt Γ k)), (2, .int start)] := hl
  refine lv_iconst (v := 0) hx hb dX4_standsAt_0 (by decide) ?_
  refine lv_istore_n (lv' := [(3, .int 0), (0, .ref (a b)), (1, .ref (gSt Γ k)), (2, .int start)]) hx hb dX4_standsAt_1 rfl hl (by decide) rfl (fun ls hl => ?_)
  have hJ_2 : ∀ n : Nat, ∀ (j : Nat) (y : Int32), (y = nI j) → (j ≤ 8) → (9 ≤ j + n) → (fStN (tChars t) (tLen t) k start n j = fStands (tChars t) (tLen t) k start) → ∀ (H : Heap) (locs : List Loc) (ls : Array Slot), va_P (gD Γ) vwCl (txtW Γ a b t) H → va_D A (txtW Γ a b t) → va_S A s.heap H locs → lv_has ls 4 [(0, .ref (a b)), (1, .ref (gSt Γ k)), (2, .int start), (3, .int y)] → W p l e rm_X4_standsAt s m args below meth c H locs 0 0 Q (F0 m 2 ls []) := by
    intro n
    induction n with
    | zero =>
      intro j y ey hj hn hg
      omega
    | succ n ih =>
      intro j y ey hj hn hg H locs ls hP hD hS hl
      refine lv_iload_n hx hb dX4_standsAt_2 rfl (lv_at hl 3 rfl) ?_
      refine lv_aload_n hx hb dX4_standsAt_3 rfl (lv_at hl 1 rfl) ?_
      refine ca_Ki hh hl.1 (k := k) hk (c_J0_length_8abf5 Γ l k hk) (cwV 0 hts gX4_standsAt_J0_length_8abf5 rfl rfl rfl (by decide +kernel) ⟨(Nat.le_of_ble_eq_true rfl), (Nat.le_of_ble_eq_true rfl)⟩) (As := []) (rest := [.int y]) rfl dX4_standsAt_4 rfl (Nat.le_of_ble_eq_true rfl) hP hD hS ⟨Nat.zero_le _, Nat.zero_le _⟩ (fun H locs hP hS => ?_)
      refine lv_icmp_ge (tgt := 33) hx hb dX4_standsAt_7 (by decide) (fun c_7 => ?_) (fun c_7 => ?_)
      · -- yes
        refine lv_iconst (v := 1) hx hb dX4_standsAt_33 (by decide) ?_
        exact re_z hQ ha hx hb hr hlk hAe hP hS dX4_standsAt_34 rfl (by rw [← hg, fStN_s]; subst ey; (try first | rw [if_pos c_7] | rw [if_neg c_7])) rfl
      · -- no
        refine lv_aload_n hx hb dX4_standsAt_10 rfl (lv_at hl 0 rfl) ?_
        refine lv_iload_n hx hb dX4_standsAt_11 rfl (lv_at hl 2 rfl) ?_
        refine lv_iload_n hx hb dX4_standsAt_12 rfl (lv_at hl 3 rfl) ?_
        refine lv_iadd hx hb dX4_standsAt_13 ?_
        refine ca_Via hh hl.1 (c_X4_characterAt Γ l a b t (start + y)) (cwV 1 hts gX4_standsAt_X4_characterAt rfl rfl rfl (by decide +kernel) ⟨(Nat.le_of_ble_eq_true rfl), (Nat.le_of_ble_eq_true rfl)⟩) (As := [.int (start + y)]) (rest := []) rfl dX4_standsAt_14 rfl (Nat.le_of_ble_eq_true rfl) hP hD hS (q0 := 0) (ci := 4) rfl rfl rfl (wf := txtW Γ a b t) rfl ⟨Nat.zero_le _, Nat.zero_le _⟩ (fun H locs hP hD hS => ?_)
        refine lv_aload_n hx hb dX4_standsAt_17 rfl (lv_at hl 1 rfl) ?_
        refine lv_iload_n hx hb dX4_standsAt_18 rfl (lv_at hl 3 rfl) ?_
        refine ca_Ki hh hl.1 (k := k) hk (c_J0_charAt_5068e Γ l y k hk (by rw [ey]; exact vp_in_nI (lt_of_ngt (by rw [← ey]; exact c_7) (vLen_lt k) (by omega)) (vLen_lt k))) (cwV 1 hts gX4_standsAt_J0_charAt_5068e rfl rfl rfl (by decide +kernel) ⟨(Nat.le_of_ble_eq_true rfl), (Nat.le_of_ble_eq_true rfl)⟩) (As := [.int y]) (rest := [.int (fChr (tChars t) (tLen t) (start + y))]) rfl dX4_standsAt_19 rfl (Nat.le_of_ble_eq_true rfl) hP hD hS ⟨Nat.zero_le _, Nat.zero_le _⟩ (fun H locs hP hS => ?_)
        refine lv_icmp_eq (tgt := 27) hx hb dX4_standsAt_22 (by decide) (fun c_22 => ?_) (fun c_22 => ?_)
        · -- yes
          refine lv_iinc (v := (y + 1)) (lv' := [(3, .int (y + 1)), (0, .ref (a b)), (1, .ref (gSt Γ k)), (2, .int start)]) hx hb dX4_standsAt_27 hl (k := 3) rfl rfl (by decide) rfl (fun ls hl => ?_)
          refine lv_goto (tgt := 2) hx hb dX4_standsAt_30 (by decide) ?_
          exact ih (j + 1) _ (by rw [ey]; exact nI_1 j) (by have := lt_of_ngt (i := j) (k := vLen k) (by rw [← ey]; exact c_7) (vLen_lt k) (by omega); have := vLen_le hk; omega) (by omega) (by rw [← hg, fStN_s]; subst ey; rw [nI_clamp (by omega)] at c_22; (try first | rw [if_pos c_7] | rw [if_neg c_7]); (try first | rw [if_pos c_22] | rw [if_neg c_22])) _ _ _ hP hD hS (lv_sub hl [1, 2, 3, 0] rfl)
        · -- no
          refine lv_iconst (v := 0) hx hb dX4_standsAt_25 (by decide) ?_
          exact re_z hQ ha hx hb hr hlk hAe hP hS dX4_standsAt_26 rfl (by rw [← hg, fStN_s]; subst ey; rw [nI_clamp (by omega)] at c_22; (try first | rw [if_pos c_7] | rw [if_neg c_7]); (try first | rw [if_pos c_22] | rw [if_neg c_22])) rfl
  exact hJ_2 9 0 0 rfl (by omega) (by omega) rfl _ _ _ hP hD hS (lv_sub hl [1, 2, 3, 0] rfl)
def rm_X4_targetAt : Room := { frames := 5, cells := 0, slots := 0, locals := 108 }
set_option maxHeartbeats 1000000 in
set_option maxRecDepth 100000 in
theorem c_X4_targetAt (Γ : gT) (l : Launch) (a : Nat → Nat) (b : Nat) (t : Txt) (start : Int32)  : Ci Γ l yX4_targetAt wsX4_targetAt rm_X4_targetAt [.ref (a b), .int start] (txtW Γ a b t) (fTarget (tChars t) (tLen t) start) (txtW Γ a b t) := by
  refine Ci.of (cc := cX4_targetAt) (own := RX4) (nL := 4) (ret := (some .int)) (by decide +kernel) rfl rfl (Nat.le_of_ble_eq_true rfl) ?_
  intro p e s m args below meth c A Q H locs ls ha hAe hQ hx hb hml hr hts hown hlk hP hK hD hS hA hG hl
  have hh : Hd Γ p s m args c cX4_targetAt RX4 4 wsX4_targetAt A := ⟨⟨hx, hb, hml, hown, hts⟩, hK, hA, hG⟩
  have hl : lv_has ls 4 [(0, .ref (a b)), (1, .int start)] := hl
  refine lv_iconst (v := 0) hx hb dX4_targetAt_0 (by decide) ?_
  refine lv_istore_n (lv' := [(2, .int 0), (0, .ref (a b)), (1, .int start)]) hx hb dX4_targetAt_1 rfl hl (by decide) rfl (fun ls hl => ?_)
  have hJ_2 : ∀ n : Nat, ∀ (j : Nat) (y : Int32), (y = nI j) → (j ≤ 15) → (16 ≤ j + n) → (fTgN (tChars t) (tLen t) start n j = fTarget (tChars t) (tLen t) start) → ∀ (H : Heap) (locs : List Loc) (ls : Array Slot), va_P (gD Γ) vwCl (txtW Γ a b t) H → va_D A (txtW Γ a b t) → va_S A s.heap H locs → lv_has ls 4 [(0, .ref (a b)), (1, .int start), (2, .int y)] → W p l e rm_X4_targetAt s m args below meth c H locs 0 0 Q (F0 m 2 ls []) := by
    intro n
    induction n with
    | zero =>
      intro j y ey hj hn hg
      omega
    | succ n ih =>
      intro j y ey hj hn hg H locs ls hP hD hS hl
      refine lv_iload_n hx hb dX4_targetAt_2 rfl (lv_at hl 2 rfl) ?_
      refine lv_bipush (v := 15) hx hb dX4_targetAt_3 (by decide) ?_
      refine lv_icmp_ge (tgt := 45) hx hb dX4_targetAt_5 (by decide) (fun c_5 => ?_) (fun c_5 => ?_)
      · -- yes
        refine lv_iconst (v := (-1)) hx hb dX4_targetAt_45 (by decide) ?_
        exact re_i hQ ha hx hb hr hlk hAe hP hS dX4_targetAt_46 (by rw [← hg, fTgN_s]; subst ey; (try first | rw [if_pos c_5] | rw [if_neg c_5])) rfl
      · -- no
        have hj15 : j < 15 := lt_of_nle (k := 15) (by rw [← ey]; exact c_5) (by omega) (by decide)
        refine lv_iload_n hx hb dX4_targetAt_8 rfl (lv_at hl 2 rfl) ?_
        refine ca_Nr hh hl.1 (c_X6_nameOf Γ l y (by rw [ey]; exact vp_in_nI (lt_of_nle (k := 15) (by rw [← ey]; exact c_5) (by omega) (by decide)) (by decide))) ⟨va_cnB (host := RX6) 1 hts gX4_targetAt_X6_nameOf_n49 rfl rfl rfl hG.1.2.2.2.1 (hts (.initialized RX6) (List.mem_of_getElem? (i := 2) rfl)) (by decide +kernel) ⟨(Nat.le_of_ble_eq_true rfl), (Nat.le_of_ble_eq_true rfl)⟩, (hts (.static yX6_nameOf) (List.mem_of_getElem? (i := 1) rfl)), trivial⟩ (As := [.int y]) (rest := []) rfl dX4_targetAt_9 rfl (Nat.le_of_ble_eq_true rfl) hP hD hS ⟨Nat.zero_le _, Nat.zero_le _⟩ (fun H locs hP hS => ?_)
        refine W.eq (g2 := F0 m 12 ls [.ref (gSt Γ j)]) (by rw [show y.toNatClampNeg = j from nI_of_place ey (by omega)]) ?_
        refine lv_astore_n (lv' := [(3, .ref (gSt Γ j)), (0, .ref (a b)), (1, .int start), (2, .int y)]) hx hb dX4_targetAt_12 rfl hl (by decide) rfl (fun ls hl => ?_)
        refine lv_aload_n hx hb dX4_targetAt_13 rfl (lv_at hl 1 rfl) ?_
        refine lv_aload_n hx hb dX4_targetAt_14 rfl (lv_at hl 0 rfl) ?_
        refine lv_iload_n hx hb dX4_targetAt_15 rfl (lv_at hl 2 rfl) ?_
        refine ca_Via hh hl.1 (c_X4_standsAt Γ l a b t start j hj15) (cwV 2 hts gX4_targetAt_X4_standsAt rfl rfl rfl (by decide +kernel) ⟨(Nat.le_of_ble_eq_true rfl), (Nat.le_of_ble_eq_true rfl)⟩) (As := [.ref (gSt Γ j), .int start]) (rest := []) rfl dX4_targetAt_16 rfl (Nat.le_of_ble_eq_true rfl) hP hD hS (q0 := 0) (ci := 4) rfl rfl rfl (wf := txtW Γ a b t) rfl ⟨Nat.zero_le _, Nat.zero_le _⟩ (fun H locs hP hD hS => ?_)
        refine lv_if_eq (tgt := 39) hx hb dX4_targetAt_19 (by decide) (fun c_19 => ?_) (fun c_19 => ?_)
        · -- yes
          refine lv_iinc (v := (y + 1)) (lv' := [(2, .int (y + 1)), (3, .ref (gSt Γ j)), (0, .ref (a b)), (1, .int start)]) hx hb dX4_targetAt_39 hl (k := 3) rfl rfl (by decide) rfl (fun ls hl => ?_)
          refine lv_goto (tgt := 2) hx hb dX4_targetAt_42 (by decide) ?_
          exact ih (j + 1) _ (by rw [ey]; exact nI_1 j) (by omega) (by omega) (by rw [← hg, fTgN_s]; subst ey; (try first | rw [if_pos c_5] | rw [if_neg c_5]); (try first | rw [if_pos c_19] | rw [if_neg c_19])) _ _ _ hP hD hS (lv_sub hl [2, 3, 0] rfl)
        · -- no
          refine lv_aload_n hx hb dX4_targetAt_22 rfl (lv_at hl 1 rfl) ?_
          refine lv_iload_n hx hb dX4_targetAt_23 rfl (lv_at hl 2 rfl) ?_
          refine lv_aload_n hx hb dX4_targetAt_24 rfl (lv_at hl 0 rfl) ?_
          refine ca_Ki hh hl.1 (k := j) hj15 (c_J0_length_8abf5 Γ l j hj15) (cwV 0 hts gX4_targetAt_J0_length_8abf5 rfl rfl rfl (by decide +kernel) ⟨(Nat.le_of_ble_eq_true rfl), (Nat.le_of_ble_eq_true rfl)⟩) (As := []) (rest := [.int start, .ref (a b)]) rfl dX4_targetAt_25 rfl (Nat.le_of_ble_eq_true rfl) hP hD hS ⟨Nat.zero_le _, Nat.zero_le _⟩ (fun H locs hP hS => ?_)
          refine lv_iadd hx hb dX4_targetAt_28 ?_
          refine ca_Via hh hl.1 (c_X4_characterAt Γ l a b t (start + (nI (vLen j)))) (cwV 1 hts gX4_targetAt_X4_characterAt rfl rfl rfl (by decide +kernel) ⟨(Nat.le_of_ble_eq_true rfl), (Nat.le_of_ble_eq_true rfl)⟩) (As := [.int (start + (nI (vLen j)))]) (rest := []) rfl dX4_targetAt_29 rfl (Nat.le_of_ble_eq_true rfl) hP hD hS (q0 := 0) (ci := 4) rfl rfl rfl (wf := txtW Γ a b t) rfl ⟨Nat.zero_le _, Nat.zero_le _⟩ (fun H locs hP hD hS => ?_)
          refine lv_bipush (v := 61) hx hb dX4_targetAt_32 (by decide) ?_
          refine lv_icmp_ne (tgt := 39) hx hb dX4_targetAt_34 (by decide) (fun c_34 => ?_) (fun c_34 => ?_)
          · -- yes
            refine lv_iinc (v := (y + 1)) (lv' := [(2, .int (y + 1)), (3, .ref (gSt Γ j)), (0, .ref (a b)), (1, .int start)]) hx hb dX4_targetAt_39 hl (k := 3) rfl rfl (by decide) rfl (fun ls hl => ?_)
            refine lv_goto (tgt := 2) hx hb dX4_targetAt_42 (by decide) ?_
            exact ih (j + 1) _ (by rw [ey]; exact nI_1 j) (by omega) (by omega) (by rw [← hg, fTgN_s]; subst ey; (try first | rw [if_pos c_5] | rw [if_neg c_5]); (try first | rw [if_pos c_19] | rw [if_neg c_19]); (try first | rw [if_pos c_34] | rw [if_neg c_34])) _ _ _ hP hD hS (lv_sub hl [2, 3, 0] rfl)
          · -- no
            refine lv_iload_n hx hb dX4_targetAt_37 rfl (lv_at hl 3 rfl) ?_
            exact re_i hQ ha hx hb hr hlk hAe hP hS dX4_targetAt_38 (by rw [← hg, fTgN_s]; subst ey; (try first | rw [if_pos c_5] | rw [if_neg c_5]); (try first | rw [if_pos c_19] | rw [if_neg c_19]); (try first | rw [if_pos c_34] | rw [if_neg c_34])) rfl
  exact hJ_2 16 0 0 rfl (by omega) (by omega) rfl _ _ _ hP hD hS (lv_sub hl [1, 2, 0] rfl)
def rm_X6_nameAt : Room := { frames := 4, cells := 0, slots := 0, locals := 85 }
set_option maxHeartbeats 1000000 in
set_option maxRecDepth 100000 in
theorem c_X6_nameAt (Γ : gT) (l : Launch) (a : Nat → Nat) (x : Xst) (k : Int32) (i1 : Int32)  : Ci Γ l yX6_nameAt wsX6_nameAt rm_X6_nameAt [.ref (a 0), .int k, .int i1] (xW Γ a x) (rNameAt x k i1) (xW Γ a x) := by
  refine Ci.of (cc := cX6_nameAt) (own := RX6) (nL := 4) (ret := (some .int)) (by decide +kernel) rfl rfl (Nat.le_of_ble_eq_true rfl) ?_
  intro p e s m args below meth c A Q H locs ls ha hAe hQ hx hb hml hr hts hown hlk hP hK hD hS hA hG hl
  have hh : Hd Γ p s m args c cX6_nameAt RX6 4 wsX6_nameAt A := ⟨⟨hx, hb, hml, hown, hts⟩, hK, hA, hG⟩
  have hl : lv_has ls 4 [(0, .ref (a 0)), (1, .int k), (2, .int i1)] := hl
  refine lv_iload_n hx hb dX6_nameAt_0 rfl (lv_at hl 1 rfl) ?_
  refine ca_Si hh hl.1 (c_X6_isParameter Γ l k) (va_cwS 1 hts gX6_nameAt_X6_isParameter rfl rfl rfl (by decide +kernel) ⟨(Nat.le_of_ble_eq_true rfl), (Nat.le_of_ble_eq_true rfl)⟩) (As := [.int k]) (rest := []) rfl dX6_nameAt_1 rfl (Nat.le_of_ble_eq_true rfl) hP hD hS ⟨Nat.zero_le _, Nat.zero_le _⟩ (fun H locs hP hS => ?_)
  refine lv_if_eq (tgt := 11) hx hb dX6_nameAt_4 (by decide) (fun c_4 => ?_) (fun c_4 => ?_)
  · -- yes
    refine lv_ldc hx hb hown (hts (.constant RX6 63 (-2000000001)) (List.mem_of_getElem? (i := 1) rfl)) dX6_nameAt_11 ?_
    exact re_i hQ ha hx hb hr hlk hAe hP hS dX6_nameAt_13 (by simp only [rNameAt, c_4, if_true, if_false]) rfl
  · -- no
    refine lv_iload_n hx hb dX6_nameAt_7 rfl (lv_at hl 2 rfl) ?_
    refine lv_if_ge (tgt := 14) hx hb dX6_nameAt_8 (by decide) (fun c_8 => ?_) (fun c_8 => ?_)
    · -- yes
      refine lv_iload_n hx hb dX6_nameAt_14 rfl (lv_at hl 1 rfl) ?_
      refine ca_Sr hh hl.1 (c_X6_nameOf Γ l k (fPar_in c_4)) (va_cwS 1 hts gX6_nameAt_X6_nameOf rfl rfl rfl (by decide +kernel) ⟨(Nat.le_of_ble_eq_true rfl), (Nat.le_of_ble_eq_true rfl)⟩) (As := [.int k]) (rest := []) rfl dX6_nameAt_15 rfl (Nat.le_of_ble_eq_true rfl) hP hD hS ⟨Nat.zero_le _, Nat.zero_le _⟩ (fun H locs hP hS => ?_)
      refine W.eq (g2 := F0 m 18 ls [.ref (gSt Γ k.toNatClampNeg)]) rfl ?_
      refine lv_astore_n (lv' := [(3, .ref (gSt Γ k.toNatClampNeg)), (0, .ref (a 0)), (1, .int k), (2, .int i1)]) hx hb dX6_nameAt_18 rfl hl (by decide) rfl (fun ls hl => ?_)
      refine lv_iload_n hx hb dX6_nameAt_19 rfl (lv_at hl 3 rfl) ?_
      refine lv_aload_n hx hb dX6_nameAt_20 rfl (lv_at hl 0 rfl) ?_
      refine ca_Ki hh hl.1 (k := k.toNatClampNeg) (in_lt (fPar_in c_4)) (c_J0_length_8abf5 Γ l k.toNatClampNeg (in_lt (fPar_in c_4))) (cwV 0 hts gX6_nameAt_J0_length_8abf5 rfl rfl rfl (by decide +kernel) ⟨(Nat.le_of_ble_eq_true rfl), (Nat.le_of_ble_eq_true rfl)⟩) (As := []) (rest := [.int i1]) rfl dX6_nameAt_21 rfl (Nat.le_of_ble_eq_true rfl) hP hD hS ⟨Nat.zero_le _, Nat.zero_le _⟩ (fun H locs hP hS => ?_)
      refine lv_icmp_ge (tgt := 35) hx hb dX6_nameAt_24 (by decide) (fun c_24 => ?_) (fun c_24 => ?_)
      · -- yes
        refine lv_ldc hx hb hown (hts (.constant RX6 94 (-2000000004)) (List.mem_of_getElem? (i := 2) rfl)) dX6_nameAt_35 ?_
        exact re_i hQ ha hx hb hr hlk hAe hP hS dX6_nameAt_37 (by simp only [rNameAt, c_4, c_8, c_24, if_true, if_false]) rfl
      · -- no
        refine lv_aload_n hx hb dX6_nameAt_27 rfl (lv_at hl 0 rfl) ?_
        refine lv_iload_n hx hb dX6_nameAt_28 rfl (lv_at hl 3 rfl) ?_
        refine ca_Ki hh hl.1 (k := k.toNatClampNeg) (in_lt (fPar_in c_4)) (c_J0_charAt_5068e Γ l i1 k.toNatClampNeg (in_lt (fPar_in c_4)) (in_rng (vLen_lt _) (Int32.not_lt.mpr c_8) c_24)) (cwV 1 hts gX6_nameAt_J0_charAt_5068e rfl rfl rfl (by decide +kernel) ⟨(Nat.le_of_ble_eq_true rfl), (Nat.le_of_ble_eq_true rfl)⟩) (As := [.int i1]) (rest := []) rfl dX6_nameAt_29 rfl (Nat.le_of_ble_eq_true rfl) hP hD hS ⟨Nat.zero_le _, Nat.zero_le _⟩ (fun H locs hP hS => ?_)
        refine lv_goto (tgt := 37) hx hb dX6_nameAt_32 (by decide) ?_
        exact re_i hQ ha hx hb hr hlk hAe hP hS dX6_nameAt_37 (by simp only [rNameAt, c_4, c_8, c_24, if_true, if_false]) rfl
    · -- no
      refine lv_ldc hx hb hown (hts (.constant RX6 63 (-2000000001)) (List.mem_of_getElem? (i := 1) rfl)) dX6_nameAt_11 ?_
      exact re_i hQ ha hx hb hr hlk hAe hP hS dX6_nameAt_13 (by simp only [rNameAt, c_4, c_8, if_true, if_false]) rfl
