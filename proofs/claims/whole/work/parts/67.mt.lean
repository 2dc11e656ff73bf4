def rm_X7_longOf : Room := { frames := 0, cells := 0, slots := 0, locals := 0 }
theorem iX7_longOf_7 : ∀ w ∈ u_ws RX7 TX7 18, w ∈ wsX7_longOf := fun w h => (List.mem_cons_of_mem _ (List.mem_append_right _ h))
set_option maxHeartbeats 1000000 in
set_option maxRecDepth 100000 in
theorem c_X7_longOf (Γ : gT) (l : Launch) (a : Nat → Nat) (b : Nat) (μ : Mst) (k : Int32) (hk : vp_in k 15) (hnm : nmOk (mNames μ)) : Ci Γ l yX7_longOf wsX7_longOf rm_X7_longOf [.ref (a b), .int k] (modW Γ a b μ) (nI (vLen k.toNatClampNeg)) (modW Γ a b μ) := by
  refine Ci.of (cc := cX7_longOf) (own := RX7) (nL := 3) (ret := (some .int)) (by decide +kernel) rfl rfl (Nat.le_of_ble_eq_true rfl) ?_
  intro p e s m args below meth c A Q H locs ls ha hAe hQ hx hb hml hr hts hown hlk hP hK hD hS hA hG hl
  have hh : Hd Γ p s m args c cX7_longOf RX7 3 wsX7_longOf A := ⟨⟨hx, hb, hml, hown, hts⟩, hK, hA, hG⟩
  have hl : lv_has ls 3 [(0, .ref (a b)), (1, .int k)] := hl
  obtain ⟨K, hK1, eK⟩ := vp_in_of hk (by decide)
  have ecl : k.toNatClampNeg = K := by rw [eK]; exact nI_clamp (by omega)
  have hv8 := vLen_le hK1
  refine lv_iconst (v := 0) hx hb dX7_longOf_0 (by decide) ?_
  refine lv_istore_n (lv' := [(2, .int 0), (0, .ref (a b)), (1, .int k)]) hx hb dX7_longOf_1 rfl hl (by decide) rfl (fun ls hl => ?_)
  have hJ_2 : ∀ n : Nat, ∀ (j : Nat) (y : Int32), (y = nI j) → (j ≤ vLen K) → (10 ≤ j + n) → ∀ (H : Heap) (locs : List Loc) (ls : Array Slot), va_P (gD Γ) vwCl (modW Γ a b μ) H → va_D A (modW Γ a b μ) → va_S A s.heap H locs → lv_has ls 3 [(0, .ref (a b)), (1, .int k), (2, .int y)] → W p l e rm_X7_longOf s m args below meth c H locs 0 0 Q (F0 m 2 ls []) := by
    intro n
    induction n with
    | zero =>
      intro j y ey hj hn
      omega
    | succ n ih =>
      intro j y ey hj hn H locs ls hP hD hS hl
      refine lv_iload_n hx hb dX7_longOf_2 rfl (lv_at hl 2 rfl) ?_
      refine lv_bipush (v := 9) hx hb dX7_longOf_3 (by decide) ?_
      refine lv_icmp_ge (tgt := 28) hx hb dX7_longOf_5 (by decide) (fun c => absurd c (by rw [ey]; exact nI_ge (a := j) (b := 9) (by omega) (by decide))) (fun _ => ?_)
      refine lv_aload_n hx hb dX7_longOf_8 rfl (lv_at hl 0 rfl) ?_
      refine va_get (D := gD Γ) (cl := vwCl) (tys := gTy Γ) (ci := 7) (v := .ref (a (b + 9))) (C := RX7) (T := TX7) (N := 18) hx hb hts iX7_longOf_7 hown hK hP 0 rfl rfl 10 (Nat.le_of_ble_eq_true rfl) (hts (.fieldLink RX7 35 "DeadTimeLoopModel" "names" "[I") (List.mem_of_getElem? (i := 1) rfl)) (fun _ h9 => h9) rfl dX7_longOf_9 ?_
      refine lv_bipush (v := 9) hx hb dX7_longOf_12 (by decide) ?_
      refine lv_iload_n hx hb dX7_longOf_14 rfl (lv_at hl 1 rfl) ?_
      refine lv_imul hx hb dX7_longOf_15 ?_
      refine lv_iload_n hx hb dX7_longOf_16 rfl (lv_at hl 2 rfl) ?_
      refine lv_iadd hx hb dX7_longOf_17 ?_
      refine ka_iald (D := gD Γ) (cl := vwCl) (tys := gTy Γ) hx hb hK hP 9 0 rfl rfl (9 * K + j) (by rw [eK, ey]; exact keep_ix 9 K j) (by omega) (by decide) (v := ((mNames μ) (9 * K + j))) rfl dX7_longOf_18 ?_
      refine lv_if_eq (tgt := 28) hx hb dX7_longOf_19 (by decide) (fun c_19 => ?_) (fun c_19 => ?_)
      · -- yes
        refine lv_iload_n hx hb dX7_longOf_28 rfl (lv_at hl 2 rfl) ?_
        exact re_i hQ ha hx hb hr hlk hAe hP hS dX7_longOf_29 (by rw [ecl, ey, lng_0 hnm hK1 hj c_19]) rfl
      · -- no
        refine lv_iinc (v := (y + 1)) (lv' := [(2, .int (y + 1)), (0, .ref (a b)), (1, .int k)]) hx hb dX7_longOf_22 hl (k := 2) rfl rfl (by decide) rfl (fun ls hl => ?_)
        refine lv_goto (tgt := 2) hx hb dX7_longOf_25 (by decide) ?_
        exact ih (j + 1) _ (by rw [ey]; exact nI_1 j) (lng_1 hnm hK1 hj c_19) (by omega) _ _ _ hP hD hS (lv_sub hl [1, 2, 0] rfl)
  exact hJ_2 10 0 0 rfl (by omega) (by omega) _ _ _ hP hD hS (lv_sub hl [1, 2, 0] rfl)
def rm_X7_nameAt : Room := { frames := 2, cells := 0, slots := 0, locals := 45 }
theorem iX7_nameAt_7 : ∀ w ∈ u_ws RX7 TX7 18, w ∈ wsX7_nameAt := fun w h => (List.mem_cons_of_mem _ (List.mem_append_right _ h))
set_option maxHeartbeats 1000000 in
set_option maxRecDepth 100000 in
theorem c_X7_nameAt (Γ : gT) (l : Launch) (a : Nat → Nat) (b : Nat) (μ : Mst) (k : Int32) (i1 : Int32) (hnm : nmOk (mNames μ)) : Ci Γ l yX7_nameAt wsX7_nameAt rm_X7_nameAt [.ref (a b), .int k, .int i1] (modW Γ a b μ) (jNameAt μ k i1) (modW Γ a b μ) := by
  refine Ci.of (cc := cX7_nameAt) (own := RX7) (nL := 3) (ret := (some .int)) (by decide +kernel) rfl rfl (Nat.le_of_ble_eq_true rfl) ?_
  intro p e s m args below meth c A Q H locs ls ha hAe hQ hx hb hml hr hts hown hlk hP hK hD hS hA hG hl
  have hh : Hd Γ p s m args c cX7_nameAt RX7 3 wsX7_nameAt A := ⟨⟨hx, hb, hml, hown, hts⟩, hK, hA, hG⟩
  have hl : lv_has ls 3 [(0, .ref (a b)), (1, .int k), (2, .int i1)] := hl
  refine lv_iload_n hx hb dX7_nameAt_0 rfl (lv_at hl 1 rfl) ?_
  refine ca_Si hh hl.1 (c_X7_isParameter Γ l k) (va_cwS 1 hts gX7_nameAt_X7_isParameter rfl rfl rfl (by decide +kernel) ⟨(Nat.le_of_ble_eq_true rfl), (Nat.le_of_ble_eq_true rfl)⟩) (As := [.int k]) (rest := []) rfl dX7_nameAt_1 rfl (Nat.le_of_ble_eq_true rfl) hP hD hS ⟨Nat.zero_le _, Nat.zero_le _⟩ (fun H locs hP hS => ?_)
  refine lv_if_eq (tgt := 11) hx hb dX7_nameAt_4 (by decide) (fun c_4 => ?_) (fun c_4 => ?_)
  · -- yes
    refine lv_ldc hx hb hown (hts (.constant RX7 74 (-2000000001)) (List.mem_of_getElem? (i := 1) rfl)) dX7_nameAt_11 ?_
    exact re_i hQ ha hx hb hr hlk hAe hP hS dX7_nameAt_13 (by simp only [jNameAt, c_4, if_true, if_false]) rfl
  · -- no
    refine lv_iload_n hx hb dX7_nameAt_7 rfl (lv_at hl 2 rfl) ?_
    refine lv_if_ge (tgt := 14) hx hb dX7_nameAt_8 (by decide) (fun c_8 => ?_) (fun c_8 => ?_)
    · -- yes
      refine lv_iload_n hx hb dX7_nameAt_14 rfl (lv_at hl 2 rfl) ?_
      refine lv_aload_n hx hb dX7_nameAt_15 rfl (lv_at hl 0 rfl) ?_
      refine lv_iload_n hx hb dX7_nameAt_16 rfl (lv_at hl 1 rfl) ?_
      refine ca_Via hh hl.1 (c_X7_longOf Γ l a b μ k (fPar_in c_4) hnm) (cwV 1 hts gX7_nameAt_X7_longOf rfl rfl rfl (by decide +kernel) ⟨(Nat.le_of_ble_eq_true rfl), (Nat.le_of_ble_eq_true rfl)⟩) (As := [.int k]) (rest := [.int i1]) rfl dX7_nameAt_17 rfl (Nat.le_of_ble_eq_true rfl) hP hD hS (q0 := 0) (ci := 7) rfl rfl rfl (wf := modW Γ a b μ) rfl ⟨Nat.zero_le _, Nat.zero_le _⟩ (fun H locs hP hD hS => ?_)
      refine lv_icmp_ge (tgt := 37) hx hb dX7_nameAt_20 (by decide) (fun c_20 => ?_) (fun c_20 => ?_)
      · -- yes
        refine lv_ldc hx hb hown (hts (.constant RX7 82 (-2000000004)) (List.mem_of_getElem? (i := 3) rfl)) dX7_nameAt_37 ?_
        exact re_i hQ ha hx hb hr hlk hAe hP hS dX7_nameAt_39 (by simp only [jNameAt, c_4, c_8, c_20, if_true, if_false]) rfl
      · -- no
        refine lv_aload_n hx hb dX7_nameAt_23 rfl (lv_at hl 0 rfl) ?_
        refine va_get (D := gD Γ) (cl := vwCl) (tys := gTy Γ) (ci := 7) (v := .ref (a (b + 9))) (C := RX7) (T := TX7) (N := 18) hx hb hts iX7_nameAt_7 hown hK hP 0 rfl rfl 10 (Nat.le_of_ble_eq_true rfl) (hts (.fieldLink RX7 35 "DeadTimeLoopModel" "names" "[I") (List.mem_of_getElem? (i := 2) rfl)) (fun _ h9 => h9) rfl dX7_nameAt_24 ?_
        refine lv_bipush (v := 9) hx hb dX7_nameAt_27 (by decide) ?_
        refine lv_iload_n hx hb dX7_nameAt_29 rfl (lv_at hl 1 rfl) ?_
        refine lv_imul hx hb dX7_nameAt_30 ?_
        refine lv_iload_n hx hb dX7_nameAt_31 rfl (lv_at hl 2 rfl) ?_
        refine lv_iadd hx hb dX7_nameAt_32 ?_
        refine ka_iald (D := gD Γ) (cl := vwCl) (tys := gTy Γ) hx hb hK hP 9 0 rfl rfl (9 * k.toNatClampNeg + i1.toNatClampNeg) (nm_ix (fPar_in c_4) c_8) (by have := in_lt (fPar_in c_4); have := nm_lt c_8 (Int32.not_le.mpr (Int32.not_le.mp c_20)); have := vLen_le (in_lt (fPar_in c_4)); omega) (by decide) (v := ((mNames μ) (9 * k.toNatClampNeg + i1.toNatClampNeg))) rfl dX7_nameAt_33 ?_
        refine lv_goto (tgt := 39) hx hb dX7_nameAt_34 (by decide) ?_
        exact re_i hQ ha hx hb hr hlk hAe hP hS dX7_nameAt_39 (by simp only [jNameAt, c_4, c_8, c_20, if_true, if_false]) rfl
    · -- no
      refine lv_ldc hx hb hown (hts (.constant RX7 74 (-2000000001)) (List.mem_of_getElem? (i := 1) rfl)) dX7_nameAt_11 ?_
      exact re_i hQ ha hx hb hr hlk hAe hP hS dX7_nameAt_13 (by simp only [jNameAt, c_4, c_8, if_true, if_false]) rfl
def rm_X7_charAt : Room := { frames := 0, cells := 0, slots := 0, locals := 0 }
theorem iX7_charAt_7 : ∀ w ∈ u_ws RX7 TX7 18, w ∈ wsX7_charAt := fun w h => (List.mem_cons_of_mem _ (List.mem_append_right _ h))
set_option maxHeartbeats 1000000 in
set_option maxRecDepth 100000 in
theorem c_X7_charAt (Γ : gT) (l : Launch) (a : Nat → Nat) (b : Nat) (μ : Mst) (i1 : Int32) (hi0 : ¬ i1 < 0) (hL : lenOk (mLen μ)) : Ci Γ l yX7_charAt wsX7_charAt rm_X7_charAt [.ref (a b), .int i1] (modW Γ a b μ) (fChr (mText μ) (mLen μ) i1) (modW Γ a b μ) := by
  refine Ci.of (cc := cX7_charAt) (own := RX7) (nL := 2) (ret := (some .int)) (by decide +kernel) rfl rfl (Nat.le_of_ble_eq_true rfl) ?_
  intro p e s m args below meth c A Q H locs ls ha hAe hQ hx hb hml hr hts hown hlk hP hK hD hS hA hG hl
  have hh : Hd Γ p s m args c cX7_charAt RX7 2 wsX7_charAt A := ⟨⟨hx, hb, hml, hown, hts⟩, hK, hA, hG⟩
  have hl : lv_has ls 2 [(0, .ref (a b)), (1, .int i1)] := hl
  refine lv_iload_n hx hb dX7_charAt_0 rfl (lv_at hl 1 rfl) ?_
  refine lv_aload_n hx hb dX7_charAt_1 rfl (lv_at hl 0 rfl) ?_
  refine va_get (D := gD Γ) (cl := vwCl) (tys := gTy Γ) (ci := 7) (v := .int (mLen μ)) (C := RX7) (T := TX7) (N := 18) hx hb hts iX7_charAt_7 hown hK hP 0 rfl rfl 11 (Nat.le_of_ble_eq_true rfl) (hts (.fieldLink RX7 94 "DeadTimeLoopModel" "length" "I") (List.mem_of_getElem? (i := 1) rfl)) (fun _ h9 => h9) rfl dX7_charAt_2 ?_
  refine lv_icmp_ge (tgt := 17) hx hb dX7_charAt_5 (by decide) (fun c_5 => ?_) (fun c_5 => ?_)
  · -- yes
    refine lv_iconst (v := 0) hx hb dX7_charAt_17 (by decide) ?_
    exact re_i hQ ha hx hb hr hlk hAe hP hS dX7_charAt_18 (by rw [chr_eq hL hi0]; (try first | rw [if_pos c_5] | rw [if_neg c_5])) rfl
  · -- no
    refine lv_aload_n hx hb dX7_charAt_8 rfl (lv_at hl 0 rfl) ?_
    refine va_get (D := gD Γ) (cl := vwCl) (tys := gTy Γ) (ci := 7) (v := .ref (a (b + 10))) (C := RX7) (T := TX7) (N := 18) hx hb hts iX7_charAt_7 hown hK hP 0 rfl rfl 12 (Nat.le_of_ble_eq_true rfl) (hts (.fieldLink RX7 38 "DeadTimeLoopModel" "text" "[I") (List.mem_of_getElem? (i := 2) rfl)) (fun _ h9 => h9) rfl dX7_charAt_9 ?_
    refine lv_iload_n hx hb dX7_charAt_12 rfl (lv_at hl 1 rfl) ?_
    refine ka_iald (D := gD Γ) (cl := vwCl) (tys := gTy Γ) hx hb hK hP 10 0 rfl rfl (i1.toNatClampNeg) (nI_of_in (chr_in hL hi0 c_5) (by decide)) (in_lt (chr_in hL hi0 c_5)) (by decide) (v := ((mText μ) i1.toNatClampNeg)) rfl dX7_charAt_13 ?_
    refine lv_goto (tgt := 18) hx hb dX7_charAt_14 (by decide) ?_
    exact re_i hQ ha hx hb hr hlk hAe hP hS dX7_charAt_18 (by rw [chr_eq hL hi0]; (try first | rw [if_pos c_5] | rw [if_neg c_5])) rfl
def rm_X7_named : Room := { frames := 1, cells := 0, slots := 0, locals := 22 }
theorem iX7_named_7 : ∀ w ∈ u_ws RX7 TX7 18, w ∈ wsX7_named := fun w h => (List.mem_cons_of_mem _ (List.mem_append_right _ h))
set_option maxHeartbeats 1000000 in
set_option maxRecDepth 100000 in
theorem c_X7_named (Γ : gT) (l : Launch) (a : Nat → Nat) (b : Nat) (μ : Mst) (hnm : nmOk (mNames μ)) (hL : lenOk (mLen μ)) (hsp : lenOk (mSpot μ)) : Ci Γ l yX7_named wsX7_named rm_X7_named [.ref (a b)] (modW Γ a b μ) (aNamed (mText μ) (mLen μ) (mSpot μ)) (modW Γ a b (mPut_spot μ (aNmSpot (mText μ) (mLen μ) (mSpot μ)))) := by
  refine Ci.of (cc := cX7_named) (own := RX7) (nL := 5) (ret := (some .int)) (by decide +kernel) rfl rfl (Nat.le_of_ble_eq_true rfl) ?_
  intro p e s m args below meth c A Q H locs ls ha hAe hQ hx hb hml hr hts hown hlk hP hK hD hS hA hG hl
  have hh : Hd Γ p s m args c cX7_named RX7 5 wsX7_named A := ⟨⟨hx, hb, hml, hown, hts⟩, hK, hA, hG⟩
  have hl : lv_has ls 5 [(0, .ref (a b))] := hl
  obtain ⟨S, hSp, eS⟩ := hsp
  refine lv_iconst (v := 0) hx hb dX7_named_0 (by decide) ?_
  refine lv_istore_n (lv' := [(1, .int 0), (0, .ref (a b))]) hx hb dX7_named_1 rfl hl (by decide) rfl (fun ls hl => ?_)
  have hJ_2 : ∀ no : Nat, ∀ (j : Nat) (y : Int32), (y = nI j) → (j ≤ 15) → (16 ≤ j + no) → (fTgN (mText μ) (mLen μ) (mSpot μ) no j = fTarget (mText μ) (mLen μ) (mSpot μ)) → ∀ (H : Heap) (locs : List Loc) (ls : Array Slot), va_P (gD Γ) vwCl (modW Γ a b μ) H → va_D A (modW Γ a b μ) → va_S A s.heap H locs → lv_has ls 5 [(0, .ref (a b)), (1, .int y)] → W p l e rm_X7_named s m args below meth c H locs 0 0 Q (F0 m 2 ls []) := by
    intro no
    induction no with
    | zero =>
      intro j y ey hj hn hg
      omega
    | succ no iho =>
      intro j y ey hj hn hg H locs ls hP hD hS hl
      refine lv_iload_n hx hb dX7_named_2 rfl (lv_at hl 1 rfl) ?_
      refine lv_bipush (v := 15) hx hb dX7_named_3 (by decide) ?_
      refine lv_icmp_ge (tgt := 110) hx hb dX7_named_5 (by decide) (fun c_5 => ?_) (fun c_5 => ?_)
      · -- yes
        refine lv_ldc hx hb hown (hts (.constant RX7 82 (-2000000004)) (List.mem_of_getElem? (i := 3) rfl)) dX7_named_110 ?_
        exact re_i hQ ha hx hb hr hlk hAe hP hS dX7_named_112 (by rw [aNamed, if_pos (by rw [← hg, fTgN_s, if_pos (by rw [← ey]; exact c_5)])]) (by rw [aNmSpot, if_pos (by rw [← hg, fTgN_s, if_pos (by rw [← ey]; exact c_5)])]; rfl)
      · -- no
        have hJ_14 : ∀ (z : Int32), (z = nI (vLen j)) → ∀ (H : Heap) (locs : List Loc) (ls : Array Slot), va_P (gD Γ) vwCl (modW Γ a b μ) H → va_D A (modW Γ a b μ) → va_S A s.heap H locs → lv_has ls 5 [(0, .ref (a b)), (1, .int y), (2, .int z)] → W p l e rm_X7_named s m args below meth c H locs 0 0 Q (F0 m 14 ls []) := by
          intro z ez H locs ls hP hD hS hl
          have hj15 : j < 15 := lt_of_nle (k := 15) (by rw [← ey]; exact c_5) (by omega) (by decide)
          have hv8 := vLen_le hj15
          refine lv_aload_n hx hb dX7_named_14 rfl (lv_at hl 0 rfl) ?_
          refine lv_aload_n hx hb dX7_named_15 rfl (lv_at hl 0 rfl) ?_
          refine va_get (D := gD Γ) (cl := vwCl) (tys := gTy Γ) (ci := 7) (v := .int (mSpot μ)) (C := RX7) (T := TX7) (N := 18) hx hb hts iX7_named_7 hown hK hP 0 rfl rfl 15 (Nat.le_of_ble_eq_true rfl) (hts (.fieldLink RX7 98 "DeadTimeLoopModel" "spot" "I") (List.mem_of_getElem? (i := 1) rfl)) (fun _ h9 => h9) rfl dX7_named_16 ?_
          refine lv_iload_n hx hb dX7_named_19 rfl (lv_at hl 2 rfl) ?_
          refine lv_iadd hx hb dX7_named_20 ?_
          refine ca_Via hh hl.1 (c_X7_charAt Γ l a b μ ((mSpot μ) + z) (by rw [eS, ez, nI_add]; exact nI_pos (by omega)) hL) (cwV 1 hts gX7_named_X7_charAt rfl rfl rfl (by decide +kernel) ⟨(Nat.le_of_ble_eq_true rfl), (Nat.le_of_ble_eq_true rfl)⟩) (As := [.int ((mSpot μ) + z)]) (rest := []) rfl dX7_named_21 rfl (Nat.le_of_ble_eq_true rfl) hP hD hS (q0 := 0) (ci := 7) rfl rfl rfl (wf := modW Γ a b μ) rfl ⟨Nat.zero_le _, Nat.zero_le _⟩ (fun H locs hP hD hS => ?_)
          refine lv_bipush (v := 61) hx hb dX7_named_24 (by decide) ?_
          refine lv_icmp_ne (tgt := 33) hx hb dX7_named_26 (by decide) (fun c_26 => ?_) (fun c_26 => ?_)
          · -- yes
            refine lv_iconst (v := 0) hx hb dX7_named_33 (by decide) ?_
            refine lv_istore_n (lv' := [(3, .int 0), (0, .ref (a b)), (1, .int y), (2, .int z)]) hx hb dX7_named_34 rfl hl (by decide) rfl (fun ls hl => ?_)
            refine lv_iconst (v := 0) hx hb dX7_named_35 (by decide) ?_
            refine lv_istore (lv' := [(4, .int 0), (3, .int 0), (0, .ref (a b)), (1, .int y), (2, .int z)]) hx hb dX7_named_36 hl (by decide) rfl (fun ls hl => ?_)
            have hJ_38 : ∀ n : Nat, ∀ (i : Nat) (x : Int32) (b1 : Int32), (x = nI i) → (i ≤ vLen j) → (b1 = 0 ∨ b1 = 1) → (10 ≤ i + n) → ((if b1 = 0 then 0 else fStN (mText μ) (mLen μ) j (mSpot μ) n i) = (if (0 : Int32) = 0 then 0 else fStands (mText μ) (mLen μ) j (mSpot μ))) → ∀ (H : Heap) (locs : List Loc) (ls : Array Slot), va_P (gD Γ) vwCl (modW Γ a b μ) H → va_D A (modW Γ a b μ) → va_S A s.heap H locs → lv_has ls 5 [(0, .ref (a b)), (1, .int y), (2, .int z), (3, .int b1), (4, .int x)] → W p l e rm_X7_named s m args below meth c H locs 0 0 Q (F0 m 38 ls []) := by
              intro n
              induction n with
              | zero =>
                intro i x b1 ex hi hb1 hn2 hg2
                omega
              | succ n ih =>
                intro i x b1 ex hi hb1 hn2 hg2 H locs ls hP hD hS hl
                refine lv_iload hx hb dX7_named_38 (lv_at hl 4 rfl) ?_
                refine lv_iload_n hx hb dX7_named_40 rfl (lv_at hl 2 rfl) ?_
                refine lv_icmp_ge (tgt := 86) hx hb dX7_named_41 (by decide) (fun c_41 => ?_) (fun c_41 => ?_)
                · -- yes
                  refine lv_iload_n hx hb dX7_named_86 rfl (lv_at hl 3 rfl) ?_
                  refine lv_if_eq (tgt := 104) hx hb dX7_named_87 (by decide) (fun c_87 => ?_) (fun c_87 => ?_)
                  · -- yes
                    refine lv_iinc (v := (y + 1)) (lv' := [(1, .int (y + 1)), (0, .ref (a b)), (2, .int z), (3, .int b1), (4, .int x)]) hx hb dX7_named_104 hl (k := 1) rfl rfl (by decide) rfl (fun ls hl => ?_)
                    refine lv_goto (tgt := 2) hx hb dX7_named_107 (by decide) ?_
                    exact iho (j + 1) _ (by rw [ey]; exact nI_1 j) (by omega) (by omega) (by rw [← hg, fTgN_s, if_neg (show ¬ (15 : Int32) ≤ nI j from by rw [← ey]; exact c_5)]; have hq := hg2; rw [if_pos c_87] at hq; first | (rw [if_neg i32_10] at hq; rw [if_pos hq.symm]) | (rcases Classical.em (fStands (mText μ) (mLen μ) j (mSpot μ) = 0) with hz | hz; (rw [if_pos hz]); (rw [if_neg hz, if_neg (by rw [← ez]; exact c_26)]))) _ _ _ hP hD hS (lv_sub hl [1, 0] rfl)
                  · -- no
                    exact absurd (by have hq := hg2; rw [if_neg c_87, fStN_s, if_pos (by rw [← ez, ← ex]; exact c_41), if_pos rfl] at hq; exact hq) i32_10
                · -- no
                  have hlt : i < vLen j := lt_of_nle (by rw [← ez, ← ex]; exact c_41) (by omega) (by omega)
                  refine lv_iload_n hx hb dX7_named_44 rfl (lv_at hl 3 rfl) ?_
                  refine lv_if_eq (tgt := 78) hx hb dX7_named_45 (by decide) (fun c_45 => ?_) (fun c_45 => ?_)
                  · -- yes
                    refine lv_iconst (v := 0) hx hb dX7_named_78 (by decide) ?_
                    refine lv_istore_n (lv' := [(3, .int 0), (0, .ref (a b)), (1, .int y), (2, .int z), (4, .int x)]) hx hb dX7_named_79 rfl hl (by decide) rfl (fun ls hl => ?_)
                    refine lv_iinc (v := (x + 1)) (lv' := [(4, .int (x + 1)), (3, .int 0), (0, .ref (a b)), (1, .int y), (2, .int z)]) hx hb dX7_named_80 hl (k := 4) rfl rfl (by decide) rfl (fun ls hl => ?_)
                    refine lv_goto (tgt := 38) hx hb dX7_named_83 (by decide) ?_
                    exact ih (i + 1) _ _ (by rw [ex]; exact nI_1 i) (by omega) (by first | exact Or.inl rfl | exact Or.inr rfl) (by omega) (by rw [← hg2]; first | rw [if_pos c_45, if_pos rfl] | (rw [if_neg c_45, fStN_s, if_neg (show ¬ nI (vLen j) ≤ nI i from nI_ge hlt (by omega))]; have hq := hnm j hj15 i (by omega); rw [if_pos hlt] at hq; rw [hq, ex] at c_71; first | rw [if_pos c_71, if_neg i32_10] | rw [if_neg c_71, if_pos rfl])) _ _ _ hP hD hS (lv_sub hl [2, 3, 4, 1, 0] rfl)
                  · -- no
                    refine lv_aload_n hx hb dX7_named_48 rfl (lv_at hl 0 rfl) ?_
                    refine lv_aload_n hx hb dX7_named_49 rfl (lv_at hl 0 rfl) ?_
                    refine va_get (D := gD Γ) (cl := vwCl) (tys := gTy Γ) (ci := 7) (v := .int (mSpot μ)) (C := RX7) (T := TX7) (N := 18) hx hb hts iX7_named_7 hown hK hP 0 rfl rfl 15 (Nat.le_of_ble_eq_true rfl) (hts (.fieldLink RX7 98 "DeadTimeLoopModel" "spot" "I") (List.mem_of_getElem? (i := 1) rfl)) (fun _ h9 => h9) rfl dX7_named_50 ?_
                    refine lv_iload hx hb dX7_named_53 (lv_at hl 4 rfl) ?_
                    refine lv_iadd hx hb dX7_named_55 ?_
                    refine ca_Via hh hl.1 (c_X7_charAt Γ l a b μ ((mSpot μ) + x) (by rw [eS, ex, nI_add]; exact nI_pos (by omega)) hL) (cwV 1 hts gX7_named_X7_charAt rfl rfl rfl (by decide +kernel) ⟨(Nat.le_of_ble_eq_true rfl), (Nat.le_of_ble_eq_true rfl)⟩) (As := [.int ((mSpot μ) + x)]) (rest := []) rfl dX7_named_56 rfl (Nat.le_of_ble_eq_true rfl) hP hD hS (q0 := 0) (ci := 7) rfl rfl rfl (wf := modW Γ a b μ) rfl ⟨Nat.zero_le _, Nat.zero_le _⟩ (fun H locs hP hD hS => ?_)
                    refine lv_aload_n hx hb dX7_named_59 rfl (lv_at hl 0 rfl) ?_
                    refine va_get (D := gD Γ) (cl := vwCl) (tys := gTy Γ) (ci := 7) (v := .ref (a (b + 9))) (C := RX7) (T := TX7) (N := 18) hx hb hts iX7_named_7 hown hK hP 0 rfl rfl 10 (Nat.le_of_ble_eq_true rfl) (hts (.fieldLink RX7 35 "DeadTimeLoopModel" "names" "[I") (List.mem_of_getElem? (i := 2) rfl)) (fun _ h9 => h9) rfl dX7_named_60 ?_
                    refine lv_bipush (v := 9) hx hb dX7_named_63 (by decide) ?_
                    refine lv_iload_n hx hb dX7_named_65 rfl (lv_at hl 1 rfl) ?_
                    refine lv_imul hx hb dX7_named_66 ?_
                    refine lv_iload hx hb dX7_named_67 (lv_at hl 4 rfl) ?_
                    refine lv_iadd hx hb dX7_named_69 ?_
                    refine ka_iald (D := gD Γ) (cl := vwCl) (tys := gTy Γ) hx hb hK hP 9 0 rfl rfl (9 * j + i) (by rw [ey, ex]; exact keep_ix 9 j i) (by omega) (by decide) (v := ((mNames μ) (9 * j + i))) rfl dX7_named_70 ?_
                    refine lv_icmp_ne (tgt := 78) hx hb dX7_named_71 (by decide) (fun c_71 => ?_) (fun c_71 => ?_)
                    · -- yes
                      refine lv_iconst (v := 0) hx hb dX7_named_78 (by decide) ?_
                      refine lv_istore_n (lv' := [(3, .int 0), (0, .ref (a b)), (1, .int y), (2, .int z), (4, .int x)]) hx hb dX7_named_79 rfl hl (by decide) rfl (fun ls hl => ?_)
                      refine lv_iinc (v := (x + 1)) (lv' := [(4, .int (x + 1)), (3, .int 0), (0, .ref (a b)), (1, .int y), (2, .int z)]) hx hb dX7_named_80 hl (k := 4) rfl rfl (by decide) rfl (fun ls hl => ?_)
                      refine lv_goto (tgt := 38) hx hb dX7_named_83 (by decide) ?_
                      exact ih (i + 1) _ _ (by rw [ex]; exact nI_1 i) (by omega) (by first | exact Or.inl rfl | exact Or.inr rfl) (by omega) (by rw [← hg2]; first | rw [if_pos c_45, if_pos rfl] | (rw [if_neg c_45, fStN_s, if_neg (show ¬ nI (vLen j) ≤ nI i from nI_ge hlt (by omega))]; have hq := hnm j hj15 i (by omega); rw [if_pos hlt] at hq; rw [hq, ex] at c_71; first | rw [if_pos c_71, if_neg i32_10] | rw [if_neg c_71, if_pos rfl])) _ _ _ hP hD hS (lv_sub hl [2, 3, 4, 1, 0] rfl)
                    · -- no
                      refine lv_iconst (v := 1) hx hb dX7_named_74 (by decide) ?_
                      refine lv_goto (tgt := 79) hx hb dX7_named_75 (by decide) ?_
                      refine lv_istore_n (lv' := [(3, .int 1), (0, .ref (a b)), (1, .int y), (2, .int z), (4, .int x)]) hx hb dX7_named_79 rfl hl (by decide) rfl (fun ls hl => ?_)
                      refine lv_iinc (v := (x + 1)) (lv' := [(4, .int (x + 1)), (3, .int 1), (0, .ref (a b)), (1, .int y), (2, .int z)]) hx hb dX7_named_80 hl (k := 4) rfl rfl (by decide) rfl (fun ls hl => ?_)
                      refine lv_goto (tgt := 38) hx hb dX7_named_83 (by decide) ?_
                      exact ih (i + 1) _ _ (by rw [ex]; exact nI_1 i) (by omega) (by first | exact Or.inl rfl | exact Or.inr rfl) (by omega) (by rw [← hg2]; first | rw [if_pos c_45, if_pos rfl] | (rw [if_neg c_45, fStN_s, if_neg (show ¬ nI (vLen j) ≤ nI i from nI_ge hlt (by omega))]; have hq := hnm j hj15 i (by omega); rw [if_pos hlt] at hq; rw [hq, ex] at c_71; first | rw [if_pos c_71, if_neg i32_10] | rw [if_neg c_71, if_pos rfl])) _ _ _ hP hD hS (lv_sub hl [2, 3, 4, 1, 0] rfl)
            exact hJ_38 10 0 0 _ rfl (by omega) (by first | exact Or.inl rfl | exact Or.inr rfl) (by omega) (by have q9 : fStN (mText μ) (mLen μ) j (mSpot μ) 10 0 = fStands (mText μ) (mLen μ) j (mSpot μ) := stN_10 _ _ _ _ hj15; rw [q9] <;> rfl) _ _ _ hP hD hS (lv_sub hl [2, 3, 4, 1, 0] rfl)
          · -- no
            refine lv_iconst (v := 1) hx hb dX7_named_29 (by decide) ?_
            refine lv_goto (tgt := 34) hx hb dX7_named_30 (by decide) ?_
            refine lv_istore_n (lv' := [(3, .int 1), (0, .ref (a b)), (1, .int y), (2, .int z)]) hx hb dX7_named_34 rfl hl (by decide) rfl (fun ls hl => ?_)
            refine lv_iconst (v := 0) hx hb dX7_named_35 (by decide) ?_
            refine lv_istore (lv' := [(4, .int 0), (3, .int 1), (0, .ref (a b)), (1, .int y), (2, .int z)]) hx hb dX7_named_36 hl (by decide) rfl (fun ls hl => ?_)
            have hJ_38 : ∀ n : Nat, ∀ (i : Nat) (x : Int32) (b1 : Int32), (x = nI i) → (i ≤ vLen j) → (b1 = 0 ∨ b1 = 1) → (10 ≤ i + n) → ((if b1 = 0 then 0 else fStN (mText μ) (mLen μ) j (mSpot μ) n i) = (if (1 : Int32) = 0 then 0 else fStands (mText μ) (mLen μ) j (mSpot μ))) → ∀ (H : Heap) (locs : List Loc) (ls : Array Slot), va_P (gD Γ) vwCl (modW Γ a b μ) H → va_D A (modW Γ a b μ) → va_S A s.heap H locs → lv_has ls 5 [(0, .ref (a b)), (1, .int y), (2, .int z), (3, .int b1), (4, .int x)] → W p l e rm_X7_named s m args below meth c H locs 0 0 Q (F0 m 38 ls []) := by
              intro n
              induction n with
              | zero =>
                intro i x b1 ex hi hb1 hn2 hg2
                omega
              | succ n ih =>
                intro i x b1 ex hi hb1 hn2 hg2 H locs ls hP hD hS hl
                refine lv_iload hx hb dX7_named_38 (lv_at hl 4 rfl) ?_
                refine lv_iload_n hx hb dX7_named_40 rfl (lv_at hl 2 rfl) ?_
                refine lv_icmp_ge (tgt := 86) hx hb dX7_named_41 (by decide) (fun c_41 => ?_) (fun c_41 => ?_)
                · -- yes
                  refine lv_iload_n hx hb dX7_named_86 rfl (lv_at hl 3 rfl) ?_
                  refine lv_if_eq (tgt := 104) hx hb dX7_named_87 (by decide) (fun c_87 => ?_) (fun c_87 => ?_)
                  · -- yes
                    refine lv_iinc (v := (y + 1)) (lv' := [(1, .int (y + 1)), (0, .ref (a b)), (2, .int z), (3, .int b1), (4, .int x)]) hx hb dX7_named_104 hl (k := 1) rfl rfl (by decide) rfl (fun ls hl => ?_)
                    refine lv_goto (tgt := 2) hx hb dX7_named_107 (by decide) ?_
                    exact iho (j + 1) _ (by rw [ey]; exact nI_1 j) (by omega) (by omega) (by rw [← hg, fTgN_s, if_neg (show ¬ (15 : Int32) ≤ nI j from by rw [← ey]; exact c_5)]; have hq := hg2; rw [if_pos c_87] at hq; first | (rw [if_neg i32_10] at hq; rw [if_pos hq.symm]) | (rcases Classical.em (fStands (mText μ) (mLen μ) j (mSpot μ) = 0) with hz | hz; (rw [if_pos hz]); (rw [if_neg hz, if_neg (by rw [← ez]; exact c_26)]))) _ _ _ hP hD hS (lv_sub hl [1, 0] rfl)
                  · -- no
                    have hq := hg2
                    rw [if_neg c_87, fStN_s, if_pos (by rw [← ez, ← ex]; exact c_41), if_neg i32_10] at hq
                    have ht : fTarget (mText μ) (mLen μ) (mSpot μ) = nI j := by rw [← hg, fTgN_s, if_neg (show ¬ (15 : Int32) ≤ nI j from by rw [← ey]; exact c_5), if_neg (show ¬ fStands (mText μ) (mLen μ) j (mSpot μ) = 0 from by rw [← hq]; exact i32_10), if_pos (by rw [← ez]; exact c_26)]
                    refine lv_aload_n hx hb dX7_named_90 rfl (lv_at hl 0 rfl) ?_
                    refine lv_dup hx hb dX7_named_91 rfl ?_
                    refine va_get (D := gD Γ) (cl := vwCl) (tys := gTy Γ) (ci := 7) (v := .int (mSpot μ)) (C := RX7) (T := TX7) (N := 18) hx hb hts iX7_named_7 hown hK hP 0 rfl rfl 15 (Nat.le_of_ble_eq_true rfl) (hts (.fieldLink RX7 98 "DeadTimeLoopModel" "spot" "I") (List.mem_of_getElem? (i := 1) rfl)) (fun _ h9 => h9) rfl dX7_named_92 ?_
                    refine lv_iload_n hx hb dX7_named_95 rfl (lv_at hl 2 rfl) ?_
                    refine lv_iconst (v := 1) hx hb dX7_named_96 (by decide) ?_
                    refine lv_iadd hx hb dX7_named_97 ?_
                    refine lv_iadd hx hb dX7_named_98 ?_
                    refine va_put (D := gD Γ) (cl := vwCl) (tys := gTy Γ) (ci := 7) (v := .int ((mSpot μ) + (z + 1))) (ty := tyX7 15) (C := RX7) (T := TX7) (N := 18) hx hb hts iX7_named_7 tyX7 tyX7_ok nmX7 hown hK hP hD hS 0 rfl rfl 15 (Nat.le_of_ble_eq_true rfl) (hts (.fieldLink RX7 98 "DeadTimeLoopModel" "spot" "I") (List.mem_of_getElem? (i := 1) rfl)) (fun _ h9 => h9) rfl (tyX7_ok 15 (Nat.le_of_ble_eq_true rfl)) rfl rfl (Nat.le_of_ble_eq_true rfl) dX7_named_99 (fun H locs hP hD hS => ?_)
                    have hP : va_P (gD Γ) vwCl (modW Γ a b ((mNow μ), (mAside μ), (mKept μ), (mKm μ), (mPar μ), (mParA μ), (mBef μ), (mUm μ), (mLow μ), (mHigh μ), (mNames μ), (mLen μ), (mText μ), (mPath μ), (mIdeal μ), ((mSpot μ) + (z + 1)), (mWhich μ), (mNum μ))) H := hP
                    have hD : va_D A (modW Γ a b ((mNow μ), (mAside μ), (mKept μ), (mKm μ), (mPar μ), (mParA μ), (mBef μ), (mUm μ), (mLow μ), (mHigh μ), (mNames μ), (mLen μ), (mText μ), (mPath μ), (mIdeal μ), ((mSpot μ) + (z + 1)), (mWhich μ), (mNum μ))) := hD
                    refine lv_iload_n hx hb dX7_named_102 rfl (lv_at hl 1 rfl) ?_
                    exact re_i hQ ha hx hb hr hlk hAe hP hS dX7_named_103 (by rw [aNamed, ht, if_neg (fun q => absurd (congrArg Int32.toInt q) (by rw [nI_toInt (by omega), show (-1 : Int32).toInt = -1 from rfl]; omega))]; exact ey) (by rw [aNmSpot, ht, if_neg (fun q => absurd (congrArg Int32.toInt q) (by rw [nI_toInt (by omega), show (-1 : Int32).toInt = -1 from rfl]; omega)), nI_clamp (by omega), ← ez]; rfl)
                · -- no
                  have hlt : i < vLen j := lt_of_nle (by rw [← ez, ← ex]; exact c_41) (by omega) (by omega)
                  refine lv_iload_n hx hb dX7_named_44 rfl (lv_at hl 3 rfl) ?_
                  refine lv_if_eq (tgt := 78) hx hb dX7_named_45 (by decide) (fun c_45 => ?_) (fun c_45 => ?_)
                  · -- yes
                    refine lv_iconst (v := 0) hx hb dX7_named_78 (by decide) ?_
                    refine lv_istore_n (lv' := [(3, .int 0), (0, .ref (a b)), (1, .int y), (2, .int z), (4, .int x)]) hx hb dX7_named_79 rfl hl (by decide) rfl (fun ls hl => ?_)
                    refine lv_iinc (v := (x + 1)) (lv' := [(4, .int (x + 1)), (3, .int 0), (0, .ref (a b)), (1, .int y), (2, .int z)]) hx hb dX7_named_80 hl (k := 4) rfl rfl (by decide) rfl (fun ls hl => ?_)
                    refine lv_goto (tgt := 38) hx hb dX7_named_83 (by decide) ?_
                    exact ih (i + 1) _ _ (by rw [ex]; exact nI_1 i) (by omega) (by first | exact Or.inl rfl | exact Or.inr rfl) (by omega) (by rw [← hg2]; first | rw [if_pos c_45, if_pos rfl] | (rw [if_neg c_45, fStN_s, if_neg (show ¬ nI (vLen j) ≤ nI i from nI_ge hlt (by omega))]; have hq := hnm j hj15 i (by omega); rw [if_pos hlt] at hq; rw [hq, ex] at c_71; first | rw [if_pos c_71, if_neg i32_10] | rw [if_neg c_71, if_pos rfl])) _ _ _ hP hD hS (lv_sub hl [2, 3, 4, 1, 0] rfl)
                  · -- no
                    refine lv_aload_n hx hb dX7_named_48 rfl (lv_at hl 0 rfl) ?_
                    refine lv_aload_n hx hb dX7_named_49 rfl (lv_at hl 0 rfl) ?_
                    refine va_get (D := gD Γ) (cl := vwCl) (tys := gTy Γ) (ci := 7) (v := .int (mSpot μ)) (C := RX7) (T := TX7) (N := 18) hx hb hts iX7_named_7 hown hK hP 0 rfl rfl 15 (Nat.le_of_ble_eq_true rfl) (hts (.fieldLink RX7 98 "DeadTimeLoopModel" "spot" "I") (List.mem_of_getElem? (i := 1) rfl)) (fun _ h9 => h9) rfl dX7_named_50 ?_
                    refine lv_iload hx hb dX7_named_53 (lv_at hl 4 rfl) ?_
                    refine lv_iadd hx hb dX7_named_55 ?_
                    refine ca_Via hh hl.1 (c_X7_charAt Γ l a b μ ((mSpot μ) + x) (by rw [eS, ex, nI_add]; exact nI_pos (by omega)) hL) (cwV 1 hts gX7_named_X7_charAt rfl rfl rfl (by decide +kernel) ⟨(Nat.le_of_ble_eq_true rfl), (Nat.le_of_ble_eq_true rfl)⟩) (As := [.int ((mSpot μ) + x)]) (rest := []) rfl dX7_named_56 rfl (Nat.le_of_ble_eq_true rfl) hP hD hS (q0 := 0) (ci := 7) rfl rfl rfl (wf := modW Γ a b μ) rfl ⟨Nat.zero_le _, Nat.zero_le _⟩ (fun H locs hP hD hS => ?_)
                    refine lv_aload_n hx hb dX7_named_59 rfl (lv_at hl 0 rfl) ?_
                    refine va_get (D := gD Γ) (cl := vwCl) (tys := gTy Γ) (ci := 7) (v := .ref (a (b + 9))) (C := RX7) (T := TX7) (N := 18) hx hb hts iX7_named_7 hown hK hP 0 rfl rfl 10 (Nat.le_of_ble_eq_true rfl) (hts (.fieldLink RX7 35 "DeadTimeLoopModel" "names" "[I") (List.mem_of_getElem? (i := 2) rfl)) (fun _ h9 => h9) rfl dX7_named_60 ?_
                    refine lv_bipush (v := 9) hx hb dX7_named_63 (by decide) ?_
                    refine lv_iload_n hx hb dX7_named_65 rfl (lv_at hl 1 rfl) ?_
                    refine lv_imul hx hb dX7_named_66 ?_
                    refine lv_iload hx hb dX7_named_67 (lv_at hl 4 rfl) ?_
                    refine lv_iadd hx hb dX7_named_69 ?_
                    refine ka_iald (D := gD Γ) (cl := vwCl) (tys := gTy Γ) hx hb hK hP 9 0 rfl rfl (9 * j + i) (by rw [ey, ex]; exact keep_ix 9 j i) (by omega) (by decide) (v := ((mNames μ) (9 * j + i))) rfl dX7_named_70 ?_
                    refine lv_icmp_ne (tgt := 78) hx hb dX7_named_71 (by decide) (fun c_71 => ?_) (fun c_71 => ?_)
                    · -- yes
                      refine lv_iconst (v := 0) hx hb dX7_named_78 (by decide) ?_
                      refine lv_istore_n (lv' := [(3, .int 0), (0, .ref (a b)), (1, .int y), (2, .int z), (4, .int x)]) hx hb dX7_named_79 rfl hl (by decide) rfl (fun ls hl => ?_)
                      refine lv_iinc (v := (x + 1)) (lv' := [(4, .int (x + 1)), (3, .int 0), (0, .ref (a b)), (1, .int y), (2, .int z)]) hx hb dX7_named_80 hl (k := 4) rfl rfl (by decide) rfl (fun ls hl => ?_)
                      refine lv_goto (tgt := 38) hx hb dX7_named_83 (by decide) ?_
                      exact ih (i + 1) _ _ (by rw [ex]; exact nI_1 i) (by omega) (by first | exact Or.inl rfl | exact Or.inr rfl) (by omega) (by rw [← hg2]; first | rw [if_pos c_45, if_pos rfl] | (rw [if_neg c_45, fStN_s, if_neg (show ¬ nI (vLen j) ≤ nI i from nI_ge hlt (by omega))]; have hq := hnm j hj15 i (by omega); rw [if_pos hlt] at hq; rw [hq, ex] at c_71; first | rw [if_pos c_71, if_neg i32_10] | rw [if_neg c_71, if_pos rfl])) _ _ _ hP hD hS (lv_sub hl [2, 3, 4, 1, 0] rfl)
                    · -- no
                      refine lv_iconst (v := 1) hx hb dX7_named_74 (by decide) ?_
                      refine lv_goto (tgt := 79) hx hb dX7_named_75 (by decide) ?_
                      refine lv_istore_n (lv' := [(3, .int 1), (0, .ref (a b)), (1, .int y), (2, .int z), (4, .int x)]) hx hb dX7_named_79 rfl hl (by decide) rfl (fun ls hl => ?_)
                      refine lv_iinc (v := (x + 1)) (lv' := [(4, .int (x + 1)), (3, .int 1), (0, .ref (a b)), (1, .int y), (2, .int z)]) hx hb dX7_named_80 hl (k := 4) rfl rfl (by decide) rfl (fun ls hl => ?_)
                      refine lv_goto (tgt := 38) hx hb dX7_named_83 (by decide) ?_
                      exact ih (i + 1) _ _ (by rw [ex]; exact nI_1 i) (by omega) (by first | exact Or.inl rfl | exact Or.inr rfl) (by omega) (by rw [← hg2]; first | rw [if_pos c_45, if_pos rfl] | (rw [if_neg c_45, fStN_s, if_neg (show ¬ nI (vLen j) ≤ nI i from nI_ge hlt (by omega))]; have hq := hnm j hj15 i (by omega); rw [if_pos hlt] at hq; rw [hq, ex] at c_71; first | rw [if_pos c_71, if_neg i32_10] | rw [if_neg c_71, if_pos rfl])) _ _ _ hP hD hS (lv_sub hl [2, 3, 4, 1, 0] rfl)
            exact hJ_38 10 0 0 _ rfl (by omega) (by first | exact Or.inl rfl | exact Or.inr rfl) (by omega) (by have q9 : fStN (mText μ) (mLen μ) j (mSpot μ) 10 0 = fStands (mText μ) (mLen μ) j (mSpot μ) := stN_10 _ _ _ _ hj15; rw [q9] <;> rfl) _ _ _ hP hD hS (lv_sub hl [2, 3, 4, 1, 0] rfl)
        have hj15 : j < 15 := lt_of_nle (k := 15) (by rw [← ey]; exact c_5) (by omega) (by decide)
        have hv8 := vLen_le hj15
        refine lv_aload_n hx hb dX7_named_8 rfl (lv_at hl 0 rfl) ?_
        refine lv_iload_n hx hb dX7_named_9 rfl (lv_at hl 1 rfl) ?_
        refine ca_Via hh hl.1 (c_X7_longOf Γ l a b μ y (by rw [ey]; exact vp_in_nI hj15 (by decide)) hnm) (cwV 1 hts gX7_named_X7_longOf rfl rfl rfl (by decide +kernel) ⟨(Nat.le_of_ble_eq_true rfl), (Nat.le_of_ble_eq_true rfl)⟩) (As := [.int y]) (rest := []) rfl dX7_named_10 rfl (Nat.le_of_ble_eq_true rfl) hP hD hS (q0 := 0) (ci := 7) rfl rfl rfl (wf := modW Γ a b μ) rfl ⟨Nat.zero_le _, Nat.zero_le _⟩ (fun H locs hP hD hS => ?_)
        refine lv_istore_n (lv' := [(2, .int (nI (vLen y.toNatClampNeg))), (0, .ref (a b)), (1, .int y)]) hx hb dX7_named_13 rfl hl (by decide) rfl (fun ls hl => ?_)
        exact hJ_14 (nI (vLen y.toNatClampNeg)) (by rw [nI_of_place ey (by omega)]) _ _ _ hP hD hS (lv_sub hl [1, 2, 0] rfl)
  exact hJ_2 16 0 0 rfl (by omega) (by omega) rfl _ _ _ hP hD hS (lv_sub hl [1, 0] rfl)
