def rm_X4_readAssignment : Room := { frames := 6, cells := 0, slots := 0, locals := 131 }
set_option maxHeartbeats 1000000 in
set_option maxRecDepth 100000 in
theorem c_X4_readAssignment (Γ : gT) (l : Launch) (a : Nat → Nat) (b : Nat) (t : Txt) (start : Int32) (hc0 : ¬ tCnt t < 0) : Ci Γ l yX4_readAssignment wsX4_readAssignment rm_X4_readAssignment [.ref (a b), .int start] (txtW Γ a b t) (fRaR t start) (txtW Γ a b (fRaT t start)) := by
  refine Ci.of (cc := cX4_readAssignment) (own := RX4) (nL := 7) (ret := (some .int)) (by decide +kernel) rfl rfl (Nat.le_of_ble_eq_true rfl) ?_
  intro p e s m args below meth c A Q H locs ls ha hAe hQ hx hb hml hr hts hown hlk hP hK hD hS hA hG hl
  have hh : Hd Γ p s m args c cX4_readAssignment RX4 7 wsX4_readAssignment A := ⟨⟨hx, hb, hml, hown, hts⟩, hK, hA, hG⟩
  have hl : lv_has ls 7 [(0, .ref (a b)), (1, .int start)] := hl
  refine lv_aload_n hx hb dX4_readAssignment_0 rfl (lv_at hl 0 rfl) ?_
  refine lv_iload_n hx hb dX4_readAssignment_1 rfl (lv_at hl 1 rfl) ?_
  refine ca_Via hh hl.1 (c_X4_targetAt Γ l a b t start) (cwV 1 hts gX4_readAssignment_X4_targetAt rfl rfl rfl (by decide +kernel) ⟨(Nat.le_of_ble_eq_true rfl), (Nat.le_of_ble_eq_true rfl)⟩) (As := [.int start]) (rest := []) rfl dX4_readAssignment_2 rfl (Nat.le_of_ble_eq_true rfl) hP hD hS (q0 := 0) (ci := 4) rfl rfl rfl (wf := txtW Γ a b t) rfl ⟨Nat.zero_le _, Nat.zero_le _⟩ (fun H locs hP hD hS => ?_)
  refine lv_istore_n (lv' := [(2, .int (fTarget (tChars t) (tLen t) start)), (0, .ref (a b)), (1, .int start)]) hx hb dX4_readAssignment_5 rfl hl (by decide) rfl (fun ls hl => ?_)
  refine lv_iload_n hx hb dX4_readAssignment_6 rfl (lv_at hl 0 rfl) ?_
  refine lv_iconst (v := (-1)) hx hb dX4_readAssignment_7 (by decide) ?_
  refine lv_icmp_ne (tgt := 13) hx hb dX4_readAssignment_8 (by decide) (fun c_8 => ?_) (fun c_8 => ?_)
  · -- yes
    refine lv_iload_n hx hb dX4_readAssignment_13 rfl (lv_at hl 2 rfl) ?_
    refine lv_iload_n hx hb dX4_readAssignment_14 rfl (lv_at hl 0 rfl) ?_
    refine ca_Nr hh hl.1 (c_X6_nameOf Γ l (fTarget (tChars t) (tLen t) start) (target_in c_8)) ⟨va_cnB (host := RX6) 1 hts gX4_readAssignment_X6_nameOf_n49 rfl rfl rfl hG.1.2.2.2.1 (hts (.initialized RX6) (List.mem_of_getElem? (i := 7) rfl)) (by decide +kernel) ⟨(Nat.le_of_ble_eq_true rfl), (Nat.le_of_ble_eq_true rfl)⟩, (hts (.static yX6_nameOf) (List.mem_of_getElem? (i := 6) rfl)), trivial⟩ (As := [.int (fTarget (tChars t) (tLen t) start)]) (rest := [.int start]) rfl dX4_readAssignment_15 rfl (Nat.le_of_ble_eq_true rfl) hP hD hS ⟨Nat.zero_le _, Nat.zero_le _⟩ (fun H locs hP hS => ?_)
    refine W.eq (g2 := F0 m 18 ls [.ref (gSt Γ (fTarget (tChars t) (tLen t) start).toNatClampNeg), .int start]) rfl ?_
    refine ca_Ki hh hl.1 (k := (fTarget (tChars t) (tLen t) start).toNatClampNeg) (in_lt (target_in c_8)) (c_J0_length_8abf5 Γ l ((fTarget (tChars t) (tLen t) start).toNatClampNeg) (in_lt (target_in c_8))) (cwV 0 hts gX4_readAssignment_J0_length_8abf5 rfl rfl rfl (by decide +kernel) ⟨(Nat.le_of_ble_eq_true rfl), (Nat.le_of_ble_eq_true rfl)⟩) (As := []) (rest := [.int start]) rfl dX4_readAssignment_18 rfl (Nat.le_of_ble_eq_true rfl) hP hD hS ⟨Nat.zero_le _, Nat.zero_le _⟩ (fun H locs hP hS => ?_)
    refine lv_iadd hx hb dX4_readAssignment_21 ?_
    refine lv_iconst (v := 1) hx hb dX4_readAssignment_22 (by decide) ?_
    refine lv_iadd hx hb dX4_readAssignment_23 ?_
    refine lv_istore_n (lv' := [(3, .int ((start + (nI (vLen ((fTarget (tChars t) (tLen t) start).toNatClampNeg)))) + 1)), (2, .int (fTarget (tChars t) (tLen t) start)), (0, .ref (a b)), (1, .int start)]) hx hb dX4_readAssignment_24 rfl hl (by decide) rfl (fun ls hl => ?_)
    refine lv_aload_n hx hb dX4_readAssignment_25 rfl (lv_at hl 2 rfl) ?_
    refine lv_iload_n hx hb dX4_readAssignment_26 rfl (lv_at hl 0 rfl) ?_
    refine ca_Via hh hl.1 (c_X4_characterAt Γ l a b t ((start + (nI (vLen ((fTarget (tChars t) (tLen t) start).toNatClampNeg)))) + 1)) (cwV 1 hts gX4_readAssignment_X4_characterAt rfl rfl rfl (by decide +kernel) ⟨(Nat.le_of_ble_eq_true rfl), (Nat.le_of_ble_eq_true rfl)⟩) (As := [.int ((start + (nI (vLen ((fTarget (tChars t) (tLen t) start).toNatClampNeg)))) + 1)]) (rest := []) rfl dX4_readAssignment_27 rfl (Nat.le_of_ble_eq_true rfl) hP hD hS (q0 := 0) (ci := 4) rfl rfl rfl (wf := txtW Γ a b t) rfl ⟨Nat.zero_le _, Nat.zero_le _⟩ (fun H locs hP hD hS => ?_)
    refine lv_bipush (v := 45) hx hb dX4_readAssignment_30 (by decide) ?_
    refine lv_icmp_ne (tgt := 39) hx hb dX4_readAssignment_32 (by decide) (fun c_32 => ?_) (fun c_32 => ?_)
    · -- yes
      refine lv_iconst (v := 0) hx hb dX4_readAssignment_39 (by decide) ?_
      refine lv_istore (lv' := [(4, .int 0), (3, .int ((start + (nI (vLen ((fTarget (tChars t) (tLen t) start).toNatClampNeg)))) + 1)), (2, .int (fTarget (tChars t) (tLen t) start)), (0, .ref (a b)), (1, .int start)]) hx hb dX4_readAssignment_40 hl (by decide) rfl (fun ls hl => ?_)
      refine lv_iload hx hb dX4_readAssignment_42 (lv_at hl 0 rfl) ?_
      refine lv_if_eq (tgt := 50) hx hb dX4_readAssignment_44 (by decide) (fun _ => ?_) (fun c => (c (by decide)).elim)
      refine lv_iconst (v := 0) hx hb dX4_readAssignment_50 (by decide) ?_
      refine lv_istore (lv' := [(5, .int 0), (4, .int 0), (3, .int ((start + (nI (vLen ((fTarget (tChars t) (tLen t) start).toNatClampNeg)))) + 1)), (2, .int (fTarget (tChars t) (tLen t) start)), (0, .ref (a b)), (1, .int start)]) hx hb dX4_readAssignment_51 hl (by decide) rfl (fun ls hl => ?_)
      refine lv_iconst (v := 0) hx hb dX4_readAssignment_53 (by decide) ?_
      refine lv_istore (lv' := [(6, .int 0), (5, .int 0), (4, .int 0), (3, .int ((start + (nI (vLen ((fTarget (tChars t) (tLen t) start).toNatClampNeg)))) + 1)), (2, .int (fTarget (tChars t) (tLen t) start)), (0, .ref (a b)), (1, .int start)]) hx hb dX4_readAssignment_54 hl (by decide) rfl (fun ls hl => ?_)
      have hJ_56 : ∀ n : Nat, ∀ (d : Nat) (y : Int32) (num : Int32) (pos : Int32), (y = nI d) → (d ≤ 7) → (8 ≤ d + n) → (fDgN (tChars t) (tLen t) n d num pos = fDg (tChars t) (tLen t) ((start + (nI (vLen ((fTarget (tChars t) (tLen t) start).toNatClampNeg)))) + 1)) → ∀ (H : Heap) (locs : List Loc) (ls : Array Slot), va_P (gD Γ) vwCl (txtW Γ a b t) H → va_D A (txtW Γ a b t) → va_S A s.heap H locs → lv_has ls 7 [(0, .ref (a b)), (1, .int start), (2, .int (fTarget (tChars t) (tLen t) start)), (4, .int 0), (3, .int pos), (5, .int y), (6, .int num)] → W p l e rm_X4_readAssignment s m args below meth c H locs 0 0 Q (F0 m 56 ls []) := by
        intro n
        induction n with
        | zero =>
          intro d y num pos ed hd hn hg
          omega
        | succ n ih =>
          intro d y num pos ed hd hn hg H locs ls hP hD hS hl
          refine lv_iload hx hb dX4_readAssignment_56 (lv_at hl 5 rfl) ?_
          refine lv_bipush (v := 7) hx hb dX4_readAssignment_58 (by decide) ?_
          refine lv_icmp_ge (tgt := 96) hx hb dX4_readAssignment_60 (by decide) (fun c_60 => ?_) (fun c_60 => ?_)
          · -- yes
            have hq := hg
            rw [fDgN_s, ← ed] at hq
            first | rw [if_pos c_60] at hq | rw [if_neg c_60, if_pos c_68] at hq
            obtain ⟨hR1, hT1⟩ := ra_end (t := t) (start := start) c_8 (fNeg_0 (show ¬ fChr (tChars t) (tLen t) (fPos0 start (fTarget (tChars t) (tLen t) start)) = 45 from c_32)) (by rw [fPos1_0, fPos0]; exact hq) ed
            have hSg : fSgn 0 num = num := fSgn_0 num
            refine lv_iload hx hb dX4_readAssignment_96 (lv_at hl 5 rfl) ?_
            refine lv_if_eq (tgt := 111) hx hb dX4_readAssignment_98 (by decide) (fun c_98 => ?_) (fun c_98 => ?_)
            · -- yes
              refine lv_iconst (v := (-1)) hx hb dX4_readAssignment_111 (by decide) ?_
              exact re_i hQ ha hx hb hr hlk hAe hP hS dX4_readAssignment_112 (by rw [fRaR, hR1, fEndR', hSg]; (try first | rw [if_pos c_8] | rw [if_neg c_8]); (try first | rw [if_pos c_32] | rw [if_neg c_32]); (try first | rw [if_pos c_60] | rw [if_neg c_60]); (try first | rw [if_pos c_98] | rw [if_neg c_98])) (by rw [fRaT, hT1, fEndT', hSg]; (try first | rw [if_pos c_8] | rw [if_neg c_8]); (try first | rw [if_pos c_32] | rw [if_neg c_32]); (try first | rw [if_pos c_60] | rw [if_neg c_60]); (try first | rw [if_pos c_98] | rw [if_neg c_98]))
            · -- no
              refine lv_aload_n hx hb dX4_readAssignment_101 rfl (lv_at hl 0 rfl) ?_
              refine lv_iload_n hx hb dX4_readAssignment_102 rfl (lv_at hl 4 rfl) ?_
              refine ca_Via hh hl.1 (c_X4_characterAt Γ l a b t pos) (cwV 1 hts gX4_readAssignment_X4_characterAt rfl rfl rfl (by decide +kernel) ⟨(Nat.le_of_ble_eq_true rfl), (Nat.le_of_ble_eq_true rfl)⟩) (As := [.int pos]) (rest := []) rfl dX4_readAssignment_103 rfl (Nat.le_of_ble_eq_true rfl) hP hD hS (q0 := 0) (ci := 4) rfl rfl rfl (wf := txtW Γ a b t) rfl ⟨Nat.zero_le _, Nat.zero_le _⟩ (fun H locs hP hD hS => ?_)
              refine lv_bipush (v := 59) hx hb dX4_readAssignment_106 (by decide) ?_
              refine lv_icmp_eq (tgt := 113) hx hb dX4_readAssignment_108 (by decide) (fun c_108 => ?_) (fun c_108 => ?_)
              · -- yes
                refine lv_aload_n hx hb dX4_readAssignment_113 rfl (lv_at hl 0 rfl) ?_
                refine lv_iload_n hx hb dX4_readAssignment_114 rfl (lv_at hl 2 rfl) ?_
                refine lv_iload hx hb dX4_readAssignment_115 (lv_at hl 3 rfl) ?_
                refine lv_if_eq (tgt := 126) hx hb dX4_readAssignment_117 (by decide) (fun _ => ?_) (fun c => (c (by decide)).elim)
                refine lv_iload hx hb dX4_readAssignment_126 (lv_at hl 6 rfl) ?_
                obtain ⟨u_128, eu_128⟩ : ∃ z : Txt, z = tKeep t (fTarget (tChars t) (tLen t) start) num := ⟨_, rfl⟩
                have hM_128 : Ci Γ l yX4_keep wsX4_keep rm_X4_keep [.ref (a b), .int (fTarget (tChars t) (tLen t) start), .int num] (txtW Γ a b t) (tKeepR (tCnt t) (fTarget (tChars t) (tLen t) start) num) (txtW Γ a b u_128) := by rw [eu_128]; exact c_X4_keep Γ l a b t (fTarget (tChars t) (tLen t) start) num hc0
                refine ca_Via hh hl.1 hM_128 (cwV 2 hts gX4_readAssignment_X4_keep rfl rfl rfl (by decide +kernel) ⟨(Nat.le_of_ble_eq_true rfl), (Nat.le_of_ble_eq_true rfl)⟩) (As := [.int (fTarget (tChars t) (tLen t) start), .int num]) (rest := []) rfl dX4_readAssignment_128 rfl (Nat.le_of_ble_eq_true rfl) hP hD hS (q0 := 0) (ci := 4) rfl rfl rfl (wf := txtW Γ a b u_128) rfl ⟨Nat.zero_le _, Nat.zero_le _⟩ (fun H locs hP hD hS => ?_)
                refine lv_if_eq (tgt := 140) hx hb dX4_readAssignment_131 (by decide) (fun c_131 => ?_) (fun c_131 => ?_)
                · -- yes
                  refine lv_iconst (v := (-1)) hx hb dX4_readAssignment_140 (by decide) ?_
                  exact re_i hQ ha hx hb hr hlk hAe hP hS dX4_readAssignment_141 (by rw [fRaR, hR1, fEndR', hSg]; (try first | rw [if_pos c_8] | rw [if_neg c_8]); (try first | rw [if_pos c_32] | rw [if_neg c_32]); (try first | rw [if_pos c_60] | rw [if_neg c_60]); (try first | rw [if_pos c_98] | rw [if_neg c_98]); (try first | rw [if_pos c_108] | rw [if_neg c_108]); (try first | rw [if_pos c_131] | rw [if_neg c_131])) (by rw [fRaT, hT1, fEndT', hSg, eu_128]; (try first | rw [if_pos c_8] | rw [if_neg c_8]); (try first | rw [if_pos c_32] | rw [if_neg c_32]); (try first | rw [if_pos c_60] | rw [if_neg c_60]); (try first | rw [if_pos c_98] | rw [if_neg c_98]); (try first | rw [if_pos c_108] | rw [if_neg c_108]); (try first | rw [if_pos c_131] | rw [if_neg c_131]))
                · -- no
                  refine lv_iload_n hx hb dX4_readAssignment_134 rfl (lv_at hl 4 rfl) ?_
                  refine lv_iconst (v := 1) hx hb dX4_readAssignment_135 (by decide) ?_
                  refine lv_iadd hx hb dX4_readAssignment_136 ?_
                  refine lv_goto (tgt := 141) hx hb dX4_readAssignment_137 (by decide) ?_
                  exact re_i hQ ha hx hb hr hlk hAe hP hS dX4_readAssignment_141 (by rw [fRaR, hR1, fEndR', hSg]; (try first | rw [if_pos c_8] | rw [if_neg c_8]); (try first | rw [if_pos c_32] | rw [if_neg c_32]); (try first | rw [if_pos c_60] | rw [if_neg c_60]); (try first | rw [if_pos c_98] | rw [if_neg c_98]); (try first | rw [if_pos c_108] | rw [if_neg c_108]); (try first | rw [if_pos c_131] | rw [if_neg c_131])) (by rw [fRaT, hT1, fEndT', hSg, eu_128]; (try first | rw [if_pos c_8] | rw [if_neg c_8]); (try first | rw [if_pos c_32] | rw [if_neg c_32]); (try first | rw [if_pos c_60] | rw [if_neg c_60]); (try first | rw [if_pos c_98] | rw [if_neg c_98]); (try first | rw [if_pos c_108] | rw [if_neg c_108]); (try first | rw [if_pos c_131] | rw [if_neg c_131]))
              · -- no
                refine lv_iconst (v := (-1)) hx hb dX4_readAssignment_111 (by decide) ?_
                exact re_i hQ ha hx hb hr hlk hAe hP hS dX4_readAssignment_112 (by rw [fRaR, hR1, fEndR', hSg]; (try first | rw [if_pos c_8] | rw [if_neg c_8]); (try first | rw [if_pos c_32] | rw [if_neg c_32]); (try first | rw [if_pos c_60] | rw [if_neg c_60]); (try first | rw [if_pos c_98] | rw [if_neg c_98]); (try first | rw [if_pos c_108] | rw [if_neg c_108])) (by rw [fRaT, hT1, fEndT', hSg]; (try first | rw [if_pos c_8] | rw [if_neg c_8]); (try first | rw [if_pos c_32] | rw [if_neg c_32]); (try first | rw [if_pos c_60] | rw [if_neg c_60]); (try first | rw [if_pos c_98] | rw [if_neg c_98]); (try first | rw [if_pos c_108] | rw [if_neg c_108]))
          · -- no
            refine lv_aload_n hx hb dX4_readAssignment_63 rfl (lv_at hl 0 rfl) ?_
            refine lv_iload_n hx hb dX4_readAssignment_64 rfl (lv_at hl 4 rfl) ?_
            refine ca_Via hh hl.1 (c_X4_isDigitAt Γ l a b t pos) (cwV 1 hts gX4_readAssignment_X4_isDigitAt rfl rfl rfl (by decide +kernel) ⟨(Nat.le_of_ble_eq_true rfl), (Nat.le_of_ble_eq_true rfl)⟩) (As := [.int pos]) (rest := []) rfl dX4_readAssignment_65 rfl (Nat.le_of_ble_eq_true rfl) hP hD hS (q0 := 0) (ci := 4) rfl rfl rfl (wf := txtW Γ a b t) rfl ⟨Nat.zero_le _, Nat.zero_le _⟩ (fun H locs hP hD hS => ?_)
            refine lv_if_eq (tgt := 96) hx hb dX4_readAssignment_68 (by decide) (fun c_68 => ?_) (fun c_68 => ?_)
            · -- yes
              have hq := hg
              rw [fDgN_s, ← ed] at hq
              first | rw [if_pos c_60] at hq | rw [if_neg c_60, if_pos c_68] at hq
              obtain ⟨hR1, hT1⟩ := ra_end (t := t) (start := start) c_8 (fNeg_0 (show ¬ fChr (tChars t) (tLen t) (fPos0 start (fTarget (tChars t) (tLen t) start)) = 45 from c_32)) (by rw [fPos1_0, fPos0]; exact hq) ed
              have hSg : fSgn 0 num = num := fSgn_0 num
              refine lv_iload hx hb dX4_readAssignment_96 (lv_at hl 5 rfl) ?_
              refine lv_if_eq (tgt := 111) hx hb dX4_readAssignment_98 (by decide) (fun c_98 => ?_) (fun c_98 => ?_)
              · -- yes
                refine lv_iconst (v := (-1)) hx hb dX4_readAssignment_111 (by decide) ?_
                exact re_i hQ ha hx hb hr hlk hAe hP hS dX4_readAssignment_112 (by rw [fRaR, hR1, fEndR', hSg]; (try first | rw [if_pos c_8] | rw [if_neg c_8]); (try first | rw [if_pos c_32] | rw [if_neg c_32]); (try first | rw [if_pos c_60] | rw [if_neg c_60]); (try first | rw [if_pos c_68] | rw [if_neg c_68]); (try first | rw [if_pos c_98] | rw [if_neg c_98])) (by rw [fRaT, hT1, fEndT', hSg]; (try first | rw [if_pos c_8] | rw [if_neg c_8]); (try first | rw [if_pos c_32] | rw [if_neg c_32]); (try first | rw [if_pos c_60] | rw [if_neg c_60]); (try first | rw [if_pos c_68] | rw [if_neg c_68]); (try first | rw [if_pos c_98] | rw [if_neg c_98]))
              · -- no
                refine lv_aload_n hx hb dX4_readAssignment_101 rfl (lv_at hl 0 rfl) ?_
                refine lv_iload_n hx hb dX4_readAssignment_102 rfl (lv_at hl 4 rfl) ?_
                refine ca_Via hh hl.1 (c_X4_characterAt Γ l a b t pos) (cwV 1 hts gX4_readAssignment_X4_characterAt rfl rfl rfl (by decide +kernel) ⟨(Nat.le_of_ble_eq_true rfl), (Nat.le_of_ble_eq_true rfl)⟩) (As := [.int pos]) (rest := []) rfl dX4_readAssignment_103 rfl (Nat.le_of_ble_eq_true rfl) hP hD hS (q0 := 0) (ci := 4) rfl rfl rfl (wf := txtW Γ a b t) rfl ⟨Nat.zero_le _, Nat.zero_le _⟩ (fun H locs hP hD hS => ?_)
                refine lv_bipush (v := 59) hx hb dX4_readAssignment_106 (by decide) ?_
                refine lv_icmp_eq (tgt := 113) hx hb dX4_readAssignment_108 (by decide) (fun c_108 => ?_) (fun c_108 => ?_)
                · -- yes
                  refine lv_aload_n hx hb dX4_readAssignment_113 rfl (lv_at hl 0 rfl) ?_
                  refine lv_iload_n hx hb dX4_readAssignment_114 rfl (lv_at hl 2 rfl) ?_
                  refine lv_iload hx hb dX4_readAssignment_115 (lv_at hl 3 rfl) ?_
                  refine lv_if_eq (tgt := 126) hx hb dX4_readAssignment_117 (by decide) (fun _ => ?_) (fun c => (c (by decide)).elim)
                  refine lv_iload hx hb dX4_readAssignment_126 (lv_at hl 6 rfl) ?_
                  obtain ⟨u_128, eu_128⟩ : ∃ z : Txt, z = tKeep t (fTarget (tChars t) (tLen t) start) num := ⟨_, rfl⟩
                  have hM_128 : Ci Γ l yX4_keep wsX4_keep rm_X4_keep [.ref (a b), .int (fTarget (tChars t) (tLen t) start), .int num] (txtW Γ a b t) (tKeepR (tCnt t) (fTarget (tChars t) (tLen t) start) num) (txtW Γ a b u_128) := by rw [eu_128]; exact c_X4_keep Γ l a b t (fTarget (tChars t) (tLen t) start) num hc0
                  refine ca_Via hh hl.1 hM_128 (cwV 2 hts gX4_readAssignment_X4_keep rfl rfl rfl (by decide +kernel) ⟨(Nat.le_of_ble_eq_true rfl), (Nat.le_of_ble_eq_true rfl)⟩) (As := [.int (fTarget (tChars t) (tLen t) start), .int num]) (rest := []) rfl dX4_readAssignment_128 rfl (Nat.le_of_ble_eq_true rfl) hP hD hS (q0 := 0) (ci := 4) rfl rfl rfl (wf := txtW Γ a b u_128) rfl ⟨Nat.zero_le _, Nat.zero_le _⟩ (fun H locs hP hD hS => ?_)
                  refine lv_if_eq (tgt := 140) hx hb dX4_readAssignment_131 (by decide) (fun c_131 => ?_) (fun c_131 => ?_)
                  · -- yes
                    refine lv_iconst (v := (-1)) hx hb dX4_readAssignment_140 (by decide) ?_
                    exact re_i hQ ha hx hb hr hlk hAe hP hS dX4_readAssignment_141 (by rw [fRaR, hR1, fEndR', hSg]; (try first | rw [if_pos c_8] | rw [if_neg c_8]); (try first | rw [if_pos c_32] | rw [if_neg c_32]); (try first | rw [if_pos c_60] | rw [if_neg c_60]); (try first | rw [if_pos c_68] | rw [if_neg c_68]); (try first | rw [if_pos c_98] | rw [if_neg c_98]); (try first | rw [if_pos c_108] | rw [if_neg c_108]); (try first | rw [if_pos c_131] | rw [if_neg c_131])) (by rw [fRaT, hT1, fEndT', hSg, eu_128]; (try first | rw [if_pos c_8] | rw [if_neg c_8]); (try first | rw [if_pos c_32] | rw [if_neg c_32]); (try first | rw [if_pos c_60] | rw [if_neg c_60]); (try first | rw [if_pos c_68] | rw [if_neg c_68]); (try first | rw [if_pos c_98] | rw [if_neg c_98]); (try first | rw [if_pos c_108] | rw [if_neg c_108]); (try first | rw [if_pos c_131] | rw [if_neg c_131]))
                  · -- no
                    refine lv_iload_n hx hb dX4_readAssignment_134 rfl (lv_at hl 4 rfl) ?_
                    refine lv_iconst (v := 1) hx hb dX4_readAssignment_135 (by decide) ?_
                    refine lv_iadd hx hb dX4_readAssignment_136 ?_
                    refine lv_goto (tgt := 141) hx hb dX4_readAssignment_137 (by decide) ?_
                    exact re_i hQ ha hx hb hr hlk hAe hP hS dX4_readAssignment_141 (by rw [fRaR, hR1, fEndR', hSg]; (try first | rw [if_pos c_8] | rw [if_neg c_8]); (try first | rw [if_pos c_32] | rw [if_neg c_32]); (try first | rw [if_pos c_60] | rw [if_neg c_60]); (try first | rw [if_pos c_68] | rw [if_neg c_68]); (try first | rw [if_pos c_98] | rw [if_neg c_98]); (try first | rw [if_pos c_108] | rw [if_neg c_108]); (try first | rw [if_pos c_131] | rw [if_neg c_131])) (by rw [fRaT, hT1, fEndT', hSg, eu_128]; (try first | rw [if_pos c_8] | rw [if_neg c_8]); (try first | rw [if_pos c_32] | rw [if_neg c_32]); (try first | rw [if_pos c_60] | rw [if_neg c_60]); (try first | rw [if_pos c_68] | rw [if_neg c_68]); (try first | rw [if_pos c_98] | rw [if_neg c_98]); (try first | rw [if_pos c_108] | rw [if_neg c_108]); (try first | rw [if_pos c_131] | rw [if_neg c_131]))
                · -- no
                  refine lv_iconst (v := (-1)) hx hb dX4_readAssignment_111 (by decide) ?_
                  exact re_i hQ ha hx hb hr hlk hAe hP hS dX4_readAssignment_112 (by rw [fRaR, hR1, fEndR', hSg]; (try first | rw [if_pos c_8] | rw [if_neg c_8]); (try first | rw [if_pos c_32] | rw [if_neg c_32]); (try first | rw [if_pos c_60] | rw [if_neg c_60]); (try first | rw [if_pos c_68] | rw [if_neg c_68]); (try first | rw [if_pos c_98] | rw [if_neg c_98]); (try first | rw [if_pos c_108] | rw [if_neg c_108])) (by rw [fRaT, hT1, fEndT', hSg]; (try first | rw [if_pos c_8] | rw [if_neg c_8]); (try first | rw [if_pos c_32] | rw [if_neg c_32]); (try first | rw [if_pos c_60] | rw [if_neg c_60]); (try first | rw [if_pos c_68] | rw [if_neg c_68]); (try first | rw [if_pos c_98] | rw [if_neg c_98]); (try first | rw [if_pos c_108] | rw [if_neg c_108]))
            · -- no
              refine lv_bipush (v := 10) hx hb dX4_readAssignment_71 (by decide) ?_
              refine lv_iload hx hb dX4_readAssignment_73 (lv_at hl 6 rfl) ?_
              refine lv_imul hx hb dX4_readAssignment_75 ?_
              refine lv_aload_n hx hb dX4_readAssignment_76 rfl (lv_at hl 0 rfl) ?_
              refine lv_iload_n hx hb dX4_readAssignment_77 rfl (lv_at hl 4 rfl) ?_
              refine ca_Via hh hl.1 (c_X4_characterAt Γ l a b t pos) (cwV 1 hts gX4_readAssignment_X4_characterAt rfl rfl rfl (by decide +kernel) ⟨(Nat.le_of_ble_eq_true rfl), (Nat.le_of_ble_eq_true rfl)⟩) (As := [.int pos]) (rest := [.int (10 * num)]) rfl dX4_readAssignment_78 rfl (Nat.le_of_ble_eq_true rfl) hP hD hS (q0 := 0) (ci := 4) rfl rfl rfl (wf := txtW Γ a b t) rfl ⟨Nat.zero_le _, Nat.zero_le _⟩ (fun H locs hP hD hS => ?_)
              refine lv_iadd hx hb dX4_readAssignment_81 ?_
              refine lv_bipush (v := 48) hx hb dX4_readAssignment_82 (by decide) ?_
              refine lv_isub hx hb dX4_readAssignment_84 ?_
              refine lv_istore (lv' := [(6, .int (((10 * num) + (fChr (tChars t) (tLen t) pos)) - 48)), (0, .ref (a b)), (1, .int start), (2, .int (fTarget (tChars t) (tLen t) start)), (4, .int 0), (3, .int pos), (5, .int y)]) hx hb dX4_readAssignment_85 hl (by decide) rfl (fun ls hl => ?_)
              refine lv_iinc (v := (y + 1)) (lv' := [(5, .int (y + 1)), (6, .int (((10 * num) + (fChr (tChars t) (tLen t) pos)) - 48)), (0, .ref (a b)), (1, .int start), (2, .int (fTarget (tChars t) (tLen t) start)), (4, .int 0), (3, .int pos)]) hx hb dX4_readAssignment_87 hl (k := 6) rfl rfl (by decide) rfl (fun ls hl => ?_)
              refine lv_iinc (v := (pos + 1)) (lv' := [(3, .int (pos + 1)), (5, .int (y + 1)), (6, .int (((10 * num) + (fChr (tChars t) (tLen t) pos)) - 48)), (0, .ref (a b)), (1, .int start), (2, .int (fTarget (tChars t) (tLen t) start)), (4, .int 0)]) hx hb dX4_readAssignment_90 hl (k := 6) rfl rfl (by decide) rfl (fun ls hl => ?_)
              refine lv_goto (tgt := 56) hx hb dX4_readAssignment_93 (by decide) ?_
              exact ih (d + 1) _ _ _ (by rw [ed]; exact nI_1 d) (by have := lt_of_nle (i := d) (k := 7) (by rw [← ed]; exact c_60) (by omega) (by decide); omega) (by omega) (by rw [← hg, fDgN_s, ← ed, if_neg c_60, if_neg c_68]) _ _ _ hP hD hS (lv_sub hl [3, 4, 5, 6, 0, 1, 2] rfl)
      exact hJ_56 8 0 0 0 _ rfl (by omega) (by omega) rfl _ _ _ hP hD hS (lv_sub hl [5, 6, 4, 2, 3, 1, 0] rfl)
    · -- no
      refine lv_iconst (v := 1) hx hb dX4_readAssignment_35 (by decide) ?_
      refine lv_goto (tgt := 40) hx hb dX4_readAssignment_36 (by decide) ?_
      refine lv_istore (lv' := [(4, .int 1), (3, .int ((start + (nI (vLen ((fTarget (tChars t) (tLen t) start).toNatClampNeg)))) + 1)), (2, .int (fTarget (tChars t) (tLen t) start)), (0, .ref (a b)), (1, .int start)]) hx hb dX4_readAssignment_40 hl (by decide) rfl (fun ls hl => ?_)
      refine lv_iload hx hb dX4_readAssignment_42 (lv_at hl 0 rfl) ?_
      refine lv_if_eq (tgt := 50) hx hb dX4_readAssignment_44 (by decide) (fun c => absurd c (by decide)) (fun _ => ?_)
      refine lv_iinc (v := (((start + (nI (vLen ((fTarget (tChars t) (tLen t) start).toNatClampNeg)))) + 1) + 1)) (lv' := [(3, .int (((start + (nI (vLen ((fTarget (tChars t) (tLen t) start).toNatClampNeg)))) + 1) + 1)), (4, .int 1), (2, .int (fTarget (tChars t) (tLen t) start)), (0, .ref (a b)), (1, .int start)]) hx hb dX4_readAssignment_47 hl (k := 1) rfl rfl (by decide) rfl (fun ls hl => ?_)
      refine lv_iconst (v := 0) hx hb dX4_readAssignment_50 (by decide) ?_
      refine lv_istore (lv' := [(5, .int 0), (3, .int (((start + (nI (vLen ((fTarget (tChars t) (tLen t) start).toNatClampNeg)))) + 1) + 1)), (4, .int 1), (2, .int (fTarget (tChars t) (tLen t) start)), (0, .ref (a b)), (1, .int start)]) hx hb dX4_readAssignment_51 hl (by decide) rfl (fun ls hl => ?_)
      refine lv_iconst (v := 0) hx hb dX4_readAssignment_53 (by decide) ?_
      refine lv_istore (lv' := [(6, .int 0), (5, .int 0), (3, .int (((start + (nI (vLen ((fTarget (tChars t) (tLen t) start).toNatClampNeg)))) + 1) + 1)), (4, .int 1), (2, .int (fTarget (tChars t) (tLen t) start)), (0, .ref (a b)), (1, .int start)]) hx hb dX4_readAssignment_54 hl (by decide) rfl (fun ls hl => ?_)
      have hJ_56 : ∀ n : Nat, ∀ (d : Nat) (y : Int32) (num : Int32) (pos : Int32), (y = nI d) → (d ≤ 7) → (8 ≤ d + n) → (fDgN (tChars t) (tLen t) n d num pos = fDg (tChars t) (tLen t) (((start + (nI (vLen ((fTarget (tChars t) (tLen t) start).toNatClampNeg)))) + 1) + 1)) → ∀ (H : Heap) (locs : List Loc) (ls : Array Slot), va_P (gD Γ) vwCl (txtW Γ a b t) H → va_D A (txtW Γ a b t) → va_S A s.heap H locs → lv_has ls 7 [(0, .ref (a b)), (1, .int start), (2, .int (fTarget (tChars t) (tLen t) start)), (4, .int 1), (3, .int pos), (5, .int y), (6, .int num)] → W p l e rm_X4_readAssignment s m args below meth c H locs 0 0 Q (F0 m 56 ls []) := by
        intro n
        induction n with
        | zero =>
          intro d y num pos ed hd hn hg
          omega
        | succ n ih =>
          intro d y num pos ed hd hn hg H locs ls hP hD hS hl
          refine lv_iload hx hb dX4_readAssignment_56 (lv_at hl 5 rfl) ?_
          refine lv_bipush (v := 7) hx hb dX4_readAssignment_58 (by decide) ?_
          refine lv_icmp_ge (tgt := 96) hx hb dX4_readAssignment_60 (by decide) (fun c_60 => ?_) (fun c_60 => ?_)
          · -- yes
            have hq := hg
            rw [fDgN_s, ← ed] at hq
            first | rw [if_pos c_60] at hq | rw [if_neg c_60, if_pos c_68] at hq
            obtain ⟨hR1, hT1⟩ := ra_end (t := t) (start := start) c_8 (fNeg_1 (show fChr (tChars t) (tLen t) (fPos0 start (fTarget (tChars t) (tLen t) start)) = 45 from c_32)) (by rw [fPos1_1, fPos0]; exact hq) ed
            have hSg : fSgn 1 num = -num := fSgn_1 num
            refine lv_iload hx hb dX4_readAssignment_96 (lv_at hl 5 rfl) ?_
            refine lv_if_eq (tgt := 111) hx hb dX4_readAssignment_98 (by decide) (fun c_98 => ?_) (fun c_98 => ?_)
            · -- yes
              refine lv_iconst (v := (-1)) hx hb dX4_readAssignment_111 (by decide) ?_
              exact re_i hQ ha hx hb hr hlk hAe hP hS dX4_readAssignment_112 (by rw [fRaR, hR1, fEndR', hSg]; (try first | rw [if_pos c_8] | rw [if_neg c_8]); (try first | rw [if_pos c_32] | rw [if_neg c_32]); (try first | rw [if_pos c_60] | rw [if_neg c_60]); (try first | rw [if_pos c_98] | rw [if_neg c_98])) (by rw [fRaT, hT1, fEndT', hSg]; (try first | rw [if_pos c_8] | rw [if_neg c_8]); (try first | rw [if_pos c_32] | rw [if_neg c_32]); (try first | rw [if_pos c_60] | rw [if_neg c_60]); (try first | rw [if_pos c_98] | rw [if_neg c_98]))
            · -- no
              refine lv_aload_n hx hb dX4_readAssignment_101 rfl (lv_at hl 0 rfl) ?_
              refine lv_iload_n hx hb dX4_readAssignment_102 rfl (lv_at hl 4 rfl) ?_
              refine ca_Via hh hl.1 (c_X4_characterAt Γ l a b t pos) (cwV 1 hts gX4_readAssignment_X4_characterAt rfl rfl rfl (by decide +kernel) ⟨(Nat.le_of_ble_eq_true rfl), (Nat.le_of_ble_eq_true rfl)⟩) (As := [.int pos]) (rest := []) rfl dX4_readAssignment_103 rfl (Nat.le_of_ble_eq_true rfl) hP hD hS (q0 := 0) (ci := 4) rfl rfl rfl (wf := txtW Γ a b t) rfl ⟨Nat.zero_le _, Nat.zero_le _⟩ (fun H locs hP hD hS => ?_)
              refine lv_bipush (v := 59) hx hb dX4_readAssignment_106 (by decide) ?_
              refine lv_icmp_eq (tgt := 113) hx hb dX4_readAssignment_108 (by decide) (fun c_108 => ?_) (fun c_108 => ?_)
              · -- yes
                refine lv_aload_n hx hb dX4_readAssignment_113 rfl (lv_at hl 0 rfl) ?_
                refine lv_iload_n hx hb dX4_readAssignment_114 rfl (lv_at hl 2 rfl) ?_
                refine lv_iload hx hb dX4_readAssignment_115 (lv_at hl 3 rfl) ?_
                refine lv_if_eq (tgt := 126) hx hb dX4_readAssignment_117 (by decide) (fun c => absurd c (by decide)) (fun _ => ?_)
                refine lv_iload hx hb dX4_readAssignment_120 (lv_at hl 6 rfl) ?_
                refine lv_ineg hx hb dX4_readAssignment_122 ?_
                refine lv_goto (tgt := 128) hx hb dX4_readAssignment_123 (by decide) ?_
                obtain ⟨u_128, eu_128⟩ : ∃ z : Txt, z = tKeep t (fTarget (tChars t) (tLen t) start) (-num) := ⟨_, rfl⟩
                have hM_128 : Ci Γ l yX4_keep wsX4_keep rm_X4_keep [.ref (a b), .int (fTarget (tChars t) (tLen t) start), .int (-num)] (txtW Γ a b t) (tKeepR (tCnt t) (fTarget (tChars t) (tLen t) start) (-num)) (txtW Γ a b u_128) := by rw [eu_128]; exact c_X4_keep Γ l a b t (fTarget (tChars t) (tLen t) start) (-num) hc0
                refine ca_Via hh hl.1 hM_128 (cwV 2 hts gX4_readAssignment_X4_keep rfl rfl rfl (by decide +kernel) ⟨(Nat.le_of_ble_eq_true rfl), (Nat.le_of_ble_eq_true rfl)⟩) (As := [.int (fTarget (tChars t) (tLen t) start), .int (-num)]) (rest := []) rfl dX4_readAssignment_128 rfl (Nat.le_of_ble_eq_true rfl) hP hD hS (q0 := 0) (ci := 4) rfl rfl rfl (wf := txtW Γ a b u_128) rfl ⟨Nat.zero_le _, Nat.zero_le _⟩ (fun H locs hP hD hS => ?_)
                refine lv_if_eq (tgt := 140) hx hb dX4_readAssignment_131 (by decide) (fun c_131 => ?_) (fun c_131 => ?_)
                · -- yes
                  refine lv_iconst (v := (-1)) hx hb dX4_readAssignment_140 (by decide) ?_
                  exact re_i hQ ha hx hb hr hlk hAe hP hS dX4_readAssignment_141 (by rw [fRaR, hR1, fEndR', hSg]; (try first | rw [if_pos c_8] | rw [if_neg c_8]); (try first | rw [if_pos c_32] | rw [if_neg c_32]); (try first | rw [if_pos c_60] | rw [if_neg c_60]); (try first | rw [if_pos c_98] | rw [if_neg c_98]); (try first | rw [if_pos c_108] | rw [if_neg c_108]); (try first | rw [if_pos c_131] | rw [if_neg c_131])) (by rw [fRaT, hT1, fEndT', hSg, eu_128]; (try first | rw [if_pos c_8] | rw [if_neg c_8]); (try first | rw [if_pos c_32] | rw [if_neg c_32]); (try first | rw [if_pos c_60] | rw [if_neg c_60]); (try first | rw [if_pos c_98] | rw [if_neg c_98]); (try first | rw [if_pos c_108] | rw [if_neg c_108]); (try first | rw [if_pos c_131] | rw [if_neg c_131]))
                · -- no
                  refine lv_iload_n hx hb dX4_readAssignment_134 rfl (lv_at hl 4 rfl) ?_
                  refine lv_iconst (v := 1) hx hb dX4_readAssignment_135 (by decide) ?_
                  refine lv_iadd hx hb dX4_readAssignment_136 ?_
                  refine lv_goto (tgt := 141) hx hb dX4_readAssignment_137 (by decide) ?_
                  exact re_i hQ ha hx hb hr hlk hAe hP hS dX4_readAssignment_141 (by rw [fRaR, hR1, fEndR', hSg]; (try first | rw [if_pos c_8] | rw [if_neg c_8]); (try first | rw [if_pos c_32] | rw [if_neg c_32]); (try first | rw [if_pos c_60] | rw [if_neg c_60]); (try first | rw [if_pos c_98] | rw [if_neg c_98]); (try first | rw [if_pos c_108] | rw [if_neg c_108]); (try first | rw [if_pos c_131] | rw [if_neg c_131])) (by rw [fRaT, hT1, fEndT', hSg, eu_128]; (try first | rw [if_pos c_8] | rw [if_neg c_8]); (try first | rw [if_pos c_32] | rw [if_neg c_32]); (try first | rw [if_pos c_60] | rw [if_neg c_60]); (try first | rw [if_pos c_98] | rw [if_neg c_98]); (try first | rw [if_pos c_108] | rw [if_neg c_108]); (try first | rw [if_pos c_131] | rw [if_neg c_131]))
              · -- no
                refine lv_iconst (v := (-1)) hx hb dX4_readAssignment_111 (by decide) ?_
                exact re_i hQ ha hx hb hr hlk hAe hP hS dX4_readAssignment_112 (by rw [fRaR, hR1, fEndR', hSg]; (try first | rw [if_pos c_8] | rw [if_neg c_8]); (try first | rw [if_pos c_32] | rw [if_neg c_32]); (try first | rw [if_pos c_60] | rw [if_neg c_60]); (try first | rw [if_pos c_98] | rw [if_neg c_98]); (try first | rw [if_pos c_108] | rw [if_neg c_108])) (by rw [fRaT, hT1, fEndT', hSg]; (try first | rw [if_pos c_8] | rw [if_neg c_8]); (try first | rw [if_pos c_32] | rw [if_neg c_32]); (try first | rw [if_pos c_60] | rw [if_neg c_60]); (try first | rw [if_pos c_98] | rw [if_neg c_98]); (try first | rw [if_pos c_108] | rw [if_neg c_108]))
          · -- no
            refine lv_aload_n hx hb dX4_readAssignment_63 rfl (lv_at hl 0 rfl) ?_
            refine lv_iload_n hx hb dX4_readAssignment_64 rfl (lv_at hl 4 rfl) ?_
            refine ca_Via hh hl.1 (c_X4_isDigitAt Γ l a b t pos) (cwV 1 hts gX4_readAssignment_X4_isDigitAt rfl rfl rfl (by decide +kernel) ⟨(Nat.le_of_ble_eq_true rfl), (Nat.le_of_ble_eq_true rfl)⟩) (As := [.int pos]) (rest := []) rfl dX4_readAssignment_65 rfl (Nat.le_of_ble_eq_true rfl) hP hD hS (q0 := 0) (ci := 4) rfl rfl rfl (wf := txtW Γ a b t) rfl ⟨Nat.zero_le _, Nat.zero_le _⟩ (fun H locs hP hD hS => ?_)
            refine lv_if_eq (tgt := 96) hx hb dX4_readAssignment_68 (by decide) (fun c_68 => ?_) (fun c_68 => ?_)
            · -- yes
              have hq := hg
              rw [fDgN_s, ← ed] at hq
              first | rw [if_pos c_60] at hq | rw [if_neg c_60, if_pos c_68] at hq
              obtain ⟨hR1, hT1⟩ := ra_end (t := t) (start := start) c_8 (fNeg_1 (show fChr (tChars t) (tLen t) (fPos0 start (fTarget (tChars t) (tLen t) start)) = 45 from c_32)) (by rw [fPos1_1, fPos0]; exact hq) ed
              have hSg : fSgn 1 num = -num := fSgn_1 num
              refine lv_iload hx hb dX4_readAssignment_96 (lv_at hl 5 rfl) ?_
              refine lv_if_eq (tgt := 111) hx hb dX4_readAssignment_98 (by decide) (fun c_98 => ?_) (fun c_98 => ?_)
              · -- yes
                refine lv_iconst (v := (-1)) hx hb dX4_readAssignment_111 (by decide) ?_
                exact re_i hQ ha hx hb hr hlk hAe hP hS dX4_readAssignment_112 (by rw [fRaR, hR1, fEndR', hSg]; (try first | rw [if_pos c_8] | rw [if_neg c_8]); (try first | rw [if_pos c_32] | rw [if_neg c_32]); (try first | rw [if_pos c_60] | rw [if_neg c_60]); (try first | rw [if_pos c_68] | rw [if_neg c_68]); (try first | rw [if_pos c_98] | rw [if_neg c_98])) (by rw [fRaT, hT1, fEndT', hSg]; (try first | rw [if_pos c_8] | rw [if_neg c_8]); (try first | rw [if_pos c_32] | rw [if_neg c_32]); (try first | rw [if_pos c_60] | rw [if_neg c_60]); (try first | rw [if_pos c_68] | rw [if_neg c_68]); (try first | rw [if_pos c_98] | rw [if_neg c_98]))
              · -- no
                refine lv_aload_n hx hb dX4_readAssignment_101 rfl (lv_at hl 0 rfl) ?_
                refine lv_iload_n hx hb dX4_readAssignment_102 rfl (lv_at hl 4 rfl) ?_
                refine ca_Via hh hl.1 (c_X4_characterAt Γ l a b t pos) (cwV 1 hts gX4_readAssignment_X4_characterAt rfl rfl rfl (by decide +kernel) ⟨(Nat.le_of_ble_eq_true rfl), (Nat.le_of_ble_eq_true rfl)⟩) (As := [.int pos]) (rest := []) rfl dX4_readAssignment_103 rfl (Nat.le_of_ble_eq_true rfl) hP hD hS (q0 := 0) (ci := 4) rfl rfl rfl (wf := txtW Γ a b t) rfl ⟨Nat.zero_le _, Nat.zero_le _⟩ (fun H locs hP hD hS => ?_)
                refine lv_bipush (v := 59) hx hb dX4_readAssignment_106 (by decide) ?_
                refine lv_icmp_eq (tgt := 113) hx hb dX4_readAssignment_108 (by decide) (fun c_108 => ?_) (fun c_108 => ?_)
                · -- yes
                  refine lv_aload_n hx hb dX4_readAssignment_113 rfl (lv_at hl 0 rfl) ?_
                  refine lv_iload_n hx hb dX4_readAssignment_114 rfl (lv_at hl 2 rfl) ?_
                  refine lv_iload hx hb dX4_readAssignment_115 (lv_at hl 3 rfl) ?_
                  refine lv_if_eq (tgt := 126) hx hb dX4_readAssignment_117 (by decide) (fun c => absurd c (by decide)) (fun _ => ?_)
                  refine lv_iload hx hb dX4_readAssignment_120 (lv_at hl 6 rfl) ?_
                  refine lv_ineg hx hb dX4_readAssignment_122 ?_
                  refine lv_goto (tgt := 128) hx hb dX4_readAssignment_123 (by decide) ?_
                  obtain ⟨u_128, eu_128⟩ : ∃ z : Txt, z = tKeep t (fTarget (tChars t) (tLen t) start) (-num) := ⟨_, rfl⟩
                  have hM_128 : Ci Γ l yX4_keep wsX4_keep rm_X4_keep [.ref (a b), .int (fTarget (tChars t) (tLen t) start), .int (-num)] (txtW Γ a b t) (tKeepR (tCnt t) (fTarget (tChars t) (tLen t) start) (-num)) (txtW Γ a b u_128) := by rw [eu_128]; exact c_X4_keep Γ l a b t (fTarget (tChars t) (tLen t) start) (-num) hc0
                  refine ca_Via hh hl.1 hM_128 (cwV 2 hts gX4_readAssignment_X4_keep rfl rfl rfl (by decide +kernel) ⟨(Nat.le_of_ble_eq_true rfl), (Nat.le_of_ble_eq_true rfl)⟩) (As := [.int (fTarget (tChars t) (tLen t) start), .int (-num)]) (rest := []) rfl dX4_readAssignment_128 rfl (Nat.le_of_ble_eq_true rfl) hP hD hS (q0 := 0) (ci := 4) rfl rfl rfl (wf := txtW Γ a b u_128) rfl ⟨Nat.zero_le _, Nat.zero_le _⟩ (fun H locs hP hD hS => ?_)
                  refine lv_if_eq (tgt := 140) hx hb dX4_readAssignment_131 (by decide) (fun c_131 => ?_) (fun c_131 => ?_)
                  · -- yes
                    refine lv_iconst (v := (-1)) hx hb dX4_readAssignment_140 (by decide) ?_
                    exact re_i hQ ha hx hb hr hlk hAe hP hS dX4_readAssignment_141 (by rw [fRaR, hR1, fEndR', hSg]; (try first | rw [if_pos c_8] | rw [if_neg c_8]); (try first | rw [if_pos c_32] | rw [if_neg c_32]); (try first | rw [if_pos c_60] | rw [if_neg c_60]); (try first | rw [if_pos c_68] | rw [if_neg c_68]); (try first | rw [if_pos c_98] | rw [if_neg c_98]); (try first | rw [if_pos c_108] | rw [if_neg c_108]); (try first | rw [if_pos c_131] | rw [if_neg c_131])) (by rw [fRaT, hT1, fEndT', hSg, eu_128]; (try first | rw [if_pos c_8] | rw [if_neg c_8]); (try first | rw [if_pos c_32] | rw [if_neg c_32]); (try first | rw [if_pos c_60] | rw [if_neg c_60]); (try first | rw [if_pos c_68] | rw [if_neg c_68]); (try first | rw [if_pos c_98] | rw [if_neg c_98]); (try first | rw [if_pos c_108] | rw [if_neg c_108]); (try first | rw [if_pos c_131] | rw [if_neg c_131]))
                  · -- no
                    refine lv_iload_n hx hb dX4_readAssignment_134 rfl (lv_at hl 4 rfl) ?_
                    refine lv_iconst (v := 1) hx hb dX4_readAssignment_135 (by decide) ?_
                    refine lv_iadd hx hb dX4_readAssignment_136 ?_
                    refine lv_goto (tgt := 141) hx hb dX4_readAssignment_137 (by decide) ?_
                    exact re_i hQ ha hx hb hr hlk hAe hP hS dX4_readAssignment_141 (by rw [fRaR, hR1, fEndR', hSg]; (try first | rw [if_pos c_8] | rw [if_neg c_8]); (try first | rw [if_pos c_32] | rw [if_neg c_32]); (try first | rw [if_pos c_60] | rw [if_neg c_60]); (try first | rw [if_pos c_68] | rw [if_neg c_68]); (try first | rw [if_pos c_98] | rw [if_neg c_98]); (try first | rw [if_pos c_108] | rw [if_neg c_108]); (try first | rw [if_pos c_131] | rw [if_neg c_131])) (by rw [fRaT, hT1, fEndT', hSg, eu_128]; (try first | rw [if_pos c_8] | rw [if_neg c_8]); (try first | rw [if_pos c_32] | rw [if_neg c_32]); (try first | rw [if_pos c_60] | rw [if_neg c_60]); (try first | rw [if_pos c_68] | rw [if_neg c_68]); (try first | rw [if_pos c_98] | rw [if_neg c_98]); (try first | rw [if_pos c_108] | rw [if_neg c_108]); (try first | rw [if_pos c_131] | rw [if_neg c_131]))
                · -- no
                  refine lv_iconst (v := (-1)) hx hb dX4_readAssignment_111 (by decide) ?_
                  exact re_i hQ ha hx hb hr hlk hAe hP hS dX4_readAssignment_112 (by rw [fRaR, hR1, fEndR', hSg]; (try first | rw [if_pos c_8] | rw [if_neg c_8]); (try first | rw [if_pos c_32] | rw [if_neg c_32]); (try first | rw [if_pos c_60] | rw [if_neg c_60]); (try first | rw [if_pos c_68] | rw [if_neg c_68]); (try first | rw [if_pos c_98] | rw [if_neg c_98]); (try first | rw [if_pos c_108] | rw [if_neg c_108])) (by rw [fRaT, hT1, fEndT', hSg]; (try first | rw [if_pos c_8] | rw [if_neg c_8]); (try first | rw [if_pos c_32] | rw [if_neg c_32]); (try first | rw [if_pos c_60] | rw [if_neg c_60]); (try first | rw [if_pos c_68] | rw [if_neg c_68]); (try first | rw [if_pos c_98] | rw [if_neg c_98]); (try first | rw [if_pos c_108] | rw [if_neg c_108]))
            · -- no
              refine lv_bipush (v := 10) hx hb dX4_readAssignment_71 (by decide) ?_
              refine lv_iload hx hb dX4_readAssignment_73 (lv_at hl 6 rfl) ?_
              refine lv_imul hx hb dX4_readAssignment_75 ?_
              refine lv_aload_n hx hb dX4_readAssignment_76 rfl (lv_at hl 0 rfl) ?_
              refine lv_iload_n hx hb dX4_readAssignment_77 rfl (lv_at hl 4 rfl) ?_
              refine ca_Via hh hl.1 (c_X4_characterAt Γ l a b t pos) (cwV 1 hts gX4_readAssignment_X4_characterAt rfl rfl rfl (by decide +kernel) ⟨(Nat.le_of_ble_eq_true rfl), (Nat.le_of_ble_eq_true rfl)⟩) (As := [.int pos]) (rest := [.int (10 * num)]) rfl dX4_readAssignment_78 rfl (Nat.le_of_ble_eq_true rfl) hP hD hS (q0 := 0) (ci := 4) rfl rfl rfl (wf := txtW Γ a b t) rfl ⟨Nat.zero_le _, Nat.zero_le _⟩ (fun H locs hP hD hS => ?_)
              refine lv_iadd hx hb dX4_readAssignment_81 ?_
              refine lv_bipush (v := 48) hx hb dX4_readAssignment_82 (by decide) ?_
              refine lv_isub hx hb dX4_readAssignment_84 ?_
              refine lv_istore (lv' := [(6, .int (((10 * num) + (fChr (tChars t) (tLen t) pos)) - 48)), (0, .ref (a b)), (1, .int start), (2, .int (fTarget (tChars t) (tLen t) start)), (4, .int 1), (3, .int pos), (5, .int y)]) hx hb dX4_readAssignment_85 hl (by decide) rfl (fun ls hl => ?_)
              refine lv_iinc (v := (y + 1)) (lv' := [(5, .int (y + 1)), (6, .int (((10 * num) + (fChr (tChars t) (tLen t) pos)) - 48)), (0, .ref (a b)), (1, .int start), (2, .int (fTarget (tChars t) (tLen t) start)), (4, .int 1), (3, .int pos)]) hx hb dX4_readAssignment_87 hl (k := 6) rfl rfl (by decide) rfl (fun ls hl => ?_)
              refine lv_iinc (v := (pos + 1)) (lv' := [(3, .int (pos + 1)), (5, .int (y + 1)), (6, .int (((10 * num) + (fChr (tChars t) (tLen t) pos)) - 48)), (0, .ref (a b)), (1, .int start), (2, .int (fTarget (tChars t) (tLen t) start)), (4, .int 1)]) hx hb dX4_readAssignment_90 hl (k := 6) rfl rfl (by decide) rfl (fun ls hl => ?_)
              refine lv_goto (tgt := 56) hx hb dX4_readAssignment_93 (by decide) ?_
              exact ih (d + 1) _ _ _ (by rw [ed]; exact nI_1 d) (by have := lt_of_nle (i := d) (k := 7) (by rw [← ed]; exact c_60) (by omega) (by decide); omega) (by omega) (by rw [← hg, fDgN_s, ← ed, if_neg c_60, if_neg c_68]) _ _ _ hP hD hS (lv_sub hl [3, 4, 5, 6, 0, 1, 2] rfl)
      exact hJ_56 8 0 0 0 _ rfl (by omega) (by omega) rfl _ _ _ hP hD hS (lv_sub hl [5, 6, 4, 3, 2, 1, 0] rfl)
  · -- no
    refine lv_iconst (v := (-1)) hx hb dX4_readAssignment_11 (by decide) ?_
    exact re_i hQ ha hx hb hr hlk hAe hP hS dX4_readAssignment_12 (by simp only [fRaR, fRaR1, c_8, if_true]) (by simp only [fRaT, fRaT1, c_8, if_true])
def rm_X4_read : Room := { frames := 7, cells := 0, slots := 0, locals := 157 }
theorem iX4_read_4 : ∀ w ∈ u_ws RX4 TX4 5, w ∈ wsX4_read := fun w h => (List.mem_cons_of_mem _ (List.mem_append_right _ h))
set_option maxHeartbeats 1000000 in
set_option maxRecDepth 100000 in
theorem c_X4_read (Γ : gT) (l : Launch) (a : Nat → Nat) (b : Nat) (t : Txt) (L : Nat) (hL : tLen t = nI L) (hL2 : L ≤ 80) : Ci Γ l yX4_read wsX4_read rm_X4_read [.ref (a b)] (txtW Γ a b t) ((fRead t).1) (txtW Γ a b ((fRead t).2)) := by
  refine Ci.of (cc := cX4_read) (own := RX4) (nL := 3) (ret := (some .int)) (by decide +kernel) rfl rfl (Nat.le_of_ble_eq_true rfl) ?_
  intro p e s m args below meth c A Q H locs ls ha hAe hQ hx hb hml hr hts hown hlk hP hK hD hS hA hG hl
  have hh : Hd Γ p s m args c cX4_read RX4 3 wsX4_read A := ⟨⟨hx, hb, hml, hown, hts⟩, hK, hA, hG⟩
  have hl : lv_has ls 3 [(0, .ref (a b))] := hl
  refine lv_iconst (v := 0) hx hb dX4_read_0 (by decide) ?_
  refine lv_istore_n (lv' := [(1, .int 0), (0, .ref (a b))]) hx hb dX4_read_1 rfl hl (by decide) rfl (fun ls hl => ?_)
  refine lv_aload_n hx hb dX4_read_2 rfl (lv_at hl 1 rfl) ?_
  refine lv_iconst (v := 0) hx hb dX4_read_3 (by decide) ?_
  refine va_put (D := gD Γ) (cl := vwCl) (tys := gTy Γ) (ci := 4) (v := .int 0) (ty := tyX4 4) (C := RX4) (T := TX4) (N := 5) hx hb hts iX4_read_4 tyX4 tyX4_ok nmX4 hown hK hP hD hS 0 rfl rfl 4 (Nat.le_of_ble_eq_true rfl) (hts (.fieldLink RX4 26 "DeadTimeLoop$Text" "count" "I") (List.mem_of_getElem? (i := 1) rfl)) (fun _ h9 => h9) rfl (tyX4_ok 4 (Nat.le_of_ble_eq_true rfl)) rfl rfl (Nat.le_of_ble_eq_true rfl) dX4_read_4 (fun H locs hP hD hS => ?_)
  have hP : va_P (gD Γ) vwCl (txtW Γ a b ((tChars t), (tTarg t), (tWant t), (tLen t), 0)) H := hP
  have hD : va_D A (txtW Γ a b ((tChars t), (tTarg t), (tWant t), (tLen t), 0)) := hD
  have hJ_7 : ∀ n : Nat, ∀ (S : Nat) (y : Int32) (t1 : Txt), (y = nI S) → (S < 2 ^ 31) → (L - S < n) → (tOk t1 L) → (fReadN n y t1 = fRead t) → ∀ (H : Heap) (locs : List Loc) (ls : Array Slot), va_P (gD Γ) vwCl (txtW Γ a b t1) H → va_D A (txtW Γ a b t1) → va_S A s.heap H locs → lv_has ls 3 [(0, .ref (a b)), (1, .int y)] → W p l e rm_X4_read s m args below meth c H locs 0 0 Q (F0 m 7 ls []) := by
    intro n
    induction n with
    | zero =>
      intro S y t1 ey hSb hn hok hg
      omega
    | succ n ih =>
      intro S y t1 ey hSb hn hok hg H locs ls hP hD hS hl
      refine lv_iload_n hx hb dX4_read_7 rfl (lv_at hl 1 rfl) ?_
      refine lv_aload_n hx hb dX4_read_8 rfl (lv_at hl 0 rfl) ?_
      refine va_get (D := gD Γ) (cl := vwCl) (tys := gTy Γ) (ci := 4) (v := .int (tLen t1)) (C := RX4) (T := TX4) (N := 5) hx hb hts iX4_read_4 hown hK hP 0 rfl rfl 3 (Nat.le_of_ble_eq_true rfl) (hts (.fieldLink RX4 22 "DeadTimeLoop$Text" "length" "I") (List.mem_of_getElem? (i := 2) rfl)) (fun _ h9 => h9) rfl dX4_read_9 ?_
      refine lv_icmp_ge (tgt := 33) hx hb dX4_read_12 (by decide) (fun c_12 => ?_) (fun c_12 => ?_)
      · -- yes
        refine lv_iconst (v := (-1)) hx hb dX4_read_33 (by decide) ?_
        exact re_i hQ ha hx hb hr hlk hAe hP hS dX4_read_34 (by rw [← hg, fReadN_s]; (try first | rw [if_pos c_12] | rw [if_neg c_12])) (by rw [← hg, fReadN_s]; (try first | rw [if_pos c_12] | rw [if_neg c_12]))
      · -- no
        refine lv_aload_n hx hb dX4_read_15 rfl (lv_at hl 0 rfl) ?_
        refine lv_iload_n hx hb dX4_read_16 rfl (lv_at hl 1 rfl) ?_
        obtain ⟨u_17, eu_17⟩ : ∃ z : Txt, z = fRaT t1 y := ⟨_, rfl⟩
        have hM_17 : Ci Γ l yX4_readAssignment wsX4_readAssignment rm_X4_readAssignment [.ref (a b), .int y] (txtW Γ a b t1) (fRaR t1 y) (txtW Γ a b u_17) := by rw [eu_17]; exact c_X4_readAssignment Γ l a b t1 y (tOk_pos hok)
        refine ca_Via hh hl.1 hM_17 (cwV 1 hts gX4_read_X4_readAssignment rfl rfl rfl (by decide +kernel) ⟨(Nat.le_of_ble_eq_true rfl), (Nat.le_of_ble_eq_true rfl)⟩) (As := [.int y]) (rest := []) rfl dX4_read_17 rfl (Nat.le_of_ble_eq_true rfl) hP hD hS (q0 := 0) (ci := 4) rfl rfl rfl (wf := txtW Γ a b u_17) rfl ⟨Nat.zero_le _, Nat.zero_le _⟩ (fun H locs hP hD hS => ?_)
        refine lv_istore_n (lv' := [(2, .int (fRaR t1 y)), (0, .ref (a b)), (1, .int y)]) hx hb dX4_read_20 rfl hl (by decide) rfl (fun ls hl => ?_)
        refine lv_iload_n hx hb dX4_read_21 rfl (lv_at hl 0 rfl) ?_
        refine lv_iload_n hx hb dX4_read_22 rfl (lv_at hl 2 rfl) ?_
        refine lv_icmp_gt (tgt := 28) hx hb dX4_read_23 (by decide) (fun c_23 => ?_) (fun c_23 => ?_)
        · -- yes
          refine lv_iload_n hx hb dX4_read_28 rfl (lv_at hl 0 rfl) ?_
          refine lv_istore_n (lv' := [(1, .int (fRaR t1 y)), (2, .int (fRaR t1 y)), (0, .ref (a b))]) hx hb dX4_read_29 rfl hl (by decide) rfl (fun ls hl => ?_)
          refine lv_goto (tgt := 7) hx hb dX4_read_30 (by decide) ?_
          exact ih (fRaR t1 y).toNatClampNeg _ u_17 (pos_nI (Int32.not_lt.mpr (Int32.le_of_lt (Int32.lt_of_le_of_lt (Int32.not_lt.mp (by rw [ey]; exact nI_pos hSb)) c_23)))) (Int32.toNatClampNeg_lt _) (by have q1 := c_12; have q2 := c_23; rw [hok.1, ey] at q1; have q3 := lt_of_nle q1 hSb (by omega); have q4 := pos_nI (Int32.not_lt.mpr (Int32.le_of_lt (Int32.lt_of_le_of_lt (Int32.not_lt.mp (show ¬ y < 0 from by rw [ey]; exact nI_pos hSb)) c_23))); rw [q4, ey, nI_ltI hSb (Int32.toNatClampNeg_lt _)] at q2; rw [← ey] at q2; omega) (by rw [eu_17]; exact fRaT_ok hok y) (by rw [← hg, fReadN_s]; (try first | rw [if_pos c_12] | rw [if_neg c_12]); (try first | rw [if_pos c_23] | rw [if_neg c_23]); rw [eu_17]) _ _ _ hP hD hS (lv_sub hl [2, 0] rfl)
        · -- no
          refine lv_iload_n hx hb dX4_read_26 rfl (lv_at hl 2 rfl) ?_
          exact re_i hQ ha hx hb hr hlk hAe hP hS dX4_read_27 (by rw [← hg, fReadN_s]; (try first | rw [if_pos c_12] | rw [if_neg c_12]); (try first | rw [if_pos c_23] | rw [if_neg c_23])) (by rw [← hg, fReadN_s]; (try first | rw [if_pos c_12] | rw [if_neg c_12]); (try first | rw [if_pos c_23] | rw [if_neg c_23]); rw [eu_17])
  exact hJ_7 81 0 0 ((tChars t), (tTarg t), (tWant t), (tLen t), 0) rfl (by omega) (by omega) (⟨hL, 0, by omega, rfl⟩) rfl _ _ _ hP hD hS (lv_sub hl [1, 0] rfl)
def rm_X4_isFirst : Room := { frames := 0, cells := 0, slots := 0, locals := 0 }
theorem iX4_isFirst_4 : ∀ w ∈ u_ws RX4 TX4 5, w ∈ wsX4_isFirst := fun w h => (List.mem_cons_of_mem _ (List.mem_append_right _ h))
set_option maxHeartbeats 1000000 in
set_option maxRecDepth 100000 in
theorem c_X4_isFirst (Γ : gT) (l : Launch) (a : Nat → Nat) (b : Nat) (t : Txt) (a1 : Int32) (ha0 : ¬ a1 < 0) : Ci Γ l yX4_isFirst wsX4_isFirst rm_X4_isFirst [.ref (a b), .int a1] (txtW Γ a b t) (fIsFirst (tTarg t) a1) (txtW Γ a b t) := by
  refine Ci.of (cc := cX4_isFirst) (own := RX4) (nL := 3) (ret := (some .boolean)) (by decide +kernel) rfl rfl (Nat.le_of_ble_eq_true rfl) ?_
  intro p e s m args below meth c A Q H locs ls ha hAe hQ hx hb hml hr hts hown hlk hP hK hD hS hA hG hl
  have hh : Hd Γ p s m args c cX4_isFirst RX4 3 wsX4_isFirst A := ⟨⟨hx, hb, hml, hown, hts⟩, hK, hA, hG⟩
  have hl : lv_has ls 3 [(0, .ref (a b)), (1, .int a1)] := hl
  obtain ⟨A0, hA2, hA0⟩ := nI_of ha0
  refine lv_iconst (v := 0) hx hb dX4_isFirst_0 (by decide) ?_
  refine lv_istore_n (lv' := [(2, .int 0), (0, .ref (a b)), (1, .int a1)]) hx hb dX4_isFirst_1 rfl hl (by decide) rfl (fun ls hl => ?_)
  have hJ_2 : ∀ n : Nat, ∀ (i : Nat) (y : Int32), (y = nI i) → (i ≤ 16) → (17 ≤ i + n) → (fFirstN (tTarg t) a1 n i = fIsFirst (tTarg t) a1) → ∀ (H : Heap) (locs : List Loc) (ls : Array Slot), va_P (gD Γ) vwCl (txtW Γ a b t) H → va_D A (txtW Γ a b t) → va_S A s.heap H locs → lv_has ls 3 [(0, .ref (a b)), (1, .int a1), (2, .int y)] → W p l e rm_X4_isFirst s m args below meth c H locs 0 0 Q (F0 m 2 ls []) := by
    intro n
    induction n with
    | zero =>
      intro i y ey hi hn hg
      omega
    | succ n ih =>
      intro i y ey hi hn hg H locs ls hP hD hS hl
      refine lv_iload_n hx hb dX4_isFirst_2 rfl (lv_at hl 2 rfl) ?_
      refine lv_iload_n hx hb dX4_isFirst_3 rfl (lv_at hl 1 rfl) ?_
      refine lv_icmp_ge (tgt := 36) hx hb dX4_isFirst_4 (by decide) (fun c_4 => ?_) (fun c_4 => ?_)
      · -- yes
        refine lv_iconst (v := 1) hx hb dX4_isFirst_36 (by decide) ?_
        exact re_z hQ ha hx hb hr hlk hAe hP hS dX4_isFirst_37 rfl (by rw [← hg, fFirstN_s]; subst ey; (try first | rw [if_pos c_4] | rw [if_neg c_4])) rfl
      · -- no
        refine lv_iload_n hx hb dX4_isFirst_7 rfl (lv_at hl 1 rfl) ?_
        refine lv_bipush (v := 16) hx hb dX4_isFirst_8 (by decide) ?_
        refine lv_icmp_ge (tgt := 36) hx hb dX4_isFirst_10 (by decide) (fun c_10 => ?_) (fun c_10 => ?_)
        · -- yes
          refine lv_iconst (v := 1) hx hb dX4_isFirst_36 (by decide) ?_
          exact re_z hQ ha hx hb hr hlk hAe hP hS dX4_isFirst_37 rfl (by rw [← hg, fFirstN_s]; subst ey; (try first | rw [if_pos c_4] | rw [if_neg c_4]); (try first | rw [if_pos c_10] | rw [if_neg c_10])) rfl
        · -- no
          refine lv_aload_n hx hb dX4_isFirst_13 rfl (lv_at hl 0 rfl) ?_
          refine va_get (D := gD Γ) (cl := vwCl) (tys := gTy Γ) (ci := 4) (v := .ref (a (b + 2))) (C := RX4) (T := TX4) (N := 5) hx hb hts iX4_isFirst_4 hown hK hP 0 rfl rfl 1 (Nat.le_of_ble_eq_true rfl) (hts (.fieldLink RX4 15 "DeadTimeLoop$Text" "targets" "[I") (List.mem_of_getElem? (i := 1) rfl)) (fun _ h9 => h9) rfl dX4_isFirst_14 ?_
          refine lv_iload_n hx hb dX4_isFirst_17 rfl (lv_at hl 2 rfl) ?_
          refine ka_iald (D := gD Γ) (cl := vwCl) (tys := gTy Γ) hx hb hK hP 2 0 rfl rfl i ey (by have := lt_of_nle (i := i) (k := A0) (by rw [← hA0, ← ey]; exact c_4) (by omega) hA2; have h2 := lt_of_nle (i := A0) (k := 16) (by rw [← hA0]; exact c_10) hA2 (by decide); omega) (by decide) (v := ((tTarg t) i)) rfl dX4_isFirst_18 ?_
          refine lv_aload_n hx hb dX4_isFirst_19 rfl (lv_at hl 0 rfl) ?_
          refine va_get (D := gD Γ) (cl := vwCl) (tys := gTy Γ) (ci := 4) (v := .ref (a (b + 2))) (C := RX4) (T := TX4) (N := 5) hx hb hts iX4_isFirst_4 hown hK hP 0 rfl rfl 1 (Nat.le_of_ble_eq_true rfl) (hts (.fieldLink RX4 15 "DeadTimeLoop$Text" "targets" "[I") (List.mem_of_getElem? (i := 1) rfl)) (fun _ h9 => h9) rfl dX4_isFirst_20 ?_
          refine lv_iload_n hx hb dX4_isFirst_23 rfl (lv_at hl 1 rfl) ?_
          refine ka_iald (D := gD Γ) (cl := vwCl) (tys := gTy Γ) hx hb hK hP 2 0 rfl rfl (a1.toNatClampNeg) (nI_of_in (in_rng (n := 16) (by decide) ha0 c_10) (by decide)) (in_lt (in_rng (n := 16) (by decide) ha0 c_10)) (by decide) (v := ((tTarg t) a1.toNatClampNeg)) rfl dX4_isFirst_24 ?_
          refine lv_icmp_ne (tgt := 30) hx hb dX4_isFirst_25 (by decide) (fun c_25 => ?_) (fun c_25 => ?_)
          · -- yes
            refine lv_iinc (v := (y + 1)) (lv' := [(2, .int (y + 1)), (0, .ref (a b)), (1, .int a1)]) hx hb dX4_isFirst_30 hl (k := 2) rfl rfl (by decide) rfl (fun ls hl => ?_)
            refine lv_goto (tgt := 2) hx hb dX4_isFirst_33 (by decide) ?_
            exact ih (i + 1) _ (by rw [ey]; exact nI_1 i) (by have := lt_of_nle (i := i) (k := A0) (by rw [← hA0, ← ey]; exact c_4) (by omega) hA2; have h2 := lt_of_nle (i := A0) (k := 16) (by rw [← hA0]; exact c_10) hA2 (by decide); omega) (by omega) (by rw [← hg, fFirstN_s]; subst ey; (try first | rw [if_pos c_4] | rw [if_neg c_4]); (try first | rw [if_pos c_10] | rw [if_neg c_10]); (try first | rw [if_pos c_25] | rw [if_neg c_25])) _ _ _ hP hD hS (lv_sub hl [1, 2, 0] rfl)
          · -- no
            refine lv_iconst (v := 0) hx hb dX4_isFirst_28 (by decide) ?_
            exact re_z hQ ha hx hb hr hlk hAe hP hS dX4_isFirst_29 rfl (by rw [← hg, fFirstN_s]; subst ey; (try first | rw [if_pos c_4] | rw [if_neg c_4]); (try first | rw [if_pos c_10] | rw [if_neg c_10]); (try first | rw [if_pos c_25] | rw [if_neg c_25])) rfl
  exact hJ_2 17 0 0 rfl (by omega) (by omega) rfl _ _ _ hP hD hS (lv_sub hl [1, 2, 0] rfl)
def rm_X4_different : Room := { frames := 1, cells := 0, slots := 0, locals := 22 }
theorem iX4_different_4 : ∀ w ∈ u_ws RX4 TX4 5, w ∈ wsX4_different := fun w h => (List.mem_cons_of_mem _ (List.mem_append_right _ h))
set_option maxHeartbeats 1000000 in
set_option maxRecDepth 100000 in
theorem c_X4_different (Γ : gT) (l : Launch) (a : Nat → Nat) (b : Nat) (t : Txt) (C : Nat) (hC : tCnt t = nI C) (hC2 : C ≤ 16) : Ci Γ l yX4_different wsX4_different rm_X4_different [.ref (a b)] (txtW Γ a b t) (fDiffer t) (txtW Γ a b t) := by
  refine Ci.of (cc := cX4_different) (own := RX4) (nL := 3) (ret := (some .int)) (by decide +kernel) rfl rfl (Nat.le_of_ble_eq_true rfl) ?_
  intro p e s m args below meth c A Q H locs ls ha hAe hQ hx hb hml hr hts hown hlk hP hK hD hS hA hG hl
  have hh : Hd Γ p s m args c cX4_different RX4 3 wsX4_different A := ⟨⟨hx, hb, hml, hown, hts⟩, hK, hA, hG⟩
  have hl : lv_has ls 3 [(0, .ref (a b))] := hl
  refine lv_iconst (v := 0) hx hb dX4_different_0 (by decide) ?_
  refine lv_istore_n (lv' := [(1, .int 0), (0, .ref (a b))]) hx hb dX4_different_1 rfl hl (by decide) rfl (fun ls hl => ?_)
  refine lv_iconst (v := 0) hx hb dX4_different_2 (by decide) ?_
  refine lv_istore_n (lv' := [(2, .int 0), (1, .int 0), (0, .ref (a b))]) hx hb dX4_different_3 rfl hl (by decide) rfl (fun ls hl => ?_)
  have hJ_4 : ∀ n : Nat, ∀ (i : Nat) (y : Int32) (f : Int32), (y = nI i) → (i ≤ 16) → (17 ≤ i + n) → (fDiffN (tTarg t) (tCnt t) n i f = fDiffer t) → ∀ (H : Heap) (locs : List Loc) (ls : Array Slot), va_P (gD Γ) vwCl (txtW Γ a b t) H → va_D A (txtW Γ a b t) → va_S A s.heap H locs → lv_has ls 3 [(0, .ref (a b)), (1, .int f), (2, .int y)] → W p l e rm_X4_different s m args below meth c H locs 0 0 Q (F0 m 4 ls []) := by
    intro n
    induction n with
    | zero =>
      intro i y f ey hi hn hg
      omega
    | succ n ih =>
      intro i y f ey hi hn hg H locs ls hP hD hS hl
      refine lv_iload_n hx hb dX4_different_4 rfl (lv_at hl 2 rfl) ?_
      refine lv_aload_n hx hb dX4_different_5 rfl (lv_at hl 0 rfl) ?_
      refine va_get (D := gD Γ) (cl := vwCl) (tys := gTy Γ) (ci := 4) (v := .int (tCnt t)) (C := RX4) (T := TX4) (N := 5) hx hb hts iX4_different_4 hown hK hP 0 rfl rfl 4 (Nat.le_of_ble_eq_true rfl) (hts (.fieldLink RX4 26 "DeadTimeLoop$Text" "count" "I") (List.mem_of_getElem? (i := 1) rfl)) (fun _ h9 => h9) rfl dX4_different_6 ?_
      refine lv_icmp_ge (tgt := 29) hx hb dX4_different_9 (by decide) (fun c_9 => ?_) (fun c_9 => ?_)
      · -- yes
        refine lv_iload_n hx hb dX4_different_29 rfl (lv_at hl 1 rfl) ?_
        exact re_i hQ ha hx hb hr hlk hAe hP hS dX4_different_30 (by rw [← hg, fDiffN_s]; subst ey; (try first | rw [if_pos c_9] | rw [if_neg c_9])) rfl
      · -- no
        refine lv_aload_n hx hb dX4_different_12 rfl (lv_at hl 0 rfl) ?_
        refine lv_iload_n hx hb dX4_different_13 rfl (lv_at hl 2 rfl) ?_
        refine ca_Via hh hl.1 (c_X4_isFirst Γ l a b t y (by rw [ey]; exact nI_pos (by omega))) (cwV 1 hts gX4_different_X4_isFirst rfl rfl rfl (by decide +kernel) ⟨(Nat.le_of_ble_eq_true rfl), (Nat.le_of_ble_eq_true rfl)⟩) (As := [.int y]) (rest := []) rfl dX4_different_14 rfl (Nat.le_of_ble_eq_true rfl) hP hD hS (q0 := 0) (ci := 4) rfl rfl rfl (wf := txtW Γ a b t) rfl ⟨Nat.zero_le _, Nat.zero_le _⟩ (fun H locs hP hD hS => ?_)
        refine lv_if_eq (tgt := 23) hx hb dX4_different_17 (by decide) (fun c_17 => ?_) (fun c_17 => ?_)
        · -- yes
          refine lv_iinc (v := (y + 1)) (lv' := [(2, .int (y + 1)), (0, .ref (a b)), (1, .int f)]) hx hb dX4_different_23 hl (k := 2) rfl rfl (by decide) rfl (fun ls hl => ?_)
          refine lv_goto (tgt := 4) hx hb dX4_different_26 (by decide) ?_
          exact ih (i + 1) _ _ (by rw [ey]; exact nI_1 i) (by have := lt_of_nle (i := i) (k := C) (by rw [← hC, ← ey]; exact c_9) (by omega) (by omega); omega) (by omega) (by rw [← hg, fDiffN_s]; subst ey; (try first | rw [if_pos c_9] | rw [if_neg c_9]); (try first | rw [if_pos c_17] | rw [if_neg c_17])) _ _ _ hP hD hS (lv_sub hl [1, 2, 0] rfl)
        · -- no
          refine lv_iinc (v := (f + 1)) (lv' := [(1, .int (f + 1)), (0, .ref (a b)), (2, .int y)]) hx hb dX4_different_20 hl (k := 1) rfl rfl (by decide) rfl (fun ls hl => ?_)
          refine lv_iinc (v := (y + 1)) (lv' := [(2, .int (y + 1)), (1, .int (f + 1)), (0, .ref (a b))]) hx hb dX4_different_23 hl (k := 2) rfl rfl (by decide) rfl (fun ls hl => ?_)
          refine lv_goto (tgt := 4) hx hb dX4_different_26 (by decide) ?_
          exact ih (i + 1) _ _ (by rw [ey]; exact nI_1 i) (by have := lt_of_nle (i := i) (k := C) (by rw [← hC, ← ey]; exact c_9) (by omega) (by omega); omega) (by omega) (by rw [← hg, fDiffN_s]; subst ey; (try first | rw [if_pos c_9] | rw [if_neg c_9]); (try first | rw [if_pos c_17] | rw [if_neg c_17])) _ _ _ hP hD hS (lv_sub hl [2, 1, 0] rfl)
  exact hJ_4 17 0 0 0 rfl (by omega) (by omega) rfl _ _ _ hP hD hS (lv_sub hl [2, 1, 0] rfl)
def rm_X4_differentAt : Room := { frames := 1, cells := 0, slots := 0, locals := 22 }
theorem iX4_differentAt_4 : ∀ w ∈ u_ws RX4 TX4 5, w ∈ wsX4_differentAt := fun w h => (List.mem_cons_of_mem _ (List.mem_append_right _ h))
set_option maxHeartbeats 1000000 in
set_option maxRecDepth 100000 in
theorem c_X4_differentAt (Γ : gT) (l : Launch) (a : Nat → Nat) (b : Nat) (t : Txt) (idx : Int32) (C : Nat) (hC : tCnt t = nI C) (hC2 : C ≤ 16) : Ci Γ l yX4_differentAt wsX4_differentAt rm_X4_differentAt [.ref (a b), .int idx] (txtW Γ a b t) (fDat t idx) (txtW Γ a b t) := by
  refine Ci.of (cc := cX4_differentAt) (own := RX4) (nL := 4) (ret := (some .int)) (by decide +kernel) rfl rfl (Nat.le_of_ble_eq_true rfl) ?_
  intro p e s m args below meth c A Q H locs ls ha hAe hQ hx hb hml hr hts hown hlk hP hK hD hS hA hG hl
  have hh : Hd Γ p s m args c cX4_differentAt RX4 4 wsX4_differentAt A := ⟨⟨hx, hb, hml, hown, hts⟩, hK, hA, hG⟩
  have hl : lv_has ls 4 [(0, .ref (a b)), (1, .int idx)] := hl
  refine lv_iconst (v := 0) hx hb dX4_differentAt_0 (by decide) ?_
  refine lv_istore_n (lv' := [(2, .int 0), (0, .ref (a b)), (1, .int idx)]) hx hb dX4_differentAt_1 rfl hl (by decide) rfl (fun ls hl => ?_)
  refine lv_iconst (v := 0) hx hb dX4_differentAt_2 (by decide) ?_
  refine lv_istore_n (lv' := [(3, .int 0), (2, .int 0), (0, .ref (a b)), (1, .int idx)]) hx hb dX4_differentAt_3 rfl hl (by decide) rfl (fun ls hl => ?_)
  have hJ_4 : ∀ n : Nat, ∀ (i : Nat) (y : Int32) (f : Int32), (y = nI i) → (i ≤ 16) → (17 ≤ i + n) → (fDatN (tTarg t) (tCnt t) idx n i f = fDat t idx) → ∀ (H : Heap) (locs : List Loc) (ls : Array Slot), va_P (gD Γ) vwCl (txtW Γ a b t) H → va_D A (txtW Γ a b t) → va_S A s.heap H locs → lv_has ls 4 [(0, .ref (a b)), (1, .int idx), (2, .int f), (3, .int y)] → W p l e rm_X4_differentAt s m args below meth c H locs 0 0 Q (F0 m 4 ls []) := by
    intro n
    induction n with
    | zero =>
      intro i y f ey hi hn hg
      omega
    | succ n ih =>
      intro i y f ey hi hn hg H locs ls hP hD hS hl
      refine lv_iload_n hx hb dX4_differentAt_4 rfl (lv_at hl 3 rfl) ?_
      refine lv_aload_n hx hb dX4_differentAt_5 rfl (lv_at hl 0 rfl) ?_
      refine va_get (D := gD Γ) (cl := vwCl) (tys := gTy Γ) (ci := 4) (v := .int (tCnt t)) (C := RX4) (T := TX4) (N := 5) hx hb hts iX4_differentAt_4 hown hK hP 0 rfl rfl 4 (Nat.le_of_ble_eq_true rfl) (hts (.fieldLink RX4 26 "DeadTimeLoop$Text" "count" "I") (List.mem_of_getElem? (i := 1) rfl)) (fun _ h9 => h9) rfl dX4_differentAt_6 ?_
      refine lv_icmp_ge (tgt := 47) hx hb dX4_differentAt_9 (by decide) (fun c_9 => ?_) (fun c_9 => ?_)
      · -- yes
        refine lv_iconst (v := (-1)) hx hb dX4_differentAt_47 (by decide) ?_
        exact re_i hQ ha hx hb hr hlk hAe hP hS dX4_differentAt_48 (by rw [← hg, fDatN_s]; subst ey; (try first | rw [if_pos c_9] | rw [if_neg c_9])) rfl
      · -- no
        refine lv_iload_n hx hb dX4_differentAt_12 rfl (lv_at hl 3 rfl) ?_
        refine lv_bipush (v := 16) hx hb dX4_differentAt_13 (by decide) ?_
        refine lv_icmp_ge (tgt := 47) hx hb dX4_differentAt_15 (by decide) (fun c_15 => ?_) (fun c_15 => ?_)
        · -- yes
          refine lv_iconst (v := (-1)) hx hb dX4_differentAt_47 (by decide) ?_
          exact re_i hQ ha hx hb hr hlk hAe hP hS dX4_differentAt_48 (by rw [← hg, fDatN_s]; subst ey; (try first | rw [if_pos c_9] | rw [if_neg c_9]); (try first | rw [if_pos c_15] | rw [if_neg c_15])) rfl
        · -- no
          refine lv_aload_n hx hb dX4_differentAt_18 rfl (lv_at hl 0 rfl) ?_
          refine lv_iload_n hx hb dX4_differentAt_19 rfl (lv_at hl 3 rfl) ?_
          refine ca_Via hh hl.1 (c_X4_isFirst Γ l a b t y (by rw [ey]; exact nI_pos (by omega))) (cwV 1 hts gX4_differentAt_X4_isFirst rfl rfl rfl (by decide +kernel) ⟨(Nat.le_of_ble_eq_true rfl), (Nat.le_of_ble_eq_true rfl)⟩) (As := [.int y]) (rest := []) rfl dX4_differentAt_20 rfl (Nat.le_of_ble_eq_true rfl) hP hD hS (q0 := 0) (ci := 4) rfl rfl rfl (wf := txtW Γ a b t) rfl ⟨Nat.zero_le _, Nat.zero_le _⟩ (fun H locs hP hD hS => ?_)
          refine lv_if_eq (tgt := 41) hx hb dX4_differentAt_23 (by decide) (fun c_23 => ?_) (fun c_23 => ?_)
          · -- yes
            refine lv_iinc (v := (y + 1)) (lv' := [(3, .int (y + 1)), (0, .ref (a b)), (1, .int idx), (2, .int f)]) hx hb dX4_differentAt_41 hl (k := 3) rfl rfl (by decide) rfl (fun ls hl => ?_)
            refine lv_goto (tgt := 4) hx hb dX4_differentAt_44 (by decide) ?_
            exact ih (i + 1) _ _ (by rw [ey]; exact nI_1 i) (by have := lt_of_nle (i := i) (k := C) (by rw [← hC, ← ey]; exact c_9) (by omega) (by omega); omega) (by omega) (by rw [← hg, fDatN_s]; subst ey; (try first | rw [if_pos c_9] | rw [if_neg c_9]); (try first | rw [if_pos c_15] | rw [if_neg c_15]); (try first | rw [if_pos c_23] | rw [if_neg c_23])) _ _ _ hP hD hS (lv_sub hl [1, 2, 3, 0] rfl)
          · -- no
            refine lv_iload_n hx hb dX4_differentAt_26 rfl (lv_at hl 2 rfl) ?_
            refine lv_iload_n hx hb dX4_differentAt_27 rfl (lv_at hl 1 rfl) ?_
            refine lv_icmp_ne (tgt := 38) hx hb dX4_differentAt_28 (by decide) (fun c_28 => ?_) (fun c_28 => ?_)
            · -- yes
              refine lv_iinc (v := (f + 1)) (lv' := [(2, .int (f + 1)), (0, .ref (a b)), (1, .int idx), (3, .int y)]) hx hb dX4_differentAt_38 hl (k := 2) rfl rfl (by decide) rfl (fun ls hl => ?_)
              refine lv_iinc (v := (y + 1)) (lv' := [(3, .int (y + 1)), (2, .int (f + 1)), (0, .ref (a b)), (1, .int idx)]) hx hb dX4_differentAt_41 hl (k := 3) rfl rfl (by decide) rfl (fun ls hl => ?_)
              refine lv_goto (tgt := 4) hx hb dX4_differentAt_44 (by decide) ?_
              exact ih (i + 1) _ _ (by rw [ey]; exact nI_1 i) (by have := lt_of_nle (i := i) (k := C) (by rw [← hC, ← ey]; exact c_9) (by omega) (by omega); omega) (by omega) (by rw [← hg, fDatN_s]; subst ey; (try first | rw [if_pos c_9] | rw [if_neg c_9]); (try first | rw [if_pos c_15] | rw [if_neg c_15]); (try first | rw [if_pos c_23] | rw [if_neg c_23]); (try first | rw [if_pos c_28] | rw [if_neg c_28])) _ _ _ hP hD hS (lv_sub hl [2, 3, 1, 0] rfl)
            · -- no
              refine lv_aload_n hx hb dX4_differentAt_31 rfl (lv_at hl 0 rfl) ?_
              refine va_get (D := gD Γ) (cl := vwCl) (tys := gTy Γ) (ci := 4) (v := .ref (a (b + 2))) (C := RX4) (T := TX4) (N := 5) hx hb hts iX4_differentAt_4 hown hK hP 0 rfl rfl 1 (Nat.le_of_ble_eq_true rfl) (hts (.fieldLink RX4 15 "DeadTimeLoop$Text" "targets" "[I") (List.mem_of_getElem? (i := 2) rfl)) (fun _ h9 => h9) rfl dX4_differentAt_32 ?_
              refine lv_iload_n hx hb dX4_differentAt_35 rfl (lv_at hl 3 rfl) ?_
              refine ka_iald (D := gD Γ) (cl := vwCl) (tys := gTy Γ) hx hb hK hP 2 0 rfl rfl i ey (lt_of_nle (k := 16) (by rw [← ey]; exact c_15) (by omega) (by decide)) (by decide) (v := ((tTarg t) i)) rfl dX4_differentAt_36 ?_
              exact re_i hQ ha hx hb hr hlk hAe hP hS dX4_differentAt_37 (by rw [← hg, fDatN_s]; subst ey; (try first | rw [if_pos c_9] | rw [if_neg c_9]); (try first | rw [if_pos c_15] | rw [if_neg c_15]); (try first | rw [if_pos c_23] | rw [if_neg c_23]); (try first | rw [if_pos c_28] | rw [if_neg c_28])) rfl
  exact hJ_4 17 0 0 0 rfl (by omega) (by omega) rfl _ _ _ hP hD hS (lv_sub hl [2, 3, 1, 0] rfl)
def rm_X4_assignTo : Room := { frames := 2, cells := 0, slots := 0, locals := 42 }
theorem iX4_assignTo_4 : ∀ w ∈ u_ws RX4 TX4 5, w ∈ wsX4_assignTo := fun w h => (List.mem_cons_of_mem _ (List.mem_append_left _ (List.mem_append_right _ h)))
set_option maxHeartbeats 1000000 in
set_option maxRecDepth 100000 in
theorem c_X4_assignTo (Γ : gT) (l : Launch) (a : Nat → Nat) (b : Nat) (a2 : Nat → Nat) (b2 : Nat) (t : Txt) (v : Sett)  : Cv Γ l yX4_assignTo wsX4_assignTo rm_X4_assignTo [.ref (a b), .ref (a2 b2)] (txtW Γ a b t ++ setW Γ a2 b2 v) (txtW Γ a b t ++ setW Γ a2 b2 (fAsg t v)) := by
  refine Cv.of (cc := cX4_assignTo) (own := RX4) (nL := 3) (ret := none) (by decide +kernel) rfl rfl (Nat.le_of_ble_eq_true rfl) ?_
  intro p e s m args below meth c A Q H locs ls ha hAe hQ hx hb hml hr hts hown hlk hP hK hD hS hA hG hl
  have hh : Hd Γ p s m args c cX4_assignTo RX4 3 wsX4_assignTo A := ⟨⟨hx, hb, hml, hown, hts⟩, hK, hA, hG⟩
  have hl : lv_has ls 3 [(0, .ref (a b)), (1, .ref (a2 b2))] := hl
  refine lv_iconst (v := 0) hx hb dX4_assignTo_0 (by decide) ?_
  refine lv_istore_n (lv' := [(2, .int 0), (0, .ref (a b)), (1, .ref (a2 b2))]) hx hb dX4_assignTo_1 rfl hl (by decide) rfl (fun ls hl => ?_)
  have hJ_2 : ∀ n : Nat, ∀ (i : Nat) (y : Int32) (v1 : Sett), (y = nI i) → (i ≤ 16) → (17 ≤ i + n) → (fAsgN t n i v1 = fAsg t v) → ∀ (H : Heap) (locs : List Loc) (ls : Array Slot), va_P (gD Γ) vwCl (txtW Γ a b t ++ setW Γ a2 b2 v1) H → va_D A (txtW Γ a b t ++ setW Γ a2 b2 v1) → va_S A s.heap H locs → lv_has ls 3 [(0, .ref (a b)), (1, .ref (a2 b2)), (2, .int y)] → W p l e rm_X4_assignTo s m args below meth c H locs 0 0 Q (F0 m 2 ls []) := by
    intro n
    induction n with
    | zero =>
      intro i y v1 ey hi hn hg
      omega
    | succ n ih =>
      intro i y v1 ey hi hn hg H locs ls hP hD hS hl
      refine lv_iload_n hx hb dX4_assignTo_2 rfl (lv_at hl 2 rfl) ?_
      refine lv_aload_n hx hb dX4_assignTo_3 rfl (lv_at hl 0 rfl) ?_
      refine va_get (D := gD Γ) (cl := vwCl) (tys := gTy Γ) (ci := 4) (v := .int (tCnt t)) (C := RX4) (T := TX4) (N := 5) hx hb hts iX4_assignTo_4 hown hK hP 0 rfl rfl 4 (Nat.le_of_ble_eq_true rfl) (hts (.fieldLink RX4 26 "DeadTimeLoop$Text" "count" "I") (List.mem_of_getElem? (i := 1) rfl)) (fun _ h9 => h9) rfl dX4_assignTo_4 ?_
      refine lv_icmp_ge (tgt := 38) hx hb dX4_assignTo_7 (by decide) (fun c_7 => ?_) (fun c_7 => ?_)
      · -- yes
        exact re_v hQ ha hx hb hr hlk hAe hP hS dX4_assignTo_38 (by rw [← hg, fAsgN_s]; subst ey; (try first | rw [if_pos c_7] | rw [if_neg c_7]))
      · -- no
        refine lv_iload_n hx hb dX4_assignTo_10 rfl (lv_at hl 2 rfl) ?_
        refine lv_bipush (v := 16) hx hb dX4_assignTo_11 (by decide) ?_
        refine lv_icmp_ge (tgt := 38) hx hb dX4_assignTo_13 (by decide) (fun c_13 => ?_) (fun c_13 => ?_)
        · -- yes
          exact re_v hQ ha hx hb hr hlk hAe hP hS dX4_assignTo_38 (by rw [← hg, fAsgN_s]; subst ey; (try first | rw [if_pos c_7] | rw [if_neg c_7]); (try first | rw [if_pos c_13] | rw [if_neg c_13]))
        · -- no
          refine lv_aload_n hx hb dX4_assignTo_16 rfl (lv_at hl 1 rfl) ?_
          refine lv_aload_n hx hb dX4_assignTo_17 rfl (lv_at hl 0 rfl) ?_
          refine va_get (D := gD Γ) (cl := vwCl) (tys := gTy Γ) (ci := 4) (v := .ref (a (b + 2))) (C := RX4) (T := TX4) (N := 5) hx hb hts iX4_assignTo_4 hown hK hP 0 rfl rfl 1 (Nat.le_of_ble_eq_true rfl) (hts (.fieldLink RX4 15 "DeadTimeLoop$Text" "targets" "[I") (List.mem_of_getElem? (i := 2) rfl)) (fun _ h9 => h9) rfl dX4_assignTo_18 ?_
          refine lv_iload_n hx hb dX4_assignTo_21 rfl (lv_at hl 2 rfl) ?_
          refine ka_iald (D := gD Γ) (cl := vwCl) (tys := gTy Γ) hx hb hK hP 2 0 rfl rfl i ey (lt_of_nle (k := 16) (by rw [← ey]; exact c_13) (by omega) (by decide)) (by decide) (v := ((tTarg t) i)) rfl dX4_assignTo_22 ?_
          refine lv_aload_n hx hb dX4_assignTo_23 rfl (lv_at hl 0 rfl) ?_
          refine va_get (D := gD Γ) (cl := vwCl) (tys := gTy Γ) (ci := 4) (v := .ref (a (b + 3))) (C := RX4) (T := TX4) (N := 5) hx hb hts iX4_assignTo_4 hown hK hP 0 rfl rfl 2 (Nat.le_of_ble_eq_true rfl) (hts (.fieldLink RX4 19 "DeadTimeLoop$Text" "wanted" "[I") (List.mem_of_getElem? (i := 3) rfl)) (fun _ h9 => h9) rfl dX4_assignTo_24 ?_
          refine lv_iload_n hx hb dX4_assignTo_27 rfl (lv_at hl 2 rfl) ?_
          refine ka_iald (D := gD Γ) (cl := vwCl) (tys := gTy Γ) hx hb hK hP 3 0 rfl rfl i ey (lt_of_nle (k := 16) (by rw [← ey]; exact c_13) (by omega) (by decide)) (by decide) (v := ((tWant t) i)) rfl dX4_assignTo_28 ?_
          obtain ⟨u_29, eu_29⟩ : ∃ z : Sett, z = fSet v1 ((tTarg t) i) ((tWant t) i) := ⟨_, rfl⟩
          have hM_29 : Cv Γ l yX3_set wsX3_set rm_X3_set [.ref (a2 b2), .int ((tTarg t) i), .int ((tWant t) i)] (setW Γ a2 b2 v1) (setW Γ a2 b2 u_29) := by rw [eu_29]; exact c_X3_set Γ l a2 b2 v1 ((tTarg t) i) ((tWant t) i)
          refine ca_Vv hh hl.1 hM_29 (cwV 2 hts gX4_assignTo_X3_set rfl rfl rfl (by decide +kernel) ⟨(Nat.le_of_ble_eq_true rfl), (Nat.le_of_ble_eq_true rfl)⟩) (As := [.int ((tTarg t) i), .int ((tWant t) i)]) (rest := []) rfl dX4_assignTo_29 rfl (Nat.le_of_ble_eq_true rfl) hP hD hS [4, 5] rfl rfl (q0 := 4) (ci := 3) rfl rfl rfl 2 rfl rfl (wf := txtW Γ a b t ++ setW Γ a2 b2 u_29) rfl rfl ⟨Nat.zero_le _, Nat.zero_le _⟩ (fun H locs hP hD hS => ?_)
          refine lv_iinc (v := (y + 1)) (lv' := [(2, .int (y + 1)), (0, .ref (a b)), (1, .ref (a2 b2))]) hx hb dX4_assignTo_32 hl (k := 2) rfl rfl (by decide) rfl (fun ls hl => ?_)
          refine lv_goto (tgt := 2) hx hb dX4_assignTo_35 (by decide) ?_
          exact ih (i + 1) _ u_29 (by rw [ey]; exact nI_1 i) (by have := lt_of_nle (i := i) (k := 16) (by rw [← ey]; exact c_13) (by omega) (by decide); omega) (by omega) (by rw [← hg, fAsgN_s]; subst ey; (try first | rw [if_pos c_7] | rw [if_neg c_7]); (try first | rw [if_pos c_13] | rw [if_neg c_13]); rw [eu_29]) _ _ _ hP hD hS (lv_sub hl [1, 2, 0] rfl)
  exact hJ_2 17 0 0 v rfl (by omega) (by omega) rfl _ _ _ hP hD hS (lv_sub hl [1, 2, 0] rfl)
def rm_X6_fault : Room := { frames := 8, cells := 0, slots := 0, locals := 179 }
theorem iX6_fault_6 : ∀ w ∈ u_ws RX6 TX6 11, w ∈ wsX6_fault := fun w h => (List.mem_cons_of_mem _ (List.mem_append_left _ (List.mem_append_right _ h)))
set_option maxHeartbeats 1000000 in
set_option maxRecDepth 100000 in
theorem c_X6_fault (Γ : gT) (l : Launch) (a : Nat → Nat) (x : Xst) (L : Nat) (hL : tLen (xTxt x) = nI L) (hL2 : L ≤ 80) : Ci Γ l yX6_fault wsX6_fault rm_X6_fault [.ref (a 0)] (xW Γ a x) (rFault x) (xW Γ a (gFault x)) := by
  refine Ci.of (cc := cX6_fault) (own := RX6) (nL := 2) (ret := (some .int)) (by decide +kernel) rfl rfl (Nat.le_of_ble_eq_true rfl) ?_
  intro p e s m args below meth c A Q H locs ls ha hAe hQ hx hb hml hr hts hown hlk hP hK hD hS hA hG hl
  have hh : Hd Γ p s m args c cX6_fault RX6 2 wsX6_fault A := ⟨⟨hx, hb, hml, hown, hts⟩, hK, hA, hG⟩
  have hl : lv_has ls 2 [(0, .ref (a 0))] := hl
  refine lv_aload_n hx hb dX6_fault_0 rfl (lv_at hl 0 rfl) ?_
  refine va_get (D := gD Γ) (cl := vwCl) (tys := gTy Γ) (ci := 6) (v := .ref (a 11)) (C := RX6) (T := TX6) (N := 11) hx hb hts iX6_fault_6 hown hK hP 0 rfl rfl 2 (Nat.le_of_ble_eq_true rfl) (hts (.fieldLink RX6 26 "DeadTimeLoop" "text" "LDeadTimeLoop$Text;") (List.mem_of_getElem? (i := 1) rfl)) (fun _ h9 => h9) rfl dX6_fault_1 ?_
  obtain ⟨u_4, eu_4⟩ : ∃ z : Txt, z = (fRead (xTxt x)).2 := ⟨_, rfl⟩
  have hM_4 : Ci Γ l yX4_read wsX4_read rm_X4_read [.ref (a 11)] (txtW Γ a 11 (xTxt x)) ((fRead (xTxt x)).1) (txtW Γ a 11 u_4) := by rw [eu_4]; exact c_X4_read Γ l a 11 (xTxt x) L hL hL2
  refine ca_Vi hh hl.1 hM_4 (cwV 0 hts gX6_fault_X4_read rfl rfl rfl (by decide +kernel) ⟨(Nat.le_of_ble_eq_true rfl), (Nat.le_of_ble_eq_true rfl)⟩) (As := []) (rest := []) rfl dX6_fault_4 rfl (Nat.le_of_ble_eq_true rfl) hP hD hS [11, 12, 13, 14] rfl (xB_at_text Γ a _) (q0 := 11) (ci := 4) rfl rfl rfl 4 rfl rfl (wf := xW Γ a ((xSet x), (xChg x), u_4, (xLoop x), (xFst x), (xSnd x), (xCnt x), (xTs x), (xIs x), (xTrial x), (xIdeal x))) (xB_up_text Γ a _ _) (xW_addr _ _ _ _) ⟨Nat.zero_le _, Nat.zero_le _⟩ (fun H locs hP hD hS => ?_)
  refine lv_istore_n (lv' := [(1, .int ((fRead (xTxt x)).1)), (0, .ref (a 0))]) hx hb dX6_fault_7 rfl hl (by decide) rfl (fun ls hl => ?_)
  refine lv_iload_n hx hb dX6_fault_8 rfl (lv_at hl 0 rfl) ?_
  refine lv_iconst (v := (-1)) hx hb dX6_fault_9 (by decide) ?_
  refine lv_icmp_ne (tgt := 18) hx hb dX6_fault_10 (by decide) (fun c_10 => ?_) (fun c_10 => ?_)
  · -- yes
    refine lv_iload_n hx hb dX6_fault_18 rfl (lv_at hl 0 rfl) ?_
    exact re_i hQ ha hx hb hr hlk hAe hP hS dX6_fault_19 (by simp only [rFault, c_10, if_true, if_false]) (by simp only [gFault, xPut_text, ← eu_4])
  · -- no
    refine lv_ldc hx hb hown (hts (.constant RX6 94 (-2000000004)) (List.mem_of_getElem? (i := 2) rfl)) dX6_fault_13 ?_
    refine lv_goto (tgt := 19) hx hb dX6_fault_15 (by decide) ?_
    exact re_i hQ ha hx hb hr hlk hAe hP hS dX6_fault_19 (by simp only [rFault, c_10, if_true, if_false]) (by simp only [gFault, xPut_text, ← eu_4])
def rm_X6_apply : Room := { frames := 8, cells := 0, slots := 0, locals := 179 }
theorem iX6_apply_4 : ∀ w ∈ u_ws RX4 TX4 5, w ∈ wsX6_apply := fun w h => (List.mem_cons_of_mem _ (List.mem_append_left _ (List.mem_append_left _ (List.mem_append_right _ h))))
theorem iX6_apply_6 : ∀ w ∈ u_ws RX6 TX6 11, w ∈ wsX6_apply := fun w h => (List.mem_cons_of_mem _ (List.mem_append_left _ (List.mem_append_left _ (List.mem_append_left _ (List.mem_append_right _ h)))))
set_option maxHeartbeats 1000000 in
set_option maxRecDepth 100000 in
theorem c_X6_apply (Γ : gT) (l : Launch) (a : Nat → Nat) (x : Xst) (L : Nat) (hL : tLen (xTxt x) = nI L) (hL2 : L ≤ 80) (hc : cOk (xChg x)) : Ci Γ l yX6_apply wsX6_apply rm_X6_apply [.ref (a 0)] (xW Γ a x) (rApply x) (xW Γ a (gApply x)) := by
  refine Ci.of (cc := cX6_apply) (own := RX6) (nL := 1) (ret := (some .int)) (by decide +kernel) rfl rfl (Nat.le_of_ble_eq_true rfl) ?_
  intro p e s m args below meth c A Q H locs ls ha hAe hQ hx hb hml hr hts hown hlk hP hK hD hS hA hG hl
  have hh : Hd Γ p s m args c cX6_apply RX6 1 wsX6_apply A := ⟨⟨hx, hb, hml, hown, hts⟩, hK, hA, hG⟩
  have hl : lv_has ls 1 [(0, .ref (a 0))] := hl
  refine lv_aload_n hx hb dX6_apply_0 rfl (lv_at hl 0 rfl) ?_
  refine va_get (D := gD Γ) (cl := vwCl) (tys := gTy Γ) (ci := 6) (v := .ref (a 11)) (C := RX6) (T := TX6) (N := 11) hx hb hts iX6_apply_6 hown hK hP 0 rfl rfl 2 (Nat.le_of_ble_eq_true rfl) (hts (.fieldLink RX6 26 "DeadTimeLoop" "text" "LDeadTimeLoop$Text;") (List.mem_of_getElem? (i := 1) rfl)) (fun _ h9 => h9) rfl dX6_apply_1 ?_
  obtain ⟨u_4, eu_4⟩ : ∃ z : Txt, z = (fRead (xTxt x)).2 := ⟨_, rfl⟩
  have hM_4 : Ci Γ l yX4_read wsX4_read rm_X4_read [.ref (a 11)] (txtW Γ a 11 (xTxt x)) ((fRead (xTxt x)).1) (txtW Γ a 11 u_4) := by rw [eu_4]; exact c_X4_read Γ l a 11 (xTxt x) L hL hL2
  refine ca_Vi hh hl.1 hM_4 (cwV 0 hts gX6_apply_X4_read rfl rfl rfl (by decide +kernel) ⟨(Nat.le_of_ble_eq_true rfl), (Nat.le_of_ble_eq_true rfl)⟩) (As := []) (rest := []) rfl dX6_apply_4 rfl (Nat.le_of_ble_eq_true rfl) hP hD hS [11, 12, 13, 14] rfl (xB_at_text Γ a _) (q0 := 11) (ci := 4) rfl rfl rfl 4 rfl rfl (wf := xW Γ a ((xSet x), (xChg x), u_4, (xLoop x), (xFst x), (xSnd x), (xCnt x), (xTs x), (xIs x), (xTrial x), (xIdeal x))) (xB_up_text Γ a _ _) (xW_addr _ _ _ _) ⟨Nat.zero_le _, Nat.zero_le _⟩ (fun H locs hP hD hS => ?_)
  refine lv_iconst (v := (-1)) hx hb dX6_apply_7 (by decide) ?_
  refine lv_icmp_ne (tgt := 21) hx hb dX6_apply_8 (by decide) (fun c_8 => ?_) (fun c_8 => ?_)
  · -- yes
    refine lv_ldc hx hb hown (hts (.constant RX6 98 (-2000000002)) (List.mem_of_getElem? (i := 3) rfl)) dX6_apply_21 ?_
    exact re_i hQ ha hx hb hr hlk hAe hP hS dX6_apply_23 (by simp only [rApply, ← eu_4, c_8, if_true, if_false]) (by simp only [gApply, xPut_text, xPut_settings, xPut_changes, ← eu_4, c_8, if_true, if_false])
  · -- no
    refine lv_aload_n hx hb dX6_apply_11 rfl (lv_at hl 0 rfl) ?_
    refine va_get (D := gD Γ) (cl := vwCl) (tys := gTy Γ) (ci := 6) (v := .ref (a 11)) (C := RX6) (T := TX6) (N := 11) hx hb hts iX6_apply_6 hown hK hP 0 rfl rfl 2 (Nat.le_of_ble_eq_true rfl) (hts (.fieldLink RX6 26 "DeadTimeLoop" "text" "LDeadTimeLoop$Text;") (List.mem_of_getElem? (i := 1) rfl)) (fun _ h9 => h9) rfl dX6_apply_12 ?_
    refine va_get (D := gD Γ) (cl := vwCl) (tys := gTy Γ) (ci := 4) (v := .int (tCnt u_4)) (C := RX4) (T := TX4) (N := 5) hx hb hts iX6_apply_4 hown hK hP 11 rfl rfl 4 (Nat.le_of_ble_eq_true rfl) (hts (.fieldLink RX6 124 "DeadTimeLoop$Text" "count" "I") (List.mem_of_getElem? (i := 2) rfl)) (fun _ h9 => h9) rfl dX6_apply_15 ?_
    refine lv_if_ne (tgt := 24) hx hb dX6_apply_18 (by decide) (fun c_18 => ?_) (fun c_18 => ?_)
    · -- yes
      refine lv_aload_n hx hb dX6_apply_24 rfl (lv_at hl 0 rfl) ?_
      refine va_get (D := gD Γ) (cl := vwCl) (tys := gTy Γ) (ci := 6) (v := .ref (a 3)) (C := RX6) (T := TX6) (N := 11) hx hb hts iX6_apply_6 hown hK hP 0 rfl rfl 1 (Nat.le_of_ble_eq_true rfl) (hts (.fieldLink RX6 19 "DeadTimeLoop" "changes" "LDeadTimeLoop$Changes;") (List.mem_of_getElem? (i := 4) rfl)) (fun _ h9 => h9) rfl dX6_apply_25 ?_
      refine lv_aload_n hx hb dX6_apply_28 rfl (lv_at hl 0 rfl) ?_
      refine va_get (D := gD Γ) (cl := vwCl) (tys := gTy Γ) (ci := 6) (v := .ref (a 1)) (C := RX6) (T := TX6) (N := 11) hx hb hts iX6_apply_6 hown hK hP 0 rfl rfl 0 (Nat.le_of_ble_eq_true rfl) (hts (.fieldLink RX6 12 "DeadTimeLoop" "settings" "LDeadTimeLoop$Settings;") (List.mem_of_getElem? (i := 5) rfl)) (fun _ h9 => h9) rfl dX6_apply_29 ?_
      obtain ⟨u_32, eu_32⟩ : ∃ z : Chg, z = cKeep (xChg x) (xSet x) := ⟨_, rfl⟩
      have hM_32 : Cv Γ l yX0_keep wsX0_keep rm_X0_keep [.ref (a 3), .ref (a 1)] (chgW Γ a 3 (xChg x) ++ setW Γ a 1 (xSet x)) (chgW Γ a 3 u_32 ++ setW Γ a 1 (xSet x)) := by rw [eu_32]; exact c_X0_keep Γ l a 3 a 1 (xChg x) (xSet x) hc
      refine ca_Vv hh hl.1 hM_32 (cwV 1 hts gX6_apply_X0_keep rfl rfl rfl (by decide +kernel) ⟨(Nat.le_of_ble_eq_true rfl), (Nat.le_of_ble_eq_true rfl)⟩) (As := [.ref (a 1)]) (rest := []) rfl dX6_apply_32 rfl (Nat.le_of_ble_eq_true rfl) hP hD hS ([3, 4, 5, 6, 7, 8, 9, 10] ++ [1, 2]) rfl (map_app2 (xB_at_changes Γ a _) (xB_at_settings Γ a _)) (q0 := 3) (ci := 0) rfl rfl rfl 10 rfl rfl (wf := xW Γ a ((xSet x), u_32, u_4, (xLoop x), (xFst x), (xSnd x), (xCnt x), (xTs x), (xIs x), (xTrial x), (xIdeal x))) ((va_upd_app [3, 4, 5, 6, 7, 8, 9, 10] _ _ [1, 2] _ rfl).trans ((congrArg (fun z => va_upd z [1, 2] _) (xB_up_changes Γ a _ _)).trans (xB_up_settings Γ a _ _))) (xW_addr _ _ _ _) ⟨Nat.zero_le _, Nat.zero_le _⟩ (fun H locs hP hD hS => ?_)
      refine lv_aload_n hx hb dX6_apply_35 rfl (lv_at hl 0 rfl) ?_
      refine va_get (D := gD Γ) (cl := vwCl) (tys := gTy Γ) (ci := 6) (v := .ref (a 11)) (C := RX6) (T := TX6) (N := 11) hx hb hts iX6_apply_6 hown hK hP 0 rfl rfl 2 (Nat.le_of_ble_eq_true rfl) (hts (.fieldLink RX6 26 "DeadTimeLoop" "text" "LDeadTimeLoop$Text;") (List.mem_of_getElem? (i := 1) rfl)) (fun _ h9 => h9) rfl dX6_apply_36 ?_
      refine lv_aload_n hx hb dX6_apply_39 rfl (lv_at hl 0 rfl) ?_
      refine va_get (D := gD Γ) (cl := vwCl) (tys := gTy Γ) (ci := 6) (v := .ref (a 1)) (C := RX6) (T := TX6) (N := 11) hx hb hts iX6_apply_6 hown hK hP 0 rfl rfl 0 (Nat.le_of_ble_eq_true rfl) (hts (.fieldLink RX6 12 "DeadTimeLoop" "settings" "LDeadTimeLoop$Settings;") (List.mem_of_getElem? (i := 5) rfl)) (fun _ h9 => h9) rfl dX6_apply_40 ?_
      obtain ⟨u_43, eu_43⟩ : ∃ z : Sett, z = fAsg u_4 (xSet x) := ⟨_, rfl⟩
      have hM_43 : Cv Γ l yX4_assignTo wsX4_assignTo rm_X4_assignTo [.ref (a 11), .ref (a 1)] (txtW Γ a 11 u_4 ++ setW Γ a 1 (xSet x)) (txtW Γ a 11 u_4 ++ setW Γ a 1 u_43) := by rw [eu_43]; exact c_X4_assignTo Γ l a 11 a 1 u_4 (xSet x)
      refine ca_Vv hh hl.1 hM_43 (cwV 1 hts gX6_apply_X4_assignTo rfl rfl rfl (by decide +kernel) ⟨(Nat.le_of_ble_eq_true rfl), (Nat.le_of_ble_eq_true rfl)⟩) (As := [.ref (a 1)]) (rest := []) rfl dX6_apply_43 rfl (Nat.le_of_ble_eq_true rfl) hP hD hS ([11, 12, 13, 14] ++ [1, 2]) rfl (map_app2 (xB_at_text Γ a _) (xB_at_settings Γ a _)) (q0 := 11) (ci := 4) rfl rfl rfl 6 rfl rfl (wf := xW Γ a (u_43, u_32, u_4, (xLoop x), (xFst x), (xSnd x), (xCnt x), (xTs x), (xIs x), (xTrial x), (xIdeal x))) ((va_upd_app [11, 12, 13, 14] _ _ [1, 2] _ rfl).trans ((congrArg (fun z => va_upd z [1, 2] _) (xB_up_text Γ a _ _)).trans (xB_up_settings Γ a _ _))) (xW_addr _ _ _ _) ⟨Nat.zero_le _, Nat.zero_le _⟩ (fun H locs hP hD hS => ?_)
      refine lv_aload_n hx hb dX6_apply_46 rfl (lv_at hl 0 rfl) ?_
      refine va_get (D := gD Γ) (cl := vwCl) (tys := gTy Γ) (ci := 6) (v := .ref (a 11)) (C := RX6) (T := TX6) (N := 11) hx hb hts iX6_apply_6 hown hK hP 0 rfl rfl 2 (Nat.le_of_ble_eq_true rfl) (hts (.fieldLink RX6 26 "DeadTimeLoop" "text" "LDeadTimeLoop$Text;") (List.mem_of_getElem? (i := 1) rfl)) (fun _ h9 => h9) rfl dX6_apply_47 ?_
      refine va_get (D := gD Γ) (cl := vwCl) (tys := gTy Γ) (ci := 4) (v := .int (tCnt u_4)) (C := RX4) (T := TX4) (N := 5) hx hb hts iX6_apply_4 hown hK hP 11 rfl rfl 4 (Nat.le_of_ble_eq_true rfl) (hts (.fieldLink RX6 124 "DeadTimeLoop$Text" "count" "I") (List.mem_of_getElem? (i := 2) rfl)) (fun _ h9 => h9) rfl dX6_apply_50 ?_
      exact re_i hQ ha hx hb hr hlk hAe hP hS dX6_apply_53 (by simp only [rApply, ← eu_4, c_8, c_18, if_true, if_false]) (by simp only [gApply, xPut_text, xPut_settings, xPut_changes, ← eu_4, ← eu_32, ← eu_43, c_8, c_18, if_true, if_false])
    · -- no
      refine lv_ldc hx hb hown (hts (.constant RX6 98 (-2000000002)) (List.mem_of_getElem? (i := 3) rfl)) dX6_apply_21 ?_
      exact re_i hQ ha hx hb hr hlk hAe hP hS dX6_apply_23 (by simp only [rApply, ← eu_4, c_8, c_18, if_true, if_false]) (by simp only [gApply, xPut_text, xPut_settings, xPut_changes, ← eu_4, c_8, c_18, if_true, if_false])
def rm_X6_assigned : Room := { frames := 8, cells := 0, slots := 0, locals := 179 }
theorem iX6_assigned_6 : ∀ w ∈ u_ws RX6 TX6 11, w ∈ wsX6_assigned := fun w h => (List.mem_cons_of_mem _ (List.mem_append_left _ (List.mem_append_right _ h)))
set_option maxHeartbeats 1000000 in
set_option maxRecDepth 100000 in
theorem c_X6_assigned (Γ : gT) (l : Launch) (a : Nat → Nat) (x : Xst) (L : Nat) (hL : tLen (xTxt x) = nI L) (hL2 : L ≤ 80) : Ci Γ l yX6_assigned wsX6_assigned rm_X6_assigned [.ref (a 0)] (xW Γ a x) (rAssigned x) (xW Γ a (gFault x)) := by
  refine Ci.of (cc := cX6_assigned) (own := RX6) (nL := 1) (ret := (some .int)) (by decide +kernel) rfl rfl (Nat.le_of_ble_eq_true rfl) ?_
  intro p e s m args below meth c A Q H locs ls ha hAe hQ hx hb hml hr hts hown hlk hP hK hD hS hA hG hl
  have hh : Hd Γ p s m args c cX6_assigned RX6 1 wsX6_assigned A := ⟨⟨hx, hb, hml, hown, hts⟩, hK, hA, hG⟩
  have hl : lv_has ls 1 [(0, .ref (a 0))] := hl
  refine lv_aload_n hx hb dX6_assigned_0 rfl (lv_at hl 0 rfl) ?_
  refine va_get (D := gD Γ) (cl := vwCl) (tys := gTy Γ) (ci := 6) (v := .ref (a 11)) (C := RX6) (T := TX6) (N := 11) hx hb hts iX6_assigned_6 hown hK hP 0 rfl rfl 2 (Nat.le_of_ble_eq_true rfl) (hts (.fieldLink RX6 26 "DeadTimeLoop" "text" "LDeadTimeLoop$Text;") (List.mem_of_getElem? (i := 1) rfl)) (fun _ h9 => h9) rfl dX6_assigned_1 ?_
  obtain ⟨u_4, eu_4⟩ : ∃ z : Txt, z = (fRead (xTxt x)).2 := ⟨_, rfl⟩
  have hM_4 : Ci Γ l yX4_read wsX4_read rm_X4_read [.ref (a 11)] (txtW Γ a 11 (xTxt x)) ((fRead (xTxt x)).1) (txtW Γ a 11 u_4) := by rw [eu_4]; exact c_X4_read Γ l a 11 (xTxt x) L hL hL2
  refine ca_Vi hh hl.1 hM_4 (cwV 0 hts gX6_assigned_X4_read rfl rfl rfl (by decide +kernel) ⟨(Nat.le_of_ble_eq_true rfl), (Nat.le_of_ble_eq_true rfl)⟩) (As := []) (rest := []) rfl dX6_assigned_4 rfl (Nat.le_of_ble_eq_true rfl) hP hD hS [11, 12, 13, 14] rfl (xB_at_text Γ a _) (q0 := 11) (ci := 4) rfl rfl rfl 4 rfl rfl (wf := xW Γ a ((xSet x), (xChg x), u_4, (xLoop x), (xFst x), (xSnd x), (xCnt x), (xTs x), (xIs x), (xTrial x), (xIdeal x))) (xB_up_text Γ a _ _) (xW_addr _ _ _ _) ⟨Nat.zero_le _, Nat.zero_le _⟩ (fun H locs hP hD hS => ?_)
  refine lv_iconst (v := (-1)) hx hb dX6_assigned_7 (by decide) ?_
  refine lv_icmp_ne (tgt := 21) hx hb dX6_assigned_8 (by decide) (fun c_8 => ?_) (fun c_8 => ?_)
  · -- yes
    refine lv_ldc hx hb hown (hts (.constant RX6 98 (-2000000002)) (List.mem_of_getElem? (i := 2) rfl)) dX6_assigned_21 ?_
    exact re_i hQ ha hx hb hr hlk hAe hP hS dX6_assigned_23 (by simp only [rAssigned, ← eu_4, c_8, if_true, if_false]) (by simp only [gFault, xPut_text, ← eu_4])
  · -- no
    obtain ⟨-, C, hC2, hC⟩ := (show tOk u_4 L from by rw [eu_4]; exact fRead_ok hL)
    refine lv_aload_n hx hb dX6_assigned_11 rfl (lv_at hl 0 rfl) ?_
    refine va_get (D := gD Γ) (cl := vwCl) (tys := gTy Γ) (ci := 6) (v := .ref (a 11)) (C := RX6) (T := TX6) (N := 11) hx hb hts iX6_assigned_6 hown hK hP 0 rfl rfl 2 (Nat.le_of_ble_eq_true rfl) (hts (.fieldLink RX6 26 "DeadTimeLoop" "text" "LDeadTimeLoop$Text;") (List.mem_of_getElem? (i := 1) rfl)) (fun _ h9 => h9) rfl dX6_assigned_12 ?_
    refine ca_Vi hh hl.1 (c_X4_different Γ l a 11 u_4 C hC hC2) (cwV 0 hts gX6_assigned_X4_different rfl rfl rfl (by decide +kernel) ⟨(Nat.le_of_ble_eq_true rfl), (Nat.le_of_ble_eq_true rfl)⟩) (As := []) (rest := []) rfl dX6_assigned_15 rfl (Nat.le_of_ble_eq_true rfl) hP hD hS [11, 12, 13, 14] rfl (xB_at_text Γ a _) (q0 := 11) (ci := 4) rfl rfl rfl 4 rfl rfl (wf := xW Γ a ((xSet x), (xChg x), u_4, (xLoop x), (xFst x), (xSnd x), (xCnt x), (xTs x), (xIs x), (xTrial x), (xIdeal x))) (xB_up_text Γ a _ _) (xW_addr _ _ _ _) ⟨Nat.zero_le _, Nat.zero_le _⟩ (fun H locs hP hD hS => ?_)
    refine lv_goto (tgt := 23) hx hb dX6_assigned_18 (by decide) ?_
    exact re_i hQ ha hx hb hr hlk hAe hP hS dX6_assigned_23 (by simp only [rAssigned, ← eu_4, c_8, if_true, if_false]) (by simp only [gFault, xPut_text, ← eu_4])
def rm_X6_assignedAt : Room := { frames := 8, cells := 0, slots := 0, locals := 179 }
theorem iX6_assignedAt_6 : ∀ w ∈ u_ws RX6 TX6 11, w ∈ wsX6_assignedAt := fun w h => (List.mem_cons_of_mem _ (List.mem_append_left _ (List.mem_append_right _ h)))
set_option maxHeartbeats 1000000 in
set_option maxRecDepth 100000 in
theorem c_X6_assignedAt (Γ : gT) (l : Launch) (a : Nat → Nat) (x : Xst) (i1 : Int32) (L : Nat) (hL : tLen (xTxt x) = nI L) (hL2 : L ≤ 80) : Ci Γ l yX6_assignedAt wsX6_assignedAt rm_X6_assignedAt [.ref (a 0), .int i1] (xW Γ a x) (rAssignedAt x i1) (xW Γ a (gAssignedAt x i1)) := by
  refine Ci.of (cc := cX6_assignedAt) (own := RX6) (nL := 3) (ret := (some .int)) (by decide +kernel) rfl rfl (Nat.le_of_ble_eq_true rfl) ?_
  intro p e s m args below meth c A Q H locs ls ha hAe hQ hx hb hml hr hts hown hlk hP hK hD hS hA hG hl
  have hh : Hd Γ p s m args c cX6_assignedAt RX6 3 wsX6_assignedAt A := ⟨⟨hx, hb, hml, hown, hts⟩, hK, hA, hG⟩
  have hl : lv_has ls 3 [(0, .ref (a 0)), (1, .int i1)] := hl
  refine lv_iload_n hx hb dX6_assignedAt_0 rfl (lv_at hl 1 rfl) ?_
  refine lv_if_ge (tgt := 7) hx hb dX6_assignedAt_1 (by decide) (fun c_1 => ?_) (fun c_1 => ?_)
  · -- yes
    refine lv_aload_n hx hb dX6_assignedAt_7 rfl (lv_at hl 0 rfl) ?_
    refine va_get (D := gD Γ) (cl := vwCl) (tys := gTy Γ) (ci := 6) (v := .ref (a 11)) (C := RX6) (T := TX6) (N := 11) hx hb hts iX6_assignedAt_6 hown hK hP 0 rfl rfl 2 (Nat.le_of_ble_eq_true rfl) (hts (.fieldLink RX6 26 "DeadTimeLoop" "text" "LDeadTimeLoop$Text;") (List.mem_of_getElem? (i := 2) rfl)) (fun _ h9 => h9) rfl dX6_assignedAt_8 ?_
    obtain ⟨u_11, eu_11⟩ : ∃ z : Txt, z = (fRead (xTxt x)).2 := ⟨_, rfl⟩
    have hM_11 : Ci Γ l yX4_read wsX4_read rm_X4_read [.ref (a 11)] (txtW Γ a 11 (xTxt x)) ((fRead (xTxt x)).1) (txtW Γ a 11 u_11) := by rw [eu_11]; exact c_X4_read Γ l a 11 (xTxt x) L hL hL2
    refine ca_Vi hh hl.1 hM_11 (cwV 0 hts gX6_assignedAt_X4_read rfl rfl rfl (by decide +kernel) ⟨(Nat.le_of_ble_eq_true rfl), (Nat.le_of_ble_eq_true rfl)⟩) (As := []) (rest := []) rfl dX6_assignedAt_11 rfl (Nat.le_of_ble_eq_true rfl) hP hD hS [11, 12, 13, 14] rfl (xB_at_text Γ a _) (q0 := 11) (ci := 4) rfl rfl rfl 4 rfl rfl (wf := xW Γ a ((xSet x), (xChg x), u_11, (xLoop x), (xFst x), (xSnd x), (xCnt x), (xTs x), (xIs x), (xTrial x), (xIdeal x))) (xB_up_text Γ a _ _) (xW_addr _ _ _ _) ⟨Nat.zero_le _, Nat.zero_le _⟩ (fun H locs hP hD hS => ?_)
    refine lv_iconst (v := (-1)) hx hb dX6_assignedAt_14 (by decide) ?_
    refine lv_icmp_eq (tgt := 21) hx hb dX6_assignedAt_15 (by decide) (fun c_15 => ?_) (fun c_15 => ?_)
    · -- yes
      obtain ⟨-, C, hC2, hC⟩ := (show tOk u_11 L from by rw [eu_11]; exact fRead_ok hL)
      refine lv_aload_n hx hb dX6_assignedAt_21 rfl (lv_at hl 0 rfl) ?_
      refine va_get (D := gD Γ) (cl := vwCl) (tys := gTy Γ) (ci := 6) (v := .ref (a 11)) (C := RX6) (T := TX6) (N := 11) hx hb hts iX6_assignedAt_6 hown hK hP 0 rfl rfl 2 (Nat.le_of_ble_eq_true rfl) (hts (.fieldLink RX6 26 "DeadTimeLoop" "text" "LDeadTimeLoop$Text;") (List.mem_of_getElem? (i := 2) rfl)) (fun _ h9 => h9) rfl dX6_assignedAt_22 ?_
      refine lv_iload_n hx hb dX6_assignedAt_25 rfl (lv_at hl 1 rfl) ?_
      refine ca_Vi hh hl.1 (c_X4_differentAt Γ l a 11 u_11 i1 C hC hC2) (cwV 1 hts gX6_assignedAt_X4_differentAt rfl rfl rfl (by decide +kernel) ⟨(Nat.le_of_ble_eq_true rfl), (Nat.le_of_ble_eq_true rfl)⟩) (As := [.int i1]) (rest := []) rfl dX6_assignedAt_26 rfl (Nat.le_of_ble_eq_true rfl) hP hD hS [11, 12, 13, 14] rfl (xB_at_text Γ a _) (q0 := 11) (ci := 4) rfl rfl rfl 4 rfl rfl (wf := xW Γ a ((xSet x), (xChg x), u_11, (xLoop x), (xFst x), (xSnd x), (xCnt x), (xTs x), (xIs x), (xTrial x), (xIdeal x))) (xB_up_text Γ a _ _) (xW_addr _ _ _ _) ⟨Nat.zero_le _, Nat.zero_le _⟩ (fun H locs hP hD hS => ?_)
      refine lv_istore_n (lv' := [(2, .int (fDat u_11 i1)), (0, .ref (a 0)), (1, .int i1)]) hx hb dX6_assignedAt_29 rfl hl (by decide) rfl (fun ls hl => ?_)
      refine lv_iload_n hx hb dX6_assignedAt_30 rfl (lv_at hl 0 rfl) ?_
      refine lv_iconst (v := (-1)) hx hb dX6_assignedAt_31 (by decide) ?_
      refine lv_icmp_ne (tgt := 40) hx hb dX6_assignedAt_32 (by decide) (fun c_32 => ?_) (fun c_32 => ?_)
      · -- yes
        refine lv_iload_n hx hb dX6_assignedAt_40 rfl (lv_at hl 0 rfl) ?_
        exact re_i hQ ha hx hb hr hlk hAe hP hS dX6_assignedAt_41 (by simp only [rAssignedAt, rAssignedAt1, ← eu_11, c_1, c_15, c_32, if_true, if_false]) (by simp only [gAssignedAt, gFault, xPut_text, ← eu_11, c_1, c_15, c_32, if_true, if_false])
      · -- no
        refine lv_ldc hx hb hown (hts (.constant RX6 94 (-2000000004)) (List.mem_of_getElem? (i := 4) rfl)) dX6_assignedAt_35 ?_
        refine lv_goto (tgt := 41) hx hb dX6_assignedAt_37 (by decide) ?_
        exact re_i hQ ha hx hb hr hlk hAe hP hS dX6_assignedAt_41 (by simp only [rAssignedAt, rAssignedAt1, ← eu_11, c_1, c_15, c_32, if_true, if_false]) (by simp only [gAssignedAt, gFault, xPut_text, ← eu_11, c_1, c_15, c_32, if_true, if_false])
    · -- no
      refine lv_ldc hx hb hown (hts (.constant RX6 98 (-2000000002)) (List.mem_of_getElem? (i := 3) rfl)) dX6_assignedAt_18 ?_
      exact re_i hQ ha hx hb hr hlk hAe hP hS dX6_assignedAt_20 (by simp only [rAssignedAt, rAssignedAt1, ← eu_11, c_1, c_15, if_true, if_false]) (by simp only [gAssignedAt, gFault, xPut_text, ← eu_11, c_1, c_15, if_true, if_false])
  · -- no
    refine lv_ldc hx hb hown (hts (.constant RX6 63 (-2000000001)) (List.mem_of_getElem? (i := 1) rfl)) dX6_assignedAt_4 ?_
    exact re_i hQ ha hx hb hr hlk hAe hP hS dX6_assignedAt_6 (by simp only [rAssignedAt, c_1, if_true, if_false]) (by simp only [gAssignedAt, gFault, xPut_text, c_1, if_true, if_false])
