def rm_X1_control : Room := { frames := 3, cells := 0, slots := 0, locals := 76 }
theorem iX1_control_1 : ∀ w ∈ u_ws RX1 TX1 9, w ∈ wsX1_control := fun w h => (List.mem_cons_of_mem _ (List.mem_append_left _ (List.mem_append_right _ h)))
set_option maxHeartbeats 1000000 in
set_option maxRecDepth 100000 in
theorem c_X1_control (Γ : gT) (l : Launch) (a : Nat → Nat) (b : Nat) (a2 : Nat → Nat) (b2 : Nat) (σ : Lop) (v : Sett) (idl : Int32)  : Cv Γ l yX1_control wsX1_control rm_X1_control [.ref (a b), .ref (a2 b2), .int idl] (lopW Γ a b σ ++ setW Γ a2 b2 v) (lopW Γ a b (fTick2 σ v idl) ++ setW Γ a2 b2 v) := by
  refine Cv.of (cc := cX1_control) (own := RX1) (nL := 18) (ret := none) (by decide +kernel) rfl rfl (Nat.le_of_ble_eq_true rfl) ?_
  intro p e s m args below meth c A Q H locs ls ha hAe hQ hx hb hml hr hts hown hlk hP hK hD hS hA hG hl
  have hh : Hd Γ p s m args c cX1_control RX1 18 wsX1_control A := ⟨⟨hx, hb, hml, hown, hts⟩, hK, hA, hG⟩
  have hl : lv_has ls 18 [(0, .ref (a b)), (1, .ref (a2 b2)), (2, .int idl)] := hl
  have hJ_20 : ∀ (v3 : Int32), (v3 = fLess ((lPres σ) 9) idl) → ∀ (H : Heap) (locs : List Loc) (ls : Array Slot), va_P (gD Γ) vwCl (lopW Γ a b σ ++ setW Γ a2 b2 v) H → va_D A (lopW Γ a b σ ++ setW Γ a2 b2 v) → va_S A s.heap H locs → lv_has ls 18 [(0, .ref (a b)), (1, .ref (a2 b2)), (2, .int idl)] → W p l e rm_X1_control s m args below meth c H locs 0 0 Q (F0 m 20 ls [.int v3]) := by
    intro v3 e3 H locs ls hP hD hS hl
    refine lv_istore_n (lv' := [(3, .int v3), (0, .ref (a b)), (1, .ref (a2 b2)), (2, .int idl)]) hx hb dX1_control_20 rfl hl (by decide) rfl (fun ls hl => ?_)
    have hJ_51 : ∀ (v4 : Int32), (v4 = fFeed v3 idl ((lPres σ) 1) ((lPres σ) 3) ((lPres σ) 5)) → ∀ (H : Heap) (locs : List Loc) (ls : Array Slot), va_P (gD Γ) vwCl (lopW Γ a b σ ++ setW Γ a2 b2 v) H → va_D A (lopW Γ a b σ ++ setW Γ a2 b2 v) → va_S A s.heap H locs → lv_has ls 18 [(0, .ref (a b)), (1, .ref (a2 b2)), (2, .int idl), (3, .int v3)] → W p l e rm_X1_control s m args below meth c H locs 0 0 Q (F0 m 51 ls [.int v4]) := by
      intro v4 e4 H locs ls hP hD hS hl
      refine lv_istore (lv' := [(4, .int v4), (0, .ref (a b)), (1, .ref (a2 b2)), (2, .int idl), (3, .int v3)]) hx hb dX1_control_51 hl (by decide) rfl (fun ls hl => ?_)
      have hJ_74 : ∀ (v5 : Int64), (v5 = fProp v3 (fGet v 0)) → ∀ (H : Heap) (locs : List Loc) (ls : Array Slot), va_P (gD Γ) vwCl (lopW Γ a b σ ++ setW Γ a2 b2 v) H → va_D A (lopW Γ a b σ ++ setW Γ a2 b2 v) → va_S A s.heap H locs → lv_has ls 18 [(0, .ref (a b)), (1, .ref (a2 b2)), (2, .int idl), (3, .int v3), (4, .int v4)] → W p l e rm_X1_control s m args below meth c H locs 0 0 Q (F0 m 74 ls [.long v5]) := by
        intro v5 e5 H locs ls hP hD hS hl
        refine lv_lstore (lv' := [(5, .long v5), (0, .ref (a b)), (1, .ref (a2 b2)), (2, .int idl), (3, .int v3), (4, .int v4)]) hx hb dX1_control_74 hl (by decide) rfl (fun ls hl => ?_)
        have hJ_97 : ∀ (v7 : Int64), (v7 = fInte v3 (fGet v 1)) → ∀ (H : Heap) (locs : List Loc) (ls : Array Slot), va_P (gD Γ) vwCl (lopW Γ a b σ ++ setW Γ a2 b2 v) H → va_D A (lopW Γ a b σ ++ setW Γ a2 b2 v) → va_S A s.heap H locs → lv_has ls 18 [(0, .ref (a b)), (1, .ref (a2 b2)), (2, .int idl), (3, .int v3), (4, .int v4), (5, .long v5)] → W p l e rm_X1_control s m args below meth c H locs 0 0 Q (F0 m 97 ls [.long v7]) := by
          intro v7 e7 H locs ls hP hD hS hl
          refine lv_lstore (lv' := [(7, .long v7), (0, .ref (a b)), (1, .ref (a2 b2)), (2, .int idl), (3, .int v3), (4, .int v4), (5, .long v5)]) hx hb dX1_control_97 hl (by decide) rfl (fun ls hl => ?_)
          refine lv_aload_n hx hb dX1_control_99 rfl (lv_at hl 1 rfl) ?_
          refine va_get (D := gD Γ) (cl := vwCl) (tys := gTy Γ) (ci := 1) (v := .ref (a (b + 1))) (C := RX1) (T := TX1) (N := 9) hx hb hts iX1_control_1 hown hK hP 0 rfl rfl 5 (Nat.le_of_ble_eq_true rfl) (hts (.fieldLink RX1 27 "DeadTimeLoop$Loop" "present" "[I") (List.mem_of_getElem? (i := 1) rfl)) (fun _ h9 => h9) rfl dX1_control_100 ?_
          refine lv_bipush (v := 6) hx hb dX1_control_103 (by decide) ?_
          refine lv_aload_n hx hb dX1_control_105 rfl (lv_at hl 1 rfl) ?_
          refine va_get (D := gD Γ) (cl := vwCl) (tys := gTy Γ) (ci := 1) (v := .ref (a (b + 1))) (C := RX1) (T := TX1) (N := 9) hx hb hts iX1_control_1 hown hK hP 0 rfl rfl 5 (Nat.le_of_ble_eq_true rfl) (hts (.fieldLink RX1 27 "DeadTimeLoop$Loop" "present" "[I") (List.mem_of_getElem? (i := 1) rfl)) (fun _ h9 => h9) rfl dX1_control_106 ?_
          refine lv_iconst (v := 0) hx hb dX1_control_109 (by decide) ?_
          refine ka_iald (D := gD Γ) (cl := vwCl) (tys := gTy Γ) hx hb hK hP 1 0 rfl rfl 0 (by decide) (by decide) (by decide) (v := ((lPres σ) 0)) rfl dX1_control_110 ?_
          refine lv_iload hx hb dX1_control_111 (lv_at hl 5 rfl) ?_
          refine lv_isub hx hb dX1_control_113 ?_
          refine ka_iast (D := gD Γ) (cl := vwCl) (tys := gTy Γ) hx hb hK hP hD hS 1 0 rfl rfl 6 (by decide) (by decide) (by decide) (wf := lopW Γ a b ((lNow σ), (lLoad σ), (lSeed σ), (lBad σ), (lGood σ), (upd (lPres σ) 6 (((lPres σ) 0) - v4)), (lRecs σ), (lSec σ), (lWat σ)) ++ setW Γ a2 b2 v) rfl dX1_control_114 (fun H locs hP hD hS => ?_)
          refine lv_lload hx hb dX1_control_115 (lv_at hl 6 rfl) ?_
          refine lv_aload_n hx hb dX1_control_117 rfl (lv_at hl 1 rfl) ?_
          refine va_get (D := gD Γ) (cl := vwCl) (tys := gTy Γ) (ci := 1) (v := .ref (a (b + 1))) (C := RX1) (T := TX1) (N := 9) hx hb hts iX1_control_1 hown hK hP 0 rfl rfl 5 (Nat.le_of_ble_eq_true rfl) (hts (.fieldLink RX1 27 "DeadTimeLoop$Loop" "present" "[I") (List.mem_of_getElem? (i := 1) rfl)) (fun _ h9 => h9) rfl dX1_control_118 ?_
          refine lv_bipush (v := 6) hx hb dX1_control_121 (by decide) ?_
          refine ka_iald (D := gD Γ) (cl := vwCl) (tys := gTy Γ) hx hb hK hP 1 0 rfl rfl 6 (by decide) (by decide) (by decide) (v := (((lPres σ) 0) - v4)) rfl dX1_control_123 ?_
          refine lv_i2l (v := (((lPres σ) 0) - v4).toInt64) hx hb dX1_control_124 rfl ?_
          refine lv_lmul hx hb dX1_control_125 ?_
          refine ca_Nl hh hl.1 (c_X6_thousandth Γ l (v5 * ((((lPres σ) 0) - v4).toInt64))) ⟨va_cnB (host := RX6) 1 hts gX1_control_X6_thousandth_n140 rfl rfl rfl hG.1.2.2.2.2.2.2.2.1 (hts (.initialized RX6) (List.mem_of_getElem? (i := 9) rfl)) (by decide +kernel) ⟨(Nat.le_of_ble_eq_true rfl), (Nat.le_of_ble_eq_true rfl)⟩, (hts (.static yX6_thousandth) (List.mem_of_getElem? (i := 11) rfl)), trivial⟩ (As := [.long (v5 * ((((lPres σ) 0) - v4).toInt64))]) (rest := []) rfl dX1_control_126 rfl (Nat.le_of_ble_eq_true rfl) hP hD hS ⟨Nat.zero_le _, Nat.zero_le _⟩ (fun H locs hP hS => ?_)
          refine lv_topl (fun r_126 er_126 => ?_)
          have er_126 : r_126 = (fThou (v5 * ((((lPres σ) 0) - v4).toInt64))) := er_126
          refine lv_lstore (lv' := [(9, .long r_126), (7, .long v7), (0, .ref (a b)), (1, .ref (a2 b2)), (2, .int idl), (3, .int v3), (4, .int v4), (5, .long v5)]) hx hb dX1_control_129 hl (by decide) rfl (fun ls hl => ?_)
          refine lv_aload_n hx hb dX1_control_131 rfl (lv_at hl 2 rfl) ?_
          refine va_get (D := gD Γ) (cl := vwCl) (tys := gTy Γ) (ci := 1) (v := .ref (a (b + 1))) (C := RX1) (T := TX1) (N := 9) hx hb hts iX1_control_1 hown hK hP 0 rfl rfl 5 (Nat.le_of_ble_eq_true rfl) (hts (.fieldLink RX1 27 "DeadTimeLoop$Loop" "present" "[I") (List.mem_of_getElem? (i := 1) rfl)) (fun _ h9 => h9) rfl dX1_control_132 ?_
          refine lv_bipush (v := 7) hx hb dX1_control_135 (by decide) ?_
          refine ka_iald (D := gD Γ) (cl := vwCl) (tys := gTy Γ) hx hb hK hP 1 0 rfl rfl 7 (by decide) (by decide) (by decide) (v := ((lPres σ) 7)) rfl dX1_control_137 ?_
          refine lv_i2l (v := ((lPres σ) 7).toInt64) hx hb dX1_control_138 rfl ?_
          refine lv_lload hx hb dX1_control_139 (lv_at hl 1 rfl) ?_
          refine lv_aload_n hx hb dX1_control_141 rfl (lv_at hl 2 rfl) ?_
          refine va_get (D := gD Γ) (cl := vwCl) (tys := gTy Γ) (ci := 1) (v := .ref (a (b + 1))) (C := RX1) (T := TX1) (N := 9) hx hb hts iX1_control_1 hown hK hP 0 rfl rfl 5 (Nat.le_of_ble_eq_true rfl) (hts (.fieldLink RX1 27 "DeadTimeLoop$Loop" "present" "[I") (List.mem_of_getElem? (i := 1) rfl)) (fun _ h9 => h9) rfl dX1_control_142 ?_
          refine lv_bipush (v := 6) hx hb dX1_control_145 (by decide) ?_
          refine ka_iald (D := gD Γ) (cl := vwCl) (tys := gTy Γ) hx hb hK hP 1 0 rfl rfl 6 (by decide) (by decide) (by decide) (v := (((lPres σ) 0) - v4)) rfl dX1_control_147 ?_
          refine lv_i2l (v := (((lPres σ) 0) - v4).toInt64) hx hb dX1_control_148 rfl ?_
          refine lv_lmul hx hb dX1_control_149 ?_
          refine ca_Nl hh hl.1 (c_X6_thousandth Γ l (v7 * ((((lPres σ) 0) - v4).toInt64))) ⟨va_cnB (host := RX6) 1 hts gX1_control_X6_thousandth_n140 rfl rfl rfl hG.1.2.2.2.2.2.2.2.1 (hts (.initialized RX6) (List.mem_of_getElem? (i := 9) rfl)) (by decide +kernel) ⟨(Nat.le_of_ble_eq_true rfl), (Nat.le_of_ble_eq_true rfl)⟩, (hts (.static yX6_thousandth) (List.mem_of_getElem? (i := 11) rfl)), trivial⟩ (As := [.long (v7 * ((((lPres σ) 0) - v4).toInt64))]) (rest := [.long (((lPres σ) 7).toInt64)]) rfl dX1_control_150 rfl (Nat.le_of_ble_eq_true rfl) hP hD hS ⟨Nat.zero_le _, Nat.zero_le _⟩ (fun H locs hP hS => ?_)
          refine lv_topl (fun r_150 er_150 => ?_)
          have er_150 : r_150 = (fThou (v7 * ((((lPres σ) 0) - v4).toInt64))) := er_150
          refine lv_ladd hx hb dX1_control_153 ?_
          refine lv_lstore (lv' := [(11, .long ((((lPres σ) 7).toInt64) + r_150)), (9, .long r_126), (7, .long v7), (0, .ref (a b)), (1, .ref (a2 b2)), (2, .int idl), (3, .int v3), (4, .int v4), (5, .long v5)]) hx hb dX1_control_154 hl (by decide) rfl (fun ls hl => ?_)
          refine lv_lload hx hb dX1_control_156 (lv_at hl 1 rfl) ?_
          refine lv_lload hx hb dX1_control_158 (lv_at hl 0 rfl) ?_
          refine lv_ladd hx hb dX1_control_160 ?_
          refine lv_lstore (lv' := [(13, .long (r_126 + ((((lPres σ) 7).toInt64) + r_150))), (11, .long ((((lPres σ) 7).toInt64) + r_150)), (9, .long r_126), (7, .long v7), (0, .ref (a b)), (1, .ref (a2 b2)), (2, .int idl), (3, .int v3), (4, .int v4), (5, .long v5)]) hx hb dX1_control_161 hl (by decide) rfl (fun ls hl => ?_)
          refine lv_aload_n hx hb dX1_control_163 rfl (lv_at hl 4 rfl) ?_
          refine lv_lload hx hb dX1_control_164 (lv_at hl 0 rfl) ?_
          refine lv_aload_n hx hb dX1_control_166 rfl (lv_at hl 5 rfl) ?_
          refine ca_Vla hh hl.1 (c_X1_outputFor Γ l a b a2 b2 ((lNow σ), (lLoad σ), (lSeed σ), (lBad σ), (lGood σ), (upd (lPres σ) 6 (((lPres σ) 0) - v4)), (lRecs σ), (lSec σ), (lWat σ)) v (r_126 + ((((lPres σ) 7).toInt64) + r_150))) (cwV 2 hts gX1_control_X1_outputFor rfl rfl rfl (by decide +kernel) ⟨(Nat.le_of_ble_eq_true rfl), (Nat.le_of_ble_eq_true rfl)⟩) (As := [.long (r_126 + ((((lPres σ) 7).toInt64) + r_150)), .ref (a2 b2)]) (rest := []) rfl dX1_control_167 rfl (Nat.le_of_ble_eq_true rfl) hP hD hS (q0 := 0) (ci := 1) rfl rfl rfl (wf := lopW Γ a b ((lNow σ), (lLoad σ), (lSeed σ), (lBad σ), (lGood σ), (upd (lPres σ) 6 (((lPres σ) 0) - v4)), (lRecs σ), (lSec σ), (lWat σ)) ++ setW Γ a2 b2 v) rfl ⟨Nat.zero_le _, Nat.zero_le _⟩ (fun H locs hP hD hS => ?_)
          refine lv_topl (fun r_167 er_167 => ?_)
          have er_167 : r_167 = (fOut ((lPres σ) 2) (r_126 + ((((lPres σ) 7).toInt64) + r_150)) v) := er_167
          refine lv_lstore (lv' := [(15, .long r_167), (13, .long (r_126 + ((((lPres σ) 7).toInt64) + r_150))), (11, .long ((((lPres σ) 7).toInt64) + r_150)), (9, .long r_126), (7, .long v7), (0, .ref (a b)), (1, .ref (a2 b2)), (2, .int idl), (3, .int v3), (4, .int v4), (5, .long v5)]) hx hb dX1_control_170 hl (by decide) rfl (fun ls hl => ?_)
          refine lv_aload_n hx hb dX1_control_172 rfl (lv_at hl 5 rfl) ?_
          refine va_get (D := gD Γ) (cl := vwCl) (tys := gTy Γ) (ci := 1) (v := .ref (a (b + 1))) (C := RX1) (T := TX1) (N := 9) hx hb hts iX1_control_1 hown hK hP 0 rfl rfl 5 (Nat.le_of_ble_eq_true rfl) (hts (.fieldLink RX1 27 "DeadTimeLoop$Loop" "present" "[I") (List.mem_of_getElem? (i := 1) rfl)) (fun _ h9 => h9) rfl dX1_control_173 ?_
          refine lv_iconst (v := 2) hx hb dX1_control_176 (by decide) ?_
          refine lv_lload hx hb dX1_control_177 (lv_at hl 0 rfl) ?_
          refine lv_l2i (v := r_167.toInt32) hx hb dX1_control_179 rfl ?_
          refine ka_iast (D := gD Γ) (cl := vwCl) (tys := gTy Γ) hx hb hK hP hD hS 1 0 rfl rfl 2 (by decide) (by decide) (by decide) (wf := lopW Γ a b ((lNow σ), (lLoad σ), (lSeed σ), (lBad σ), (lGood σ), (upd (upd (lPres σ) 6 (((lPres σ) 0) - v4)) 2 (r_167.toInt32)), (lRecs σ), (lSec σ), (lWat σ)) ++ setW Γ a2 b2 v) rfl dX1_control_180 (fun H locs hP hD hS => ?_)
          refine lv_lload hx hb dX1_control_181 (lv_at hl 0 rfl) ?_
          refine lv_lload hx hb dX1_control_183 (lv_at hl 1 rfl) ?_
          refine W.lcmp hx hb dX1_control_185 ?_
          refine lv_if_ge (tgt := 199) hx hb dX1_control_186 (by decide) (fun c_186 => ?_) (fun c_186 => ?_)
          · -- yes
            have c_186 := (lg_cmp_ge _ _).mp c_186
            refine lv_lload hx hb dX1_control_199 (lv_at hl 0 rfl) ?_
            refine lv_lload hx hb dX1_control_201 (lv_at hl 1 rfl) ?_
            refine W.lcmp hx hb dX1_control_203 ?_
            refine lv_if_le (tgt := 221) hx hb dX1_control_204 (by decide) (fun c_204 => ?_) (fun c_204 => ?_)
            · -- yes
              have c_204 := (lg_cmp_le _ _).mp c_204
              refine lv_iconst (v := 0) hx hb dX1_control_221 (by decide) ?_
              refine lv_istore (lv' := [(17, .int 0), (15, .long r_167), (13, .long (r_126 + ((((lPres σ) 7).toInt64) + r_150))), (11, .long ((((lPres σ) 7).toInt64) + r_150)), (9, .long r_126), (7, .long v7), (0, .ref (a b)), (1, .ref (a2 b2)), (2, .int idl), (3, .int v3), (4, .int v4), (5, .long v5)]) hx hb dX1_control_222 hl (by decide) rfl (fun ls hl => ?_)
              refine lv_iload hx hb dX1_control_224 (lv_at hl 0 rfl) ?_
              refine lv_if_ne (tgt := 239) hx hb dX1_control_226 (by decide) (fun c => (c (by decide)).elim) (fun _ => ?_)
              refine lv_aload_n hx hb dX1_control_229 rfl (lv_at hl 6 rfl) ?_
              refine va_get (D := gD Γ) (cl := vwCl) (tys := gTy Γ) (ci := 1) (v := .ref (a (b + 1))) (C := RX1) (T := TX1) (N := 9) hx hb hts iX1_control_1 hown hK hP 0 rfl rfl 5 (Nat.le_of_ble_eq_true rfl) (hts (.fieldLink RX1 27 "DeadTimeLoop$Loop" "present" "[I") (List.mem_of_getElem? (i := 1) rfl)) (fun _ h9 => h9) rfl dX1_control_230 ?_
              refine lv_bipush (v := 7) hx hb dX1_control_233 (by decide) ?_
              refine lv_lload hx hb dX1_control_235 (lv_at hl 3 rfl) ?_
              refine lv_l2i (v := ((((lPres σ) 7).toInt64) + r_150).toInt32) hx hb dX1_control_237 rfl ?_
              refine lv_topi (fun r_238 er_238 => ?_)
              have er_238 : r_238 = (((((lPres σ) 7).toInt64) + r_150).toInt32) := er_238
              refine ka_iast (D := gD Γ) (cl := vwCl) (tys := gTy Γ) hx hb hK hP hD hS 1 0 rfl rfl 7 (by decide) (by decide) (by decide) (wf := lopW Γ a b ((lNow σ), (lLoad σ), (lSeed σ), (lBad σ), (lGood σ), (upd (upd (upd (lPres σ) 6 (((lPres σ) 0) - v4)) 2 (r_167.toInt32)) 7 r_238), (lRecs σ), (lSec σ), (lWat σ)) ++ setW Γ a2 b2 v) rfl dX1_control_238 (fun H locs hP hD hS => ?_)
              exact re_v hQ ha hx hb hr hlk hAe hP hS dX1_control_239 (by simp only [fTick2, lSetP, fCtl, fCtl0, fCtl1, fCtl2, fCtl3, fHeld, ← e3, ← e4, ← e5, ← e7, ← er_126, ← er_150, ← er_167, ← er_238, c_186, c_204, if_true, if_false, i32_10])
            · -- no
              have c_204 := mt (lg_cmp_le _ _).mpr c_204
              refine lv_aload_n hx hb dX1_control_207 rfl (lv_at hl 5 rfl) ?_
              refine va_get (D := gD Γ) (cl := vwCl) (tys := gTy Γ) (ci := 1) (v := .ref (a (b + 1))) (C := RX1) (T := TX1) (N := 9) hx hb hts iX1_control_1 hown hK hP 0 rfl rfl 5 (Nat.le_of_ble_eq_true rfl) (hts (.fieldLink RX1 27 "DeadTimeLoop$Loop" "present" "[I") (List.mem_of_getElem? (i := 1) rfl)) (fun _ h9 => h9) rfl dX1_control_208 ?_
              refine lv_bipush (v := 6) hx hb dX1_control_211 (by decide) ?_
              refine ka_iald (D := gD Γ) (cl := vwCl) (tys := gTy Γ) hx hb hK hP 1 0 rfl rfl 6 (by decide) (by decide) (by decide) (v := (((lPres σ) 0) - v4)) rfl dX1_control_213 ?_
              refine lv_if_ge (tgt := 221) hx hb dX1_control_214 (by decide) (fun c_214 => ?_) (fun c_214 => ?_)
              · -- yes
                refine lv_iconst (v := 0) hx hb dX1_control_221 (by decide) ?_
                refine lv_istore (lv' := [(17, .int 0), (15, .long r_167), (13, .long (r_126 + ((((lPres σ) 7).toInt64) + r_150))), (11, .long ((((lPres σ) 7).toInt64) + r_150)), (9, .long r_126), (7, .long v7), (0, .ref (a b)), (1, .ref (a2 b2)), (2, .int idl), (3, .int v3), (4, .int v4), (5, .long v5)]) hx hb dX1_control_222 hl (by decide) rfl (fun ls hl => ?_)
                refine lv_iload hx hb dX1_control_224 (lv_at hl 0 rfl) ?_
                refine lv_if_ne (tgt := 239) hx hb dX1_control_226 (by decide) (fun c => (c (by decide)).elim) (fun _ => ?_)
                refine lv_aload_n hx hb dX1_control_229 rfl (lv_at hl 6 rfl) ?_
                refine va_get (D := gD Γ) (cl := vwCl) (tys := gTy Γ) (ci := 1) (v := .ref (a (b + 1))) (C := RX1) (T := TX1) (N := 9) hx hb hts iX1_control_1 hown hK hP 0 rfl rfl 5 (Nat.le_of_ble_eq_true rfl) (hts (.fieldLink RX1 27 "DeadTimeLoop$Loop" "present" "[I") (List.mem_of_getElem? (i := 1) rfl)) (fun _ h9 => h9) rfl dX1_control_230 ?_
                refine lv_bipush (v := 7) hx hb dX1_control_233 (by decide) ?_
                refine lv_lload hx hb dX1_control_235 (lv_at hl 3 rfl) ?_
                refine lv_l2i (v := ((((lPres σ) 7).toInt64) + r_150).toInt32) hx hb dX1_control_237 rfl ?_
                refine lv_topi (fun r_238b er_238b => ?_)
                have er_238b : r_238b = (((((lPres σ) 7).toInt64) + r_150).toInt32) := er_238b
                refine ka_iast (D := gD Γ) (cl := vwCl) (tys := gTy Γ) hx hb hK hP hD hS 1 0 rfl rfl 7 (by decide) (by decide) (by decide) (wf := lopW Γ a b ((lNow σ), (lLoad σ), (lSeed σ), (lBad σ), (lGood σ), (upd (upd (upd (lPres σ) 6 (((lPres σ) 0) - v4)) 2 (r_167.toInt32)) 7 r_238b), (lRecs σ), (lSec σ), (lWat σ)) ++ setW Γ a2 b2 v) rfl dX1_control_238 (fun H locs hP hD hS => ?_)
                exact re_v hQ ha hx hb hr hlk hAe hP hS dX1_control_239 (by simp only [fTick2, lSetP, fCtl, fCtl0, fCtl1, fCtl2, fCtl3, fHeld, ← e3, ← e4, ← e5, ← e7, ← er_126, ← er_150, ← er_167, ← er_238b, c_186, c_204, c_214, if_true, if_false, i32_10])
              · -- no
                refine lv_iconst (v := 1) hx hb dX1_control_217 (by decide) ?_
                refine lv_goto (tgt := 222) hx hb dX1_control_218 (by decide) ?_
                refine lv_istore (lv' := [(17, .int 1), (15, .long r_167), (13, .long (r_126 + ((((lPres σ) 7).toInt64) + r_150))), (11, .long ((((lPres σ) 7).toInt64) + r_150)), (9, .long r_126), (7, .long v7), (0, .ref (a b)), (1, .ref (a2 b2)), (2, .int idl), (3, .int v3), (4, .int v4), (5, .long v5)]) hx hb dX1_control_222 hl (by decide) rfl (fun ls hl => ?_)
                refine lv_iload hx hb dX1_control_224 (lv_at hl 0 rfl) ?_
                refine lv_if_ne (tgt := 239) hx hb dX1_control_226 (by decide) (fun _ => ?_) (fun c => absurd c (by decide))
                exact re_v hQ ha hx hb hr hlk hAe hP hS dX1_control_239 (by simp only [fTick2, lSetP, fCtl, fCtl0, fCtl1, fCtl2, fCtl3, fHeld, ← e3, ← e4, ← e5, ← e7, ← er_126, ← er_150, ← er_167, c_186, c_204, c_214, if_true, if_false, i32_10])
          · -- no
            have c_186 := mt (lg_cmp_ge _ _).mpr c_186
            refine lv_aload_n hx hb dX1_control_189 rfl (lv_at hl 5 rfl) ?_
            refine va_get (D := gD Γ) (cl := vwCl) (tys := gTy Γ) (ci := 1) (v := .ref (a (b + 1))) (C := RX1) (T := TX1) (N := 9) hx hb hts iX1_control_1 hown hK hP 0 rfl rfl 5 (Nat.le_of_ble_eq_true rfl) (hts (.fieldLink RX1 27 "DeadTimeLoop$Loop" "present" "[I") (List.mem_of_getElem? (i := 1) rfl)) (fun _ h9 => h9) rfl dX1_control_190 ?_
            refine lv_bipush (v := 6) hx hb dX1_control_193 (by decide) ?_
            refine ka_iald (D := gD Γ) (cl := vwCl) (tys := gTy Γ) hx hb hK hP 1 0 rfl rfl 6 (by decide) (by decide) (by decide) (v := (((lPres σ) 0) - v4)) rfl dX1_control_195 ?_
            refine lv_if_gt (tgt := 217) hx hb dX1_control_196 (by decide) (fun c_196 => ?_) (fun c_196 => ?_)
            · -- yes
              refine lv_iconst (v := 1) hx hb dX1_control_217 (by decide) ?_
              refine lv_goto (tgt := 222) hx hb dX1_control_218 (by decide) ?_
              refine lv_istore (lv' := [(17, .int 1), (15, .long r_167), (13, .long (r_126 + ((((lPres σ) 7).toInt64) + r_150))), (11, .long ((((lPres σ) 7).toInt64) + r_150)), (9, .long r_126), (7, .long v7), (0, .ref (a b)), (1, .ref (a2 b2)), (2, .int idl), (3, .int v3), (4, .int v4), (5, .long v5)]) hx hb dX1_control_222 hl (by decide) rfl (fun ls hl => ?_)
              refine lv_iload hx hb dX1_control_224 (lv_at hl 0 rfl) ?_
              refine lv_if_ne (tgt := 239) hx hb dX1_control_226 (by decide) (fun _ => ?_) (fun c => absurd c (by decide))
              exact re_v hQ ha hx hb hr hlk hAe hP hS dX1_control_239 (by simp only [fTick2, lSetP, fCtl, fCtl0, fCtl1, fCtl2, fCtl3, fHeld, ← e3, ← e4, ← e5, ← e7, ← er_126, ← er_150, ← er_167, c_186, c_196, if_true, if_false, i32_10])
            · -- no
              refine lv_lload hx hb dX1_control_199 (lv_at hl 0 rfl) ?_
              refine lv_lload hx hb dX1_control_201 (lv_at hl 1 rfl) ?_
              refine W.lcmp hx hb dX1_control_203 ?_
              refine lv_if_le (tgt := 221) hx hb dX1_control_204 (by decide) (fun c_204b => ?_) (fun c_204b => ?_)
              · -- yes
                have c_204b := (lg_cmp_le _ _).mp c_204b
                refine lv_iconst (v := 0) hx hb dX1_control_221 (by decide) ?_
                refine lv_istore (lv' := [(17, .int 0), (15, .long r_167), (13, .long (r_126 + ((((lPres σ) 7).toInt64) + r_150))), (11, .long ((((lPres σ) 7).toInt64) + r_150)), (9, .long r_126), (7, .long v7), (0, .ref (a b)), (1, .ref (a2 b2)), (2, .int idl), (3, .int v3), (4, .int v4), (5, .long v5)]) hx hb dX1_control_222 hl (by decide) rfl (fun ls hl => ?_)
                refine lv_iload hx hb dX1_control_224 (lv_at hl 0 rfl) ?_
                refine lv_if_ne (tgt := 239) hx hb dX1_control_226 (by decide) (fun c => (c (by decide)).elim) (fun _ => ?_)
                refine lv_aload_n hx hb dX1_control_229 rfl (lv_at hl 6 rfl) ?_
                refine va_get (D := gD Γ) (cl := vwCl) (tys := gTy Γ) (ci := 1) (v := .ref (a (b + 1))) (C := RX1) (T := TX1) (N := 9) hx hb hts iX1_control_1 hown hK hP 0 rfl rfl 5 (Nat.le_of_ble_eq_true rfl) (hts (.fieldLink RX1 27 "DeadTimeLoop$Loop" "present" "[I") (List.mem_of_getElem? (i := 1) rfl)) (fun _ h9 => h9) rfl dX1_control_230 ?_
                refine lv_bipush (v := 7) hx hb dX1_control_233 (by decide) ?_
                refine lv_lload hx hb dX1_control_235 (lv_at hl 3 rfl) ?_
                refine lv_l2i (v := ((((lPres σ) 7).toInt64) + r_150).toInt32) hx hb dX1_control_237 rfl ?_
                refine lv_topi (fun r_238c er_238c => ?_)
                have er_238c : r_238c = (((((lPres σ) 7).toInt64) + r_150).toInt32) := er_238c
                refine ka_iast (D := gD Γ) (cl := vwCl) (tys := gTy Γ) hx hb hK hP hD hS 1 0 rfl rfl 7 (by decide) (by decide) (by decide) (wf := lopW Γ a b ((lNow σ), (lLoad σ), (lSeed σ), (lBad σ), (lGood σ), (upd (upd (upd (lPres σ) 6 (((lPres σ) 0) - v4)) 2 (r_167.toInt32)) 7 r_238c), (lRecs σ), (lSec σ), (lWat σ)) ++ setW Γ a2 b2 v) rfl dX1_control_238 (fun H locs hP hD hS => ?_)
                exact re_v hQ ha hx hb hr hlk hAe hP hS dX1_control_239 (by simp only [fTick2, lSetP, fCtl, fCtl0, fCtl1, fCtl2, fCtl3, fHeld, ← e3, ← e4, ← e5, ← e7, ← er_126, ← er_150, ← er_167, ← er_238c, c_186, c_196, c_204b, if_true, if_false, i32_10])
              · -- no
                have c_204b := mt (lg_cmp_le _ _).mpr c_204b
                refine lv_aload_n hx hb dX1_control_207 rfl (lv_at hl 5 rfl) ?_
                refine va_get (D := gD Γ) (cl := vwCl) (tys := gTy Γ) (ci := 1) (v := .ref (a (b + 1))) (C := RX1) (T := TX1) (N := 9) hx hb hts iX1_control_1 hown hK hP 0 rfl rfl 5 (Nat.le_of_ble_eq_true rfl) (hts (.fieldLink RX1 27 "DeadTimeLoop$Loop" "present" "[I") (List.mem_of_getElem? (i := 1) rfl)) (fun _ h9 => h9) rfl dX1_control_208 ?_
                refine lv_bipush (v := 6) hx hb dX1_control_211 (by decide) ?_
                refine ka_iald (D := gD Γ) (cl := vwCl) (tys := gTy Γ) hx hb hK hP 1 0 rfl rfl 6 (by decide) (by decide) (by decide) (v := (((lPres σ) 0) - v4)) rfl dX1_control_213 ?_
                refine lv_if_ge (tgt := 221) hx hb dX1_control_214 (by decide) (fun c_214b => ?_) (fun c_214b => ?_)
                · -- yes
                  refine lv_iconst (v := 0) hx hb dX1_control_221 (by decide) ?_
                  refine lv_istore (lv' := [(17, .int 0), (15, .long r_167), (13, .long (r_126 + ((((lPres σ) 7).toInt64) + r_150))), (11, .long ((((lPres σ) 7).toInt64) + r_150)), (9, .long r_126), (7, .long v7), (0, .ref (a b)), (1, .ref (a2 b2)), (2, .int idl), (3, .int v3), (4, .int v4), (5, .long v5)]) hx hb dX1_control_222 hl (by decide) rfl (fun ls hl => ?_)
                  refine lv_iload hx hb dX1_control_224 (lv_at hl 0 rfl) ?_
                  refine lv_if_ne (tgt := 239) hx hb dX1_control_226 (by decide) (fun c => (c (by decide)).elim) (fun _ => ?_)
                  refine lv_aload_n hx hb dX1_control_229 rfl (lv_at hl 6 rfl) ?_
                  refine va_get (D := gD Γ) (cl := vwCl) (tys := gTy Γ) (ci := 1) (v := .ref (a (b + 1))) (C := RX1) (T := TX1) (N := 9) hx hb hts iX1_control_1 hown hK hP 0 rfl rfl 5 (Nat.le_of_ble_eq_true rfl) (hts (.fieldLink RX1 27 "DeadTimeLoop$Loop" "present" "[I") (List.mem_of_getElem? (i := 1) rfl)) (fun _ h9 => h9) rfl dX1_control_230 ?_
                  refine lv_bipush (v := 7) hx hb dX1_control_233 (by decide) ?_
                  refine lv_lload hx hb dX1_control_235 (lv_at hl 3 rfl) ?_
                  refine lv_l2i (v := ((((lPres σ) 7).toInt64) + r_150).toInt32) hx hb dX1_control_237 rfl ?_
                  refine lv_topi (fun r_238d er_238d => ?_)
                  have er_238d : r_238d = (((((lPres σ) 7).toInt64) + r_150).toInt32) := er_238d
                  refine ka_iast (D := gD Γ) (cl := vwCl) (tys := gTy Γ) hx hb hK hP hD hS 1 0 rfl rfl 7 (by decide) (by decide) (by decide) (wf := lopW Γ a b ((lNow σ), (lLoad σ), (lSeed σ), (lBad σ), (lGood σ), (upd (upd (upd (lPres σ) 6 (((lPres σ) 0) - v4)) 2 (r_167.toInt32)) 7 r_238d), (lRecs σ), (lSec σ), (lWat σ)) ++ setW Γ a2 b2 v) rfl dX1_control_238 (fun H locs hP hD hS => ?_)
                  exact re_v hQ ha hx hb hr hlk hAe hP hS dX1_control_239 (by simp only [fTick2, lSetP, fCtl, fCtl0, fCtl1, fCtl2, fCtl3, fHeld, ← e3, ← e4, ← e5, ← e7, ← er_126, ← er_150, ← er_167, ← er_238d, c_186, c_196, c_204b, c_214b, if_true, if_false, i32_10])
                · -- no
                  refine lv_iconst (v := 1) hx hb dX1_control_217 (by decide) ?_
                  refine lv_goto (tgt := 222) hx hb dX1_control_218 (by decide) ?_
                  refine lv_istore (lv' := [(17, .int 1), (15, .long r_167), (13, .long (r_126 + ((((lPres σ) 7).toInt64) + r_150))), (11, .long ((((lPres σ) 7).toInt64) + r_150)), (9, .long r_126), (7, .long v7), (0, .ref (a b)), (1, .ref (a2 b2)), (2, .int idl), (3, .int v3), (4, .int v4), (5, .long v5)]) hx hb dX1_control_222 hl (by decide) rfl (fun ls hl => ?_)
                  refine lv_iload hx hb dX1_control_224 (lv_at hl 0 rfl) ?_
                  refine lv_if_ne (tgt := 239) hx hb dX1_control_226 (by decide) (fun _ => ?_) (fun c => absurd c (by decide))
                  exact re_v hQ ha hx hb hr hlk hAe hP hS dX1_control_239 (by simp only [fTick2, lSetP, fCtl, fCtl0, fCtl1, fCtl2, fCtl3, fHeld, ← e3, ← e4, ← e5, ← e7, ← er_126, ← er_150, ← er_167, c_186, c_196, c_204b, c_214b, if_true, if_false, i32_10])
        refine lv_iload_n hx hb dX1_control_76 rfl (lv_at hl 4 rfl) ?_
        refine lv_if_eq (tgt := 91) hx hb dX1_control_77 (by decide) (fun c_77 => ?_) (fun c_77 => ?_)
        · -- yes
          refine lv_aload_n hx hb dX1_control_91 rfl (lv_at hl 2 rfl) ?_
          refine lv_iconst (v := 1) hx hb dX1_control_92 (by decide) ?_
          refine ca_Vi hh hl.1 (c_X3_get Γ l a2 b2 v 1) (cwV 1 hts gX1_control_X3_get rfl rfl rfl (by decide +kernel) ⟨(Nat.le_of_ble_eq_true rfl), (Nat.le_of_ble_eq_true rfl)⟩) (As := [.int 1]) (rest := []) rfl dX1_control_93 rfl (Nat.le_of_ble_eq_true rfl) hP hD hS [9, 10] rfl rfl (q0 := 9) (ci := 3) rfl rfl rfl 2 rfl rfl (wf := lopW Γ a b σ ++ setW Γ a2 b2 v) rfl rfl ⟨Nat.zero_le _, Nat.zero_le _⟩ (fun H locs hP hD hS => ?_)
          refine lv_i2l (v := (fGet v 1).toInt64) hx hb dX1_control_96 rfl ?_
          exact hJ_97 _ (by subst e5; subst e4; subst e3; simp [fInte, c_77]) _ _ _ hP hD hS (lv_sub hl [1, 2, 3, 4, 5, 0] rfl)
        · -- no
          refine lv_aload_n hx hb dX1_control_80 rfl (lv_at hl 2 rfl) ?_
          refine lv_iconst (v := 1) hx hb dX1_control_81 (by decide) ?_
          refine ca_Vi hh hl.1 (c_X3_get Γ l a2 b2 v 1) (cwV 1 hts gX1_control_X3_get rfl rfl rfl (by decide +kernel) ⟨(Nat.le_of_ble_eq_true rfl), (Nat.le_of_ble_eq_true rfl)⟩) (As := [.int 1]) (rest := []) rfl dX1_control_82 rfl (Nat.le_of_ble_eq_true rfl) hP hD hS [9, 10] rfl rfl (q0 := 9) (ci := 3) rfl rfl rfl 2 rfl rfl (wf := lopW Γ a b σ ++ setW Γ a2 b2 v) rfl rfl ⟨Nat.zero_le _, Nat.zero_le _⟩ (fun H locs hP hD hS => ?_)
          refine lv_iconst (v := 4) hx hb dX1_control_85 (by decide) ?_
          refine lv_idiv hx hb dX1_control_86 (by decide) ?_
          refine lv_i2l (v := ((fGet v 1) / 4).toInt64) hx hb dX1_control_87 rfl ?_
          refine lv_goto (tgt := 97) hx hb dX1_control_88 (by decide) ?_
          exact hJ_97 _ (by subst e5; subst e4; subst e3; simp [fInte, c_77]) _ _ _ hP hD hS (lv_sub hl [1, 2, 3, 4, 5, 0] rfl)
      refine lv_iload_n hx hb dX1_control_53 rfl (lv_at hl 4 rfl) ?_
      refine lv_if_eq (tgt := 68) hx hb dX1_control_54 (by decide) (fun c_54 => ?_) (fun c_54 => ?_)
      · -- yes
        refine lv_aload_n hx hb dX1_control_68 rfl (lv_at hl 2 rfl) ?_
        refine lv_iconst (v := 0) hx hb dX1_control_69 (by decide) ?_
        refine ca_Vi hh hl.1 (c_X3_get Γ l a2 b2 v 0) (cwV 1 hts gX1_control_X3_get rfl rfl rfl (by decide +kernel) ⟨(Nat.le_of_ble_eq_true rfl), (Nat.le_of_ble_eq_true rfl)⟩) (As := [.int 0]) (rest := []) rfl dX1_control_70 rfl (Nat.le_of_ble_eq_true rfl) hP hD hS [9, 10] rfl rfl (q0 := 9) (ci := 3) rfl rfl rfl 2 rfl rfl (wf := lopW Γ a b σ ++ setW Γ a2 b2 v) rfl rfl ⟨Nat.zero_le _, Nat.zero_le _⟩ (fun H locs hP hD hS => ?_)
        refine lv_i2l (v := (fGet v 0).toInt64) hx hb dX1_control_73 rfl ?_
        exact hJ_74 _ (by subst e4; subst e3; simp [fProp, c_54]) _ _ _ hP hD hS (lv_sub hl [1, 2, 3, 4, 0] rfl)
      · -- no
        refine lv_aload_n hx hb dX1_control_57 rfl (lv_at hl 2 rfl) ?_
        refine lv_iconst (v := 0) hx hb dX1_control_58 (by decide) ?_
        refine ca_Vi hh hl.1 (c_X3_get Γ l a2 b2 v 0) (cwV 1 hts gX1_control_X3_get rfl rfl rfl (by decide +kernel) ⟨(Nat.le_of_ble_eq_true rfl), (Nat.le_of_ble_eq_true rfl)⟩) (As := [.int 0]) (rest := []) rfl dX1_control_59 rfl (Nat.le_of_ble_eq_true rfl) hP hD hS [9, 10] rfl rfl (q0 := 9) (ci := 3) rfl rfl rfl 2 rfl rfl (wf := lopW Γ a b σ ++ setW Γ a2 b2 v) rfl rfl ⟨Nat.zero_le _, Nat.zero_le _⟩ (fun H locs hP hD hS => ?_)
        refine lv_iconst (v := 2) hx hb dX1_control_62 (by decide) ?_
        refine lv_idiv hx hb dX1_control_63 (by decide) ?_
        refine lv_i2l (v := ((fGet v 0) / 2).toInt64) hx hb dX1_control_64 rfl ?_
        refine lv_goto (tgt := 74) hx hb dX1_control_65 (by decide) ?_
        exact hJ_74 _ (by subst e4; subst e3; simp [fProp, c_54]) _ _ _ hP hD hS (lv_sub hl [1, 2, 3, 4, 0] rfl)
    refine lv_iload_n hx hb dX1_control_21 rfl (lv_at hl 0 rfl) ?_
    refine lv_if_ne (tgt := 29) hx hb dX1_control_22 (by decide) (fun c_22 => ?_) (fun c_22 => ?_)
    · -- yes
      refine lv_aload_n hx hb dX1_control_29 rfl (lv_at hl 1 rfl) ?_
      refine va_get (D := gD Γ) (cl := vwCl) (tys := gTy Γ) (ci := 1) (v := .ref (a (b + 1))) (C := RX1) (T := TX1) (N := 9) hx hb hts iX1_control_1 hown hK hP 0 rfl rfl 5 (Nat.le_of_ble_eq_true rfl) (hts (.fieldLink RX1 27 "DeadTimeLoop$Loop" "present" "[I") (List.mem_of_getElem? (i := 1) rfl)) (fun _ h9 => h9) rfl dX1_control_30 ?_
      refine lv_iconst (v := 1) hx hb dX1_control_33 (by decide) ?_
      refine ka_iald (D := gD Γ) (cl := vwCl) (tys := gTy Γ) hx hb hK hP 1 0 rfl rfl 1 (by decide) (by decide) (by decide) (v := ((lPres σ) 1)) rfl dX1_control_34 ?_
      refine lv_goto (tgt := 51) hx hb dX1_control_35 (by decide) ?_
      exact hJ_51 _ (by simp [fFeed, c_22]) _ _ _ hP hD hS (lv_sub hl [1, 2, 3, 0] rfl)
    · -- no
      refine lv_iload_n hx hb dX1_control_25 rfl (lv_at hl 3 rfl) ?_
      refine lv_if_eq (tgt := 38) hx hb dX1_control_26 (by decide) (fun c_26 => ?_) (fun c_26 => ?_)
      · -- yes
        refine lv_aload_n hx hb dX1_control_38 rfl (lv_at hl 1 rfl) ?_
        refine va_get (D := gD Γ) (cl := vwCl) (tys := gTy Γ) (ci := 1) (v := .ref (a (b + 1))) (C := RX1) (T := TX1) (N := 9) hx hb hts iX1_control_1 hown hK hP 0 rfl rfl 5 (Nat.le_of_ble_eq_true rfl) (hts (.fieldLink RX1 27 "DeadTimeLoop$Loop" "present" "[I") (List.mem_of_getElem? (i := 1) rfl)) (fun _ h9 => h9) rfl dX1_control_39 ?_
        refine lv_iconst (v := 3) hx hb dX1_control_42 (by decide) ?_
        refine ka_iald (D := gD Γ) (cl := vwCl) (tys := gTy Γ) hx hb hK hP 1 0 rfl rfl 3 (by decide) (by decide) (by decide) (v := ((lPres σ) 3)) rfl dX1_control_43 ?_
        refine lv_aload_n hx hb dX1_control_44 rfl (lv_at hl 1 rfl) ?_
        refine va_get (D := gD Γ) (cl := vwCl) (tys := gTy Γ) (ci := 1) (v := .ref (a (b + 1))) (C := RX1) (T := TX1) (N := 9) hx hb hts iX1_control_1 hown hK hP 0 rfl rfl 5 (Nat.le_of_ble_eq_true rfl) (hts (.fieldLink RX1 27 "DeadTimeLoop$Loop" "present" "[I") (List.mem_of_getElem? (i := 1) rfl)) (fun _ h9 => h9) rfl dX1_control_45 ?_
        refine lv_iconst (v := 5) hx hb dX1_control_48 (by decide) ?_
        refine ka_iald (D := gD Γ) (cl := vwCl) (tys := gTy Γ) hx hb hK hP 1 0 rfl rfl 5 (by decide) (by decide) (by decide) (v := ((lPres σ) 5)) rfl dX1_control_49 ?_
        refine lv_iadd hx hb dX1_control_50 ?_
        exact hJ_51 _ (by simp [fFeed, c_22, c_26]) _ _ _ hP hD hS (lv_sub hl [1, 2, 3, 0] rfl)
      · -- no
        refine lv_aload_n hx hb dX1_control_29 rfl (lv_at hl 1 rfl) ?_
        refine va_get (D := gD Γ) (cl := vwCl) (tys := gTy Γ) (ci := 1) (v := .ref (a (b + 1))) (C := RX1) (T := TX1) (N := 9) hx hb hts iX1_control_1 hown hK hP 0 rfl rfl 5 (Nat.le_of_ble_eq_true rfl) (hts (.fieldLink RX1 27 "DeadTimeLoop$Loop" "present" "[I") (List.mem_of_getElem? (i := 1) rfl)) (fun _ h9 => h9) rfl dX1_control_30 ?_
        refine lv_iconst (v := 1) hx hb dX1_control_33 (by decide) ?_
        refine ka_iald (D := gD Γ) (cl := vwCl) (tys := gTy Γ) hx hb hK hP 1 0 rfl rfl 1 (by decide) (by decide) (by decide) (v := ((lPres σ) 1)) rfl dX1_control_34 ?_
        refine lv_goto (tgt := 51) hx hb dX1_control_35 (by decide) ?_
        exact hJ_51 _ (by simp [fFeed, c_22, c_26]) _ _ _ hP hD hS (lv_sub hl [1, 2, 3, 0] rfl)
  refine lv_aload_n hx hb dX1_control_0 rfl (lv_at hl 0 rfl) ?_
  refine va_get (D := gD Γ) (cl := vwCl) (tys := gTy Γ) (ci := 1) (v := .ref (a (b + 1))) (C := RX1) (T := TX1) (N := 9) hx hb hts iX1_control_1 hown hK hP 0 rfl rfl 5 (Nat.le_of_ble_eq_true rfl) (hts (.fieldLink RX1 27 "DeadTimeLoop$Loop" "present" "[I") (List.mem_of_getElem? (i := 1) rfl)) (fun _ h9 => h9) rfl dX1_control_1 ?_
  refine lv_bipush (v := 9) hx hb dX1_control_4 (by decide) ?_
  refine ka_iald (D := gD Γ) (cl := vwCl) (tys := gTy Γ) hx hb hK hP 1 0 rfl rfl 9 (by decide) (by decide) (by decide) (v := ((lPres σ) 9)) rfl dX1_control_6 ?_
  refine lv_iconst (v := 1) hx hb dX1_control_7 (by decide) ?_
  refine lv_icmp_ne (tgt := 19) hx hb dX1_control_8 (by decide) (fun c_8 => ?_) (fun c_8 => ?_)
  · -- yes
    refine lv_iconst (v := 0) hx hb dX1_control_19 (by decide) ?_
    exact hJ_20 _ (by simp [fLess, c_8]) _ _ _ hP hD hS (lv_sub hl [0, 1, 2] rfl)
  · -- no
    refine lv_iload_n hx hb dX1_control_11 rfl (lv_at hl 2 rfl) ?_
    refine lv_if_ne (tgt := 19) hx hb dX1_control_12 (by decide) (fun c_12 => ?_) (fun c_12 => ?_)
    · -- yes
      refine lv_iconst (v := 0) hx hb dX1_control_19 (by decide) ?_
      exact hJ_20 _ (by simp [fLess, c_8, c_12]) _ _ _ hP hD hS (lv_sub hl [0, 1, 2] rfl)
    · -- no
      refine lv_iconst (v := 1) hx hb dX1_control_15 (by decide) ?_
      refine lv_goto (tgt := 20) hx hb dX1_control_16 (by decide) ?_
      exact hJ_20 _ (by simp [fLess, c_8, c_12]) _ _ _ hP hD hS (lv_sub hl [0, 1, 2] rfl)
