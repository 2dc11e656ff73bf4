/-! the law's body: five times the three checks -/
set_option maxHeartbeats 4000000 in
set_option maxRecDepth 100000 in
theorem law_loop {Γ : gT} {p : Program} {l : Launch} {e : Env} {s : State} {m : MethodId} {below : List Frame} {meth : Method} {c : Code} {A : Nat → Prop} {b L : Nat} {xs : Nat → Int32} {Q : State → Prop} (hh : Hd Γ p s m #[.ref b] c cL_law RL 3 wsL_law A) (hO : gAO s) (hX : va_X b L xs s s.heap) (hbl : b < s.heap.size) (hbA : ¬ A b) (hL : L ≤ 260)
    (fin : ∀ (H : Heap) (locs : List Loc) (ls : Array Slot) (cells slots : Nat), cells ≤ 600000 → slots ≤ 7302250 → va_S A s.heap H locs → lv_has ls 3 [(0, .ref b), (1, .int 1)] → W p l e room_1 s m #[.ref b] below meth c H locs cells slots Q (F0 m 63 ls [])) :
    ∀ (n i : Nat), i ≤ 5 → 6 ≤ i + n → ∀ (H : Heap) (locs : List Loc) (ls : Array Slot), va_S A s.heap H locs → lv_has ls 3 [(0, .ref b), (1, .int 1), (2, .int (nI i))] → W p l e room_1 s m #[.ref b] below meth c H locs (192 * i) (11097 * i) Q (F0 m 4 ls []) := by
  obtain ⟨hx, hb, hml, hown, hts⟩ := id hh.1
  intro n
  induction n with
  | zero =>
    intro i h1 h2
    exact absurd h2 (by omega)
  | succ n ih =>
    intro i hi hin H locs ls hS hl
    refine lv_iload_n hx hb dL_law_4 rfl (lv_at hl 2 rfl) ?_
    refine lv_iconst (v := 5) hx hb dL_law_5 (by decide) ?_
    refine lv_icmp_ge (tgt := 63) hx hb dL_law_6 (by decide) (fun c_ => ?_) (fun c_ => ?_)
    · exact fin H locs ls _ _ (by omega) (by omega) hS (lv_sub hl [0, 1] rfl)
    · have hlt : i < 5 := lt_of_nle (i := i) (k := 5) c_ (by omega) (by decide)
      have r1 : ∀ a b : Nat, a ≤ 960 → b ≤ 55485 → a ≤ room_1.cells ∧ b ≤ room_1.slots := fun a b h1 h2 => ⟨Nat.le_trans h1 (Nat.le_of_ble_eq_true rfl), Nat.le_trans h2 (Nat.le_of_ble_eq_true rfl)⟩
      refine lv_iload_n hx hb dL_law_9 rfl (lv_at hl 1 rfl) ?_
      refine lv_if_eq (tgt := 63) hx hb dL_law_10 (by decide) (fun c => absurd c (by decide)) (fun _ => ?_)
      refine lv_aload_n hx hb dL_law_13 rfl (lv_at hl 0 rfl) ?_
      refine lv_iload_n hx hb dL_law_14 rfl (lv_at hl 2 rfl) ?_
      refine ca_cell (k := i) (rest := []) hh hl.1 hX hbl hbA hL (by omega) (va_cwS 2 hts gL_law_L_cell rfl rfl rfl (by decide +kernel) ⟨(Nat.le_of_ble_eq_true rfl), (Nat.le_of_ble_eq_true rfl)⟩) dL_law_15 rfl (Nat.le_of_ble_eq_true rfl) hS (r1 _ _ (by omega) (by omega)) (fun C1 H locs hC1 hS => ?_)
      refine ca_C (As := [.int (nI C1)]) (rest := []) hh hO hl.1 (c_L_isExact Γ l C1 hC1) (va_cwS 1 hts gL_law_L_isExact rfl rfl rfl (by decide +kernel) ⟨(Nat.le_of_ble_eq_true rfl), (Nat.le_of_ble_eq_true rfl)⟩) rfl dL_law_18 rfl (Nat.le_of_ble_eq_true rfl) hS (r1 _ _ (by omega) (by omega)) (fun H locs hS => ?_)
      refine lv_if_eq (tgt := 55) hx hb dL_law_21 (by decide) (fun c => absurd c (by decide)) (fun _ => ?_)
      refine lv_aload_n hx hb dL_law_24 rfl (lv_at hl 0 rfl) ?_
      refine lv_iconst (v := 5) hx hb dL_law_25 (by decide) ?_
      refine lv_iload_n hx hb dL_law_26 rfl (lv_at hl 2 rfl) ?_
      refine lv_iadd hx hb dL_law_27 ?_
      refine W.eq (g2 := F0 m 28 ls [.int (nI (5 + i)), .ref b]) (by rw [show (5 : Int32) + nI i = nI (5 + i) from nI_add 5 i]) ?_
      refine ca_cell (k := 5 + i) (rest := []) hh hl.1 hX hbl hbA hL (by omega) (va_cwS 2 hts gL_law_L_cell rfl rfl rfl (by decide +kernel) ⟨(Nat.le_of_ble_eq_true rfl), (Nat.le_of_ble_eq_true rfl)⟩) dL_law_28 rfl (Nat.le_of_ble_eq_true rfl) hS (r1 _ _ (by omega) (by omega)) (fun C2 H locs hC2 hS => ?_)
      refine ca_C (As := [.int (nI C2)]) (rest := []) hh hO hl.1 (c_L_isAhead Γ l C2 hC2) (va_cwS 1 hts gL_law_L_isAhead rfl rfl rfl (by decide +kernel) ⟨(Nat.le_of_ble_eq_true rfl), (Nat.le_of_ble_eq_true rfl)⟩) rfl dL_law_31 rfl (Nat.le_of_ble_eq_true rfl) hS (r1 _ _ (by omega) (by omega)) (fun H locs hS => ?_)
      refine lv_if_eq (tgt := 55) hx hb dL_law_34 (by decide) (fun c => absurd c (by decide)) (fun _ => ?_)
      refine lv_aload_n hx hb dL_law_37 rfl (lv_at hl 0 rfl) ?_
      refine lv_bipush (v := 10) hx hb dL_law_38 (by decide) ?_
      refine lv_iload_n hx hb dL_law_40 rfl (lv_at hl 2 rfl) ?_
      refine lv_iadd hx hb dL_law_41 ?_
      refine W.eq (g2 := F0 m 42 ls [.int (nI (10 + i)), .ref b]) (by rw [show (10 : Int32) + nI i = nI (10 + i) from nI_add 10 i]) ?_
      refine ca_cell (k := 10 + i) (rest := []) hh hl.1 hX hbl hbA hL (by omega) (va_cwS 2 hts gL_law_L_cell rfl rfl rfl (by decide +kernel) ⟨(Nat.le_of_ble_eq_true rfl), (Nat.le_of_ble_eq_true rfl)⟩) dL_law_42 rfl (Nat.le_of_ble_eq_true rfl) hS (r1 _ _ (by omega) (by omega)) (fun C3 H locs hC3 hS => ?_)
      refine ca_C (As := [.int (nI C3)]) (rest := []) hh hO hl.1 (c_L_isBounded Γ l C3 hC3) (va_cwS 1 hts gL_law_L_isBounded rfl rfl rfl (by decide +kernel) ⟨(Nat.le_of_ble_eq_true rfl), (Nat.le_of_ble_eq_true rfl)⟩) rfl dL_law_45 rfl (Nat.le_of_ble_eq_true rfl) hS (r1 _ _ (by omega) (by omega)) (fun H locs hS => ?_)
      refine lv_if_eq (tgt := 55) hx hb dL_law_48 (by decide) (fun c => absurd c (by decide)) (fun _ => ?_)
      refine lv_iconst (v := 1) hx hb dL_law_51 (by decide) ?_
      refine lv_goto (tgt := 56) hx hb dL_law_52 (by decide) ?_
      refine lv_istore_n (lv' := [(1, .int 1), (0, .ref b), (2, .int (nI i))]) hx hb dL_law_56 rfl hl (by decide) rfl (fun ls hl => ?_)
      refine lv_iinc (v := nI (i + 1)) (lv' := [(2, .int (nI (i + 1))), (1, .int 1), (0, .ref b)]) hx hb dL_law_57 hl (k := 2) rfl (nI_add i 1) (by decide) rfl (fun ls hl => ?_)
      refine lv_goto (tgt := 4) hx hb dL_law_60 (by decide) ?_
      have e1 : 192 * i + 64 + 64 + 64 = 192 * (i + 1) := by omega
      have e2 : 11097 * i + 3699 + 3699 + 3699 = 11097 * (i + 1) := by omega
      rw [e1, e2]
      exact ih (i + 1) (by omega) (by omega) H locs ls hS (lv_sub hl [2, 1, 0] rfl)
