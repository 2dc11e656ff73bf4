/-! the row of rows -/
theorem row_step {D : va_G} {cl : List vw_C} {ws : va_W} {Fh : Heap} {A : Nat → Prop} {q : Nat} {c : ClassId} {z : vp_A} (P : va_P D cl ws Fh) (hD : va_D A ws) (B : ∀ (k : Nat) (x : Nat × va_E), ws[k]? = some x → x.1 < q) (hc : Fh[q]? = some (vp_cell c z)) (hAq : A q) : va_P D cl (ws ++ [(q, .inl (c, z))]) Fh ∧ va_D A (ws ++ [(q, .inl (c, z))]) ∧ ∀ (k : Nat) (x : Nat × va_E), (ws ++ [(q, (.inl (c, z) : va_E))])[k]? = some x → x.1 < q + 1 := by
  have one : ∀ (k : Nat) (x : Nat × va_E), [(q, (.inl (c, z) : va_E))][k]? = some x → k = 0 ∧ x = (q, .inl (c, z)) := by
    intro k x hk
    have hlt : k < 1 := (List.getElem?_eq_some_iff.mp hk).1
    obtain rfl : k = 0 := by omega
    exact ⟨rfl, (Option.some.inj hk).symm⟩
  refine ⟨P.app (fun k x hk => ?_), hD.app ⟨fun i j x y hi hj _ => by rw [(one i x hi).1, (one j y hj).1], fun k x hk => by rw [(one k x hk).2]; exact hAq⟩ (fun i j x y hi hj => ?_), fun k x hk => ?_⟩
  · rw [(one k x hk).2]; exact hc
  · rw [(one j y hj).2]; exact Nat.ne_of_lt (B i x hi)
  · by_cases hl : k < ws.length
    · rw [List.getElem?_append_left hl] at hk
      exact Nat.lt_succ_of_lt (B k x hk)
    · rw [List.getElem?_append_right (by omega)] at hk
      rw [(one _ x hk).2]
      exact Nat.lt_succ_self q
theorem out_rows (c : ClassId) (h0 : Nat) : ∀ i : Nat, Jvm.Free.Multi.outerC c 6 h0 i = arrV c 6 (fun j => va_rf (if j < i then some (h0 + 1 + j) else none))
  | 0 => by
    show ({ cls := c, slots := Array.replicate 6 .null, vm := .none } : Cell) = _
    rw [arrV_new]
    refine congrArg (arrV c 6) (funext fun j => ?_)
    rw [if_neg (Nat.not_lt_zero j)]
    rfl
  | i + 1 => by
    show (Jvm.Free.Multi.outerC c 6 h0 i).setSlot i (.ref (h0 + 1 + i)) = _
    rw [out_rows c h0 i, arrV_store]
    refine congrArg (arrV c 6) (funext fun j => ?_)
    unfold updV
    by_cases e : j = i
    · rw [if_pos e, e, if_pos (Nat.lt_succ_self i)]
      rfl
    · rw [if_neg e]
      show va_rf (if j < i then some (h0 + 1 + j) else none) = _
      by_cases h : j < i
      · rw [if_pos h, if_pos (Nat.lt_succ_of_lt h)]
      · rw [if_neg h, if_neg (by omega)]
def rowsW (Γ : gT) (q : Nat) (r : Nat → Nat) : va_W := [(q, .inl (cR Γ, 6, .inr (.inr (.inr (.inr (fun i => if i < 6 then some (r i) else none)))))), (r 0, .inl (cI Γ, 15, .inl (fun _ => 0))), (r 1, .inl (cI Γ, 15, .inl (fun _ => 0))), (r 2, .inl (cI Γ, 15, .inl (fun _ => 0))), (r 3, .inl (cI Γ, 15, .inl (fun _ => 0))), (r 4, .inl (cI Γ, 15, .inl (fun _ => 0))), (r 5, .inl (cI Γ, 15, .inl (fun _ => 0)))]
theorem na_rows {Γ : gT} {p : Program} {l : Launch} {e : Env} {R : Room} {s : State} {m : MethodId} {args : Array Value} {below : List Frame} {meth : Method} {c : Code} {H : Heap} {locs : List Loc} {cells slots : Nat} {Q : State → Prop} {cc : ByteArray} {own : String} {nL pc : Nat} {ls : Array Slot} {rest : List Value} {Ts : List Cond} {A : Nat → Prop} {ws : va_W} (h : Hd Γ p s m args c cc own nL Ts A) (hO : gAO s) {index : Nat} (hcl : (Cond.classLink own index "[[I").before args s = true) (harr : (Cond.arrayClass .int).before args s = true)
    (hP : va_P (gD Γ) vwCl ws H) (hD : va_D A ws) (hS : va_S A s.heap H locs) (hcells : cells + 7 ≤ R.cells) (hslots : slots + 96 ≤ R.slots) (hdg : decode cc pc = .ok (.multianewarray index 2, 4))
    (kk : ∀ (q : Nat) (r : Nat → Nat) (H1 : Heap), va_P (gD Γ) vwCl (ws ++ rowsW Γ q r) H1 → va_D A (ws ++ rowsW Γ q r) → va_S A s.heap H1 locs → W p l e R s m args below meth c H1 locs (cells + 7) (slots + 96) Q (F0 m (pc + 4) ls (.ref q :: rest))) : W p l e R s m args below meth c H locs cells slots Q (F0 m pc ls (.int 15 :: .int 6 :: rest)) := by
  obtain ⟨⟨hx, hb, -, hown, -⟩, hK, hA, -⟩ := h
  have en : "[" ++ (FieldType.array FieldType.int).toString = "[[I" := by decide +kernel
  intro T hT X
  subst hT
  obtain ⟨vm₁, cA, comp, -, fA, fC, -, -, X', step⟩ := X.multianewarray2F (ty := .int) hx hown (by rw [en]; exact hcl) (over_moved (Vm.Alike.refl s.vm) hO) harr (g := F0 m pc ls (.int 15 :: .int 6 :: rest)) rfl (by rw [hb]; exact hdg) rfl (by decide) (by decide) (by decide) (by decide) (by decide) rfl rfl hcells hslots
  obtain rfl : cA = cR Γ := Option.some.inj (fA.symm.trans (hK.2 3 (cR Γ, .array .int) rfl).2)
  obtain rfl : comp = cI Γ := Option.some.inj (fC.symm.trans (hK.2 0 (cI Γ, .int) rfl).2)
  obtain ⟨F, hF⟩ : ∃ F : State, F = Jvm.Free.Multi.fill (T.setVm vm₁) (cR Γ) (cI Γ) 6 15 (defaultValue .int) 6 := ⟨_, rfl⟩
  have X1 : Stand p l e R s m args below meth c F locs (cells + 7) (slots + 96) := by rw [hF]; exact X'
  have step1 : ∀ target, Steps p.tables e below (F.setTop (F0 m (pc + 4) ls (.ref T.heap.size :: rest))) target → Steps p.tables e below (T.setTop (F0 m pc ls (.int 15 :: .int 6 :: rest))) target := by rw [hF]; exact step
  obtain ⟨f1, f2, -, -⟩ := Jvm.Free.Multi.fill_facts (T.setVm vm₁) (cR Γ) (cI Γ) 6 15 (defaultValue .int) 6
  rw [← hF] at f1 f2
  have f1 : F.heap.size = T.heap.size + 1 + 6 := f1
  have f2 : F.heap[T.heap.size]? = some (Jvm.Free.Multi.outerC (cR Γ) 6 T.heap.size 6) := f2
  have old : ∀ x : Nat, x < T.heap.size → F.heap[x]? = T.heap[x]? := fun x hx => by
    have q := Jvm.Free.Multi.fill_old (T.setVm vm₁) (cR Γ) (cI Γ) 6 15 (defaultValue .int) (a := x) hx 6
    rw [← hF] at q
    exact q
  have row : ∀ j : Nat, j < 6 → F.heap[T.heap.size + 1 + j]? = some (vp_cell (cI Γ) (15, .inl (fun _ => 0))) := fun j hj => by
    have q := Jvm.Free.Multi.fill_inner (T.setVm vm₁) (cR Γ) (cI Γ) 6 15 (defaultValue .int) 6 j hj
    rw [← hF] at q
    rw [vp_cell_i, ← arrV_new]
    exact q
  have out : F.heap[T.heap.size]? = some (vp_cell (cR Γ) (6, .inr (.inr (.inr (.inr (fun i => if i < 6 then some (T.heap.size + 1 + i) else none)))))) := by
    rw [vp_cell_q, ← out_rows]
    exact f2
  have hA' : ∀ j : Nat, A (T.heap.size + j) := fun j => hA _ (Nat.le_trans hS.1 (Nat.le_add_right _ _))
  have P0 : va_P (gD Γ) vwCl ws F.heap := hP.kept (fun k x hx => old x.1 ((hP k x hx).lt))
  obtain ⟨P1, D1, B1⟩ := row_step P0 hD (fun k x hx => (hP k x hx).lt) out (hA' 0)
  obtain ⟨P2, D2, B2⟩ := row_step P1 D1 B1 (row 0 (by decide)) (hA' 1)
  obtain ⟨P3, D3, B3⟩ := row_step P2 D2 B2 (row 1 (by decide)) (hA' 2)
  obtain ⟨P4, D4, B4⟩ := row_step P3 D3 B3 (row 2 (by decide)) (hA' 3)
  obtain ⟨P5, D5, B5⟩ := row_step P4 D4 B4 (row 3 (by decide)) (hA' 4)
  obtain ⟨P6, D6, B6⟩ := row_step P5 D5 B5 (row 4 (by decide)) (hA' 5)
  obtain ⟨P7, D7, B7⟩ := row_step P6 D6 B6 (row 5 (by decide)) (hA' 6)
  simp only [List.append_assoc, List.singleton_append] at P7 D7
  obtain ⟨t, a1, b1⟩ := kk T.heap.size (fun i => T.heap.size + 1 + i) F.heap P7 D7 ⟨by rw [f1]; have := hS.1; omega, fun x h1 h2 => (old x (Nat.lt_of_lt_of_le h1 hS.1)).trans (hS.2.1 x h1 h2), hS.2.2⟩ F rfl X1
  exact ⟨t, step1 t a1, b1⟩
def rm_X0_init : Room := { frames := 1, cells := 7, slots := 96, locals := 28 }
theorem iX0_init_0 : ∀ w ∈ u_ws RX0 TX0 2, w ∈ wsX0_init := fun w h => (List.mem_cons_of_mem _ (List.mem_append_right _ h))
set_option maxHeartbeats 4000000 in
set_option maxRecDepth 100000 in
theorem c_X0_init (Γ : gT) (l : Launch) (h0 : Nat) : Cn Γ l yX0_init wsX0_init rm_X0_init h0 [(h0, .inr (0, [.null, .int 0]))] 7 96 (fun a => chgW Γ a 0 chg0) := by
  refine Cn.of (cc := cX0_init) (own := RX0) (nL := 1) (ret := none) (by decide +kernel) rfl rfl rfl (Nat.le_of_ble_eq_true rfl) ?_
  intro p e s m args below meth c A Q ls ha hAe hQ hx hb hml hr hts hown hlk hin hP hK hD hS hA hG hO hl
  obtain ⟨H, hHe⟩ : ∃ H : Heap, H = s.heap := ⟨_, rfl⟩
  rw [← hHe] at hP ⊢
  have hS : va_S A s.heap H [] := by rw [hHe]; exact hS
  have hh : Hd Γ p s m args c cX0_init RX0 1 wsX0_init A := ⟨⟨hx, hb, hml, hown, hts⟩, hK, hA, hG⟩
  refine lv_aload_n hx hb dX0_init_0 rfl (lv_at hl 0 rfl) ?_
  refine W.objInit hx hb hown (hts (.methodLink RX0 3 objectInit) (List.mem_of_getElem? (i := 1) rfl)) (hts (.instanceMethod objectInit) (List.mem_of_getElem? (i := 2) rfl)) (hts (.code objectInit ⟨#[0xb1]⟩ 1 none) (List.mem_of_getElem? (i := 3) rfl)) rfl (by rw [hml]; exact hl.1) rfl dX0_init_1 (Nat.le_of_ble_eq_true rfl) (Nat.le_of_ble_eq_true rfl) ?_
  refine W.eq (g2 := F0 m 4 ls []) rfl ?_
  refine lv_aload_n hx hb dX0_init_4 rfl (lv_at hl 0 rfl) ?_
  refine lv_bipush (v := 6) hx hb dX0_init_5 (by decide) ?_
  refine lv_bipush (v := 15) hx hb dX0_init_7 (by decide) ?_
  refine na_rows hh hO (hts (.classLink RX0 9 "[[I") (List.mem_of_getElem? (i := 4) rfl)) (hts (.arrayClass .int) (List.mem_of_getElem? (i := 5) rfl)) hP hD hS (Nat.le_of_ble_eq_true rfl) (Nat.le_of_ble_eq_true rfl) dX0_init_9 (fun q r H hP hD hS => ?_)
  have hP : va_P (gD Γ) vwCl ([(h0, .inr (0, [.null, .int 0]))] ++ rowsW Γ q r) H := hP
  have hD : va_D A ([(h0, .inr (0, [.null, .int 0]))] ++ rowsW Γ q r) := hD
  refine va_putF (D := gD Γ) (cl := vwCl) (tys := gTy Γ) (ci := 0) (v := .ref q) (ty := tyX0 0) (C := RX0) (T := TX0) (N := 2) hx hb hts iX0_init_0 tyX0 tyX0_ok nmX0 hown hK hP hD hS 0 rfl rfl 0 (Nat.le_of_ble_eq_true rfl) (hts (.fieldLink RX0 11 "DeadTimeLoop$Changes" "rows" "[[I") (List.mem_of_getElem? (i := 6) rfl)) (fun _ h9 => h9) rfl hin rfl (tyX0_ok 0 (Nat.le_of_ble_eq_true rfl)) rfl rfl (Nat.le_of_ble_eq_true rfl) dX0_init_13 (fun H locs hP hD hS => ?_)
  have hP : va_P (gD Γ) vwCl ([(h0, .inr (0, [.ref q, .int 0]))] ++ rowsW Γ q r) H := hP
  have hD : va_D A ([(h0, .inr (0, [.ref q, .int 0]))] ++ rowsW Γ q r) := hD
  refine lv_aload_n hx hb dX0_init_16 rfl (lv_at hl 0 rfl) ?_
  refine lv_iconst (v := 0) hx hb dX0_init_17 (by decide) ?_
  refine va_put (D := gD Γ) (cl := vwCl) (tys := gTy Γ) (ci := 0) (v := .int 0) (ty := tyX0 1) (C := RX0) (T := TX0) (N := 2) hx hb hts iX0_init_0 tyX0 tyX0_ok nmX0 hown hK hP hD hS 0 rfl rfl 1 (Nat.le_of_ble_eq_true rfl) (hts (.fieldLink RX0 16 "DeadTimeLoop$Changes" "count" "I") (List.mem_of_getElem? (i := 7) rfl)) (fun _ h9 => h9) rfl (tyX0_ok 1 (Nat.le_of_ble_eq_true rfl)) rfl rfl (Nat.le_of_ble_eq_true rfl) dX0_init_18 (fun H locs hP hD hS => ?_)
  have hP : va_P (gD Γ) vwCl ([(h0, .inr (0, [.ref q, .int 0]))] ++ rowsW Γ q r) H := hP
  have hD : va_D A ([(h0, .inr (0, [.ref q, .int 0]))] ++ rowsW Γ q r) := hD
  have ew : ([(h0, .inr (0, [.ref q, .int 0]))] : va_W) ++ rowsW Γ q r = chgW Γ (fun j => ([h0, q, r 0, r 1, r 2, r 3, r 4, r 5] : List Nat).getD j 0) 0 chg0 := by
    have f : (fun i => if i < 6 then some (r i) else none) = (fun i => if i < 6 then some ((fun j => ([h0, q, r 0, r 1, r 2, r 3, r 4, r 5] : List Nat).getD j 0) (0 + 2 + i)) else none) := by
      funext i
      by_cases hi : i < 6
      · rw [if_pos hi, if_pos hi]
        rcases (show i = 0 ∨ i = 1 ∨ i = 2 ∨ i = 3 ∨ i = 4 ∨ i = 5 by omega) with rfl | rfl | rfl | rfl | rfl | rfl <;> rfl
      · rw [if_neg hi, if_neg hi]
    unfold rowsW
    rw [f]
    rfl
  rw [ew] at hP hD
  exact re_c _ hQ ha hx hb hr hlk hAe rfl hP hD hS (Nat.le_of_ble_eq_true rfl) (Nat.le_of_ble_eq_true rfl) dX0_init_21
