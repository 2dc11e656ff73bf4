/-! the law's words: the script's number at a place, calls of the three checks -/
def PX (b L : Nat) (xs : Nat → Int32) (av : List Value) (sz : Nat) : Array Value → State → Prop := va_Pc av (fun U => U.heap.size = sz ∧ va_X b L xs U U.heap ∧ b < U.heap.size)
theorem PX.blind {b L : Nat} {xs : Nat → Int32} {av : List Value} {sz : Nat} : FrameBlind (PX b L xs av sz) := by
  intro a U g mk q
  obtain ⟨q0, q1, q2, q3⟩ := q
  exact ⟨q0, q1, va_X.moved (u := U) (U := U.calling g mk a) (Vm.Alike.refl U.vm) q2, q3⟩
def rm_L_cell : Room := { frames := 0, cells := 0, slots := 0, locals := 0 }
/-- the end of cell -/
theorem cell_end {l : Launch} {p : Program} {e : Env} {s : State} {m : MethodId} {args : Array Value} {below : List Frame} {meth : Method} {c : Code} {A : Nat → Prop} {Q : State → Prop} {H : Heap} {locs : List Loc} {ls : Array Slot} {av : List Value} {v : Int32} (hQ : Q = MQ below (va_Qi (fun (x : Int32) (_ : Unit) => ∃ C : Nat, C < 2147483648 ∧ x = nI C) (fun _ _ => True) (va_A [] s.heap.size)) av.toArray s 0 0 (va_A [] s.heap.size)) (ha : args = av.toArray) (hx : p.tables.exec = Jvm.exec) (hb : c.code = cL_cell) (hr : meth.sig.returnType = some .int) (hlk : meth.locks = false) (hAe : A = va_A [] s.heap.size) (hown : s.vm.findClass RL = some m.cls) (hts : ∀ w ∈ wsL_cell, w.before args s = true) (hS : va_S A s.heap H locs) : W p l e rm_L_cell s m args below meth c H locs 0 0 Q (F0 m 20 ls [.int v]) := by
  refine lv_ldc (v := 2147483647) hx hb hown (hts (.constant RL 8 (2147483647)) (List.mem_of_getElem? (i := 2) rfl)) dL_cell_20 ?_
  refine lv_iand hx hb dL_cell_22 ?_
  obtain ⟨C, hC, eC⟩ := pk_andE v (m := 2147483647) 31 (by decide +kernel)
  subst hQ; subst ha; subst hAe
  exact W.iret hx hb hr (fun t ht hW => ⟨⟨_, (), rfl, ⟨C, by omega, eC⟩, trivial⟩, hS.F ht⟩) hS.2.2 dL_cell_23
theorem c_L_cell (l : Launch) (b L k : Nat) (xs : Nat → Int32) (hL : L ≤ 260) (hk : k ≤ 20) (sz : Nat) : Met l yL_cell wsL_cell rm_L_cell (PX b L xs [.ref b, .int (nI k)] sz) (va_Qi (fun (x : Int32) (_ : Unit) => ∃ C : Nat, C < 2147483648 ∧ x = nI C) (fun _ _ => True) (va_A [] sz)) 0 0 (va_A [] sz) := by
  refine va_MetF (cc := cL_cell) (maxL := 2) (ret := some .int) (by decide +kernel) rfl ?_
  intro p e s m args below meth c s₁ B hml hv
  obtain ⟨rfl, hsz, hX, hbl⟩ := hv
  subst hsz
  have hl := lv_entry [Value.ref b, .int (nI k)] (n := 2) (Nat.le_of_ble_eq_true rfl)
  rw [lg_entry_eq]
  generalize (lg_sl ([Value.ref b, .int (nI k)]) ++ List.replicate (2 - (lg_sl ([Value.ref b, .int (nI k)])).length) Slot.unset).toArray = ls at hl ⊢
  have hl : lv_has ls 2 [(0, .ref b), (1, .int (nI k))] := hl
  have hx := B.exec
  have hb : c.code = cL_cell := B.bytes
  have hr : meth.sig.returnType = some .int := B.returns
  have hts : ∀ w ∈ wsL_cell, w.before [Value.ref b, .int (nI k)].toArray s = true := atoms_spec (ws := wsL_cell) B.pre
  have hown : s.vm.findClass RL = some m.cls := findClass_of_methodNamed B.named
  have hlk := B.notSynchronized
  have hbA : ¬ va_A [] s.heap.size b := by
    rintro (⟨j, e, hj⟩ | h)
    · simp at hj
    · exact absurd hbl (Nat.not_lt.mpr h)
  have hS : va_S (va_A [] s.heap.size) s.heap s.heap [] := va_S.rf
  refine lv_iload_n hx hb dL_cell_0 rfl (lv_at hl 1 rfl) ?_
  refine lv_aload_n hx hb dL_cell_1 rfl (lv_at hl 0 rfl) ?_
  refine va_slen hx hb hX hbl hbA hS dL_cell_2 ?_
  refine lv_icmp_ge (tgt := 12) hx hb dL_cell_3 (by decide) (fun c_ => ?_) (fun c_ => ?_)
  · refine lv_ldc (v := 15485563) hx hb hown (hts (.constant RL 7 (15485563)) (List.mem_of_getElem? (i := 1) rfl)) dL_cell_12 ?_
    refine lv_iload_n hx hb dL_cell_14 rfl (lv_at hl 1 rfl) ?_
    refine lv_imul hx hb dL_cell_15 ?_
    refine lv_sipush (v := 227) hx hb dL_cell_16 (by decide) ?_
    refine lv_iadd hx hb dL_cell_19 ?_
    exact cell_end (av := [Value.ref b, .int (nI k)]) rfl rfl hx hb hr hlk rfl hown hts hS
  · have hkL : k < L := lt_of_nle (i := k) (k := L) c_ (by omega) (by omega)
    refine lv_aload_n hx hb dL_cell_6 rfl (lv_at hl 0 rfl) ?_
    refine lv_iload_n hx hb dL_cell_7 rfl (lv_at hl 1 rfl) ?_
    refine va_sld hx hb hX hbl hbA hS (vp_in_nI hkL (by omega)) dL_cell_8 ?_
    refine lv_goto (tgt := 20) hx hb dL_cell_9 (by decide) ?_
    exact cell_end (av := [Value.ref b, .int (nI k)]) rfl rfl hx hb hr hlk rfl hown hts hS
section LAWC
variable {Γ : gT} {p : Program} {l : Launch} {e : Env} {R : Room} {s : State} {m : MethodId} {args : Array Value} {below : List Frame} {meth : Method} {c : Code} {H : Heap} {locs : List Loc} {cells slots : Nat} {Q : State → Prop}
variable {cc bytes : ByteArray} {pc : Nat} {ls : Array Slot} {st rest As : List Value} {A : Nat → Prop} {Ts wsy : List Cond} {own : String} {nL maxL index n : Nat} {y : MethodName} {ret : Option FieldType} {rmy : Room}
/-- a check called: what it makes is new -/
theorem ca_C {r : Int32} {mc ms : Nat} (h : Hd Γ p s m args c cc own nL Ts A) (hO : gAO s) (hsz : ls.size = nL) (hM : Cs Γ l y wsy rmy As r mc ms) (cw : CallB R s args own index y bytes maxL ret wsy rmy mc ms n ∧ (Cond.static y).before args s = true) (hn : As.length = n) (hdg : decode cc pc = .ok (.invokestatic index, 3)) (hst : st = As.reverse ++ rest) (hW : (rest.map fun v => v.category).sum ≤ 8)
    (hS : va_S A s.heap H locs) (hcs : cells + mc ≤ R.cells ∧ slots + ms ≤ R.slots)
    (kk : ∀ (H1 : Heap) (locs1 : List Loc), va_S A s.heap H1 locs1 → W p l e R s m args below meth c H1 locs1 (cells + mc) (slots + ms) Q (F0 m (pc + 3) ls (.int r :: rest))) : W p l e R s m args below meth c H locs cells slots Q (F0 m pc ls st) := by
  subst hst
  have hP : va_P (gD Γ) vwCl [] H := fun k q h => by simp at h
  have hD : va_D A [] := ⟨fun i j p q h => by simp at h, fun k q h => by simp at h⟩
  have hF := va_free (wc := []) hD hS h.2.2.1 [] rfl
  refine va_calli (va_runS (As := As) (rest := rest) h.1 (hM H.size) cw ⟨PN.blind, fun U hU hW => ⟨h.preS hP hD hS [] rfl rfl U hU hW, over_moved hW.alike hO⟩⟩ rfl hn hsz rfl (by show 2 * 0 + _ ≤ 8; omega) hdg hcs) hS (fun q _ h => hF q h) hF (fun r' u t H1 locs1 ht hvm hw hB hz1 hk1 hS1 => ?_)
  subst hw
  exact kk H1 locs1 hS1
/-- the script's number at a place -/
theorem ca_cell {b L k : Nat} {xs : Nat → Int32} (h : Hd Γ p s m args c cc own nL Ts A) (hsz : ls.size = nL) (hX : va_X b L xs s s.heap) (hbl : b < s.heap.size) (hbA : ¬ A b) (hL : L ≤ 260) (hk : k ≤ 20) (cw : CallB R s args own index yL_cell bytes maxL ret wsL_cell rm_L_cell 0 0 2 ∧ (Cond.static yL_cell).before args s = true) (hdg : decode cc pc = .ok (.invokestatic index, 3)) (hst : st = [.int (nI k), .ref b] ++ rest) (hW : (rest.map fun v => v.category).sum ≤ 8)
    (hS : va_S A s.heap H locs) (hcs : cells ≤ R.cells ∧ slots ≤ R.slots)
    (kk : ∀ (C : Nat) (H1 : Heap) (locs1 : List Loc), C < 2147483648 → va_S A s.heap H1 locs1 → W p l e R s m args below meth c H1 locs1 cells slots Q (F0 m (pc + 3) ls (.int (nI C) :: rest))) : W p l e R s m args below meth c H locs cells slots Q (F0 m pc ls st) := by
  subst hst
  have hD : va_D A [] := ⟨fun i j p q h => by simp at h, fun k q h => by simp at h⟩
  have hF := va_free (wc := []) hD hS h.2.2.1 [] rfl
  refine va_calli (va_runS (As := [.ref b, .int (nI k)]) (rest := rest) h.1 (c_L_cell l b L k xs hL hk H.size) cw ⟨PX.blind, fun U hU hW => ⟨rfl, by rw [hU], by rw [hU]; exact (hX.kept (hS.2.1 b hbl hbA)).moved hW.alike, by rw [hU]; exact Nat.lt_of_lt_of_le hbl hS.1⟩⟩ rfl rfl hsz rfl (by show 2 * 0 + _ ≤ 8; omega) hdg (by simpa using hcs)) hS (fun q _ h => hF q h) hF (fun r' u t H1 locs1 ht hvm hw hB hz1 hk1 hS1 => ?_)
  obtain ⟨C, hC, rfl⟩ := hw
  exact kk C H1 locs1 hC hS1
end LAWC
