/-! constructors: the object's cell is there, the cells that it makes come with their addresses -/
def gAO (U : State) : Prop := (Cond.arrayOver (.array .int)).before #[] U = true
def PN (Γ : gT) (av : List Value) (w : va_W) (sz : Nat) : Array Value → State → Prop := fun a U => PC Γ av w sz a U ∧ gAO U
theorem PN.blind {Γ : gT} {av : List Value} {w : va_W} {sz : Nat} : FrameBlind (PN Γ av w sz) := fun a U g mk q => ⟨PC.blind a U g mk q.1, over_moved (u := U) (E := U.calling g mk a) (Vm.Alike.refl U.vm) q.2⟩
def Cn (Γ : gT) (l : Launch) (y : MethodName) (ws : List Cond) (rm : Room) (h0 : Nat) (w0 : va_W) (mc ms : Nat) (Wf : (Nat → Nat) → va_W) : Prop := ∀ sz : Nat, Met l y ws rm (PN Γ [.ref h0] w0 sz) (va_Qv (fun _ : Nat → Nat => True) (fun a t => a 0 = h0 ∧ va_P (gD Γ) vwCl (Wf a) t.heap ∧ va_D (va_A w0 sz) (Wf a)) (va_A w0 sz)) mc ms (va_A w0 sz)
theorem Cn.of {Γ : gT} {l : Launch} {y : MethodName} {ws ws' : List Cond} {cc : ByteArray} {own : String} {nL : Nat} {ret : Option FieldType} {h0 : Nat} {w0 : va_W} {mc ms : Nat} {Wf : (Nat → Nat) → va_W} {rm : Room} (hy : plainFor y = true) (hw : ws = Cond.code y cc nL ret :: ws') (ho : y.cls = own) (hi : y.name = "<init>") (hn : 1 ≤ nL)
    (body : ∀ (p : Program) (e : Env) (s : State) (m : MethodId) (args : Array Value) (below : List Frame) (meth : Method) (c : Code) (A : Nat → Prop) (Q : State → Prop) (ls : Array Slot), args = [Value.ref h0].toArray → A = va_A w0 s.heap.size → Q = MQ below (va_Qv (fun _ : Nat → Nat => True) (fun a t => a 0 = h0 ∧ va_P (gD Γ) vwCl (Wf a) t.heap ∧ va_D (va_A w0 s.heap.size) (Wf a)) (va_A w0 s.heap.size)) [Value.ref h0].toArray s mc ms (va_A w0 s.heap.size) → p.tables.exec = Jvm.exec → c.code = cc → c.maxLocals = nL → meth.sig.returnType = ret → (∀ w ∈ ws, w.before args s = true) → s.vm.findClass own = some m.cls → meth.locks = false → meth.name = "<init>" →
      va_P (gD Γ) vwCl w0 s.heap → va_K (gD Γ) vwCl (gTy Γ) s → va_D A w0 → va_S A s.heap s.heap [] → (∀ q : Nat, s.heap.size ≤ q → A q) → gG Γ A s s.heap → gAO s → lv_has ls nL [(0, .ref h0)] → W p l e rm s m args below meth c s.heap [] 0 0 Q (F0 m 0 ls [])) : Cn Γ l y ws rm h0 w0 mc ms Wf := by
  intro sz
  refine va_MetF (cc := cc) (maxL := nL) (ret := ret) hy hw ?_
  intro p e s m args below meth c s₁ B hml hv
  obtain ⟨⟨rfl, hsz, hP, hK, hD0, hG⟩, hO⟩ := hv
  subst hsz
  have hl := lv_entry [Value.ref h0] (n := nL) hn
  rw [lg_entry_eq]
  exact body p e s m _ below meth c _ _ _ rfl rfl rfl B.exec B.bytes hml B.returns (atoms_spec (ws := ws) B.pre) (ho ▸ findClass_of_methodNamed B.named) B.notSynchronized ((name_of_methodNamed B.named B.method).1.trans hi) hP hK hD0.self va_S.rf (fun q h => Or.inr h) hG hO hl
theorem va_nd_range : ∀ n : Nat, va_nd (List.range n) = true := by
  have key : ∀ is : List Nat, is.Nodup → va_nd is = true := by
    intro is
    induction is with
    | nil => intro _; rfl
    | cons x xs ih =>
      intro h
      rw [List.nodup_cons] at h
      unfold va_nd
      rw [ih h.2, decide_eq_true h.1]
      rfl
  exact fun n => key _ List.nodup_range
section NEW
variable {Γ : gT} {p : Program} {l : Launch} {e : Env} {R : Room} {s : State} {m : MethodId} {args : Array Value} {below : List Frame} {meth : Method} {c : Code} {H : Heap} {locs : List Loc} {cells slots : Nat} {Q : State → Prop}
variable {cc : ByteArray} {own : String} {nL pc : Nat} {ls : Array Slot} {st rest : List Value} {Ts : List Cond} {A : Nat → Prop} {ws : va_W}
/-- a constructor's end -/
theorem re_c (a : Nat → Nat) {h0 : Nat} {w0 : va_W} {mc ms : Nat} {Wf : (Nat → Nat) → va_W} (hQ : Q = MQ below (va_Qv (fun _ : Nat → Nat => True) (fun a t => a 0 = h0 ∧ va_P (gD Γ) vwCl (Wf a) t.heap ∧ va_D (va_A w0 s.heap.size) (Wf a)) (va_A w0 s.heap.size)) [Value.ref h0].toArray s mc ms (va_A w0 s.heap.size)) (ha : args = [Value.ref h0].toArray) (hx : p.tables.exec = Jvm.exec) (hb : c.code = cc) (hr : meth.sig.returnType = none) (hlocks : meth.locks = false) (hAe : A = va_A w0 s.heap.size) (h0e : a 0 = h0) (hP : va_P (gD Γ) vwCl (Wf a) H) (hD : va_D A (Wf a)) (hS : va_S A s.heap H locs) (hmc : cells ≤ mc) (hms : slots ≤ ms) (hdg : decode cc pc = .ok (.return_, 1)) : W p l e R s m args below meth c H locs cells slots Q (F0 m pc ls []) := by
  subst hQ; subst ha; subst hAe
  refine W.widen hmc hms ?_
  exact W.vret hx hb hr (fun t ht hW => ⟨⟨a, rfl, trivial, h0e, by rw [ht]; exact hP, hD⟩, hS.F ht⟩) hS.2.2 hdg
/-- a made object's own constructor: the object is the world's last cell -/
theorem ca_I {l : Launch} {y : MethodName} {wsy : List Cond} {rmy : Room} {bytes : ByteArray} {maxL index mc ms b ci : Nat} {fs : List Value} {Wc : (Nat → Nat) → va_W} (h : Hd Γ p s m args c cc own nL Ts A) (hO : gAO s) (hsz : ls.size = nL) (hM : Cn Γ l y wsy rmy b [(b, .inr (ci, fs))] mc ms Wc) (cw : CallB R s args own index y bytes maxL none wsy rmy mc ms 0 ∧ y.name = "<init>" ∧ (Cond.instanceMethod y).before args s = true) (hdg : decode cc pc = .ok (.invokespecial index, 3)) (hst : st = .ref b :: rest) (hW : (rest.map fun v => v.category).sum ≤ 8)
    (hP : va_P (gD Γ) vwCl (ws ++ [(b, .inr (ci, fs))]) H) (hD : va_D A (ws ++ [(b, .inr (ci, fs))])) (hS : va_S A s.heap H locs) (hcs : cells + mc ≤ R.cells ∧ slots + ms ≤ R.slots)
    (kk : ∀ (a : Nat → Nat) (H1 : Heap) (locs1 : List Loc), a 0 = b → va_P (gD Γ) vwCl (ws ++ Wc a) H1 → va_D A (ws ++ Wc a) → va_S A s.heap H1 locs1 → W p l e R s m args below meth c H1 locs1 (cells + mc) (slots + ms) Q (F0 m (pc + 3) ls rest)) : W p l e R s m args below meth c H locs cells slots Q (F0 m pc ls st) := by
  subst hst
  have hC : [ws.length].map (fun i => (ws ++ [(b, (.inr (ci, fs) : va_E))])[i]?) = [(b, (.inr (ci, fs) : va_E))].map some := by simp
  have hR : (List.range ws.length).map (fun i => (ws ++ [(b, (.inr (ci, fs) : va_E))])[i]?) = ws.map some := by
    refine List.ext_getElem (by simp) (fun i h1 h2 => ?_)
    have hi : i < ws.length := by simpa using h2
    simp [List.getElem?_append_left hi, List.getElem?_eq_getElem hi]
  have hF := va_free (wc := [(b, .inr (ci, fs))]) hD hS h.2.2.1 [ws.length] hC
  refine va_callv (va_runI (As := []) (rest := rest) h.1 (hM H.size) cw ⟨PN.blind, fun U hU hW => ⟨h.preS hP hD hS [ws.length] rfl hC U hU hW, over_moved hW.alike hO⟩⟩ rfl rfl hsz rfl (by show 2 * 0 + _ ≤ 8; omega) hdg hcs) hS (fun q _ h => hF q h) hF (fun a t H1 locs1 ht hvm hw hB hz1 hk1 hS1 => ?_)
  obtain ⟨h0e, hP1, hD1⟩ := hB
  rw [ht] at hP1
  obtain ⟨hP2, hD2⟩ := va_join hP hD [ws.length] (List.range ws.length) hC hR (va_nd_range _) (fun i hi => by simp at hi ⊢; omega) hk1 hF hP1 hD1
  exact kk a H1 locs1 h0e hP2 hD2 hS1
/-- rows of numbers made -/
theorem na_i (h : Hd Γ p s m args c cc own nL Ts A) (harr : (Cond.arrayClass .int).before args s = true) (hP : va_P (gD Γ) vwCl ws H) (hD : va_D A ws) (hS : va_S A s.heap H locs) {n : Int32} {N : Nat} (hn : ¬ n < 0) (hN : n.toNatClampNeg = N) (hbytes : N * componentBytes .int ≤ 536870912) (hcells : cells + 1 ≤ R.cells) (hslots : slots + N ≤ R.slots) (hdg : decode cc pc = .ok (.newarray .int, 2))
    (kk : ∀ (q : Nat) (H1 : Heap), va_P (gD Γ) vwCl (ws ++ [(q, .inl (cI Γ, N, .inl (fun _ => 0)))]) H1 → va_D A (ws ++ [(q, .inl (cI Γ, N, .inl (fun _ => 0)))]) → va_S A s.heap H1 locs → W p l e R s m args below meth c H1 locs (cells + 1) (slots + N) Q (F0 m (pc + 2) ls (.ref q :: rest))) : W p l e R s m args below meth c H locs cells slots Q (F0 m pc ls (.int n :: rest)) := by
  refine va_newa h.1.1 h.1.2.1 (atype := .int) harr rfl h.2.1 hP hD hS h.2.2.1 (a0 := (N, .inl (fun _ => 0))) (fun cA => rfl) hn hN hbytes hcells hslots hdg (fun q cA H1 hK1 hP1 hD1 hS1 => ?_)
  have h1 := (hK1.2 4 (cA, .int) rfl).2
  have h2 := (h.2.1.2 0 (cI Γ, .int) rfl).2
  obtain rfl : cA = cI Γ := Option.some.inj (h1.symm.trans h2)
  exact kk q H1 hP1 hD1 hS1
theorem na_c (h : Hd Γ p s m args c cc own nL Ts A) (harr : (Cond.arrayClass .char).before args s = true) (hP : va_P (gD Γ) vwCl ws H) (hD : va_D A ws) (hS : va_S A s.heap H locs) {n : Int32} {N : Nat} (hn : ¬ n < 0) (hN : n.toNatClampNeg = N) (hbytes : N * componentBytes .char ≤ 536870912) (hcells : cells + 1 ≤ R.cells) (hslots : slots + N ≤ R.slots) (hdg : decode cc pc = .ok (.newarray .char, 2))
    (kk : ∀ (q : Nat) (H1 : Heap), va_P (gD Γ) vwCl (ws ++ [(q, .inl (cC Γ, N, .inl (fun _ => 0)))]) H1 → va_D A (ws ++ [(q, .inl (cC Γ, N, .inl (fun _ => 0)))]) → va_S A s.heap H1 locs → W p l e R s m args below meth c H1 locs (cells + 1) (slots + N) Q (F0 m (pc + 2) ls (.ref q :: rest))) : W p l e R s m args below meth c H locs cells slots Q (F0 m pc ls (.int n :: rest)) := by
  refine va_newa h.1.1 h.1.2.1 (atype := .char) harr rfl h.2.1 hP hD hS h.2.2.1 (a0 := (N, .inl (fun _ => 0))) (fun cA => rfl) hn hN hbytes hcells hslots hdg (fun q cA H1 hK1 hP1 hD1 hS1 => ?_)
  have h1 := (hK1.2 4 (cA, .char) rfl).2
  have h2 := (h.2.1.2 2 (cC Γ, .char) rfl).2
  obtain rfl : cA = cC Γ := Option.some.inj (h1.symm.trans h2)
  exact kk q H1 hP1 hD1 hS1
/-- the fifteen first numbers of a table into a row -/
theorem ta_copy (h : Hd Γ p s m args c cc own nL Ts A) (hsz : ls.size = nL) {index : Nat} (hlink : (Cond.methodLink own index arraycopyName).before args s = true) (hnat : (Cond.native arraycopyName).before args s = true) (hstat : (Cond.static arraycopyName).before args s = true) (hini : (Cond.initialized "java/lang/System").before args s = true)
    (hP : va_P (gD Γ) vwCl ws H) (hD : va_D A ws) (hS : va_S A s.heap H locs) {b0 : Nat} {f : Nat → Int32} (hX : va_T .int b0 15 (fun j => .int (f j)) A s s.heap) (q1 : Nat) {a : Nat} {g : Nat → Int32} (ha1 : ws[q1]? = some (a, .inl (cI Γ, 15, .inl g)))
    (hframes : 1 ≤ R.frames) (hlocals : (rest.map fun v => v.category).sum + (nativeFrameWords "java/lang/System" "arraycopy" 5 + 11) ≤ R.locals) (hdg : decode cc pc = .ok (.invokestatic index, 3))
    (kk : ∀ (H1 : Heap) (locs1 : List Loc), va_P (gD Γ) vwCl (ws.set q1 (a, .inl (cI Γ, 15, .inl (va_cpy f g 0 0 15)))) H1 → va_D A (ws.set q1 (a, .inl (cI Γ, 15, .inl (va_cpy f g 0 0 15)))) → va_S A s.heap H1 locs1 → W p l e R s m args below meth c H1 locs1 cells slots Q (F0 m (pc + 3) ls rest)) : W p l e R s m args below meth c H locs cells slots Q (F0 m pc ls (.int 15 :: .int 0 :: .ref a :: .int 0 :: .ref b0 :: rest)) := by
  obtain ⟨⟨hx, hb, hml, hown, -⟩, hK, -, -⟩ := h
  obtain ⟨tab, u1, u2, u3, u4, -, u5, u6⟩ := hX
  obtain ⟨nst, kt, hkt, ct, hct⟩ := u2
  obtain ⟨-, kd, hkd, cd, hcd⟩ := (hK.2 0 _ rfl).1 15 (fun j => .int (g j))
  have hs : H[b0]? = some tab := by rw [hS.2.1 b0 (Array.getElem?_eq_some_iff.mp u1).1 u6]; exact u1
  have hd : H[a]? = some (vp_cell (cI Γ) (15, .inl g)) := hP q1 _ ha1
  have sz : (vp_cell (cI Γ) (15, .inl g)).slots.size = 15 := by rw [vp_cell_i, arrV_size]
  have inA : A a := hD.2 q1 _ ha1
  have lt : a < H.size := (Array.getElem?_eq_some_iff.mp hd).1
  intro T hT X
  subst hT
  obtain ⟨vm', X', step⟩ := X.arraycopy hx hown hlink hnat hstat hini (src := b0) (dst := a) (cs := tab) (cd := vp_cell (cI Γ) (15, .inl g)) (srcPos := 0) (destPos := 0) (n := 15) hs hd nst (fun _ h => by cases h) u3 (fun h => by cases h) hkt hkd hct hcd (by simp [refKind]) (by decide) (by decide) (by decide)
    (by show ¬ ((0 : Int) + 15 > _); omega) (by rw [sz]; show ¬ ((0 : Int) + 15 > 15); decide)
    (fun vm₁ _ i hi => by
      have hi15 : i < 15 := hi
      have e : tab.slots.getD ((0 : Int32).toNatClampNeg + i) .null = .int (f i) := by
        rw [show (0 : Int32).toNatClampNeg + i = i from Nat.zero_add i, Array.getD_eq_getD_getElem?, u5 i hi15]
        rfl
      rw [e]
      exact ⟨rfl, trivial⟩)
    (g := F0 m pc ls (.int 15 :: .int 0 :: .ref a :: .int 0 :: .ref b0 :: rest)) rfl (by rw [hml]; exact hsz) (rest := rest) rfl (by rw [hb]; exact hdg) hframes (by show 2 * 0 + _ + _ ≤ _; omega)
  rw [show copied tab (vp_cell (cI Γ) (15, .inl g)) 0 0 15 = vp_cell (cI Γ) (15, .inl (va_cpy f g 0 0 15)) from va_copiedX (fun z => .int z) tab (cI Γ) f g (sp := 0) (dp := 0) (n := 15) u5 (by decide)] at X' step
  have same : ∀ q : Nat, q ≠ a → (T.heap.setIfInBounds a (vp_cell (cI Γ) (15, .inl (va_cpy f g 0 0 15))))[q]? = T.heap[q]? := fun q hq => by simp [Array.getElem?_setIfInBounds, Ne.symm hq]
  obtain ⟨t, a1, b1⟩ := kk _ _ (hP.set hD ha1 (show (T.heap.setIfInBounds a _)[a]? = some _ by simp [Array.getElem?_setIfInBounds, lt]) same) (hD.set ha1) ⟨by simp; exact hS.1, fun q g1 g2 => by rw [same q (fun e => g2 (e ▸ inA))]; exact hS.2.1 q g1 g2, fun q hq => by
    rcases List.mem_append.mp hq with h | h
    · exact hS.2.2 q h
    · obtain ⟨z, -, hz⟩ := List.mem_map.mp h
      rw [← hz]
      exact inA⟩ _ rfl X'
  exact ⟨t, step t a1, b1⟩
end NEW
