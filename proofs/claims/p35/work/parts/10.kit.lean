/-! the claim's own kit: the facts that stay (tables, constants, nest mates), contracts whose world behind is a function of the world ahead, calls in place -/
abbrev vwCl : List vw_C := [(RX0, TX0, 2), (RX1, TX1, 9), (RX2, TX2, 5), (RX3, TX3, 1), (RX4, TX4, 5), (RX5, TX5, 5), (RX6, TX6, 11)]
/-- what a run fixes: the classes' numbers, the array classes' numbers, the addresses of the tables, of the names and of their bytes -/
abbrev gT : Type := va_G × (Nat → ClassId) × (Nat → Nat) × (Nat → Nat) × (Nat → Nat)
abbrev gD (Γ : gT) : va_G := Γ.1
abbrev cI (Γ : gT) : ClassId := Γ.2.1 0
abbrev cL (Γ : gT) : ClassId := Γ.2.1 1
abbrev cC (Γ : gT) : ClassId := Γ.2.1 2
abbrev cR (Γ : gT) : ClassId := Γ.2.1 3
abbrev gTy (Γ : gT) : List (ClassId × FieldType) := [(cI Γ, .int), (cI Γ, .int), (cC Γ, .char), (cR Γ, .array .int)]
abbrev gLeast (Γ : gT) : Nat := Γ.2.2.1 0
abbrev gGreatest (Γ : gT) : Nat := Γ.2.2.1 1
abbrev gInitial (Γ : gT) : Nat := Γ.2.2.1 2
abbrev gSt (Γ : gT) : Nat → Nat := Γ.2.2.2.1
abbrev gBy (Γ : gT) : Nat → Nat := Γ.2.2.2.2
def vLeast : List Int32 := [0, 0, -5000, 0, 0, -5000, 0, 0, 0, -100000, 0, 1, 0, 1, 0]
def vGreatest : List Int32 := [20000, 20000, 5000, 999, 300, 5000, 999, 300, 999, 0, 100000, 200000, 100000, 50, 1000]
def vInitial : List Int32 := [1000, 100, 1000, 800, 50, 1000, 800, 50, 0, -50000, 50000, 200000, 5000, 5, 0]
def pLeast (k : Nat) : Int32 := vLeast.getD k 0
def pGreatest (k : Nat) : Int32 := vGreatest.getD k 0
def pInitial (k : Nat) : Int32 := vInitial.getD k 0
/-- the private members that nest mates use -/
def gNw (U : State) : Prop := va_Nw (.fieldLinkNest RX3 15 RX6 "INITIAL" "[I" RX6) U ∧ va_Nw (.fieldLinkNest RX0 23 RX3 "values" "[I" RX6) U ∧ va_Nw (.methodLinkNest RX3 24 yX6_isParameter RX6) U ∧ True ∧ True ∧ va_Nw (.methodLinkNest RX1 68 yX6_isSignal RX6) U ∧ va_Nw (.methodLinkNest RX1 97 yX6_stepped RX6) U ∧ va_Nw (.methodLinkNest RX1 140 yX6_thousandth RX6) U ∧ va_Nw (.methodLinkNest RX1 148 yX6_limited RX6) U
theorem gNw.warm {s U : State} (hW : s.WarmedH U.vm) (h : gNw s) : gNw U := by
  obtain ⟨h1, h2, h3, h4, h5, h6, h7, h8, h9⟩ := h
  exact ⟨h1.warmF hW, h2.warmF hW, h3.warmM hW, h4, h5, h6.warmM hW, h7.warmM hW, h8.warmM hW, h9.warmM hW⟩
theorem gNw.same {s U : State} (hv : s.vm = U.vm) (h : gNw s) : gNw U := by
  obtain ⟨h1, h2, h3, h4, h5, h6, h7, h8, h9⟩ := h
  exact ⟨h1.same rfl hv, h2.same rfl hv, h3.same rfl hv, h4, h5, h6.same rfl hv, h7.same rfl hv, h8.same rfl hv, h9.same rfl hv⟩
/-- the statics and constants -/
def gZ (Γ : gT) (A : Nat → Prop) (U : State) (H : Heap) : Prop :=
  (va_Z RX6 "LEAST" "[I" (.ref (gLeast Γ)) A U H ∧ va_T .int (gLeast Γ) 15 (fun j => .int (pLeast j)) A U H) ∧
  (va_Z RX6 "GREATEST" "[I" (.ref (gGreatest Γ)) A U H ∧ va_T .int (gGreatest Γ) 15 (fun j => .int (pGreatest j)) A U H) ∧
  (va_Z RX6 "INITIAL" "[I" (.ref (gInitial Γ)) A U H ∧ va_T .int (gInitial Γ) 15 (fun j => .int (pInitial j)) A U H) ∧ True
theorem gZ.moved {Γ : gT} {A : Nat → Prop} {u U : State} {H : Heap} (hvm : u.vm.Alike U.vm) (h : gZ Γ A u H) : gZ Γ A U H := by
  obtain ⟨⟨h1, h2⟩, ⟨h3, h4⟩, ⟨h5, h6⟩, -⟩ := h
  exact ⟨⟨h1.moved hvm, h2.moved hvm⟩, ⟨h3.moved hvm, h4.moved hvm⟩, ⟨h5.moved hvm, h6.moved hvm⟩, trivial⟩
theorem gZ.kept {Γ : gT} {A : Nat → Prop} {U : State} {H H1 : Heap} (h : gZ Γ A U H) (hq : ∀ a : Nat, a < H.size → ¬ A a → H1[a]? = H[a]?) : gZ Γ A U H1 := by
  obtain ⟨⟨h1, h2⟩, ⟨h3, h4⟩, ⟨h5, h6⟩, -⟩ := h
  exact ⟨⟨h1.kept hq, h2.kept hq⟩, ⟨h3.kept hq, h4.kept hq⟩, ⟨h5.kept hq, h6.kept hq⟩, trivial⟩
theorem gZ.narrow {Γ : gT} {A B : Nat → Prop} {U : State} {H : Heap} (h : gZ Γ A U H) (hAB : ∀ q, B q → A q) : gZ Γ B U H := by
  obtain ⟨⟨h1, h2⟩, ⟨h3, h4⟩, ⟨h5, h6⟩, -⟩ := h
  exact ⟨⟨h1.narrow hAB, h2.narrow hAB⟩, ⟨h3.narrow hAB, h4.narrow hAB⟩, ⟨h5.narrow hAB, h6.narrow hAB⟩, trivial⟩
/-- all that stays -/
def gG (Γ : gT) (A : Nat → Prop) (U : State) (H : Heap) : Prop := gNw U ∧ True ∧ gZ Γ A U H
theorem gG.call {Γ : gT} {A B : Nat → Prop} {s U : State} {H : Heap} {locs : List Loc} (h : gG Γ A s s.heap) (hS : va_S A s.heap H locs) (hB : ∀ q, B q → A q) (hU : U.heap = H) (hW : s.WarmedH U.vm) : gG Γ B U U.heap := by
  refine ⟨h.1.warm hW, trivial, ?_⟩
  rw [hU]
  exact ((h.2.2.kept hS.2.1).narrow hB).moved hW.alike
theorem gG.blind {Γ : gT} {A : Nat → Prop} {U U2 : State} (hv : U.vm = U2.vm) (hh : U.heap = U2.heap) (h : gG Γ A U U.heap) : gG Γ A U2 U2.heap := by
  refine ⟨h.1.same hv, trivial, ?_⟩
  rw [← hh]
  exact h.2.2.moved (by rw [hv]; exact Vm.Alike.refl U2.vm)
/-- a contract's start -/
def PC (Γ : gT) (av : List Value) (w : va_W) (sz : Nat) : Array Value → State → Prop := va_Pc av (fun U => U.heap.size = sz ∧ va_P (gD Γ) vwCl w U.heap ∧ va_K (gD Γ) vwCl (gTy Γ) U ∧ va_D (fun _ => True) w ∧ gG Γ (va_A w sz) U U.heap)
theorem PC.blind {Γ : gT} {av : List Value} {w : va_W} {sz : Nat} : FrameBlind (PC Γ av w sz) := by
  intro a U g mk q
  obtain ⟨q0, q1, qP, qK, qD, qG⟩ := q
  exact ⟨q0, q1, qP, va_K.moved (u := U) (U := U.calling g mk a) (Vm.Alike.refl U.vm) qK, qD, qG.blind (U2 := U.calling g mk a) rfl rfl⟩
/-- contracts: the answer is r, the world behind is w1 -/
def Ci (Γ : gT) (l : Launch) (y : MethodName) (ws : List Cond) (rm : Room) (av : List Value) (w0 : va_W) (r : Int32) (w1 : va_W) : Prop := ∀ sz : Nat, Met l y ws rm (PC Γ av w0 sz) (va_Qi (fun (x : Int32) (_ : Unit) => x = r) (fun _ t => va_P (gD Γ) vwCl w1 t.heap) (va_A w0 sz)) 0 0 (va_A w0 sz)
def Cl (Γ : gT) (l : Launch) (y : MethodName) (ws : List Cond) (rm : Room) (av : List Value) (w0 : va_W) (r : Int64) (w1 : va_W) : Prop := ∀ sz : Nat, Met l y ws rm (PC Γ av w0 sz) (va_Ql (fun (x : Int64) (_ : Unit) => x = r) (fun _ t => va_P (gD Γ) vwCl w1 t.heap) (va_A w0 sz)) 0 0 (va_A w0 sz)
def Cv (Γ : gT) (l : Launch) (y : MethodName) (ws : List Cond) (rm : Room) (av : List Value) (w0 : va_W) (w1 : va_W) : Prop := ∀ sz : Nat, Met l y ws rm (PC Γ av w0 sz) (va_Qv (fun (_ : Unit) => True) (fun _ t => va_P (gD Γ) vwCl w1 t.heap) (va_A w0 sz)) 0 0 (va_A w0 sz)
def Cr (Γ : gT) (l : Launch) (y : MethodName) (ws : List Cond) (rm : Room) (av : List Value) (w0 : va_W) (r : Nat) (w1 : va_W) : Prop := ∀ sz : Nat, Met l y ws rm (PC Γ av w0 sz) (va_Qr (fun (_ : Unit) => True) (fun _ a t => a = r ∧ va_P (gD Γ) vwCl w1 t.heap) (va_A w0 sz)) 0 0 (va_A w0 sz)
/-- a walk's start: what a body may use -/
def Bd (Γ : gT) (l : Launch) (ws : List Cond) (cc : ByteArray) (own : String) (nL : Nat) (ret : Option FieldType) (av : List Value) (w0 : va_W) (rm : Room) (Qc : Array Value → State → Outcome → State → Prop) (free : State → Addr → Prop) : Prop :=
  ∀ (p : Program) (e : Env) (s : State) (m : MethodId) (args : Array Value) (below : List Frame) (meth : Method) (c : Code) (A : Nat → Prop) (Q : State → Prop) (H : Heap) (locs : List Loc) (ls : Array Slot), args = av.toArray → A = va_A w0 s.heap.size → Q = MQ below Qc av.toArray s 0 0 (free s) → p.tables.exec = Jvm.exec → c.code = cc → c.maxLocals = nL → meth.sig.returnType = ret → (∀ w ∈ ws, w.before args s = true) → s.vm.findClass own = some m.cls → meth.locks = false →
    va_P (gD Γ) vwCl w0 H → va_K (gD Γ) vwCl (gTy Γ) s → va_D A w0 → va_S A s.heap H locs → (∀ q : Nat, s.heap.size ≤ q → A q) → gG Γ A s s.heap → lv_has ls nL (lv_args 0 av) → W p l e rm s m args below meth c H locs 0 0 Q (F0 m 0 ls [])
theorem Bd.met {Γ : gT} {l : Launch} {y : MethodName} {ws ws' : List Cond} {cc : ByteArray} {own : String} {nL : Nat} {ret : Option FieldType} {av : List Value} {w0 : va_W} {rm : Room} {Qc : Array Value → State → Outcome → State → Prop} {sz : Nat} (hy : plainFor y = true) (hw : ws = Cond.code y cc nL ret :: ws') (ho : y.cls = own) (hn : (lg_sl av).length ≤ nL)
    (body : Bd Γ l ws cc own nL ret av w0 rm Qc (fun s => va_A w0 s.heap.size)) : Met l y ws rm (PC Γ av w0 sz) Qc 0 0 (va_A w0 sz) := by
  refine va_MetF (cc := cc) (maxL := nL) (ret := ret) hy hw ?_
  intro p e s m args below meth c s₁ B hml hv
  obtain ⟨rfl, hsz, hP, hK, hD0, hG⟩ := hv
  subst hsz
  have hl := lv_entry av (n := nL) hn
  rw [lg_entry_eq]
  exact body p e s m _ below meth c _ _ _ _ _ rfl rfl rfl B.exec B.bytes hml B.returns (atoms_spec (ws := ws) B.pre) (ho ▸ findClass_of_methodNamed B.named) B.notSynchronized hP hK hD0.self va_S.rf (fun q h => Or.inr h) hG hl
theorem Ci.of {Γ : gT} {l : Launch} {y : MethodName} {ws ws' : List Cond} {cc : ByteArray} {own : String} {nL : Nat} {ret : Option FieldType} {av : List Value} {w0 w1 : va_W} {rm : Room} {r : Int32} (hy : plainFor y = true) (hw : ws = Cond.code y cc nL ret :: ws') (ho : y.cls = own) (hn : (lg_sl av).length ≤ nL)
    (body : Bd Γ l ws cc own nL ret av w0 rm (fun _ s o t => o = .returned (some (.int r)) ∧ va_P (gD Γ) vwCl w1 t.heap ∧ va_F (va_A w0 s.heap.size) s t) (fun s => va_A w0 s.heap.size)) : Ci Γ l y ws rm av w0 r w1 := by
  intro sz
  refine va_MetF (cc := cc) (maxL := nL) (ret := ret) hy hw ?_
  intro p e s m args below meth c s₁ B hml hv
  obtain ⟨rfl, hsz, hP, hK, hD0, hG⟩ := hv
  subst hsz
  have hl := lv_entry av (n := nL) hn
  rw [lg_entry_eq]
  have h := body p e s m _ below meth c _ _ _ _ _ rfl rfl rfl B.exec B.bytes hml B.returns (atoms_spec (ws := ws) B.pre) (ho ▸ findClass_of_methodNamed B.named) B.notSynchronized hP hK hD0.self va_S.rf (fun q h => Or.inr h) hG hl
  intro T hT X
  obtain ⟨t, a1, o, b1, b2, ⟨b3, b4, b5⟩, b6⟩ := h T hT X
  exact ⟨t, a1, o, b1, b2, ⟨⟨r, (), b3, rfl, b4⟩, b5⟩, b6⟩
theorem Cl.of {Γ : gT} {l : Launch} {y : MethodName} {ws ws' : List Cond} {cc : ByteArray} {own : String} {nL : Nat} {ret : Option FieldType} {av : List Value} {w0 w1 : va_W} {rm : Room} {r : Int64} (hy : plainFor y = true) (hw : ws = Cond.code y cc nL ret :: ws') (ho : y.cls = own) (hn : (lg_sl av).length ≤ nL)
    (body : Bd Γ l ws cc own nL ret av w0 rm (fun _ s o t => o = .returned (some (.long r)) ∧ va_P (gD Γ) vwCl w1 t.heap ∧ va_F (va_A w0 s.heap.size) s t) (fun s => va_A w0 s.heap.size)) : Cl Γ l y ws rm av w0 r w1 := by
  intro sz
  refine va_MetF (cc := cc) (maxL := nL) (ret := ret) hy hw ?_
  intro p e s m args below meth c s₁ B hml hv
  obtain ⟨rfl, hsz, hP, hK, hD0, hG⟩ := hv
  subst hsz
  have hl := lv_entry av (n := nL) hn
  rw [lg_entry_eq]
  have h := body p e s m _ below meth c _ _ _ _ _ rfl rfl rfl B.exec B.bytes hml B.returns (atoms_spec (ws := ws) B.pre) (ho ▸ findClass_of_methodNamed B.named) B.notSynchronized hP hK hD0.self va_S.rf (fun q h => Or.inr h) hG hl
  intro T hT X
  obtain ⟨t, a1, o, b1, b2, ⟨b3, b4, b5⟩, b6⟩ := h T hT X
  exact ⟨t, a1, o, b1, b2, ⟨⟨r, (), b3, rfl, b4⟩, b5⟩, b6⟩
theorem Cv.of {Γ : gT} {l : Launch} {y : MethodName} {ws ws' : List Cond} {cc : ByteArray} {own : String} {nL : Nat} {ret : Option FieldType} {av : List Value} {w0 w1 : va_W} {rm : Room} (hy : plainFor y = true) (hw : ws = Cond.code y cc nL ret :: ws') (ho : y.cls = own) (hn : (lg_sl av).length ≤ nL)
    (body : Bd Γ l ws cc own nL ret av w0 rm (fun _ s o t => o = .returned none ∧ va_P (gD Γ) vwCl w1 t.heap ∧ va_F (va_A w0 s.heap.size) s t) (fun s => va_A w0 s.heap.size)) : Cv Γ l y ws rm av w0 w1 := by
  intro sz
  refine va_MetF (cc := cc) (maxL := nL) (ret := ret) hy hw ?_
  intro p e s m args below meth c s₁ B hml hv
  obtain ⟨rfl, hsz, hP, hK, hD0, hG⟩ := hv
  subst hsz
  have hl := lv_entry av (n := nL) hn
  rw [lg_entry_eq]
  have h := body p e s m _ below meth c _ _ _ _ _ rfl rfl rfl B.exec B.bytes hml B.returns (atoms_spec (ws := ws) B.pre) (ho ▸ findClass_of_methodNamed B.named) B.notSynchronized hP hK hD0.self va_S.rf (fun q h => Or.inr h) hG hl
  intro T hT X
  obtain ⟨t, a1, o, b1, b2, ⟨b3, b4, b5⟩, b6⟩ := h T hT X
  exact ⟨t, a1, o, b1, b2, ⟨⟨(), b3, trivial, b4⟩, b5⟩, b6⟩
theorem Cr.of {Γ : gT} {l : Launch} {y : MethodName} {ws ws' : List Cond} {cc : ByteArray} {own : String} {nL : Nat} {ret : Option FieldType} {av : List Value} {w0 w1 : va_W} {rm : Room} {r : Nat} (hy : plainFor y = true) (hw : ws = Cond.code y cc nL ret :: ws') (ho : y.cls = own) (hn : (lg_sl av).length ≤ nL)
    (body : Bd Γ l ws cc own nL ret av w0 rm (fun _ s o t => o = .returned (some (.ref r)) ∧ va_P (gD Γ) vwCl w1 t.heap ∧ va_F (va_A w0 s.heap.size) s t) (fun s => va_A w0 s.heap.size)) : Cr Γ l y ws rm av w0 r w1 := by
  intro sz
  refine va_MetF (cc := cc) (maxL := nL) (ret := ret) hy hw ?_
  intro p e s m args below meth c s₁ B hml hv
  obtain ⟨rfl, hsz, hP, hK, hD0, hG⟩ := hv
  subst hsz
  have hl := lv_entry av (n := nL) hn
  rw [lg_entry_eq]
  have h := body p e s m _ below meth c _ _ _ _ _ rfl rfl rfl B.exec B.bytes hml B.returns (atoms_spec (ws := ws) B.pre) (ho ▸ findClass_of_methodNamed B.named) B.notSynchronized hP hK hD0.self va_S.rf (fun q h => Or.inr h) hG hl
  intro T hT X
  obtain ⟨t, a1, o, b1, b2, ⟨b3, b4, b5⟩, b6⟩ := h T hT X
  exact ⟨t, a1, o, b1, b2, ⟨⟨(), r, b3, trivial, rfl, b4⟩, b5⟩, b6⟩
/-! in place: cells at the places is become cs -/
def va_upd : va_W → List Nat → va_W → va_W
  | ws, i :: is, c :: cs => va_upd (ws.set i c) is cs
  | ws, _, _ => ws
theorem va_upd_get : ∀ (is : List Nat) (cs ws : va_W) (k : Nat) (q : Nat × va_E), (va_upd ws is cs)[k]? = some q → (∃ j : Nat, is[j]? = some k ∧ cs[j]? = some q) ∨ ((∀ j : Nat, j < cs.length → is[j]? ≠ some k) ∧ ws[k]? = some q)
  | [], cs, ws, k, q, h => by
    have h' : ws[k]? = some q := by cases cs <;> exact h
    exact Or.inr ⟨fun j _ e => (by simp at e), h'⟩
  | i :: is, [], ws, k, q, h => Or.inr ⟨fun j hj => absurd hj (Nat.not_lt_zero j), h⟩
  | i :: is, c :: cs, ws, k, q, h => by
    rcases va_upd_get is cs (ws.set i c) k q h with ⟨j, h1, h2⟩ | ⟨h1, h2⟩
    · exact Or.inl ⟨j + 1, by simpa using h1, by simpa using h2⟩
    · by_cases hk : k = i
      · subst hk
        have hl : k < ws.length := by
          have := (List.getElem?_eq_some_iff.mp h2).1
          simpa using this
        rw [List.getElem?_set_self hl] at h2
        exact Or.inl ⟨0, rfl, by simpa using h2⟩
      · rw [List.getElem?_set_ne (Ne.symm hk)] at h2
        refine Or.inr ⟨fun j hj => ?_, h2⟩
        cases j with
        | zero => intro e; simp at e; exact hk e.symm
        | succ j => intro e; exact h1 j (by simp at hj; exact hj) (by simpa using e)
theorem va_D.addr {A : Nat → Prop} {ws wf : va_W} (h : va_D A ws) (he : wf.map (fun q => q.1) = ws.map (fun q => q.1)) : va_D A wf := by
  have at' : ∀ (k : Nat) (q : Nat × va_E), wf[k]? = some q → ∃ p : Nat × va_E, ws[k]? = some p ∧ p.1 = q.1 := by
    intro k q hq
    have h1 : (wf.map (fun q => q.1))[k]? = some q.1 := by rw [List.getElem?_map, hq]; rfl
    rw [he, List.getElem?_map] at h1
    cases hw : ws[k]? with
    | none => rw [hw] at h1; cases h1
    | some p => rw [hw] at h1; exact ⟨p, rfl, Option.some.inj h1⟩
  refine ⟨fun i j x y hi hj hxy => ?_, fun k q hk => ?_⟩
  · obtain ⟨x0, h1, h2⟩ := at' i x hi
    obtain ⟨y0, h3, h4⟩ := at' j y hj
    exact h.1 i j x0 y0 h1 h3 (h2.trans (hxy.trans h4.symm))
  · obtain ⟨q0, h1, h2⟩ := at' k q hk
    rw [← h2]
    exact h.2 k q0 h1
theorem va_cut {A0 : Nat → Prop} {D : va_G} {cl : List vw_C} {ws wc w1 wf : va_W} {H H1 : Heap} (hP : va_P D cl ws H) (hD : va_D A0 ws) (is : List Nat) (hC : is.map (fun i => ws[i]?) = wc.map some) {kl : Nat} (hl1 : w1.length = kl) (hl2 : wc.length = kl) (hf : va_upd ws is w1 = wf)
    (hk : ∀ q : Nat, q < H.size → ¬ va_A wc H.size q → H1[q]? = H[q]?) (hP1 : va_P D cl w1 H1) : va_P D cl wf H1 := by
  subst hf
  have hil : is.length = wc.length := by simpa using congrArg List.length hC
  intro k q hq
  rcases va_upd_get is w1 ws k q hq with ⟨j, h1, h2⟩ | ⟨h1, h2⟩
  · exact hP1 j q h2
  · refine (hP k q h2).kept (hk q.1 (hP k q h2).lt ?_)
    intro h
    rcases h with ⟨j, e, hj⟩ | h
    · have h3 : (is.map (fun i => ws[i]?))[j]? = some (some (q.1, e)) := by rw [hC, List.getElem?_map, hj]; rfl
      rw [List.getElem?_map] at h3
      cases hi : is[j]? with
      | none => rw [hi] at h3; cases h3
      | some i =>
        rw [hi] at h3
        have h4 : ws[i]? = some (q.1, e) := Option.some.inj h3
        have h5 : i = k := hD.1 i k (q.1, e) q h4 h2 rfl
        subst h5
        exact h1 j (by rw [hl1, ← hl2, ← hil]; exact (List.getElem?_eq_some_iff.mp hi).1) hi
    · exact absurd (hP k q h2).lt (Nat.not_lt.mpr h)
theorem va_Dsub {A : Nat → Prop} {ws wc : va_W} (hD : va_D A ws) (is : List Nat) (hn : va_nd is = true) (hC : is.map (fun i => ws[i]?) = wc.map some) : va_D (fun _ => True) wc := by
  exact (hD.sub is hn hC).weaken (fun _ _ _ _ => trivial)
theorem va_Psub {D : va_G} {cl : List vw_C} {ws wc : va_W} {H : Heap} (hP : va_P D cl ws H) (is : List Nat) (hC : is.map (fun i => ws[i]?) = wc.map some) : va_P D cl wc H := by
  have hs : is.filterMap (fun i => ws[i]?) = wc := by
    have h := congrArg (List.filterMap id) hC
    simpa [List.filterMap_map, Function.comp_def] using h
  exact hP.sub is hs
section CALLS
variable {p : Program} {l : Launch} {e : Env} {R : Room} {s : State} {m : MethodId} {args : Array Value} {below : List Frame} {meth : Method} {c : Code} {H : Heap} {locs : List Loc} {cells slots : Nat} {Q : State → Prop}
variable {cc bytes : ByteArray} {pc : Nat} {ls : Array Slot} {st rest As : List Value} {Γ : gT} {A : Nat → Prop} {ws wc w1 wf : va_W} {Ts wsy : List Cond} {own C : String} {nL maxL index n : Nat} {y : MethodName} {ret : Option FieldType} {rmy : Room} {b : Nat}
/-- what a caller has -/
def Hd (Γ : gT) (p : Program) (s : State) (m : MethodId) (args : Array Value) (c : Code) (cc : ByteArray) (own : String) (nL : Nat) (Ts : List Cond) (A : Nat → Prop) : Prop :=
  (p.tables.exec = Jvm.exec ∧ c.code = cc ∧ c.maxLocals = nL ∧ s.vm.findClass own = some m.cls ∧ ∀ w ∈ Ts, w.before args s = true) ∧ va_K (gD Γ) vwCl (gTy Γ) s ∧ (∀ q : Nat, s.heap.size ≤ q → A q) ∧ gG Γ A s s.heap
theorem Hd.preS (h : Hd Γ p s m args c cc own nL Ts A) (hP : va_P (gD Γ) vwCl ws H) (hD : va_D A ws) (hS : va_S A s.heap H locs) (is : List Nat) (hn : va_nd is = true) (hC : is.map (fun i => ws[i]?) = wc.map some) {av : List Value} : ∀ U : State, U.heap = H → s.WarmedH U.vm → PC Γ av wc H.size av.toArray U := by
  obtain ⟨-, hK, hA, hG⟩ := h
  intro U hU hW
  refine ⟨rfl, by rw [hU], by rw [hU]; exact va_Psub hP is hC, va_K.moved hW.alike hK, va_Dsub hD is hn hC, hG.call hS (va_free hD hS hA is hC) hU hW⟩
theorem ca_Vi {r : Int32} (h : Hd Γ p s m args c cc own nL Ts A) (hsz : ls.size = nL) (hM : Ci Γ l y wsy rmy (.ref b :: As) wc r w1) (cw : CallW R s args own C index y bytes maxL ret wsy rmy 0 0 n) (hn : As.length = n) (hdg : decode cc pc = .ok (.invokevirtual index, 3)) (hst : st = As.reverse ++ .ref b :: rest) (hW : (rest.map fun v => v.category).sum ≤ 8)
    (hP : va_P (gD Γ) vwCl ws H) (hD : va_D A ws) (hS : va_S A s.heap H locs) (is : List Nat) (hnd : va_nd is = true) (hC : is.map (fun i => ws[i]?) = wc.map some) {q0 ci : Nat} {fs : List Value} {qc : vw_C} (hq : ws[q0]? = some (b, .inr (ci, fs))) (hcl : vwCl[ci]? = some qc) (hqc : qc.1 = C) (kl : Nat) (hlen1 : w1.length = kl) (hlen2 : wc.length = kl) (hf : va_upd ws is w1 = wf) (had : wf.map (fun q => q.1) = ws.map (fun q => q.1)) (hcs : cells ≤ R.cells ∧ slots ≤ R.slots)
    (kk : ∀ (H1 : Heap) (locs1 : List Loc), va_P (gD Γ) vwCl wf H1 → va_D A wf → va_S A s.heap H1 locs1 → W p l e R s m args below meth c H1 locs1 cells slots Q (F0 m (pc + 3) ls (.int r :: rest))) : W p l e R s m args below meth c H locs cells slots Q (F0 m pc ls st) := by
  subst hst
  have hF := va_free (wc := wc) hD hS h.2.2.1 is hC
  refine va_calli (va_runV (As := As) (rest := rest) h.1 (hM H.size) cw ⟨PC.blind, by rw [← hqc]; exact va_recv h.2.1 hP hcl hq, h.preS hP hD hS is hnd hC⟩ rfl hn hsz rfl (by show 2 * 0 + _ ≤ 8; omega) hdg (by simpa using hcs)) hS (fun q _ h => hF q h) hF (fun r' u t H1 locs1 ht hvm hw hB hz1 hk1 hS1 => ?_)
  subst hw
  rw [ht] at hB
  exact kk H1 locs1 (va_cut hP hD is hC hlen1 hlen2 hf hk1 hB) (hD.addr had) hS1
theorem ca_Vl {r : Int64} (h : Hd Γ p s m args c cc own nL Ts A) (hsz : ls.size = nL) (hM : Cl Γ l y wsy rmy (.ref b :: As) wc r w1) (cw : CallW R s args own C index y bytes maxL ret wsy rmy 0 0 n) (hn : As.length = n) (hdg : decode cc pc = .ok (.invokevirtual index, 3)) (hst : st = As.reverse ++ .ref b :: rest) (hW : (rest.map fun v => v.category).sum ≤ 8)
    (hP : va_P (gD Γ) vwCl ws H) (hD : va_D A ws) (hS : va_S A s.heap H locs) (is : List Nat) (hnd : va_nd is = true) (hC : is.map (fun i => ws[i]?) = wc.map some) {q0 ci : Nat} {fs : List Value} {qc : vw_C} (hq : ws[q0]? = some (b, .inr (ci, fs))) (hcl : vwCl[ci]? = some qc) (hqc : qc.1 = C) (kl : Nat) (hlen1 : w1.length = kl) (hlen2 : wc.length = kl) (hf : va_upd ws is w1 = wf) (had : wf.map (fun q => q.1) = ws.map (fun q => q.1)) (hcs : cells ≤ R.cells ∧ slots ≤ R.slots)
    (kk : ∀ (H1 : Heap) (locs1 : List Loc), va_P (gD Γ) vwCl wf H1 → va_D A wf → va_S A s.heap H1 locs1 → W p l e R s m args below meth c H1 locs1 cells slots Q (F0 m (pc + 3) ls (.long r :: rest))) : W p l e R s m args below meth c H locs cells slots Q (F0 m pc ls st) := by
  subst hst
  have hF := va_free (wc := wc) hD hS h.2.2.1 is hC
  refine va_calll (va_runV (As := As) (rest := rest) h.1 (hM H.size) cw ⟨PC.blind, by rw [← hqc]; exact va_recv h.2.1 hP hcl hq, h.preS hP hD hS is hnd hC⟩ rfl hn hsz rfl (by show 2 * 0 + _ ≤ 8; omega) hdg (by simpa using hcs)) hS (fun q _ h => hF q h) hF (fun r' u t H1 locs1 ht hvm hw hB hz1 hk1 hS1 => ?_)
  subst hw
  rw [ht] at hB
  exact kk H1 locs1 (va_cut hP hD is hC hlen1 hlen2 hf hk1 hB) (hD.addr had) hS1
theorem ca_Vv (h : Hd Γ p s m args c cc own nL Ts A) (hsz : ls.size = nL) (hM : Cv Γ l y wsy rmy (.ref b :: As) wc w1) (cw : CallW R s args own C index y bytes maxL ret wsy rmy 0 0 n) (hn : As.length = n) (hdg : decode cc pc = .ok (.invokevirtual index, 3)) (hst : st = As.reverse ++ .ref b :: rest) (hW : (rest.map fun v => v.category).sum ≤ 8)
    (hP : va_P (gD Γ) vwCl ws H) (hD : va_D A ws) (hS : va_S A s.heap H locs) (is : List Nat) (hnd : va_nd is = true) (hC : is.map (fun i => ws[i]?) = wc.map some) {q0 ci : Nat} {fs : List Value} {qc : vw_C} (hq : ws[q0]? = some (b, .inr (ci, fs))) (hcl : vwCl[ci]? = some qc) (hqc : qc.1 = C) (kl : Nat) (hlen1 : w1.length = kl) (hlen2 : wc.length = kl) (hf : va_upd ws is w1 = wf) (had : wf.map (fun q => q.1) = ws.map (fun q => q.1)) (hcs : cells ≤ R.cells ∧ slots ≤ R.slots)
    (kk : ∀ (H1 : Heap) (locs1 : List Loc), va_P (gD Γ) vwCl wf H1 → va_D A wf → va_S A s.heap H1 locs1 → W p l e R s m args below meth c H1 locs1 cells slots Q (F0 m (pc + 3) ls rest)) : W p l e R s m args below meth c H locs cells slots Q (F0 m pc ls st) := by
  subst hst
  have hF := va_free (wc := wc) hD hS h.2.2.1 is hC
  refine va_callv (va_runV (As := As) (rest := rest) h.1 (hM H.size) cw ⟨PC.blind, by rw [← hqc]; exact va_recv h.2.1 hP hcl hq, h.preS hP hD hS is hnd hC⟩ rfl hn hsz rfl (by show 2 * 0 + _ ≤ 8; omega) hdg (by simpa using hcs)) hS (fun q _ h => hF q h) hF (fun u t H1 locs1 ht hvm hw hB hz1 hk1 hS1 => ?_)
  rw [ht] at hB
  exact kk H1 locs1 (va_cut hP hD is hC hlen1 hlen2 hf hk1 hB) (hD.addr had) hS1
theorem ca_Vr {r : Nat} (h : Hd Γ p s m args c cc own nL Ts A) (hsz : ls.size = nL) (hM : Cr Γ l y wsy rmy (.ref b :: As) wc r w1) (cw : CallW R s args own C index y bytes maxL ret wsy rmy 0 0 n) (hn : As.length = n) (hdg : decode cc pc = .ok (.invokevirtual index, 3)) (hst : st = As.reverse ++ .ref b :: rest) (hW : (rest.map fun v => v.category).sum ≤ 8)
    (hP : va_P (gD Γ) vwCl ws H) (hD : va_D A ws) (hS : va_S A s.heap H locs) (is : List Nat) (hnd : va_nd is = true) (hC : is.map (fun i => ws[i]?) = wc.map some) {q0 ci : Nat} {fs : List Value} {qc : vw_C} (hq : ws[q0]? = some (b, .inr (ci, fs))) (hcl : vwCl[ci]? = some qc) (hqc : qc.1 = C) (kl : Nat) (hlen1 : w1.length = kl) (hlen2 : wc.length = kl) (hf : va_upd ws is w1 = wf) (had : wf.map (fun q => q.1) = ws.map (fun q => q.1)) (hcs : cells ≤ R.cells ∧ slots ≤ R.slots)
    (kk : ∀ (H1 : Heap) (locs1 : List Loc), va_P (gD Γ) vwCl wf H1 → va_D A wf → va_S A s.heap H1 locs1 → W p l e R s m args below meth c H1 locs1 cells slots Q (F0 m (pc + 3) ls (.ref r :: rest))) : W p l e R s m args below meth c H locs cells slots Q (F0 m pc ls st) := by
  subst hst
  have hF := va_free (wc := wc) hD hS h.2.2.1 is hC
  refine va_callr (va_runV (As := As) (rest := rest) h.1 (hM H.size) cw ⟨PC.blind, by rw [← hqc]; exact va_recv h.2.1 hP hcl hq, h.preS hP hD hS is hnd hC⟩ rfl hn hsz rfl (by show 2 * 0 + _ ≤ 8; omega) hdg (by simpa using hcs)) hS (fun q _ h => hF q h) hF (fun u ra t H1 locs1 ht hvm hw hB hz1 hk1 hS1 => ?_)
  obtain ⟨rfl, hB⟩ := hB
  rw [ht] at hB
  exact kk H1 locs1 (va_cut hP hD is hC hlen1 hlen2 hf hk1 hB) (hD.addr had) hS1
/-- a call that takes the caller's whole world -/
theorem Hd.preA (h : Hd Γ p s m args c cc own nL Ts A) (hP : va_P (gD Γ) vwCl ws H) (hD : va_D A ws) (hS : va_S A s.heap H locs) {av : List Value} : ∀ U : State, U.heap = H → s.WarmedH U.vm → PC Γ av ws H.size av.toArray U := by
  obtain ⟨-, hK, hA, hG⟩ := h
  intro U hU hW
  refine ⟨rfl, by rw [hU], by rw [hU]; exact hP, va_K.moved hW.alike hK, hD.weaken (fun _ _ _ _ => trivial), hG.call hS (fun q hq => ?_) hU hW⟩
  rcases hq with ⟨k, e, hk⟩ | hq
  · exact hD.2 k (q, e) hk
  · exact hA q (Nat.le_trans hS.1 hq)
theorem Hd.freeA (h : Hd Γ p s m args c cc own nL Ts A) (hD : va_D A ws) (hS : va_S A s.heap H locs) : ∀ q, va_A ws H.size q → A q := by
  intro q hq
  rcases hq with ⟨k, e, hk⟩ | hq
  · exact hD.2 k (q, e) hk
  · exact h.2.2.1 q (Nat.le_trans hS.1 hq)
theorem ca_Via {r : Int32} (h : Hd Γ p s m args c cc own nL Ts A) (hsz : ls.size = nL) (hM : Ci Γ l y wsy rmy (.ref b :: As) ws r wf) (cw : CallW R s args own C index y bytes maxL ret wsy rmy 0 0 n) (hn : As.length = n) (hdg : decode cc pc = .ok (.invokevirtual index, 3)) (hst : st = As.reverse ++ .ref b :: rest) (hW : (rest.map fun v => v.category).sum ≤ 8)
    (hP : va_P (gD Γ) vwCl ws H) (hD : va_D A ws) (hS : va_S A s.heap H locs) {q0 ci : Nat} {fs : List Value} {qc : vw_C} (hq : ws[q0]? = some (b, .inr (ci, fs))) (hcl : vwCl[ci]? = some qc) (hqc : qc.1 = C) (had : wf.map (fun q => q.1) = ws.map (fun q => q.1)) (hcs : cells ≤ R.cells ∧ slots ≤ R.slots)
    (kk : ∀ (H1 : Heap) (locs1 : List Loc), va_P (gD Γ) vwCl wf H1 → va_D A wf → va_S A s.heap H1 locs1 → W p l e R s m args below meth c H1 locs1 cells slots Q (F0 m (pc + 3) ls (.int r :: rest))) : W p l e R s m args below meth c H locs cells slots Q (F0 m pc ls st) := by
  subst hst
  refine va_calli (va_runV (As := As) (rest := rest) h.1 (hM H.size) cw ⟨PC.blind, by rw [← hqc]; exact va_recv h.2.1 hP hcl hq, h.preA hP hD hS⟩ rfl hn hsz rfl (by show 2 * 0 + _ ≤ 8; omega) hdg (by simpa using hcs)) hS (fun q _ g => h.freeA hD hS q g) (h.freeA hD hS) (fun r1 u t H1 locs1 ht hvm hw hB hz1 hk1 hS1 => ?_)
  subst hw
  rw [ht] at hB
  exact kk H1 locs1 hB (hD.addr had) hS1
theorem ca_Vla {r : Int64} (h : Hd Γ p s m args c cc own nL Ts A) (hsz : ls.size = nL) (hM : Cl Γ l y wsy rmy (.ref b :: As) ws r wf) (cw : CallW R s args own C index y bytes maxL ret wsy rmy 0 0 n) (hn : As.length = n) (hdg : decode cc pc = .ok (.invokevirtual index, 3)) (hst : st = As.reverse ++ .ref b :: rest) (hW : (rest.map fun v => v.category).sum ≤ 8)
    (hP : va_P (gD Γ) vwCl ws H) (hD : va_D A ws) (hS : va_S A s.heap H locs) {q0 ci : Nat} {fs : List Value} {qc : vw_C} (hq : ws[q0]? = some (b, .inr (ci, fs))) (hcl : vwCl[ci]? = some qc) (hqc : qc.1 = C) (had : wf.map (fun q => q.1) = ws.map (fun q => q.1)) (hcs : cells ≤ R.cells ∧ slots ≤ R.slots)
    (kk : ∀ (H1 : Heap) (locs1 : List Loc), va_P (gD Γ) vwCl wf H1 → va_D A wf → va_S A s.heap H1 locs1 → W p l e R s m args below meth c H1 locs1 cells slots Q (F0 m (pc + 3) ls (.long r :: rest))) : W p l e R s m args below meth c H locs cells slots Q (F0 m pc ls st) := by
  subst hst
  refine va_calll (va_runV (As := As) (rest := rest) h.1 (hM H.size) cw ⟨PC.blind, by rw [← hqc]; exact va_recv h.2.1 hP hcl hq, h.preA hP hD hS⟩ rfl hn hsz rfl (by show 2 * 0 + _ ≤ 8; omega) hdg (by simpa using hcs)) hS (fun q _ g => h.freeA hD hS q g) (h.freeA hD hS) (fun r1 u t H1 locs1 ht hvm hw hB hz1 hk1 hS1 => ?_)
  subst hw
  rw [ht] at hB
  exact kk H1 locs1 hB (hD.addr had) hS1
theorem ca_Vra {r : Nat} (h : Hd Γ p s m args c cc own nL Ts A) (hsz : ls.size = nL) (hM : Cr Γ l y wsy rmy (.ref b :: As) ws r wf) (cw : CallW R s args own C index y bytes maxL ret wsy rmy 0 0 n) (hn : As.length = n) (hdg : decode cc pc = .ok (.invokevirtual index, 3)) (hst : st = As.reverse ++ .ref b :: rest) (hW : (rest.map fun v => v.category).sum ≤ 8)
    (hP : va_P (gD Γ) vwCl ws H) (hD : va_D A ws) (hS : va_S A s.heap H locs) {q0 ci : Nat} {fs : List Value} {qc : vw_C} (hq : ws[q0]? = some (b, .inr (ci, fs))) (hcl : vwCl[ci]? = some qc) (hqc : qc.1 = C) (had : wf.map (fun q => q.1) = ws.map (fun q => q.1)) (hcs : cells ≤ R.cells ∧ slots ≤ R.slots)
    (kk : ∀ (H1 : Heap) (locs1 : List Loc), va_P (gD Γ) vwCl wf H1 → va_D A wf → va_S A s.heap H1 locs1 → W p l e R s m args below meth c H1 locs1 cells slots Q (F0 m (pc + 3) ls (.ref r :: rest))) : W p l e R s m args below meth c H locs cells slots Q (F0 m pc ls st) := by
  subst hst
  refine va_callr (va_runV (As := As) (rest := rest) h.1 (hM H.size) cw ⟨PC.blind, by rw [← hqc]; exact va_recv h.2.1 hP hcl hq, h.preA hP hD hS⟩ rfl hn hsz rfl (by show 2 * 0 + _ ≤ 8; omega) hdg (by simpa using hcs)) hS (fun q _ g => h.freeA hD hS q g) (h.freeA hD hS) (fun u ra t H1 locs1 ht hvm hw hB hz1 hk1 hS1 => ?_)
  obtain ⟨rfl, hB⟩ := hB
  rw [ht] at hB
  exact kk H1 locs1 hB (hD.addr had) hS1
theorem ca_Vva (h : Hd Γ p s m args c cc own nL Ts A) (hsz : ls.size = nL) (hM : Cv Γ l y wsy rmy (.ref b :: As) ws wf) (cw : CallW R s args own C index y bytes maxL ret wsy rmy 0 0 n) (hn : As.length = n) (hdg : decode cc pc = .ok (.invokevirtual index, 3)) (hst : st = As.reverse ++ .ref b :: rest) (hW : (rest.map fun v => v.category).sum ≤ 8)
    (hP : va_P (gD Γ) vwCl ws H) (hD : va_D A ws) (hS : va_S A s.heap H locs) {q0 ci : Nat} {fs : List Value} {qc : vw_C} (hq : ws[q0]? = some (b, .inr (ci, fs))) (hcl : vwCl[ci]? = some qc) (hqc : qc.1 = C) (had : wf.map (fun q => q.1) = ws.map (fun q => q.1)) (hcs : cells ≤ R.cells ∧ slots ≤ R.slots)
    (kk : ∀ (H1 : Heap) (locs1 : List Loc), va_P (gD Γ) vwCl wf H1 → va_D A wf → va_S A s.heap H1 locs1 → W p l e R s m args below meth c H1 locs1 cells slots Q (F0 m (pc + 3) ls (rest))) : W p l e R s m args below meth c H locs cells slots Q (F0 m pc ls st) := by
  subst hst
  refine va_callv (va_runV (As := As) (rest := rest) h.1 (hM H.size) cw ⟨PC.blind, by rw [← hqc]; exact va_recv h.2.1 hP hcl hq, h.preA hP hD hS⟩ rfl hn hsz rfl (by show 2 * 0 + _ ≤ 8; omega) hdg (by simpa using hcs)) hS (fun q _ g => h.freeA hD hS q g) (h.freeA hD hS) (fun u t H1 locs1 ht hvm hw hB hz1 hk1 hS1 => ?_)
  rw [ht] at hB
  exact kk H1 locs1 hB (hD.addr had) hS1
theorem va_keep0 {H1 : Heap} (hP : va_P (gD Γ) vwCl ws H) (hk : ∀ q : Nat, q < H.size → ¬ va_A [] H.size q → H1[q]? = H[q]?) : va_P (gD Γ) vwCl ws H1 :=
  hP.kept fun k q hq => hk q.1 (hP k q hq).lt (fun h => by
    rcases h with ⟨j, e, hj⟩ | h
    · simp at hj
    · exact absurd (hP k q hq).lt (Nat.not_lt.mpr h))
/-- static calls without a world -/
theorem ca_Si {r : Int32} (h : Hd Γ p s m args c cc own nL Ts A) (hsz : ls.size = nL) (hM : Ci Γ l y wsy rmy As [] r []) (cw : CallB R s args own index y bytes maxL ret wsy rmy 0 0 n ∧ (Cond.static y).before args s = true) (hn : As.length = n) (hdg : decode cc pc = .ok (.invokestatic index, 3)) (hst : st = As.reverse ++ rest) (hW : (rest.map fun v => v.category).sum ≤ 8)
    (hP : va_P (gD Γ) vwCl ws H) (hD : va_D A ws) (hS : va_S A s.heap H locs) (hcs : cells ≤ R.cells ∧ slots ≤ R.slots)
    (kk : ∀ (H1 : Heap) (locs1 : List Loc), va_P (gD Γ) vwCl ws H1 → va_S A s.heap H1 locs1 → W p l e R s m args below meth c H1 locs1 cells slots Q (F0 m (pc + 3) ls (.int r :: rest))) : W p l e R s m args below meth c H locs cells slots Q (F0 m pc ls st) := by
  subst hst
  have hF := va_free (wc := []) hD hS h.2.2.1 [] rfl
  refine va_calli (va_runS (As := As) (rest := rest) h.1 (hM H.size) cw ⟨PC.blind, h.preS hP hD hS [] rfl rfl⟩ rfl hn hsz rfl (by show 2 * 0 + _ ≤ 8; omega) hdg (by simpa using hcs)) hS (fun q _ h => hF q h) hF (fun r' u t H1 locs1 ht hvm hw hB hz1 hk1 hS1 => ?_)
  subst hw
  exact kk H1 locs1 (va_keep0 hP hk1) hS1
theorem ca_Sl {r : Int64} (h : Hd Γ p s m args c cc own nL Ts A) (hsz : ls.size = nL) (hM : Cl Γ l y wsy rmy As [] r []) (cw : CallB R s args own index y bytes maxL ret wsy rmy 0 0 n ∧ (Cond.static y).before args s = true) (hn : As.length = n) (hdg : decode cc pc = .ok (.invokestatic index, 3)) (hst : st = As.reverse ++ rest) (hW : (rest.map fun v => v.category).sum ≤ 8)
    (hP : va_P (gD Γ) vwCl ws H) (hD : va_D A ws) (hS : va_S A s.heap H locs) (hcs : cells ≤ R.cells ∧ slots ≤ R.slots)
    (kk : ∀ (H1 : Heap) (locs1 : List Loc), va_P (gD Γ) vwCl ws H1 → va_S A s.heap H1 locs1 → W p l e R s m args below meth c H1 locs1 cells slots Q (F0 m (pc + 3) ls (.long r :: rest))) : W p l e R s m args below meth c H locs cells slots Q (F0 m pc ls st) := by
  subst hst
  have hF := va_free (wc := []) hD hS h.2.2.1 [] rfl
  refine va_calll (va_runS (As := As) (rest := rest) h.1 (hM H.size) cw ⟨PC.blind, h.preS hP hD hS [] rfl rfl⟩ rfl hn hsz rfl (by show 2 * 0 + _ ≤ 8; omega) hdg (by simpa using hcs)) hS (fun q _ h => hF q h) hF (fun r' u t H1 locs1 ht hvm hw hB hz1 hk1 hS1 => ?_)
  subst hw
  exact kk H1 locs1 (va_keep0 hP hk1) hS1
theorem ca_Sr {r : Nat} (h : Hd Γ p s m args c cc own nL Ts A) (hsz : ls.size = nL) (hM : Cr Γ l y wsy rmy As [] r []) (cw : CallB R s args own index y bytes maxL ret wsy rmy 0 0 n ∧ (Cond.static y).before args s = true) (hn : As.length = n) (hdg : decode cc pc = .ok (.invokestatic index, 3)) (hst : st = As.reverse ++ rest) (hW : (rest.map fun v => v.category).sum ≤ 8)
    (hP : va_P (gD Γ) vwCl ws H) (hD : va_D A ws) (hS : va_S A s.heap H locs) (hcs : cells ≤ R.cells ∧ slots ≤ R.slots)
    (kk : ∀ (H1 : Heap) (locs1 : List Loc), va_P (gD Γ) vwCl ws H1 → va_S A s.heap H1 locs1 → W p l e R s m args below meth c H1 locs1 cells slots Q (F0 m (pc + 3) ls (.ref r :: rest))) : W p l e R s m args below meth c H locs cells slots Q (F0 m pc ls st) := by
  subst hst
  have hF := va_free (wc := []) hD hS h.2.2.1 [] rfl
  refine va_callr (va_runS (As := As) (rest := rest) h.1 (hM H.size) cw ⟨PC.blind, h.preS hP hD hS [] rfl rfl⟩ rfl hn hsz rfl (by show 2 * 0 + _ ≤ 8; omega) hdg (by simpa using hcs)) hS (fun q _ h => hF q h) hF (fun u ra t H1 locs1 ht hvm hw hB hz1 hk1 hS1 => ?_)
  obtain ⟨rfl, hB⟩ := hB
  exact kk H1 locs1 (va_keep0 hP hk1) hS1
/-- static calls of a nest mate's private method, without a world -/
theorem ca_Ni {r : Int32} {host : String} (h : Hd Γ p s m args c cc own nL Ts A) (hsz : ls.size = nL) (hM : Ci Γ l y wsy rmy As [] r []) (cw : va_CN R s args own index y host bytes maxL ret wsy rmy 0 0 n ∧ (Cond.static y).before args s = true ∧ True) (hn : As.length = n) (hdg : decode cc pc = .ok (.invokestatic index, 3)) (hst : st = As.reverse ++ rest) (hW : (rest.map fun v => v.category).sum ≤ 8)
    (hP : va_P (gD Γ) vwCl ws H) (hD : va_D A ws) (hS : va_S A s.heap H locs) (hcs : cells ≤ R.cells ∧ slots ≤ R.slots)
    (kk : ∀ (H1 : Heap) (locs1 : List Loc), va_P (gD Γ) vwCl ws H1 → va_S A s.heap H1 locs1 → W p l e R s m args below meth c H1 locs1 cells slots Q (F0 m (pc + 3) ls (.int r :: rest))) : W p l e R s m args below meth c H locs cells slots Q (F0 m pc ls st) := by
  subst hst
  have hF := va_free (wc := []) hD hS h.2.2.1 [] rfl
  refine va_calli (va_runSN (As := As) (rest := rest) h.1 (hM H.size) cw ⟨PC.blind, h.preS hP hD hS [] rfl rfl⟩ rfl hn hsz rfl (by show 2 * 0 + _ ≤ 8; omega) hdg (by simpa using hcs)) hS (fun q _ h => hF q h) hF (fun r' u t H1 locs1 ht hvm hw hB hz1 hk1 hS1 => ?_)
  subst hw
  exact kk H1 locs1 (va_keep0 hP hk1) hS1
theorem ca_Nl {r : Int64} {host : String} (h : Hd Γ p s m args c cc own nL Ts A) (hsz : ls.size = nL) (hM : Cl Γ l y wsy rmy As [] r []) (cw : va_CN R s args own index y host bytes maxL ret wsy rmy 0 0 n ∧ (Cond.static y).before args s = true ∧ True) (hn : As.length = n) (hdg : decode cc pc = .ok (.invokestatic index, 3)) (hst : st = As.reverse ++ rest) (hW : (rest.map fun v => v.category).sum ≤ 8)
    (hP : va_P (gD Γ) vwCl ws H) (hD : va_D A ws) (hS : va_S A s.heap H locs) (hcs : cells ≤ R.cells ∧ slots ≤ R.slots)
    (kk : ∀ (H1 : Heap) (locs1 : List Loc), va_P (gD Γ) vwCl ws H1 → va_S A s.heap H1 locs1 → W p l e R s m args below meth c H1 locs1 cells slots Q (F0 m (pc + 3) ls (.long r :: rest))) : W p l e R s m args below meth c H locs cells slots Q (F0 m pc ls st) := by
  subst hst
  have hF := va_free (wc := []) hD hS h.2.2.1 [] rfl
  refine va_calll (va_runSN (As := As) (rest := rest) h.1 (hM H.size) cw ⟨PC.blind, h.preS hP hD hS [] rfl rfl⟩ rfl hn hsz rfl (by show 2 * 0 + _ ≤ 8; omega) hdg (by simpa using hcs)) hS (fun q _ h => hF q h) hF (fun r' u t H1 locs1 ht hvm hw hB hz1 hk1 hS1 => ?_)
  subst hw
  exact kk H1 locs1 (va_keep0 hP hk1) hS1
theorem ca_Nr {r : Nat} {host : String} (h : Hd Γ p s m args c cc own nL Ts A) (hsz : ls.size = nL) (hM : Cr Γ l y wsy rmy As [] r []) (cw : va_CN R s args own index y host bytes maxL ret wsy rmy 0 0 n ∧ (Cond.static y).before args s = true ∧ True) (hn : As.length = n) (hdg : decode cc pc = .ok (.invokestatic index, 3)) (hst : st = As.reverse ++ rest) (hW : (rest.map fun v => v.category).sum ≤ 8)
    (hP : va_P (gD Γ) vwCl ws H) (hD : va_D A ws) (hS : va_S A s.heap H locs) (hcs : cells ≤ R.cells ∧ slots ≤ R.slots)
    (kk : ∀ (H1 : Heap) (locs1 : List Loc), va_P (gD Γ) vwCl ws H1 → va_S A s.heap H1 locs1 → W p l e R s m args below meth c H1 locs1 cells slots Q (F0 m (pc + 3) ls (.ref r :: rest))) : W p l e R s m args below meth c H locs cells slots Q (F0 m pc ls st) := by
  subst hst
  have hF := va_free (wc := []) hD hS h.2.2.1 [] rfl
  refine va_callr (va_runSN (As := As) (rest := rest) h.1 (hM H.size) cw ⟨PC.blind, h.preS hP hD hS [] rfl rfl⟩ rfl hn hsz rfl (by show 2 * 0 + _ ≤ 8; omega) hdg (by simpa using hcs)) hS (fun q _ h => hF q h) hF (fun u ra t H1 locs1 ht hvm hw hB hz1 hk1 hS1 => ?_)
  obtain ⟨rfl, hB⟩ := hB
  exact kk H1 locs1 (va_keep0 hP hk1) hS1
/-- the ends -/
theorem re_i {v r : Int32} {w0 wx : va_W} {av : List Value} (hQ : Q = MQ below (fun _ s o t => o = .returned (some (.int r)) ∧ va_P (gD Γ) vwCl wx t.heap ∧ va_F (va_A w0 s.heap.size) s t) av.toArray s 0 0 (va_A w0 s.heap.size)) (ha : args = av.toArray) (hx : p.tables.exec = Jvm.exec) (hb : c.code = cc) (hr : meth.sig.returnType = some .int) (hlocks : meth.locks = false) (hAe : A = va_A w0 s.heap.size) (hP : va_P (gD Γ) vwCl ws H) (hS : va_S A s.heap H locs) (hdg : decode cc pc = .ok (.ireturn, 1)) (ev : v = r) (ew : ws = wx) :
    W p l e R s m args below meth c H locs 0 0 Q (F0 m pc ls [.int v]) := by
  subst hQ; subst ha; subst hAe; subst ev; subst ew
  exact W.iret hx hb hr (fun t ht hW => ⟨rfl, by rw [ht]; exact hP, hS.F ht⟩) hS.2.2 hdg
theorem re_z {v r : Int32} {ty : FieldType} {w0 wx : va_W} {av : List Value} (hQ : Q = MQ below (fun _ s o t => o = .returned (some (.int r)) ∧ va_P (gD Γ) vwCl wx t.heap ∧ va_F (va_A w0 s.heap.size) s t) av.toArray s 0 0 (va_A w0 s.heap.size)) (ha : args = av.toArray) (hx : p.tables.exec = Jvm.exec) (hb : c.code = cc) (hr : meth.sig.returnType = some ty) (hlocks : meth.locks = false) (hAe : A = va_A w0 s.heap.size) (hP : va_P (gD Γ) vwCl ws H) (hS : va_S A s.heap H locs) (hdg : decode cc pc = .ok (.ireturn, 1)) (hnar : narrow ty (.int v) = .int v) (ev : v = r) (ew : ws = wx) :
    W p l e R s m args below meth c H locs 0 0 Q (F0 m pc ls [.int v]) := by
  subst hQ; subst ha; subst hAe; subst ev; subst ew
  exact W.zret hx hb hr hnar (fun t ht hW => ⟨rfl, by rw [ht]; exact hP, hS.F ht⟩) hS.2.2 hdg
theorem re_l {v r : Int64} {w0 wx : va_W} {av : List Value} (hQ : Q = MQ below (fun _ s o t => o = .returned (some (.long r)) ∧ va_P (gD Γ) vwCl wx t.heap ∧ va_F (va_A w0 s.heap.size) s t) av.toArray s 0 0 (va_A w0 s.heap.size)) (ha : args = av.toArray) (hx : p.tables.exec = Jvm.exec) (hb : c.code = cc) (hr : meth.sig.returnType = some .long) (hlocks : meth.locks = false) (hAe : A = va_A w0 s.heap.size) (hP : va_P (gD Γ) vwCl ws H) (hS : va_S A s.heap H locs) (hdg : decode cc pc = .ok (.lreturn, 1)) (ev : v = r) (ew : ws = wx) :
    W p l e R s m args below meth c H locs 0 0 Q (F0 m pc ls [.long v]) := by
  subst hQ; subst ha; subst hAe; subst ev; subst ew
  exact W.lret hx hb hr (fun t ht hW => ⟨rfl, by rw [ht]; exact hP, hS.F ht⟩) hS.2.2 hdg
theorem re_v {w0 wx : va_W} {av : List Value} (hQ : Q = MQ below (fun _ s o t => o = .returned none ∧ va_P (gD Γ) vwCl wx t.heap ∧ va_F (va_A w0 s.heap.size) s t) av.toArray s 0 0 (va_A w0 s.heap.size)) (ha : args = av.toArray) (hx : p.tables.exec = Jvm.exec) (hb : c.code = cc) (hr : meth.sig.returnType = none) (hlocks : meth.locks = false) (hAe : A = va_A w0 s.heap.size) (hP : va_P (gD Γ) vwCl ws H) (hS : va_S A s.heap H locs) (hdg : decode cc pc = .ok (.return_, 1)) (ew : ws = wx) :
    W p l e R s m args below meth c H locs 0 0 Q (F0 m pc ls []) := by
  subst hQ; subst ha; subst hAe; subst ew
  exact W.vret hx hb hr (fun t ht hW => ⟨rfl, by rw [ht]; exact hP, hS.F ht⟩) hS.2.2 hdg
theorem re_a {v r : Nat} {rt : FieldType} {w0 wx : va_W} {av : List Value} (hQ : Q = MQ below (fun _ s o t => o = .returned (some (.ref r)) ∧ va_P (gD Γ) vwCl wx t.heap ∧ va_F (va_A w0 s.heap.size) s t) av.toArray s 0 0 (va_A w0 s.heap.size)) (ha : args = av.toArray) (hx : p.tables.exec = Jvm.exec) (hb : c.code = cc) (hr : meth.sig.returnType = some rt) (hlocks : meth.locks = false) (hAe : A = va_A w0 s.heap.size) (hP : va_P (gD Γ) vwCl ws H) (hS : va_S A s.heap H locs) (hdg : decode cc pc = .ok (.areturn, 1)) (hrt : (∃ n, rt = .object n) ∨ ∃ t, rt = .array t) (ev : v = r) (ew : ws = wx) :
    W p l e R s m args below meth c H locs 0 0 Q (F0 m pc ls [.ref v]) := by
  subst hQ; subst ha; subst hAe; subst ev; subst ew
  exact W.aret hx hb hr hrt (Or.inr ⟨v, rfl⟩) (fun t ht hW => ⟨rfl, by rw [ht]; exact hP, hS.F ht⟩) hS.2.2 hdg
end CALLS

/-! arrays by natural places -/
section ARR
variable {p : Program} {l : Launch} {e : Env} {R : Room} {s : State} {m : MethodId} {args : Array Value} {below : List Frame} {meth : Method} {c : Code} {H : Heap} {locs : List Loc} {cells slots : Nat} {Q : State → Prop}
variable {cc : ByteArray} {pc : Nat} {ls : Array Slot} {rest : List Value} {D : va_G} {cl : List vw_C} {A : Nat → Prop} {a : Nat} {tys : List (ClassId × FieldType)} {ws : va_W} {H0 : Heap}
theorem nI_of_in {i : Int32} {n : Nat} (h : vp_in i n) (hn : n < 2 ^ 31) : i = nI i.toNatClampNeg := by
  obtain ⟨j, hj, rfl⟩ := vp_in_of h hn
  rw [nI_clamp (by omega)]
theorem in_lt {i : Int32} {n : Nat} (h : vp_in i n) : i.toNatClampNeg < n := Nat.not_le.mp fun q => h (Or.inr q)
theorem ka_iald (hexec : p.tables.exec = Jvm.exec) (hb : c.code = cc) (hK : va_K D cl tys s) (hP : va_P D cl ws H) (q0 t0 : Nat) {cA : ClassId} {n : Nat} {f : Nat → Int32} (ha : ws[q0]? = some (a, .inl (cA, n, .inl f))) (ht : tys[t0]? = some (cA, .int)) {i : Int32} (k : Nat) (hi : i = nI k) (hk : k < n) (hn : n < 2 ^ 31) {v : Int32} (hv : f k = v) (hdg : decode cc pc = .ok (.iaload, 1))
    (kk : W p l e R s m args below meth c H locs cells slots Q (F0 m (pc + 1) ls (.int v :: rest))) : W p l e R s m args below meth c H locs cells slots Q (F0 m pc ls (.int i :: .ref a :: rest)) := by
  subst hi; subst hv
  exact va_iald hexec hb hK hP q0 t0 ha ht (vp_in_nI hk hn) hdg (by rw [nI_clamp (by omega)]; exact kk)
theorem ka_cald (hexec : p.tables.exec = Jvm.exec) (hb : c.code = cc) (hK : va_K D cl tys s) (hP : va_P D cl ws H) (q0 t0 : Nat) {cA : ClassId} {n : Nat} {f : Nat → Int32} (ha : ws[q0]? = some (a, .inl (cA, n, .inl f))) (ht : tys[t0]? = some (cA, .char)) {i : Int32} (k : Nat) (hi : i = nI k) (hk : k < n) (hn : n < 2 ^ 31) {v : Int32} (hv : f k = v) (hdg : decode cc pc = .ok (.caload, 1))
    (kk : W p l e R s m args below meth c H locs cells slots Q (F0 m (pc + 1) ls (.int v :: rest))) : W p l e R s m args below meth c H locs cells slots Q (F0 m pc ls (.int i :: .ref a :: rest)) := by
  subst hi; subst hv
  exact va_cald hexec hb hK hP q0 t0 ha ht (vp_in_nI hk hn) hdg (by rw [nI_clamp (by omega)]; exact kk)
theorem ka_lald (hexec : p.tables.exec = Jvm.exec) (hb : c.code = cc) (hK : va_K D cl tys s) (hP : va_P D cl ws H) (q0 t0 : Nat) {cA : ClassId} {n : Nat} {f : Nat → Int64} (ha : ws[q0]? = some (a, .inl (cA, n, .inr (.inl f)))) (ht : tys[t0]? = some (cA, .long)) {i : Int32} (k : Nat) (hi : i = nI k) (hk : k < n) (hn : n < 2 ^ 31) {v : Int64} (hv : f k = v) (hdg : decode cc pc = .ok (.laload, 1))
    (kk : W p l e R s m args below meth c H locs cells slots Q (F0 m (pc + 1) ls (.long v :: rest))) : W p l e R s m args below meth c H locs cells slots Q (F0 m pc ls (.int i :: .ref a :: rest)) := by
  subst hi; subst hv
  exact va_lald hexec hb hK hP q0 t0 ha ht (vp_in_nI hk hn) hdg (by rw [nI_clamp (by omega)]; exact kk)
theorem ka_iast (hexec : p.tables.exec = Jvm.exec) (hb : c.code = cc) (hK : va_K D cl tys s) (hP : va_P D cl ws H) (hD : va_D A ws) (hS : va_S A H0 H locs) (q0 t0 : Nat) {cA : ClassId} {n : Nat} {f : Nat → Int32} (ha : ws[q0]? = some (a, .inl (cA, n, .inl f))) (ht : tys[t0]? = some (cA, .int)) {i : Int32} {x : Int32} (k : Nat) (hi : i = nI k) (hk : k < n) (hn : n < 2 ^ 31) {wf : va_W} (hw : ws.set q0 (a, .inl (cA, n, .inl (upd f k x))) = wf) (hdg : decode cc pc = .ok (.iastore, 1))
    (kk : ∀ (H1 : Heap) (locs1 : List Loc), va_P D cl wf H1 → va_D A wf → va_S A H0 H1 locs1 → W p l e R s m args below meth c H1 locs1 cells slots Q (F0 m (pc + 1) ls rest)) : W p l e R s m args below meth c H locs cells slots Q (F0 m pc ls (.int x :: .int i :: .ref a :: rest)) := by
  subst hi; subst hw
  refine va_iast hexec hb hK hP hD hS q0 t0 ha ht (vp_in_nI hk hn) hdg (fun H1 locs1 h1 h2 h3 => ?_)
  rw [nI_clamp (by omega)] at h1 h2
  exact kk H1 locs1 h1 h2 h3
theorem ka_last (hexec : p.tables.exec = Jvm.exec) (hb : c.code = cc) (hK : va_K D cl tys s) (hP : va_P D cl ws H) (hD : va_D A ws) (hS : va_S A H0 H locs) (q0 t0 : Nat) {cA : ClassId} {n : Nat} {f : Nat → Int64} (ha : ws[q0]? = some (a, .inl (cA, n, .inr (.inl f)))) (ht : tys[t0]? = some (cA, .long)) {i : Int32} {x : Int64} (k : Nat) (hi : i = nI k) (hk : k < n) (hn : n < 2 ^ 31) {wf : va_W} (hw : ws.set q0 (a, .inl (cA, n, .inr (.inl (vp_updL f k x)))) = wf) (hdg : decode cc pc = .ok (.lastore, 1))
    (kk : ∀ (H1 : Heap) (locs1 : List Loc), va_P D cl wf H1 → va_D A wf → va_S A H0 H1 locs1 → W p l e R s m args below meth c H1 locs1 cells slots Q (F0 m (pc + 1) ls rest)) : W p l e R s m args below meth c H locs cells slots Q (F0 m pc ls (.long x :: .int i :: .ref a :: rest)) := by
  subst hi; subst hw
  refine va_last hexec hb hK hP hD hS q0 t0 ha ht (vp_in_nI hk hn) hdg (fun H1 locs1 h1 h2 h3 => ?_)
  rw [nI_clamp (by omega)] at h1 h2
  exact kk H1 locs1 h1 h2 h3
theorem ka_cast (hexec : p.tables.exec = Jvm.exec) (hb : c.code = cc) (hK : va_K D cl tys s) (hP : va_P D cl ws H) (hD : va_D A ws) (hS : va_S A H0 H locs) (q0 t0 : Nat) {cA : ClassId} {n : Nat} {f : Nat → Int32} (ha : ws[q0]? = some (a, .inl (cA, n, .inl f))) (ht : tys[t0]? = some (cA, .char)) {i : Int32} {x : Int32} (k : Nat) (hi : i = nI k) (hk : k < n) (hn : n < 2 ^ 31) (hx : vp_nar .char x = x) {wf : va_W} (hw : ws.set q0 (a, .inl (cA, n, .inl (upd f k x))) = wf) (hdg : decode cc pc = .ok (.castore, 1))
    (kk : ∀ (H1 : Heap) (locs1 : List Loc), va_P D cl wf H1 → va_D A wf → va_S A H0 H1 locs1 → W p l e R s m args below meth c H1 locs1 cells slots Q (F0 m (pc + 1) ls rest)) : W p l e R s m args below meth c H locs cells slots Q (F0 m pc ls (.int x :: .int i :: .ref a :: rest)) := by
  subst hi; subst hw
  refine va_cast hexec hb hK hP hD hS q0 t0 ha ht (vp_in_nI hk hn) hdg (fun H1 locs1 h1 h2 h3 => ?_)
  rw [nI_clamp (by omega), hx] at h1 h2
  exact kk H1 locs1 h1 h2 h3
/-- a row of an array of arrays -/
theorem ka_aald (hexec : p.tables.exec = Jvm.exec) (hb : c.code = cc) (hK : va_K D cl tys s) (hP : va_P D cl ws H) (q0 t0 : Nat) {cA : ClassId} {n : Nat} {f : Nat → Option Nat} (ha : ws[q0]? = some (a, .inl (cA, n, .inr (.inr (.inr (.inr f)))))) (ht : tys[t0]? = some (cA, .array .int)) {i : Int32} (k : Nat) (hi : i = nI k) (hk : k < n) (hn : n < 2 ^ 31) {v : Nat} (hv : f k = some v) (hdg : decode cc pc = .ok (.aaload, 1))
    (kk : W p l e R s m args below meth c H locs cells slots Q (F0 m (pc + 1) ls (.ref v :: rest))) : W p l e R s m args below meth c H locs cells slots Q (F0 m pc ls (.int i :: .ref a :: rest)) := by
  subst hi
  have hc : (nI k).toNatClampNeg = k := nI_clamp (by omega)
  have hin : vp_in (nI k) n := vp_in_nI hk hn
  have hlt : (nI k).toNatClampNeg < n := by rw [hc]; exact hk
  exact W.aald (v := .ref v) (ty := .array .int) hexec hb (hP q0 _ ha) ((hK.2 t0 _ ht).1 n (fun j => va_rf (f j))) rfl (fun q => by cases q) (by show ¬ (nI k < 0 ∨ (arrV _ _ _).slots.size ≤ _); rw [arrV_size]; exact hin) (by show (arrV _ _ _).slots[_]? = _; rw [arrV_read _ _ hlt, hc, hv]; rfl) rfl rfl hdg kk
end ARR
