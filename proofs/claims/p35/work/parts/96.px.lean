/-! THE LAW'S OWN METHODS: what their walks want -/
/-- a static method of the law that makes an object of its own: it answers r, nothing that was there before is written -/
def Cs (Γ : gT) (l : Launch) (y : MethodName) (ws : List Cond) (rm : Room) (av : List Value) (r : Int32) (mc ms : Nat) : Prop := ∀ sz : Nat, Met l y ws rm (PN Γ av [] sz) (va_Qi (fun (x : Int32) (_ : Unit) => x = r) (fun _ _ => True) (va_A [] sz)) mc ms (va_A [] sz)
theorem Cs.of {Γ : gT} {l : Launch} {y : MethodName} {ws ws' : List Cond} {cc : ByteArray} {own : String} {nL : Nat} {ret : Option FieldType} {av : List Value} {rm : Room} {r : Int32} {mc ms : Nat} (hy : plainFor y = true) (hw : ws = Cond.code y cc nL ret :: ws') (ho : y.cls = own) (hn : (lg_sl av).length ≤ nL)
    (body : ∀ (p : Program) (e : Env) (s : State) (m : MethodId) (args : Array Value) (below : List Frame) (meth : Method) (c : Code) (A : Nat → Prop) (Q : State → Prop) (ls : Array Slot), args = av.toArray → A = va_A [] s.heap.size → Q = MQ below (va_Qi (fun (x : Int32) (_ : Unit) => x = r) (fun _ _ => True) (va_A [] s.heap.size)) av.toArray s mc ms (va_A [] s.heap.size) → p.tables.exec = Jvm.exec → c.code = cc → c.maxLocals = nL → meth.sig.returnType = ret → (∀ w ∈ ws, w.before args s = true) → s.vm.findClass own = some m.cls → meth.locks = false →
      va_P (gD Γ) vwCl [] s.heap → va_K (gD Γ) vwCl (gTy Γ) s → va_D A [] → va_S A s.heap s.heap [] → (∀ q : Nat, s.heap.size ≤ q → A q) → gG Γ A s s.heap → gAO s → lv_has ls nL (lv_args 0 av) → W p l e rm s m args below meth c s.heap [] 0 0 Q (F0 m 0 ls [])) : Cs Γ l y ws rm av r mc ms := by
  intro sz
  refine va_MetF (cc := cc) (maxL := nL) (ret := ret) hy hw ?_
  intro p e s m args below meth c s₁ B hml hv
  obtain ⟨⟨rfl, hsz, hP, hK, hD0, hG⟩, hO⟩ := hv
  subst hsz
  have hl := lv_entry av (n := nL) hn
  rw [lg_entry_eq]
  exact body p e s m _ below meth c _ _ _ rfl rfl rfl B.exec B.bytes hml B.returns (atoms_spec (ws := ws) B.pre) (ho ▸ findClass_of_methodNamed B.named) B.notSynchronized hP hK hD0.self va_S.rf (fun q h => Or.inr h) hG hO hl
section LAWX
variable {Γ : gT} {p : Program} {l : Launch} {e : Env} {R : Room} {s : State} {m : MethodId} {args : Array Value} {below : List Frame} {meth : Method} {c : Code} {H : Heap} {locs : List Loc} {cells slots : Nat} {Q : State → Prop}
variable {cc : ByteArray} {own : String} {nL pc : Nat} {ls : Array Slot} {st rest : List Value} {Ts : List Cond} {A : Nat → Prop} {ws : va_W}
theorem re_q {v r : Int32} {ty : FieldType} {av : List Value} {mc ms : Nat} (hQ : Q = MQ below (va_Qi (fun (x : Int32) (_ : Unit) => x = r) (fun _ _ => True) (va_A [] s.heap.size)) av.toArray s mc ms (va_A [] s.heap.size)) (ha : args = av.toArray) (hx : p.tables.exec = Jvm.exec) (hb : c.code = cc) (hr : meth.sig.returnType = some ty) (hlocks : meth.locks = false) (hAe : A = va_A [] s.heap.size) (hS : va_S A s.heap H locs) (hdg : decode cc pc = .ok (.ireturn, 1)) (hnar : narrow ty (.int v) = .int v) (ev : v = r) : W p l e R s m args below meth c H locs mc ms Q (F0 m pc ls [.int v]) := by
  subst hQ; subst ha; subst hAe; subst ev
  exact W.zret hx hb hr hnar (fun t ht hW => ⟨⟨v, (), rfl, rfl, trivial⟩, hS.F ht⟩) hS.2.2 hdg
end LAWX
/-! numbers -/
theorem bd_P (k : Nat) (lo hi : Int) (hl : (pLeast k).toInt = lo) (hh : (pGreatest k).toInt = hi) {w : Int32} {z : Int} (hw : w.toInt = z) (h1 : lo ≤ z) (h2 : z ≤ hi) : (pLeast k).toInt ≤ w.toInt ∧ w.toInt ≤ (pGreatest k).toInt := by rw [hl, hh, hw]; exact ⟨h1, h2⟩
theorem z_setP {x : Xst} {v : Sett} {U : Nat} {σ : Lop} {c : Int32} {φ : Lop} (h : ZS x v U σ c φ) (k : Nat) (hk : k < 15) {w : Int32} (hb : (pLeast k).toInt ≤ w.toInt ∧ w.toInt ≤ (pGreatest k).toInt) : rSetParameter x (nI k) w = v k ∧ ZS (gSetParameter x (nI k) w) (upd v k w) (nU U) σ c φ := z_set h k hk hb.1 hb.2
theorem pk_updP {v : Sett} (h : pOk v) {k : Nat} {w : Int32} (hb : (pLeast k).toInt ≤ w.toInt ∧ w.toInt ≤ (pGreatest k).toInt) : pOk (upd v k w) := pk_upd h hb.1 hb.2
theorem neg_T {a : Nat} (h : a < 1073741824) : (-(nI a) : Int32).toInt = -(a : Int) := by
  rw [Int32.toInt_neg, nI_toInt (by omega)]
  exact Int.bmod_eq_of_le (by omega) (by omega)
theorem sh_31 : ∀ n : Nat, n < 32 → ((nI n &&& 31).toBitVec.smod 32).toNat = n := by decide +kernel
theorem sv (k : Nat) (hk : k < 15) {z : Int32} (h : pInitial k = z) : sett0 k = z := (sett0_at hk).trans h
theorem not_ne {α : Type} {a b : α} (h : a = b) : ¬ ¬ a = b := fun q => q h
theorem cmp_gt_no {x y : Int64} (h : ¬ y < x) : ¬ 0 < lg_cmp x y := mt (lg_cmp_gt x y).mp h
theorem ea_new (v : Sett) (r : Int32) (j : Nat) : EA (fSetR lop0 r) v r j 0 := by
  have z : ∀ s : Nat, s ≠ 0 → lPres (fSetR lop0 r) s = 0 := fun s h0 => by
    rw [fsr_pres, pk_un h0]
    rfl
  refine ⟨rfl, rfl, by rw [fsr_pres, pk_us], z 2 (by decide), z 3 (by decide), z 5 (by decide), z 7 (by decide), ?_, z 9 (by decide), (z 4 (by decide)).trans (z 1 (by decide)).symm, fun t ht => absurd ht (Nat.not_lt_zero t)⟩
  rw [z 8 (by decide), Nat.zero_sub]
  split <;> rfl
theorem l_cancel (a b : Int64) : a + b - a = b := by rw [Int64.add_comm, Int64.add_sub_cancel]
/-- the check of one gain, as the law has it: sum is not less than the best one's, and not before it where it is the same -/
theorem chk_eq {v : Sett} {σ : Lop} {T B q : Nat} {least sum : Int64} (hl : least = eF v T σ (250 * B)) (hs : sum = eF v T σ (1250 * q)) (hm : ∀ i : Nat, i ≤ 20 → eG v T σ B ≤ eG v T σ i ∧ (i < B → eG v T σ B < eG v T σ i)) (hq : q ≤ 4) (h : ¬ least < sum) : sum = least ∧ 250 * B ≤ 1250 * q := by
  have c := best_chk (v := v) (σ := σ) (T := T) (hm (5 * q) (by omega))
  rw [show 250 * (5 * q) = 1250 * q by omega, ← hl, ← hs] at c
  rcases c with c | ⟨c, d⟩
  · exact absurd c h
  · exact ⟨c, by omega⟩
theorem lT_a {mode bad good pat : Int32} (h : mode = 0) (h2 : bad < pat) : lTurn mode bad good pat = 0 := by unfold lTurn; rw [if_pos h, if_pos h2]
theorem lT_b {mode bad good pat : Int32} (h : mode = 0) (h2 : ¬ bad < pat) : lTurn mode bad good pat = 1 := by unfold lTurn; rw [if_pos h, if_neg h2]
theorem lT_c {mode bad good pat : Int32} (h : ¬ mode = 0) (h2 : good < 2 * pat) : lTurn mode bad good pat = 0 := by unfold lTurn; rw [if_neg h, if_pos h2]
theorem lT_d {mode bad good pat : Int32} (h : ¬ mode = 0) (h2 : ¬ good < 2 * pat) : lTurn mode bad good pat = 1 := by unfold lTurn; rw [if_neg h, if_neg h2]
