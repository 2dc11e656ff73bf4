/-! texts -/
def vLen (k : Nat) : Nat := vLens.getD k 0
def vByte (k j : Nat) : Int32 := (vNames.getD k []).getD j 0
def vLet (k j : Nat) : Int32 := vByte k j &&& 255
theorem vLen_le {k : Nat} (hk : k < 15) : vLen k ≤ 8 := co_dec (N := 15) (P := fun k => vLen k ≤ 8) (by decide) hk
theorem vLen_lt (k : Nat) : vLen k < 2 ^ 31 := by
  rcases Nat.lt_or_ge k 15 with h | h
  · have := vLen_le h; omega
  · have e : vLen k = 0 := by unfold vLen vLens; rw [List.getD_eq_getElem?_getD, List.getElem?_eq_none (by simpa using h)]; rfl
    omega
section TXT
variable {p : Program} {l : Launch} {e : Env} {R : Room} {s : State} {m : MethodId} {args : Array Value} {below : List Frame} {meth : Method} {c : Code} {H : Heap} {locs : List Loc} {cells slots : Nat} {Q : State → Prop}
variable {cc bytes : ByteArray} {pc : Nat} {ls : Array Slot} {st rest As : List Value} {Γ : gT} {A : Nat → Prop} {ws : va_W} {Ts wsy : List Cond} {own C : String} {nL maxL index n : Nat} {y : MethodName} {ret : Option FieldType} {rmy : Room} {b : Nat}
theorem lv_ldcSw (hexec : p.tables.exec = Jvm.exec) (hb : c.code = cc) {own tx : String} {index q : Nat} (hown : s.vm.findClass own = some m.cls) (hZ : vk_R own index tx q s) (hdg : decode cc pc = .ok (.ldc_w index, 3))
    (k : W p l e R s m args below meth c H locs cells slots Q (F0 m (pc + 3) ls (.ref q :: rest))) : W p l e R s m args below meth c H locs cells slots Q (F0 m pc ls rest) := by
  intro T hT X
  obtain ⟨t, a1, b1⟩ := k T hT X
  exact ⟨t, X.ldcStringW hexec hown (text := tx) (a := q) hZ.1 hZ.2 (g := F0 m pc ls rest) rfl (by rw [hb]; exact hdg) t a1, b1⟩
/-- a call of a method of a String constant -/
theorem ca_Ki {r : Int32} {k : Nat} (h : Hd Γ p s m args c cc own nL Ts A) (hsz : ls.size = nL) (hk : k < 15) (hM : Ci Γ l y wsy rmy (.ref (gSt Γ k) :: As) [] r []) (cw : CallW R s args own "java/lang/String" index y bytes maxL ret wsy rmy 0 0 n) (hn : As.length = n) (hdg : decode cc pc = .ok (.invokevirtual index, 3)) (hst : st = As.reverse ++ .ref (gSt Γ k) :: rest) (hW : (rest.map fun v => v.category).sum ≤ 8)
    (hP : va_P (gD Γ) vwCl ws H) (hD : va_D A ws) (hS : va_S A s.heap H locs) (hcs : cells ≤ R.cells ∧ slots ≤ R.slots)
    (kk : ∀ (H1 : Heap) (locs1 : List Loc), va_P (gD Γ) vwCl ws H1 → va_S A s.heap H1 locs1 → W p l e R s m args below meth c H1 locs1 cells slots Q (F0 m (pc + 3) ls (.int r :: rest))) : W p l e R s m args below meth c H locs cells slots Q (F0 m pc ls st) := by
  subst hst
  have hF := va_free (wc := []) hD hS h.2.2.1 [] rfl
  have hE := h.2.2.2.2.2.2.2.2.2.2
  refine va_calli (va_runV (As := As) (rest := rest) h.1 (hM H.size) cw ⟨PC.blind, vk_recv hE hk hS, h.preS hP hD hS [] rfl rfl⟩ rfl hn hsz rfl (by show 2 * 0 + _ ≤ 8; omega) hdg (by simpa using hcs)) hS (fun q _ h => hF q h) hF (fun r' u t H1 locs1 ht hvm hw hB hz1 hk1 hS1 => ?_)
  subst hw
  exact kk H1 locs1 (va_keep0 hP hk1) hS1
theorem ca_Sv (h : Hd Γ p s m args c cc own nL Ts A) (hsz : ls.size = nL) (hM : Cv Γ l y wsy rmy As [] []) (cw : CallB R s args own index y bytes maxL ret wsy rmy 0 0 n ∧ (Cond.static y).before args s = true) (hn : As.length = n) (hdg : decode cc pc = .ok (.invokestatic index, 3)) (hst : st = As.reverse ++ rest) (hW : (rest.map fun v => v.category).sum ≤ 8)
    (hP : va_P (gD Γ) vwCl ws H) (hD : va_D A ws) (hS : va_S A s.heap H locs) (hcs : cells ≤ R.cells ∧ slots ≤ R.slots)
    (kk : ∀ (H1 : Heap) (locs1 : List Loc), va_P (gD Γ) vwCl ws H1 → va_S A s.heap H1 locs1 → W p l e R s m args below meth c H1 locs1 cells slots Q (F0 m (pc + 3) ls rest)) : W p l e R s m args below meth c H locs cells slots Q (F0 m pc ls st) := by
  subst hst
  have hF := va_free (wc := []) hD hS h.2.2.1 [] rfl
  refine va_callv (va_runS (As := As) (rest := rest) h.1 (hM H.size) cw ⟨PC.blind, h.preS hP hD hS [] rfl rfl⟩ rfl hn hsz rfl (by show 2 * 0 + _ ≤ 8; omega) hdg (by simpa using hcs)) hS (fun q _ h => hF q h) hF (fun u t H1 locs1 ht hvm hw hB hz1 hk1 hS1 => ?_)
  exact kk H1 locs1 (va_keep0 hP hk1) hS1
end TXT
def fChr (chars : Nat → Int32) (len i : Int32) : Int32 := if i < 0 then 0 else if len ≤ i then 0 else if 80 ≤ i then 0 else chars i.toNatClampNeg
def fDig1 (ch : Int32) : Int32 := if ch < 48 then 0 else if 57 < ch then 0 else 1
def fDig (chars : Nat → Int32) (len i : Int32) : Int32 := fDig1 (fChr chars len i)
def fStN (chars : Nat → Int32) (len : Int32) (k : Nat) (start : Int32) : Nat → Nat → Int32
  | 0, _ => 1
  | n + 1, j => if nI (vLen k) ≤ nI j then 1 else if fChr chars len (start + nI j) = vLet k j then fStN chars len k start n (j + 1) else 0
theorem fStN_s (chars : Nat → Int32) (len : Int32) (k : Nat) (start : Int32) (n j : Nat) : fStN chars len k start (n + 1) j = if nI (vLen k) ≤ nI j then 1 else if fChr chars len (start + nI j) = vLet k j then fStN chars len k start n (j + 1) else 0 := rfl
def fStands (chars : Nat → Int32) (len : Int32) (k : Nat) (start : Int32) : Int32 := fStN chars len k start 9 0
def fTgN (chars : Nat → Int32) (len start : Int32) : Nat → Nat → Int32
  | 0, _ => -1
  | n + 1, j => if 15 ≤ nI j then -1 else if fStands chars len j start = 0 then fTgN chars len start n (j + 1) else if fChr chars len (start + nI (vLen j)) = 61 then nI j else fTgN chars len start n (j + 1)
theorem fTgN_s (chars : Nat → Int32) (len start : Int32) (n j : Nat) : fTgN chars len start (n + 1) j = if 15 ≤ nI j then -1 else if fStands chars len j start = 0 then fTgN chars len start n (j + 1) else if fChr chars len (start + nI (vLen j)) = 61 then nI j else fTgN chars len start n (j + 1) := rfl
def fTarget (chars : Nat → Int32) (len start : Int32) : Int32 := fTgN chars len start 16 0
def tKeep (t : Txt) (k v : Int32) : Txt := if fAllows k v = 0 then t else if tCnt t < 16 then (tChars t, upd (tTarg t) (tCnt t).toNatClampNeg k, upd (tWant t) (tCnt t).toNatClampNeg v, tLen t, tCnt t + 1) else t
def tKeepR (cnt k v : Int32) : Int32 := if fAllows k v = 0 then 0 else if cnt < 16 then 1 else 0
/-- the digits: how many, the number, the position behind -/
def fDgN (chars : Nat → Int32) (len : Int32) : Nat → Nat → Int32 → Int32 → Nat × Int32 × Int32
  | 0, d, num, pos => (d, num, pos)
  | n + 1, d, num, pos => if 7 ≤ nI d then (d, num, pos) else if fDig chars len pos = 0 then (d, num, pos) else fDgN chars len n (d + 1) (10 * num + fChr chars len pos - 48) (pos + 1)
theorem fDgN_s (chars : Nat → Int32) (len : Int32) (n d : Nat) (num pos : Int32) : fDgN chars len (n + 1) d num pos = if 7 ≤ nI d then (d, num, pos) else if fDig chars len pos = 0 then (d, num, pos) else fDgN chars len n (d + 1) (10 * num + fChr chars len pos - 48) (pos + 1) := rfl
def fDg (chars : Nat → Int32) (len pos : Int32) : Nat × Int32 × Int32 := fDgN chars len 8 0 0 pos
def fNeg (chars : Nat → Int32) (len pos : Int32) : Int32 := if fChr chars len pos = 45 then 1 else 0
def fSgn (neg num : Int32) : Int32 := if neg = 0 then num else -num
/-- behind the digits: what an assignment's end answers, what it makes of the text -/
def fEndR' (t : Txt) (tg neg y num pos : Int32) : Int32 := if y = 0 then -1 else if fChr (tChars t) (tLen t) pos = 59 then (if tKeepR (tCnt t) tg (fSgn neg num) = 0 then -1 else pos + 1) else -1
def fEndT' (t : Txt) (tg neg y num pos : Int32) : Txt := if y = 0 then t else if fChr (tChars t) (tLen t) pos = 59 then tKeep t tg (fSgn neg num) else t
def fEndR (t : Txt) (tg neg : Int32) (q : Nat × Int32 × Int32) : Int32 := fEndR' t tg neg (nI q.1) q.2.1 q.2.2
def fEndT (t : Txt) (tg neg : Int32) (q : Nat × Int32 × Int32) : Txt := fEndT' t tg neg (nI q.1) q.2.1 q.2.2
def fPos0 (start tg : Int32) : Int32 := (start + nI (vLen tg.toNatClampNeg)) + 1
def fPos1 (pos neg : Int32) : Int32 := if neg = 0 then pos else pos + 1
def fRaQ (t : Txt) (start tg : Int32) : Nat × Int32 × Int32 := fDg (tChars t) (tLen t) (fPos1 (fPos0 start tg) (fNeg (tChars t) (tLen t) (fPos0 start tg)))
def fRaR1 (t : Txt) (start tg : Int32) : Int32 := if tg = -1 then -1 else fEndR t tg (fNeg (tChars t) (tLen t) (fPos0 start tg)) (fRaQ t start tg)
def fRaT1 (t : Txt) (start tg : Int32) : Txt := if tg = -1 then t else fEndT t tg (fNeg (tChars t) (tLen t) (fPos0 start tg)) (fRaQ t start tg)
def fRaR (t : Txt) (start : Int32) : Int32 := fRaR1 t start (fTarget (tChars t) (tLen t) start)
def fRaT (t : Txt) (start : Int32) : Txt := fRaT1 t start (fTarget (tChars t) (tLen t) start)
def fReadN : Nat → Int32 → Txt → Int32 × Txt
  | 0, _, t => (-1, t)
  | n + 1, s, t => if tLen t ≤ s then (-1, t) else if s < fRaR t s then fReadN n (fRaR t s) (fRaT t s) else (s, fRaT t s)
theorem fReadN_s (n : Nat) (s : Int32) (t : Txt) : fReadN (n + 1) s t = if tLen t ≤ s then (-1, t) else if s < fRaR t s then fReadN n (fRaR t s) (fRaT t s) else (s, fRaT t s) := rfl
def fRead (t : Txt) : Int32 × Txt := fReadN 81 0 (tPut_count t 0)
def fFirstN (targ : Nat → Int32) (a : Int32) : Nat → Nat → Int32
  | 0, _ => 1
  | n + 1, i => if a ≤ nI i then 1 else if 16 ≤ a then 1 else if targ i = targ a.toNatClampNeg then 0 else fFirstN targ a n (i + 1)
theorem fFirstN_s (targ : Nat → Int32) (a : Int32) (n i : Nat) : fFirstN targ a (n + 1) i = if a ≤ nI i then 1 else if 16 ≤ a then 1 else if targ i = targ a.toNatClampNeg then 0 else fFirstN targ a n (i + 1) := rfl
def fIsFirst (targ : Nat → Int32) (a : Int32) : Int32 := fFirstN targ a 17 0
def fDiffN (targ : Nat → Int32) (cnt : Int32) : Nat → Nat → Int32 → Int32
  | 0, _, f => f
  | n + 1, i, f => if cnt ≤ nI i then f else if fIsFirst targ (nI i) = 0 then fDiffN targ cnt n (i + 1) f else fDiffN targ cnt n (i + 1) (f + 1)
theorem fDiffN_s (targ : Nat → Int32) (cnt : Int32) (n i : Nat) (f : Int32) : fDiffN targ cnt (n + 1) i f = if cnt ≤ nI i then f else if fIsFirst targ (nI i) = 0 then fDiffN targ cnt n (i + 1) f else fDiffN targ cnt n (i + 1) (f + 1) := rfl
def fDiffer (t : Txt) : Int32 := fDiffN (tTarg t) (tCnt t) 17 0 0
def fDatN (targ : Nat → Int32) (cnt idx : Int32) : Nat → Nat → Int32 → Int32
  | 0, _, _ => -1
  | n + 1, i, f => if cnt ≤ nI i then -1 else if 16 ≤ nI i then -1 else if fIsFirst targ (nI i) = 0 then fDatN targ cnt idx n (i + 1) f else if f = idx then targ i else fDatN targ cnt idx n (i + 1) (f + 1)
theorem fDatN_s (targ : Nat → Int32) (cnt idx : Int32) (n i : Nat) (f : Int32) : fDatN targ cnt idx (n + 1) i f = if cnt ≤ nI i then -1 else if 16 ≤ nI i then -1 else if fIsFirst targ (nI i) = 0 then fDatN targ cnt idx n (i + 1) f else if f = idx then targ i else fDatN targ cnt idx n (i + 1) (f + 1) := rfl
def fDat (t : Txt) (idx : Int32) : Int32 := fDatN (tTarg t) (tCnt t) idx 17 0 0
def fAsgN (t : Txt) : Nat → Nat → Sett → Sett
  | 0, _, v => v
  | n + 1, i, v => if tCnt t ≤ nI i then v else if 16 ≤ nI i then v else fAsgN t n (i + 1) (fSet v (tTarg t i) (tWant t i))
theorem fAsgN_s (t : Txt) (n i : Nat) (v : Sett) : fAsgN t (n + 1) i v = if tCnt t ≤ nI i then v else if 16 ≤ nI i then v else fAsgN t n (i + 1) (fSet v (tTarg t i) (tWant t i)) := rfl
def fAsg (t : Txt) (v : Sett) : Sett := fAsgN t 17 0 v
def rFault (x : Xst) : Int32 := if (fRead (xTxt x)).1 = -1 then -2000000004 else (fRead (xTxt x)).1
def gFault (x : Xst) : Xst := xPut_text x (fRead (xTxt x)).2
def rApply (x : Xst) : Int32 := if (fRead (xTxt x)).1 = -1 then (if tCnt (fRead (xTxt x)).2 = 0 then -2000000002 else tCnt (fRead (xTxt x)).2) else -2000000002
def gApply (x : Xst) : Xst := if (fRead (xTxt x)).1 = -1 then (if tCnt (fRead (xTxt x)).2 = 0 then xPut_text x (fRead (xTxt x)).2 else xPut_settings (xPut_changes (xPut_text x (fRead (xTxt x)).2) (cKeep (xChg x) (xSet x))) (fAsg (fRead (xTxt x)).2 (xSet x))) else xPut_text x (fRead (xTxt x)).2
def rAssigned (x : Xst) : Int32 := if (fRead (xTxt x)).1 = -1 then fDiffer (fRead (xTxt x)).2 else -2000000002
def rAssignedAt1 (d : Int32) : Int32 := if d = -1 then -2000000004 else d
def rAssignedAt (x : Xst) (i : Int32) : Int32 := if 0 ≤ i then (if (fRead (xTxt x)).1 = -1 then rAssignedAt1 (fDat (fRead (xTxt x)).2 i) else -2000000002) else -2000000001
def gAssignedAt (x : Xst) (i : Int32) : Xst := if 0 ≤ i then gFault x else x
def rNameAt (x : Xst) (k i : Int32) : Int32 := if fPar k = 0 then -2000000001 else if 0 ≤ i then (if nI (vLen k.toNatClampNeg) ≤ i then -2000000004 else vLet k.toNatClampNeg i.toNatClampNeg) else -2000000001
theorem tb_out14 {k : Int32} (hk : vp_in k 15) (h0 : ¬ k = 0) (h1 : ¬ k = 1) (h2 : ¬ k = 2) (h3 : ¬ k = 3) (h4 : ¬ k = 4) (h5 : ¬ k = 5) (h6 : ¬ k = 6) (h7 : ¬ k = 7) (h8 : ¬ k = 8) (h9 : ¬ k = 9) (h10 : ¬ k = 10) (h11 : ¬ k = 11) (h12 : ¬ k = 12) (h13 : ¬ k = 13) : k = nI 14 := by
  obtain ⟨j, hj, rfl⟩ := vp_in_of hk (by decide)
  have f : ∀ i : Nat, i < 14 → j = i → ¬ (nI j = nI i) → False := fun i _ e h => h (by rw [e])
  have : j = 14 := by
    rcases Nat.lt_or_ge j 14 with q | q
    · exfalso
      match j, q with
      | 0, _ => exact h0 rfl
      | 1, _ => exact h1 rfl
      | 2, _ => exact h2 rfl
      | 3, _ => exact h3 rfl
      | 4, _ => exact h4 rfl
      | 5, _ => exact h5 rfl
      | 6, _ => exact h6 rfl
      | 7, _ => exact h7 rfl
      | 8, _ => exact h8 rfl
      | 9, _ => exact h9 rfl
      | 10, _ => exact h10 rfl
      | 11, _ => exact h11 rfl
      | 12, _ => exact h12 rfl
      | 13, _ => exact h13 rfl
    · omega
  rw [this]
theorem lt_of_ngt {i k : Nat} (h : ¬ nI k ≤ nI i) (hk : k < 2 ^ 31) (hi : i < 2 ^ 31) : i < k := lt_of_nle h hi hk
