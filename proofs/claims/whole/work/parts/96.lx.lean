/-! THE LAW: what the walk wants -/
theorem REL_facts {x : Xst} {μ : Mst} (h : REL x μ) : cOk (xChg x) ∧ uOk (mUm μ) ∧ ¬ tLen (xTxt x) < 0 ∧ (∃ L : Nat, tLen (xTxt x) = nI L ∧ L ≤ 80) ∧ lenOk (mLen μ) ∧ nmOk (mNames μ) ∧ (∃ N : Nat, lNow (xLoop x) = nI N ∧ mNow μ 640 = lN N ∧ N ≤ 100000) ∧ mOk (mNow μ) ∧ ¬ wCnt (lWat (xLoop x)) < 0 ∧ (xCnt x = 0 ∨ xCnt x = 1 ∨ xCnt x = 2) ∧ kOk (mKm μ) ∧ lB (xLoop x) ∧ lB (xFst x) ∧ lB (xSnd x) ∧ ∃ J : Nat, J ≤ 30 ∧ fGet (xSet x) 4 / 10 = nI J ∧ mPar μ 4 / 10 = nI J := by
  obtain ⟨J, j1, j2, j3, -, -⟩ := dead_ok h
  obtain ⟨hS, hC, ⟨L, t1, t2, t3, -⟩, ⟨N, hN, hL⟩, ⟨K, k1, k2, k3, -, -, b1, b2⟩, hM⟩ := h
  obtain ⟨c1, c2⟩ := cOk_of hC
  have hLR := hL
  obtain ⟨l1, l2, -, -, -, -, ⟨W, w1, w2, -⟩, -, l9⟩ := hL
  refine ⟨c1, c2, by rw [t2]; exact nI_pos (by omega), ⟨L, t2, t1⟩, ⟨L, t1, t3⟩, hM.2.1, ⟨N, l1, l2, hN⟩, l9, by rw [w2]; exact nI_pos (by omega), ?_, ⟨K, k1, k3⟩, LR_lB hLR, b1, b2, J, j1, j2, j3⟩
  rw [k2]
  rcases (show K = 0 ∨ K = 1 ∨ K = 2 by omega) with rfl | rfl | rfl
  · exact Or.inl rfl
  · exact Or.inr (Or.inl rfl)
  · exact Or.inr (Or.inr rfl)
theorem va_nd_of : ∀ is : List Nat, is.Nodup → va_nd is = true
  | [], _ => rfl
  | x :: xs, h => by
    rw [List.nodup_cons] at h
    unfold va_nd
    rw [va_nd_of xs h.2, decide_eq_true h.1]
    rfl
theorem at_mid : ∀ (w pre post : va_W), (List.range' pre.length w.length).map (fun i => (pre ++ (w ++ post))[i]?) = w.map some
  | [], _, _ => rfl
  | x :: xs, pre, post => by
    have h := at_mid xs (pre ++ [x]) post
    rw [List.length_append, List.append_assoc] at h
    rw [List.length_cons, List.range'_succ, List.map_cons, List.map_cons]
    refine congr (congrArg List.cons ?_) h
    simp
theorem upd_mid : ∀ (w w1 pre post : va_W), w1.length = w.length → va_upd (pre ++ (w ++ post)) (List.range' pre.length w.length) w1 = pre ++ (w1 ++ post)
  | [], [], _, _, _ => by simp [va_upd]
  | [], _ :: _, _, _, h => by simp at h
  | _ :: _, [], _, _, h => by simp at h
  | x :: xs, y :: ys, pre, post, h => by
    have q := upd_mid xs ys (pre ++ [y]) post (by simpa using h)
    rw [List.length_append, List.append_assoc, List.append_assoc] at q
    rw [List.length_cons, List.range'_succ]
    show va_upd ((pre ++ (x :: (xs ++ post))).set pre.length y) (List.range' (pre.length + 1) xs.length) ys = _
    rw [show (pre ++ (x :: (xs ++ post))).set pre.length y = pre ++ ([y] ++ (xs ++ post)) by simp]
    exact q
section LAW
variable {p : Program} {l : Launch} {e : Env} {R : Room} {s : State} {m : MethodId} {args : Array Value} {below : List Frame} {meth : Method} {c : Code} {H : Heap} {locs : List Loc} {cells slots : Nat} {Q : State → Prop}
variable {cc bytes : ByteArray} {pc : Nat} {ls : Array Slot} {st rest As : List Value} {Γ : gT} {A : Nat → Prop} {pre w w1 post : va_W} {Ts wsy : List Cond} {own C : String} {nL maxL index n : Nat} {y : MethodName} {ret : Option FieldType} {rmy : Room} {b : Nat}
theorem la_i {r : Int32} (h : Hd Γ p s m args c cc own nL Ts A) (hsz : ls.size = nL) (hM : Ci Γ l y wsy rmy (.ref b :: As) w r w1) (cw : CallW R s args own C index y bytes maxL ret wsy rmy 0 0 n) (hn : As.length = n) (hdg : decode cc pc = .ok (.invokevirtual index, 3)) (hst : st = As.reverse ++ .ref b :: rest) (hW : (rest.map fun v => v.category).sum ≤ 8)
    (hP : va_P (gD Γ) vwCl (pre ++ (w ++ post)) H) (hD : va_D A (pre ++ (w ++ post))) (hS : va_S A s.heap H locs) {q0 ci : Nat} {fs : List Value} {qc : vw_C} (hq : (pre ++ (w ++ post))[q0]? = some (b, .inr (ci, fs))) (hcl : vwCl[ci]? = some qc) (hqc : qc.1 = C) (hlen : w1.length = w.length) (had : w1.map (fun q => q.1) = w.map (fun q => q.1)) (hcs : cells ≤ R.cells ∧ slots ≤ R.slots)
    (kk : ∀ (H1 : Heap) (locs1 : List Loc), va_P (gD Γ) vwCl (pre ++ (w1 ++ post)) H1 → va_D A (pre ++ (w1 ++ post)) → va_S A s.heap H1 locs1 → W p l e R s m args below meth c H1 locs1 cells slots Q (F0 m (pc + 3) ls (.int r :: rest))) : W p l e R s m args below meth c H locs cells slots Q (F0 m pc ls st) :=
  ca_Vi h hsz hM cw hn hdg hst hW hP hD hS (List.range' pre.length w.length) (va_nd_of _ (List.nodup_range' (step := 1))) (at_mid w pre post) hq hcl hqc w.length hlen rfl (upd_mid w w1 pre post hlen) (by simp only [List.map_append, had]) hcs kk
theorem la_l {r : Int64} (h : Hd Γ p s m args c cc own nL Ts A) (hsz : ls.size = nL) (hM : Cl Γ l y wsy rmy (.ref b :: As) w r w1) (cw : CallW R s args own C index y bytes maxL ret wsy rmy 0 0 n) (hn : As.length = n) (hdg : decode cc pc = .ok (.invokevirtual index, 3)) (hst : st = As.reverse ++ .ref b :: rest) (hW : (rest.map fun v => v.category).sum ≤ 8)
    (hP : va_P (gD Γ) vwCl (pre ++ (w ++ post)) H) (hD : va_D A (pre ++ (w ++ post))) (hS : va_S A s.heap H locs) {q0 ci : Nat} {fs : List Value} {qc : vw_C} (hq : (pre ++ (w ++ post))[q0]? = some (b, .inr (ci, fs))) (hcl : vwCl[ci]? = some qc) (hqc : qc.1 = C) (hlen : w1.length = w.length) (had : w1.map (fun q => q.1) = w.map (fun q => q.1)) (hcs : cells ≤ R.cells ∧ slots ≤ R.slots)
    (kk : ∀ (H1 : Heap) (locs1 : List Loc), va_P (gD Γ) vwCl (pre ++ (w1 ++ post)) H1 → va_D A (pre ++ (w1 ++ post)) → va_S A s.heap H1 locs1 → W p l e R s m args below meth c H1 locs1 cells slots Q (F0 m (pc + 3) ls (.long r :: rest))) : W p l e R s m args below meth c H locs cells slots Q (F0 m pc ls st) :=
  ca_Vl h hsz hM cw hn hdg hst hW hP hD hS (List.range' pre.length w.length) (va_nd_of _ (List.nodup_range' (step := 1))) (at_mid w pre post) hq hcl hqc w.length hlen rfl (upd_mid w w1 pre post hlen) (by simp only [List.map_append, had]) hcs kk
theorem la_im {r : Int32} (h : Hd Γ p s m args c cc own nL Ts A) (hsz : ls.size = nL) (hM : Ci Γ l y wsy rmy (.ref b :: As) w r w1) (cw : CallW R s args own C index y bytes maxL ret wsy rmy 0 0 n) (hn : As.length = n) (hdg : decode cc pc = .ok (.invokevirtual index, 3)) (hst : st = As.reverse ++ .ref b :: rest) (hW : (rest.map fun v => v.category).sum ≤ 8)
    (hP : va_P (gD Γ) vwCl (pre ++ w) H) (hD : va_D A (pre ++ w)) (hS : va_S A s.heap H locs) {q0 ci : Nat} {fs : List Value} {qc : vw_C} (hq : (pre ++ w)[q0]? = some (b, .inr (ci, fs))) (hcl : vwCl[ci]? = some qc) (hqc : qc.1 = C) (hlen : w1.length = w.length) (had : w1.map (fun q => q.1) = w.map (fun q => q.1)) (hcs : cells ≤ R.cells ∧ slots ≤ R.slots)
    (kk : ∀ (H1 : Heap) (locs1 : List Loc), va_P (gD Γ) vwCl (pre ++ w1) H1 → va_D A (pre ++ w1) → va_S A s.heap H1 locs1 → W p l e R s m args below meth c H1 locs1 cells slots Q (F0 m (pc + 3) ls (.int r :: rest))) : W p l e R s m args below meth c H locs cells slots Q (F0 m pc ls st) :=
  la_i (post := []) h hsz hM cw hn hdg hst hW (by rw [List.append_nil]; exact hP) (by rw [List.append_nil]; exact hD) hS (by rw [List.append_nil]; exact hq) hcl hqc hlen had hcs (fun H1 locs1 q1 q2 q3 => kk H1 locs1 (by rw [List.append_nil] at q1; exact q1) (by rw [List.append_nil] at q2; exact q2) q3)
theorem la_lm {r : Int64} (h : Hd Γ p s m args c cc own nL Ts A) (hsz : ls.size = nL) (hM : Cl Γ l y wsy rmy (.ref b :: As) w r w1) (cw : CallW R s args own C index y bytes maxL ret wsy rmy 0 0 n) (hn : As.length = n) (hdg : decode cc pc = .ok (.invokevirtual index, 3)) (hst : st = As.reverse ++ .ref b :: rest) (hW : (rest.map fun v => v.category).sum ≤ 8)
    (hP : va_P (gD Γ) vwCl (pre ++ w) H) (hD : va_D A (pre ++ w)) (hS : va_S A s.heap H locs) {q0 ci : Nat} {fs : List Value} {qc : vw_C} (hq : (pre ++ w)[q0]? = some (b, .inr (ci, fs))) (hcl : vwCl[ci]? = some qc) (hqc : qc.1 = C) (hlen : w1.length = w.length) (had : w1.map (fun q => q.1) = w.map (fun q => q.1)) (hcs : cells ≤ R.cells ∧ slots ≤ R.slots)
    (kk : ∀ (H1 : Heap) (locs1 : List Loc), va_P (gD Γ) vwCl (pre ++ w1) H1 → va_D A (pre ++ w1) → va_S A s.heap H1 locs1 → W p l e R s m args below meth c H1 locs1 cells slots Q (F0 m (pc + 3) ls (.long r :: rest))) : W p l e R s m args below meth c H locs cells slots Q (F0 m pc ls st) :=
  la_l (post := []) h hsz hM cw hn hdg hst hW (by rw [List.append_nil]; exact hP) (by rw [List.append_nil]; exact hD) hS (by rw [List.append_nil]; exact hq) hcl hqc hlen had hcs (fun H1 locs1 q1 q2 q3 => kk H1 locs1 (by rw [List.append_nil] at q1; exact q1) (by rw [List.append_nil] at q2; exact q2) q3)
end LAW
/-- the two objects' places, once for all states -/
theorem x_at (Γ : gT) (a : Nat → Nat) (x : Xst) (post : va_W) : (([] : va_W) ++ (xW Γ a x ++ post))[0]? = some (a 0, .inr (6, [.ref (a 1), .ref (a 3), .ref (a 11), .ref (a 15), .ref (a 24), .ref (a 33), .int (xCnt x), .ref (a 42), .ref (a 44), .ref (a 46), .ref (a 55)])) := rfl
theorem m_at0 (Γ : gT) (a2 : Nat → Nat) (μ : Mst) : (modW Γ a2 0 μ)[0]? = some (a2 0, .inr (7, [.ref (a2 1), .ref (a2 2), .ref (a2 3), .int (mKm μ), .ref (a2 4), .ref (a2 5), .ref (a2 6), .int (mUm μ), .ref (a2 7), .ref (a2 8), .ref (a2 9), .int (mLen μ), .ref (a2 10), .ref (a2 11), .int (mIdeal μ), .int (mSpot μ), .int (mWhich μ), .int (mNum μ)])) := rfl
theorem xW_len (Γ : gT) (a : Nat → Nat) (x : Xst) : (xW Γ a x).length = 64 := rfl
theorem m_at (Γ : gT) (a a2 : Nat → Nat) (x : Xst) (μ : Mst) : (xW Γ a x ++ modW Γ a2 0 μ)[64]? = some (a2 0, .inr (7, [.ref (a2 1), .ref (a2 2), .ref (a2 3), .int (mKm μ), .ref (a2 4), .ref (a2 5), .ref (a2 6), .int (mUm μ), .ref (a2 7), .ref (a2 8), .ref (a2 9), .int (mLen μ), .ref (a2 10), .ref (a2 11), .int (mIdeal μ), .int (mSpot μ), .int (mWhich μ), .int (mNum μ)])) := by
  rw [List.getElem?_append_right (by rw [xW_len]; exact Nat.le_refl 64), xW_len]
  exact m_at0 Γ a2 μ
theorem xW_len2 (Γ : gT) (a : Nat → Nat) (x y : Xst) : (xW Γ a x).length = (xW Γ a y).length := rfl
theorem modW_len2 (Γ : gT) (a : Nat → Nat) (μ ν : Mst) : (modW Γ a 0 μ).length = (modW Γ a 0 ν).length := rfl
theorem modW_addr2 (Γ : gT) (a : Nat → Nat) (μ ν : Mst) : (modW Γ a 0 μ).map (fun q => q.1) = (modW Γ a 0 ν).map (fun q => q.1) := rfl
/-- the five lowest bits -/
theorem and31 (x : Int32) : ∃ k : Nat, k < 32 ∧ x &&& 31 = nI k := by
  have e : (x &&& 31).toBitVec = x.toBitVec &&& 31#32 := rfl
  refine ⟨(x &&& 31).toBitVec.toNat, ?_, ?_⟩
  · rw [e, BitVec.toNat_and]
    exact Nat.lt_succ_of_le Nat.and_le_right
  · apply Int32.toBitVec_inj.mp
    show (x &&& 31).toBitVec = BitVec.ofNat 32 (x &&& 31).toBitVec.toNat
    rw [BitVec.ofNat_toNat, BitVec.setWidth_eq]
