/-! the reference's texts: what its methods answer and make, in the words of the class's reading -/
def nmOk (nm : Nat → Int32) : Prop := ∀ k : Nat, k < 15 → ∀ j : Nat, j < 9 → nm (9 * k + j) = if j < vLen k then vLet k j else 0
theorem vLet_ne : ∀ k : Nat, k < 15 → ∀ j : Nat, j < 9 → j < vLen k → ¬ vLet k j = 0 := by decide +kernel
theorem vLen_ge : ∀ k : Nat, k < 15 → 2 ≤ vLen k := by decide +kernel
theorem lng_0 {nm : Nat → Int32} {K j : Nat} (h : nmOk nm) (hK : K < 15) (hj : j ≤ vLen K) (c : nm (9 * K + j) = 0) : j = vLen K := by
  have h8 := vLen_le hK
  have q := h K hK j (by omega)
  rcases Nat.lt_or_ge j (vLen K) with g | g
  · rw [if_pos g] at q; exact absurd (q.symm.trans c) (vLet_ne K hK j (by omega) g)
  · omega
theorem lng_1 {nm : Nat → Int32} {K j : Nat} (h : nmOk nm) (hK : K < 15) (hj : j ≤ vLen K) (c : ¬ nm (9 * K + j) = 0) : j + 1 ≤ vLen K := by
  have h8 := vLen_le hK
  have q := h K hK j (by omega)
  rcases Nat.lt_or_ge j (vLen K) with g | g
  · omega
  · rw [if_neg (by omega)] at q; exact absurd q c
theorem chr_in {len i : Int32} (hL : lenOk len) (h0 : ¬ i < 0) (c : ¬ len ≤ i) : vp_in i 80 := by
  obtain ⟨L, hL, rfl⟩ := hL
  refine in_rng (n := 80) (by decide) h0 (fun q => c (Int32.le_trans (nI_le hL (by decide)) q))
theorem chr_eq {c : Nat → Int32} {len i : Int32} (hL : lenOk len) (h0 : ¬ i < 0) : fChr c len i = if len ≤ i then 0 else c i.toNatClampNeg := by
  unfold fChr
  rw [if_neg h0]
  by_cases g : len ≤ i
  · rw [if_pos g, if_pos g]
  · rw [if_neg g, if_neg g, if_neg]
    have h := chr_in hL h0 g
    obtain ⟨j, hj, rfl⟩ := vp_in_of h (by decide)
    exact nI_ge (a := j) (b := 80) hj (by decide)
theorem nm_lt {k : Nat} {i : Int32} (h0 : 0 ≤ i) (c : ¬ nI (vLen k) ≤ i) : i.toNatClampNeg < vLen k := by
  obtain ⟨j, hj, rfl⟩ := nI_of (Int32.not_lt.mpr h0)
  rw [nI_clamp hj]
  exact lt_of_nle c hj (vLen_lt k)
theorem nm_ix {k i : Int32} (hk : vp_in k 15) (h0 : 0 ≤ i) : (9 : Int32) * k + i = nI (9 * k.toNatClampNeg + i.toNatClampNeg) := by
  obtain ⟨j, hj, rfl⟩ := vp_in_of hk (by decide)
  obtain ⟨z, hz, rfl⟩ := nI_of (Int32.not_lt.mpr h0)
  rw [nI_clamp (by omega), nI_clamp hz]
  exact keep_ix 9 j z
def jNameAt (μ : Mst) (k i : Int32) : Int32 := if fPar k = 0 then -2000000001 else if 0 ≤ i then (if nI (vLen k.toNatClampNeg) ≤ i then -2000000004 else mNames μ (9 * k.toNatClampNeg + i.toNatClampNeg)) else -2000000001
def aNamed (c : Nat → Int32) (len s : Int32) : Int32 := if fTarget c len s = -1 then -2000000004 else fTarget c len s
def aNmSpot (c : Nat → Int32) (len s : Int32) : Int32 := if fTarget c len s = -1 then s else s + (nI (vLen (fTarget c len s).toNatClampNeg) + 1)
theorem aNamed_neg {c : Nat → Int32} {len s : Int32} (h : ¬ 0 ≤ aNamed c len s) : fTarget c len s = -1 := by
  rcases Classical.em (fTarget c len s = -1) with q | q
  · exact q
  · exfalso
    unfold aNamed at h
    rw [if_neg q] at h
    obtain ⟨j, hj, e⟩ := vp_in_of (target_in q) (by decide)
    exact h (by rw [e]; exact nI_pos' (by omega))
theorem aNamed_pos {c : Nat → Int32} {len s : Int32} (h : 0 ≤ aNamed c len s) : ¬ fTarget c len s = -1 := by
  intro q
  unfold aNamed at h
  rw [if_pos q] at h
  exact absurd h (by decide)
def mDgN (chars : Nat → Int32) (len : Int32) : Nat → Nat → Int32 → Int32 → Nat × Int32 × Int32
  | 0, d, num, pos => (d, num, pos)
  | n + 1, d, num, pos => if fDig chars len pos = 0 then (d, num, pos) else if 8 ≤ nI d then (d, num, pos) else mDgN chars len n (d + 1) (10 * num + fChr chars len pos - 48) (pos + 1)
theorem mDgN_s (chars : Nat → Int32) (len : Int32) (n d : Nat) (num pos : Int32) : mDgN chars len (n + 1) d num pos = if fDig chars len pos = 0 then (d, num, pos) else if 8 ≤ nI d then (d, num, pos) else mDgN chars len n (d + 1) (10 * num + fChr chars len pos - 48) (pos + 1) := rfl
theorem dig_eq (ch : Int32) : mIn ch.toInt64 48 57 = fDig1 ch := mIn_i ch 48 57
def aQ (c : Nat → Int32) (len s tg : Int32) : Nat × Int32 × Int32 := mDgN c len 9 0 0 (fPos1 (fPos0 s tg) (fNeg c len (fPos0 s tg)))
def aRes (c : Nat → Int32) (len : Int32) (lo hi : Nat → Int32) (tg neg y num pos : Int32) : Int32 := if mIn y.toInt64 1 7 = 0 then 0 else if fChr c len ((pos + 1) - 1) = 59 then (if mIn (fSgn neg num).toInt64 (lo tg.toNatClampNeg).toInt64 (hi tg.toNatClampNeg).toInt64 = 0 then 0 else 1) else 0
def aR (c : Nat → Int32) (len : Int32) (lo hi : Nat → Int32) (s : Int32) : Int32 := if fTarget c len s = -1 then 0 else aRes c len lo hi (fTarget c len s) (fNeg c len (fPos0 s (fTarget c len s))) (nI (aQ c len s (fTarget c len s)).1) (aQ c len s (fTarget c len s)).2.1 (aQ c len s (fTarget c len s)).2.2
def aSp (c : Nat → Int32) (len s : Int32) : Int32 := if fTarget c len s = -1 then s else (aQ c len s (fTarget c len s)).2.2 + 1
def aWh (c : Nat → Int32) (len s : Int32) : Int32 := aNamed c len s
def aNm (c : Nat → Int32) (len s m : Int32) : Int32 := if fTarget c len s = -1 then m else fSgn (fNeg c len (fPos0 s (fTarget c len s))) (aQ c len s (fTarget c len s)).2.1
theorem as_end {c : Nat → Int32} {len s neg num pos y m : Int32} {lo hi : Nat → Int32} {d : Nat} (hne : ¬ fTarget c len s = -1) (hN : fNeg c len (fPos0 s (fTarget c len s)) = neg) (hq : mDgN c len 9 0 0 (fPos1 (fPos0 s (fTarget c len s)) neg) = (d, num, pos)) (ed : y = nI d) : aR c len lo hi s = aRes c len lo hi (fTarget c len s) neg y num pos ∧ aSp c len s = pos + 1 ∧ aNm c len s m = fSgn neg num := by
  have e : aQ c len s (fTarget c len s) = (d, num, pos) := by rw [aQ, hN, hq]
  refine ⟨?_, ?_, ?_⟩
  · rw [aR, if_neg hne, e, hN, ed]
  · rw [aSp, if_neg hne, e]
  · rw [aNm, if_neg hne, e, hN]
theorem mDgN_pos (c : Nat → Int32) (len : Int32) : ∀ (n d : Nat) (num : Int32) (P : Nat), d ≤ (mDgN c len n d num (nI P)).1 ∧ (mDgN c len n d num (nI P)).1 ≤ d + n ∧ (mDgN c len n d num (nI P)).2.2 = nI (P + ((mDgN c len n d num (nI P)).1 - d))
  | 0, d, num, P => ⟨Nat.le_refl _, Nat.le_refl _, by show nI P = nI (P + (d - d)); rw [Nat.sub_self]; rfl⟩
  | n + 1, d, num, P => by
    rw [mDgN_s]
    by_cases c1 : fDig c len (nI P) = 0
    · rw [if_pos c1]; exact ⟨Nat.le_refl _, by show d ≤ _; omega, by show nI P = nI (P + (d - d)); rw [Nat.sub_self]; rfl⟩
    · rw [if_neg c1]
      by_cases c2 : (8 : Int32) ≤ nI d
      · rw [if_pos c2]; exact ⟨Nat.le_refl _, by show d ≤ _; omega, by show nI P = nI (P + (d - d)); rw [Nat.sub_self]; rfl⟩
      · rw [if_neg c2, nI_1]
        obtain ⟨h1, h2, h3⟩ := mDgN_pos c len n (d + 1) (10 * num + fChr c len (nI P) - 48) (P + 1)
        exact ⟨by omega, by omega, by rw [h3]; congr 1; omega⟩
theorem pos_of {c : Nat → Int32} {len : Int32} {S : Nat} (hne : ¬ fTarget c len (nI S) = -1) : ∃ k : Nat, k < 15 ∧ fTarget c len (nI S) = nI k ∧ fPos0 (nI S) (fTarget c len (nI S)) = nI (S + vLen k + 1) ∧ ∃ g : Nat, g ≤ 1 ∧ fPos1 (fPos0 (nI S) (fTarget c len (nI S))) (fNeg c len (fPos0 (nI S) (fTarget c len (nI S)))) = nI (S + vLen k + 1 + g) := by
  obtain ⟨k, hk, e⟩ := vp_in_of (target_in hne) (by decide)
  have e0 : fPos0 (nI S) (fTarget c len (nI S)) = nI (S + vLen k + 1) := by rw [e, fPos0, nI_clamp (by omega), nI_add, nI_1]
  refine ⟨k, hk, e, e0, ?_⟩
  rw [e0]
  unfold fPos1
  by_cases g : fNeg c len (nI (S + vLen k + 1)) = 0
  · rw [if_pos g]; exact ⟨0, by omega, rfl⟩
  · rw [if_neg g]; exact ⟨1, by omega, nI_1 _⟩
/-- a good assignment goes on by five at least -/
theorem as_adv {c : Nat → Int32} {len : Int32} {lo hi : Nat → Int32} {S : Nat} (hS : S ≤ 80) (h : ¬ aR c len lo hi (nI S) = 0) : ∃ S1 : Nat, S + 5 ≤ S1 ∧ S1 ≤ S + 30 ∧ aSp c len (nI S) = nI S1 := by
  have hne : ¬ fTarget c len (nI S) = -1 := fun q => h (by rw [aR, if_pos q])
  obtain ⟨k, hk, e, e0, g, hg, e1⟩ := pos_of hne
  have h2 := vLen_ge k hk
  have h8 := vLen_le hk
  rw [aR, if_neg hne] at h
  rw [aSp, if_neg hne]
  unfold aQ at h ⊢
  rw [e1] at h ⊢
  obtain ⟨p1, p2, p3⟩ := mDgN_pos c len 9 0 0 (S + vLen k + 1 + g)
  rw [p3]
  have hd : 1 ≤ (mDgN c len 9 0 0 (nI (S + vLen k + 1 + g))).1 := by
    rcases Nat.eq_zero_or_pos (mDgN c len 9 0 0 (nI (S + vLen k + 1 + g))).1 with z | z
    · exfalso; apply h
      rw [aRes, z, if_pos (show mIn (nI 0).toInt64 1 7 = 0 from by decide)]
    · exact z
  generalize (mDgN c len 9 0 0 (nI (S + vLen k + 1 + g))).1 = d at p2 hd
  exact ⟨S + vLen k + 1 + g + (d - 0) + 1, by omega, by omega, nI_1 _⟩
theorem as_wh {c : Nat → Int32} {len : Int32} {lo hi : Nat → Int32} {s : Int32} (h : ¬ aR c len lo hi s = 0) : vp_in (aWh c len s) 15 := by
  have hne : ¬ fTarget c len s = -1 := fun q => h (by rw [aR, if_pos q])
  unfold aWh aNamed
  rw [if_neg hne]; exact target_in hne
theorem lt_spot {len : Int32} {L S : Nat} (hL : L ≤ 80) (eL : len = nI L) (hS : S < 2 ^ 31) (c : ¬ len ≤ nI S) : S < L := lt_of_nle (by rw [← eL]; exact c) hS (by omega)
/-- the reading to the first wrong assignment -/
def aFltN (c : Nat → Int32) (len : Int32) (lo hi : Nat → Int32) : Nat → Int32 → Int32 → Int32 → Int32 × Int32 × Int32 × Int32
  | 0, s, w, m => (-2000000004, s, w, m)
  | n + 1, s, w, m => if len ≤ s then (-2000000004, s, w, m) else if aR c len lo hi s = 0 then (s, aSp c len s, aWh c len s, aNm c len s m) else aFltN c len lo hi n (aSp c len s) (aWh c len s) (aNm c len s m)
theorem aFltN_s (c : Nat → Int32) (len : Int32) (lo hi : Nat → Int32) (n : Nat) (s w m : Int32) : aFltN c len lo hi (n + 1) s w m = if len ≤ s then (-2000000004, s, w, m) else if aR c len lo hi s = 0 then (s, aSp c len s, aWh c len s, aNm c len s m) else aFltN c len lo hi n (aSp c len s) (aWh c len s) (aNm c len s m) := rfl
def aFlt (c : Nat → Int32) (len : Int32) (lo hi : Nat → Int32) (w m : Int32) : Int32 × Int32 × Int32 × Int32 := aFltN c len lo hi 81 0 w m
def aAppN (c : Nat → Int32) (len : Int32) (lo hi : Nat → Int32) : Nat → Int32 → Int32 → Int32 → (Nat → Int32) → Int32 → Int32 × Int32 × Int32 × Int32 × (Nat → Int32)
  | 0, s, w, m, q, k => (k, s, w, m, q)
  | n + 1, s, w, m, q, k => if len ≤ s then (k, s, w, m, q) else if aR c len lo hi s = 0 then (k, aSp c len s, aWh c len s, aNm c len s m, q) else aAppN c len lo hi n (aSp c len s) (aWh c len s) (aNm c len s m) (upd q (aWh c len s).toNatClampNeg (aNm c len s m)) (k + 1)
theorem aAppN_s (c : Nat → Int32) (len : Int32) (lo hi : Nat → Int32) (n : Nat) (s w m : Int32) (q : Nat → Int32) (k : Int32) : aAppN c len lo hi (n + 1) s w m q k = if len ≤ s then (k, s, w, m, q) else if aR c len lo hi s = 0 then (k, aSp c len s, aWh c len s, aNm c len s m, q) else aAppN c len lo hi n (aSp c len s) (aWh c len s) (aNm c len s m) (upd q (aWh c len s).toNatClampNeg (aNm c len s m)) (k + 1) := rfl
def aApp (c : Nat → Int32) (len : Int32) (lo hi : Nat → Int32) (w m : Int32) (q : Nat → Int32) : Int32 × Int32 × Int32 × Int32 × (Nat → Int32) := aAppN c len lo hi 81 0 w m q 0
def aByE (idx k : Int32) : Int32 := if 0 ≤ idx then -2000000004 else k
def aByN (c : Nat → Int32) (len : Int32) (lo hi : Nat → Int32) (idx : Int32) : Nat → Int32 → Int32 → Int32 → Int32 → Int32 → Int32 × Int32 × Int32 × Int32
  | 0, s, w, m, _, k => (aByE idx k, s, w, m)
  | n + 1, s, w, m, sn, k => if len ≤ s then (aByE idx k, s, w, m) else if aR c len lo hi s = 0 then (aByE idx k, aSp c len s, aWh c len s, aNm c len s m) else if (sn >>> (aWh c len s &&& 31)) &&& 1 = 0 then (if k = idx then (aWh c len s, aSp c len s, aWh c len s, aNm c len s m) else aByN c len lo hi idx n (aSp c len s) (aWh c len s) (aNm c len s m) (sn ||| (1 <<< (aWh c len s &&& 31))) (k + 1)) else aByN c len lo hi idx n (aSp c len s) (aWh c len s) (aNm c len s m) sn k
theorem aByN_s (c : Nat → Int32) (len : Int32) (lo hi : Nat → Int32) (idx : Int32) (n : Nat) (s w m sn k : Int32) : aByN c len lo hi idx (n + 1) s w m sn k = if len ≤ s then (aByE idx k, s, w, m) else if aR c len lo hi s = 0 then (aByE idx k, aSp c len s, aWh c len s, aNm c len s m) else if (sn >>> (aWh c len s &&& 31)) &&& 1 = 0 then (if k = idx then (aWh c len s, aSp c len s, aWh c len s, aNm c len s m) else aByN c len lo hi idx n (aSp c len s) (aWh c len s) (aNm c len s m) (sn ||| (1 <<< (aWh c len s &&& 31))) (k + 1)) else aByN c len lo hi idx n (aSp c len s) (aWh c len s) (aNm c len s m) sn k := rfl
def aBy (c : Nat → Int32) (len : Int32) (lo hi : Nat → Int32) (idx w m : Int32) : Int32 × Int32 × Int32 × Int32 := aByN c len lo hi idx 81 0 w m 0 0
def aFl (μ : Mst) : Int32 × Int32 × Int32 × Int32 := aFlt (mText μ) (mLen μ) (mLow μ) (mHigh μ) (mWhich μ) (mNum μ)
def aAp (μ : Mst) : Int32 × Int32 × Int32 × Int32 × (Nat → Int32) := aApp (mText μ) (mLen μ) (mLow μ) (mHigh μ) (aFl μ).2.2.1 (aFl μ).2.2.2 (mPar μ)
def aB (μ : Mst) (idx : Int32) : Int32 × Int32 × Int32 × Int32 := aBy (mText μ) (mLen μ) (mLow μ) (mHigh μ) idx (aFl μ).2.2.1 (aFl μ).2.2.2
def mPutS (μ : Mst) (s w m : Int32) : Mst := mPut_number (mPut_which (mPut_spot μ s) w) m
def jFault (μ : Mst) : Int32 := (aFl μ).1
def hFault (μ : Mst) : Mst := mPutS μ (aFl μ).2.1 (aFl μ).2.2.1 (aFl μ).2.2.2
def jApply (μ : Mst) : Int32 := if mLen μ = 0 then -2000000002 else if (aFl μ).1 = -2000000004 then (aAp μ).1 else -2000000002
def hApply (μ : Mst) : Mst := if mLen μ = 0 then μ else if (aFl μ).1 = -2000000004 then mPut_par (mPutS (mKeeps μ) (aAp μ).2.1 (aAp μ).2.2.1 (aAp μ).2.2.2.1) (aAp μ).2.2.2.2 else hFault μ
def jAssigned (μ : Mst) : Int32 := if (aFl μ).1 = -2000000004 then (aB μ (-1)).1 else -2000000002
def hAssigned (μ : Mst) : Mst := if (aFl μ).1 = -2000000004 then mPutS μ (aB μ (-1)).2.1 (aB μ (-1)).2.2.1 (aB μ (-1)).2.2.2 else hFault μ
def jAssignedAt (μ : Mst) (i : Int32) : Int32 := if 0 ≤ i then (if (aFl μ).1 = -2000000004 then (aB μ i).1 else -2000000002) else -2000000001
def hAssignedAt (μ : Mst) (i : Int32) : Mst := if 0 ≤ i then (if (aFl μ).1 = -2000000004 then mPutS μ (aB μ i).2.1 (aB μ i).2.2.1 (aB μ i).2.2.2 else hFault μ) else μ
theorem stN_10 (c : Nat → Int32) (len : Int32) (k : Nat) (s : Int32) (hk : k < 15) : fStN c len k s 10 0 = fStands c len k s := by
  have h8 := vLen_le hk
  have key : ∀ n j : Nat, vLen k ≤ j + n → j + n ≤ 20 → fStN c len k s (n + 1) j = fStN c len k s n j := by
    intro n
    induction n with
    | zero =>
      intro j h h2
      rw [fStN_s, if_pos (nI_le (by omega) (by omega))]; rfl
    | succ n ih =>
      intro j h h2
      rw [fStN_s, ih (j + 1) (by omega) (by omega)]
      rw [fStN_s c len k s n j]
  exact key 9 0 (by omega) (by omega)
