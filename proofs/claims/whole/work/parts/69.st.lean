/-! SIMULATION, texts -/
def CE (c c' : Nat → Int32) (len : Int32) : Prop := ∀ i : Int32, fChr c len i = fChr c' len i
theorem ce_stN {c c' : Nat → Int32} {len : Int32} (h : CE c c' len) (k : Nat) (s : Int32) : ∀ n j : Nat, fStN c len k s n j = fStN c' len k s n j
  | 0, _ => rfl
  | n + 1, j => by rw [fStN_s, fStN_s, h, ce_stN h k s n (j + 1)]
theorem ce_tgN {c c' : Nat → Int32} {len : Int32} (h : CE c c' len) (s : Int32) : ∀ n j : Nat, fTgN c len s n j = fTgN c' len s n j
  | 0, _ => rfl
  | n + 1, j => by rw [fTgN_s, fTgN_s, h, ce_tgN h s n (j + 1), show fStands c len j s = fStands c' len j s from ce_stN h j s 9 0]
theorem ce_tg {c c' : Nat → Int32} {len : Int32} (h : CE c c' len) (s : Int32) : fTarget c len s = fTarget c' len s := ce_tgN h s 16 0
theorem ce_neg {c c' : Nat → Int32} {len : Int32} (h : CE c c' len) (s : Int32) : fNeg c len s = fNeg c' len s := by rw [fNeg, fNeg, h]
theorem ce_dig {c c' : Nat → Int32} {len : Int32} (h : CE c c' len) (s : Int32) : fDig c len s = fDig c' len s := by rw [fDig, fDig, h]
theorem ce_dgN {c c' : Nat → Int32} {len : Int32} (h : CE c c' len) : ∀ (n d : Nat) (num pos : Int32), fDgN c len n d num pos = fDgN c' len n d num pos
  | 0, _, _, _ => rfl
  | n + 1, d, num, pos => by rw [fDgN_s, fDgN_s, ce_dig h, h, ce_dgN h n]
/-- the digits, seven at most and eight at most -/
theorem dg_rel (c : Nat → Int32) (len : Int32) : ∀ (n d : Nat) (num pos : Int32), d + n = 7 → (mDgN c len (n + 2) d num pos = fDgN c len (n + 1) d num pos ∧ (fDgN c len (n + 1) d num pos).1 ≤ 7) ∨ ((mDgN c len (n + 2) d num pos).1 = 8 ∧ (fDgN c len (n + 1) d num pos).1 = 7 ∧ ¬ fDig c len (fDgN c len (n + 1) d num pos).2.2 = 0)
  | 0, d, num, pos, h => by
    have hd : d = 7 := by omega
    subst hd
    rw [mDgN_s, fDgN_s, if_pos (show (7 : Int32) ≤ nI 7 from by decide)]
    by_cases g : fDig c len pos = 0
    · rw [if_pos g]; exact Or.inl ⟨rfl, Nat.le_refl _⟩
    · rw [if_neg g, if_neg (show ¬ (8 : Int32) ≤ nI 7 from by decide), mDgN_s]
      refine Or.inr ⟨?_, rfl, g⟩
      by_cases g2 : fDig c len (pos + 1) = 0
      · rw [if_pos g2]
      · rw [if_neg g2, if_pos (show (8 : Int32) ≤ nI (7 + 1) from by decide)]
  | n + 1, d, num, pos, h => by
    rw [mDgN_s c len (n + 2), fDgN_s c len (n + 1), if_neg (show ¬ (7 : Int32) ≤ nI d from nI_ge (a := d) (b := 7) (by omega) (by decide))]
    by_cases g : fDig c len pos = 0
    · rw [if_pos g, if_pos g]; exact Or.inl ⟨rfl, by show d ≤ 7; omega⟩
    · rw [if_neg g, if_neg g, if_neg (show ¬ (8 : Int32) ≤ nI d from nI_ge (a := d) (b := 8) (by omega) (by decide))]
      exact dg_rel c len n (d + 1) _ _ (by omega)
def loOk (lo hi : Nat → Int32) : Prop := ∀ k : Nat, k < 15 → lo k = pLeast k ∧ hi k = pGreatest k
theorem allows_eq {k v : Int32} {lo hi : Nat → Int32} (hl : loOk lo hi) (hk : vp_in k 15) : fAllows k v = mIn v.toInt64 (lo k.toNatClampNeg).toInt64 (hi k.toNatClampNeg).toInt64 := by
  obtain ⟨j, hj, rfl⟩ := vp_in_of hk (by decide)
  rw [nI_clamp (by omega), (hl j hj).1, (hl j hj).2, mIn_i]
  unfold fAllows fPar
  rw [if_neg (nI_pos (by omega)), if_neg (show ¬ (15 : Int32) ≤ nI j from nI_ge (a := j) (b := 15) hj (by decide)), if_neg (by decide), nI_clamp (by omega)]
theorem mIn17 {d : Nat} (hd : d ≤ 7) : (mIn (nI d).toInt64 1 7 = 0) ↔ d = 0 := by
  have e : mIn (nI d).toInt64 1 7 = if nI d < 1 then 0 else if 7 < nI d then 0 else 1 := mIn_i (nI d) 1 7
  rw [e, if_neg (show ¬ (7 : Int32) < nI d from nI_nlt (a := 7) (b := d) hd (by decide))]
  rcases Nat.eq_zero_or_pos d with z | z
  · subst z; exact ⟨fun _ => rfl, fun _ => by rw [if_pos (by decide)]⟩
  · rw [if_neg (show ¬ nI d < (1 : Int32) from nI_nlt (a := d) (b := 1) z (by omega))]
    exact ⟨fun h => absurd h (by decide), fun h => by omega⟩
/-- one assignment on both sides -/
theorem as_cls {t : Txt} {c : Nat → Int32} {lo hi : Nat → Int32} {C : Nat} {s : Int32} (hc : CE (tChars t) c (tLen t)) (hl : loOk lo hi) (hC : tCnt t = nI C) (hC2 : C < 16) :
    (aR c (tLen t) lo hi s = 0 → fRaR t s = -1) ∧ (¬ aR c (tLen t) lo hi s = 0 → fRaR t s = aSp c (tLen t) s ∧ fRaT t s = (tChars t, upd (tTarg t) C (aWh c (tLen t) s), upd (tWant t) C (aNm c (tLen t) s 0), tLen t, nI (C + 1))) := by
  unfold fRaR fRaT
  rw [ce_tg hc]
  by_cases hne : fTarget c (tLen t) s = -1
  · refine ⟨fun _ => by rw [fRaR1, if_pos hne], fun h => absurd (by rw [aR, if_pos hne]) h⟩
  · have ht := target_in hne
    rw [fRaR1, if_neg hne, fRaT1, if_neg hne, aR, if_neg hne, aSp, if_neg hne, aWh, aNamed, if_neg hne, aNm, if_neg hne]
    rw [fRaQ, ce_neg hc, fDg, ce_dgN hc, aQ]
    generalize fTarget c (tLen t) s = tg at ht ⊢
    generalize fNeg c (tLen t) (fPos0 s tg) = neg
    generalize fPos1 (fPos0 s tg) neg = p0
    unfold fEndR fEndT fEndR' fEndT'
    rcases dg_rel c (tLen t) 7 0 0 p0 rfl with ⟨e, h7⟩ | ⟨e8, e7, hd⟩
    · rw [e]
      generalize fDgN c (tLen t) (7 + 1) 0 0 p0 = f at h7 ⊢
      obtain ⟨d, num, pos⟩ := f
      have h7 : d ≤ 7 := h7
      show (aRes c (tLen t) lo hi tg neg (nI d) num pos = 0 → _) ∧ _
      unfold aRes
      rw [Int32.add_sub_cancel]
      simp only [mIn17 h7]
      have z0 : (nI d = 0) = (d = 0) := propext (by rw [show (0 : Int32) = nI 0 from rfl]; exact nI_eq (by omega) (by decide))
      simp only [z0, hc pos]
      by_cases g0 : d = 0
      · rw [if_pos g0, if_pos g0]; exact ⟨fun _ => rfl, fun h => absurd rfl h⟩
      · rw [if_neg g0, if_neg g0]
        by_cases g1 : fChr c (tLen t) pos = 59
        · rw [if_pos g1, if_pos g1]
          rw [if_neg g0, if_pos g1]
          unfold tKeepR tKeep
          rw [allows_eq hl ht, hC, if_pos (show nI C < (16 : Int32) from nI_lt (a := C) (b := 16) hC2 (by decide))]
          by_cases g2 : mIn (fSgn neg num).toInt64 (lo tg.toNatClampNeg).toInt64 (hi tg.toNatClampNeg).toInt64 = 0
          · rw [if_pos g2, if_pos g2, if_pos rfl]; exact ⟨fun _ => rfl, fun h => absurd rfl h⟩
          · rw [if_neg g2, if_neg g2, if_neg i32_10, if_pos (show nI C < (16 : Int32) from nI_lt (a := C) (b := 16) hC2 (by decide)), nI_clamp (by omega), nI_1]
            exact ⟨fun h => absurd h i32_10, fun _ => ⟨rfl, rfl⟩⟩
        · rw [if_neg g1, if_neg g1]; exact ⟨fun _ => rfl, fun h => absurd rfl h⟩
    · generalize fDgN c (tLen t) (7 + 1) 0 0 p0 = f at e7 hd ⊢
      generalize mDgN c (tLen t) 9 0 0 p0 = r at e8 ⊢
      obtain ⟨d, num, pos⟩ := f
      obtain ⟨d8, num8, pos8⟩ := r
      have e7 : d = 7 := e7
      have e8 : d8 = 8 := e8
      subst e7
      subst e8
      have h59 : ¬ fChr c (tLen t) pos = 59 := by
        intro q
        have hd : ¬ fDig1 (fChr c (tLen t) pos) = 0 := hd
        rw [q] at hd
        exact hd (by decide)
      show (aRes c (tLen t) lo hi tg neg (nI 8) num8 pos8 = 0 → _) ∧ _
      have a0 : aRes c (tLen t) lo hi tg neg (nI 8) num8 pos8 = 0 := by
        unfold aRes
        rw [if_pos (show mIn (nI 8).toInt64 1 7 = 0 from by decide)]
      refine ⟨fun _ => ?_, fun h => absurd a0 h⟩
      show (if nI 7 = 0 then (-1 : Int32) else if fChr (tChars t) (tLen t) pos = 59 then _ else -1) = -1
      rw [hc pos, if_neg (show ¬ nI 7 = 0 by decide), if_neg h59]
/-- the assignments of a text, to the first wrong one -/
def aL (c : Nat → Int32) (len : Int32) (lo hi : Nat → Int32) : Nat → Int32 → List (Int32 × Int32)
  | 0, _ => []
  | n + 1, s => if len ≤ s then [] else if aR c len lo hi s = 0 then [] else (aWh c len s, aNm c len s 0) :: aL c len lo hi n (aSp c len s)
theorem aL_s (c : Nat → Int32) (len : Int32) (lo hi : Nat → Int32) (n : Nat) (s : Int32) : aL c len lo hi (n + 1) s = if len ≤ s then [] else if aR c len lo hi s = 0 then [] else (aWh c len s, aNm c len s 0) :: aL c len lo hi n (aSp c len s) := rfl
def aF (c : Nat → Int32) (len : Int32) (lo hi : Nat → Int32) : Nat → Int32 → Int32
  | 0, _ => -2000000004
  | n + 1, s => if len ≤ s then -2000000004 else if aR c len lo hi s = 0 then s else aF c len lo hi n (aSp c len s)
theorem aF_s (c : Nat → Int32) (len : Int32) (lo hi : Nat → Int32) (n : Nat) (s : Int32) : aF c len lo hi (n + 1) s = if len ≤ s then -2000000004 else if aR c len lo hi s = 0 then s else aF c len lo hi n (aSp c len s) := rfl
theorem as_nm {c : Nat → Int32} {len : Int32} {lo hi : Nat → Int32} {s : Int32} (h : ¬ aR c len lo hi s = 0) (m : Int32) : aNm c len s m = aNm c len s 0 := by
  have hne : ¬ fTarget c len s = -1 := fun q => h (by rw [aR, if_pos q])
  rw [aNm, if_neg hne, aNm, if_neg hne]
theorem as_rng {c : Nat → Int32} {len : Int32} {lo hi : Nat → Int32} {s : Int32} (hl : loOk lo hi) (h : ¬ aR c len lo hi s = 0) : fAllows (aWh c len s) (aNm c len s 0) = 1 := by
  have hne : ¬ fTarget c len s = -1 := fun q => h (by rw [aR, if_pos q])
  have ht := target_in hne
  rw [aR, if_neg hne] at h
  rw [aWh, aNamed, if_neg hne, aNm, if_neg hne, allows_eq hl ht]
  unfold aRes at h
  rcases mIn_eq (fSgn (fNeg c len (fPos0 s (fTarget c len s))) (aQ c len s (fTarget c len s)).2.1).toInt64 (lo (fTarget c len s).toNatClampNeg).toInt64 (hi (fTarget c len s).toNatClampNeg).toInt64 with q | q
  · exfalso
    apply h
    rw [if_pos q]
    split
    · rfl
    · split <;> rfl
  · exact q
theorem flt_1 (c : Nat → Int32) (len : Int32) (lo hi : Nat → Int32) : ∀ (n : Nat) (s w m : Int32), (aFltN c len lo hi n s w m).1 = aF c len lo hi n s
  | 0, _, _, _ => rfl
  | n + 1, s, w, m => by
    rw [aFltN_s, aF_s]
    by_cases g : len ≤ s
    · rw [if_pos g, if_pos g]
    · rw [if_neg g, if_neg g]
      by_cases g2 : aR c len lo hi s = 0
      · rw [if_pos g2, if_pos g2]
      · rw [if_neg g2, if_neg g2]; exact flt_1 c len lo hi n _ _ _
def updL (q : Nat → Int32) (l : List (Int32 × Int32)) : Nat → Int32 := l.foldl (fun q e => upd q e.1.toNatClampNeg e.2) q
theorem app_1 (c : Nat → Int32) (len : Int32) (lo hi : Nat → Int32) : ∀ (n : Nat) (s w m : Int32) (q : Nat → Int32) (K : Nat), (aAppN c len lo hi n s w m q (nI K)).1 = nI (K + (aL c len lo hi n s).length) ∧ (aAppN c len lo hi n s w m q (nI K)).2.2.2.2 = updL q (aL c len lo hi n s)
  | 0, _, _, _, _, _ => ⟨rfl, rfl⟩
  | n + 1, s, w, m, q, K => by
    rw [aAppN_s, aL_s]
    by_cases g : len ≤ s
    · rw [if_pos g, if_pos g]; exact ⟨rfl, rfl⟩
    · rw [if_neg g, if_neg g]
      by_cases g2 : aR c len lo hi s = 0
      · rw [if_pos g2, if_pos g2]; exact ⟨rfl, rfl⟩
      · rw [if_neg g2, if_neg g2, as_nm g2 m, nI_1]
        obtain ⟨h1, h2⟩ := app_1 c len lo hi n (aSp c len s) (aWh c len s) (aNm c len s 0) (upd q (aWh c len s).toNatClampNeg (aNm c len s 0)) (K + 1)
        refine ⟨h1.trans ?_, h2⟩
        rw [List.length_cons]; congr 1; omega
def byL (idx : Int32) : List (Int32 × Int32) → Int32 → Int32 → Int32
  | [], _, k => aByE idx k
  | e :: l, sn, k => if (sn >>> (e.1 &&& 31)) &&& 1 = 0 then (if k = idx then e.1 else byL idx l (sn ||| (1 <<< (e.1 &&& 31))) (k + 1)) else byL idx l sn k
theorem by_1 (c : Nat → Int32) (len : Int32) (lo hi : Nat → Int32) (idx : Int32) : ∀ (n : Nat) (s w m sn k : Int32), (aByN c len lo hi idx n s w m sn k).1 = byL idx (aL c len lo hi n s) sn k
  | 0, _, _, _, _, _ => rfl
  | n + 1, s, w, m, sn, k => by
    rw [aByN_s, aL_s]
    by_cases g : len ≤ s
    · rw [if_pos g, if_pos g]; rfl
    · rw [if_neg g, if_neg g]
      by_cases g2 : aR c len lo hi s = 0
      · rw [if_pos g2, if_pos g2]; rfl
      · rw [if_neg g2, if_neg g2]
        show _ = if (sn >>> (aWh c len s &&& 31)) &&& 1 = 0 then (if k = idx then aWh c len s else byL idx (aL c len lo hi n (aSp c len s)) (sn ||| (1 <<< (aWh c len s &&& 31))) (k + 1)) else byL idx (aL c len lo hi n (aSp c len s)) sn k
        by_cases g3 : (sn >>> (aWh c len s &&& 31)) &&& 1 = 0
        · rw [if_pos g3, if_pos g3]
          by_cases g4 : k = idx
          · rw [if_pos g4, if_pos g4]
          · rw [if_neg g4, if_neg g4]; exact by_1 c len lo hi idx n _ _ _ _ _
        · rw [if_neg g3, if_neg g3]; exact by_1 c len lo hi idx n _ _ _ _ _
/-- the lists that the class keeps -/
def TA (f g : Nat → Int32) : Nat → List (Int32 × Int32) → Prop
  | _, [] => True
  | C, e :: l => f C = e.1 ∧ g C = e.2 ∧ TA f g (C + 1) l
def lOk (l : List (Int32 × Int32)) : Prop := ∀ e ∈ l, vp_in e.1 15 ∧ fAllows e.1 e.2 = 1
theorem aL_ok (c : Nat → Int32) (len : Int32) {lo hi : Nat → Int32} (hl : loOk lo hi) : ∀ (n : Nat) (s : Int32), lOk (aL c len lo hi n s)
  | 0, _ => fun _ h => absurd h List.not_mem_nil
  | n + 1, s => by
    rw [aL_s]
    by_cases g : len ≤ s
    · rw [if_pos g]; exact fun _ h => absurd h List.not_mem_nil
    · rw [if_neg g]
      by_cases g2 : aR c len lo hi s = 0
      · rw [if_pos g2]; exact fun _ h => absurd h List.not_mem_nil
      · rw [if_neg g2]
        exact List.forall_mem_cons.mpr ⟨⟨as_wh g2, as_rng hl g2⟩, aL_ok c len hl n _⟩
theorem fRaT_chars (t : Txt) (s : Int32) : tChars (fRaT t s) = tChars t ∧ tLen (fRaT t s) = tLen t := by
  unfold fRaT fRaT1
  split
  · exact ⟨rfl, rfl⟩
  · unfold fEndT fEndT'
    split
    · exact ⟨rfl, rfl⟩
    · split
      · unfold tKeep
        split
        · exact ⟨rfl, rfl⟩
        · split <;> exact ⟨rfl, rfl⟩
      · exact ⟨rfl, rfl⟩
theorem fReadN_chars : ∀ (n : Nat) (s : Int32) (t : Txt), tChars (fReadN n s t).2 = tChars t ∧ tLen (fReadN n s t).2 = tLen t
  | 0, _, _ => ⟨rfl, rfl⟩
  | n + 1, s, t => by
    rw [fReadN_s]
    by_cases g : tLen t ≤ s
    · rw [if_pos g]; exact ⟨rfl, rfl⟩
    · rw [if_neg g]
      by_cases g2 : s < fRaR t s
      · rw [if_pos g2]
        obtain ⟨h1, h2⟩ := fReadN_chars n (fRaR t s) (fRaT t s)
        obtain ⟨h3, h4⟩ := fRaT_chars t s
        exact ⟨h1.trans h3, h2.trans h4⟩
      · rw [if_neg g2]; exact fRaT_chars t s
theorem nf_ne {S : Nat} (h : S < 2 ^ 31) : ¬ nI S = -2000000004 := fun q => absurd (congrArg Int32.toInt q) (by rw [nI_toInt h, show (-2000000004 : Int32).toInt = -2000000004 from rfl]; omega)
theorem m1_ne {S : Nat} (h : S < 2 ^ 31) : ¬ nI S = -1 := fun q => absurd (congrArg Int32.toInt q) (by rw [nI_toInt h, show (-1 : Int32).toInt = -1 from rfl]; omega)
theorem rd_rel {c : Nat → Int32} {lo hi : Nat → Int32} {len : Int32} {L : Nat} (hL : L ≤ 80) (eL : len = nI L) (hl : loOk lo hi) : ∀ (n S C : Nat) (t : Txt), CE (tChars t) c len → tLen t = len → tCnt t = nI C → 5 * C ≤ S → S < 200 →
    (fReadN n (nI S) t).1 = (if aF c len lo hi n (nI S) = -2000000004 then -1 else aF c len lo hi n (nI S)) ∧ ¬ aF c len lo hi n (nI S) = -1 ∧ (aF c len lo hi n (nI S) = -2000000004 → TA (tTarg (fReadN n (nI S) t).2) (tWant (fReadN n (nI S) t).2) C (aL c len lo hi n (nI S)) ∧ (∀ j : Nat, j < C → tTarg (fReadN n (nI S) t).2 j = tTarg t j ∧ tWant (fReadN n (nI S) t).2 j = tWant t j) ∧ tCnt (fReadN n (nI S) t).2 = nI (C + (aL c len lo hi n (nI S)).length) ∧ C + (aL c len lo hi n (nI S)).length ≤ 16 ∨ 16 < C)
  | 0, S, C, t, _, _, hC, h5, hS => by
    refine ⟨by rw [show aF c len lo hi 0 (nI S) = -2000000004 from rfl, if_pos rfl]; rfl, by rw [show aF c len lo hi 0 (nI S) = -2000000004 from rfl]; decide, fun _ => ?_⟩
    rcases Nat.lt_or_ge 16 C with q | q
    · exact Or.inr q
    · exact Or.inl ⟨trivial, fun _ _ => ⟨rfl, rfl⟩, hC, q⟩
  | n + 1, S, C, t, hc, hlen, hC, h5, hS => by
    rw [fReadN_s, aF_s, aL_s, hlen]
    by_cases g : len ≤ nI S
    · rw [if_pos g, if_pos g, if_pos g]
      refine ⟨by rw [if_pos rfl], by decide, fun _ => ?_⟩
      rcases Nat.lt_or_ge 16 C with q | q
      · exact Or.inr q
      · exact Or.inl ⟨trivial, fun _ _ => ⟨rfl, rfl⟩, hC, q⟩
    · rw [if_neg g, if_neg g, if_neg g]
      have hSL := lt_spot hL eL (by omega) g
      have hc' : CE (tChars t) c (tLen t) := by rw [hlen]; exact hc
      obtain ⟨k1, k2⟩ := as_cls (s := nI S) hc' hl hC (by omega)
      rw [hlen] at k1 k2
      by_cases g2 : aR c len lo hi (nI S) = 0
      · rw [if_pos g2, if_pos g2, k1 g2, if_neg (show ¬ nI S < -1 from by rw [zi_lt, nI_toInt (by omega), show (-1 : Int32).toInt = -1 from rfl]; omega)]
        exact ⟨by rw [if_neg (nf_ne (by omega))], m1_ne (by omega), fun q => absurd q (nf_ne (by omega))⟩
      · rw [if_neg g2, if_neg g2]
        obtain ⟨k3, k4⟩ := k2 g2
        obtain ⟨S1, a1, a2, a3⟩ := as_adv (S := S) (by omega) g2
        rw [k3, k4, a3, if_pos (nI_lt (by omega) (by omega))]
        obtain ⟨r1, r2, r3⟩ := rd_rel hL eL hl n S1 (C + 1) (tChars t, upd (tTarg t) C (aWh c len (nI S)), upd (tWant t) C (aNm c len (nI S) 0), len, nI (C + 1)) hc rfl rfl (by omega) (by omega)
        refine ⟨r1, r2, fun q => ?_⟩
        rcases r3 q with ⟨b1, b2, b3, b4⟩ | b
        · refine Or.inl ⟨⟨?_, ?_, b1⟩, fun j hj => ?_, ?_, ?_⟩
          · exact ((b2 C (by omega)).1).trans pk_us
          · exact ((b2 C (by omega)).2).trans pk_us
          · exact ⟨((b2 j (by omega)).1).trans (pk_un (by omega)), ((b2 j (by omega)).2).trans (pk_un (by omega))⟩
          · rw [b3, List.length_cons]; congr 1; omega
          · rw [List.length_cons]; omega
        · omega
