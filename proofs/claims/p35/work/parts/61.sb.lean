/-! SIMULATION, one loop: the signals, the records, the watches -/
def sIx (s : Nat) : Nat := [641, 652, 651, 645, 653, 646, 654, 647, 644, 648].getD s 0
def sBd (s : Nat) : Int := [100000, 1003000, 100000, 500000, 500000, 1503000, 2103000, 43000000, 1000000, 1].getD s 0
theorem sIx_inj : ∀ s : Nat, s < 10 → ∀ t : Nat, t < 10 → sIx s = sIx t → s = t := by decide
theorem sIx_ge : ∀ s : Nat, s < 10 → 641 ≤ sIx s ∧ sIx s ≤ 654 := by decide
theorem sBd_le : ∀ s : Nat, s < 10 → 0 ≤ sBd s ∧ sBd s ≤ 43000000 := by decide
/-- the signals -/
def SP (p : Nat → Int32) (n : mRow) : Prop := ∀ s : Nat, s < 10 → n (sIx s) = (p s).toInt64 ∧ -(sBd s) ≤ (p s).toInt ∧ (p s).toInt ≤ sBd s
theorem SP_upd {p : Nat → Int32} {n : mRow} (h : SP p n) (s : Nat) (hs : s < 10) {v : Int32} {w : Int64} (hv : w = v.toInt64) (h1 : -(sBd s) ≤ v.toInt) (h2 : v.toInt ≤ sBd s) : SP (upd p s v) (vp_updL n (sIx s) w) := by
  intro t ht
  by_cases e : t = s
  · subst e; rw [pk_uLs, pk_us]; exact ⟨hv, h1, h2⟩
  · rw [pk_uLn (fun q => e (sIx_inj t ht s hs q)), pk_un e]; exact h t ht
theorem SP_ign {p : Nat → Int32} {n : mRow} (h : SP p n) {j : Nat} {w : Int64} (hj : ∀ s : Nat, s < 10 → sIx s ≠ j) : SP p (vp_updL n j w) := fun t ht => by rw [pk_uLn (hj t ht)]; exact h t ht
theorem SP_ext {p : Nat → Int32} {n m : mRow} (h : SP p n) (e : ∀ j : Nat, 641 ≤ j → j ≤ 654 → m j = n j) : SP p m := fun t ht => by rw [e _ (sIx_ge t ht).1 (sIx_ge t ht).2]; exact h t ht
/-- a record written -/
theorem rec_lo {n : mRow} {N s : Nat} {v : Int64} (hN : n 640 = lN N) (hN2 : N < 1000000) (hs : s < 10) : mRec n (nI s) v = vp_updL n (64 * s + N % 64) v := by
  unfold mRec
  rw [hN, rem64 (by omega), show (64 : Int32) = nI 64 from rfl, pk_mul, nI_add, nI_clamp (by omega)]
def rcs : List Nat → mRow → mRow
  | [], n => n
  | s :: l, n => rcs l (mRec n (nI s) (n (sIx s)))
theorem rcs_ok {N : Nat} (hN2 : N < 1000000) : ∀ (l : List Nat) (n : mRow), (∀ s ∈ l, s < 10) → n 640 = lN N → (∀ j : Nat, 640 ≤ j → rcs l n j = n j) ∧ (∀ s : Nat, s ∈ l → rcs l n (64 * s + N % 64) = n (sIx s)) ∧ (∀ j : Nat, (∀ s ∈ l, j ≠ 64 * s + N % 64) → rcs l n j = n j)
  | [], n, _, _ => ⟨fun _ _ => rfl, fun s h => absurd h List.not_mem_nil, fun _ _ => rfl⟩
  | s :: l, n, hl, hN => by
    have hs := hl s List.mem_cons_self
    have e := rec_lo (v := n (sIx s)) hN hN2 hs
    have hhi : ∀ j : Nat, 640 ≤ j → mRec n (nI s) (n (sIx s)) j = n j := fun j hj => by rw [e, pk_uLn (by omega)]
    obtain ⟨h1, h2, h3⟩ := rcs_ok hN2 l (mRec n (nI s) (n (sIx s))) (fun q hq => hl q (List.mem_cons_of_mem _ hq)) (by rw [hhi 640 (Nat.le_refl _)]; exact hN)
    refine ⟨fun j hj => (h1 j hj).trans (hhi j hj), fun q hq => ?_, fun j hj => ?_⟩
    · by_cases c : q ∈ l
      · show rcs l _ _ = _
        rw [h2 q c, hhi _ (by have := (sIx_ge q (hl q hq)).1; omega)]
      · have eq : q = s := by
          rcases List.mem_cons.mp hq with q1 | q1
          · exact q1
          · exact absurd q1 c
        subst eq
        show rcs l _ _ = _
        rw [h3 _ (fun t ht he => c (by have : t = q := by omega
                                       rw [this] at ht; exact ht)), e, pk_uLs]
    · show rcs l _ _ = _
      rw [h3 j (fun q hq => hj q (List.mem_cons_of_mem _ hq)), e, pk_uLn (hj s List.mem_cons_self)]
/-- the records of the window -/
def RR (r : Nat → Int32) (n : mRow) (N : Nat) : Prop := ∀ s : Nat, s < 10 → ∀ t : Nat, t < N → N ≤ t + 64 → n (64 * s + t % 64) = (r (64 * s + t % 64)).toInt64 ∧ -(sBd s) ≤ (r (64 * s + t % 64)).toInt ∧ (r (64 * s + t % 64)).toInt ≤ sBd s
/-- a record read -/
theorem fRec_at {N s t : Nat} {r : Nat → Int32} (hs : s < 10) (ht : t < N) (hw : N ≤ t + 64) (hN2 : N < 1000000) : fRec (nI N) r (nI s) (nI t) = r (64 * s + t % 64) := by
  have c0 : ¬ fSig (nI s) = 0 := by
    unfold fSig
    rw [if_neg (nI_pos (by omega)), if_neg (show ¬ (10 : Int32) ≤ nI s from nI_ge (a := s) (b := 10) hs (by decide))]; decide
  have c1 : ¬ nI N ≤ nI t := nI_ge ht (by omega)
  have c2 : nI N - 64 ≤ nI t := by
    rw [zi_le, show (nI N - 64).toInt = (N : Int) - 64 from pk_sub_toInt (a := N) (b := 64) (by omega) (by decide), nI_toInt (by omega)]; omega
  unfold fRec
  rw [if_neg c0, if_neg (nI_pos (by omega)), if_neg c1, if_pos c2, kFmod64 t (by omega), show (64 : Int32) = nI 64 from rfl, pk_mul, nI_add, nI_clamp (by omega), Nat.mul_comm s 64]
theorem fRec_neg {x now : Int32} {s : Nat} {r : Nat → Int32} (hs : s < 10) (hx : x < 0) : fRec now r (nI s) x = 0 := by
  have c0 : ¬ fSig (nI s) = 0 := by
    unfold fSig
    rw [if_neg (nI_pos (by omega)), if_neg (show ¬ (10 : Int32) ≤ nI s from nI_ge (a := s) (b := 10) hs (by decide))]; decide
  unfold fRec
  rw [if_neg c0, if_pos hx]
theorem mAt_at {n : mRow} {s t : Nat} (hs : s < 10) (ht : t < 1000000) : mAt n (nI s) (lN t) = n (64 * s + t % 64) := by
  unfold mAt
  rw [if_pos (show (0 : Int64) ≤ lN t from (pk_lLE (a := 0) (by decide) (by omega)).mpr (Nat.zero_le _)), rem64 (by omega), show (64 : Int32) = nI 64 from rfl, pk_mul, nI_add, nI_clamp (by omega)]
theorem mAt_neg {n : mRow} {s : Int32} {t : Int64} (ht : t.toInt < 0) : mAt n s t = 0 := by
  unfold mAt
  rw [if_neg (by rw [zl_le, zl0]; omega)]
/-- a record read on both sides, at the tick now - j, j from 1 to 64 -/
theorem at_rec {r : Nat → Int32} {n : mRow} {N s j : Nat} (hR : RR r n N) (hN2 : N < 1000000) (hs : s < 10) (h1 : 1 ≤ j) (h2 : j ≤ 64) {a : Int32} {b : Int64} (ha : a.toInt = (N : Int) - j) (hb : b.toInt = (N : Int) - j) : mAt n (nI s) b = (fRec (nI N) r (nI s) a).toInt64 ∧ -(sBd s) ≤ (fRec (nI N) r (nI s) a).toInt ∧ (fRec (nI N) r (nI s) a).toInt ≤ sBd s := by
  rcases Nat.lt_or_ge N j with q | q
  · rw [mAt_neg (by omega), fRec_neg hs (by rw [zi_lt, zi0]; omega)]
    have := sBd_le s hs
    exact ⟨rfl, by rw [zi0]; omega, by rw [zi0]; omega⟩
  · have ea : a = nI (N - j) := by rw [zi_eq, ha, nI_toInt (by omega)]; omega
    have eb : b = lN (N - j) := by rw [zl_eq, hb, pk_lT (by omega)]; omega
    rw [ea, eb, mAt_at hs (by omega), fRec_at hs (by omega) (by omega) hN2]
    exact hR s hs (N - j) (by omega) (by omega)
theorem lN_subT {N j : Nat} (hN : N < 1000000) (hj : j < 1000000) : (lN N - lN j).toInt = (N : Int) - j := by
  rw [za_sub (by rw [pk_lT (by omega), pk_lT (by omega)]; omega) (by rw [pk_lT (by omega), pk_lT (by omega)]; omega), pk_lT (by omega), pk_lT (by omega)]
theorem nI_subT {N j : Nat} (hN : N < 1000000) (hj : j < 1000000) : (nI N - nI j).toInt = (N : Int) - j := pk_sub_toInt (by omega) (by omega)
/-- the two neighbours of a delayed value, weighed -/
theorem z_mix {x y k B : Int} (hk : 0 ≤ k) (hk2 : k ≤ 9) (hx : -B ≤ x ∧ x ≤ B) (hy : -B ≤ y ∧ y ≤ B) : -(10 * B) ≤ x * (10 - k) + y * k ∧ x * (10 - k) + y * k ≤ 10 * B := by
  rcases (show k = 0 ∨ k = 1 ∨ k = 2 ∨ k = 3 ∨ k = 4 ∨ k = 5 ∨ k = 6 ∨ k = 7 ∨ k = 8 ∨ k = 9 by omega) with rfl | rfl | rfl | rfl | rfl | rfl | rfl | rfl | rfl | rfl <;> omega
theorem del_mix {x y : Int32} {k : Nat} (hk : k ≤ 9) {B : Int} (hB : 0 ≤ B ∧ B ≤ 43000000) (hx : -B ≤ x.toInt ∧ x.toInt ≤ B) (hy : -B ≤ y.toInt ∧ y.toInt ≤ B) : mFloor (x.toInt64 * (10 - nI k).toInt64 + y.toInt64 * (nI k).toInt64) 10 = (fDel2 x.toInt64 y.toInt64 (nI k)).toInt64 ∧ -B ≤ (fDel2 x.toInt64 y.toInt64 (nI k)).toInt ∧ (fDel2 x.toInt64 y.toInt64 (nI k)).toInt ≤ B := by
  have ek : (nI k).toInt = (k : Int) := nI_toInt (by omega)
  have e10 : (10 - nI k).toInt = 10 - (k : Int) := nI_subT (N := 10) (j := k) (by omega) (by omega)
  have b1 := z_mulb (a := x.toInt) (b := 10 - (k : Int)) 43000000 10 (by omega) (by omega)
  have b2 := z_mulb (a := y.toInt) (b := (k : Int)) 43000000 10 (by omega) (by omega)
  have e1 : (x.toInt64 * (10 - nI k).toInt64).toInt = x.toInt * (10 - (k : Int)) := by
    rw [za_mul (by rw [Int32.toInt_toInt64, Int32.toInt_toInt64, e10]; omega) (by rw [Int32.toInt_toInt64, Int32.toInt_toInt64, e10]; omega), Int32.toInt_toInt64, Int32.toInt_toInt64, e10]
  have e2 : (y.toInt64 * (nI k).toInt64).toInt = y.toInt * (k : Int) := by
    rw [za_mul (by rw [Int32.toInt_toInt64, Int32.toInt_toInt64, ek]; omega) (by rw [Int32.toInt_toInt64, Int32.toInt_toInt64, ek]; omega), Int32.toInt_toInt64, Int32.toInt_toInt64, ek]
  have e3 : (x.toInt64 * (10 - nI k).toInt64 + y.toInt64 * (nI k).toInt64).toInt = x.toInt * (10 - (k : Int)) + y.toInt * (k : Int) := by
    rw [za_add (by rw [e1, e2]; omega) (by rw [e1, e2]; omega), e1, e2]
  obtain ⟨t1, t2⟩ := z_tenth (x := x.toInt64 * (10 - nI k).toInt64 + y.toInt64 * (nI k).toInt64) (by rw [e3]; omega) (by rw [e3]; omega)
  have b3 := z_mix (x := x.toInt) (y := y.toInt) (k := (k : Int)) (B := B) (by omega) (by omega) hx hy
  rw [e3] at t2
  unfold fDel2
  rw [t1, zl_back (by rw [t2]; omega) (by rw [t2]; omega), zl_i (by rw [t2]; omega) (by rw [t2]; omega), t2]
  exact ⟨rfl, by omega, by omega⟩
/-- a delayed value, of a row where the tick now is written already -/
theorem del_ok {r : Nat → Int32} {n : mRow} {N s d : Nat} {v : Int32} (hN2 : N < 1000000) (hs : s < 10) (hd : d ≤ 300) (hN : n 640 = lN N)
    (hR : ∀ t : Nat, t < N → N ≤ t + 63 → n (64 * s + t % 64) = (r (64 * s + t % 64)).toInt64 ∧ -(sBd s) ≤ (r (64 * s + t % 64)).toInt ∧ (r (64 * s + t % 64)).toInt ≤ sBd s)
    (hv : n (64 * s + N % 64) = v.toInt64) (hv1 : -(sBd s) ≤ v.toInt) (hv2 : v.toInt ≤ sBd s) : mDel n (nI s) (nI d) = (fDelay (nI N) r (nI s) v (nI d)).toInt64 ∧ -(sBd s) ≤ (fDelay (nI N) r (nI s) v (nI d)).toInt ∧ (fDelay (nI N) r (nI s) v (nI d)).toInt ≤ sBd s := by
  have eq : nI d / 10 = nI (d / 10) := pk_div (by omega) (by decide) (by decide)
  have er : iRem (nI d) 10 = nI (d % 10) := pk_rem (by omega) (by decide) (by decide)
  have hB := sBd_le s hs
  have old : mAt n (nI s) ((lN N - lN (d / 10)) - 1) = (fRec (nI N) r (nI s) ((nI N - nI (d / 10)) - 1)).toInt64 ∧ -(sBd s) ≤ (fRec (nI N) r (nI s) ((nI N - nI (d / 10)) - 1)).toInt ∧ (fRec (nI N) r (nI s) ((nI N - nI (d / 10)) - 1)).toInt ≤ sBd s := by
    have el : (lN N - lN (d / 10)) - 1 = lN N - lN (d / 10 + 1) := lN_subsub _ _
    have ei : ((nI N - nI (d / 10)) - 1).toInt = (N : Int) - (d / 10 + 1 : Nat) := by
      rw [zi_sub (by rw [nI_subT hN2 (by omega), zi1]; omega) (by rw [nI_subT hN2 (by omega), zi1]; omega), nI_subT hN2 (by omega), zi1]; omega
    have elT := lN_subT (N := N) (j := d / 10 + 1) hN2 (by omega)
    rcases Nat.lt_or_ge N (d / 10 + 1) with q | q
    · rw [el, mAt_neg (by omega), fRec_neg hs (by rw [zi_lt, zi0]; omega)]
      exact ⟨rfl, by rw [zi0]; omega, by rw [zi0]; omega⟩
    · have ea : (nI N - nI (d / 10)) - 1 = nI (N - (d / 10 + 1)) := by rw [zi_eq, ei, nI_toInt (by omega)]; omega
      rw [el, ea, lN_sub q, mAt_at hs (by omega), fRec_at hs (by omega) (by omega) hN2]
      exact hR _ (by omega) (by omega)
  have new : mAt n (nI s) (lN N - lN (d / 10)) = fDelNew (nI N) r (nI s) v (nI (d / 10)) ∧ ∃ z : Int32, fDelNew (nI N) r (nI s) v (nI (d / 10)) = z.toInt64 ∧ -(sBd s) ≤ z.toInt ∧ z.toInt ≤ sBd s := by
    unfold fDelNew
    by_cases c : d / 10 = 0
    · rw [c, if_pos (show nI 0 = 0 from rfl), show lN N - lN 0 = lN N from Int64.sub_zero _, mAt_at hs hN2]
      exact ⟨hv, v, rfl, hv1, hv2⟩
    · rw [if_neg (nI_ne0 (by omega) (by omega))]
      have elT := lN_subT (N := N) (j := d / 10) hN2 (by omega)
      have eiT := nI_subT (N := N) (j := d / 10) hN2 (by omega)
      rcases Nat.lt_or_ge N (d / 10) with q | q
      · rw [mAt_neg (by omega), fRec_neg hs (by rw [zi_lt, zi0]; omega)]
        exact ⟨rfl, 0, rfl, by rw [zi0]; omega, by rw [zi0]; omega⟩
      · rw [pk_sub q, lN_sub q, mAt_at hs (by omega), fRec_at hs (by omega) (by omega) hN2]
        have h := hR (N - d / 10) (by omega) (by omega)
        exact ⟨h.1, _, rfl, h.2.1, h.2.2⟩
  obtain ⟨n1, z, n2, n3, n4⟩ := new
  have mx := del_mix (x := z) (y := fRec (nI N) r (nI s) ((nI N - nI (d / 10)) - 1)) (k := d % 10) (by omega) hB ⟨n3, n4⟩ old.2
  unfold mDel fDelay
  rw [hN, eq, er, nI_l (by omega), n1, old.1, n2]
  exact mx
