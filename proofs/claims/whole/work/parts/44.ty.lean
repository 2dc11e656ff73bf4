theorem tgN_in (chars : Nat → Int32) (len start : Int32) : ∀ n j : Nat, j + n ≤ 16 → ¬ fTgN chars len start n j = -1 → vp_in (fTgN chars len start n j) 15
  | 0, j, h, hne => absurd rfl hne
  | n + 1, j, h, hne => by
    rw [fTgN_s] at hne ⊢
    by_cases h1 : (15 : Int32) ≤ nI j
    · rw [if_pos h1] at hne; exact absurd rfl hne
    · rw [if_neg h1] at hne ⊢
      by_cases h2 : fStands chars len j start = 0
      · rw [if_pos h2] at hne ⊢
        exact tgN_in chars len start n (j + 1) (by omega) hne
      · rw [if_neg h2] at hne ⊢
        by_cases h3 : fChr chars len (start + nI (vLen j)) = 61
        · rw [if_pos h3] at hne ⊢
          exact vp_in_nI (lt_of_nle (k := 15) h1 (by omega) (by decide)) (by decide)
        · rw [if_neg h3] at hne ⊢
          exact tgN_in chars len start n (j + 1) (by omega) hne
theorem target_in {chars : Nat → Int32} {len start : Int32} (h : ¬ fTarget chars len start = -1) : vp_in (fTarget chars len start) 15 := tgN_in chars len start 16 0 (by omega) h
def tOk (t : Txt) (L : Nat) : Prop := tLen t = nI L ∧ ∃ C : Nat, C ≤ 16 ∧ tCnt t = nI C
theorem tKeep_ok {t : Txt} {L : Nat} (h : tOk t L) (k v : Int32) : tOk (tKeep t k v) L := by
  unfold tKeep
  split
  · exact h
  · split
    · rename_i h1 h2
      obtain ⟨h3, C, h4, h5⟩ := h
      refine ⟨h3, C + 1, ?_, ?_⟩
      · rw [h5, show (16 : Int32) = nI 16 from rfl, nI_ltI (by omega) (by decide)] at h2
        omega
      · show tCnt t + 1 = _
        rw [h5]; exact nI_1 C
    · exact h
theorem fEndT_ok {t : Txt} {L : Nat} (h : tOk t L) (tg neg : Int32) (q : Nat × Int32 × Int32) : tOk (fEndT t tg neg q) L := by
  unfold fEndT fEndT'
  split
  · exact h
  · split
    · exact tKeep_ok h _ _
    · exact h
theorem fRaT_ok {t : Txt} {L : Nat} (h : tOk t L) (s : Int32) : tOk (fRaT t s) L := by
  unfold fRaT fRaT1
  split
  · exact h
  · exact fEndT_ok h _ _ _
theorem tOk_pos {t : Txt} {L : Nat} (h : tOk t L) : ¬ tCnt t < 0 := by
  obtain ⟨-, C, h4, h5⟩ := h
  rw [h5]; exact nI_pos (by omega)
theorem pos_nI {x : Int32} (h : ¬ x < 0) : x = nI x.toNatClampNeg := by
  obtain ⟨j, hj, rfl⟩ := nI_of h
  rw [nI_clamp hj]
theorem fReadN_ok {L : Nat} : ∀ (n : Nat) (s : Int32) (t : Txt), tOk t L → tOk (fReadN n s t).2 L
  | 0, _, _, h => h
  | n + 1, s, t, h => by
    rw [fReadN_s]
    split
    · exact h
    · split
      · exact fReadN_ok n _ _ (fRaT_ok h s)
      · exact fRaT_ok h s
theorem fRead_ok {t : Txt} {L : Nat} (h : tLen t = nI L) : tOk (fRead t).2 L := fReadN_ok 81 0 _ ⟨h, 0, by omega, rfl⟩
theorem ra_end {t : Txt} {start tg neg y num pos : Int32} {d : Nat} (h8 : ¬ tg = -1) (hN : fNeg (tChars t) (tLen t) (fPos0 start tg) = neg) (hq : (d, num, pos) = fDg (tChars t) (tLen t) (fPos1 (fPos0 start tg) neg)) (ed : y = nI d) : fRaR1 t start tg = fEndR' t tg neg y num pos ∧ fRaT1 t start tg = fEndT' t tg neg y num pos := by
  rw [fRaR1, fRaT1, if_neg h8, if_neg h8, fRaQ, hN, ← hq, fEndR, fEndT, ed]
  exact ⟨rfl, rfl⟩
theorem fNeg_1 {chars : Nat → Int32} {len pos : Int32} (h : fChr chars len pos = 45) : fNeg chars len pos = 1 := if_pos h
theorem fNeg_0 {chars : Nat → Int32} {len pos : Int32} (h : ¬ fChr chars len pos = 45) : fNeg chars len pos = 0 := if_neg h
theorem fPos1_1 (pos : Int32) : fPos1 pos 1 = pos + 1 := if_neg i32_10
theorem fPos1_0 (pos : Int32) : fPos1 pos 0 = pos := if_pos rfl
theorem fSgn_1 (x : Int32) : fSgn 1 x = -x := if_neg i32_10
theorem fSgn_0 (x : Int32) : fSgn 0 x = x := if_pos rfl
