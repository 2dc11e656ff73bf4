/-! SIMULATION, texts: which parameters a text assigns -/
theorem first_rel (f : Nat → Int32) {A : Nat} (hA : A ≤ 15) : ∀ n i : Nat, i ≤ A → A < i + n → (fFirstN f (nI A) n i = 0 ↔ ∃ j : Nat, i ≤ j ∧ j < A ∧ f j = f A)
  | 0, i, h1, h2 => absurd h2 (by omega)
  | n + 1, i, h1, h2 => by
    rw [fFirstN_s, if_neg (show ¬ (16 : Int32) ≤ nI A from nI_ge (a := A) (b := 16) (by omega) (by decide)), nI_clamp (by omega)]
    rcases Nat.lt_or_ge i A with q | q
    · rw [if_neg (nI_ge q (by omega))]
      by_cases e : f i = f A
      · rw [if_pos e]; exact ⟨fun _ => ⟨i, Nat.le_refl _, q, e⟩, fun _ => rfl⟩
      · rw [if_neg e, first_rel f hA n (i + 1) (by omega) (by omega)]
        refine ⟨fun ⟨j, a, b, c⟩ => ⟨j, by omega, b, c⟩, fun ⟨j, a, b, c⟩ => ⟨j, ?_, b, c⟩⟩
        rcases Nat.lt_or_ge i j with z | z
        · omega
        · exact absurd (by rw [show i = j by omega]; exact c) e
    · rw [if_pos (nI_le q (by omega))]
      exact ⟨fun h => absurd h i32_10, fun ⟨j, a, b, c⟩ => by omega⟩
theorem isFirst_rel (f : Nat → Int32) {A : Nat} (hA : A ≤ 15) : fIsFirst f (nI A) = 0 ↔ ∃ j : Nat, j < A ∧ f j = f A := by
  have h := first_rel f hA 17 0 (by omega) (by omega)
  refine h.trans ⟨fun ⟨j, _, b, c⟩ => ⟨j, b, c⟩, fun ⟨j, b, c⟩ => ⟨j, by omega, b, c⟩⟩
theorem sh_l : ∀ n : Nat, n < 32 → ((nI n &&& 31).toBitVec.smod 32).toNat = n := by decide +kernel
theorem nI_or {a b : Nat} (ha : a < 2 ^ 31) (hb : b < 2 ^ 31) : nI a ||| nI b = nI (a ||| b) := by
  refine Int32.toBitVec_inj.mp ?_
  rw [Int32.toBitVec_or]
  show BitVec.ofNat 32 a ||| BitVec.ofNat 32 b = BitVec.ofNat 32 (a ||| b)
  apply BitVec.eq_of_toNat_eq
  simp [BitVec.toNat_or, Nat.mod_eq_of_lt (show a < 2 ^ 32 by omega), Nat.mod_eq_of_lt (show b < 2 ^ 32 by omega), Nat.mod_eq_of_lt (show a ||| b < 2 ^ 32 from Nat.or_lt_two_pow (by omega) (by omega))]
theorem bit_0 {M k : Nat} (hM : M < 2 ^ 15) (hk : k < 15) : ((nI M >>> (nI k &&& 31)) &&& 1 = 0) ↔ M.testBit k = false := by
  rw [pk_shrN (by omega) _ k (sh_l k (by omega)), pk_andN (n := M / 2 ^ k) (m := 1) (by have := Nat.div_le_self M (2 ^ k); omega) 1 (by decide), Nat.testBit_eq_decide_div_mod_eq]
  have h2 : M / 2 ^ k % 2 < 2 := Nat.mod_lt _ (by decide)
  rw [show (2 : Nat) ^ 1 = 2 from rfl]
  generalize M / 2 ^ k % 2 = z at h2 ⊢
  rcases (show z = 0 ∨ z = 1 by omega) with rfl | rfl
  · exact ⟨fun _ => rfl, fun _ => rfl⟩
  · exact ⟨fun h => absurd h (by decide), fun h => absurd h (by decide)⟩
theorem bit_set {M k : Nat} (hM : M < 2 ^ 15) (hk : k < 15) : nI M ||| (1 <<< (nI k &&& 31)) = nI (M ||| 2 ^ k) ∧ M ||| 2 ^ k < 2 ^ 15 := by
  have hp : 2 ^ k < 2 ^ 15 := Nat.pow_lt_pow_right (by decide) hk
  have e : (1 : Int32) <<< (nI k &&& 31) = nI (2 ^ k) := by
    have := pk_shlN (n := 1) (nI k &&& 31) k (sh_l k (by omega)) (by omega)
    rw [Nat.one_mul] at this; exact this
  rw [e]
  exact ⟨nI_or (by omega) (by omega), Nat.or_lt_two_pow hM hp⟩
theorem at_rel {f g : Nat → Int32} {idx : Int32} : ∀ (l : List (Int32 × Int32)) (i M F fuel : Nat) (cnt : Int32), TA f g i l → lOk l → cnt = nI (i + l.length) → i + l.length ≤ 16 → l.length < fuel → M < 2 ^ 15 → (∀ k : Nat, k < 15 → (M.testBit k = true ↔ ∃ j : Nat, j < i ∧ f j = nI k)) → F ≤ i →
    (0 ≤ idx → byL idx l (nI M) (nI F) = rAssignedAt1 (fDatN f cnt idx fuel i (nI F))) ∧ (idx = -1 → byL idx l (nI M) (nI F) = fDiffN f cnt fuel i (nI F))
  | [], i, M, F, fuel, cnt, _, _, hc, h16, hf, _, _, _ => by
    obtain ⟨fu, rfl⟩ : ∃ z : Nat, fuel = z + 1 := ⟨fuel - 1, by rw [List.length_nil] at hf; omega⟩
    rw [List.length_nil, Nat.add_zero] at hc
    rw [fDatN_s, fDiffN_s, hc, if_pos (Int32.le_refl _), if_pos (Int32.le_refl _)]
    show (_ → aByE idx (nI F) = _) ∧ (_ → aByE idx (nI F) = _)
    unfold aByE
    refine ⟨fun h => by rw [if_pos h]; rfl, fun h => by rw [h, if_neg (by decide)]⟩
  | e :: l, i, M, F, fuel, cnt, hT, hO, hc, h16, hf, hM, hB, hF => by
    obtain ⟨fu, rfl⟩ : ∃ z : Nat, fuel = z + 1 := ⟨fuel - 1, by rw [List.length_cons] at hf; omega⟩
    rw [List.length_cons] at hc h16 hf
    obtain ⟨hT1, hT2, hT3⟩ := hT
    obtain ⟨hO1, hO2⟩ := List.forall_mem_cons.mp hO
    obtain ⟨k, hk, ek⟩ := vp_in_of hO1.1 (by decide)
    rw [fDatN_s, fDiffN_s, hc, if_neg (nI_ge (a := i) (b := i + (l.length + 1)) (by omega) (by omega)), if_neg (nI_ge (a := i) (b := i + (l.length + 1)) (by omega) (by omega)), if_neg (show ¬ (16 : Int32) ≤ nI i from nI_ge (a := i) (b := 16) (by omega) (by decide))]
    have fi := isFirst_rel f (A := i) (by omega)
    have eb : (M.testBit k = true) ↔ fIsFirst f (nI i) = 0 := by
      rw [hB k hk, fi, hT1, ek]
    show (_ → (if (nI M >>> (e.1 &&& 31)) &&& 1 = 0 then (if nI F = idx then e.1 else byL idx l (nI M ||| (1 <<< (e.1 &&& 31))) (nI F + 1)) else byL idx l (nI M) (nI F)) = _) ∧ (_ → (if (nI M >>> (e.1 &&& 31)) &&& 1 = 0 then (if nI F = idx then e.1 else byL idx l (nI M ||| (1 <<< (e.1 &&& 31))) (nI F + 1)) else byL idx l (nI M) (nI F)) = _)
    rw [ek]
    have z := bit_0 hM hk
    by_cases t : M.testBit k = true
    · have z1 : ¬ (nI M >>> (nI k &&& 31)) &&& 1 = 0 := fun q => by rw [z.mp q] at t; exact absurd t (by decide)
      rw [if_neg z1, if_pos (eb.mp t), if_pos (eb.mp t)]
      refine at_rel l (i + 1) M F fu _ hT3 hO2 (by congr 1; omega) (by omega) (by omega) hM (fun k' hk' => ?_) (by omega)
      rw [hB k' hk']
      refine ⟨fun ⟨j, a, b⟩ => ⟨j, by omega, b⟩, fun ⟨j, a, b⟩ => ?_⟩
      rcases Nat.lt_or_ge j i with q | q
      · exact ⟨j, q, b⟩
      · have ej : j = i := by omega
        rw [ej, hT1, ek] at b
        have ekk : k = k' := (nI_eq (by omega) (by omega)).mp b
        rw [← ekk]
        exact (hB k hk).mp t
    · have z1 : (nI M >>> (nI k &&& 31)) &&& 1 = 0 := z.mpr (by revert t; cases M.testBit k <;> simp)
      have n1 : ¬ fIsFirst f (nI i) = 0 := fun q => t (eb.mpr q)
      rw [if_pos z1, if_neg n1, if_neg n1, nI_1]
      obtain ⟨s1, s2⟩ := bit_set hM hk
      rw [s1]
      have rec_ := at_rel (idx := idx) l (i + 1) (M ||| 2 ^ k) (F + 1) fu (nI (i + (l.length + 1))) hT3 hO2 (by congr 1; omega) (by omega) (by omega) s2 (fun k' hk' => by
        rw [Nat.testBit_or]
        by_cases ekk : k = k'
        · subst ekk
          rw [Nat.testBit_two_pow_self, Bool.or_true]
          exact ⟨fun _ => ⟨i, by omega, by rw [hT1, ek]⟩, fun _ => rfl⟩
        · rw [Nat.testBit_two_pow_of_ne ekk, Bool.or_false, hB k' hk']
          refine ⟨fun ⟨j, a, b⟩ => ⟨j, by omega, b⟩, fun ⟨j, a, b⟩ => ?_⟩
          rcases Nat.lt_or_ge j i with q | q
          · exact ⟨j, q, b⟩
          · have ej : j = i := by omega
            rw [ej, hT1, ek] at b
            exact absurd ((nI_eq (by omega) (by omega)).mp b) ekk) (by omega)
      refine ⟨fun h => ?_, fun h => ?_⟩
      · by_cases q : nI F = idx
        · rw [if_pos q, if_pos q, hT1, ek]
          unfold rAssignedAt1
          rw [if_neg (m1_ne (by omega))]
        · rw [if_neg q, if_neg q]; exact rec_.1 h
      · rw [if_neg (by rw [h]; exact m1_ne (by omega))]; exact rec_.2 h
/-- the assignments made -/
theorem fSet_in {v : Sett} {k x : Int32} (hk : vp_in k 15) : fSet v k x = upd v k.toNatClampNeg x := by
  obtain ⟨j, hj, rfl⟩ := vp_in_of hk (by decide)
  unfold fSet fPar
  rw [if_neg (nI_pos (by omega)), if_neg (show ¬ (15 : Int32) ≤ nI j from nI_ge (a := j) (b := 15) hj (by decide)), if_neg (by decide)]
theorem asg_rel {t : Txt} : ∀ (l : List (Int32 × Int32)) (i fuel : Nat) (v : Sett), TA (tTarg t) (tWant t) i l → lOk l → tCnt t = nI (i + l.length) → i + l.length ≤ 16 → l.length < fuel → fAsgN t fuel i v = updL v l
  | [], i, fuel, v, _, _, hc, h16, hf => by
    obtain ⟨fu, rfl⟩ : ∃ z : Nat, fuel = z + 1 := ⟨fuel - 1, by rw [List.length_nil] at hf; omega⟩
    rw [List.length_nil, Nat.add_zero] at hc
    rw [fAsgN_s, hc, if_pos (Int32.le_refl _)]; rfl
  | e :: l, i, fuel, v, hT, hO, hc, h16, hf => by
    obtain ⟨fu, rfl⟩ : ∃ z : Nat, fuel = z + 1 := ⟨fuel - 1, by rw [List.length_cons] at hf; omega⟩
    rw [List.length_cons] at hc h16 hf
    obtain ⟨hT1, hT2, hT3⟩ := hT
    obtain ⟨hO1, hO2⟩ := List.forall_mem_cons.mp hO
    rw [fAsgN_s, hc, if_neg (nI_ge (a := i) (b := i + (l.length + 1)) (by omega) (by omega)), if_neg (show ¬ (16 : Int32) ≤ nI i from nI_ge (a := i) (b := 16) (by omega) (by decide)), hT1, hT2, fSet_in hO1.1]
    exact asg_rel l (i + 1) fu _ hT3 hO2 (by rw [hc]; congr 1; omega) (by omega) (by omega)
theorem pSet_ok {v : Nat → Int32} {k x : Int32} (hv : pOk v) (hk : vp_in k 15) (ha : fAllows k x = 1) : pOk (upd v k.toNatClampNeg x) := by
  obtain ⟨j, hj, rfl⟩ := vp_in_of hk (by decide)
  rw [nI_clamp (by omega)]
  unfold fAllows fPar at ha
  rw [if_neg (nI_pos (by omega)), if_neg (show ¬ (15 : Int32) ≤ nI j from nI_ge (a := j) (b := 15) hj (by decide)), if_neg (by decide), nI_clamp (by omega)] at ha
  have h1 : ¬ x < pLeast j := fun q => by rw [if_pos q] at ha; exact absurd ha (by decide)
  rw [if_neg h1] at ha
  have h2 : ¬ pGreatest j < x := fun q => by rw [if_pos q] at ha; exact absurd ha (by decide)
  intro i hi
  by_cases e : i = j
  · subst e; rw [pk_us]
    rw [zi_lt] at h1 h2
    exact ⟨by omega, by omega⟩
  · rw [pk_un e]; exact hv i hi
theorem updL_ok : ∀ (l : List (Int32 × Int32)) (v q : Nat → Int32), lOk l → pOk v → (∀ k : Nat, k < 15 → v k = q k) → pOk (updL v l) ∧ ∀ k : Nat, k < 15 → updL v l k = updL q l k
  | [], v, q, _, hv, he => ⟨hv, he⟩
  | e :: l, v, q, hO, hv, he => by
    obtain ⟨hO1, hO2⟩ := List.forall_mem_cons.mp hO
    refine updL_ok l (upd v e.1.toNatClampNeg e.2) (upd q e.1.toNatClampNeg e.2) hO2 (pSet_ok hv hO1.1 hO1.2) (fun k hk => ?_)
    by_cases c : k = e.1.toNatClampNeg
    · rw [c, pk_us, pk_us]
    · rw [pk_un c, pk_un c]; exact he k hk
