/-! SIMULATION, numbers: both sides' arithmetic as integers -/
theorem za_add {a b : Int64} (h1 : -9223372036854775808 ≤ a.toInt + b.toInt) (h2 : a.toInt + b.toInt < 9223372036854775808) : (a + b).toInt = a.toInt + b.toInt := by
  rw [Int64.toInt_add]; exact Int.bmod_eq_of_le (by omega) (by omega)
theorem za_sub {a b : Int64} (h1 : -9223372036854775808 ≤ a.toInt - b.toInt) (h2 : a.toInt - b.toInt < 9223372036854775808) : (a - b).toInt = a.toInt - b.toInt := by
  rw [Int64.toInt_sub]; exact Int.bmod_eq_of_le (by omega) (by omega)
theorem za_mul {a b : Int64} (h1 : -9223372036854775808 ≤ a.toInt * b.toInt) (h2 : a.toInt * b.toInt < 9223372036854775808) : (a * b).toInt = a.toInt * b.toInt := by
  rw [Int64.toInt_mul]; exact Int.bmod_eq_of_le (by omega) (by omega)
theorem zi_add {a b : Int32} (h1 : -2147483648 ≤ a.toInt + b.toInt) (h2 : a.toInt + b.toInt < 2147483648) : (a + b).toInt = a.toInt + b.toInt := by
  rw [Int32.toInt_add]; exact Int.bmod_eq_of_le (by omega) (by omega)
theorem zi_sub {a b : Int32} (h1 : -2147483648 ≤ a.toInt - b.toInt) (h2 : a.toInt - b.toInt < 2147483648) : (a - b).toInt = a.toInt - b.toInt := by
  rw [Int32.toInt_sub]; exact Int.bmod_eq_of_le (by omega) (by omega)
theorem zi_mul {a b : Int32} (h1 : -2147483648 ≤ a.toInt * b.toInt) (h2 : a.toInt * b.toInt < 2147483648) : (a * b).toInt = a.toInt * b.toInt := by
  rw [Int32.toInt_mul]; exact Int.bmod_eq_of_le (by omega) (by omega)
theorem zl_i {a : Int64} (h1 : -2147483648 ≤ a.toInt) (h2 : a.toInt < 2147483648) : a.toInt32.toInt = a.toInt := by
  rw [Int64.toInt_toInt32]; exact Int.bmod_eq_of_le (by omega) (by omega)
theorem zl_back {a : Int64} (h1 : -2147483648 ≤ a.toInt) (h2 : a.toInt < 2147483648) : a.toInt32.toInt64 = a :=
  Int64.toInt_inj.mp (by rw [Int32.toInt_toInt64, zl_i h1 h2])
theorem zw_add {a b : Int32} (h1 : -2147483648 ≤ a.toInt + b.toInt) (h2 : a.toInt + b.toInt < 2147483648) : (a + b).toInt64 = a.toInt64 + b.toInt64 := by
  refine Int64.toInt_inj.mp ?_
  rw [Int32.toInt_toInt64, zi_add h1 h2, za_add (by rw [Int32.toInt_toInt64, Int32.toInt_toInt64]; omega) (by rw [Int32.toInt_toInt64, Int32.toInt_toInt64]; omega), Int32.toInt_toInt64, Int32.toInt_toInt64]
theorem zw_sub {a b : Int32} (h1 : -2147483648 ≤ a.toInt - b.toInt) (h2 : a.toInt - b.toInt < 2147483648) : (a - b).toInt64 = a.toInt64 - b.toInt64 := by
  refine Int64.toInt_inj.mp ?_
  rw [Int32.toInt_toInt64, zi_sub h1 h2, za_sub (by rw [Int32.toInt_toInt64, Int32.toInt_toInt64]; omega) (by rw [Int32.toInt_toInt64, Int32.toInt_toInt64]; omega), Int32.toInt_toInt64, Int32.toInt_toInt64]
theorem zl0 : (0 : Int64).toInt = 0 := rfl
theorem zi0 : (0 : Int32).toInt = 0 := rfl
theorem zi1 : (1 : Int32).toInt = 1 := rfl
theorem zl1 : (1 : Int64).toInt = 1 := rfl
theorem zl_le {a b : Int64} : a ≤ b ↔ a.toInt ≤ b.toInt := Int64.le_iff_toInt_le
theorem zl_lt {a b : Int64} : a < b ↔ a.toInt < b.toInt := Int64.lt_iff_toInt_lt
theorem zi_le {a b : Int32} : a ≤ b ↔ a.toInt ≤ b.toInt := Int32.le_iff_toInt_le
theorem zi_lt {a b : Int32} : a < b ↔ a.toInt < b.toInt := Int32.lt_iff_toInt_lt
theorem zl_eq {a b : Int64} : a = b ↔ a.toInt = b.toInt := Int64.toInt_inj.symm
theorem zi_eq {a b : Int32} : a = b ↔ a.toInt = b.toInt := Int32.toInt_inj.symm
/-- the absolute value -/
theorem z_abs {x : Int32} (h : -2147483648 < x.toInt) : (kAbs x).toInt64 = mSize x.toInt64 ∧ (kAbs x).toInt = if 0 ≤ x.toInt then x.toInt else -x.toInt := by
  unfold kAbs mSize
  have e : (0 ≤ x.toInt64) = (0 ≤ x) := propext (by rw [zl_le, zi_le, Int32.toInt_toInt64]; exact Iff.rfl)
  simp only [e]
  by_cases c : 0 ≤ x
  · rw [if_pos c, if_pos c, if_pos (by rw [zi_le] at c; exact c)]; exact ⟨rfl, rfl⟩
  · rw [if_neg c, if_neg c, if_neg (by rw [zi_le] at c; exact c)]
    rw [zi_le, zi0] at c
    have h2 : (0 - x).toInt = -x.toInt := by rw [zi_sub (by rw [zi0]; omega) (by rw [zi0]; omega), zi0]; omega
    refine ⟨Int64.toInt_inj.mp ?_, h2⟩
    rw [Int32.toInt_toInt64, h2, Int64.toInt_neg, Int32.toInt_toInt64]
    exact (Int.bmod_eq_of_le (by omega) (by omega)).symm
theorem z_size {x : Int64} (h : -9223372036854775808 < x.toInt) : (mSize x).toInt = if 0 ≤ x.toInt then x.toInt else -x.toInt := by
  unfold mSize
  by_cases c : 0 ≤ x
  · rw [if_pos c, if_pos (by rw [zl_le] at c; exact c)]
  · rw [if_neg c, if_neg (by rw [zl_le] at c; exact c)]
    rw [zl_le, zl0] at c
    have := Int64.toInt_lt x
    rw [Int64.toInt_neg]
    exact Int.bmod_eq_of_le (by omega) (by omega)
/-- division rounded down, by 1000 and by 10 -/
theorem z_floor {x y : Int64} {c : Int} (hy : y.toInt = c) (hc : c = 1000 ∨ c = 10) (h1 : -4611686018427387904 ≤ x.toInt) (h2 : x.toInt ≤ 4611686018427387904) : (mFloor x y).toInt = x.toInt / c := by
  have hn : y ≠ -1 := by
    intro q; rw [q] at hy
    have : (-1 : Int64).toInt = -1 := rfl
    omega
  have hq : (x / y).toInt = x.toInt.tdiv c := by rw [Int64.toInt_div_of_ne_right x y hn, hy]
  rw [Int.tdiv_eq_ediv] at hq
  have hs : (x / y * y).toInt = (x / y).toInt * c := by
    have hb : -4611686018427388904 ≤ (x / y).toInt * c ∧ (x / y).toInt * c ≤ 4611686018427388904 := by
      rcases hc with rfl | rfl <;> (rw [hq]; split <;> (try (rw [show Int.sign 1000 = 1 from rfl])) <;> (try (rw [show Int.sign 10 = 1 from rfl])) <;> omega)
    rw [za_mul (by rw [hy]; omega) (by rw [hy]; omega), hy]
  have hsub : ¬ x / y * y ≤ x → (x / y - 1).toInt = (x / y).toInt - 1 := by
    intro _
    have hb : -4611686018427388904 ≤ (x / y).toInt ∧ (x / y).toInt ≤ 4611686018427388904 := by
      rcases hc with rfl | rfl <;> (rw [hq]; split <;> (try (rw [show Int.sign 1000 = 1 from rfl])) <;> (try (rw [show Int.sign 10 = 1 from rfl])) <;> omega)
    rw [za_sub (by rw [zl1]; omega) (by rw [zl1]; omega), zl1]
  unfold mFloor
  by_cases g : x / y * y ≤ x
  · rw [if_pos g]
    rw [zl_le, hs] at g
    rcases hc with rfl | rfl
    · rw [hq] at g ⊢
      split at g
      · rw [if_pos (by assumption)]; omega
      · rw [if_neg (by assumption)]; rw [show Int.sign 1000 = 1 from rfl] at g ⊢; omega
    · rw [hq] at g ⊢
      split at g
      · rw [if_pos (by assumption)]; omega
      · rw [if_neg (by assumption)]; rw [show Int.sign 10 = 1 from rfl] at g ⊢; omega
  · rw [if_neg g, hsub g]
    rw [zl_le, hs] at g
    rcases hc with rfl | rfl
    · rw [hq] at g ⊢
      split at g
      · rw [if_pos (by assumption)]; omega
      · rw [if_neg (by assumption)]; rw [show Int.sign 1000 = 1 from rfl] at g ⊢; omega
    · rw [hq] at g ⊢
      split at g
      · rw [if_pos (by assumption)]; omega
      · rw [if_neg (by assumption)]; rw [show Int.sign 10 = 1 from rfl] at g ⊢; omega
theorem z_xor (x y : Int64) (hy : 0 ≤ y) : (0 ≤ x ^^^ y) = (0 ≤ x) := by
  apply propext
  have e : ∀ z : Int64, 0 ≤ z ↔ z.toBitVec.msb = false := by
    intro z
    rw [zl_le, BitVec.msb_eq_toInt, Int64.toInt_toBitVec, zl0]
    simp
  rw [e, e, Int64.toBitVec_xor, BitVec.msb_xor, (e y).mp hy, Bool.xor_false]
theorem z_fdiv {x y : Int64} {c : Int} (hy : y.toInt = c) (hc : c = 1000 ∨ c = 10) (h1 : -4611686018427387904 ≤ x.toInt) (h2 : x.toInt ≤ 4611686018427387904) : kFdiv x y = mFloor x y := by
  have hn : y ≠ -1 := by
    intro q; rw [q] at hy
    have : (-1 : Int64).toInt = -1 := rfl
    omega
  have hq : (x / y).toInt = x.toInt.tdiv c := by rw [Int64.toInt_div_of_ne_right x y hn, hy]
  rw [Int.tdiv_eq_ediv] at hq
  have hs : (x / y * y).toInt = (x / y).toInt * c := by
    have hb : -4611686018427388904 ≤ (x / y).toInt * c ∧ (x / y).toInt * c ≤ 4611686018427388904 := by
      rcases hc with rfl | rfl <;> (rw [hq]; split <;> (try (rw [show Int.sign 1000 = 1 from rfl])) <;> (try (rw [show Int.sign 10 = 1 from rfl])) <;> omega)
    rw [za_mul (by rw [hy]; omega) (by rw [hy]; omega), hy]
  unfold kFdiv mFloor
  have hxo := z_xor x y (by rw [zl_le, hy, zl0]; rcases hc with rfl | rfl <;> decide)
  by_cases g0 : 0 ≤ x
  · rw [if_pos (show 0 ≤ x ^^^ y from by rw [hxo]; exact g0)]
    have g : x / y * y ≤ x := by
      rw [zl_le, hs, hq, if_pos (Or.inl (by rw [zl_le] at g0; exact g0))]
      rcases hc with rfl | rfl <;> omega
    rw [if_pos g]
  · rw [if_neg (show ¬ 0 ≤ x ^^^ y from by rw [hxo]; exact g0)]
    rw [zl_le, zl0] at g0
    by_cases g : x / y * y ≤ x
    · rw [if_pos g]
      have e : x / y * y = x := by
        rw [zl_le, hs] at g
        rw [zl_eq, hs]
        rcases hc with rfl | rfl
        · rw [hq] at g ⊢
          split at g
          · rename_i q
            rw [if_pos q]
            rcases q with q | q
            · omega
            · omega
          · rw [if_neg (by assumption)]; rw [show Int.sign 1000 = 1 from rfl] at g ⊢; omega
        · rw [hq] at g ⊢
          split at g
          · rename_i q
            rw [if_pos q]
            rcases q with q | q
            · omega
            · omega
          · rw [if_neg (by assumption)]; rw [show Int.sign 10 = 1 from rfl] at g ⊢; omega
      rw [if_pos e]
    · rw [if_neg g, if_neg (fun q => g (by rw [zl_le, q]; exact Int.le_refl _))]
theorem z_thou {x : Int64} (h1 : -4611686018427387904 ≤ x.toInt) (h2 : x.toInt ≤ 4611686018427387904) : fThou x = mFloor x 1000 ∧ (mFloor x 1000).toInt = x.toInt / 1000 :=
  ⟨z_fdiv (c := 1000) rfl (Or.inl rfl) h1 h2, z_floor (c := 1000) rfl (Or.inl rfl) h1 h2⟩
theorem z_tenth {x : Int64} (h1 : -4611686018427387904 ≤ x.toInt) (h2 : x.toInt ≤ 4611686018427387904) : kFdiv x 10 = mFloor x 10 ∧ (mFloor x 10).toInt = x.toInt / 10 :=
  ⟨z_fdiv (c := 10) rfl (Or.inr rfl) h1 h2, z_floor (c := 10) rfl (Or.inr rfl) h1 h2⟩
/-- products within bounds -/
theorem z_mulb {a b : Int} (A B : Nat) (ha : -(A : Int) ≤ a ∧ a ≤ A) (hb : -(B : Int) ≤ b ∧ b ≤ B) : -((A * B : Nat) : Int) ≤ a * b ∧ a * b ≤ ((A * B : Nat) : Int) := by
  have h := Int.natAbs_mul a b
  have h2 : a.natAbs * b.natAbs ≤ A * B := Nat.mul_le_mul (by omega) (by omega)
  rw [← h] at h2
  generalize A * B = M at h2 ⊢
  generalize a * b = P at h2 ⊢
  omega
theorem z_step {s g w lo hi : Int} (hw1 : 0 ≤ w) (hw2 : w ≤ 1000) (hs1 : lo ≤ s) (hs2 : s ≤ hi) (hg1 : lo ≤ g) (hg2 : g ≤ hi) : lo ≤ s + w * (g - s) / 1000 ∧ s + w * (g - s) / 1000 ≤ hi := by
  rcases Int.le_total s g with h | h
  · have a1 : 0 ≤ w * (g - s) := Int.mul_nonneg hw1 (by omega)
    have a2 : w * (g - s) ≤ 1000 * (g - s) := Int.mul_le_mul_of_nonneg_right hw2 (by omega)
    generalize w * (g - s) = P at a1 a2 ⊢
    omega
  · have a1 : w * (g - s) ≤ 0 := Int.mul_nonpos_of_nonneg_of_nonpos hw1 (by omega)
    have a2 : 1000 * (g - s) ≤ w * (g - s) := Int.mul_le_mul_of_nonpos_right hw2 (by omega)
    generalize w * (g - s) = P at a1 a2 ⊢
    omega
/-- one step, in both words -/
theorem z_steps {s g : Int64} {w : Int32} (B : Nat) (hB : B ≤ 4000000) (hs : -(B : Int) ≤ s.toInt ∧ s.toInt ≤ B) (hg : -(B : Int) ≤ g.toInt ∧ g.toInt ≤ B) (hw : 0 ≤ w.toInt ∧ w.toInt ≤ 1000) : mSteps s g w = (fStep s g w.toInt64).toInt64 ∧ -(B : Int) ≤ (fStep s g w.toInt64).toInt ∧ (fStep s g w.toInt64).toInt ≤ B := by
  have e1 : (g - s).toInt = g.toInt - s.toInt := za_sub (by omega) (by omega)
  have b1 := z_mulb (a := w.toInt) (b := g.toInt - s.toInt) 1000 8000000 (by omega) (by omega)
  have e2 : (w.toInt64 * (g - s)).toInt = w.toInt * (g.toInt - s.toInt) := by
    rw [za_mul (by rw [Int32.toInt_toInt64, e1]; omega) (by rw [Int32.toInt_toInt64, e1]; omega), Int32.toInt_toInt64, e1]
  obtain ⟨t1, t2⟩ := z_thou (x := w.toInt64 * (g - s)) (by rw [e2]; omega) (by rw [e2]; omega)
  rw [e2] at t2
  have st := z_step (s := s.toInt) (g := g.toInt) (w := w.toInt) hw.1 hw.2 hs.1 hs.2 hg.1 hg.2
  have e3 : (s + mFloor (w.toInt64 * (g - s)) 1000).toInt = s.toInt + w.toInt * (g.toInt - s.toInt) / 1000 := by
    rw [za_add (by rw [t2]; omega) (by rw [t2]; omega), t2]
  unfold mSteps fStep
  rw [t1, zl_back (by rw [e3]; omega) (by rw [e3]; omega), zl_i (by rw [e3]; omega) (by rw [e3]; omega), e3]
  exact ⟨rfl, st⟩
/-- rounding down keeps the sign -/
theorem z_mulS {a b : Int} : (0 ≤ a → 0 ≤ b → 0 ≤ a * b) ∧ (0 ≤ a → b ≤ 0 → a * b ≤ 0) := ⟨Int.mul_nonneg, Int.mul_nonpos_of_nonneg_of_nonpos⟩
/-- the rest of a division by a positive number -/
theorem z_rem {x y : Int64} (hy : 0 < y.toInt) (hy2 : y.toInt < 2147483648) : -y.toInt < (lRem x y).toInt ∧ (lRem x y).toInt < y.toInt := by
  have hn : y ≠ -1 := by
    intro q; rw [q] at hy
    exact absurd hy (by decide)
  have hq : (x / y).toInt = x.toInt.tdiv y.toInt := Int64.toInt_div_of_ne_right x y hn
  have e : (lRem x y).toInt = x.toInt.tmod y.toInt := by
    show (x - x / y * y).toInt = _
    rw [Int64.toInt_sub, Int64.toInt_mul, hq]
    have h := Int.tdiv_mul_add_tmod x.toInt y.toInt
    have h2 : x.toInt.tdiv y.toInt * y.toInt = x.toInt - x.toInt.tmod y.toInt := by omega
    rw [h2, Int.sub_bmod_bmod]
    have h3 : x.toInt - (x.toInt - x.toInt.tmod y.toInt) = x.toInt.tmod y.toInt := by omega
    rw [h3]
    have h4 := Int.tmod_lt_of_pos x.toInt hy
    have h5 := Int.natAbs_tmod x.toInt y.toInt
    have h6 : x.toInt.natAbs % y.toInt.natAbs < y.toInt.natAbs := Nat.mod_lt _ (by omega)
    exact Int.bmod_eq_of_le (by omega) (by omega)
  rw [e]
  have h4 := Int.tmod_lt_of_pos x.toInt hy
  have h5 := Int.natAbs_tmod x.toInt y.toInt
  have h6 : x.toInt.natAbs % y.toInt.natAbs < y.toInt.natAbs := Nat.mod_lt _ (by omega)
  omega
