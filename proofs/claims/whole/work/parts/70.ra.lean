/-! SIMULATION: the whole object and the reference's whole state -/
def RS (v q : Nat → Int32) : Prop := pOk v ∧ ∀ k : Nat, k < 15 → v k = q k
def RC (x : Chg) (B : Nat → Int32) (um : Int32) : Prop := ∃ U : Nat, U ≤ 6 ∧ cCnt x = nI U ∧ um = nI U ∧ ∀ i : Nat, i < U → pOk (cRows x i) ∧ ∀ k : Nat, k < 15 → cRows x i k = B (15 * i + k)
def RT (t : Txt) (c : Nat → Int32) (len : Int32) : Prop := ∃ L : Nat, L ≤ 80 ∧ tLen t = nI L ∧ len = nI L ∧ ∀ j : Nat, j < L → tChars t j = c j
def rLp (σ : Lop) (n : mRow) : Prop := ∃ N : Nat, N ≤ 100000 ∧ LR σ n N
def RK (cnt : Int32) (f s : Lop) (km : Int32) (kept : mRow) : Prop := ∃ K : Nat, K ≤ 2 ∧ cnt = nI K ∧ km = nI K ∧ (1 ≤ K → rLp f kept) ∧ (2 ≤ K → rLp s (fun j => kept (681 + j))) ∧ lB f ∧ lB s
def RM (μ : Mst) : Prop := loOk (mLow μ) (mHigh μ) ∧ nmOk (mNames μ) ∧ mIdeal μ = 0
def REL (x : Xst) (μ : Mst) : Prop := RS (xSet x) (mPar μ) ∧ RC (xChg x) (mBef μ) (mUm μ) ∧ RT (xTxt x) (mText μ) (mLen μ) ∧ rLp (xLoop x) (mNow μ) ∧ RK (xCnt x) (xFst x) (xSnd x) (mKm μ) (mKept μ) ∧ RM μ
theorem rm_par {μ : Mst} (h : RM μ) (q : Nat → Int32) : RM (mPut_par μ q) := h
theorem rm_spot {μ : Mst} (h : RM μ) (q : Int32) : RM (mPut_spot μ q) := h
theorem rm_which {μ : Mst} (h : RM μ) (q : Int32) : RM (mPut_which μ q) := h
theorem rm_number {μ : Mst} (h : RM μ) (q : Int32) : RM (mPut_number μ q) := h
theorem rm_before {μ : Mst} (h : RM μ) (q : Nat → Int32) : RM (mPut_before μ q) := h
theorem rm_undo {μ : Mst} (h : RM μ) (q : Int32) : RM (mPut_undoMany μ q) := h
theorem rm_now {μ : Mst} (h : RM μ) (q : mRow) : RM (mPut_now μ q) := h
theorem rm_aside {μ : Mst} (h : RM μ) (q : mRow) : RM (mPut_aside μ q) := h
theorem rm_parAside {μ : Mst} (h : RM μ) (q : Nat → Int32) : RM (mPut_parAside μ q) := h
theorem rm_path {μ : Mst} (h : RM μ) (q : mRow) : RM (mPut_path μ q) := h
theorem rm_ideal {μ : Mst} (h : RM μ) : RM (mPut_isIdeal μ 0) := ⟨h.1, h.2.1, rfl⟩
theorem rm_S {μ : Mst} (h : RM μ) (s w m : Int32) : RM (mPutS μ s w m) := rm_number (rm_which (rm_spot h s) w) m
theorem rm_K {μ : Mst} (h : RM μ) : RM (mKeeps μ) := rm_undo (rm_before h _) _
theorem pOk_ext {v w : Nat → Int32} (h : pOk v) (e : ∀ k : Nat, k < 15 → w k = v k) : pOk w := fun k hk => by rw [e k hk]; exact h k hk
theorem QR_of {v q : Nat → Int32} (h : RS v q) : QR v q 0 := ⟨fun k hk _ => h.2 k hk, h.2 4 (by decide), h.1⟩
theorem LR_lB {σ : Lop} {n : mRow} {N : Nat} (h : LR σ n N) : lB σ := by
  obtain ⟨-, -, -, -, -, ⟨-, -, -, -, hu⟩, -⟩ := h
  rcases hu with ⟨a, -⟩ | ⟨a, -⟩
  · exact Or.inl a
  · exact Or.inr a
theorem SP_ext2 {p p' : Nat → Int32} {n m : mRow} (h : SP p n) (ep : ∀ s : Nat, s < 10 → p' s = p s) (e : ∀ j : Nat, 641 ≤ j → j ≤ 654 → m j = n j) : SP p' m := fun t ht => by rw [e _ (sIx_ge t ht).1 (sIx_ge t ht).2, ep t ht]; exact h t ht
/-- a loop and a row may be changed where nobody looks -/
theorem LR_ext {σ τ : Lop} {n m : mRow} {N : Nat} (h : LR σ n N) (hn : lNow τ = lNow σ) (hl : lLoad τ = lLoad σ) (hs : lSeed τ = lSeed σ) (hb : lBad τ = lBad σ) (hg : lGood τ = lGood σ) (hp : ∀ s : Nat, s < 10 → lPres τ s = lPres σ s) (hr : ∀ j : Nat, j < 640 → lRecs τ j = lRecs σ j) (hx : lSec τ = lSec σ)
    (hc : wCnt (lWat τ) = wCnt (lWat σ)) (hw : ∀ j : Nat, j < 4 → wSig (lWat τ) j = wSig (lWat σ) j ∧ wLeast (lWat τ) j = wLeast (lWat σ) j ∧ wGreat (lWat τ) j = wGreat (lWat σ) j ∧ wGtick (lWat τ) j = wGtick (lWat σ) j) (e : ∀ j : Nat, j < 681 → m j = n j) : LR τ m N := by
  obtain ⟨h1, h2, h3, h4, ⟨h5, h6, h7, h8⟩, h9, ⟨W, w1, w2, w3, w4⟩, h11, h12⟩ := h
  refine ⟨hn.trans h1, (e 640 (by decide)).trans h2, ?_, ?_, ⟨SP_ext2 h5 hp (fun j _ b => e j (by omega)), ?_, ?_, ?_⟩, ?_, ⟨W, w1, hc.trans w2, (e 660 (by decide)).trans w3, fun j hj => ?_⟩, fun s hs' t a b => ?_, mOk_ext (fun j _ hj => e j hj) h12⟩
  · rw [e 642 (by decide), hl]; exact h3
  · rw [e 643 (by decide), hs]; exact h4
  · rw [hp 9 (by decide)]; exact h6
  · rw [e 649 (by decide), hb]; exact h7
  · rw [e 650 (by decide), hg]; exact h8
  · rw [hx]; exact XR_ext h9 (fun j _ b _ _ => e j (by omega))
  · obtain ⟨a, b, c⟩ := w4 j hj
    obtain ⟨q1, q2, q3, q4⟩ := hw j (by omega)
    unfold wP
    rw [q1, q2, q3, q4, e (661 + 5 * j) (by omega), e (661 + 5 * j + 1) (by omega), e (661 + 5 * j + 2) (by omega), e (661 + 5 * j + 3) (by omega), e (661 + 5 * j + 4) (by omega)]
    exact ⟨a, b, c⟩
  · rw [e _ (by omega), hr _ (by omega)]; exact h11 s hs' t a b
theorem LR_row {σ : Lop} {n m : mRow} {N : Nat} (h : LR σ n N) (e : ∀ j : Nat, j < 681 → m j = n j) : LR σ m N :=
  LR_ext h rfl rfl rfl rfl rfl (fun _ _ => rfl) (fun _ _ => rfl) rfl rfl (fun _ _ => ⟨rfl, rfl, rfl, rfl⟩) e
theorem LR_copy {σ τ : Lop} {n m : mRow} {N : Nat} (h : LR τ n N) (e : ∀ j : Nat, j < 681 → m j = n j) : LR (fLoopCopy σ τ) m N := by
  have c : ∀ (f g : Nat → Int32) (k j : Nat), j < k → va_cpy f g 0 0 k j = f j := fun f g k j hj => by rw [pk_cpy_in (Nat.zero_le _) (by omega), Nat.sub_zero, Nat.zero_add]
  exact LR_ext h rfl rfl rfl rfl rfl (fun s hs => c _ _ 10 s hs) (fun j hj => c _ _ 640 j hj) rfl rfl (fun j hj => ⟨c _ _ 4 j hj, c _ _ 4 j hj, c _ _ 4 j hj, c _ _ 4 j hj⟩) e
theorem rLp_copy {σ τ : Lop} {n m : mRow} (h : rLp τ n) (e : ∀ j : Nat, j < 681 → m j = n j) : rLp (fLoopCopy σ τ) m := by
  obtain ⟨N, h1, h2⟩ := h
  exact ⟨N, h1, LR_copy h2 e⟩
/-- many ticks -/
theorem LR_adv {v q : Nat → Int32} (hQ : RS v q) : ∀ (T N : Nat) (σ : Lop) (n : mRow), LR σ n N → N + T ≤ 800000 → LR (fAdv v T σ) (mAdv q 0 T n) (N + T)
  | 0, N, σ, n, h, _ => h
  | T + 1, N, σ, n, h, hT => by
    rw [fAdv_s, mAdv_s, show N + (T + 1) = (N + 1) + T by omega]
    exact LR_adv hQ T (N + 1) _ _ (st_tick h (by omega) (Or.inl rfl) (QR_of hQ)) (by omega)
/-! changes -/
theorem mPutRow_at (B q : Nat → Int32) (o : Nat) : ∀ k j : Nat, mPutRow B q o k j = if o ≤ j ∧ j < o + k then q (j - o) else B j
  | 0, j => by rw [if_neg (by omega)]; rfl
  | k + 1, j => by
    show upd (mPutRow B q o k) (o + k) (q k) j = _
    by_cases c : j = o + k
    · rw [c, pk_us, if_pos (by omega), show o + k - o = k by omega]
    · rw [pk_un c, mPutRow_at B q o k j]
      by_cases d : o ≤ j ∧ j < o + k
      · rw [if_pos d, if_pos (by omega)]
      · rw [if_neg d, if_neg (by omega)]
theorem mGetRow_at (q B : Nat → Int32) (o : Nat) : ∀ k j : Nat, mGetRow q B o k j = if j < k then B (o + j) else q j
  | 0, j => by rw [if_neg (by omega)]; rfl
  | k + 1, j => by
    show upd (mGetRow q B o k) k (B (o + k)) j = _
    by_cases c : j = k
    · rw [c, pk_us, if_pos (by omega)]
    · rw [pk_un c, mGetRow_at q B o k j]
      by_cases d : j < k
      · rw [if_pos d, if_pos (by omega)]
      · rw [if_neg d, if_neg (by omega)]
theorem mSh_at (B : Nat → Int32) : ∀ k j : Nat, mSh B k j = if j < k then B (15 + j) else B j
  | 0, j => by rw [if_neg (by omega)]; rfl
  | k + 1, j => by
    show upd (mSh B k) k ((mSh B k) (15 + k)) j = _
    by_cases c : j = k
    · rw [c, pk_us, if_pos (by omega), mSh_at B k (15 + k), if_neg (by omega)]
    · rw [pk_un c, mSh_at B k j]
      by_cases d : j < k
      · rw [if_pos d, if_pos (by omega)]
      · rw [if_neg d, if_neg (by omega)]
theorem cpy15 (f g : Nat → Int32) {k : Nat} (hk : k < 15) : va_cpy f g 0 0 15 k = f k := by rw [pk_cpy_in (Nat.zero_le _) (by omega), Nat.sub_zero, Nat.zero_add]
theorem cForget_at (R : Nat → Nat → Int32) {i k : Nat} (hi : i < 5) (hk : k < 15) : cForget R i k = R (i + 1) k := by
  unfold cForget
  rcases (show i = 0 ∨ i = 1 ∨ i = 2 ∨ i = 3 ∨ i = 4 by omega) with rfl | rfl | rfl | rfl | rfl
  · rw [va_up_ne _ _ (by decide), va_up_ne _ _ (by decide), va_up_ne _ _ (by decide), va_up_ne _ _ (by decide), va_up_self, cpy15 _ _ hk]
  · rw [va_up_ne _ _ (by decide), va_up_ne _ _ (by decide), va_up_ne _ _ (by decide), va_up_self, cpy15 _ _ hk]
  · rw [va_up_ne _ _ (by decide), va_up_ne _ _ (by decide), va_up_self, cpy15 _ _ hk]
  · rw [va_up_ne _ _ (by decide), va_up_self, cpy15 _ _ hk]
  · rw [va_up_self, cpy15 _ _ hk]
theorem cOk_of {x : Chg} {B : Nat → Int32} {um : Int32} (h : RC x B um) : cOk x ∧ uOk um := by
  obtain ⟨U, h1, h2, h3, -⟩ := h
  refine ⟨?_, U, h1, h3⟩
  unfold cOk
  rw [h2]
  rcases (show U = 0 ∨ U = 1 ∨ U = 2 ∨ U = 3 ∨ U = 4 ∨ U = 5 ∨ U = 6 by omega) with rfl | rfl | rfl | rfl | rfl | rfl | rfl <;> decide
theorem RC_keep {x : Chg} {B : Nat → Int32} {um : Int32} {v q : Nat → Int32} (h : RC x B um) (hS : RS v q) : RC (cKeep x v) (mKeepB B q um) (mKpU um + 1) := by
  obtain ⟨U, h1, h2, h3, h4⟩ := h
  obtain ⟨hv, he⟩ := hS
  -- the new row behind U0 old ones
  have key : ∀ (R : Nat → Nat → Int32) (B1 : Nat → Int32) (U0 : Nat), U0 ≤ 5 → (∀ i : Nat, i < U0 → pOk (R i) ∧ ∀ k : Nat, k < 15 → R i k = B1 (15 * i + k)) → RC (cPush R U0 v, nI U0 + 1) (mPutRow B1 q (15 * U0) 15) (nI U0 + 1) := by
    intro R B1 U0 hU hR
    refine ⟨U0 + 1, by omega, nI_1 _, nI_1 _, fun i hi => ?_⟩
    show pOk (cPush R U0 v i) ∧ _
    by_cases c : i = U0
    · subst c
      have e : ∀ k : Nat, k < 15 → cPush R i v i k = v k := fun k hk => by unfold cPush; rw [va_up_self, cpy15 _ _ hk]
      refine ⟨pOk_ext hv e, fun k hk => ?_⟩
      show cPush R i v i k = _
      rw [e k hk, mPutRow_at, if_pos (by omega), show 15 * i + k - 15 * i = k by omega]
      exact he k hk
    · have e : cPush R U0 v i = R i := by unfold cPush; rw [va_up_ne _ _ c]
      refine ⟨by rw [e]; exact (hR i (by omega)).1, fun k hk => ?_⟩
      show cPush R U0 v i k = _
      rw [e, mPutRow_at, if_neg (by omega)]
      exact (hR i (by omega)).2 k hk
  unfold cKeep mKeepB mKpB mKpU
  rw [h2, h3]
  by_cases c : U = 6
  · subst c
    rw [if_pos (show nI 6 = 6 from rfl), if_pos (show nI 6 = 6 from rfl), if_pos (show nI 6 = 6 from rfl)]
    have e5 : (nI 6 - 1 : Int32) = nI 5 := rfl
    rw [e5, nI_clamp (by decide)]
    have := key (cForget (cRows x)) (mSh B 75) 5 (by decide) (fun i hi => by
      have e : ∀ k : Nat, k < 15 → cForget (cRows x) i k = cRows x (i + 1) k := fun k hk => cForget_at _ hi hk
      refine ⟨pOk_ext (h4 (i + 1) (by omega)).1 e, fun k hk => ?_⟩
      rw [e k hk, mSh_at, if_pos (by omega), (h4 (i + 1) (by omega)).2 k hk]
      congr 1; omega)
    exact this
  · have n6 : ¬ nI U = 6 := fun q => c ((nI_eq (a := U) (b := 6) (by omega) (by decide)).mp q)
    rw [if_neg n6, if_neg n6, if_neg n6, nI_clamp (by omega)]
    exact key (cRows x) B U (by omega) h4
theorem RC_back {x : Chg} {B : Nat → Int32} {um : Int32} {v q : Nat → Int32} (h : RC x B um) (h0 : ¬ um = 0) : cCnt (cBackC x) = um - 1 ∧ RC (cBackC x) B (um - 1) ∧ RS (cBackV x v) (mGetRow q B (15 * (um - 1).toNatClampNeg) 15) := by
  obtain ⟨U, h1, h2, h3, h4⟩ := h
  rw [h3] at h0 ⊢
  have hU : 1 ≤ U := by
    rcases Nat.eq_zero_or_pos U with z | z
    · subst z; exact absurd rfl h0
    · exact z
  unfold cBackC cBackV
  rw [h2, if_neg h0, if_neg h0, nI_pm hU, nI_clamp (by omega), nI_clamp (by omega)]
  have hr := h4 (U - 1) (by omega)
  have e : ∀ k : Nat, k < 15 → va_cpy (cRows x (U - 1)) v 0 0 15 k = cRows x (U - 1) k := fun k hk => cpy15 _ _ hk
  refine ⟨rfl, ⟨U - 1, by omega, rfl, rfl, fun i hi => h4 i (by omega)⟩, pOk_ext hr.1 e, fun k hk => ?_⟩
  rw [e k hk, mGetRow_at, if_pos hk]; exact hr.2 k hk
theorem fPar_pos {k : Int32} (h : ¬ fPar k = 0) : ∃ j : Nat, j < 15 ∧ k = nI j := vp_in_of (fPar_in h) (by decide)
theorem fGet_in {v : Sett} {k : Int32} (h : ¬ fPar k = 0) : fGet v k = v k.toNatClampNeg := by unfold fGet; rw [if_neg h]
theorem fAllows_0 {k v : Int32} {lo hi : Nat → Int32} (hl : loOk lo hi) : fAllows k v = 0 ↔ (fPar k = 0 ∨ mIn v.toInt64 (lo k.toNatClampNeg).toInt64 (hi k.toNatClampNeg).toInt64 = 0) := by
  by_cases h : fPar k = 0
  · refine ⟨fun _ => Or.inl h, fun _ => ?_⟩
    unfold fAllows; rw [if_pos h]
  · rw [allows_eq hl (fPar_in h)]
    exact ⟨Or.inr, fun q => by rcases q with q | q; exact absurd q h; exact q⟩
theorem fAllows_01 (k v : Int32) : fAllows k v = 0 ∨ fAllows k v = 1 := by
  unfold fAllows
  split
  · exact Or.inl rfl
  · split
    · exact Or.inl rfl
    · split
      · exact Or.inl rfl
      · exact Or.inr rfl
theorem s_setParameter {x : Xst} {μ : Mst} (h : REL x μ) (k v : Int32) : rSetParameter x k v = jSetParameter μ k v ∧ REL (gSetParameter x k v) (hSetParameter μ k v) := by
  obtain ⟨hS, hC, hT, hL, hK, hM⟩ := h
  have ha := fAllows_0 (k := k) (v := v) hM.1
  unfold rSetParameter jSetParameter gSetParameter hSetParameter
  by_cases c0 : fPar k = 0
  · rw [if_pos (ha.mpr (Or.inl c0)), if_pos (ha.mpr (Or.inl c0)), if_pos c0, if_pos c0]
    exact ⟨rfl, hS, hC, hT, hL, hK, hM⟩
  · by_cases c1 : mIn v.toInt64 (mLow μ k.toNatClampNeg).toInt64 (mHigh μ k.toNatClampNeg).toInt64 = 0
    · rw [if_pos (ha.mpr (Or.inr c1)), if_pos (ha.mpr (Or.inr c1)), if_neg c0, if_neg c0, if_pos c1, if_pos c1]
      exact ⟨rfl, hS, hC, hT, hL, hK, hM⟩
    · have hne : ¬ fAllows k v = 0 := fun q => by rcases ha.mp q with q | q; exact c0 q; exact c1 q
      have h1 : fAllows k v = 1 := by rcases fAllows_01 k v with q | q; exact absurd q hne; exact q
      rw [if_neg hne, if_neg hne, if_neg c0, if_neg c0, if_neg c1, if_neg c1, fGet_in c0]
      obtain ⟨j, hj, ej⟩ := fPar_pos c0
      refine ⟨hS.2 _ (by rw [ej, nI_clamp (by omega)]; exact hj), ?_, RC_keep hC hS, hT, hL, hK, hM⟩
      show RS (fSet (xSet x) k v) (upd (mPar μ) k.toNatClampNeg v)
      rw [fSet_in (fPar_in c0)]
      refine ⟨pSet_ok hS.1 (fPar_in c0) h1, fun i hi => ?_⟩
      by_cases c : i = k.toNatClampNeg
      · rw [c, pk_us, pk_us]
      · rw [pk_un c, pk_un c]; exact hS.2 i hi
theorem s_parameter {x : Xst} {μ : Mst} (h : REL x μ) (k : Int32) : rParameter x k = jParameter μ k := by
  unfold rParameter jParameter
  by_cases c0 : fPar k = 0
  · rw [if_pos c0, if_pos c0]
  · obtain ⟨j, hj, ej⟩ := fPar_pos c0
    rw [if_neg c0, if_neg c0, fGet_in c0]
    exact h.1.2 _ (by rw [ej, nI_clamp (by omega)]; exact hj)
theorem s_nameAt {x : Xst} {μ : Mst} (h : REL x μ) (k i : Int32) : rNameAt x k i = jNameAt μ k i := by
  obtain ⟨-, -, -, -, -, -, hN, -⟩ := h
  unfold rNameAt jNameAt
  by_cases c0 : fPar k = 0
  · rw [if_pos c0, if_pos c0]
  · obtain ⟨j, hj, ej⟩ := fPar_pos c0
    rw [if_neg c0, if_neg c0]
    by_cases c1 : 0 ≤ i
    · rw [if_pos c1, if_pos c1]
      by_cases c2 : nI (vLen k.toNatClampNeg) ≤ i
      · rw [if_pos c2, if_pos c2]
      · rw [if_neg c2, if_neg c2]
        have hl := nm_lt c1 c2
        have hk : k.toNatClampNeg < 15 := by rw [ej, nI_clamp (by omega)]; exact hj
        have h8 := vLen_le hk
        rw [hN _ hk _ (by omega), if_pos hl]
    · rw [if_neg c1, if_neg c1]
theorem s_undo {x : Xst} {μ : Mst} (h : REL x μ) : rUndo x = jUndo μ ∧ REL (gUndo x) (hUndo μ) := by
  obtain ⟨hS, hC, hT, hL, hK, hM⟩ := h
  have e : cCnt (xChg x) = mUm μ := by obtain ⟨U, -, a, b, -⟩ := hC; rw [a, b]
  unfold rUndo jUndo gUndo hUndo
  rw [e]
  by_cases c : mUm μ = 0
  · rw [if_pos c, if_pos c, if_pos c, if_pos c]; exact ⟨rfl, hS, hC, hT, hL, hK, hM⟩
  · rw [if_neg c, if_neg c, if_neg c, if_neg c]
    obtain ⟨a, b, d⟩ := RC_back (v := xSet x) (q := mPar μ) hC c
    exact ⟨a, d, b, hT, hL, hK, hM⟩
/-! setpoint, load, seed -/
theorem fLev_eq (v : Int32) : fLev v = mIn v.toInt64 (-100000) 100000 := by
  have h : mIn v.toInt64 (-100000) 100000 = if v < -100000 then 0 else if 100000 < v then 0 else 1 := mIn_i v (-100000) 100000
  rw [h]; rfl
theorem fLev_in {v : Int32} (h : ¬ fLev v = 0) : -100000 ≤ v.toInt ∧ v.toInt ≤ 100000 := by
  unfold fLev at h
  by_cases c1 : v < -100000
  · rw [if_pos c1] at h; exact absurd rfl h
  · rw [if_neg c1] at h
    by_cases c2 : 100000 < v
    · rw [if_pos c2] at h; exact absurd rfl h
    · rw [zi_lt, show (-100000 : Int32).toInt = -100000 from rfl] at c1
      rw [zi_lt, show (100000 : Int32).toInt = 100000 from rfl] at c2
      exact ⟨by omega, by omega⟩
theorem LR_setR {σ : Lop} {n : mRow} {N : Nat} {v : Int32} (h : LR σ n N) (hv : -100000 ≤ v.toInt ∧ v.toInt ≤ 100000) : LR (fSetR σ v) (mSetRow n v) N := by
  obtain ⟨h1, h2, h3, h4, ⟨h5, h6, h7, h8⟩, h9, h10, h11, h12⟩ := h
  have rest : ∀ j : Nat, j ≠ 641 → j ≠ 655 → j ≠ 656 → j ≠ 657 → j ≠ 658 → j ≠ 659 → mSetRow n v j = n j := fun j a1 a2 a3 a4 a5 a6 => by unfold mSetRow; rw [pk_uLn a6, pk_uLn a5, pk_uLn a4, pk_uLn a3, pk_uLn a2, pk_uLn a1]
  have e0 : n 641 = (lPres σ 0).toInt64 := (h5 0 (by decide)).1
  refine ⟨h1, (rest 640 (by decide) (by decide) (by decide) (by decide) (by decide) (by decide)).trans h2, ?_, ?_, ⟨?_, ?_, ?_, ?_⟩, ⟨?_, ?_, ⟨?_, ?_, ?_⟩, ⟨?_, ?_, ?_⟩, ?_⟩, WR_ext h10 (fun j hj => rest j (by omega) (by omega) (by omega) (by omega) (by omega) (by omega)), fun s hs t a b => ?_, ?_⟩
  · rw [rest 642 (by decide) (by decide) (by decide) (by decide) (by decide) (by decide)]; exact h3
  · rw [rest 643 (by decide) (by decide) (by decide) (by decide) (by decide) (by decide)]; exact h4
  · have := SP_ign (SP_ign (SP_ign (SP_ign (SP_ign (SP_upd h5 0 (by decide) (v := v) rfl hv.1 hv.2) (j := 655) (w := (n 641).toInt32.toInt64) (by decide)) (j := 656) (w := 0) (by decide)) (j := 657) (w := 0) (by decide)) (j := 658) (w := 0) (by decide)) (j := 659) (w := 0) (by decide)
    exact this
  · show upd (lPres σ) 0 v 9 = 0 ∨ upd (lPres σ) 0 v 9 = 1
    rw [pk_un (by decide)]; exact h6
  · rw [rest 649 (by decide) (by decide) (by decide) (by decide) (by decide) (by decide)]; exact h7
  · rw [rest 650 (by decide) (by decide) (by decide) (by decide) (by decide) (by decide)]; exact h8
  · unfold mSetRow; rw [pk_uLn (by decide), pk_uLn (by decide), pk_uLn (by decide), pk_uLs]; rfl
  · unfold mSetRow; rw [pk_uLn (by decide), pk_uLn (by decide), pk_uLs]; rfl
  · unfold mSetRow; rw [pk_uLn (by decide), pk_uLs]; rfl
  · show 0 ≤ (0 : Int32).toInt; decide
  · show (0 : Int32).toInt ≤ 1103000; decide
  · unfold mSetRow; rw [pk_uLs]; rfl
  · show 0 ≤ (0 : Int32).toInt; decide
  · show (0 : Int32).toInt ≤ _; rw [zi0]; omega
  · have a1 : mSetRow n v 641 = v.toInt64 := by unfold mSetRow; rw [pk_uLn (by decide), pk_uLn (by decide), pk_uLn (by decide), pk_uLn (by decide), pk_uLn (by decide), pk_uLs]
    have a2 : mSetRow n v 655 = (lPres σ 0).toInt64 := by unfold mSetRow; rw [pk_uLn (by decide), pk_uLn (by decide), pk_uLn (by decide), pk_uLn (by decide), pk_uLs, e0, Int32.toInt32_toInt64]
    rw [a1, a2]
    show ((if v < lPres σ 0 then (0 : Int32) else 1) = 0 ∧ _) ∨ ((if v < lPres σ 0 then (0 : Int32) else 1) = 1 ∧ _)
    rw [l64_lt]
    by_cases c : v < lPres σ 0
    · rw [if_pos c]; exact Or.inl ⟨rfl, c⟩
    · rw [if_neg c]; exact Or.inr ⟨rfl, c⟩
  · rw [rest _ (by omega) (by omega) (by omega) (by omega) (by omega) (by omega)]; exact h11 s hs t a b
  · unfold mSetRow
    exact mOk_upd (by decide) (mOk_upd (by decide) (mOk_upd (by decide) (mOk_upd (by decide) (mOk_upd (by decide) (mOk_upd (by decide) h12)))))
theorem s_setSetpoint {x : Xst} {μ : Mst} (h : REL x μ) (v : Int32) : rSetSetpoint x v = jSetSetpoint μ v ∧ REL (gSetSetpoint x v) (hSetSetpoint μ v) := by
  obtain ⟨hS, hC, hT, hL, hK, hM⟩ := h
  unfold rSetSetpoint jSetSetpoint gSetSetpoint hSetSetpoint
  rw [← fLev_eq]
  by_cases c : fLev v = 0
  · rw [if_pos c, if_pos c, if_pos c, if_pos c]; exact ⟨rfl, hS, hC, hT, hL, hK, hM⟩
  · rw [if_neg c, if_neg c, if_neg c, if_neg c]
    obtain ⟨N, hN, hL⟩ := hL
    have e0 : mNow μ 641 = (lPres (xLoop x) 0).toInt64 := (hL.2.2.2.2.1.1 0 (by decide)).1
    exact ⟨by rw [e0, Int32.toInt32_toInt64], hS, hC, hT, ⟨N, hN, LR_setR hL (fLev_in c)⟩, hK, hM⟩
theorem XR_ext2 {x : Sec} {n m : mRow} {K : Nat} (h : XR x n K) (e : ∀ j : Nat, j = 641 ∨ (655 ≤ j ∧ j ≤ 659) → m j = n j) : XR x m K := by
  unfold XR at h ⊢
  rw [e 656 (by decide), e 657 (by decide), e 658 (by decide), e 659 (by decide), e 641 (by decide), e 655 (by decide)]
  exact h
theorem LR_put {σ τ : Lop} {n : mRow} {N j0 : Nat} {w : Int64} (h : LR σ n N) (hj : j0 = 642 ∨ j0 = 643) (t1 : lNow τ = lNow σ) (t2 : lBad τ = lBad σ) (t3 : lGood τ = lGood σ) (t4 : lPres τ = lPres σ) (t5 : lRecs τ = lRecs σ) (t6 : lSec τ = lSec σ) (t7 : lWat τ = lWat σ)
    (a1 : vp_updL n j0 w 642 = (lLoad τ).toInt64 ∧ -100000 ≤ (lLoad τ).toInt ∧ (lLoad τ).toInt ≤ 100000) (a2 : vp_updL n j0 w 643 = (lSeed τ).toInt64 ∧ 0 ≤ (lSeed τ).toInt ∧ (lSeed τ).toInt ≤ 9999) : LR τ (vp_updL n j0 w) N := by
  obtain ⟨h1, h2, h3, h4, ⟨h5, h6, h7, h8⟩, h9, h10, h11, h12⟩ := h
  have rest : ∀ j : Nat, j ≠ j0 → vp_updL n j0 w j = n j := fun j a => pk_uLn a
  have hig : ∀ s : Nat, s < 10 → sIx s ≠ j0 := by rcases hj with rfl | rfl <;> decide
  refine ⟨t1.trans h1, (rest 640 (by omega)).trans h2, a1, a2, ⟨by rw [t4]; exact SP_ign h5 hig, by rw [t4]; exact h6, by rw [t2, rest 649 (by omega)]; exact h7, by rw [t3, rest 650 (by omega)]; exact h8⟩, by rw [t6]; exact XR_ext2 h9 (fun j hj2 => rest j (by omega)), by rw [t7]; exact WR_ext h10 (fun j hj2 => rest j (by omega)), fun s hs t a b => by rw [t5, rest _ (by omega)]; exact h11 s hs t a b, mOk_upd (by omega) h12⟩
theorem s_setLoad {x : Xst} {μ : Mst} (h : REL x μ) (v : Int32) : rSetLoad x v = jSetLoad μ v ∧ REL (gSetLoad x v) (hSetLoad μ v) := by
  obtain ⟨hS, hC, hT, hL, hK, hM⟩ := h
  unfold rSetLoad jSetLoad gSetLoad hSetLoad
  rw [← fLev_eq]
  by_cases c : fLev v = 0
  · rw [if_pos c, if_pos c, if_pos c, if_pos c]; exact ⟨rfl, hS, hC, hT, hL, hK, hM⟩
  · rw [if_neg c, if_neg c, if_neg c, if_neg c]
    obtain ⟨N, hN, hL⟩ := hL
    refine ⟨by rw [hL.2.2.1.1, Int32.toInt32_toInt64], hS, hC, hT, ⟨N, hN, LR_put hL (Or.inl rfl) rfl rfl rfl rfl rfl rfl rfl ⟨pk_uLs, fLev_in c⟩ ?_⟩, hK, hM⟩
    rw [pk_uLn (by decide)]; exact hL.2.2.2.1
theorem s_setSeed {x : Xst} {μ : Mst} (h : REL x μ) (v : Int32) : rSetSeed x v = jSetSeed μ v ∧ REL (gSetSeed x v) (hSetSeed μ v) := by
  obtain ⟨hS, hC, hT, hL, hK, hM⟩ := h
  have e : mIn v.toInt64 0 9999 = if v < 0 then 0 else if 9999 < v then 0 else 1 := mIn_i v 0 9999
  unfold rSetSeed jSetSeed gSetSeed hSetSeed
  rw [e]
  by_cases c : v < 0
  · rw [if_pos c, if_pos c, if_pos c, if_pos rfl, if_pos rfl]; exact ⟨rfl, hS, hC, hT, hL, hK, hM⟩
  · rw [if_neg c, if_neg c, if_neg c]
    by_cases c2 : v ≤ 9999
    · rw [if_pos c2, if_pos c2, if_neg (Int32.not_lt.mpr c2), if_neg i32_10, if_neg i32_10]
      obtain ⟨N, hN, hL⟩ := hL
      refine ⟨by rw [hL.2.2.2.1.1, Int32.toInt32_toInt64], hS, hC, hT, ⟨N, hN, LR_put hL (Or.inr rfl) rfl rfl rfl rfl rfl rfl rfl ?_ ⟨pk_uLs, ?_⟩⟩, hK, hM⟩
      · rw [pk_uLn (by decide)]; exact hL.2.2.1
      · rw [zi_lt, zi0] at c
        rw [zi_le, show (9999 : Int32).toInt = 9999 from rfl] at c2
        show 0 ≤ v.toInt ∧ v.toInt ≤ 9999
        omega
    · rw [if_neg c2, if_neg c2, if_pos (Int32.not_le.mp c2), if_pos rfl, if_pos rfl]; exact ⟨rfl, hS, hC, hT, hL, hK, hM⟩
/-! texts -/
theorem s_type {x : Xst} {μ : Mst} (h : REL x μ) (k : Int32) : rType x k = jType μ k ∧ REL (gType x k) (hType μ k) := by
  obtain ⟨hS, hC, hT, hL, hK, hM⟩ := h
  have e : mIn k.toInt64 32 126 = if k < 32 then 0 else if 126 < k then 0 else 1 := mIn_i k 32 126
  unfold rType jType gType hType
  rw [e]
  by_cases c : k < 32
  · rw [if_pos c, if_pos c, if_pos c, if_pos rfl, if_pos rfl]; exact ⟨rfl, hS, hC, hT, hL, hK, hM⟩
  · rw [if_neg c, if_neg c, if_neg c]
    by_cases c2 : k ≤ 126
    · rw [if_pos c2, if_pos c2, if_neg (Int32.not_lt.mpr c2), if_neg i32_10, if_neg i32_10]
      obtain ⟨L, l1, l2, l3, l4⟩ := hT
      unfold tAppR tApp
      rw [l2, l3]
      by_cases c3 : L < 80
      · have h80 : nI L < 80 := nI_lt (a := L) (b := 80) c3 (by decide)
        have n80 : ¬ nI L = 80 := fun q => absurd ((nI_eq (a := L) (b := 80) (by omega) (by decide)).mp q) (by omega)
        rw [if_pos h80, if_pos h80, if_neg i32_10, if_neg n80, if_neg n80]
        refine ⟨rfl, hS, hC, ⟨L + 1, by omega, nI_1 L, nI_1 L, fun j hj => ?_⟩, hL, hK, hM⟩
        show upd (tChars (xTxt x)) (nI L).toNatClampNeg k j = upd (mText μ) (nI L).toNatClampNeg k j
        rw [nI_clamp (by omega)]
        by_cases ej : j = L
        · rw [ej, pk_us, pk_us]
        · rw [pk_un ej, pk_un ej]; exact l4 j (by omega)
      · have e80 : L = 80 := by omega
        have h80 : ¬ nI L < 80 := by rw [e80]; decide
        have n80 : nI L = 80 := by rw [e80]; rfl
        rw [if_neg h80, if_neg h80, if_pos rfl, if_pos n80, if_pos n80]
        exact ⟨rfl, hS, hC, ⟨L, l1, l2, l3, l4⟩, hL, hK, hM⟩
    · rw [if_neg c2, if_neg c2, if_pos (Int32.not_le.mp c2), if_pos rfl, if_pos rfl]; exact ⟨rfl, hS, hC, hT, hL, hK, hM⟩
theorem s_clearText {x : Xst} {μ : Mst} (h : REL x μ) : tLen (xTxt x) = mLen μ ∧ REL (gClearText x) (hClearText μ) := by
  obtain ⟨hS, hC, ⟨L, l1, l2, l3, l4⟩, hL, hK, hM⟩ := h
  exact ⟨by rw [l2, l3], hS, hC, ⟨0, by omega, rfl, rfl, fun j hj => absurd hj (by omega)⟩, hL, hK, hM⟩
theorem CE_of {t : Txt} {c : Nat → Int32} {len : Int32} (h : RT t c len) : CE (tChars t) c len := by
  obtain ⟨L, l1, l2, l3, l4⟩ := h
  intro i
  unfold fChr
  by_cases c1 : i < 0
  · rw [if_pos c1, if_pos c1]
  · rw [if_neg c1, if_neg c1]
    by_cases c2 : len ≤ i
    · rw [if_pos c2, if_pos c2]
    · rw [if_neg c2, if_neg c2]
      obtain ⟨j, hj, e⟩ := nI_of c1
      have hlt : j < L := lt_of_nle (by rw [← l3, ← e]; exact c2) hj (by omega)
      rw [e, nI_clamp hj, l4 j hlt]
/-- the reading of a text, on both sides -/
theorem rd_all {x : Xst} {μ : Mst} (h : REL x μ) : ∃ l : List (Int32 × Int32), l = aL (mText μ) (mLen μ) (mLow μ) (mHigh μ) 81 0 ∧ lOk l ∧
    (fRead (xTxt x)).1 = (if (aFl μ).1 = -2000000004 then -1 else (aFl μ).1) ∧ ¬ (aFl μ).1 = -1 ∧ RT (fRead (xTxt x)).2 (mText μ) (mLen μ) ∧
    ((aFl μ).1 = -2000000004 → TA (tTarg (fRead (xTxt x)).2) (tWant (fRead (xTxt x)).2) 0 l ∧ tCnt (fRead (xTxt x)).2 = nI l.length ∧ l.length ≤ 16 ∧ (mLen μ = 0 ↔ l.length = 0)) := by
  obtain ⟨hS, hC, hT, hL, hK, hM⟩ := h
  have hce := CE_of hT
  obtain ⟨L, l1, l2, l3, l4⟩ := hT
  have e0 : (aFl μ).1 = aF (mText μ) (mLen μ) (mLow μ) (mHigh μ) 81 0 := flt_1 _ _ _ _ 81 0 _ _
  obtain ⟨r1, r2, r3⟩ := rd_rel (c := mText μ) l1 l3 hM.1 81 0 0 (tPut_count (xTxt x) 0) hce (l2.trans l3.symm) rfl (by omega) (by omega)
  rw [show nI 0 = (0 : Int32) from rfl] at r1 r2 r3
  obtain ⟨k1, k2⟩ := fReadN_chars 81 0 (tPut_count (xTxt x) 0)
  refine ⟨_, rfl, aL_ok _ _ hM.1 81 0, by rw [e0]; exact r1, by rw [e0]; exact r2, ⟨L, l1, k2.trans l2, l3, fun j hj => (congrFun k1 j).trans (l4 j hj)⟩, fun q => ?_⟩
  rw [e0] at q
  rcases r3 q with ⟨b1, b2, b3, b4⟩ | b
  · refine ⟨b1, by rw [Nat.zero_add] at b3; exact b3, by omega, ?_⟩
    rw [aL_s]
    rw [aF_s] at q
    by_cases g : mLen μ ≤ (0 : Int32)
    · rw [if_pos g]
      refine ⟨fun _ => rfl, fun _ => ?_⟩
      rw [l3] at g ⊢
      rcases Nat.eq_zero_or_pos L with z | z
      · rw [z]; rfl
      · exact absurd g (nI_nle z (by omega))
    · rw [if_neg g] at q ⊢
      have h0 : ¬ mLen μ = 0 := fun z => g (by rw [z]; exact Int32.le_refl _)
      by_cases g2 : aR (mText μ) (mLen μ) (mLow μ) (mHigh μ) 0 = 0
      · rw [if_pos g2] at q; exact absurd q (by decide)
      · rw [if_neg g2, List.length_cons]
        exact ⟨fun z => absurd z h0, fun z => absurd z (by omega)⟩
  · exact absurd b (by omega)
theorem s_fault {x : Xst} {μ : Mst} (h : REL x μ) : rFault x = jFault μ ∧ REL (gFault x) (hFault μ) := by
  obtain ⟨l, -, -, r1, r2, r3, -⟩ := rd_all h
  obtain ⟨hS, hC, hT, hL, hK, hM⟩ := h
  refine ⟨?_, hS, hC, r3, hL, hK, rm_S hM _ _ _⟩
  unfold rFault jFault
  rw [r1]
  by_cases c : (aFl μ).1 = -2000000004
  · rw [if_pos c, if_pos rfl, c]
  · rw [if_neg c, if_neg r2]
theorem s_apply {x : Xst} {μ : Mst} (h : REL x μ) : rApply x = jApply μ ∧ REL (gApply x) (hApply μ) := by
  obtain ⟨l, hl, hO, r1, r2, r3, r4⟩ := rd_all h
  obtain ⟨hS, hC, hT, hL, hK, hM⟩ := h
  have a1 : (aAp μ).1 = nI l.length := by
    have q := (app_1 (mText μ) (mLen μ) (mLow μ) (mHigh μ) 81 0 (aFl μ).2.2.1 (aFl μ).2.2.2 (mPar μ) 0).1
    rw [← hl, Nat.zero_add] at q; exact q
  have a2 : (aAp μ).2.2.2.2 = updL (mPar μ) l := by
    have q := (app_1 (mText μ) (mLen μ) (mLow μ) (mHigh μ) 81 0 (aFl μ).2.2.1 (aFl μ).2.2.2 (mPar μ) 0).2
    rw [← hl] at q; exact q
  unfold rApply jApply gApply hApply hFault
  generalize aAp μ = A at a1 a2 ⊢
  generalize aFl μ = F at r1 r2 r4 ⊢
  generalize fRead (xTxt x) = R at r1 r3 r4 ⊢
  have same : ∀ s w m : Int32, REL (xPut_text x R.2) (mPutS μ s w m) := fun s w m => ⟨hS, hC, r3, hL, hK, rm_S hM s w m⟩
  have same0 : REL (xPut_text x R.2) μ := ⟨hS, hC, r3, hL, hK, hM⟩
  rw [r1]
  by_cases c : F.1 = -2000000004
  · obtain ⟨t1, t2, t3, t4⟩ := r4 c
    rw [if_pos c, if_pos rfl, if_pos rfl]
    by_cases c0 : mLen μ = 0
    · have z : tCnt R.2 = 0 := by rw [t2, t4.mp c0]; rfl
      rw [if_pos z, if_pos z, if_pos c0, if_pos c0]
      exact ⟨rfl, same0⟩
    · have z : ¬ tCnt R.2 = 0 := by
        rw [t2]
        exact nI_ne0 (Nat.pos_of_ne_zero (fun q => c0 (t4.mpr q))) (by omega)
      rw [if_neg z, if_neg z, if_neg c0, if_neg c0, if_pos c, if_pos c]
      have hset : RS (fAsg R.2 (xSet x)) A.2.2.2.2 := by
        rw [a2, show fAsg R.2 (xSet x) = updL (xSet x) l from asg_rel l 0 17 (xSet x) t1 hO (by rw [t2, Nat.zero_add]) (by omega) (by omega)]
        exact updL_ok l (xSet x) (mPar μ) hO hS.1 hS.2
      have hk := RC_keep hC hS
      generalize fAsg R.2 (xSet x) = v' at hset ⊢
      generalize cKeep (xChg x) (xSet x) = x' at hk ⊢
      refine ⟨by rw [a1, t2], hset, hk, r3, hL, hK, rm_par (rm_S (rm_K hM) _ _ _) _⟩
  · rw [if_neg c, if_neg r2, if_neg r2, if_neg c]
    refine ⟨by split <;> rfl, ?_⟩
    by_cases c0 : mLen μ = 0
    · rw [if_pos c0]; exact same0
    · rw [if_neg c0, if_neg c]; exact same _ _ _
theorem s_assigned {x : Xst} {μ : Mst} (h : REL x μ) : rAssigned x = jAssigned μ ∧ REL (gFault x) (hAssigned μ) := by
  obtain ⟨l, hl, hO, r1, r2, r3, r4⟩ := rd_all h
  obtain ⟨hS, hC, hT, hL, hK, hM⟩ := h
  unfold rAssigned jAssigned hAssigned
  rw [r1]
  by_cases c : (aFl μ).1 = -2000000004
  · obtain ⟨t1, t2, t3, t4⟩ := r4 c
    rw [if_pos c, if_pos rfl, if_pos c, if_pos c]
    refine ⟨?_, hS, hC, r3, hL, hK, rm_S hM _ _ _⟩
    have b := by_1 (mText μ) (mLen μ) (mLow μ) (mHigh μ) (-1) 81 0 (aFl μ).2.2.1 (aFl μ).2.2.2 0 0
    rw [← hl] at b
    have a := (at_rel (f := tTarg (fRead (xTxt x)).2) (g := tWant (fRead (xTxt x)).2) (idx := -1) l 0 0 0 17 (tCnt (fRead (xTxt x)).2) t1 hO (by rw [t2, Nat.zero_add]) (by omega) (by omega) (by decide) (fun k hk => ⟨fun q => by rw [Nat.zero_testBit] at q; exact absurd q (by decide), fun ⟨j, q, _⟩ => absurd q (by omega)⟩) (Nat.le_refl _)).2 rfl
    exact (b.trans a).symm
  · rw [if_neg c, if_neg r2, if_neg c, if_neg c]
    exact ⟨rfl, hS, hC, r3, hL, hK, rm_S hM _ _ _⟩
theorem s_assignedAt {x : Xst} {μ : Mst} (h : REL x μ) (i : Int32) : rAssignedAt x i = jAssignedAt μ i ∧ REL (gAssignedAt x i) (hAssignedAt μ i) := by
  obtain ⟨l, hl, hO, r1, r2, r3, r4⟩ := rd_all h
  have h0 := h
  obtain ⟨hS, hC, hT, hL, hK, hM⟩ := h
  unfold rAssignedAt jAssignedAt gAssignedAt hAssignedAt
  by_cases ci : 0 ≤ i
  · rw [if_pos ci, if_pos ci, if_pos ci, if_pos ci, r1]
    by_cases c : (aFl μ).1 = -2000000004
    · obtain ⟨t1, t2, t3, t4⟩ := r4 c
      rw [if_pos c, if_pos rfl, if_pos c, if_pos c]
      refine ⟨?_, hS, hC, r3, hL, hK, rm_S hM _ _ _⟩
      have b := by_1 (mText μ) (mLen μ) (mLow μ) (mHigh μ) i 81 0 (aFl μ).2.2.1 (aFl μ).2.2.2 0 0
      rw [← hl] at b
      have a := (at_rel (f := tTarg (fRead (xTxt x)).2) (g := tWant (fRead (xTxt x)).2) (idx := i) l 0 0 0 17 (tCnt (fRead (xTxt x)).2) t1 hO (by rw [t2, Nat.zero_add]) (by omega) (by omega) (by decide) (fun k hk => ⟨fun q => by rw [Nat.zero_testBit] at q; exact absurd q (by decide), fun ⟨j, q, _⟩ => absurd q (by omega)⟩) (Nat.le_refl _)).1 ci
      exact (b.trans a).symm
    · rw [if_neg c, if_neg r2, if_neg c, if_neg c]
      exact ⟨rfl, hS, hC, r3, hL, hK, rm_S hM _ _ _⟩
  · rw [if_neg ci, if_neg ci, if_neg ci, if_neg ci]
    exact ⟨rfl, h0⟩
