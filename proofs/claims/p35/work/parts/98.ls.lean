/-! what stays: the tables, the classes -/
theorem tab_of {args : Array Value} {s : State} {t : String} {v : Nat → Int32} {A : Nat → Prop} (hlay : (Cond.laysStatic RX6 t "[I").before args s = true) (hini : (Cond.initialized RX6).before args s = true) (harr : (Cond.arrayOf (.static RX6 t "[I") .int).before args s = true) (hlen : (Cond.eq (.length (.static RX6 t "[I")) (.int 15)).before args s = true)
    (hel : ∀ j : Nat, j < 15 → (Cond.eq (.elem (.static RX6 t "[I") (.int (Int32.ofNat j))) (.int (v j))).before args s = true) (hA : ∀ q : Nat, q < s.heap.size → ¬ A q) : ∃ q : Nat, va_Z RX6 t "[I" (.ref q) A s s.heap ∧ va_T .int q 15 (fun j => .int (v j)) A s s.heap := by
  obtain ⟨q, e1, e2⟩ := va_Tof (N := 15) (f := fun j => .int (v j)) (by decide) harr (Cond.eq_int hlen rfl) (fun j hj => Cond.eq_int (hel j hj) rfl) hA
  exact ⟨q, va_Zref hlay hini e1 hA, e2⟩
theorem arr_of {args : Array Value} {s : State} {t : FieldType} (h : (Cond.arrayClass t).before args s = true) (hr : ∀ cA, s.vm.findClass ("[" ++ t.toString) = some cA → va_RA s cA t) : ∃ cA : ClassId, ArrOfT s cA t ∧ va_RA s cA t := by
  obtain ⟨cA, kA, comp, h1, h2, h3⟩ := Cond.arrayClass_spec h
  exact ⟨cA, fun n z => ⟨fun k q => (by cases q), kA, h2, comp, h3⟩, hr cA h1⟩
theorem arr_of2 {s : State} (h : gAO s) : ∃ cA : ClassId, ArrOfT s cA (.array .int) ∧ va_RA s cA (.array .int) := by
  obtain ⟨comp, cA, k, hc, hi, hk, hkind, hn⟩ := arrayOverA_spec h
  exact ⟨cA, fun n z => ⟨fun k q => (by cases q), k, hk, comp, hkind⟩, hn⟩
set_option maxHeartbeats 4000000 in
set_option maxRecDepth 100000 in
theorem law_stays {args : Array Value} {s : State} {A : Nat → Prop} (hA : ∀ q : Nat, q < s.heap.size → ¬ A q) (hq : ∀ w ∈ lw_tbl, w.before args s = true) (hgv : (Jvm.Cond.and given_1 narrow_1).before args s = true) : ∃ Γ : gT, va_K (gD Γ) vwCl (gTy Γ) s ∧ gG Γ A s s.heap ∧ gAO s := by
  have hs := flat_of_before _ hgv
  have hO : gAO s := (hq (Cond.arrayOver (.array .int)) (by decide +kernel))
  obtain ⟨c0, i0, hk0⟩ := u_known (C := RX0) (T := TX0) (N := 2) (n := 2) hq inX0 (hq (.instantiable RX0 2) (by decide +kernel))
  obtain ⟨c1, i1, hk1⟩ := u_known (C := RX1) (T := TX1) (N := 9) (n := 9) hq inX1 (hq (.instantiable RX1 9) (by decide +kernel))
  obtain ⟨c2, i2, hk2⟩ := u_known (C := RX2) (T := TX2) (N := 5) (n := 5) hq inX2 (hq (.instantiable RX2 5) (by decide +kernel))
  obtain ⟨c3, i3, hk3⟩ := u_known (C := RX3) (T := TX3) (N := 1) (n := 1) hq inX3 (hq (.instantiable RX3 1) (by decide +kernel))
  obtain ⟨c4, i4, hk4⟩ := u_known (C := RX4) (T := TX4) (N := 5) (n := 5) hq inX4 (hq (.instantiable RX4 5) (by decide +kernel))
  obtain ⟨c5, i5, hk5⟩ := u_known (C := RX5) (T := TX5) (N := 5) (n := 5) hq inX5 (hq (.instantiable RX5 5) (by decide +kernel))
  obtain ⟨c6, i6, hk6⟩ := u_known (C := RX6) (T := TX6) (N := 11) (n := 11) hq inX6 (hq (.instantiable RX6 11) (by decide +kernel))
  obtain ⟨aI, aI1, aI2⟩ := arr_of (hq (.arrayClass .int) (by decide +kernel)) (fun _ h => h)
  obtain ⟨aC, aC1, aC2⟩ := arr_of (hq (.arrayClass .char) (by decide +kernel)) (fun _ h => h)
  obtain ⟨aR, aR1, aR2⟩ := arr_of2 hO
  obtain ⟨tL, zL, yL⟩ := tab_of (v := pLeast) (hq (.laysStatic RX6 "LEAST" "[I") (by decide +kernel)) (hq (.initialized RX6) (by decide +kernel)) (hs (.arrayOf (.static RX6 "LEAST" "[I") .int) (by decide +kernel)) (hs (.eq (.length (.static RX6 "LEAST" "[I")) (.int 15)) (by decide +kernel)) (fun j hj => hs _ ((by decide +kernel : ∀ j : Nat, j < 15 → Cond.eq (.elem (.static RX6 "LEAST" "[I") (.int (Int32.ofNat j))) (.int (pLeast j)) ∈ flatC (Jvm.Cond.and given_1 narrow_1)) j hj)) hA
  obtain ⟨tG, zG, yG⟩ := tab_of (v := pGreatest) (hq (.laysStatic RX6 "GREATEST" "[I") (by decide +kernel)) (hq (.initialized RX6) (by decide +kernel)) (hs (.arrayOf (.static RX6 "GREATEST" "[I") .int) (by decide +kernel)) (hs (.eq (.length (.static RX6 "GREATEST" "[I")) (.int 15)) (by decide +kernel)) (fun j hj => hs _ ((by decide +kernel : ∀ j : Nat, j < 15 → Cond.eq (.elem (.static RX6 "GREATEST" "[I") (.int (Int32.ofNat j))) (.int (pGreatest j)) ∈ flatC (Jvm.Cond.and given_1 narrow_1)) j hj)) hA
  obtain ⟨tI, zI, yI⟩ := tab_of (v := pInitial) (hq (.laysStatic RX6 "INITIAL" "[I") (by decide +kernel)) (hq (.initialized RX6) (by decide +kernel)) (hs (.arrayOf (.static RX6 "INITIAL" "[I") .int) (by decide +kernel)) (hs (.eq (.length (.static RX6 "INITIAL" "[I")) (.int 15)) (by decide +kernel)) (fun j hj => hs _ ((by decide +kernel : ∀ j : Nat, j < 15 → Cond.eq (.elem (.static RX6 "INITIAL" "[I") (.int (Int32.ofNat j))) (.int (pInitial j)) ∈ flatC (Jvm.Cond.and given_1 narrow_1)) j hj)) hA
  have hNw : gNw s := ⟨va_Nw.of rfl (hq (.fieldLinkNest RX3 15 RX6 "INITIAL" "[I" RX6) (by decide +kernel)), va_Nw.of rfl (hq (.fieldLinkNest RX0 23 RX3 "values" "[I" RX6) (by decide +kernel)), va_Nw.of rfl (hq (.methodLinkNest RX3 24 yX6_isParameter RX6) (by decide +kernel)), trivial, trivial, va_Nw.of rfl (hq (.methodLinkNest RX1 68 yX6_isSignal RX6) (by decide +kernel)), va_Nw.of rfl (hq (.methodLinkNest RX1 97 yX6_stepped RX6) (by decide +kernel)), va_Nw.of rfl (hq (.methodLinkNest RX1 140 yX6_thousandth RX6) (by decide +kernel)), va_Nw.of rfl (hq (.methodLinkNest RX1 148 yX6_limited RX6) (by decide +kernel))⟩
  refine ⟨((fun k => ([c0, c1, c2, c3, c4, c5, c6] : List ClassId).getD k c0, fun k => ([i0, i1, i2, i3, i4, i5, i6] : List (Nat → Nat)).getD k i0), fun k => ([aI, aI, aC, aR] : List ClassId).getD k aI, fun k => ([tL, tG, tI] : List Nat).getD k tL, fun _ => 0, fun _ => 0), ⟨fun k q hkq => ?_, fun k q hkq => ?_⟩, ⟨hNw, trivial, ⟨zL, yL⟩, ⟨zG, yG⟩, ⟨zI, yI⟩, trivial⟩, hO⟩
  · have hlt : k < 7 := (List.getElem?_eq_some_iff.mp hkq).1
    rcases (show k = 0 ∨ k = 1 ∨ k = 2 ∨ k = 3 ∨ k = 4 ∨ k = 5 ∨ k = 6 by omega) with rfl | rfl | rfl | rfl | rfl | rfl | rfl <;> cases hkq
    · exact hk0
    · exact hk1
    · exact hk2
    · exact hk3
    · exact hk4
    · exact hk5
    · exact hk6
  · have hlt : k < 4 := (List.getElem?_eq_some_iff.mp hkq).1
    rcases (show k = 0 ∨ k = 1 ∨ k = 2 ∨ k = 3 by omega) with rfl | rfl | rfl | rfl <;> cases hkq
    · exact ⟨aI1, aI2⟩
    · exact ⟨aI1, aI2⟩
    · exact ⟨aC1, aC2⟩
    · exact ⟨aR1, aR2⟩
