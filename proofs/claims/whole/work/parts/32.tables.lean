/-! the start: the class's two rows, the class of int arrays -/
set_option maxRecDepth 100000 in
theorem kd_mem_iv : ∀ j, j < 8 → (flatC (Jvm.Cond.and given_1 narrow_1))[7 + j]? = some (Cond.eq (.elem (.static "KeyedDigest$Chain" "IV" "[I") (.int (Int32.ofNat j))) (.int (kd_iv j))) := by decide +kernel
set_option maxRecDepth 100000 in
theorem kd_mem_pl : ∀ j, j < 160 → (flatC (Jvm.Cond.and given_1 narrow_1))[18 + j]? = some (Cond.eq (.elem (.static "KeyedDigest$Chain" "PLACES" "[I") (.int (Int32.ofNat j))) (.int (kd_PL j))) := by decide +kernel
theorem kd_cA {args : Array Value} {s : State} (h : (Cond.arrayClass .int).before args s = true) : ∃ cA : ClassId, ArrOfT s cA .int ∧ va_RA s cA .int := by
  obtain ⟨cA, kA, comp, h1, h2, h3⟩ := Cond.arrayClass_spec h
  exact ⟨cA, fun n z => ⟨fun k h => (by cases h), kA, h2, comp, h3⟩, h1⟩
set_option maxRecDepth 100000 in
set_option maxHeartbeats 4000000 in
theorem kd_tables {args : Array Value} {s : State} (hts : ∀ w ∈ lw_tbl, w.before args s = true) (hgv : (Jvm.Cond.and given_1 narrow_1).before args s = true) : ∃ tb : Nat → Nat, kd_S tb (fun q => s.heap.size ≤ q) s s.heap := by
  have hs := flat_of_before _ hgv
  have hA : ∀ a : Nat, a < s.heap.size → ¬ (fun q : Nat => s.heap.size ≤ q) a := fun a h => Nat.not_le.mpr h
  obtain ⟨t0, e0, T0⟩ := va_Tof (A := fun q : Nat => s.heap.size ≤ q) (tm := .static "KeyedDigest$Chain" "IV" "[I") (ty := .int) (N := 8) (f := fun j => .int (kd_iv j)) (by decide) (hs _ (List.mem_of_getElem? (i := 5) rfl)) (va_eqt (hs (Cond.eq (.length (.static "KeyedDigest$Chain" "IV" "[I")) (.int 8)) (List.mem_of_getElem? (i := 6) rfl))) (fun j hj => va_eqt (hs _ (List.mem_of_getElem? (kd_mem_iv j hj)))) hA
  obtain ⟨t1, e1, T1⟩ := va_Tof (A := fun q : Nat => s.heap.size ≤ q) (tm := .static "KeyedDigest$Chain" "PLACES" "[I") (ty := .int) (N := 160) (f := fun j => .int (kd_PL j)) (by decide) (hs _ (List.mem_of_getElem? (i := 16) rfl)) (va_eqt (hs (Cond.eq (.length (.static "KeyedDigest$Chain" "PLACES" "[I")) (.int 160)) (List.mem_of_getElem? (i := 17) rfl))) (fun j hj => va_eqt (hs _ (List.mem_of_getElem? (kd_mem_pl j hj)))) hA
  have hini := hts (.initialized "KeyedDigest$Chain") (by decide +kernel)
  exact ⟨fun k => if k = 0 then t0 else t1, va_Zof (hts (.laysStatic "KeyedDigest$Chain" "IV" "[I") (by decide +kernel)) hini e0 hA, T0, va_Zof (hts (.laysStatic "KeyedDigest$Chain" "PLACES" "[I") (by decide +kernel)) hini e1 hA, T1⟩
theorem kd_room {L i : Nat} {x : Int32} (hL : L ≤ 3072) (ex : x = nI i) (hi : i ≤ L + 6) (c : ¬ (Int32.ofNat L - 6 < x)) : i + 6 ≤ L := by
  subst ex
  have h1 : (nI L - nI 6).toInt = (L : Int) - (6 : Nat) := pk_sub_toInt (by omega) (by decide)
  rw [Int32.lt_iff_toInt_lt, nI_toInt (by omega)] at c
  have h2 : ¬ ((nI L - nI 6).toInt < (i : Int)) := c
  rw [h1] at h2
  omega
