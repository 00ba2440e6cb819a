set_option maxHeartbeats 4000000 in
set_option maxRecDepth 100000 in
theorem cX0_mixLast_ok (l : Launch) (dC : Nat → ClassId) (dI : Nat → Nat → Nat) (cA : ClassId) (tb : Nat → Nat) (sz : Nat) (h0 : Nat) (qh : Nat) (qm : Nat) (qv : Nat) (hh : Nat → Int32) (mm : Nat → Int32) (vv : Nat → Int32) (bb : Int32) (ab : Int64) : Met l yX0_mixLast wsX0_mixLast ({ frames := 4, cells := 0, slots := 0, locals := 90 }) (va_Pc [.ref h0] (kd_I (dC, dI) cA tb sz [(h0, .inr (0, [.ref qh, .ref qm, .ref qv, .int bb, .long ab])), (qh, .inl (cA, 8, .inl hh)), (qm, .inl (cA, 16, .inl mm)), (qv, .inl (cA, 16, .inl vv))])) (va_Qv (fun (u : (Nat → Int32)) => True) (fun u t => kd_O (dC, dI) cA (va_A [(h0, .inr (0, [.ref qh, .ref qm, .ref qv, .int bb, .long ab])), (qh, .inl (cA, 8, .inl hh)), (qm, .inl (cA, 16, .inl mm)), (qv, .inl (cA, 16, .inl vv))] sz) [(h0, .inr (0, [.ref qh, .ref qm, .ref qv, .int bb, .long ab])), (qh, .inl (cA, 8, .inl (kd_mix hh mm ab (-1)))), (qm, .inl (cA, 16, .inl mm)), (qv, .inl (cA, 16, .inl u))] t) (va_A [(h0, .inr (0, [.ref qh, .ref qm, .ref qv, .int bb, .long ab])), (qh, .inl (cA, 8, .inl hh)), (qm, .inl (cA, 16, .inl mm)), (qv, .inl (cA, 16, .inl vv))] sz)) 0 0 (va_A [(h0, .inr (0, [.ref qh, .ref qm, .ref qv, .int bb, .long ab])), (qh, .inl (cA, 8, .inl hh)), (qm, .inl (cA, 16, .inl mm)), (qv, .inl (cA, 16, .inl vv))] sz) := by
  refine Met.ofW (cc := cX0_mixLast) (maxL := 1) (ret := none) (by decide) rfl ?_
  intro p e s m args below meth c s₁ B hml hv
  obtain ⟨rfl, hsz, hP, hK, hD0, hT⟩ := hv
  have hx := B.exec
  have hb := B.bytes
  have hr := B.returns
  have hts := atoms_spec (ws := wsX0_mixLast) B.pre
  have hown : s.vm.findClass RX0 = some m.cls := findClass_of_methodNamed B.named
  have hlocks := B.notSynchronized
  subst hsz
  have hD := hD0.self (sz := s.heap.size)
  generalize hAe : va_A [(h0, .inr (0, [.ref qh, .ref qm, .ref qv, .int bb, .long ab])), (qh, .inl (cA, 8, .inl hh)), (qm, .inl (cA, 16, .inl mm)), (qv, .inl (cA, 16, .inl vv))] s.heap.size = A at hD hT ⊢
  have hA : ∀ q : Nat, s.heap.size ≤ q → A q := fun q h => by rw [← hAe]; exact Or.inr h
  have hS : va_S A s.heap s.heap [] := va_S.rf
  have hP : va_P (dC, dI) vwCl [(h0, .inr (0, [.ref qh, .ref qm, .ref qv, .int bb, .long ab])), (qh, .inl (cA, 8, .inl hh)), (qm, .inl (cA, 16, .inl mm)), (qv, .inl (cA, 16, .inl vv))] s.heap := hP
  have hl := lv_entry ([.ref h0]) (n := 1) (Nat.le_of_ble_eq_true rfl)
  rw [lg_entry_eq]
  generalize (lg_sl ([.ref h0]) ++ List.replicate (1 - (lg_sl ([.ref h0])).length) Slot.unset).toArray = ls at hl ⊢
  have hl : lv_has ls 1 [(0, .ref h0)] := hl
  refine lv_aload_n hx hb dX0_mixLast_0 rfl (lv_at hl 0 rfl) ?_
  refine lv_iconst (v := (-1)) hx hb dX0_mixLast_1 (by decide) ?_
  have hPc := hP.sub (ws' := [(h0, .inr (0, [.ref qh, .ref qm, .ref qv, .int bb, .long ab])), (qh, .inl (cA, 8, .inl hh)), (qm, .inl (cA, 16, .inl mm)), (qv, .inl (cA, 16, .inl vv))]) [0, 1, 2, 3] rfl
  have hDc := hD.sub (ws' := [(h0, .inr (0, [.ref qh, .ref qm, .ref qv, .int bb, .long ab])), (qh, .inl (cA, 8, .inl hh)), (qm, .inl (cA, 16, .inl mm)), (qv, .inl (cA, 16, .inl vv))]) [0, 1, 2, 3] (by decide) rfl
  have hFc := va_free (wc := [(h0, .inr (0, [.ref qh, .ref qm, .ref qv, .int bb, .long ab])), (qh, .inl (cA, 8, .inl hh)), (qm, .inl (cA, 16, .inl mm)), (qv, .inl (cA, 16, .inl vv))]) hD hS hA [0, 1, 2, 3] rfl
  refine va_callv (va_runV (As := [.int (-1)]) (rest := []) ⟨hx, hb, hml, hown, hts⟩ (cX0_mix_ok l dC dI cA tb s.heap.size h0 qh qm qv hh mm vv bb ab (-1) ) (cwV 1 hts gX0_mixLast_X0_mix rfl rfl rfl (by decide +kernel) ⟨Nat.le_of_ble_eq_true rfl, Nat.le_of_ble_eq_true rfl⟩) ⟨fun a U g mk q => kd_calling rfl rfl q, va_recv hK hPc (ci := 0) (q0 := 0) rfl rfl, fun U hU hW => ⟨rfl, kd_pre hPc hK hDc hT hS hFc U hU hW⟩⟩ rfl rfl hl.1 rfl (lv_room (Nat.le_of_ble_eq_true rfl)) dX0_mixLast_2 ⟨Nat.le_of_ble_eq_true rfl, Nat.le_of_ble_eq_true rfl⟩) hS (fun q _ h => hFc q h) hFc (fun u t H1 locs ht hvm hw hB hz1 hk1 hS => ?_)
  obtain ⟨vo2, rfl⟩ : ∃ z, z = u := ⟨_, rfl⟩
  have hw2 : True := hw
  have hP1 : va_P (dC, dI) vwCl [(h0, .inr (0, [.ref qh, .ref qm, .ref qv, .int bb, .long ab])), (qh, .inl (cA, 8, .inl (kd_mix hh mm ab (-1)))), (qm, .inl (cA, 16, .inl mm)), (qv, .inl (cA, 16, .inl vo2))] H1 := by rw [← ht]; exact hB.1
  have hD1 : va_D (va_A [(h0, .inr (0, [.ref qh, .ref qm, .ref qv, .int bb, .long ab])), (qh, .inl (cA, 8, .inl hh)), (qm, .inl (cA, 16, .inl mm)), (qv, .inl (cA, 16, .inl vv))] s.heap.size) [(h0, .inr (0, [.ref qh, .ref qm, .ref qv, .int bb, .long ab])), (qh, .inl (cA, 8, .inl (kd_mix hh mm ab (-1)))), (qm, .inl (cA, 16, .inl mm)), (qv, .inl (cA, 16, .inl vo2))] := hB.2.2
  obtain ⟨hP, hD⟩ := va_join (wr := []) (w1 := [(h0, .inr (0, [.ref qh, .ref qm, .ref qv, .int bb, .long ab])), (qh, .inl (cA, 8, .inl (kd_mix hh mm ab (-1)))), (qm, .inl (cA, 16, .inl mm)), (qv, .inl (cA, 16, .inl vo2))]) hP hD [0, 1, 2, 3] [] rfl rfl (by decide) (by decide) hk1 hFc hP1 hD1
  clear hw hB hk1 hPc hDc hFc hP1 hD1 hvm hz1
  generalize H1 = H at hP hS ⊢
  have hP : va_P (dC, dI) vwCl [(h0, .inr (0, [.ref qh, .ref qm, .ref qv, .int bb, .long ab])), (qh, .inl (cA, 8, .inl (kd_mix hh mm ab (-1)))), (qm, .inl (cA, 16, .inl mm)), (qv, .inl (cA, 16, .inl vo2))] H := hP
  have hD : va_D A [(h0, .inr (0, [.ref qh, .ref qm, .ref qv, .int bb, .long ab])), (qh, .inl (cA, 8, .inl (kd_mix hh mm ab (-1)))), (qm, .inl (cA, 16, .inl mm)), (qv, .inl (cA, 16, .inl vo2))] := hD
  have hP9 := hP.sub (ws' := [(h0, .inr (0, [.ref qh, .ref qm, .ref qv, .int bb, .long ab])), (qh, .inl (cA, 8, .inl (kd_mix hh mm ab (-1)))), (qm, .inl (cA, 16, .inl mm)), (qv, .inl (cA, 16, .inl vo2))]) [0, 1, 2, 3] rfl
  have hD9 := hD.sub (ws' := [(h0, .inr (0, [.ref qh, .ref qm, .ref qv, .int bb, .long ab])), (qh, .inl (cA, 8, .inl (kd_mix hh mm ab (-1)))), (qm, .inl (cA, 16, .inl mm)), (qv, .inl (cA, 16, .inl vo2))]) [0, 1, 2, 3] (by decide) rfl
  exact W.vret hx hb hr (fun t ht hW => ⟨⟨(vo2), rfl, trivial, by rw [ht]; exact hP9, va_K.moved hW.alike hK, hD9⟩, hS.F ht⟩) hS.2.2 dX0_mixLast_5

set_option maxHeartbeats 4000000 in
set_option maxRecDepth 100000 in
theorem cX0_stateWord_ok (l : Launch) (dC : Nat → ClassId) (dI : Nat → Nat → Nat) (cA : ClassId) (tb : Nat → Nat) (sz : Nat) (h0 : Nat) (qh : Nat) (qm : Nat) (qv : Nat) (hh : Nat → Int32) (bb : Int32) (ab : Int64) (j : Nat) (hj : j < 8) : Met l yX0_stateWord wsX0_stateWord ({ frames := 0, cells := 0, slots := 0, locals := 0 }) (va_Pc [.ref h0, .int (nI j)] (kd_I (dC, dI) cA tb sz [(h0, .inr (0, [.ref qh, .ref qm, .ref qv, .int bb, .long ab])), (qh, .inl (cA, 8, .inl hh))])) (va_Qi (fun (r : Int32) (u : Unit) => r = hh j) (fun u t => kd_O (dC, dI) cA (va_A [(h0, .inr (0, [.ref qh, .ref qm, .ref qv, .int bb, .long ab])), (qh, .inl (cA, 8, .inl hh))] sz) [(h0, .inr (0, [.ref qh, .ref qm, .ref qv, .int bb, .long ab])), (qh, .inl (cA, 8, .inl hh))] t) (va_A [(h0, .inr (0, [.ref qh, .ref qm, .ref qv, .int bb, .long ab])), (qh, .inl (cA, 8, .inl hh))] sz)) 0 0 (va_A [(h0, .inr (0, [.ref qh, .ref qm, .ref qv, .int bb, .long ab])), (qh, .inl (cA, 8, .inl hh))] sz) := by
  refine Met.ofW (cc := cX0_stateWord) (maxL := 2) (ret := (some .int)) (by decide) rfl ?_
  intro p e s m args below meth c s₁ B hml hv
  obtain ⟨rfl, hsz, hP, hK, hD0, hT⟩ := hv
  have hx := B.exec
  have hb := B.bytes
  have hr := B.returns
  have hts := atoms_spec (ws := wsX0_stateWord) B.pre
  have hown : s.vm.findClass RX0 = some m.cls := findClass_of_methodNamed B.named
  have hlocks := B.notSynchronized
  have ki0 : ∀ w ∈ u_ws RX0 TX0 5, w ∈ wsX0_stateWord := by decide +kernel
  have k1 := hts (.fieldLink RX0 9 "KeyedDigest$Chain" "h" "[I") (by decide +kernel)
  subst hsz
  have hD := hD0.self (sz := s.heap.size)
  generalize hAe : va_A [(h0, .inr (0, [.ref qh, .ref qm, .ref qv, .int bb, .long ab])), (qh, .inl (cA, 8, .inl hh))] s.heap.size = A at hD hT ⊢
  have hA : ∀ q : Nat, s.heap.size ≤ q → A q := fun q h => by rw [← hAe]; exact Or.inr h
  have hS : va_S A s.heap s.heap [] := va_S.rf
  have hP : va_P (dC, dI) vwCl [(h0, .inr (0, [.ref qh, .ref qm, .ref qv, .int bb, .long ab])), (qh, .inl (cA, 8, .inl hh))] s.heap := hP
  have hl := lv_entry ([.ref h0, .int (nI j)]) (n := 2) (Nat.le_of_ble_eq_true rfl)
  rw [lg_entry_eq]
  generalize (lg_sl ([.ref h0, .int (nI j)]) ++ List.replicate (2 - (lg_sl ([.ref h0, .int (nI j)])).length) Slot.unset).toArray = ls at hl ⊢
  have hl : lv_has ls 2 [(0, .ref h0), (1, .int (nI j))] := hl
  refine lv_aload_n hx hb dX0_stateWord_0 rfl (lv_at hl 0 rfl) ?_
  refine va_get (D := (dC, dI)) (ci := 0) (v := .ref qh) (C := RX0) (T := TX0) (N := 5) hx hb hts ki0 hown hK hP 0 rfl rfl 0 (by decide) k1 (fun _ h9 => h9) rfl dX0_stateWord_1 ?_
  refine lv_iload_n hx hb dX0_stateWord_4 rfl (lv_at hl 1 rfl) ?_
  refine kd_ild j hx hb hK hP 1 0 rfl rfl rfl (by omega) (by decide) dX0_stateWord_5 ?_
  have hP9 := hP.sub (ws' := [(h0, .inr (0, [.ref qh, .ref qm, .ref qv, .int bb, .long ab])), (qh, .inl (cA, 8, .inl hh))]) [0, 1] rfl
  have hD9 := hD.sub (ws' := [(h0, .inr (0, [.ref qh, .ref qm, .ref qv, .int bb, .long ab])), (qh, .inl (cA, 8, .inl hh))]) [0, 1] (by decide) rfl
  exact W.iret (v := hh j) hx hb hr (fun t ht hW => ⟨⟨hh j, (), rfl, rfl, by rw [ht]; exact hP9, va_K.moved hW.alike hK, hD9⟩, hS.F ht⟩) hS.2.2 dX0_stateWord_6

set_option maxHeartbeats 4000000 in
set_option maxRecDepth 100000 in
theorem cX0_stateByte_ok (l : Launch) (dC : Nat → ClassId) (dI : Nat → Nat → Nat) (cA : ClassId) (tb : Nat → Nat) (sz : Nat) (h0 : Nat) (qh : Nat) (qm : Nat) (qv : Nat) (hh : Nat → Int32) (bb : Int32) (ab : Int64) (j : Nat) (hj : j < 32) : Met l yX0_stateByte wsX0_stateByte ({ frames := 0, cells := 0, slots := 0, locals := 0 }) (va_Pc [.ref h0, .int (nI j)] (kd_I (dC, dI) cA tb sz [(h0, .inr (0, [.ref qh, .ref qm, .ref qv, .int bb, .long ab])), (qh, .inl (cA, 8, .inl hh))])) (va_Qi (fun (r : Int32) (u : Unit) => r = kd_ushr (hh (j / 4)) (8 * (nI j &&& 3)) &&& 255) (fun u t => kd_O (dC, dI) cA (va_A [(h0, .inr (0, [.ref qh, .ref qm, .ref qv, .int bb, .long ab])), (qh, .inl (cA, 8, .inl hh))] sz) [(h0, .inr (0, [.ref qh, .ref qm, .ref qv, .int bb, .long ab])), (qh, .inl (cA, 8, .inl hh))] t) (va_A [(h0, .inr (0, [.ref qh, .ref qm, .ref qv, .int bb, .long ab])), (qh, .inl (cA, 8, .inl hh))] sz)) 0 0 (va_A [(h0, .inr (0, [.ref qh, .ref qm, .ref qv, .int bb, .long ab])), (qh, .inl (cA, 8, .inl hh))] sz) := by
  refine Met.ofW (cc := cX0_stateByte) (maxL := 2) (ret := (some .int)) (by decide) rfl ?_
  intro p e s m args below meth c s₁ B hml hv
  obtain ⟨rfl, hsz, hP, hK, hD0, hT⟩ := hv
  have hx := B.exec
  have hb := B.bytes
  have hr := B.returns
  have hts := atoms_spec (ws := wsX0_stateByte) B.pre
  have hown : s.vm.findClass RX0 = some m.cls := findClass_of_methodNamed B.named
  have hlocks := B.notSynchronized
  have ki0 : ∀ w ∈ u_ws RX0 TX0 5, w ∈ wsX0_stateByte := by decide +kernel
  have k1 := hts (.fieldLink RX0 9 "KeyedDigest$Chain" "h" "[I") (by decide +kernel)
  subst hsz
  have hD := hD0.self (sz := s.heap.size)
  generalize hAe : va_A [(h0, .inr (0, [.ref qh, .ref qm, .ref qv, .int bb, .long ab])), (qh, .inl (cA, 8, .inl hh))] s.heap.size = A at hD hT ⊢
  have hA : ∀ q : Nat, s.heap.size ≤ q → A q := fun q h => by rw [← hAe]; exact Or.inr h
  have hS : va_S A s.heap s.heap [] := va_S.rf
  have hP : va_P (dC, dI) vwCl [(h0, .inr (0, [.ref qh, .ref qm, .ref qv, .int bb, .long ab])), (qh, .inl (cA, 8, .inl hh))] s.heap := hP
  have hl := lv_entry ([.ref h0, .int (nI j)]) (n := 2) (Nat.le_of_ble_eq_true rfl)
  rw [lg_entry_eq]
  generalize (lg_sl ([.ref h0, .int (nI j)]) ++ List.replicate (2 - (lg_sl ([.ref h0, .int (nI j)])).length) Slot.unset).toArray = ls at hl ⊢
  have hl : lv_has ls 2 [(0, .ref h0), (1, .int (nI j))] := hl
  refine lv_aload_n hx hb dX0_stateByte_0 rfl (lv_at hl 0 rfl) ?_
  refine va_get (D := (dC, dI)) (ci := 0) (v := .ref qh) (C := RX0) (T := TX0) (N := 5) hx hb hts ki0 hown hK hP 0 rfl rfl 0 (by decide) k1 (fun _ h9 => h9) rfl dX0_stateByte_1 ?_
  refine lv_iload_n hx hb dX0_stateByte_4 rfl (lv_at hl 1 rfl) ?_
  refine lv_iconst (v := 2) hx hb dX0_stateByte_5 (by decide) ?_
  refine lv_ishr hx hb dX0_stateByte_6 ?_
  refine kd_ild (j / 4) hx hb hK hP 1 0 rfl rfl (kd_shr2 (by omega)) (by omega) (by decide) dX0_stateByte_7 ?_
  refine lv_bipush (v := 8) hx hb dX0_stateByte_8 (by decide) ?_
  refine lv_iload_n hx hb dX0_stateByte_10 rfl (lv_at hl 1 rfl) ?_
  refine lv_iconst (v := 3) hx hb dX0_stateByte_11 (by decide) ?_
  refine lv_iand hx hb dX0_stateByte_12 ?_
  refine lv_imul hx hb dX0_stateByte_13 ?_
  refine lv_iushr (v := kd_ushr (hh (j / 4)) (8 * ((nI j) &&& 3))) hx hb dX0_stateByte_14 rfl ?_
  refine lv_sipush (v := 255) hx hb dX0_stateByte_15 (by decide) ?_
  refine lv_iand hx hb dX0_stateByte_18 ?_
  have hP9 := hP.sub (ws' := [(h0, .inr (0, [.ref qh, .ref qm, .ref qv, .int bb, .long ab])), (qh, .inl (cA, 8, .inl hh))]) [0, 1] rfl
  have hD9 := hD.sub (ws' := [(h0, .inr (0, [.ref qh, .ref qm, .ref qv, .int bb, .long ab])), (qh, .inl (cA, 8, .inl hh))]) [0, 1] (by decide) rfl
  exact W.iret (v := (kd_ushr (hh (j / 4)) (8 * ((nI j) &&& 3))) &&& 255) hx hb hr (fun t ht hW => ⟨⟨(kd_ushr (hh (j / 4)) (8 * ((nI j) &&& 3))) &&& 255, (), rfl, rfl, by rw [ht]; exact hP9, va_K.moved hW.alike hK, hD9⟩, hS.F ht⟩) hS.2.2 dX0_stateByte_19

set_option maxHeartbeats 4000000 in
set_option maxRecDepth 100000 in
theorem cX0_init_ok (l : Launch) (dC : Nat → ClassId) (dI : Nat → Nat → Nat) (cA : ClassId) (tb : Nat → Nat) (sz : Nat) (h0 : Nat) : Met l yX0_init wsX0_init ({ frames := 1, cells := 3, slots := 40, locals := 24 }) (va_Pc [.ref h0] (kd_I (dC, dI) cA tb sz [(h0, .inr (0, [.null, .null, .null, .int 0, .long 0]))])) (va_Qv (fun (u : Nat × Nat × Nat) => True) (fun u t => kd_O (dC, dI) cA (va_A [(h0, .inr (0, [.null, .null, .null, .int 0, .long 0]))] sz) [(h0, .inr (0, [.ref u.1, .ref u.2.1, .ref u.2.2, .int 0, .long 0])), (u.1, .inl (cA, 8, .inl kd_0)), (u.2.1, .inl (cA, 16, .inl kd_0)), (u.2.2, .inl (cA, 16, .inl kd_0))] t) (va_A [(h0, .inr (0, [.null, .null, .null, .int 0, .long 0]))] sz)) 3 40 (va_A [(h0, .inr (0, [.null, .null, .null, .int 0, .long 0]))] sz) := by
  refine Met.ofW (cc := cX0_init) (maxL := 1) (ret := none) (by decide) rfl ?_
  intro p e s m args below meth c s₁ B hml hv
  obtain ⟨rfl, hsz, hP, hK, hD0, hT⟩ := hv
  have hx := B.exec
  have hb := B.bytes
  have hr := B.returns
  have hts := atoms_spec (ws := wsX0_init) B.pre
  have hown : s.vm.findClass RX0 = some m.cls := findClass_of_methodNamed B.named
  have hlocks := B.notSynchronized
  have k0 := hts (.arrayClass .int) (by decide +kernel)
  have ki0 : ∀ w ∈ u_ws RX0 TX0 5, w ∈ wsX0_init := by decide +kernel
  have k2 := hts (.fieldLink RX0 9 "KeyedDigest$Chain" "h" "[I") (by decide +kernel)
  have k3 := hts (.fieldLink RX0 13 "KeyedDigest$Chain" "m" "[I") (by decide +kernel)
  have k4 := hts (.fieldLink RX0 16 "KeyedDigest$Chain" "v" "[I") (by decide +kernel)
  have k5 := hts (.fieldLink RX0 19 "KeyedDigest$Chain" "blockBytes" "I") (by decide +kernel)
  have k6 := hts (.fieldLink RX0 23 "KeyedDigest$Chain" "allBytes" "J") (by decide +kernel)
  have hin : meth.name = "<init>" := (name_of_methodNamed B.named B.method).1
  subst hsz
  have hD := hD0.self (sz := s.heap.size)
  generalize hAe : va_A [(h0, .inr (0, [.null, .null, .null, .int 0, .long 0]))] s.heap.size = A at hD hT ⊢
  have hA : ∀ q : Nat, s.heap.size ≤ q → A q := fun q h => by rw [← hAe]; exact Or.inr h
  have hS : va_S A s.heap s.heap [] := va_S.rf
  have hP : va_P (dC, dI) vwCl [(h0, .inr (0, [.null, .null, .null, .int 0, .long 0]))] s.heap := hP
  have hl := lv_entry ([.ref h0]) (n := 1) (Nat.le_of_ble_eq_true rfl)
  rw [lg_entry_eq]
  generalize (lg_sl ([.ref h0]) ++ List.replicate (1 - (lg_sl ([.ref h0])).length) Slot.unset).toArray = ls at hl ⊢
  have hl : lv_has ls 1 [(0, .ref h0)] := hl
  refine lv_aload_n hx hb dX0_init_0 rfl (lv_at hl 0 rfl) ?_
  refine W.objInit hx hb hown (hts (.methodLink RX0 1 objectInit) (by decide +kernel)) (hts (.instanceMethod objectInit) (by decide +kernel)) (hts (.code objectInit ⟨#[0xb1]⟩ 1 none) (by decide +kernel)) rfl (by rw [hml]; exact hl.1) rfl dX0_init_1 (Nat.le_of_ble_eq_true rfl) (Nat.le_of_ble_eq_true rfl) ?_
  refine W.eq (g2 := F0 m 4 ls []) rfl ?_
  refine lv_aload_n hx hb dX0_init_4 rfl (lv_at hl 0 rfl) ?_
  refine lv_bipush (v := 8) hx hb dX0_init_5 (by decide) ?_
  refine kd_newa hx hb k0 hK hP hD hS hA (n := 8) (N := 8) (by decide) (by decide) (by decide) (Nat.le_of_ble_eq_true rfl) (Nat.le_of_ble_eq_true rfl) dX0_init_7 (fun q7 H hP hD hS => ?_)
  have hP : va_P (dC, dI) vwCl [(h0, .inr (0, [.null, .null, .null, .int 0, .long 0])), (q7, .inl (cA, 8, .inl (fun _ => 0)))] H := hP
  have hD : va_D A [(h0, .inr (0, [.null, .null, .null, .int 0, .long 0])), (q7, .inl (cA, 8, .inl (fun _ => 0)))] := hD
  refine W.widen (k := 1) (n := 8) (by omega) (by omega) ?_
  refine va_putF (D := (dC, dI)) (ci := 0) (v := .ref q7) (ty := .array .int) (C := RX0) (T := TX0) (N := 5) hx hb hts ki0 tyX0 tyX0_ok nmX0 hown hK hP hD hS 0 rfl rfl 0 (by decide) k2 (fun _ h9 => h9) rfl hin rfl (by decide +kernel) rfl rfl (Nat.le_of_ble_eq_true rfl) dX0_init_9 (fun H locs hP hD hS => ?_)
  have hP : va_P (dC, dI) vwCl [(h0, .inr (0, [.ref q7, .null, .null, .int 0, .long 0])), (q7, .inl (cA, 8, .inl (fun _ => 0)))] H := hP
  have hD : va_D A [(h0, .inr (0, [.ref q7, .null, .null, .int 0, .long 0])), (q7, .inl (cA, 8, .inl (fun _ => 0)))] := hD
  refine lv_aload_n hx hb dX0_init_12 rfl (lv_at hl 0 rfl) ?_
  refine lv_bipush (v := 16) hx hb dX0_init_13 (by decide) ?_
  refine kd_newa hx hb k0 hK hP hD hS hA (n := 16) (N := 16) (by decide) (by decide) (by decide) (Nat.le_of_ble_eq_true rfl) (Nat.le_of_ble_eq_true rfl) dX0_init_15 (fun q15 H hP hD hS => ?_)
  have hP : va_P (dC, dI) vwCl [(h0, .inr (0, [.ref q7, .null, .null, .int 0, .long 0])), (q7, .inl (cA, 8, .inl (fun _ => 0))), (q15, .inl (cA, 16, .inl (fun _ => 0)))] H := hP
  have hD : va_D A [(h0, .inr (0, [.ref q7, .null, .null, .int 0, .long 0])), (q7, .inl (cA, 8, .inl (fun _ => 0))), (q15, .inl (cA, 16, .inl (fun _ => 0)))] := hD
  refine W.widen (k := 2) (n := 24) (by omega) (by omega) ?_
  refine va_putF (D := (dC, dI)) (ci := 0) (v := .ref q15) (ty := .array .int) (C := RX0) (T := TX0) (N := 5) hx hb hts ki0 tyX0 tyX0_ok nmX0 hown hK hP hD hS 0 rfl rfl 1 (by decide) k3 (fun _ h9 => h9) rfl hin rfl (by decide +kernel) rfl rfl (Nat.le_of_ble_eq_true rfl) dX0_init_17 (fun H locs hP hD hS => ?_)
  have hP : va_P (dC, dI) vwCl [(h0, .inr (0, [.ref q7, .ref q15, .null, .int 0, .long 0])), (q7, .inl (cA, 8, .inl (fun _ => 0))), (q15, .inl (cA, 16, .inl (fun _ => 0)))] H := hP
  have hD : va_D A [(h0, .inr (0, [.ref q7, .ref q15, .null, .int 0, .long 0])), (q7, .inl (cA, 8, .inl (fun _ => 0))), (q15, .inl (cA, 16, .inl (fun _ => 0)))] := hD
  refine lv_aload_n hx hb dX0_init_20 rfl (lv_at hl 0 rfl) ?_
  refine lv_bipush (v := 16) hx hb dX0_init_21 (by decide) ?_
  refine kd_newa hx hb k0 hK hP hD hS hA (n := 16) (N := 16) (by decide) (by decide) (by decide) (Nat.le_of_ble_eq_true rfl) (Nat.le_of_ble_eq_true rfl) dX0_init_23 (fun q23 H hP hD hS => ?_)
  have hP : va_P (dC, dI) vwCl [(h0, .inr (0, [.ref q7, .ref q15, .null, .int 0, .long 0])), (q7, .inl (cA, 8, .inl (fun _ => 0))), (q15, .inl (cA, 16, .inl (fun _ => 0))), (q23, .inl (cA, 16, .inl (fun _ => 0)))] H := hP
  have hD : va_D A [(h0, .inr (0, [.ref q7, .ref q15, .null, .int 0, .long 0])), (q7, .inl (cA, 8, .inl (fun _ => 0))), (q15, .inl (cA, 16, .inl (fun _ => 0))), (q23, .inl (cA, 16, .inl (fun _ => 0)))] := hD
  refine W.widen (k := 3) (n := 40) (by omega) (by omega) ?_
  refine va_putF (D := (dC, dI)) (ci := 0) (v := .ref q23) (ty := .array .int) (C := RX0) (T := TX0) (N := 5) hx hb hts ki0 tyX0 tyX0_ok nmX0 hown hK hP hD hS 0 rfl rfl 2 (by decide) k4 (fun _ h9 => h9) rfl hin rfl (by decide +kernel) rfl rfl (Nat.le_of_ble_eq_true rfl) dX0_init_25 (fun H locs hP hD hS => ?_)
  have hP : va_P (dC, dI) vwCl [(h0, .inr (0, [.ref q7, .ref q15, .ref q23, .int 0, .long 0])), (q7, .inl (cA, 8, .inl (fun _ => 0))), (q15, .inl (cA, 16, .inl (fun _ => 0))), (q23, .inl (cA, 16, .inl (fun _ => 0)))] H := hP
  have hD : va_D A [(h0, .inr (0, [.ref q7, .ref q15, .ref q23, .int 0, .long 0])), (q7, .inl (cA, 8, .inl (fun _ => 0))), (q15, .inl (cA, 16, .inl (fun _ => 0))), (q23, .inl (cA, 16, .inl (fun _ => 0)))] := hD
  refine lv_aload_n hx hb dX0_init_28 rfl (lv_at hl 0 rfl) ?_
  refine lv_iconst (v := 0) hx hb dX0_init_29 (by decide) ?_
  refine va_put (D := (dC, dI)) (ci := 0) (v := .int 0) (ty := .int) (C := RX0) (T := TX0) (N := 5) hx hb hts ki0 tyX0 tyX0_ok nmX0 hown hK hP hD hS 0 rfl rfl 3 (by decide) k5 (fun _ h9 => h9) rfl (by decide +kernel) rfl rfl (Nat.le_of_ble_eq_true rfl) dX0_init_30 (fun H locs hP hD hS => ?_)
  have hP : va_P (dC, dI) vwCl [(h0, .inr (0, [.ref q7, .ref q15, .ref q23, .int 0, .long 0])), (q7, .inl (cA, 8, .inl (fun _ => 0))), (q15, .inl (cA, 16, .inl (fun _ => 0))), (q23, .inl (cA, 16, .inl (fun _ => 0)))] H := hP
  have hD : va_D A [(h0, .inr (0, [.ref q7, .ref q15, .ref q23, .int 0, .long 0])), (q7, .inl (cA, 8, .inl (fun _ => 0))), (q15, .inl (cA, 16, .inl (fun _ => 0))), (q23, .inl (cA, 16, .inl (fun _ => 0)))] := hD
  refine lv_aload_n hx hb dX0_init_33 rfl (lv_at hl 0 rfl) ?_
  refine lv_lconst (v := 0) hx hb dX0_init_34 (by decide) ?_
  refine va_put (D := (dC, dI)) (ci := 0) (v := .long 0) (ty := .long) (C := RX0) (T := TX0) (N := 5) hx hb hts ki0 tyX0 tyX0_ok nmX0 hown hK hP hD hS 0 rfl rfl 4 (by decide) k6 (fun _ h9 => h9) rfl (by decide +kernel) rfl rfl (Nat.le_of_ble_eq_true rfl) dX0_init_35 (fun H locs hP hD hS => ?_)
  have hP : va_P (dC, dI) vwCl [(h0, .inr (0, [.ref q7, .ref q15, .ref q23, .int 0, .long 0])), (q7, .inl (cA, 8, .inl (fun _ => 0))), (q15, .inl (cA, 16, .inl (fun _ => 0))), (q23, .inl (cA, 16, .inl (fun _ => 0)))] H := hP
  have hD : va_D A [(h0, .inr (0, [.ref q7, .ref q15, .ref q23, .int 0, .long 0])), (q7, .inl (cA, 8, .inl (fun _ => 0))), (q15, .inl (cA, 16, .inl (fun _ => 0))), (q23, .inl (cA, 16, .inl (fun _ => 0)))] := hD
  have hP9 := hP.sub (ws' := [(h0, .inr (0, [.ref q7, .ref q15, .ref q23, .int 0, .long 0])), (q7, .inl (cA, 8, .inl kd_0)), (q15, .inl (cA, 16, .inl kd_0)), (q23, .inl (cA, 16, .inl kd_0))]) [0, 1, 2, 3] rfl
  have hD9 := hD.sub (ws' := [(h0, .inr (0, [.ref q7, .ref q15, .ref q23, .int 0, .long 0])), (q7, .inl (cA, 8, .inl kd_0)), (q15, .inl (cA, 16, .inl kd_0)), (q23, .inl (cA, 16, .inl kd_0))]) [0, 1, 2, 3] (by decide) rfl
  refine W.widen (k := 3) (n := 40) (by omega) (by omega) ?_
  exact W.vret hx hb hr (fun t ht hW => ⟨⟨(q7, q15, q23), rfl, trivial, by rw [ht]; exact hP9, va_K.moved hW.alike hK, hD9⟩, hS.F ht⟩) hS.2.2 dX0_init_38

set_option maxHeartbeats 4000000 in
set_option maxRecDepth 100000 in
theorem cX0_addByte_ok (l : Launch) (dC : Nat → ClassId) (dI : Nat → Nat → Nat) (cA : ClassId) (tb : Nat → Nat) (sz : Nat) (h0 : Nat) (qh : Nat) (qm : Nat) (qv : Nat) (hh : Nat → Int32) (mm : Nat → Int32) (vv : Nat → Int32) (kn : Nat) (ab : Int64) (bv : Int32) (hk : kn ≤ 64) : Met l yX0_addByte wsX0_addByte ({ frames := 4, cells := 0, slots := 0, locals := 90 }) (va_Pc [.ref h0, .int bv] (kd_I (dC, dI) cA tb sz [(h0, .inr (0, [.ref qh, .ref qm, .ref qv, .int (nI kn), .long ab])), (qh, .inl (cA, 8, .inl hh)), (qm, .inl (cA, 16, .inl mm)), (qv, .inl (cA, 16, .inl vv))])) (va_Qv (fun (u : (Nat → Int32) × (Nat → Int32) × (Nat → Int32) × Nat × Int64) => (u.1, u.2.1, u.2.2.2.1, u.2.2.2.2) = kd_add bv (hh, mm, kn, ab)) (fun u t => kd_O (dC, dI) cA (va_A [(h0, .inr (0, [.ref qh, .ref qm, .ref qv, .int (nI kn), .long ab])), (qh, .inl (cA, 8, .inl hh)), (qm, .inl (cA, 16, .inl mm)), (qv, .inl (cA, 16, .inl vv))] sz) [(h0, .inr (0, [.ref qh, .ref qm, .ref qv, .int (nI u.2.2.2.1), .long u.2.2.2.2])), (qh, .inl (cA, 8, .inl u.1)), (qm, .inl (cA, 16, .inl u.2.1)), (qv, .inl (cA, 16, .inl u.2.2.1))] t) (va_A [(h0, .inr (0, [.ref qh, .ref qm, .ref qv, .int (nI kn), .long ab])), (qh, .inl (cA, 8, .inl hh)), (qm, .inl (cA, 16, .inl mm)), (qv, .inl (cA, 16, .inl vv))] sz)) 0 0 (va_A [(h0, .inr (0, [.ref qh, .ref qm, .ref qv, .int (nI kn), .long ab])), (qh, .inl (cA, 8, .inl hh)), (qm, .inl (cA, 16, .inl mm)), (qv, .inl (cA, 16, .inl vv))] sz) := by
  refine Met.ofW (cc := cX0_addByte) (maxL := 2) (ret := none) (by decide) rfl ?_
  intro p e s m args below meth c s₁ B hml hv
  obtain ⟨rfl, hsz, hP, hK, hD0, hT⟩ := hv
  have hx := B.exec
  have hb := B.bytes
  have hr := B.returns
  have hts := atoms_spec (ws := wsX0_addByte) B.pre
  have hown : s.vm.findClass RX0 = some m.cls := findClass_of_methodNamed B.named
  have hlocks := B.notSynchronized
  have ki0 : ∀ w ∈ u_ws RX0 TX0 5, w ∈ wsX0_addByte := by decide +kernel
  have k1 := hts (.fieldLink RX0 19 "KeyedDigest$Chain" "blockBytes" "I") (by decide +kernel)
  have k2 := hts (.fieldLink RX0 13 "KeyedDigest$Chain" "m" "[I") (by decide +kernel)
  have k3 := hts (.fieldLink RX0 23 "KeyedDigest$Chain" "allBytes" "J") (by decide +kernel)
  subst hsz
  have hD := hD0.self (sz := s.heap.size)
  generalize hAe : va_A [(h0, .inr (0, [.ref qh, .ref qm, .ref qv, .int (nI kn), .long ab])), (qh, .inl (cA, 8, .inl hh)), (qm, .inl (cA, 16, .inl mm)), (qv, .inl (cA, 16, .inl vv))] s.heap.size = A at hD hT ⊢
  have hA : ∀ q : Nat, s.heap.size ≤ q → A q := fun q h => by rw [← hAe]; exact Or.inr h
  have hS : va_S A s.heap s.heap [] := va_S.rf
  have hP : va_P (dC, dI) vwCl [(h0, .inr (0, [.ref qh, .ref qm, .ref qv, .int (nI kn), .long ab])), (qh, .inl (cA, 8, .inl hh)), (qm, .inl (cA, 16, .inl mm)), (qv, .inl (cA, 16, .inl vv))] s.heap := hP
  have hl := lv_entry ([.ref h0, .int bv]) (n := 2) (Nat.le_of_ble_eq_true rfl)
  rw [lg_entry_eq]
  generalize (lg_sl ([.ref h0, .int bv]) ++ List.replicate (2 - (lg_sl ([.ref h0, .int bv])).length) Slot.unset).toArray = ls at hl ⊢
  have hl : lv_has ls 2 [(0, .ref h0), (1, .int bv)] := hl
  refine lv_aload_n hx hb dX0_addByte_0 rfl (lv_at hl 0 rfl) ?_
  refine va_get (D := (dC, dI)) (ci := 0) (v := .int (nI kn)) (C := RX0) (T := TX0) (N := 5) hx hb hts ki0 hown hK hP 0 rfl rfl 3 (by decide) k1 (fun _ h9 => h9) rfl dX0_addByte_1 ?_
  refine lv_bipush (v := 64) hx hb dX0_addByte_4 (by decide) ?_
  refine lv_icmp_lt (tgt := 18) hx hb dX0_addByte_6 (by decide) (fun c6 => ?_) (fun c6 => ?_)
  · have hlt : kn < 64 := (nI_ltI (a := kn) (b := 64) (by omega) (by decide)).mp c6
    refine lv_aload_n hx hb dX0_addByte_18 rfl (lv_at hl 0 rfl) ?_
    refine va_get (D := (dC, dI)) (ci := 0) (v := .ref qm) (C := RX0) (T := TX0) (N := 5) hx hb hts ki0 hown hK hP 0 rfl rfl 1 (by decide) k2 (fun _ h9 => h9) rfl dX0_addByte_19 ?_
    refine lv_aload_n hx hb dX0_addByte_22 rfl (lv_at hl 0 rfl) ?_
    refine va_get (D := (dC, dI)) (ci := 0) (v := .int (nI kn)) (C := RX0) (T := TX0) (N := 5) hx hb hts ki0 hown hK hP 0 rfl rfl 3 (by decide) k1 (fun _ h9 => h9) rfl dX0_addByte_23 ?_
    refine lv_iconst (v := 2) hx hb dX0_addByte_26 (by decide) ?_
    refine lv_ishr hx hb dX0_addByte_27 ?_
    refine lv_dup2_11 hx hb dX0_addByte_28 rfl rfl ?_
    refine kd_ild (kn / 4) hx hb hK hP 2 0 rfl rfl (kd_shr2 (by omega)) (by omega) (by decide) dX0_addByte_29 ?_
    refine lv_iload_n hx hb dX0_addByte_30 rfl (lv_at hl 1 rfl) ?_
    refine lv_bipush (v := 8) hx hb dX0_addByte_31 (by decide) ?_
    refine lv_aload_n hx hb dX0_addByte_33 rfl (lv_at hl 0 rfl) ?_
    refine va_get (D := (dC, dI)) (ci := 0) (v := .int (nI kn)) (C := RX0) (T := TX0) (N := 5) hx hb hts ki0 hown hK hP 0 rfl rfl 3 (by decide) k1 (fun _ h9 => h9) rfl dX0_addByte_34 ?_
    refine lv_iconst (v := 3) hx hb dX0_addByte_37 (by decide) ?_
    refine lv_iand hx hb dX0_addByte_38 ?_
    refine lv_imul hx hb dX0_addByte_39 ?_
    refine lv_ishl hx hb dX0_addByte_40 ?_
    refine lv_ior hx hb dX0_addByte_41 ?_
    refine lv_topi (fun x42 ex42 => ?_)
    refine kd_ist (kn / 4) hx hb hK hP hD hS 2 0 rfl rfl (kd_shr2 (by omega)) (by omega) (by decide) dX0_addByte_42 (fun f42 ef42 H locs hP hD hS => ?_)
    have hP : va_P (dC, dI) vwCl [(h0, .inr (0, [.ref qh, .ref qm, .ref qv, .int (nI kn), .long ab])), (qh, .inl (cA, 8, .inl hh)), (qm, .inl (cA, 16, .inl f42)), (qv, .inl (cA, 16, .inl vv))] H := hP
    have hD : va_D A [(h0, .inr (0, [.ref qh, .ref qm, .ref qv, .int (nI kn), .long ab])), (qh, .inl (cA, 8, .inl hh)), (qm, .inl (cA, 16, .inl f42)), (qv, .inl (cA, 16, .inl vv))] := hD
    refine lv_aload_n hx hb dX0_addByte_43 rfl (lv_at hl 0 rfl) ?_
    refine lv_dup hx hb dX0_addByte_44 rfl ?_
    refine va_get (D := (dC, dI)) (ci := 0) (v := .int (nI kn)) (C := RX0) (T := TX0) (N := 5) hx hb hts ki0 hown hK hP 0 rfl rfl 3 (by decide) k1 (fun _ h9 => h9) rfl dX0_addByte_45 ?_
    refine lv_iconst (v := 1) hx hb dX0_addByte_48 (by decide) ?_
    refine lv_iadd hx hb dX0_addByte_49 ?_
    refine lv_topi (fun x50 ex50 => ?_)
    refine va_put (D := (dC, dI)) (ci := 0) (v := .int x50) (ty := .int) (C := RX0) (T := TX0) (N := 5) hx hb hts ki0 tyX0 tyX0_ok nmX0 hown hK hP hD hS 0 rfl rfl 3 (by decide) k1 (fun _ h9 => h9) rfl (by decide +kernel) rfl rfl (Nat.le_of_ble_eq_true rfl) dX0_addByte_50 (fun H locs hP hD hS => ?_)
    have hP : va_P (dC, dI) vwCl [(h0, .inr (0, [.ref qh, .ref qm, .ref qv, .int x50, .long ab])), (qh, .inl (cA, 8, .inl hh)), (qm, .inl (cA, 16, .inl f42)), (qv, .inl (cA, 16, .inl vv))] H := hP
    have hD : va_D A [(h0, .inr (0, [.ref qh, .ref qm, .ref qv, .int x50, .long ab])), (qh, .inl (cA, 8, .inl hh)), (qm, .inl (cA, 16, .inl f42)), (qv, .inl (cA, 16, .inl vv))] := hD
    obtain rfl : x50 = nI (kn + 1) := by rw [ex50]; exact nI_1 kn
    have hP : va_P (dC, dI) vwCl [(h0, .inr (0, [.ref qh, .ref qm, .ref qv, .int (nI (kn + 1)), .long ab])), (qh, .inl (cA, 8, .inl hh)), (qm, .inl (cA, 16, .inl f42)), (qv, .inl (cA, 16, .inl vv))] H := hP
    have hD : va_D A [(h0, .inr (0, [.ref qh, .ref qm, .ref qv, .int (nI (kn + 1)), .long ab])), (qh, .inl (cA, 8, .inl hh)), (qm, .inl (cA, 16, .inl f42)), (qv, .inl (cA, 16, .inl vv))] := hD
    refine lv_aload_n hx hb dX0_addByte_53 rfl (lv_at hl 0 rfl) ?_
    refine lv_dup hx hb dX0_addByte_54 rfl ?_
    refine va_get (D := (dC, dI)) (ci := 0) (v := .long ab) (C := RX0) (T := TX0) (N := 5) hx hb hts ki0 hown hK hP 0 rfl rfl 4 (by decide) k3 (fun _ h9 => h9) rfl dX0_addByte_55 ?_
    refine lv_lconst (v := 1) hx hb dX0_addByte_58 (by decide) ?_
    refine lv_ladd hx hb dX0_addByte_59 ?_
    refine lv_topl (fun x60 ex60 => ?_)
    refine va_put (D := (dC, dI)) (ci := 0) (v := .long x60) (ty := .long) (C := RX0) (T := TX0) (N := 5) hx hb hts ki0 tyX0 tyX0_ok nmX0 hown hK hP hD hS 0 rfl rfl 4 (by decide) k3 (fun _ h9 => h9) rfl (by decide +kernel) rfl rfl (Nat.le_of_ble_eq_true rfl) dX0_addByte_60 (fun H locs hP hD hS => ?_)
    have hP : va_P (dC, dI) vwCl [(h0, .inr (0, [.ref qh, .ref qm, .ref qv, .int (nI (kn + 1)), .long x60])), (qh, .inl (cA, 8, .inl hh)), (qm, .inl (cA, 16, .inl f42)), (qv, .inl (cA, 16, .inl vv))] H := hP
    have hD : va_D A [(h0, .inr (0, [.ref qh, .ref qm, .ref qv, .int (nI (kn + 1)), .long x60])), (qh, .inl (cA, 8, .inl hh)), (qm, .inl (cA, 16, .inl f42)), (qv, .inl (cA, 16, .inl vv))] := hD
    have hP9 := hP.sub (ws' := [(h0, .inr (0, [.ref qh, .ref qm, .ref qv, .int (nI (kn + 1)), .long x60])), (qh, .inl (cA, 8, .inl hh)), (qm, .inl (cA, 16, .inl f42)), (qv, .inl (cA, 16, .inl vv))]) [0, 1, 2, 3] rfl
    have hD9 := hD.sub (ws' := [(h0, .inr (0, [.ref qh, .ref qm, .ref qv, .int (nI (kn + 1)), .long x60])), (qh, .inl (cA, 8, .inl hh)), (qm, .inl (cA, 16, .inl f42)), (qv, .inl (cA, 16, .inl vv))]) [0, 1, 2, 3] (by decide) rfl
    exact W.vret hx hb hr (fun t ht hW => ⟨⟨(hh, f42, vv, kn + 1, x60), rfl, (by dsimp only; unfold kd_add; rw [if_neg (show ¬ 64 ≤ kn from Nat.not_le.mpr hlt), ef42, ex42, ex60]; rfl), by rw [ht]; exact hP9, va_K.moved hW.alike hK, hD9⟩, hS.F ht⟩) hS.2.2 dX0_addByte_63
  · have hge : 64 ≤ kn := Nat.not_lt.mp fun h => c6 ((nI_ltI (a := kn) (b := 64) (by omega) (by decide)).mpr h)
    refine lv_aload_n hx hb dX0_addByte_9 rfl (lv_at hl 0 rfl) ?_
    refine lv_iconst (v := 0) hx hb dX0_addByte_10 (by decide) ?_
    have hPc := hP.sub (ws' := [(h0, .inr (0, [.ref qh, .ref qm, .ref qv, .int (nI kn), .long ab])), (qh, .inl (cA, 8, .inl hh)), (qm, .inl (cA, 16, .inl mm)), (qv, .inl (cA, 16, .inl vv))]) [0, 1, 2, 3] rfl
    have hDc := hD.sub (ws' := [(h0, .inr (0, [.ref qh, .ref qm, .ref qv, .int (nI kn), .long ab])), (qh, .inl (cA, 8, .inl hh)), (qm, .inl (cA, 16, .inl mm)), (qv, .inl (cA, 16, .inl vv))]) [0, 1, 2, 3] (by decide) rfl
    have hFc := va_free (wc := [(h0, .inr (0, [.ref qh, .ref qm, .ref qv, .int (nI kn), .long ab])), (qh, .inl (cA, 8, .inl hh)), (qm, .inl (cA, 16, .inl mm)), (qv, .inl (cA, 16, .inl vv))]) hD hS hA [0, 1, 2, 3] rfl
    refine va_callv (va_runV (As := [.int 0]) (rest := []) ⟨hx, hb, hml, hown, hts⟩ (cX0_mix_ok l dC dI cA tb s.heap.size h0 qh qm qv hh mm vv (nI kn) ab 0 ) (cwV 1 hts gX0_addByte_X0_mix rfl rfl rfl (by decide +kernel) ⟨Nat.le_of_ble_eq_true rfl, Nat.le_of_ble_eq_true rfl⟩) ⟨fun a U g mk q => kd_calling rfl rfl q, va_recv hK hPc (ci := 0) (q0 := 0) rfl rfl, fun U hU hW => ⟨rfl, kd_pre hPc hK hDc hT hS hFc U hU hW⟩⟩ rfl rfl hl.1 rfl (lv_room (Nat.le_of_ble_eq_true rfl)) dX0_addByte_11 ⟨Nat.le_of_ble_eq_true rfl, Nat.le_of_ble_eq_true rfl⟩) hS (fun q _ h => hFc q h) hFc (fun u t H1 locs ht hvm hw hB hz1 hk1 hS => ?_)
    obtain ⟨vo11, rfl⟩ : ∃ z, z = u := ⟨_, rfl⟩
    have hw11 : True := hw
    have hP1 : va_P (dC, dI) vwCl [(h0, .inr (0, [.ref qh, .ref qm, .ref qv, .int (nI kn), .long ab])), (qh, .inl (cA, 8, .inl (kd_mix hh mm ab 0))), (qm, .inl (cA, 16, .inl mm)), (qv, .inl (cA, 16, .inl vo11))] H1 := by rw [← ht]; exact hB.1
    have hD1 : va_D (va_A [(h0, .inr (0, [.ref qh, .ref qm, .ref qv, .int (nI kn), .long ab])), (qh, .inl (cA, 8, .inl hh)), (qm, .inl (cA, 16, .inl mm)), (qv, .inl (cA, 16, .inl vv))] s.heap.size) [(h0, .inr (0, [.ref qh, .ref qm, .ref qv, .int (nI kn), .long ab])), (qh, .inl (cA, 8, .inl (kd_mix hh mm ab 0))), (qm, .inl (cA, 16, .inl mm)), (qv, .inl (cA, 16, .inl vo11))] := hB.2.2
    obtain ⟨hP, hD⟩ := va_join (wr := []) (w1 := [(h0, .inr (0, [.ref qh, .ref qm, .ref qv, .int (nI kn), .long ab])), (qh, .inl (cA, 8, .inl (kd_mix hh mm ab 0))), (qm, .inl (cA, 16, .inl mm)), (qv, .inl (cA, 16, .inl vo11))]) hP hD [0, 1, 2, 3] [] rfl rfl (by decide) (by decide) hk1 hFc hP1 hD1
    clear hw hB hk1 hPc hDc hFc hP1 hD1 hvm hz1
    generalize H1 = H at hP hS ⊢
    have hP : va_P (dC, dI) vwCl [(h0, .inr (0, [.ref qh, .ref qm, .ref qv, .int (nI kn), .long ab])), (qh, .inl (cA, 8, .inl (kd_mix hh mm ab 0))), (qm, .inl (cA, 16, .inl mm)), (qv, .inl (cA, 16, .inl vo11))] H := hP
    have hD : va_D A [(h0, .inr (0, [.ref qh, .ref qm, .ref qv, .int (nI kn), .long ab])), (qh, .inl (cA, 8, .inl (kd_mix hh mm ab 0))), (qm, .inl (cA, 16, .inl mm)), (qv, .inl (cA, 16, .inl vo11))] := hD
    refine lv_aload_n hx hb dX0_addByte_14 rfl (lv_at hl 0 rfl) ?_
    have hPc := hP.sub (ws' := [(h0, .inr (0, [.ref qh, .ref qm, .ref qv, .int (nI kn), .long ab])), (qm, .inl (cA, 16, .inl mm))]) [0, 2] rfl
    have hDc := hD.sub (ws' := [(h0, .inr (0, [.ref qh, .ref qm, .ref qv, .int (nI kn), .long ab])), (qm, .inl (cA, 16, .inl mm))]) [0, 2] (by decide) rfl
    have hFc := va_free (wc := [(h0, .inr (0, [.ref qh, .ref qm, .ref qv, .int (nI kn), .long ab])), (qm, .inl (cA, 16, .inl mm))]) hD hS hA [0, 2] rfl
    refine va_callv (va_runV (As := []) (rest := []) ⟨hx, hb, hml, hown, hts⟩ (cX0_emptyBlock_ok l dC dI cA tb H.size h0 qh qm qv mm (nI kn) ab ) (cwV 0 hts gX0_addByte_X0_emptyBlock rfl rfl rfl (by decide +kernel) ⟨Nat.le_of_ble_eq_true rfl, Nat.le_of_ble_eq_true rfl⟩) ⟨fun a U g mk q => kd_calling rfl rfl q, va_recv hK hPc (ci := 0) (q0 := 0) rfl rfl, fun U hU hW => ⟨rfl, kd_pre hPc hK hDc hT hS hFc U hU hW⟩⟩ rfl rfl hl.1 rfl (lv_room (Nat.le_of_ble_eq_true rfl)) dX0_addByte_15 ⟨Nat.le_of_ble_eq_true rfl, Nat.le_of_ble_eq_true rfl⟩) hS (fun q _ h => hFc q h) hFc (fun u t H1 locs ht hvm hw hB hz1 hk1 hS => ?_)
    have hw15 : True := hw
    have hP1 : va_P (dC, dI) vwCl [(h0, .inr (0, [.ref qh, .ref qm, .ref qv, .int (nI 0), .long ab])), (qm, .inl (cA, 16, .inl kd_0))] H1 := by rw [← ht]; exact hB.1
    have hD1 : va_D (va_A [(h0, .inr (0, [.ref qh, .ref qm, .ref qv, .int (nI kn), .long ab])), (qm, .inl (cA, 16, .inl mm))] H.size) [(h0, .inr (0, [.ref qh, .ref qm, .ref qv, .int (nI 0), .long ab])), (qm, .inl (cA, 16, .inl kd_0))] := hB.2.2
    obtain ⟨hP, hD⟩ := va_join (wr := [(qh, .inl (cA, 8, .inl (kd_mix hh mm ab 0))), (qv, .inl (cA, 16, .inl vo11))]) (w1 := [(h0, .inr (0, [.ref qh, .ref qm, .ref qv, .int (nI 0), .long ab])), (qm, .inl (cA, 16, .inl kd_0))]) hP hD [0, 2] [1, 3] rfl rfl (by decide) (by decide) hk1 hFc hP1 hD1
    clear hw hB hk1 hPc hDc hFc hP1 hD1 hvm hz1
    generalize H1 = H at hP hS ⊢
    have hP : va_P (dC, dI) vwCl [(qh, .inl (cA, 8, .inl (kd_mix hh mm ab 0))), (qv, .inl (cA, 16, .inl vo11)), (h0, .inr (0, [.ref qh, .ref qm, .ref qv, .int (nI 0), .long ab])), (qm, .inl (cA, 16, .inl kd_0))] H := hP
    have hD : va_D A [(qh, .inl (cA, 8, .inl (kd_mix hh mm ab 0))), (qv, .inl (cA, 16, .inl vo11)), (h0, .inr (0, [.ref qh, .ref qm, .ref qv, .int (nI 0), .long ab])), (qm, .inl (cA, 16, .inl kd_0))] := hD
    refine lv_aload_n hx hb dX0_addByte_18 rfl (lv_at hl 0 rfl) ?_
    refine va_get (D := (dC, dI)) (ci := 0) (v := .ref qm) (C := RX0) (T := TX0) (N := 5) hx hb hts ki0 hown hK hP 2 rfl rfl 1 (by decide) k2 (fun _ h9 => h9) rfl dX0_addByte_19 ?_
    refine lv_aload_n hx hb dX0_addByte_22 rfl (lv_at hl 0 rfl) ?_
    refine va_get (D := (dC, dI)) (ci := 0) (v := .int (nI 0)) (C := RX0) (T := TX0) (N := 5) hx hb hts ki0 hown hK hP 2 rfl rfl 3 (by decide) k1 (fun _ h9 => h9) rfl dX0_addByte_23 ?_
    refine lv_iconst (v := 2) hx hb dX0_addByte_26 (by decide) ?_
    refine lv_ishr hx hb dX0_addByte_27 ?_
    refine lv_dup2_11 hx hb dX0_addByte_28 rfl rfl ?_
    refine kd_ild (0 / 4) hx hb hK hP 3 0 rfl rfl (kd_shr2 (by omega)) (by omega) (by decide) dX0_addByte_29 ?_
    refine lv_iload_n hx hb dX0_addByte_30 rfl (lv_at hl 1 rfl) ?_
    refine lv_bipush (v := 8) hx hb dX0_addByte_31 (by decide) ?_
    refine lv_aload_n hx hb dX0_addByte_33 rfl (lv_at hl 0 rfl) ?_
    refine va_get (D := (dC, dI)) (ci := 0) (v := .int (nI 0)) (C := RX0) (T := TX0) (N := 5) hx hb hts ki0 hown hK hP 2 rfl rfl 3 (by decide) k1 (fun _ h9 => h9) rfl dX0_addByte_34 ?_
    refine lv_iconst (v := 3) hx hb dX0_addByte_37 (by decide) ?_
    refine lv_iand hx hb dX0_addByte_38 ?_
    refine lv_imul hx hb dX0_addByte_39 ?_
    refine lv_ishl hx hb dX0_addByte_40 ?_
    refine lv_ior hx hb dX0_addByte_41 ?_
    refine lv_topi (fun x42 ex42 => ?_)
    refine kd_ist (0 / 4) hx hb hK hP hD hS 3 0 rfl rfl (kd_shr2 (by omega)) (by omega) (by decide) dX0_addByte_42 (fun f42 ef42 H locs hP hD hS => ?_)
    have hP : va_P (dC, dI) vwCl [(qh, .inl (cA, 8, .inl (kd_mix hh mm ab 0))), (qv, .inl (cA, 16, .inl vo11)), (h0, .inr (0, [.ref qh, .ref qm, .ref qv, .int (nI 0), .long ab])), (qm, .inl (cA, 16, .inl f42))] H := hP
    have hD : va_D A [(qh, .inl (cA, 8, .inl (kd_mix hh mm ab 0))), (qv, .inl (cA, 16, .inl vo11)), (h0, .inr (0, [.ref qh, .ref qm, .ref qv, .int (nI 0), .long ab])), (qm, .inl (cA, 16, .inl f42))] := hD
    refine lv_aload_n hx hb dX0_addByte_43 rfl (lv_at hl 0 rfl) ?_
    refine lv_dup hx hb dX0_addByte_44 rfl ?_
    refine va_get (D := (dC, dI)) (ci := 0) (v := .int (nI 0)) (C := RX0) (T := TX0) (N := 5) hx hb hts ki0 hown hK hP 2 rfl rfl 3 (by decide) k1 (fun _ h9 => h9) rfl dX0_addByte_45 ?_
    refine lv_iconst (v := 1) hx hb dX0_addByte_48 (by decide) ?_
    refine lv_iadd hx hb dX0_addByte_49 ?_
    refine lv_topi (fun x50 ex50 => ?_)
    refine va_put (D := (dC, dI)) (ci := 0) (v := .int x50) (ty := .int) (C := RX0) (T := TX0) (N := 5) hx hb hts ki0 tyX0 tyX0_ok nmX0 hown hK hP hD hS 2 rfl rfl 3 (by decide) k1 (fun _ h9 => h9) rfl (by decide +kernel) rfl rfl (Nat.le_of_ble_eq_true rfl) dX0_addByte_50 (fun H locs hP hD hS => ?_)
    have hP : va_P (dC, dI) vwCl [(qh, .inl (cA, 8, .inl (kd_mix hh mm ab 0))), (qv, .inl (cA, 16, .inl vo11)), (h0, .inr (0, [.ref qh, .ref qm, .ref qv, .int x50, .long ab])), (qm, .inl (cA, 16, .inl f42))] H := hP
    have hD : va_D A [(qh, .inl (cA, 8, .inl (kd_mix hh mm ab 0))), (qv, .inl (cA, 16, .inl vo11)), (h0, .inr (0, [.ref qh, .ref qm, .ref qv, .int x50, .long ab])), (qm, .inl (cA, 16, .inl f42))] := hD
    obtain rfl : x50 = nI (1) := by rw [ex50]; exact nI_1 0
    have hP : va_P (dC, dI) vwCl [(qh, .inl (cA, 8, .inl (kd_mix hh mm ab 0))), (qv, .inl (cA, 16, .inl vo11)), (h0, .inr (0, [.ref qh, .ref qm, .ref qv, .int (nI (1)), .long ab])), (qm, .inl (cA, 16, .inl f42))] H := hP
    have hD : va_D A [(qh, .inl (cA, 8, .inl (kd_mix hh mm ab 0))), (qv, .inl (cA, 16, .inl vo11)), (h0, .inr (0, [.ref qh, .ref qm, .ref qv, .int (nI (1)), .long ab])), (qm, .inl (cA, 16, .inl f42))] := hD
    refine lv_aload_n hx hb dX0_addByte_53 rfl (lv_at hl 0 rfl) ?_
    refine lv_dup hx hb dX0_addByte_54 rfl ?_
    refine va_get (D := (dC, dI)) (ci := 0) (v := .long ab) (C := RX0) (T := TX0) (N := 5) hx hb hts ki0 hown hK hP 2 rfl rfl 4 (by decide) k3 (fun _ h9 => h9) rfl dX0_addByte_55 ?_
    refine lv_lconst (v := 1) hx hb dX0_addByte_58 (by decide) ?_
    refine lv_ladd hx hb dX0_addByte_59 ?_
    refine lv_topl (fun x60 ex60 => ?_)
    refine va_put (D := (dC, dI)) (ci := 0) (v := .long x60) (ty := .long) (C := RX0) (T := TX0) (N := 5) hx hb hts ki0 tyX0 tyX0_ok nmX0 hown hK hP hD hS 2 rfl rfl 4 (by decide) k3 (fun _ h9 => h9) rfl (by decide +kernel) rfl rfl (Nat.le_of_ble_eq_true rfl) dX0_addByte_60 (fun H locs hP hD hS => ?_)
    have hP : va_P (dC, dI) vwCl [(qh, .inl (cA, 8, .inl (kd_mix hh mm ab 0))), (qv, .inl (cA, 16, .inl vo11)), (h0, .inr (0, [.ref qh, .ref qm, .ref qv, .int (nI (1)), .long x60])), (qm, .inl (cA, 16, .inl f42))] H := hP
    have hD : va_D A [(qh, .inl (cA, 8, .inl (kd_mix hh mm ab 0))), (qv, .inl (cA, 16, .inl vo11)), (h0, .inr (0, [.ref qh, .ref qm, .ref qv, .int (nI (1)), .long x60])), (qm, .inl (cA, 16, .inl f42))] := hD
    have hP9 := hP.sub (ws' := [(h0, .inr (0, [.ref qh, .ref qm, .ref qv, .int (nI 1), .long x60])), (qh, .inl (cA, 8, .inl (kd_mix hh mm ab 0))), (qm, .inl (cA, 16, .inl f42)), (qv, .inl (cA, 16, .inl vo11))]) [2, 0, 3, 1] rfl
    have hD9 := hD.sub (ws' := [(h0, .inr (0, [.ref qh, .ref qm, .ref qv, .int (nI 1), .long x60])), (qh, .inl (cA, 8, .inl (kd_mix hh mm ab 0))), (qm, .inl (cA, 16, .inl f42)), (qv, .inl (cA, 16, .inl vo11))]) [2, 0, 3, 1] (by decide) rfl
    exact W.vret hx hb hr (fun t ht hW => ⟨⟨(kd_mix hh mm ab 0, f42, vo11, 1, x60), rfl, (by dsimp only; unfold kd_add; rw [if_pos (show 64 ≤ kn from hge), ef42, ex42, ex60]; rfl), by rw [ht]; exact hP9, va_K.moved hW.alike hK, hD9⟩, hS.F ht⟩) hS.2.2 dX0_addByte_63

set_option maxHeartbeats 4000000 in
set_option maxRecDepth 100000 in
theorem cX0_addKey_ok (l : Launch) (dC : Nat → ClassId) (dI : Nat → Nat → Nat) (cA : ClassId) (tb : Nat → Nat) (sz : Nat) (h0 : Nat) (qh : Nat) (qm : Nat) (qv : Nat) (hh : Nat → Int32) (mm : Nat → Int32) (vv : Nat → Int32) (ab : Int64) (qk : Nat) (key : Nat → Int32) (kn : Nat) (hk : kn ≤ 32) : Met l yX0_addKey wsX0_addKey ({ frames := 5, cells := 0, slots := 0, locals := 111 }) (va_Pc [.ref h0, .ref qk, .int (nI kn)] (kd_I (dC, dI) cA tb sz [(h0, .inr (0, [.ref qh, .ref qm, .ref qv, .int (nI 0), .long ab])), (qh, .inl (cA, 8, .inl hh)), (qm, .inl (cA, 16, .inl mm)), (qv, .inl (cA, 16, .inl vv)), (qk, .inl (cA, 32, .inl key))])) (va_Qv (fun (u : (Nat → Int32)) => True) (fun u t => kd_O (dC, dI) cA (va_A [(h0, .inr (0, [.ref qh, .ref qm, .ref qv, .int (nI 0), .long ab])), (qh, .inl (cA, 8, .inl hh)), (qm, .inl (cA, 16, .inl mm)), (qv, .inl (cA, 16, .inl vv)), (qk, .inl (cA, 32, .inl key))] sz) [(h0, .inr (0, [.ref qh, .ref qm, .ref qv, .int (nI 64), .long 64])), (qh, .inl (cA, 8, .inl ((kd_adds key kn (hh, mm, 0, ab)).1))), (qm, .inl (cA, 16, .inl ((kd_adds key kn (hh, mm, 0, ab)).2.1))), (qv, .inl (cA, 16, .inl u)), (qk, .inl (cA, 32, .inl key))] t) (va_A [(h0, .inr (0, [.ref qh, .ref qm, .ref qv, .int (nI 0), .long ab])), (qh, .inl (cA, 8, .inl hh)), (qm, .inl (cA, 16, .inl mm)), (qv, .inl (cA, 16, .inl vv)), (qk, .inl (cA, 32, .inl key))] sz)) 0 0 (va_A [(h0, .inr (0, [.ref qh, .ref qm, .ref qv, .int (nI 0), .long ab])), (qh, .inl (cA, 8, .inl hh)), (qm, .inl (cA, 16, .inl mm)), (qv, .inl (cA, 16, .inl vv)), (qk, .inl (cA, 32, .inl key))] sz) := by
  refine Met.ofW (cc := cX0_addKey) (maxL := 4) (ret := none) (by decide) rfl ?_
  intro p e s m args below meth c s₁ B hml hv
  obtain ⟨rfl, hsz, hP, hK, hD0, hT⟩ := hv
  have hx := B.exec
  have hb := B.bytes
  have hr := B.returns
  have hts := atoms_spec (ws := wsX0_addKey) B.pre
  have hown : s.vm.findClass RX0 = some m.cls := findClass_of_methodNamed B.named
  have hlocks := B.notSynchronized
  have ki0 : ∀ w ∈ u_ws RX0 TX0 5, w ∈ wsX0_addKey := by decide +kernel
  have k1 := hts (.fieldLink RX0 19 "KeyedDigest$Chain" "blockBytes" "I") (by decide +kernel)
  have k2 := hts (.constantLong RX0 38 64) (by decide +kernel)
  have k3 := hts (.fieldLink RX0 23 "KeyedDigest$Chain" "allBytes" "J") (by decide +kernel)
  subst hsz
  have hD := hD0.self (sz := s.heap.size)
  generalize hAe : va_A [(h0, .inr (0, [.ref qh, .ref qm, .ref qv, .int (nI 0), .long ab])), (qh, .inl (cA, 8, .inl hh)), (qm, .inl (cA, 16, .inl mm)), (qv, .inl (cA, 16, .inl vv)), (qk, .inl (cA, 32, .inl key))] s.heap.size = A at hD hT ⊢
  have hA : ∀ q : Nat, s.heap.size ≤ q → A q := fun q h => by rw [← hAe]; exact Or.inr h
  have hS : va_S A s.heap s.heap [] := va_S.rf
  have hP : va_P (dC, dI) vwCl [(h0, .inr (0, [.ref qh, .ref qm, .ref qv, .int (nI 0), .long ab])), (qh, .inl (cA, 8, .inl hh)), (qm, .inl (cA, 16, .inl mm)), (qv, .inl (cA, 16, .inl vv)), (qk, .inl (cA, 32, .inl key))] s.heap := hP
  have hl := lv_entry ([.ref h0, .ref qk, .int (nI kn)]) (n := 4) (Nat.le_of_ble_eq_true rfl)
  rw [lg_entry_eq]
  generalize (lg_sl ([.ref h0, .ref qk, .int (nI kn)]) ++ List.replicate (4 - (lg_sl ([.ref h0, .ref qk, .int (nI kn)])).length) Slot.unset).toArray = ls at hl ⊢
  have hl : lv_has ls 4 [(0, .ref h0), (1, .ref qk), (2, .int (nI kn))] := hl
  refine lv_iconst (v := 0) hx hb dX0_addKey_0 (by decide) ?_
  refine lv_istore_n (lv' := [(3, .int 0), (0, .ref h0), (1, .ref qk), (2, .int (nI kn))]) hx hb dX0_addKey_1 rfl hl (by decide) rfl (fun ls hl => ?_)
  have lp : ∀ (k : Nat) (i : Nat) (x : Int32) (u0 : kd_C) (v0 : Nat → Int32), (i ≤ kn) → (kn - i < k) → (x = nI i) → (u0 = kd_adds key i (hh, mm, 0, ab)) → ∀ (H : Heap) (locs : List Loc) (ls : Array Slot), va_P (dC, dI) vwCl [(h0, .inr (0, [.ref qh, .ref qm, .ref qv, .int (nI u0.2.2.1), .long u0.2.2.2])), (qh, .inl (cA, 8, .inl u0.1)), (qm, .inl (cA, 16, .inl u0.2.1)), (qv, .inl (cA, 16, .inl v0)), (qk, .inl (cA, 32, .inl key))] H → va_D A [(h0, .inr (0, [.ref qh, .ref qm, .ref qv, .int (nI u0.2.2.1), .long u0.2.2.2])), (qh, .inl (cA, 8, .inl u0.1)), (qm, .inl (cA, 16, .inl u0.2.1)), (qv, .inl (cA, 16, .inl v0)), (qk, .inl (cA, 32, .inl key))] → va_S A s.heap H locs → lv_has ls 4 [(3, .int x), (0, .ref h0), (1, .ref qk), (2, .int (nI kn))] → W p l e (headSpec wsX0_addKey { frames := 5, cells := 0, slots := 0, locals := 111 }).room s m ([.ref h0, .ref qk, .int (nI kn)]).toArray below meth c H locs 0 0 (MQ below (va_Qv (fun (u : (Nat → Int32)) => True) (fun u t => kd_O (dC, dI) cA A [(h0, .inr (0, [.ref qh, .ref qm, .ref qv, .int (nI 64), .long 64])), (qh, .inl (cA, 8, .inl ((kd_adds key kn (hh, mm, 0, ab)).1))), (qm, .inl (cA, 16, .inl ((kd_adds key kn (hh, mm, 0, ab)).2.1))), (qv, .inl (cA, 16, .inl u)), (qk, .inl (cA, 32, .inl key))] t) A) ([.ref h0, .ref qk, .int (nI kn)]).toArray s 0 0 A) (F0 m 2 ls []) := by
    intro k
    induction k with
    | zero =>
      intro i x u0 v0 hi hm ex hu
      omega
    | succ k ih =>
      intro i x u0 v0 hi hm ex hu H locs ls hP hD hS hl
      refine lv_iload_n hx hb dX0_addKey_2 rfl (lv_at hl 0 rfl) ?_
      refine lv_iload_n hx hb dX0_addKey_3 rfl (lv_at hl 3 rfl) ?_
      refine lv_icmp_ge (tgt := 26) hx hb dX0_addKey_4 (by decide) (fun c4 => ?_) (fun c4 => ?_)
      · have hge : kn ≤ i := kd_ge ex (by omega) (by omega) c4
        have hik : i = kn := by omega
        rw [hik] at hu
        subst hu
        refine lv_aload_n hx hb dX0_addKey_26 rfl (lv_at hl 1 rfl) ?_
        refine lv_bipush (v := 64) hx hb dX0_addKey_27 (by decide) ?_
        refine va_put (D := (dC, dI)) (ci := 0) (v := .int 64) (ty := .int) (C := RX0) (T := TX0) (N := 5) hx hb hts ki0 tyX0 tyX0_ok nmX0 hown hK hP hD hS 0 rfl rfl 3 (by decide) k1 (fun _ h9 => h9) rfl (by decide +kernel) rfl rfl (Nat.le_of_ble_eq_true rfl) dX0_addKey_29 (fun H locs hP hD hS => ?_)
        have hP : va_P (dC, dI) vwCl [(h0, .inr (0, [.ref qh, .ref qm, .ref qv, .int 64, .long ((kd_adds key kn (hh, mm, 0, ab)).2.2.2)])), (qh, .inl (cA, 8, .inl ((kd_adds key kn (hh, mm, 0, ab)).1))), (qm, .inl (cA, 16, .inl ((kd_adds key kn (hh, mm, 0, ab)).2.1))), (qv, .inl (cA, 16, .inl v0)), (qk, .inl (cA, 32, .inl key))] H := hP
        have hD : va_D A [(h0, .inr (0, [.ref qh, .ref qm, .ref qv, .int 64, .long ((kd_adds key kn (hh, mm, 0, ab)).2.2.2)])), (qh, .inl (cA, 8, .inl ((kd_adds key kn (hh, mm, 0, ab)).1))), (qm, .inl (cA, 16, .inl ((kd_adds key kn (hh, mm, 0, ab)).2.1))), (qv, .inl (cA, 16, .inl v0)), (qk, .inl (cA, 32, .inl key))] := hD
        refine lv_aload_n hx hb dX0_addKey_32 rfl (lv_at hl 1 rfl) ?_
        refine lv_ldc2 (v := 64) hx hb hown k2 dX0_addKey_33 ?_
        refine va_put (D := (dC, dI)) (ci := 0) (v := .long 64) (ty := .long) (C := RX0) (T := TX0) (N := 5) hx hb hts ki0 tyX0 tyX0_ok nmX0 hown hK hP hD hS 0 rfl rfl 4 (by decide) k3 (fun _ h9 => h9) rfl (by decide +kernel) rfl rfl (Nat.le_of_ble_eq_true rfl) dX0_addKey_36 (fun H locs hP hD hS => ?_)
        have hP : va_P (dC, dI) vwCl [(h0, .inr (0, [.ref qh, .ref qm, .ref qv, .int 64, .long 64])), (qh, .inl (cA, 8, .inl ((kd_adds key kn (hh, mm, 0, ab)).1))), (qm, .inl (cA, 16, .inl ((kd_adds key kn (hh, mm, 0, ab)).2.1))), (qv, .inl (cA, 16, .inl v0)), (qk, .inl (cA, 32, .inl key))] H := hP
        have hD : va_D A [(h0, .inr (0, [.ref qh, .ref qm, .ref qv, .int 64, .long 64])), (qh, .inl (cA, 8, .inl ((kd_adds key kn (hh, mm, 0, ab)).1))), (qm, .inl (cA, 16, .inl ((kd_adds key kn (hh, mm, 0, ab)).2.1))), (qv, .inl (cA, 16, .inl v0)), (qk, .inl (cA, 32, .inl key))] := hD
        have hP9 := hP.sub (ws' := [(h0, .inr (0, [.ref qh, .ref qm, .ref qv, .int (nI 64), .long 64])), (qh, .inl (cA, 8, .inl ((kd_adds key kn (hh, mm, 0, ab)).1))), (qm, .inl (cA, 16, .inl ((kd_adds key kn (hh, mm, 0, ab)).2.1))), (qv, .inl (cA, 16, .inl v0)), (qk, .inl (cA, 32, .inl key))]) [0, 1, 2, 3, 4] rfl
        have hD9 := hD.sub (ws' := [(h0, .inr (0, [.ref qh, .ref qm, .ref qv, .int (nI 64), .long 64])), (qh, .inl (cA, 8, .inl ((kd_adds key kn (hh, mm, 0, ab)).1))), (qm, .inl (cA, 16, .inl ((kd_adds key kn (hh, mm, 0, ab)).2.1))), (qv, .inl (cA, 16, .inl v0)), (qk, .inl (cA, 32, .inl key))]) [0, 1, 2, 3, 4] (by decide) rfl
        exact W.vret hx hb hr (fun t ht hW => ⟨⟨(v0), rfl, trivial, by rw [ht]; exact hP9, va_K.moved hW.alike hK, hD9⟩, hS.F ht⟩) hS.2.2 dX0_addKey_39
      · have hlt : i < kn := kd_lt ex (by omega) (by omega) c4
        refine lv_iload_n hx hb dX0_addKey_7 rfl (lv_at hl 0 rfl) ?_
        refine lv_aload_n hx hb dX0_addKey_8 rfl (lv_at hl 2 rfl) ?_
        refine va_alen (v := 32) (ty := .int) hx hb hK hP 4 0 rfl rfl rfl dX0_addKey_9 ?_
        refine lv_icmp_ge (tgt := 26) hx hb dX0_addKey_10 (by decide) (fun c10 => ?_) (fun c10 => ?_)
        · exact absurd (kd_ge (n := 32) ex (by omega) (by decide) c10) (by omega)
        · refine lv_aload_n hx hb dX0_addKey_13 rfl (lv_at hl 1 rfl) ?_
          refine lv_aload_n hx hb dX0_addKey_14 rfl (lv_at hl 2 rfl) ?_
          refine lv_iload_n hx hb dX0_addKey_15 rfl (lv_at hl 0 rfl) ?_
          refine kd_ild i hx hb hK hP 4 0 rfl rfl ex (by omega) (by decide) dX0_addKey_16 ?_
          have hPc := hP.sub (ws' := [(h0, .inr (0, [.ref qh, .ref qm, .ref qv, .int (nI u0.2.2.1), .long u0.2.2.2])), (qh, .inl (cA, 8, .inl u0.1)), (qm, .inl (cA, 16, .inl u0.2.1)), (qv, .inl (cA, 16, .inl v0))]) [0, 1, 2, 3] rfl
          have hDc := hD.sub (ws' := [(h0, .inr (0, [.ref qh, .ref qm, .ref qv, .int (nI u0.2.2.1), .long u0.2.2.2])), (qh, .inl (cA, 8, .inl u0.1)), (qm, .inl (cA, 16, .inl u0.2.1)), (qv, .inl (cA, 16, .inl v0))]) [0, 1, 2, 3] (by decide) rfl
          have hFc := va_free (wc := [(h0, .inr (0, [.ref qh, .ref qm, .ref qv, .int (nI u0.2.2.1), .long u0.2.2.2])), (qh, .inl (cA, 8, .inl u0.1)), (qm, .inl (cA, 16, .inl u0.2.1)), (qv, .inl (cA, 16, .inl v0))]) hD hS hA [0, 1, 2, 3] rfl
          refine va_callv (va_runV (As := [.int (key i)]) (rest := []) ⟨hx, hb, hml, hown, hts⟩ (cX0_addByte_ok l dC dI cA tb H.size h0 qh qm qv u0.1 u0.2.1 v0 u0.2.2.1 u0.2.2.2 (key i) (by rw [hu]; exact kd_adds_le (Nat.zero_le 64) i)) (cwV 1 hts gX0_addKey_X0_addByte rfl rfl rfl (by decide +kernel) ⟨Nat.le_of_ble_eq_true rfl, Nat.le_of_ble_eq_true rfl⟩) ⟨fun a U g mk q => kd_calling rfl rfl q, va_recv hK hPc (ci := 0) (q0 := 0) rfl rfl, fun U hU hW => ⟨rfl, kd_pre hPc hK hDc hT hS hFc U hU hW⟩⟩ rfl rfl hl.1 rfl (lv_room (Nat.le_of_ble_eq_true rfl)) dX0_addKey_17 ⟨Nat.le_of_ble_eq_true rfl, Nat.le_of_ble_eq_true rfl⟩) hS (fun q _ h => hFc q h) hFc (fun u t H1 locs ht hvm hw hB hz1 hk1 hS => ?_)
          obtain ⟨ho17, mo17, vo17, ko17, ao17⟩ := u
          have hw17 : (ho17, mo17, ko17, ao17) = kd_add (key i) (u0.1, u0.2.1, u0.2.2.1, u0.2.2.2) := hw
          have hP1 : va_P (dC, dI) vwCl [(h0, .inr (0, [.ref qh, .ref qm, .ref qv, .int (nI ko17), .long ao17])), (qh, .inl (cA, 8, .inl ho17)), (qm, .inl (cA, 16, .inl mo17)), (qv, .inl (cA, 16, .inl vo17))] H1 := by rw [← ht]; exact hB.1
          have hD1 : va_D (va_A [(h0, .inr (0, [.ref qh, .ref qm, .ref qv, .int (nI u0.2.2.1), .long u0.2.2.2])), (qh, .inl (cA, 8, .inl u0.1)), (qm, .inl (cA, 16, .inl u0.2.1)), (qv, .inl (cA, 16, .inl v0))] H.size) [(h0, .inr (0, [.ref qh, .ref qm, .ref qv, .int (nI ko17), .long ao17])), (qh, .inl (cA, 8, .inl ho17)), (qm, .inl (cA, 16, .inl mo17)), (qv, .inl (cA, 16, .inl vo17))] := hB.2.2
          obtain ⟨hP, hD⟩ := va_join (wr := [(qk, .inl (cA, 32, .inl key))]) (w1 := [(h0, .inr (0, [.ref qh, .ref qm, .ref qv, .int (nI ko17), .long ao17])), (qh, .inl (cA, 8, .inl ho17)), (qm, .inl (cA, 16, .inl mo17)), (qv, .inl (cA, 16, .inl vo17))]) hP hD [0, 1, 2, 3] [4] rfl rfl (by decide) (by decide) hk1 hFc hP1 hD1
          clear hw hB hk1 hPc hDc hFc hP1 hD1 hvm hz1
          generalize H1 = H at hP hS ⊢
          have hP : va_P (dC, dI) vwCl [(qk, .inl (cA, 32, .inl key)), (h0, .inr (0, [.ref qh, .ref qm, .ref qv, .int (nI ko17), .long ao17])), (qh, .inl (cA, 8, .inl ho17)), (qm, .inl (cA, 16, .inl mo17)), (qv, .inl (cA, 16, .inl vo17))] H := hP
          have hD : va_D A [(qk, .inl (cA, 32, .inl key)), (h0, .inr (0, [.ref qh, .ref qm, .ref qv, .int (nI ko17), .long ao17])), (qh, .inl (cA, 8, .inl ho17)), (qm, .inl (cA, 16, .inl mo17)), (qv, .inl (cA, 16, .inl vo17))] := hD
          obtain ⟨x20, ex20⟩ : ∃ zz : Int32, zz = x + 1 := ⟨_, rfl⟩
          refine lv_iinc (v := x20) (lv' := [(3, .int x20), (0, .ref h0), (1, .ref qk), (2, .int (nI kn))]) hx hb dX0_addKey_20 hl (k := 0) rfl (by rw [ex20]; rfl) (by decide) rfl (fun ls hl => ?_)
          refine lv_goto (tgt := 2) hx hb dX0_addKey_23 (by decide) ?_
          exact ih  (i + 1) x20 (ho17, mo17, ko17, ao17) vo17 (by omega) (by omega) (by rw [ex20, ex]; exact nI_1 i) (by rw [hw17]; show kd_add (key i) u0 = _; rw [hu]; rfl) _ _ ls (hP.sub [1, 2, 3, 4, 0] rfl) (hD.sub [1, 2, 3, 4, 0] (by decide) rfl) hS (lv_sub hl [0, 1, 2, 3] rfl)
  exact lp (kn + 1) 0 0 (hh, mm, 0, ab) vv (by omega) (by omega) rfl rfl _ _ ls (hP.sub [0, 1, 2, 3, 4] rfl) (hD.sub [0, 1, 2, 3, 4] (by decide) rfl) hS (lv_sub hl [0, 1, 2, 3] rfl)
