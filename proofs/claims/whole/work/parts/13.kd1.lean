set_option maxHeartbeats 4000000 in
set_option maxRecDepth 100000 in
theorem cX1_isByte_ok (l : Launch) (dC : Nat → ClassId) (dI : Nat → Nat → Nat) (cA : ClassId) (tb : Nat → Nat) (sz : Nat) (b : Int32) : Met l yX1_isByte wsX1_isByte ({ frames := 0, cells := 0, slots := 0, locals := 0 }) (va_Pc [.int b] (kd_I (dC, dI) cA tb sz [])) (va_Qi (fun (r : Int32) (u : Unit) => r = kd_isB b) (fun u t => kd_O (dC, dI) cA (va_A [] sz) [] t) (va_A [] sz)) 0 0 (va_A [] sz) := by
  refine Met.ofW (cc := cX1_isByte) (maxL := 1) (ret := (some .boolean)) (by decide) rfl ?_
  intro p e s m args below meth c s₁ B hml hv
  obtain ⟨rfl, hsz, hP, hK, hD0, hT⟩ := hv
  have hx := B.exec
  have hb := B.bytes
  have hr := B.returns
  have hts := atoms_spec (ws := wsX1_isByte) B.pre
  have hown : s.vm.findClass RX1 = some m.cls := findClass_of_methodNamed B.named
  have hlocks := B.notSynchronized
  subst hsz
  have hD := hD0.self (sz := s.heap.size)
  generalize hAe : va_A [] s.heap.size = A at hD hT ⊢
  have hA : ∀ q : Nat, s.heap.size ≤ q → A q := fun q h => by rw [← hAe]; exact Or.inr h
  have hS : va_S A s.heap s.heap [] := va_S.rf
  have hP : va_P (dC, dI) vwCl [] s.heap := hP
  have hl := lv_entry ([.int b]) (n := 1) (Nat.le_of_ble_eq_true rfl)
  rw [lg_entry_eq]
  generalize (lg_sl ([.int b]) ++ List.replicate (1 - (lg_sl ([.int b])).length) Slot.unset).toArray = ls at hl ⊢
  have hl : lv_has ls 1 [(0, .int b)] := hl
  refine lv_iload_n hx hb dX1_isByte_0 rfl (lv_at hl 0 rfl) ?_
  refine lv_if_lt (tgt := 15) hx hb dX1_isByte_1 (by decide) (fun c1 => ?_) (fun c1 => ?_)
  · refine lv_iconst (v := 0) hx hb dX1_isByte_15 (by decide) ?_
    have hP9 := hP.sub (ws' := []) [] rfl
    have hD9 := hD.sub (ws' := []) [] (by decide) rfl
    exact W.zret (v := 0) hx hb hr (by rfl) (fun t ht hW => ⟨⟨0, (), rfl, (if_pos (Or.inl c1)).symm, by rw [ht]; exact hP9, va_K.moved hW.alike hK, hD9⟩, hS.F ht⟩) hS.2.2 dX1_isByte_16
  · refine lv_iload_n hx hb dX1_isByte_4 rfl (lv_at hl 0 rfl) ?_
    refine lv_sipush (v := 255) hx hb dX1_isByte_5 (by decide) ?_
    refine lv_icmp_gt (tgt := 15) hx hb dX1_isByte_8 (by decide) (fun c8 => ?_) (fun c8 => ?_)
    · refine lv_iconst (v := 0) hx hb dX1_isByte_15 (by decide) ?_
      have hP9 := hP.sub (ws' := []) [] rfl
      have hD9 := hD.sub (ws' := []) [] (by decide) rfl
      exact W.zret (v := 0) hx hb hr (by rfl) (fun t ht hW => ⟨⟨0, (), rfl, (if_pos (Or.inr (c8))).symm, by rw [ht]; exact hP9, va_K.moved hW.alike hK, hD9⟩, hS.F ht⟩) hS.2.2 dX1_isByte_16
    · refine lv_iconst (v := 1) hx hb dX1_isByte_11 (by decide) ?_
      refine lv_goto (tgt := 16) hx hb dX1_isByte_12 (by decide) ?_
      have hP9 := hP.sub (ws' := []) [] rfl
      have hD9 := hD.sub (ws' := []) [] (by decide) rfl
      exact W.zret (v := 1) hx hb hr (by rfl) (fun t ht hW => ⟨⟨1, (), rfl, (if_neg (fun h => h.elim c1 (c8))).symm, by rw [ht]; exact hP9, va_K.moved hW.alike hK, hD9⟩, hS.F ht⟩) hS.2.2 dX1_isByte_16

set_option maxHeartbeats 4000000 in
set_option maxRecDepth 100000 in
theorem cX1_hasMessage_ok (l : Launch) (dC : Nat → ClassId) (dI : Nat → Nat → Nat) (cA : ClassId) (tb : Nat → Nat) (sz : Nat) (h0 : Nat) (qk : Nat) (qc : Nat) (st : Int32) (nn : Int32) (ln : Int32) : Met l yX1_hasMessage wsX1_hasMessage ({ frames := 0, cells := 0, slots := 0, locals := 0 }) (va_Pc [.ref h0] (kd_I (dC, dI) cA tb sz [(h0, .inr (1, [.ref qk, .ref qc, .int st, .int nn, .int ln]))])) (va_Qi (fun (r : Int32) (u : Unit) => r = kd_has st) (fun u t => kd_O (dC, dI) cA (va_A [(h0, .inr (1, [.ref qk, .ref qc, .int st, .int nn, .int ln]))] sz) [(h0, .inr (1, [.ref qk, .ref qc, .int st, .int nn, .int ln]))] t) (va_A [(h0, .inr (1, [.ref qk, .ref qc, .int st, .int nn, .int ln]))] sz)) 0 0 (va_A [(h0, .inr (1, [.ref qk, .ref qc, .int st, .int nn, .int ln]))] sz) := by
  refine Met.ofW (cc := cX1_hasMessage) (maxL := 1) (ret := (some .boolean)) (by decide) rfl ?_
  intro p e s m args below meth c s₁ B hml hv
  obtain ⟨rfl, hsz, hP, hK, hD0, hT⟩ := hv
  have hx := B.exec
  have hb := B.bytes
  have hr := B.returns
  have hts := atoms_spec (ws := wsX1_hasMessage) B.pre
  have hown : s.vm.findClass RX1 = some m.cls := findClass_of_methodNamed B.named
  have hlocks := B.notSynchronized
  have ki1 : ∀ w ∈ u_ws RX1 TX1 5, w ∈ wsX1_hasMessage := by decide +kernel
  have k1 := hts (.fieldLink RX1 20 "KeyedDigest" "state" "I") (by decide +kernel)
  subst hsz
  have hD := hD0.self (sz := s.heap.size)
  generalize hAe : va_A [(h0, .inr (1, [.ref qk, .ref qc, .int st, .int nn, .int ln]))] s.heap.size = A at hD hT ⊢
  have hA : ∀ q : Nat, s.heap.size ≤ q → A q := fun q h => by rw [← hAe]; exact Or.inr h
  have hS : va_S A s.heap s.heap [] := va_S.rf
  have hP : va_P (dC, dI) vwCl [(h0, .inr (1, [.ref qk, .ref qc, .int st, .int nn, .int ln]))] s.heap := hP
  have hl := lv_entry ([.ref h0]) (n := 1) (Nat.le_of_ble_eq_true rfl)
  rw [lg_entry_eq]
  generalize (lg_sl ([.ref h0]) ++ List.replicate (1 - (lg_sl ([.ref h0])).length) Slot.unset).toArray = ls at hl ⊢
  have hl : lv_has ls 1 [(0, .ref h0)] := hl
  refine lv_aload_n hx hb dX1_hasMessage_0 rfl (lv_at hl 0 rfl) ?_
  refine va_get (D := (dC, dI)) (ci := 1) (v := .int st) (C := RX1) (T := TX1) (N := 5) hx hb hts ki1 hown hK hP 0 rfl rfl 2 (by decide) k1 (fun _ h9 => h9) rfl dX1_hasMessage_1 ?_
  refine lv_iconst (v := 2) hx hb dX1_hasMessage_4 (by decide) ?_
  refine lv_icmp_eq (tgt := 16) hx hb dX1_hasMessage_5 (by decide) (fun c5 => ?_) (fun c5 => ?_)
  · refine lv_iconst (v := 1) hx hb dX1_hasMessage_16 (by decide) ?_
    refine lv_goto (tgt := 21) hx hb dX1_hasMessage_17 (by decide) ?_
    have hP9 := hP.sub (ws' := [(h0, .inr (1, [.ref qk, .ref qc, .int st, .int nn, .int ln]))]) [0] rfl
    have hD9 := hD.sub (ws' := [(h0, .inr (1, [.ref qk, .ref qc, .int st, .int nn, .int ln]))]) [0] (by decide) rfl
    exact W.zret (v := 1) hx hb hr (by rfl) (fun t ht hW => ⟨⟨1, (), rfl, (if_pos (Or.inl c5)).symm, by rw [ht]; exact hP9, va_K.moved hW.alike hK, hD9⟩, hS.F ht⟩) hS.2.2 dX1_hasMessage_21
  · refine lv_aload_n hx hb dX1_hasMessage_8 rfl (lv_at hl 0 rfl) ?_
    refine va_get (D := (dC, dI)) (ci := 1) (v := .int st) (C := RX1) (T := TX1) (N := 5) hx hb hts ki1 hown hK hP 0 rfl rfl 2 (by decide) k1 (fun _ h9 => h9) rfl dX1_hasMessage_9 ?_
    refine lv_iconst (v := 3) hx hb dX1_hasMessage_12 (by decide) ?_
    refine lv_icmp_ne (tgt := 20) hx hb dX1_hasMessage_13 (by decide) (fun c13 => ?_) (fun c13 => ?_)
    · refine lv_iconst (v := 0) hx hb dX1_hasMessage_20 (by decide) ?_
      have hP9 := hP.sub (ws' := [(h0, .inr (1, [.ref qk, .ref qc, .int st, .int nn, .int ln]))]) [0] rfl
      have hD9 := hD.sub (ws' := [(h0, .inr (1, [.ref qk, .ref qc, .int st, .int nn, .int ln]))]) [0] (by decide) rfl
      exact W.zret (v := 0) hx hb hr (by rfl) (fun t ht hW => ⟨⟨0, (), rfl, (if_neg (fun h => h.elim c5 (c13))).symm, by rw [ht]; exact hP9, va_K.moved hW.alike hK, hD9⟩, hS.F ht⟩) hS.2.2 dX1_hasMessage_21
    · refine lv_iconst (v := 1) hx hb dX1_hasMessage_16 (by decide) ?_
      refine lv_goto (tgt := 21) hx hb dX1_hasMessage_17 (by decide) ?_
      have hP9 := hP.sub (ws' := [(h0, .inr (1, [.ref qk, .ref qc, .int st, .int nn, .int ln]))]) [0] rfl
      have hD9 := hD.sub (ws' := [(h0, .inr (1, [.ref qk, .ref qc, .int st, .int nn, .int ln]))]) [0] (by decide) rfl
      exact W.zret (v := 1) hx hb hr (by rfl) (fun t ht hW => ⟨⟨1, (), rfl, (if_pos (Or.inr (c13))).symm, by rw [ht]; exact hP9, va_K.moved hW.alike hK, hD9⟩, hS.F ht⟩) hS.2.2 dX1_hasMessage_21

set_option maxHeartbeats 4000000 in
set_option maxRecDepth 100000 in
theorem cX1_length_ok (l : Launch) (dC : Nat → ClassId) (dI : Nat → Nat → Nat) (cA : ClassId) (tb : Nat → Nat) (sz : Nat) (h0 : Nat) (qk : Nat) (qc : Nat) (st : Int32) (nn : Int32) (ln : Int32) : Met l yX1_length wsX1_length ({ frames := 1, cells := 0, slots := 0, locals := 20 }) (va_Pc [.ref h0] (kd_I (dC, dI) cA tb sz [(h0, .inr (1, [.ref qk, .ref qc, .int st, .int nn, .int ln]))])) (va_Qi (fun (r : Int32) (u : Unit) => r = if kd_has st = 0 then -1 else ln) (fun u t => kd_O (dC, dI) cA (va_A [(h0, .inr (1, [.ref qk, .ref qc, .int st, .int nn, .int ln]))] sz) [(h0, .inr (1, [.ref qk, .ref qc, .int st, .int nn, .int ln]))] t) (va_A [(h0, .inr (1, [.ref qk, .ref qc, .int st, .int nn, .int ln]))] sz)) 0 0 (va_A [(h0, .inr (1, [.ref qk, .ref qc, .int st, .int nn, .int ln]))] sz) := by
  refine Met.ofW (cc := cX1_length) (maxL := 1) (ret := (some .int)) (by decide) rfl ?_
  intro p e s m args below meth c s₁ B hml hv
  obtain ⟨rfl, hsz, hP, hK, hD0, hT⟩ := hv
  have hx := B.exec
  have hb := B.bytes
  have hr := B.returns
  have hts := atoms_spec (ws := wsX1_length) B.pre
  have hown : s.vm.findClass RX1 = some m.cls := findClass_of_methodNamed B.named
  have hlocks := B.notSynchronized
  have ki1 : ∀ w ∈ u_ws RX1 TX1 5, w ∈ wsX1_length := by decide +kernel
  have k1 := hts (.fieldLink RX1 27 "KeyedDigest" "messageBytes" "I") (by decide +kernel)
  subst hsz
  have hD := hD0.self (sz := s.heap.size)
  generalize hAe : va_A [(h0, .inr (1, [.ref qk, .ref qc, .int st, .int nn, .int ln]))] s.heap.size = A at hD hT ⊢
  have hA : ∀ q : Nat, s.heap.size ≤ q → A q := fun q h => by rw [← hAe]; exact Or.inr h
  have hS : va_S A s.heap s.heap [] := va_S.rf
  have hP : va_P (dC, dI) vwCl [(h0, .inr (1, [.ref qk, .ref qc, .int st, .int nn, .int ln]))] s.heap := hP
  have hl := lv_entry ([.ref h0]) (n := 1) (Nat.le_of_ble_eq_true rfl)
  rw [lg_entry_eq]
  generalize (lg_sl ([.ref h0]) ++ List.replicate (1 - (lg_sl ([.ref h0])).length) Slot.unset).toArray = ls at hl ⊢
  have hl : lv_has ls 1 [(0, .ref h0)] := hl
  refine lv_aload_n hx hb dX1_length_0 rfl (lv_at hl 0 rfl) ?_
  have hPc := hP.sub (ws' := [(h0, .inr (1, [.ref qk, .ref qc, .int st, .int nn, .int ln]))]) [0] rfl
  have hDc := hD.sub (ws' := [(h0, .inr (1, [.ref qk, .ref qc, .int st, .int nn, .int ln]))]) [0] (by decide) rfl
  have hFc := va_free (wc := [(h0, .inr (1, [.ref qk, .ref qc, .int st, .int nn, .int ln]))]) hD hS hA [0] rfl
  refine va_calli (va_runV (As := []) (rest := []) ⟨hx, hb, hml, hown, hts⟩ (cX1_hasMessage_ok l dC dI cA tb s.heap.size h0 qk qc st nn ln ) (cwV 0 hts gX1_length_X1_hasMessage rfl rfl rfl (by decide +kernel) ⟨Nat.le_of_ble_eq_true rfl, Nat.le_of_ble_eq_true rfl⟩) ⟨fun a U g mk q => kd_calling rfl rfl q, va_recv hK hPc (ci := 1) (q0 := 0) rfl rfl, fun U hU hW => ⟨rfl, kd_pre hPc hK hDc hT hS hFc U hU hW⟩⟩ rfl rfl hl.1 rfl (lv_room (Nat.le_of_ble_eq_true rfl)) dX1_length_1 ⟨Nat.le_of_ble_eq_true rfl, Nat.le_of_ble_eq_true rfl⟩) hS (fun q _ h => hFc q h) hFc (fun r1 u t H1 locs ht hvm hw hB hz1 hk1 hS => ?_)
  have hw1 : r1 = kd_has st := hw
  have hP1 : va_P (dC, dI) vwCl [(h0, .inr (1, [.ref qk, .ref qc, .int st, .int nn, .int ln]))] H1 := by rw [← ht]; exact hB.1
  have hD1 : va_D (va_A [(h0, .inr (1, [.ref qk, .ref qc, .int st, .int nn, .int ln]))] s.heap.size) [(h0, .inr (1, [.ref qk, .ref qc, .int st, .int nn, .int ln]))] := hB.2.2
  obtain ⟨hP, hD⟩ := va_join (wr := []) (w1 := [(h0, .inr (1, [.ref qk, .ref qc, .int st, .int nn, .int ln]))]) hP hD [0] [] rfl rfl (by decide) (by decide) hk1 hFc hP1 hD1
  clear hw hB hk1 hPc hDc hFc hP1 hD1 hvm hz1
  generalize H1 = H at hP hS ⊢
  have hP : va_P (dC, dI) vwCl [(h0, .inr (1, [.ref qk, .ref qc, .int st, .int nn, .int ln]))] H := hP
  have hD : va_D A [(h0, .inr (1, [.ref qk, .ref qc, .int st, .int nn, .int ln]))] := hD
  refine lv_if_eq (tgt := 14) hx hb dX1_length_4 (by decide) (fun c4 => ?_) (fun c4 => ?_)
  · refine lv_iconst (v := (-1)) hx hb dX1_length_14 (by decide) ?_
    have hP9 := hP.sub (ws' := [(h0, .inr (1, [.ref qk, .ref qc, .int st, .int nn, .int ln]))]) [0] rfl
    have hD9 := hD.sub (ws' := [(h0, .inr (1, [.ref qk, .ref qc, .int st, .int nn, .int ln]))]) [0] (by decide) rfl
    exact W.iret (v := (-1)) hx hb hr (fun t ht hW => ⟨⟨(-1), (), rfl, (if_pos (hw1 ▸ c4)).symm, by rw [ht]; exact hP9, va_K.moved hW.alike hK, hD9⟩, hS.F ht⟩) hS.2.2 dX1_length_15
  · refine lv_aload_n hx hb dX1_length_7 rfl (lv_at hl 0 rfl) ?_
    refine va_get (D := (dC, dI)) (ci := 1) (v := .int ln) (C := RX1) (T := TX1) (N := 5) hx hb hts ki1 hown hK hP 0 rfl rfl 4 (by decide) k1 (fun _ h9 => h9) rfl dX1_length_8 ?_
    refine lv_goto (tgt := 15) hx hb dX1_length_11 (by decide) ?_
    have hP9 := hP.sub (ws' := [(h0, .inr (1, [.ref qk, .ref qc, .int st, .int nn, .int ln]))]) [0] rfl
    have hD9 := hD.sub (ws' := [(h0, .inr (1, [.ref qk, .ref qc, .int st, .int nn, .int ln]))]) [0] (by decide) rfl
    exact W.iret (v := ln) hx hb hr (fun t ht hW => ⟨⟨ln, (), rfl, (if_neg (hw1 ▸ c4)).symm, by rw [ht]; exact hP9, va_K.moved hW.alike hK, hD9⟩, hS.F ht⟩) hS.2.2 dX1_length_15

set_option maxHeartbeats 4000000 in
set_option maxRecDepth 100000 in
theorem cX1_init_ok (l : Launch) (dC : Nat → ClassId) (dI : Nat → Nat → Nat) (cA : ClassId) (tb : Nat → Nat) (sz : Nat) (h0 : Nat) : Met l yX1_init wsX1_init ({ frames := 2, cells := 5, slots := 77, locals := 44 }) (va_Pc [.ref h0] (kd_I (dC, dI) cA tb sz [(h0, .inr (1, [.null, .null, .int 0, .int 0, .int 0]))])) (va_Qv (fun (u : Nat × Nat × Nat × Nat × Nat) => True) (fun u t => kd_O (dC, dI) cA (va_A [(h0, .inr (1, [.null, .null, .int 0, .int 0, .int 0]))] sz) [(h0, .inr (1, [.ref u.1, .ref u.2.1, .int 0, .int 0, .int 0])), (u.1, .inl (cA, 32, .inl kd_0)), (u.2.1, .inr (0, [.ref u.2.2.1, .ref u.2.2.2.1, .ref u.2.2.2.2, .int (nI 0), .long 0])), (u.2.2.1, .inl (cA, 8, .inl kd_0)), (u.2.2.2.1, .inl (cA, 16, .inl kd_0)), (u.2.2.2.2, .inl (cA, 16, .inl kd_0))] t) (va_A [(h0, .inr (1, [.null, .null, .int 0, .int 0, .int 0]))] sz)) 5 77 (va_A [(h0, .inr (1, [.null, .null, .int 0, .int 0, .int 0]))] sz) := by
  refine Met.ofW (cc := cX1_init) (maxL := 1) (ret := none) (by decide) rfl ?_
  intro p e s m args below meth c s₁ B hml hv
  obtain ⟨rfl, hsz, hP, hK, hD0, hT⟩ := hv
  have hx := B.exec
  have hb := B.bytes
  have hr := B.returns
  have hts := atoms_spec (ws := wsX1_init) B.pre
  have hown : s.vm.findClass RX1 = some m.cls := findClass_of_methodNamed B.named
  have hlocks := B.notSynchronized
  have k0 := hts (.arrayClass .int) (by decide +kernel)
  have ki1 : ∀ w ∈ u_ws RX1 TX1 5, w ∈ wsX1_init := by decide +kernel
  have k2 := hts (.fieldLink RX1 9 "KeyedDigest" "key" "[I") (by decide +kernel)
  have ki0 : ∀ w ∈ u_ws RX0 TX0 5, w ∈ wsX1_init := by decide +kernel
  have k4 := hts (.fieldLink RX1 16 "KeyedDigest" "chain" "LKeyedDigest$Chain;") (by decide +kernel)
  have k5 := hts (.fieldLink RX1 20 "KeyedDigest" "state" "I") (by decide +kernel)
  have k6 := hts (.fieldLink RX1 24 "KeyedDigest" "digestBytes" "I") (by decide +kernel)
  have k7 := hts (.fieldLink RX1 27 "KeyedDigest" "messageBytes" "I") (by decide +kernel)
  have hin : meth.name = "<init>" := (name_of_methodNamed B.named B.method).1
  subst hsz
  have hD := hD0.self (sz := s.heap.size)
  generalize hAe : va_A [(h0, .inr (1, [.null, .null, .int 0, .int 0, .int 0]))] s.heap.size = A at hD hT ⊢
  have hA : ∀ q : Nat, s.heap.size ≤ q → A q := fun q h => by rw [← hAe]; exact Or.inr h
  have hS : va_S A s.heap s.heap [] := va_S.rf
  have hP : va_P (dC, dI) vwCl [(h0, .inr (1, [.null, .null, .int 0, .int 0, .int 0]))] s.heap := hP
  have hl := lv_entry ([.ref h0]) (n := 1) (Nat.le_of_ble_eq_true rfl)
  rw [lg_entry_eq]
  generalize (lg_sl ([.ref h0]) ++ List.replicate (1 - (lg_sl ([.ref h0])).length) Slot.unset).toArray = ls at hl ⊢
  have hl : lv_has ls 1 [(0, .ref h0)] := hl
  refine lv_aload_n hx hb dX1_init_0 rfl (lv_at hl 0 rfl) ?_
  refine W.objInit hx hb hown (hts (.methodLink RX1 1 objectInit) (by decide +kernel)) (hts (.instanceMethod objectInit) (by decide +kernel)) (hts (.code objectInit ⟨#[0xb1]⟩ 1 none) (by decide +kernel)) rfl (by rw [hml]; exact hl.1) rfl dX1_init_1 (Nat.le_of_ble_eq_true rfl) (Nat.le_of_ble_eq_true rfl) ?_
  refine W.eq (g2 := F0 m 4 ls []) rfl ?_
  refine lv_aload_n hx hb dX1_init_4 rfl (lv_at hl 0 rfl) ?_
  refine lv_bipush (v := 32) hx hb dX1_init_5 (by decide) ?_
  refine kd_newa hx hb k0 hK hP hD hS hA (n := 32) (N := 32) (by decide) (by decide) (by decide) (Nat.le_of_ble_eq_true rfl) (Nat.le_of_ble_eq_true rfl) dX1_init_7 (fun q7 H hP hD hS => ?_)
  have hP : va_P (dC, dI) vwCl [(h0, .inr (1, [.null, .null, .int 0, .int 0, .int 0])), (q7, .inl (cA, 32, .inl (fun _ => 0)))] H := hP
  have hD : va_D A [(h0, .inr (1, [.null, .null, .int 0, .int 0, .int 0])), (q7, .inl (cA, 32, .inl (fun _ => 0)))] := hD
  refine W.widen (k := 1) (n := 32) (by omega) (by omega) ?_
  refine va_putF (D := (dC, dI)) (ci := 1) (v := .ref q7) (ty := .array .int) (C := RX1) (T := TX1) (N := 5) hx hb hts ki1 tyX1 tyX1_ok nmX1 hown hK hP hD hS 0 rfl rfl 0 (by decide) k2 (fun _ h9 => h9) rfl hin rfl (by decide +kernel) rfl rfl (Nat.le_of_ble_eq_true rfl) dX1_init_9 (fun H locs hP hD hS => ?_)
  have hP : va_P (dC, dI) vwCl [(h0, .inr (1, [.ref q7, .null, .int 0, .int 0, .int 0])), (q7, .inl (cA, 32, .inl (fun _ => 0)))] H := hP
  have hD : va_D A [(h0, .inr (1, [.ref q7, .null, .int 0, .int 0, .int 0])), (q7, .inl (cA, 32, .inl (fun _ => 0)))] := hD
  refine lv_aload_n hx hb dX1_init_12 rfl (lv_at hl 0 rfl) ?_
  refine va_new (ci := 0) (fs := [.null, .null, .null, .int 0, .long 0]) (C := RX0) (T := TX0) (N := 5) hx hb hts ki0 tyX0 tyX0_ok hown (hts (.classLink RX1 13 RX0) (by decide +kernel)) (hts (.instantiable RX0 5) (by decide +kernel)) (hts (.initialized RX0) (by decide +kernel)) hK hP hD hS hA rfl (fun j hj => by rcases (show j = 0 ∨ j = 1 ∨ j = 2 ∨ j = 3 ∨ j = 4 by omega) with rfl | rfl | rfl | rfl | rfl <;> rfl) (Nat.le_of_ble_eq_true rfl) (Nat.le_of_ble_eq_true rfl) dX1_init_13 (fun q13 H hP hD hS => ?_)
  have hP : va_P (dC, dI) vwCl [(h0, .inr (1, [.ref q7, .null, .int 0, .int 0, .int 0])), (q7, .inl (cA, 32, .inl (fun _ => 0))), (q13, .inr (0, [.null, .null, .null, .int 0, .long 0]))] H := hP
  have hD : va_D A [(h0, .inr (1, [.ref q7, .null, .int 0, .int 0, .int 0])), (q7, .inl (cA, 32, .inl (fun _ => 0))), (q13, .inr (0, [.null, .null, .null, .int 0, .long 0]))] := hD
  refine W.widen (k := 2) (n := 37) (by omega) (by omega) ?_
  refine lv_dup hx hb dX1_init_16 rfl ?_
  have hPc := hP.sub (ws' := [(q13, .inr (0, [.null, .null, .null, .int 0, .long 0]))]) [2] rfl
  have hDc := hD.sub (ws' := [(q13, .inr (0, [.null, .null, .null, .int 0, .long 0]))]) [2] (by decide) rfl
  have hFc := va_free (wc := [(q13, .inr (0, [.null, .null, .null, .int 0, .long 0]))]) hD hS hA [2] rfl
  refine va_callv (va_runI (As := []) (rest := [.ref q13, .ref h0]) ⟨hx, hb, hml, hown, hts⟩ (cX0_init_ok l dC dI cA tb H.size q13 ) (cwI 0 hts gX1_init_X0_init rfl rfl rfl (hts (.initialized RX0) (by decide +kernel)) (hts (.methodLink RX1 15 yX0_init) (by decide +kernel)) (hts (.instanceMethod yX0_init) (by decide +kernel)) rfl (by decide +kernel) ⟨Nat.le_of_ble_eq_true rfl, Nat.le_of_ble_eq_true rfl⟩) ⟨fun a U g mk q => kd_calling rfl rfl q, fun U hU hW => ⟨rfl, kd_pre hPc hK hDc hT hS hFc U hU hW⟩⟩ rfl rfl hl.1 rfl (lv_room (Nat.le_of_ble_eq_true rfl)) dX1_init_17 ⟨Nat.le_of_ble_eq_true rfl, Nat.le_of_ble_eq_true rfl⟩) hS (fun q _ h => hFc q h) hFc (fun u t H1 locs ht hvm hw hB hz1 hk1 hS => ?_)
  obtain ⟨qh17, qm17, qv17⟩ := u
  have hw17 : True := hw
  have hP1 : va_P (dC, dI) vwCl [(q13, .inr (0, [.ref qh17, .ref qm17, .ref qv17, .int 0, .long 0])), (qh17, .inl (cA, 8, .inl kd_0)), (qm17, .inl (cA, 16, .inl kd_0)), (qv17, .inl (cA, 16, .inl kd_0))] H1 := by rw [← ht]; exact hB.1
  have hD1 : va_D (va_A [(q13, .inr (0, [.null, .null, .null, .int 0, .long 0]))] H.size) [(q13, .inr (0, [.ref qh17, .ref qm17, .ref qv17, .int 0, .long 0])), (qh17, .inl (cA, 8, .inl kd_0)), (qm17, .inl (cA, 16, .inl kd_0)), (qv17, .inl (cA, 16, .inl kd_0))] := hB.2.2
  obtain ⟨hP, hD⟩ := va_join (wr := [(h0, .inr (1, [.ref q7, .null, .int 0, .int 0, .int 0])), (q7, .inl (cA, 32, .inl (fun _ => 0)))]) (w1 := [(q13, .inr (0, [.ref qh17, .ref qm17, .ref qv17, .int 0, .long 0])), (qh17, .inl (cA, 8, .inl kd_0)), (qm17, .inl (cA, 16, .inl kd_0)), (qv17, .inl (cA, 16, .inl kd_0))]) hP hD [2] [0, 1] rfl rfl (by decide) (by decide) hk1 hFc hP1 hD1
  clear hw hB hk1 hPc hDc hFc hP1 hD1 hvm hz1
  generalize H1 = H at hP hS ⊢
  have hP : va_P (dC, dI) vwCl [(h0, .inr (1, [.ref q7, .null, .int 0, .int 0, .int 0])), (q7, .inl (cA, 32, .inl (fun _ => 0))), (q13, .inr (0, [.ref qh17, .ref qm17, .ref qv17, .int 0, .long 0])), (qh17, .inl (cA, 8, .inl kd_0)), (qm17, .inl (cA, 16, .inl kd_0)), (qv17, .inl (cA, 16, .inl kd_0))] H := hP
  have hD : va_D A [(h0, .inr (1, [.ref q7, .null, .int 0, .int 0, .int 0])), (q7, .inl (cA, 32, .inl (fun _ => 0))), (q13, .inr (0, [.ref qh17, .ref qm17, .ref qv17, .int 0, .long 0])), (qh17, .inl (cA, 8, .inl kd_0)), (qm17, .inl (cA, 16, .inl kd_0)), (qv17, .inl (cA, 16, .inl kd_0))] := hD
  refine va_putF (D := (dC, dI)) (ci := 1) (v := .ref q13) (ty := .object "KeyedDigest$Chain") (C := RX1) (T := TX1) (N := 5) hx hb hts ki1 tyX1 tyX1_ok nmX1 hown hK hP hD hS 0 rfl rfl 1 (by decide) k4 (fun _ h9 => h9) rfl hin rfl (by decide +kernel) rfl rfl (Nat.le_of_ble_eq_true rfl) dX1_init_20 (fun H locs hP hD hS => ?_)
  have hP : va_P (dC, dI) vwCl [(h0, .inr (1, [.ref q7, .ref q13, .int 0, .int 0, .int 0])), (q7, .inl (cA, 32, .inl (fun _ => 0))), (q13, .inr (0, [.ref qh17, .ref qm17, .ref qv17, .int 0, .long 0])), (qh17, .inl (cA, 8, .inl kd_0)), (qm17, .inl (cA, 16, .inl kd_0)), (qv17, .inl (cA, 16, .inl kd_0))] H := hP
  have hD : va_D A [(h0, .inr (1, [.ref q7, .ref q13, .int 0, .int 0, .int 0])), (q7, .inl (cA, 32, .inl (fun _ => 0))), (q13, .inr (0, [.ref qh17, .ref qm17, .ref qv17, .int 0, .long 0])), (qh17, .inl (cA, 8, .inl kd_0)), (qm17, .inl (cA, 16, .inl kd_0)), (qv17, .inl (cA, 16, .inl kd_0))] := hD
  refine lv_aload_n hx hb dX1_init_23 rfl (lv_at hl 0 rfl) ?_
  refine lv_iconst (v := 0) hx hb dX1_init_24 (by decide) ?_
  refine va_put (D := (dC, dI)) (ci := 1) (v := .int 0) (ty := .int) (C := RX1) (T := TX1) (N := 5) hx hb hts ki1 tyX1 tyX1_ok nmX1 hown hK hP hD hS 0 rfl rfl 2 (by decide) k5 (fun _ h9 => h9) rfl (by decide +kernel) rfl rfl (Nat.le_of_ble_eq_true rfl) dX1_init_25 (fun H locs hP hD hS => ?_)
  have hP : va_P (dC, dI) vwCl [(h0, .inr (1, [.ref q7, .ref q13, .int 0, .int 0, .int 0])), (q7, .inl (cA, 32, .inl (fun _ => 0))), (q13, .inr (0, [.ref qh17, .ref qm17, .ref qv17, .int 0, .long 0])), (qh17, .inl (cA, 8, .inl kd_0)), (qm17, .inl (cA, 16, .inl kd_0)), (qv17, .inl (cA, 16, .inl kd_0))] H := hP
  have hD : va_D A [(h0, .inr (1, [.ref q7, .ref q13, .int 0, .int 0, .int 0])), (q7, .inl (cA, 32, .inl (fun _ => 0))), (q13, .inr (0, [.ref qh17, .ref qm17, .ref qv17, .int 0, .long 0])), (qh17, .inl (cA, 8, .inl kd_0)), (qm17, .inl (cA, 16, .inl kd_0)), (qv17, .inl (cA, 16, .inl kd_0))] := hD
  refine lv_aload_n hx hb dX1_init_28 rfl (lv_at hl 0 rfl) ?_
  refine lv_iconst (v := 0) hx hb dX1_init_29 (by decide) ?_
  refine va_put (D := (dC, dI)) (ci := 1) (v := .int 0) (ty := .int) (C := RX1) (T := TX1) (N := 5) hx hb hts ki1 tyX1 tyX1_ok nmX1 hown hK hP hD hS 0 rfl rfl 3 (by decide) k6 (fun _ h9 => h9) rfl (by decide +kernel) rfl rfl (Nat.le_of_ble_eq_true rfl) dX1_init_30 (fun H locs hP hD hS => ?_)
  have hP : va_P (dC, dI) vwCl [(h0, .inr (1, [.ref q7, .ref q13, .int 0, .int 0, .int 0])), (q7, .inl (cA, 32, .inl (fun _ => 0))), (q13, .inr (0, [.ref qh17, .ref qm17, .ref qv17, .int 0, .long 0])), (qh17, .inl (cA, 8, .inl kd_0)), (qm17, .inl (cA, 16, .inl kd_0)), (qv17, .inl (cA, 16, .inl kd_0))] H := hP
  have hD : va_D A [(h0, .inr (1, [.ref q7, .ref q13, .int 0, .int 0, .int 0])), (q7, .inl (cA, 32, .inl (fun _ => 0))), (q13, .inr (0, [.ref qh17, .ref qm17, .ref qv17, .int 0, .long 0])), (qh17, .inl (cA, 8, .inl kd_0)), (qm17, .inl (cA, 16, .inl kd_0)), (qv17, .inl (cA, 16, .inl kd_0))] := hD
  refine lv_aload_n hx hb dX1_init_33 rfl (lv_at hl 0 rfl) ?_
  refine lv_iconst (v := 0) hx hb dX1_init_34 (by decide) ?_
  refine va_put (D := (dC, dI)) (ci := 1) (v := .int 0) (ty := .int) (C := RX1) (T := TX1) (N := 5) hx hb hts ki1 tyX1 tyX1_ok nmX1 hown hK hP hD hS 0 rfl rfl 4 (by decide) k7 (fun _ h9 => h9) rfl (by decide +kernel) rfl rfl (Nat.le_of_ble_eq_true rfl) dX1_init_35 (fun H locs hP hD hS => ?_)
  have hP : va_P (dC, dI) vwCl [(h0, .inr (1, [.ref q7, .ref q13, .int 0, .int 0, .int 0])), (q7, .inl (cA, 32, .inl (fun _ => 0))), (q13, .inr (0, [.ref qh17, .ref qm17, .ref qv17, .int 0, .long 0])), (qh17, .inl (cA, 8, .inl kd_0)), (qm17, .inl (cA, 16, .inl kd_0)), (qv17, .inl (cA, 16, .inl kd_0))] H := hP
  have hD : va_D A [(h0, .inr (1, [.ref q7, .ref q13, .int 0, .int 0, .int 0])), (q7, .inl (cA, 32, .inl (fun _ => 0))), (q13, .inr (0, [.ref qh17, .ref qm17, .ref qv17, .int 0, .long 0])), (qh17, .inl (cA, 8, .inl kd_0)), (qm17, .inl (cA, 16, .inl kd_0)), (qv17, .inl (cA, 16, .inl kd_0))] := hD
  have hP9 := hP.sub (ws' := [(h0, .inr (1, [.ref q7, .ref q13, .int 0, .int 0, .int 0])), (q7, .inl (cA, 32, .inl kd_0)), (q13, .inr (0, [.ref qh17, .ref qm17, .ref qv17, .int (nI 0), .long 0])), (qh17, .inl (cA, 8, .inl kd_0)), (qm17, .inl (cA, 16, .inl kd_0)), (qv17, .inl (cA, 16, .inl kd_0))]) [0, 1, 2, 3, 4, 5] rfl
  have hD9 := hD.sub (ws' := [(h0, .inr (1, [.ref q7, .ref q13, .int 0, .int 0, .int 0])), (q7, .inl (cA, 32, .inl kd_0)), (q13, .inr (0, [.ref qh17, .ref qm17, .ref qv17, .int (nI 0), .long 0])), (qh17, .inl (cA, 8, .inl kd_0)), (qm17, .inl (cA, 16, .inl kd_0)), (qv17, .inl (cA, 16, .inl kd_0))]) [0, 1, 2, 3, 4, 5] (by decide) rfl
  refine W.widen (k := 5) (n := 77) (by omega) (by omega) ?_
  exact W.vret hx hb hr (fun t ht hW => ⟨⟨(q7, q13, qh17, qm17, qv17), rfl, trivial, by rw [ht]; exact hP9, va_K.moved hW.alike hK, hD9⟩, hS.F ht⟩) hS.2.2 dX1_init_38

set_option maxHeartbeats 4000000 in
set_option maxRecDepth 100000 in
theorem cX1_init__ok (l : Launch) (dC : Nat → ClassId) (dI : Nat → Nat → Nat) (cA : ClassId) (tb : Nat → Nat) (sz : Nat) (h0 : Nat) (qk : Nat) (qc : Nat) (key : Nat → Int32) (st : Int32) (nn : Int32) (ln : Int32) : Met l yX1_init_ wsX1_init_ ({ frames := 0, cells := 0, slots := 0, locals := 0 }) (va_Pc [.ref h0] (kd_I (dC, dI) cA tb sz [(h0, .inr (1, [.ref qk, .ref qc, .int st, .int nn, .int ln])), (qk, .inl (cA, 32, .inl key))])) (va_Qv (fun (u : Unit) => True) (fun u t => kd_O (dC, dI) cA (va_A [(h0, .inr (1, [.ref qk, .ref qc, .int st, .int nn, .int ln])), (qk, .inl (cA, 32, .inl key))] sz) [(h0, .inr (1, [.ref qk, .ref qc, .int 1, .int nn, .int ln])), (qk, .inl (cA, 32, .inl kd_0))] t) (va_A [(h0, .inr (1, [.ref qk, .ref qc, .int st, .int nn, .int ln])), (qk, .inl (cA, 32, .inl key))] sz)) 0 0 (va_A [(h0, .inr (1, [.ref qk, .ref qc, .int st, .int nn, .int ln])), (qk, .inl (cA, 32, .inl key))] sz) := by
  refine Met.ofW (cc := cX1_init_) (maxL := 2) (ret := none) (by decide) rfl ?_
  intro p e s m args below meth c s₁ B hml hv
  obtain ⟨rfl, hsz, hP, hK, hD0, hT⟩ := hv
  have hx := B.exec
  have hb := B.bytes
  have hr := B.returns
  have hts := atoms_spec (ws := wsX1_init_) B.pre
  have hown : s.vm.findClass RX1 = some m.cls := findClass_of_methodNamed B.named
  have hlocks := B.notSynchronized
  have ki1 : ∀ w ∈ u_ws RX1 TX1 5, w ∈ wsX1_init_ := by decide +kernel
  have k1 := hts (.fieldLink RX1 20 "KeyedDigest" "state" "I") (by decide +kernel)
  have k2 := hts (.fieldLink RX1 9 "KeyedDigest" "key" "[I") (by decide +kernel)
  subst hsz
  have hD := hD0.self (sz := s.heap.size)
  generalize hAe : va_A [(h0, .inr (1, [.ref qk, .ref qc, .int st, .int nn, .int ln])), (qk, .inl (cA, 32, .inl key))] s.heap.size = A at hD hT ⊢
  have hA : ∀ q : Nat, s.heap.size ≤ q → A q := fun q h => by rw [← hAe]; exact Or.inr h
  have hS : va_S A s.heap s.heap [] := va_S.rf
  have hP : va_P (dC, dI) vwCl [(h0, .inr (1, [.ref qk, .ref qc, .int st, .int nn, .int ln])), (qk, .inl (cA, 32, .inl key))] s.heap := hP
  have hl := lv_entry ([.ref h0]) (n := 2) (Nat.le_of_ble_eq_true rfl)
  rw [lg_entry_eq]
  generalize (lg_sl ([.ref h0]) ++ List.replicate (2 - (lg_sl ([.ref h0])).length) Slot.unset).toArray = ls at hl ⊢
  have hl : lv_has ls 2 [(0, .ref h0)] := hl
  refine lv_iconst (v := 0) hx hb dX1_init__0 (by decide) ?_
  refine lv_istore_n (lv' := [(1, .int 0), (0, .ref h0)]) hx hb dX1_init__1 rfl hl (by decide) rfl (fun ls hl => ?_)
  have lp : ∀ (k : Nat) (i : Nat) (x : Int32) (f : Nat → Int32), (i ≤ 32) → (32 - i < k) → (x = nI i) → (∀ j, j < i → f j = 0) → ∀ (H : Heap) (locs : List Loc) (ls : Array Slot), va_P (dC, dI) vwCl [(h0, .inr (1, [.ref qk, .ref qc, .int st, .int nn, .int ln])), (qk, .inl (cA, 32, .inl f))] H → va_D A [(h0, .inr (1, [.ref qk, .ref qc, .int st, .int nn, .int ln])), (qk, .inl (cA, 32, .inl f))] → va_S A s.heap H locs → lv_has ls 2 [(1, .int x), (0, .ref h0)] → W p l e (headSpec wsX1_init_ { frames := 0, cells := 0, slots := 0, locals := 0 }).room s m ([.ref h0]).toArray below meth c H locs 0 0 (MQ below (va_Qv (fun (u : Unit) => True) (fun u t => kd_O (dC, dI) cA A [(h0, .inr (1, [.ref qk, .ref qc, .int 1, .int nn, .int ln])), (qk, .inl (cA, 32, .inl kd_0))] t) A) ([.ref h0]).toArray s 0 0 A) (F0 m 2 ls []) := by
    intro k
    induction k with
    | zero =>
      intro i x f hi hk ex hf
      omega
    | succ k ih =>
      intro i x f hi hk ex hf H locs ls hP hD hS hl
      refine lv_iload_n hx hb dX1_init__2 rfl (lv_at hl 0 rfl) ?_
      refine lv_bipush (v := 32) hx hb dX1_init__3 (by decide) ?_
      refine lv_icmp_ge (tgt := 21) hx hb dX1_init__5 (by decide) (fun c5 => ?_) (fun c5 => ?_)
      · have hge : 32 ≤ i := kd_ge (n := 32) ex (by omega) (by decide) c5
        have hP := kd_arrP hP hD 1 rfl kd_0 (fun j hj => hf j (by omega))
        have hD := hD.set (p := 1) (e := .inl (cA, 32, .inl kd_0)) rfl
        have hP : va_P (dC, dI) vwCl [(h0, .inr (1, [.ref qk, .ref qc, .int st, .int nn, .int ln])), (qk, .inl (cA, 32, .inl kd_0))] H := hP
        have hD : va_D A [(h0, .inr (1, [.ref qk, .ref qc, .int st, .int nn, .int ln])), (qk, .inl (cA, 32, .inl kd_0))] := hD
        refine lv_aload_n hx hb dX1_init__21 rfl (lv_at hl 1 rfl) ?_
        refine lv_iconst (v := 1) hx hb dX1_init__22 (by decide) ?_
        refine va_put (D := (dC, dI)) (ci := 1) (v := .int 1) (ty := .int) (C := RX1) (T := TX1) (N := 5) hx hb hts ki1 tyX1 tyX1_ok nmX1 hown hK hP hD hS 0 rfl rfl 2 (by decide) k1 (fun _ h9 => h9) rfl (by decide +kernel) rfl rfl (Nat.le_of_ble_eq_true rfl) dX1_init__23 (fun H locs hP hD hS => ?_)
        have hP : va_P (dC, dI) vwCl [(h0, .inr (1, [.ref qk, .ref qc, .int 1, .int nn, .int ln])), (qk, .inl (cA, 32, .inl kd_0))] H := hP
        have hD : va_D A [(h0, .inr (1, [.ref qk, .ref qc, .int 1, .int nn, .int ln])), (qk, .inl (cA, 32, .inl kd_0))] := hD
        have hP9 := hP.sub (ws' := [(h0, .inr (1, [.ref qk, .ref qc, .int 1, .int nn, .int ln])), (qk, .inl (cA, 32, .inl kd_0))]) [0, 1] rfl
        have hD9 := hD.sub (ws' := [(h0, .inr (1, [.ref qk, .ref qc, .int 1, .int nn, .int ln])), (qk, .inl (cA, 32, .inl kd_0))]) [0, 1] (by decide) rfl
        exact W.vret hx hb hr (fun t ht hW => ⟨⟨(), rfl, trivial, by rw [ht]; exact hP9, va_K.moved hW.alike hK, hD9⟩, hS.F ht⟩) hS.2.2 dX1_init__26
      · have hlt : i < 32 := kd_lt (n := 32) ex (by omega) (by decide) c5
        refine lv_aload_n hx hb dX1_init__8 rfl (lv_at hl 1 rfl) ?_
        refine va_get (D := (dC, dI)) (ci := 1) (v := .ref qk) (C := RX1) (T := TX1) (N := 5) hx hb hts ki1 hown hK hP 0 rfl rfl 0 (by decide) k2 (fun _ h9 => h9) rfl dX1_init__9 ?_
        refine lv_iload_n hx hb dX1_init__12 rfl (lv_at hl 0 rfl) ?_
        refine lv_iconst (v := 0) hx hb dX1_init__13 (by decide) ?_
        refine kd_ist i hx hb hK hP hD hS 1 0 rfl rfl ex hlt (by decide) dX1_init__14 (fun f14 ef14 H locs hP hD hS => ?_)
        have hP : va_P (dC, dI) vwCl [(h0, .inr (1, [.ref qk, .ref qc, .int st, .int nn, .int ln])), (qk, .inl (cA, 32, .inl f14))] H := hP
        have hD : va_D A [(h0, .inr (1, [.ref qk, .ref qc, .int st, .int nn, .int ln])), (qk, .inl (cA, 32, .inl f14))] := hD
        obtain ⟨x15, ex15⟩ : ∃ zz : Int32, zz = x + 1 := ⟨_, rfl⟩
        refine lv_iinc (v := x15) (lv' := [(1, .int x15), (0, .ref h0)]) hx hb dX1_init__15 hl (k := 0) rfl (by rw [ex15]; rfl) (by decide) rfl (fun ls hl => ?_)
        refine lv_goto (tgt := 2) hx hb dX1_init__18 (by decide) ?_
        exact ih  (i + 1) x15 f14 (by omega) (by omega) (by rw [ex15, ex]; exact nI_1 i) (fun j hj => by rw [ef14]; unfold upd; split; rfl; exact hf j (by omega)) _ _ ls (hP.sub [0, 1] rfl) (hD.sub [0, 1] (by decide) rfl) hS (lv_sub hl [0, 1] rfl)
  exact lp 33 0 0 key (by omega) (by omega) rfl (fun j hj => absurd hj (Nat.not_lt_zero j)) _ _ ls (hP.sub [0, 1] rfl) (hD.sub [0, 1] (by decide) rfl) hS (lv_sub hl [0, 1] rfl)

set_option maxHeartbeats 4000000 in
set_option maxRecDepth 100000 in
theorem cX1_setKeyByte_ok (l : Launch) (dC : Nat → ClassId) (dI : Nat → Nat → Nat) (cA : ClassId) (tb : Nat → Nat) (sz : Nat) (h0 : Nat) (qk : Nat) (qc : Nat) (key : Nat → Int32) (st : Int32) (nn : Int32) (ln : Int32) (i : Int32) (b : Int32) : Met l yX1_setKeyByte wsX1_setKeyByte ({ frames := 1, cells := 0, slots := 0, locals := 20 }) (va_Pc [.ref h0, .int i, .int b] (kd_I (dC, dI) cA tb sz [(h0, .inr (1, [.ref qk, .ref qc, .int st, .int nn, .int ln])), (qk, .inl (cA, 32, .inl key))])) (va_Qi (fun (r : Int32) (u : (Nat → Int32)) => (r, u) = kd_set (i < 0 ∨ 32 ≤ i ∨ kd_isB b = 0 ∨ st = 2) key i b) (fun u t => kd_O (dC, dI) cA (va_A [(h0, .inr (1, [.ref qk, .ref qc, .int st, .int nn, .int ln])), (qk, .inl (cA, 32, .inl key))] sz) [(h0, .inr (1, [.ref qk, .ref qc, .int st, .int nn, .int ln])), (qk, .inl (cA, 32, .inl u))] t) (va_A [(h0, .inr (1, [.ref qk, .ref qc, .int st, .int nn, .int ln])), (qk, .inl (cA, 32, .inl key))] sz)) 0 0 (va_A [(h0, .inr (1, [.ref qk, .ref qc, .int st, .int nn, .int ln])), (qk, .inl (cA, 32, .inl key))] sz) := by
  refine Met.ofW (cc := cX1_setKeyByte) (maxL := 3) (ret := (some .boolean)) (by decide) rfl ?_
  intro p e s m args below meth c s₁ B hml hv
  obtain ⟨rfl, hsz, hP, hK, hD0, hT⟩ := hv
  have hx := B.exec
  have hb := B.bytes
  have hr := B.returns
  have hts := atoms_spec (ws := wsX1_setKeyByte) B.pre
  have hown : s.vm.findClass RX1 = some m.cls := findClass_of_methodNamed B.named
  have hlocks := B.notSynchronized
  have ki1 : ∀ w ∈ u_ws RX1 TX1 5, w ∈ wsX1_setKeyByte := by decide +kernel
  have k1 := hts (.fieldLink RX1 20 "KeyedDigest" "state" "I") (by decide +kernel)
  have k2 := hts (.fieldLink RX1 9 "KeyedDigest" "key" "[I") (by decide +kernel)
  subst hsz
  have hD := hD0.self (sz := s.heap.size)
  generalize hAe : va_A [(h0, .inr (1, [.ref qk, .ref qc, .int st, .int nn, .int ln])), (qk, .inl (cA, 32, .inl key))] s.heap.size = A at hD hT ⊢
  have hA : ∀ q : Nat, s.heap.size ≤ q → A q := fun q h => by rw [← hAe]; exact Or.inr h
  have hS : va_S A s.heap s.heap [] := va_S.rf
  have hP : va_P (dC, dI) vwCl [(h0, .inr (1, [.ref qk, .ref qc, .int st, .int nn, .int ln])), (qk, .inl (cA, 32, .inl key))] s.heap := hP
  have hl := lv_entry ([.ref h0, .int i, .int b]) (n := 3) (Nat.le_of_ble_eq_true rfl)
  rw [lg_entry_eq]
  generalize (lg_sl ([.ref h0, .int i, .int b]) ++ List.replicate (3 - (lg_sl ([.ref h0, .int i, .int b])).length) Slot.unset).toArray = ls at hl ⊢
  have hl : lv_has ls 3 [(0, .ref h0), (1, .int i), (2, .int b)] := hl
  refine lv_iload_n hx hb dX1_setKeyByte_0 rfl (lv_at hl 1 rfl) ?_
  refine lv_if_lt (tgt := 25) hx hb dX1_setKeyByte_1 (by decide) (fun c1 => ?_) (fun c1 => ?_)
  · refine lv_iconst (v := 0) hx hb dX1_setKeyByte_25 (by decide) ?_
    have hP9 := hP.sub (ws' := [(h0, .inr (1, [.ref qk, .ref qc, .int st, .int nn, .int ln])), (qk, .inl (cA, 32, .inl key))]) [0, 1] rfl
    have hD9 := hD.sub (ws' := [(h0, .inr (1, [.ref qk, .ref qc, .int st, .int nn, .int ln])), (qk, .inl (cA, 32, .inl key))]) [0, 1] (by decide) rfl
    exact W.zret (v := 0) hx hb hr (by rfl) (fun t ht hW => ⟨⟨0, (key), rfl, ((if_pos (Or.inl c1))).symm, by rw [ht]; exact hP9, va_K.moved hW.alike hK, hD9⟩, hS.F ht⟩) hS.2.2 dX1_setKeyByte_26
  · refine lv_iload_n hx hb dX1_setKeyByte_4 rfl (lv_at hl 1 rfl) ?_
    refine lv_bipush (v := 32) hx hb dX1_setKeyByte_5 (by decide) ?_
    refine lv_icmp_ge (tgt := 25) hx hb dX1_setKeyByte_7 (by decide) (fun c7 => ?_) (fun c7 => ?_)
    · refine lv_iconst (v := 0) hx hb dX1_setKeyByte_25 (by decide) ?_
      have hP9 := hP.sub (ws' := [(h0, .inr (1, [.ref qk, .ref qc, .int st, .int nn, .int ln])), (qk, .inl (cA, 32, .inl key))]) [0, 1] rfl
      have hD9 := hD.sub (ws' := [(h0, .inr (1, [.ref qk, .ref qc, .int st, .int nn, .int ln])), (qk, .inl (cA, 32, .inl key))]) [0, 1] (by decide) rfl
      exact W.zret (v := 0) hx hb hr (by rfl) (fun t ht hW => ⟨⟨0, (key), rfl, ((if_pos (Or.inr (Or.inl c7)))).symm, by rw [ht]; exact hP9, va_K.moved hW.alike hK, hD9⟩, hS.F ht⟩) hS.2.2 dX1_setKeyByte_26
    · refine lv_iload_n hx hb dX1_setKeyByte_10 rfl (lv_at hl 2 rfl) ?_
      have hPc := hP.sub (ws' := []) [] rfl
      have hDc := hD.sub (ws' := []) [] (by decide) rfl
      have hFc := va_free (wc := []) hD hS hA [] rfl
      refine va_calli (va_runS (As := [.int b]) (rest := []) ⟨hx, hb, hml, hown, hts⟩ (cX1_isByte_ok l dC dI cA tb s.heap.size b ) (va_cwS 1 hts gX1_setKeyByte_X1_isByte rfl rfl rfl (by decide +kernel) ⟨Nat.le_of_ble_eq_true rfl, Nat.le_of_ble_eq_true rfl⟩) ⟨fun a U g mk q => kd_calling rfl rfl q, fun U hU hW => ⟨rfl, kd_pre hPc hK hDc hT hS hFc U hU hW⟩⟩ rfl rfl hl.1 rfl (lv_room (Nat.le_of_ble_eq_true rfl)) dX1_setKeyByte_11 ⟨Nat.le_of_ble_eq_true rfl, Nat.le_of_ble_eq_true rfl⟩) hS (fun q _ h => hFc q h) hFc (fun r11 u t H1 locs ht hvm hw hB hz1 hk1 hS => ?_)
      have hw11 : r11 = kd_isB b := hw
      have hP1 : va_P (dC, dI) vwCl [] H1 := by rw [← ht]; exact hB.1
      have hD1 : va_D (va_A [] s.heap.size) [] := hB.2.2
      obtain ⟨hP, hD⟩ := va_join (wr := [(h0, .inr (1, [.ref qk, .ref qc, .int st, .int nn, .int ln])), (qk, .inl (cA, 32, .inl key))]) (w1 := []) hP hD [] [0, 1] rfl rfl (by decide) (by decide) hk1 hFc hP1 hD1
      clear hw hB hk1 hPc hDc hFc hP1 hD1 hvm hz1
      generalize H1 = H at hP hS ⊢
      have hP : va_P (dC, dI) vwCl [(h0, .inr (1, [.ref qk, .ref qc, .int st, .int nn, .int ln])), (qk, .inl (cA, 32, .inl key))] H := hP
      have hD : va_D A [(h0, .inr (1, [.ref qk, .ref qc, .int st, .int nn, .int ln])), (qk, .inl (cA, 32, .inl key))] := hD
      refine lv_if_eq (tgt := 25) hx hb dX1_setKeyByte_14 (by decide) (fun c14 => ?_) (fun c14 => ?_)
      · refine lv_iconst (v := 0) hx hb dX1_setKeyByte_25 (by decide) ?_
        have hP9 := hP.sub (ws' := [(h0, .inr (1, [.ref qk, .ref qc, .int st, .int nn, .int ln])), (qk, .inl (cA, 32, .inl key))]) [0, 1] rfl
        have hD9 := hD.sub (ws' := [(h0, .inr (1, [.ref qk, .ref qc, .int st, .int nn, .int ln])), (qk, .inl (cA, 32, .inl key))]) [0, 1] (by decide) rfl
        exact W.zret (v := 0) hx hb hr (by rfl) (fun t ht hW => ⟨⟨0, (key), rfl, ((if_pos (Or.inr (Or.inr (Or.inl (hw11 ▸ c14)))))).symm, by rw [ht]; exact hP9, va_K.moved hW.alike hK, hD9⟩, hS.F ht⟩) hS.2.2 dX1_setKeyByte_26
      · refine lv_aload_n hx hb dX1_setKeyByte_17 rfl (lv_at hl 0 rfl) ?_
        refine va_get (D := (dC, dI)) (ci := 1) (v := .int st) (C := RX1) (T := TX1) (N := 5) hx hb hts ki1 hown hK hP 0 rfl rfl 2 (by decide) k1 (fun _ h9 => h9) rfl dX1_setKeyByte_18 ?_
        refine lv_iconst (v := 2) hx hb dX1_setKeyByte_21 (by decide) ?_
        refine lv_icmp_ne (tgt := 27) hx hb dX1_setKeyByte_22 (by decide) (fun c22 => ?_) (fun c22 => ?_)
        · obtain ⟨j, hj, ej⟩ := kd_ix (n := 32) (by decide) c1 c7
          refine lv_aload_n hx hb dX1_setKeyByte_27 rfl (lv_at hl 0 rfl) ?_
          refine va_get (D := (dC, dI)) (ci := 1) (v := .ref qk) (C := RX1) (T := TX1) (N := 5) hx hb hts ki1 hown hK hP 0 rfl rfl 0 (by decide) k2 (fun _ h9 => h9) rfl dX1_setKeyByte_28 ?_
          refine lv_iload_n hx hb dX1_setKeyByte_31 rfl (lv_at hl 1 rfl) ?_
          refine lv_iload_n hx hb dX1_setKeyByte_32 rfl (lv_at hl 2 rfl) ?_
          refine kd_ist j hx hb hK hP hD hS 1 0 rfl rfl ej hj (by decide) dX1_setKeyByte_33 (fun f33 ef33 H locs hP hD hS => ?_)
          have hP : va_P (dC, dI) vwCl [(h0, .inr (1, [.ref qk, .ref qc, .int st, .int nn, .int ln])), (qk, .inl (cA, 32, .inl f33))] H := hP
          have hD : va_D A [(h0, .inr (1, [.ref qk, .ref qc, .int st, .int nn, .int ln])), (qk, .inl (cA, 32, .inl f33))] := hD
          refine lv_iconst (v := 1) hx hb dX1_setKeyByte_34 (by decide) ?_
          have hP9 := hP.sub (ws' := [(h0, .inr (1, [.ref qk, .ref qc, .int st, .int nn, .int ln])), (qk, .inl (cA, 32, .inl f33))]) [0, 1] rfl
          have hD9 := hD.sub (ws' := [(h0, .inr (1, [.ref qk, .ref qc, .int st, .int nn, .int ln])), (qk, .inl (cA, 32, .inl f33))]) [0, 1] (by decide) rfl
          exact W.zret (v := 1) hx hb hr (by rfl) (fun t ht hW => ⟨⟨1, (f33), rfl, (by dsimp only; unfold kd_set; rw [(if_neg (fun h => h.elim c1 (fun h => h.elim c7 (fun h => h.elim (hw11 ▸ c14) (c22))))), ef33, ej, nI_clamp (by omega)]), by rw [ht]; exact hP9, va_K.moved hW.alike hK, hD9⟩, hS.F ht⟩) hS.2.2 dX1_setKeyByte_35
        · refine lv_iconst (v := 0) hx hb dX1_setKeyByte_25 (by decide) ?_
          have hP9 := hP.sub (ws' := [(h0, .inr (1, [.ref qk, .ref qc, .int st, .int nn, .int ln])), (qk, .inl (cA, 32, .inl key))]) [0, 1] rfl
          have hD9 := hD.sub (ws' := [(h0, .inr (1, [.ref qk, .ref qc, .int st, .int nn, .int ln])), (qk, .inl (cA, 32, .inl key))]) [0, 1] (by decide) rfl
          exact W.zret (v := 0) hx hb hr (by rfl) (fun t ht hW => ⟨⟨0, (key), rfl, ((if_pos (Or.inr (Or.inr (Or.inr (c22)))))).symm, by rw [ht]; exact hP9, va_K.moved hW.alike hK, hD9⟩, hS.F ht⟩) hS.2.2 dX1_setKeyByte_26

set_option maxHeartbeats 4000000 in
set_option maxRecDepth 100000 in
theorem cX1_word_ok (l : Launch) (dC : Nat → ClassId) (dI : Nat → Nat → Nat) (cA : ClassId) (tb : Nat → Nat) (sz : Nat) (h0 : Nat) (qk : Nat) (qc : Nat) (qh : Nat) (qm : Nat) (qv : Nat) (st : Int32) (nn : Int32) (ln : Int32) (hh : Nat → Int32) (kn : Nat) (ab : Int64) (i : Int32) : Met l yX1_word wsX1_word ({ frames := 1, cells := 0, slots := 0, locals := 21 }) (va_Pc [.ref h0, .int i] (kd_I (dC, dI) cA tb sz [(h0, .inr (1, [.ref qk, .ref qc, .int st, .int nn, .int ln])), (qc, .inr (0, [.ref qh, .ref qm, .ref qv, .int (nI kn), .long ab])), (qh, .inl (cA, 8, .inl hh))])) (va_Qi (fun (r : Int32) (u : Unit) => r = if kd_has st = 0 ∨ i < 0 ∨ 8 ≤ i then 0 else hh i.toNatClampNeg) (fun u t => kd_O (dC, dI) cA (va_A [(h0, .inr (1, [.ref qk, .ref qc, .int st, .int nn, .int ln])), (qc, .inr (0, [.ref qh, .ref qm, .ref qv, .int (nI kn), .long ab])), (qh, .inl (cA, 8, .inl hh))] sz) [(h0, .inr (1, [.ref qk, .ref qc, .int st, .int nn, .int ln])), (qc, .inr (0, [.ref qh, .ref qm, .ref qv, .int (nI kn), .long ab])), (qh, .inl (cA, 8, .inl hh))] t) (va_A [(h0, .inr (1, [.ref qk, .ref qc, .int st, .int nn, .int ln])), (qc, .inr (0, [.ref qh, .ref qm, .ref qv, .int (nI kn), .long ab])), (qh, .inl (cA, 8, .inl hh))] sz)) 0 0 (va_A [(h0, .inr (1, [.ref qk, .ref qc, .int st, .int nn, .int ln])), (qc, .inr (0, [.ref qh, .ref qm, .ref qv, .int (nI kn), .long ab])), (qh, .inl (cA, 8, .inl hh))] sz) := by
  refine Met.ofW (cc := cX1_word) (maxL := 2) (ret := (some .int)) (by decide) rfl ?_
  intro p e s m args below meth c s₁ B hml hv
  obtain ⟨rfl, hsz, hP, hK, hD0, hT⟩ := hv
  have hx := B.exec
  have hb := B.bytes
  have hr := B.returns
  have hts := atoms_spec (ws := wsX1_word) B.pre
  have hown : s.vm.findClass RX1 = some m.cls := findClass_of_methodNamed B.named
  have hlocks := B.notSynchronized
  have ki1 : ∀ w ∈ u_ws RX1 TX1 5, w ∈ wsX1_word := by decide +kernel
  have k1 := hts (.fieldLink RX1 16 "KeyedDigest" "chain" "LKeyedDigest$Chain;") (by decide +kernel)
  subst hsz
  have hD := hD0.self (sz := s.heap.size)
  generalize hAe : va_A [(h0, .inr (1, [.ref qk, .ref qc, .int st, .int nn, .int ln])), (qc, .inr (0, [.ref qh, .ref qm, .ref qv, .int (nI kn), .long ab])), (qh, .inl (cA, 8, .inl hh))] s.heap.size = A at hD hT ⊢
  have hA : ∀ q : Nat, s.heap.size ≤ q → A q := fun q h => by rw [← hAe]; exact Or.inr h
  have hS : va_S A s.heap s.heap [] := va_S.rf
  have hP : va_P (dC, dI) vwCl [(h0, .inr (1, [.ref qk, .ref qc, .int st, .int nn, .int ln])), (qc, .inr (0, [.ref qh, .ref qm, .ref qv, .int (nI kn), .long ab])), (qh, .inl (cA, 8, .inl hh))] s.heap := hP
  have hl := lv_entry ([.ref h0, .int i]) (n := 2) (Nat.le_of_ble_eq_true rfl)
  rw [lg_entry_eq]
  generalize (lg_sl ([.ref h0, .int i]) ++ List.replicate (2 - (lg_sl ([.ref h0, .int i])).length) Slot.unset).toArray = ls at hl ⊢
  have hl : lv_has ls 2 [(0, .ref h0), (1, .int i)] := hl
  refine lv_aload_n hx hb dX1_word_0 rfl (lv_at hl 0 rfl) ?_
  have hPc := hP.sub (ws' := [(h0, .inr (1, [.ref qk, .ref qc, .int st, .int nn, .int ln]))]) [0] rfl
  have hDc := hD.sub (ws' := [(h0, .inr (1, [.ref qk, .ref qc, .int st, .int nn, .int ln]))]) [0] (by decide) rfl
  have hFc := va_free (wc := [(h0, .inr (1, [.ref qk, .ref qc, .int st, .int nn, .int ln]))]) hD hS hA [0] rfl
  refine va_calli (va_runV (As := []) (rest := []) ⟨hx, hb, hml, hown, hts⟩ (cX1_hasMessage_ok l dC dI cA tb s.heap.size h0 qk qc st nn ln ) (cwV 0 hts gX1_word_X1_hasMessage rfl rfl rfl (by decide +kernel) ⟨Nat.le_of_ble_eq_true rfl, Nat.le_of_ble_eq_true rfl⟩) ⟨fun a U g mk q => kd_calling rfl rfl q, va_recv hK hPc (ci := 1) (q0 := 0) rfl rfl, fun U hU hW => ⟨rfl, kd_pre hPc hK hDc hT hS hFc U hU hW⟩⟩ rfl rfl hl.1 rfl (lv_room (Nat.le_of_ble_eq_true rfl)) dX1_word_1 ⟨Nat.le_of_ble_eq_true rfl, Nat.le_of_ble_eq_true rfl⟩) hS (fun q _ h => hFc q h) hFc (fun r1 u t H1 locs ht hvm hw hB hz1 hk1 hS => ?_)
  have hw1 : r1 = kd_has st := hw
  have hP1 : va_P (dC, dI) vwCl [(h0, .inr (1, [.ref qk, .ref qc, .int st, .int nn, .int ln]))] H1 := by rw [← ht]; exact hB.1
  have hD1 : va_D (va_A [(h0, .inr (1, [.ref qk, .ref qc, .int st, .int nn, .int ln]))] s.heap.size) [(h0, .inr (1, [.ref qk, .ref qc, .int st, .int nn, .int ln]))] := hB.2.2
  obtain ⟨hP, hD⟩ := va_join (wr := [(qc, .inr (0, [.ref qh, .ref qm, .ref qv, .int (nI kn), .long ab])), (qh, .inl (cA, 8, .inl hh))]) (w1 := [(h0, .inr (1, [.ref qk, .ref qc, .int st, .int nn, .int ln]))]) hP hD [0] [1, 2] rfl rfl (by decide) (by decide) hk1 hFc hP1 hD1
  clear hw hB hk1 hPc hDc hFc hP1 hD1 hvm hz1
  generalize H1 = H at hP hS ⊢
  have hP : va_P (dC, dI) vwCl [(qc, .inr (0, [.ref qh, .ref qm, .ref qv, .int (nI kn), .long ab])), (qh, .inl (cA, 8, .inl hh)), (h0, .inr (1, [.ref qk, .ref qc, .int st, .int nn, .int ln]))] H := hP
  have hD : va_D A [(qc, .inr (0, [.ref qh, .ref qm, .ref qv, .int (nI kn), .long ab])), (qh, .inl (cA, 8, .inl hh)), (h0, .inr (1, [.ref qk, .ref qc, .int st, .int nn, .int ln]))] := hD
  refine lv_if_eq (tgt := 17) hx hb dX1_word_4 (by decide) (fun c4 => ?_) (fun c4 => ?_)
  · refine lv_iconst (v := 0) hx hb dX1_word_17 (by decide) ?_
    have hP9 := hP.sub (ws' := [(h0, .inr (1, [.ref qk, .ref qc, .int st, .int nn, .int ln])), (qc, .inr (0, [.ref qh, .ref qm, .ref qv, .int (nI kn), .long ab])), (qh, .inl (cA, 8, .inl hh))]) [2, 0, 1] rfl
    have hD9 := hD.sub (ws' := [(h0, .inr (1, [.ref qk, .ref qc, .int st, .int nn, .int ln])), (qc, .inr (0, [.ref qh, .ref qm, .ref qv, .int (nI kn), .long ab])), (qh, .inl (cA, 8, .inl hh))]) [2, 0, 1] (by decide) rfl
    exact W.iret (v := 0) hx hb hr (fun t ht hW => ⟨⟨0, (), rfl, ((if_pos (Or.inl (hw1 ▸ c4)))).symm, by rw [ht]; exact hP9, va_K.moved hW.alike hK, hD9⟩, hS.F ht⟩) hS.2.2 dX1_word_18
  · refine lv_iload_n hx hb dX1_word_7 rfl (lv_at hl 1 rfl) ?_
    refine lv_if_lt (tgt := 17) hx hb dX1_word_8 (by decide) (fun c8 => ?_) (fun c8 => ?_)
    · refine lv_iconst (v := 0) hx hb dX1_word_17 (by decide) ?_
      have hP9 := hP.sub (ws' := [(h0, .inr (1, [.ref qk, .ref qc, .int st, .int nn, .int ln])), (qc, .inr (0, [.ref qh, .ref qm, .ref qv, .int (nI kn), .long ab])), (qh, .inl (cA, 8, .inl hh))]) [2, 0, 1] rfl
      have hD9 := hD.sub (ws' := [(h0, .inr (1, [.ref qk, .ref qc, .int st, .int nn, .int ln])), (qc, .inr (0, [.ref qh, .ref qm, .ref qv, .int (nI kn), .long ab])), (qh, .inl (cA, 8, .inl hh))]) [2, 0, 1] (by decide) rfl
      exact W.iret (v := 0) hx hb hr (fun t ht hW => ⟨⟨0, (), rfl, ((if_pos (Or.inr (Or.inl c8)))).symm, by rw [ht]; exact hP9, va_K.moved hW.alike hK, hD9⟩, hS.F ht⟩) hS.2.2 dX1_word_18
    · refine lv_iload_n hx hb dX1_word_11 rfl (lv_at hl 1 rfl) ?_
      refine lv_bipush (v := 8) hx hb dX1_word_12 (by decide) ?_
      refine lv_icmp_lt (tgt := 19) hx hb dX1_word_14 (by decide) (fun c14 => ?_) (fun c14 => ?_)
      · obtain ⟨j, hj, rfl⟩ := kd_ix (n := 8) (by decide) c8 (Int32.not_le.mpr c14)
        refine lv_aload_n hx hb dX1_word_19 rfl (lv_at hl 0 rfl) ?_
        refine va_get (D := (dC, dI)) (ci := 1) (v := .ref qc) (C := RX1) (T := TX1) (N := 5) hx hb hts ki1 hown hK hP 2 rfl rfl 1 (by decide) k1 (fun _ h9 => h9) rfl dX1_word_20 ?_
        refine lv_iload_n hx hb dX1_word_23 rfl (lv_at hl 1 rfl) ?_
        have hPc := hP.sub (ws' := [(qc, .inr (0, [.ref qh, .ref qm, .ref qv, .int (nI kn), .long ab])), (qh, .inl (cA, 8, .inl hh))]) [0, 1] rfl
        have hDc := hD.sub (ws' := [(qc, .inr (0, [.ref qh, .ref qm, .ref qv, .int (nI kn), .long ab])), (qh, .inl (cA, 8, .inl hh))]) [0, 1] (by decide) rfl
        have hFc := va_free (wc := [(qc, .inr (0, [.ref qh, .ref qm, .ref qv, .int (nI kn), .long ab])), (qh, .inl (cA, 8, .inl hh))]) hD hS hA [0, 1] rfl
        refine va_calli (va_runV (As := [.int (nI j)]) (rest := []) ⟨hx, hb, hml, hown, hts⟩ (cX0_stateWord_ok l dC dI cA tb H.size qc qh qm qv hh (nI kn) ab j hj) (cwV 1 hts gX1_word_X0_stateWord rfl rfl rfl (by decide +kernel) ⟨Nat.le_of_ble_eq_true rfl, Nat.le_of_ble_eq_true rfl⟩) ⟨fun a U g mk q => kd_calling rfl rfl q, va_recv hK hPc (ci := 0) (q0 := 0) rfl rfl, fun U hU hW => ⟨rfl, kd_pre hPc hK hDc hT hS hFc U hU hW⟩⟩ rfl rfl hl.1 rfl (lv_room (Nat.le_of_ble_eq_true rfl)) dX1_word_24 ⟨Nat.le_of_ble_eq_true rfl, Nat.le_of_ble_eq_true rfl⟩) hS (fun q _ h => hFc q h) hFc (fun r24 u t H1 locs ht hvm hw hB hz1 hk1 hS => ?_)
        have hw24 : r24 = hh j := hw
        have hP1 : va_P (dC, dI) vwCl [(qc, .inr (0, [.ref qh, .ref qm, .ref qv, .int (nI kn), .long ab])), (qh, .inl (cA, 8, .inl hh))] H1 := by rw [← ht]; exact hB.1
        have hD1 : va_D (va_A [(qc, .inr (0, [.ref qh, .ref qm, .ref qv, .int (nI kn), .long ab])), (qh, .inl (cA, 8, .inl hh))] H.size) [(qc, .inr (0, [.ref qh, .ref qm, .ref qv, .int (nI kn), .long ab])), (qh, .inl (cA, 8, .inl hh))] := hB.2.2
        obtain ⟨hP, hD⟩ := va_join (wr := [(h0, .inr (1, [.ref qk, .ref qc, .int st, .int nn, .int ln]))]) (w1 := [(qc, .inr (0, [.ref qh, .ref qm, .ref qv, .int (nI kn), .long ab])), (qh, .inl (cA, 8, .inl hh))]) hP hD [0, 1] [2] rfl rfl (by decide) (by decide) hk1 hFc hP1 hD1
        clear hw hB hk1 hPc hDc hFc hP1 hD1 hvm hz1
        generalize H1 = H at hP hS ⊢
        have hP : va_P (dC, dI) vwCl [(h0, .inr (1, [.ref qk, .ref qc, .int st, .int nn, .int ln])), (qc, .inr (0, [.ref qh, .ref qm, .ref qv, .int (nI kn), .long ab])), (qh, .inl (cA, 8, .inl hh))] H := hP
        have hD : va_D A [(h0, .inr (1, [.ref qk, .ref qc, .int st, .int nn, .int ln])), (qc, .inr (0, [.ref qh, .ref qm, .ref qv, .int (nI kn), .long ab])), (qh, .inl (cA, 8, .inl hh))] := hD
        have hP9 := hP.sub (ws' := [(h0, .inr (1, [.ref qk, .ref qc, .int st, .int nn, .int ln])), (qc, .inr (0, [.ref qh, .ref qm, .ref qv, .int (nI kn), .long ab])), (qh, .inl (cA, 8, .inl hh))]) [0, 1, 2] rfl
        have hD9 := hD.sub (ws' := [(h0, .inr (1, [.ref qk, .ref qc, .int st, .int nn, .int ln])), (qc, .inr (0, [.ref qh, .ref qm, .ref qv, .int (nI kn), .long ab])), (qh, .inl (cA, 8, .inl hh))]) [0, 1, 2] (by decide) rfl
        exact W.iret (v := r24) hx hb hr (fun t ht hW => ⟨⟨r24, (), rfl, (by dsimp only; rw [(if_neg (fun h => h.elim (hw1 ▸ c4) (fun h => h.elim c8 ((Int32.not_le.mpr c14))))), nI_clamp (by omega)]; exact hw24), by rw [ht]; exact hP9, va_K.moved hW.alike hK, hD9⟩, hS.F ht⟩) hS.2.2 dX1_word_27
      · refine lv_iconst (v := 0) hx hb dX1_word_17 (by decide) ?_
        have hP9 := hP.sub (ws' := [(h0, .inr (1, [.ref qk, .ref qc, .int st, .int nn, .int ln])), (qc, .inr (0, [.ref qh, .ref qm, .ref qv, .int (nI kn), .long ab])), (qh, .inl (cA, 8, .inl hh))]) [2, 0, 1] rfl
        have hD9 := hD.sub (ws' := [(h0, .inr (1, [.ref qk, .ref qc, .int st, .int nn, .int ln])), (qc, .inr (0, [.ref qh, .ref qm, .ref qv, .int (nI kn), .long ab])), (qh, .inl (cA, 8, .inl hh))]) [2, 0, 1] (by decide) rfl
        exact W.iret (v := 0) hx hb hr (fun t ht hW => ⟨⟨0, (), rfl, ((if_pos (Or.inr (Or.inr (Int32.not_lt.mp c14))))).symm, by rw [ht]; exact hP9, va_K.moved hW.alike hK, hD9⟩, hS.F ht⟩) hS.2.2 dX1_word_18

set_option maxHeartbeats 4000000 in
set_option maxRecDepth 100000 in
theorem cX1_out_ok (l : Launch) (dC : Nat → ClassId) (dI : Nat → Nat → Nat) (cA : ClassId) (tb : Nat → Nat) (sz : Nat) (h0 : Nat) (qk : Nat) (qc : Nat) (qh : Nat) (qm : Nat) (qv : Nat) (st : Int32) (nn : Int32) (ln : Int32) (hh : Nat → Int32) (kn : Nat) (ab : Int64) (i : Int32) (hnn : nn ≤ 32) : Met l yX1_out wsX1_out ({ frames := 1, cells := 0, slots := 0, locals := 21 }) (va_Pc [.ref h0, .int i] (kd_I (dC, dI) cA tb sz [(h0, .inr (1, [.ref qk, .ref qc, .int st, .int nn, .int ln])), (qc, .inr (0, [.ref qh, .ref qm, .ref qv, .int (nI kn), .long ab])), (qh, .inl (cA, 8, .inl hh))])) (va_Qi (fun (r : Int32) (u : Unit) => r = if ¬ st = 3 ∨ i < 0 ∨ nn ≤ i then -1 else kd_ushr (hh (i.toNatClampNeg / 4)) (8 * (i &&& 3)) &&& 255) (fun u t => kd_O (dC, dI) cA (va_A [(h0, .inr (1, [.ref qk, .ref qc, .int st, .int nn, .int ln])), (qc, .inr (0, [.ref qh, .ref qm, .ref qv, .int (nI kn), .long ab])), (qh, .inl (cA, 8, .inl hh))] sz) [(h0, .inr (1, [.ref qk, .ref qc, .int st, .int nn, .int ln])), (qc, .inr (0, [.ref qh, .ref qm, .ref qv, .int (nI kn), .long ab])), (qh, .inl (cA, 8, .inl hh))] t) (va_A [(h0, .inr (1, [.ref qk, .ref qc, .int st, .int nn, .int ln])), (qc, .inr (0, [.ref qh, .ref qm, .ref qv, .int (nI kn), .long ab])), (qh, .inl (cA, 8, .inl hh))] sz)) 0 0 (va_A [(h0, .inr (1, [.ref qk, .ref qc, .int st, .int nn, .int ln])), (qc, .inr (0, [.ref qh, .ref qm, .ref qv, .int (nI kn), .long ab])), (qh, .inl (cA, 8, .inl hh))] sz) := by
  refine Met.ofW (cc := cX1_out) (maxL := 2) (ret := (some .int)) (by decide) rfl ?_
  intro p e s m args below meth c s₁ B hml hv
  obtain ⟨rfl, hsz, hP, hK, hD0, hT⟩ := hv
  have hx := B.exec
  have hb := B.bytes
  have hr := B.returns
  have hts := atoms_spec (ws := wsX1_out) B.pre
  have hown : s.vm.findClass RX1 = some m.cls := findClass_of_methodNamed B.named
  have hlocks := B.notSynchronized
  have ki1 : ∀ w ∈ u_ws RX1 TX1 5, w ∈ wsX1_out := by decide +kernel
  have k1 := hts (.fieldLink RX1 20 "KeyedDigest" "state" "I") (by decide +kernel)
  have k2 := hts (.fieldLink RX1 24 "KeyedDigest" "digestBytes" "I") (by decide +kernel)
  have k3 := hts (.fieldLink RX1 16 "KeyedDigest" "chain" "LKeyedDigest$Chain;") (by decide +kernel)
  subst hsz
  have hD := hD0.self (sz := s.heap.size)
  generalize hAe : va_A [(h0, .inr (1, [.ref qk, .ref qc, .int st, .int nn, .int ln])), (qc, .inr (0, [.ref qh, .ref qm, .ref qv, .int (nI kn), .long ab])), (qh, .inl (cA, 8, .inl hh))] s.heap.size = A at hD hT ⊢
  have hA : ∀ q : Nat, s.heap.size ≤ q → A q := fun q h => by rw [← hAe]; exact Or.inr h
  have hS : va_S A s.heap s.heap [] := va_S.rf
  have hP : va_P (dC, dI) vwCl [(h0, .inr (1, [.ref qk, .ref qc, .int st, .int nn, .int ln])), (qc, .inr (0, [.ref qh, .ref qm, .ref qv, .int (nI kn), .long ab])), (qh, .inl (cA, 8, .inl hh))] s.heap := hP
  have hl := lv_entry ([.ref h0, .int i]) (n := 2) (Nat.le_of_ble_eq_true rfl)
  rw [lg_entry_eq]
  generalize (lg_sl ([.ref h0, .int i]) ++ List.replicate (2 - (lg_sl ([.ref h0, .int i])).length) Slot.unset).toArray = ls at hl ⊢
  have hl : lv_has ls 2 [(0, .ref h0), (1, .int i)] := hl
  refine lv_aload_n hx hb dX1_out_0 rfl (lv_at hl 0 rfl) ?_
  refine va_get (D := (dC, dI)) (ci := 1) (v := .int st) (C := RX1) (T := TX1) (N := 5) hx hb hts ki1 hown hK hP 0 rfl rfl 2 (by decide) k1 (fun _ h9 => h9) rfl dX1_out_1 ?_
  refine lv_iconst (v := 3) hx hb dX1_out_4 (by decide) ?_
  refine lv_icmp_ne (tgt := 20) hx hb dX1_out_5 (by decide) (fun c5 => ?_) (fun c5 => ?_)
  · refine lv_iconst (v := (-1)) hx hb dX1_out_20 (by decide) ?_
    have hP9 := hP.sub (ws' := [(h0, .inr (1, [.ref qk, .ref qc, .int st, .int nn, .int ln])), (qc, .inr (0, [.ref qh, .ref qm, .ref qv, .int (nI kn), .long ab])), (qh, .inl (cA, 8, .inl hh))]) [0, 1, 2] rfl
    have hD9 := hD.sub (ws' := [(h0, .inr (1, [.ref qk, .ref qc, .int st, .int nn, .int ln])), (qc, .inr (0, [.ref qh, .ref qm, .ref qv, .int (nI kn), .long ab])), (qh, .inl (cA, 8, .inl hh))]) [0, 1, 2] (by decide) rfl
    exact W.iret (v := (-1)) hx hb hr (fun t ht hW => ⟨⟨(-1), (), rfl, ((if_pos (Or.inl c5))).symm, by rw [ht]; exact hP9, va_K.moved hW.alike hK, hD9⟩, hS.F ht⟩) hS.2.2 dX1_out_21
  · refine lv_iload_n hx hb dX1_out_8 rfl (lv_at hl 1 rfl) ?_
    refine lv_if_lt (tgt := 20) hx hb dX1_out_9 (by decide) (fun c9 => ?_) (fun c9 => ?_)
    · refine lv_iconst (v := (-1)) hx hb dX1_out_20 (by decide) ?_
      have hP9 := hP.sub (ws' := [(h0, .inr (1, [.ref qk, .ref qc, .int st, .int nn, .int ln])), (qc, .inr (0, [.ref qh, .ref qm, .ref qv, .int (nI kn), .long ab])), (qh, .inl (cA, 8, .inl hh))]) [0, 1, 2] rfl
      have hD9 := hD.sub (ws' := [(h0, .inr (1, [.ref qk, .ref qc, .int st, .int nn, .int ln])), (qc, .inr (0, [.ref qh, .ref qm, .ref qv, .int (nI kn), .long ab])), (qh, .inl (cA, 8, .inl hh))]) [0, 1, 2] (by decide) rfl
      exact W.iret (v := (-1)) hx hb hr (fun t ht hW => ⟨⟨(-1), (), rfl, ((if_pos (Or.inr (Or.inl c9)))).symm, by rw [ht]; exact hP9, va_K.moved hW.alike hK, hD9⟩, hS.F ht⟩) hS.2.2 dX1_out_21
    · refine lv_iload_n hx hb dX1_out_12 rfl (lv_at hl 1 rfl) ?_
      refine lv_aload_n hx hb dX1_out_13 rfl (lv_at hl 0 rfl) ?_
      refine va_get (D := (dC, dI)) (ci := 1) (v := .int nn) (C := RX1) (T := TX1) (N := 5) hx hb hts ki1 hown hK hP 0 rfl rfl 3 (by decide) k2 (fun _ h9 => h9) rfl dX1_out_14 ?_
      refine lv_icmp_lt (tgt := 22) hx hb dX1_out_17 (by decide) (fun c17 => ?_) (fun c17 => ?_)
      · obtain ⟨j, hj, rfl⟩ := kd_ix (n := 32) (by decide) c9 (Int32.not_le.mpr (Int32.lt_of_lt_of_le c17 hnn))
        refine lv_aload_n hx hb dX1_out_22 rfl (lv_at hl 0 rfl) ?_
        refine va_get (D := (dC, dI)) (ci := 1) (v := .ref qc) (C := RX1) (T := TX1) (N := 5) hx hb hts ki1 hown hK hP 0 rfl rfl 1 (by decide) k3 (fun _ h9 => h9) rfl dX1_out_23 ?_
        refine lv_iload_n hx hb dX1_out_26 rfl (lv_at hl 1 rfl) ?_
        have hPc := hP.sub (ws' := [(qc, .inr (0, [.ref qh, .ref qm, .ref qv, .int (nI kn), .long ab])), (qh, .inl (cA, 8, .inl hh))]) [1, 2] rfl
        have hDc := hD.sub (ws' := [(qc, .inr (0, [.ref qh, .ref qm, .ref qv, .int (nI kn), .long ab])), (qh, .inl (cA, 8, .inl hh))]) [1, 2] (by decide) rfl
        have hFc := va_free (wc := [(qc, .inr (0, [.ref qh, .ref qm, .ref qv, .int (nI kn), .long ab])), (qh, .inl (cA, 8, .inl hh))]) hD hS hA [1, 2] rfl
        refine va_calli (va_runV (As := [.int (nI j)]) (rest := []) ⟨hx, hb, hml, hown, hts⟩ (cX0_stateByte_ok l dC dI cA tb s.heap.size qc qh qm qv hh (nI kn) ab j hj) (cwV 1 hts gX1_out_X0_stateByte rfl rfl rfl (by decide +kernel) ⟨Nat.le_of_ble_eq_true rfl, Nat.le_of_ble_eq_true rfl⟩) ⟨fun a U g mk q => kd_calling rfl rfl q, va_recv hK hPc (ci := 0) (q0 := 0) rfl rfl, fun U hU hW => ⟨rfl, kd_pre hPc hK hDc hT hS hFc U hU hW⟩⟩ rfl rfl hl.1 rfl (lv_room (Nat.le_of_ble_eq_true rfl)) dX1_out_27 ⟨Nat.le_of_ble_eq_true rfl, Nat.le_of_ble_eq_true rfl⟩) hS (fun q _ h => hFc q h) hFc (fun r27 u t H1 locs ht hvm hw hB hz1 hk1 hS => ?_)
        have hw27 : r27 = kd_ushr (hh (j / 4)) (8 * (nI j &&& 3)) &&& 255 := hw
        have hP1 : va_P (dC, dI) vwCl [(qc, .inr (0, [.ref qh, .ref qm, .ref qv, .int (nI kn), .long ab])), (qh, .inl (cA, 8, .inl hh))] H1 := by rw [← ht]; exact hB.1
        have hD1 : va_D (va_A [(qc, .inr (0, [.ref qh, .ref qm, .ref qv, .int (nI kn), .long ab])), (qh, .inl (cA, 8, .inl hh))] s.heap.size) [(qc, .inr (0, [.ref qh, .ref qm, .ref qv, .int (nI kn), .long ab])), (qh, .inl (cA, 8, .inl hh))] := hB.2.2
        obtain ⟨hP, hD⟩ := va_join (wr := [(h0, .inr (1, [.ref qk, .ref qc, .int st, .int nn, .int ln]))]) (w1 := [(qc, .inr (0, [.ref qh, .ref qm, .ref qv, .int (nI kn), .long ab])), (qh, .inl (cA, 8, .inl hh))]) hP hD [1, 2] [0] rfl rfl (by decide) (by decide) hk1 hFc hP1 hD1
        clear hw hB hk1 hPc hDc hFc hP1 hD1 hvm hz1
        generalize H1 = H at hP hS ⊢
        have hP : va_P (dC, dI) vwCl [(h0, .inr (1, [.ref qk, .ref qc, .int st, .int nn, .int ln])), (qc, .inr (0, [.ref qh, .ref qm, .ref qv, .int (nI kn), .long ab])), (qh, .inl (cA, 8, .inl hh))] H := hP
        have hD : va_D A [(h0, .inr (1, [.ref qk, .ref qc, .int st, .int nn, .int ln])), (qc, .inr (0, [.ref qh, .ref qm, .ref qv, .int (nI kn), .long ab])), (qh, .inl (cA, 8, .inl hh))] := hD
        have hP9 := hP.sub (ws' := [(h0, .inr (1, [.ref qk, .ref qc, .int st, .int nn, .int ln])), (qc, .inr (0, [.ref qh, .ref qm, .ref qv, .int (nI kn), .long ab])), (qh, .inl (cA, 8, .inl hh))]) [0, 1, 2] rfl
        have hD9 := hD.sub (ws' := [(h0, .inr (1, [.ref qk, .ref qc, .int st, .int nn, .int ln])), (qc, .inr (0, [.ref qh, .ref qm, .ref qv, .int (nI kn), .long ab])), (qh, .inl (cA, 8, .inl hh))]) [0, 1, 2] (by decide) rfl
        exact W.iret (v := r27) hx hb hr (fun t ht hW => ⟨⟨r27, (), rfl, (by dsimp only; rw [(if_neg (fun h => h.elim (fun h => h c5) (fun h => h.elim c9 ((Int32.not_le.mpr c17))))), nI_clamp (by omega)]; exact hw27), by rw [ht]; exact hP9, va_K.moved hW.alike hK, hD9⟩, hS.F ht⟩) hS.2.2 dX1_out_30
      · refine lv_iconst (v := (-1)) hx hb dX1_out_20 (by decide) ?_
        have hP9 := hP.sub (ws' := [(h0, .inr (1, [.ref qk, .ref qc, .int st, .int nn, .int ln])), (qc, .inr (0, [.ref qh, .ref qm, .ref qv, .int (nI kn), .long ab])), (qh, .inl (cA, 8, .inl hh))]) [0, 1, 2] rfl
        have hD9 := hD.sub (ws' := [(h0, .inr (1, [.ref qk, .ref qc, .int st, .int nn, .int ln])), (qc, .inr (0, [.ref qh, .ref qm, .ref qv, .int (nI kn), .long ab])), (qh, .inl (cA, 8, .inl hh))]) [0, 1, 2] (by decide) rfl
        exact W.iret (v := (-1)) hx hb hr (fun t ht hW => ⟨⟨(-1), (), rfl, ((if_pos (Or.inr (Or.inr (Int32.not_lt.mp c17))))).symm, by rw [ht]; exact hP9, va_K.moved hW.alike hK, hD9⟩, hS.F ht⟩) hS.2.2 dX1_out_21
