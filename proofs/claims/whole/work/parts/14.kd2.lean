set_option maxHeartbeats 4000000 in
set_option maxRecDepth 100000 in
theorem cX1_addToMessage_ok (l : Launch) (dC : Nat → ClassId) (dI : Nat → Nat → Nat) (cA : ClassId) (tb : Nat → Nat) (sz : Nat) (h0 : Nat) (qk : Nat) (qc : Nat) (qh : Nat) (qm : Nat) (qv : Nat) (st : Int32) (nn : Int32) (ln : Int32) (hh : Nat → Int32) (mm : Nat → Int32) (vv : Nat → Int32) (kn : Nat) (ab : Int64) (b : Int32) (hk : kn ≤ 64) : Met l yX1_addToMessage wsX1_addToMessage ({ frames := 5, cells := 0, slots := 0, locals := 111 }) (va_Pc [.ref h0, .int b] (kd_I (dC, dI) cA tb sz [(h0, .inr (1, [.ref qk, .ref qc, .int st, .int nn, .int ln])), (qc, .inr (0, [.ref qh, .ref qm, .ref qv, .int (nI kn), .long ab])), (qh, .inl (cA, 8, .inl hh)), (qm, .inl (cA, 16, .inl mm)), (qv, .inl (cA, 16, .inl vv))])) (va_Qv (fun (u : Int32 × (Nat → Int32) × (Nat → Int32) × (Nat → Int32) × Nat × Int64) => (u.2.1, u.2.2.1, u.2.2.2.2.1, u.2.2.2.2.2) = kd_add b (hh, mm, kn, ab) ∧ u.1 = ln + 1) (fun u t => kd_O (dC, dI) cA (va_A [(h0, .inr (1, [.ref qk, .ref qc, .int st, .int nn, .int ln])), (qc, .inr (0, [.ref qh, .ref qm, .ref qv, .int (nI kn), .long ab])), (qh, .inl (cA, 8, .inl hh)), (qm, .inl (cA, 16, .inl mm)), (qv, .inl (cA, 16, .inl vv))] sz) [(h0, .inr (1, [.ref qk, .ref qc, .int st, .int nn, .int u.1])), (qc, .inr (0, [.ref qh, .ref qm, .ref qv, .int (nI u.2.2.2.2.1), .long u.2.2.2.2.2])), (qh, .inl (cA, 8, .inl u.2.1)), (qm, .inl (cA, 16, .inl u.2.2.1)), (qv, .inl (cA, 16, .inl u.2.2.2.1))] t) (va_A [(h0, .inr (1, [.ref qk, .ref qc, .int st, .int nn, .int ln])), (qc, .inr (0, [.ref qh, .ref qm, .ref qv, .int (nI kn), .long ab])), (qh, .inl (cA, 8, .inl hh)), (qm, .inl (cA, 16, .inl mm)), (qv, .inl (cA, 16, .inl vv))] sz)) 0 0 (va_A [(h0, .inr (1, [.ref qk, .ref qc, .int st, .int nn, .int ln])), (qc, .inr (0, [.ref qh, .ref qm, .ref qv, .int (nI kn), .long ab])), (qh, .inl (cA, 8, .inl hh)), (qm, .inl (cA, 16, .inl mm)), (qv, .inl (cA, 16, .inl vv))] sz) := by
  refine Met.ofW (cc := cX1_addToMessage) (maxL := 2) (ret := none) (by decide) rfl ?_
  intro p e s m args below meth c s₁ B hml hv
  obtain ⟨rfl, hsz, hP, hK, hD0, hT⟩ := hv
  have hx := B.exec
  have hb := B.bytes
  have hr := B.returns
  have hts := atoms_spec (ws := wsX1_addToMessage) B.pre
  have hown : s.vm.findClass RX1 = some m.cls := findClass_of_methodNamed B.named
  have hlocks := B.notSynchronized
  have ki1 : ∀ w ∈ u_ws RX1 TX1 5, w ∈ wsX1_addToMessage := by decide +kernel
  have k1 := hts (.fieldLink RX1 16 "KeyedDigest" "chain" "LKeyedDigest$Chain;") (by decide +kernel)
  have k2 := hts (.fieldLink RX1 27 "KeyedDigest" "messageBytes" "I") (by decide +kernel)
  subst hsz
  have hD := hD0.self (sz := s.heap.size)
  generalize hAe : va_A [(h0, .inr (1, [.ref qk, .ref qc, .int st, .int nn, .int ln])), (qc, .inr (0, [.ref qh, .ref qm, .ref qv, .int (nI kn), .long ab])), (qh, .inl (cA, 8, .inl hh)), (qm, .inl (cA, 16, .inl mm)), (qv, .inl (cA, 16, .inl vv))] s.heap.size = A at hD hT ⊢
  have hA : ∀ q : Nat, s.heap.size ≤ q → A q := fun q h => by rw [← hAe]; exact Or.inr h
  have hS : va_S A s.heap s.heap [] := va_S.rf
  have hP : va_P (dC, dI) vwCl [(h0, .inr (1, [.ref qk, .ref qc, .int st, .int nn, .int ln])), (qc, .inr (0, [.ref qh, .ref qm, .ref qv, .int (nI kn), .long ab])), (qh, .inl (cA, 8, .inl hh)), (qm, .inl (cA, 16, .inl mm)), (qv, .inl (cA, 16, .inl vv))] s.heap := hP
  have hl := lv_entry ([.ref h0, .int b]) (n := 2) (Nat.le_of_ble_eq_true rfl)
  rw [lg_entry_eq]
  generalize (lg_sl ([.ref h0, .int b]) ++ List.replicate (2 - (lg_sl ([.ref h0, .int b])).length) Slot.unset).toArray = ls at hl ⊢
  have hl : lv_has ls 2 [(0, .ref h0), (1, .int b)] := hl
  refine lv_aload_n hx hb dX1_addToMessage_0 rfl (lv_at hl 0 rfl) ?_
  refine va_get (D := (dC, dI)) (ci := 1) (v := .ref qc) (C := RX1) (T := TX1) (N := 5) hx hb hts ki1 hown hK hP 0 rfl rfl 1 (by decide) k1 (fun _ h9 => h9) rfl dX1_addToMessage_1 ?_
  refine lv_iload_n hx hb dX1_addToMessage_4 rfl (lv_at hl 1 rfl) ?_
  have hPc := hP.sub (ws' := [(qc, .inr (0, [.ref qh, .ref qm, .ref qv, .int (nI kn), .long ab])), (qh, .inl (cA, 8, .inl hh)), (qm, .inl (cA, 16, .inl mm)), (qv, .inl (cA, 16, .inl vv))]) [1, 2, 3, 4] rfl
  have hDc := hD.sub (ws' := [(qc, .inr (0, [.ref qh, .ref qm, .ref qv, .int (nI kn), .long ab])), (qh, .inl (cA, 8, .inl hh)), (qm, .inl (cA, 16, .inl mm)), (qv, .inl (cA, 16, .inl vv))]) [1, 2, 3, 4] (by decide) rfl
  have hFc := va_free (wc := [(qc, .inr (0, [.ref qh, .ref qm, .ref qv, .int (nI kn), .long ab])), (qh, .inl (cA, 8, .inl hh)), (qm, .inl (cA, 16, .inl mm)), (qv, .inl (cA, 16, .inl vv))]) hD hS hA [1, 2, 3, 4] rfl
  refine va_callv (va_runV (As := [.int b]) (rest := []) ⟨hx, hb, hml, hown, hts⟩ (cX0_addByte_ok l dC dI cA tb s.heap.size qc qh qm qv hh mm vv kn ab b hk) (cwV 1 hts gX1_addToMessage_X0_addByte rfl rfl rfl (by decide +kernel) ⟨Nat.le_of_ble_eq_true rfl, Nat.le_of_ble_eq_true rfl⟩) ⟨fun a U g mk q => kd_calling rfl rfl q, va_recv hK hPc (ci := 0) (q0 := 0) rfl rfl, fun U hU hW => ⟨rfl, kd_pre hPc hK hDc hT hS hFc U hU hW⟩⟩ rfl rfl hl.1 rfl (lv_room (Nat.le_of_ble_eq_true rfl)) dX1_addToMessage_5 ⟨Nat.le_of_ble_eq_true rfl, Nat.le_of_ble_eq_true rfl⟩) hS (fun q _ h => hFc q h) hFc (fun u t H1 locs ht hvm hw hB hz1 hk1 hS => ?_)
  obtain ⟨ho5, mo5, vo5, ko5, ao5⟩ := u
  have hw5 : (ho5, mo5, ko5, ao5) = kd_add b (hh, mm, kn, ab) := hw
  have hP1 : va_P (dC, dI) vwCl [(qc, .inr (0, [.ref qh, .ref qm, .ref qv, .int (nI ko5), .long ao5])), (qh, .inl (cA, 8, .inl ho5)), (qm, .inl (cA, 16, .inl mo5)), (qv, .inl (cA, 16, .inl vo5))] H1 := by rw [← ht]; exact hB.1
  have hD1 : va_D (va_A [(qc, .inr (0, [.ref qh, .ref qm, .ref qv, .int (nI kn), .long ab])), (qh, .inl (cA, 8, .inl hh)), (qm, .inl (cA, 16, .inl mm)), (qv, .inl (cA, 16, .inl vv))] s.heap.size) [(qc, .inr (0, [.ref qh, .ref qm, .ref qv, .int (nI ko5), .long ao5])), (qh, .inl (cA, 8, .inl ho5)), (qm, .inl (cA, 16, .inl mo5)), (qv, .inl (cA, 16, .inl vo5))] := hB.2.2
  obtain ⟨hP, hD⟩ := va_join (wr := [(h0, .inr (1, [.ref qk, .ref qc, .int st, .int nn, .int ln]))]) (w1 := [(qc, .inr (0, [.ref qh, .ref qm, .ref qv, .int (nI ko5), .long ao5])), (qh, .inl (cA, 8, .inl ho5)), (qm, .inl (cA, 16, .inl mo5)), (qv, .inl (cA, 16, .inl vo5))]) hP hD [1, 2, 3, 4] [0] rfl rfl (by decide) (by decide) hk1 hFc hP1 hD1
  clear hw hB hk1 hPc hDc hFc hP1 hD1 hvm hz1
  generalize H1 = H at hP hS ⊢
  have hP : va_P (dC, dI) vwCl [(h0, .inr (1, [.ref qk, .ref qc, .int st, .int nn, .int ln])), (qc, .inr (0, [.ref qh, .ref qm, .ref qv, .int (nI ko5), .long ao5])), (qh, .inl (cA, 8, .inl ho5)), (qm, .inl (cA, 16, .inl mo5)), (qv, .inl (cA, 16, .inl vo5))] H := hP
  have hD : va_D A [(h0, .inr (1, [.ref qk, .ref qc, .int st, .int nn, .int ln])), (qc, .inr (0, [.ref qh, .ref qm, .ref qv, .int (nI ko5), .long ao5])), (qh, .inl (cA, 8, .inl ho5)), (qm, .inl (cA, 16, .inl mo5)), (qv, .inl (cA, 16, .inl vo5))] := hD
  refine lv_aload_n hx hb dX1_addToMessage_8 rfl (lv_at hl 0 rfl) ?_
  refine lv_dup hx hb dX1_addToMessage_9 rfl ?_
  refine va_get (D := (dC, dI)) (ci := 1) (v := .int ln) (C := RX1) (T := TX1) (N := 5) hx hb hts ki1 hown hK hP 0 rfl rfl 4 (by decide) k2 (fun _ h9 => h9) rfl dX1_addToMessage_10 ?_
  refine lv_iconst (v := 1) hx hb dX1_addToMessage_13 (by decide) ?_
  refine lv_iadd hx hb dX1_addToMessage_14 ?_
  refine lv_topi (fun x15 ex15 => ?_)
  refine va_put (D := (dC, dI)) (ci := 1) (v := .int x15) (ty := .int) (C := RX1) (T := TX1) (N := 5) hx hb hts ki1 tyX1 tyX1_ok nmX1 hown hK hP hD hS 0 rfl rfl 4 (by decide) k2 (fun _ h9 => h9) rfl (by decide +kernel) rfl rfl (Nat.le_of_ble_eq_true rfl) dX1_addToMessage_15 (fun H locs hP hD hS => ?_)
  have hP : va_P (dC, dI) vwCl [(h0, .inr (1, [.ref qk, .ref qc, .int st, .int nn, .int x15])), (qc, .inr (0, [.ref qh, .ref qm, .ref qv, .int (nI ko5), .long ao5])), (qh, .inl (cA, 8, .inl ho5)), (qm, .inl (cA, 16, .inl mo5)), (qv, .inl (cA, 16, .inl vo5))] H := hP
  have hD : va_D A [(h0, .inr (1, [.ref qk, .ref qc, .int st, .int nn, .int x15])), (qc, .inr (0, [.ref qh, .ref qm, .ref qv, .int (nI ko5), .long ao5])), (qh, .inl (cA, 8, .inl ho5)), (qm, .inl (cA, 16, .inl mo5)), (qv, .inl (cA, 16, .inl vo5))] := hD
  have hP9 := hP.sub (ws' := [(h0, .inr (1, [.ref qk, .ref qc, .int st, .int nn, .int x15])), (qc, .inr (0, [.ref qh, .ref qm, .ref qv, .int (nI ko5), .long ao5])), (qh, .inl (cA, 8, .inl ho5)), (qm, .inl (cA, 16, .inl mo5)), (qv, .inl (cA, 16, .inl vo5))]) [0, 1, 2, 3, 4] rfl
  have hD9 := hD.sub (ws' := [(h0, .inr (1, [.ref qk, .ref qc, .int st, .int nn, .int x15])), (qc, .inr (0, [.ref qh, .ref qm, .ref qv, .int (nI ko5), .long ao5])), (qh, .inl (cA, 8, .inl ho5)), (qm, .inl (cA, 16, .inl mo5)), (qv, .inl (cA, 16, .inl vo5))]) [0, 1, 2, 3, 4] (by decide) rfl
  exact W.vret hx hb hr (fun t ht hW => ⟨⟨(x15, ho5, mo5, vo5, ko5, ao5), rfl, ⟨hw5, ex15⟩, by rw [ht]; exact hP9, va_K.moved hW.alike hK, hD9⟩, hS.F ht⟩) hS.2.2 dX1_addToMessage_18

set_option maxHeartbeats 4000000 in
set_option maxRecDepth 100000 in
theorem cX1_update_ok (l : Launch) (dC : Nat → ClassId) (dI : Nat → Nat → Nat) (cA : ClassId) (tb : Nat → Nat) (sz : Nat) (h0 : Nat) (qk : Nat) (qc : Nat) (qh : Nat) (qm : Nat) (qv : Nat) (key : Nat → Int32) (st : Int32) (nn : Int32) (ln : Int32) (hh : Nat → Int32) (mm : Nat → Int32) (vv : Nat → Int32) (kn : Nat) (ab : Int64) (b : Int32) (hk : kn ≤ 64) : Met l yX1_update wsX1_update ({ frames := 6, cells := 0, slots := 0, locals := 132 }) (va_Pc [.ref h0, .int b] (kd_I (dC, dI) cA tb sz [(h0, .inr (1, [.ref qk, .ref qc, .int st, .int nn, .int ln])), (qk, .inl (cA, 32, .inl key)), (qc, .inr (0, [.ref qh, .ref qm, .ref qv, .int (nI kn), .long ab])), (qh, .inl (cA, 8, .inl hh)), (qm, .inl (cA, 16, .inl mm)), (qv, .inl (cA, 16, .inl vv))])) (va_Qi (fun (r : Int32) (u : Int32 × (Nat → Int32) × (Nat → Int32) × (Nat → Int32) × Nat × Int64) => (r, u.1, (u.2.1, u.2.2.1, u.2.2.2.2.1, u.2.2.2.2.2)) = if ¬ st = 2 ∨ kd_isB b = 0 then (0, ln, (hh, mm, kn, ab)) else (1, ln + 1, kd_add b (hh, mm, kn, ab))) (fun u t => kd_O (dC, dI) cA (va_A [(h0, .inr (1, [.ref qk, .ref qc, .int st, .int nn, .int ln])), (qk, .inl (cA, 32, .inl key)), (qc, .inr (0, [.ref qh, .ref qm, .ref qv, .int (nI kn), .long ab])), (qh, .inl (cA, 8, .inl hh)), (qm, .inl (cA, 16, .inl mm)), (qv, .inl (cA, 16, .inl vv))] sz) [(h0, .inr (1, [.ref qk, .ref qc, .int st, .int nn, .int u.1])), (qk, .inl (cA, 32, .inl key)), (qc, .inr (0, [.ref qh, .ref qm, .ref qv, .int (nI u.2.2.2.2.1), .long u.2.2.2.2.2])), (qh, .inl (cA, 8, .inl u.2.1)), (qm, .inl (cA, 16, .inl u.2.2.1)), (qv, .inl (cA, 16, .inl u.2.2.2.1))] t) (va_A [(h0, .inr (1, [.ref qk, .ref qc, .int st, .int nn, .int ln])), (qk, .inl (cA, 32, .inl key)), (qc, .inr (0, [.ref qh, .ref qm, .ref qv, .int (nI kn), .long ab])), (qh, .inl (cA, 8, .inl hh)), (qm, .inl (cA, 16, .inl mm)), (qv, .inl (cA, 16, .inl vv))] sz)) 0 0 (va_A [(h0, .inr (1, [.ref qk, .ref qc, .int st, .int nn, .int ln])), (qk, .inl (cA, 32, .inl key)), (qc, .inr (0, [.ref qh, .ref qm, .ref qv, .int (nI kn), .long ab])), (qh, .inl (cA, 8, .inl hh)), (qm, .inl (cA, 16, .inl mm)), (qv, .inl (cA, 16, .inl vv))] sz) := by
  refine Met.ofW (cc := cX1_update) (maxL := 2) (ret := (some .boolean)) (by decide) rfl ?_
  intro p e s m args below meth c s₁ B hml hv
  obtain ⟨rfl, hsz, hP, hK, hD0, hT⟩ := hv
  have hx := B.exec
  have hb := B.bytes
  have hr := B.returns
  have hts := atoms_spec (ws := wsX1_update) B.pre
  have hown : s.vm.findClass RX1 = some m.cls := findClass_of_methodNamed B.named
  have hlocks := B.notSynchronized
  have ki1 : ∀ w ∈ u_ws RX1 TX1 5, w ∈ wsX1_update := by decide +kernel
  have k1 := hts (.fieldLink RX1 20 "KeyedDigest" "state" "I") (by decide +kernel)
  subst hsz
  have hD := hD0.self (sz := s.heap.size)
  generalize hAe : va_A [(h0, .inr (1, [.ref qk, .ref qc, .int st, .int nn, .int ln])), (qk, .inl (cA, 32, .inl key)), (qc, .inr (0, [.ref qh, .ref qm, .ref qv, .int (nI kn), .long ab])), (qh, .inl (cA, 8, .inl hh)), (qm, .inl (cA, 16, .inl mm)), (qv, .inl (cA, 16, .inl vv))] s.heap.size = A at hD hT ⊢
  have hA : ∀ q : Nat, s.heap.size ≤ q → A q := fun q h => by rw [← hAe]; exact Or.inr h
  have hS : va_S A s.heap s.heap [] := va_S.rf
  have hP : va_P (dC, dI) vwCl [(h0, .inr (1, [.ref qk, .ref qc, .int st, .int nn, .int ln])), (qk, .inl (cA, 32, .inl key)), (qc, .inr (0, [.ref qh, .ref qm, .ref qv, .int (nI kn), .long ab])), (qh, .inl (cA, 8, .inl hh)), (qm, .inl (cA, 16, .inl mm)), (qv, .inl (cA, 16, .inl vv))] s.heap := hP
  have hl := lv_entry ([.ref h0, .int b]) (n := 2) (Nat.le_of_ble_eq_true rfl)
  rw [lg_entry_eq]
  generalize (lg_sl ([.ref h0, .int b]) ++ List.replicate (2 - (lg_sl ([.ref h0, .int b])).length) Slot.unset).toArray = ls at hl ⊢
  have hl : lv_has ls 2 [(0, .ref h0), (1, .int b)] := hl
  refine lv_aload_n hx hb dX1_update_0 rfl (lv_at hl 0 rfl) ?_
  refine va_get (D := (dC, dI)) (ci := 1) (v := .int st) (C := RX1) (T := TX1) (N := 5) hx hb hts ki1 hown hK hP 0 rfl rfl 2 (by decide) k1 (fun _ h9 => h9) rfl dX1_update_1 ?_
  refine lv_iconst (v := 2) hx hb dX1_update_4 (by decide) ?_
  refine lv_icmp_ne (tgt := 15) hx hb dX1_update_5 (by decide) (fun c5 => ?_) (fun c5 => ?_)
  · refine lv_iconst (v := 0) hx hb dX1_update_15 (by decide) ?_
    have hP9 := hP.sub (ws' := [(h0, .inr (1, [.ref qk, .ref qc, .int st, .int nn, .int ln])), (qk, .inl (cA, 32, .inl key)), (qc, .inr (0, [.ref qh, .ref qm, .ref qv, .int (nI kn), .long ab])), (qh, .inl (cA, 8, .inl hh)), (qm, .inl (cA, 16, .inl mm)), (qv, .inl (cA, 16, .inl vv))]) [0, 1, 2, 3, 4, 5] rfl
    have hD9 := hD.sub (ws' := [(h0, .inr (1, [.ref qk, .ref qc, .int st, .int nn, .int ln])), (qk, .inl (cA, 32, .inl key)), (qc, .inr (0, [.ref qh, .ref qm, .ref qv, .int (nI kn), .long ab])), (qh, .inl (cA, 8, .inl hh)), (qm, .inl (cA, 16, .inl mm)), (qv, .inl (cA, 16, .inl vv))]) [0, 1, 2, 3, 4, 5] (by decide) rfl
    exact W.zret (v := 0) hx hb hr (by rfl) (fun t ht hW => ⟨⟨0, (ln, hh, mm, vv, kn, ab), rfl, ((if_pos (Or.inl c5))).symm, by rw [ht]; exact hP9, va_K.moved hW.alike hK, hD9⟩, hS.F ht⟩) hS.2.2 dX1_update_16
  · refine lv_iload_n hx hb dX1_update_8 rfl (lv_at hl 1 rfl) ?_
    have hPc := hP.sub (ws' := []) [] rfl
    have hDc := hD.sub (ws' := []) [] (by decide) rfl
    have hFc := va_free (wc := []) hD hS hA [] rfl
    refine va_calli (va_runS (As := [.int b]) (rest := []) ⟨hx, hb, hml, hown, hts⟩ (cX1_isByte_ok l dC dI cA tb s.heap.size b ) (va_cwS 1 hts gX1_update_X1_isByte rfl rfl rfl (by decide +kernel) ⟨Nat.le_of_ble_eq_true rfl, Nat.le_of_ble_eq_true rfl⟩) ⟨fun a U g mk q => kd_calling rfl rfl q, fun U hU hW => ⟨rfl, kd_pre hPc hK hDc hT hS hFc U hU hW⟩⟩ rfl rfl hl.1 rfl (lv_room (Nat.le_of_ble_eq_true rfl)) dX1_update_9 ⟨Nat.le_of_ble_eq_true rfl, Nat.le_of_ble_eq_true rfl⟩) hS (fun q _ h => hFc q h) hFc (fun r9 u t H1 locs ht hvm hw hB hz1 hk1 hS => ?_)
    have hw9 : r9 = kd_isB b := hw
    have hP1 : va_P (dC, dI) vwCl [] H1 := by rw [← ht]; exact hB.1
    have hD1 : va_D (va_A [] s.heap.size) [] := hB.2.2
    obtain ⟨hP, hD⟩ := va_join (wr := [(h0, .inr (1, [.ref qk, .ref qc, .int st, .int nn, .int ln])), (qk, .inl (cA, 32, .inl key)), (qc, .inr (0, [.ref qh, .ref qm, .ref qv, .int (nI kn), .long ab])), (qh, .inl (cA, 8, .inl hh)), (qm, .inl (cA, 16, .inl mm)), (qv, .inl (cA, 16, .inl vv))]) (w1 := []) hP hD [] [0, 1, 2, 3, 4, 5] rfl rfl (by decide) (by decide) hk1 hFc hP1 hD1
    clear hw hB hk1 hPc hDc hFc hP1 hD1 hvm hz1
    generalize H1 = H at hP hS ⊢
    have hP : va_P (dC, dI) vwCl [(h0, .inr (1, [.ref qk, .ref qc, .int st, .int nn, .int ln])), (qk, .inl (cA, 32, .inl key)), (qc, .inr (0, [.ref qh, .ref qm, .ref qv, .int (nI kn), .long ab])), (qh, .inl (cA, 8, .inl hh)), (qm, .inl (cA, 16, .inl mm)), (qv, .inl (cA, 16, .inl vv))] H := hP
    have hD : va_D A [(h0, .inr (1, [.ref qk, .ref qc, .int st, .int nn, .int ln])), (qk, .inl (cA, 32, .inl key)), (qc, .inr (0, [.ref qh, .ref qm, .ref qv, .int (nI kn), .long ab])), (qh, .inl (cA, 8, .inl hh)), (qm, .inl (cA, 16, .inl mm)), (qv, .inl (cA, 16, .inl vv))] := hD
    refine lv_if_ne (tgt := 17) hx hb dX1_update_12 (by decide) (fun c12 => ?_) (fun c12 => ?_)
    · refine lv_aload_n hx hb dX1_update_17 rfl (lv_at hl 0 rfl) ?_
      refine lv_iload_n hx hb dX1_update_18 rfl (lv_at hl 1 rfl) ?_
      have hPc := hP.sub (ws' := [(h0, .inr (1, [.ref qk, .ref qc, .int st, .int nn, .int ln])), (qc, .inr (0, [.ref qh, .ref qm, .ref qv, .int (nI kn), .long ab])), (qh, .inl (cA, 8, .inl hh)), (qm, .inl (cA, 16, .inl mm)), (qv, .inl (cA, 16, .inl vv))]) [0, 2, 3, 4, 5] rfl
      have hDc := hD.sub (ws' := [(h0, .inr (1, [.ref qk, .ref qc, .int st, .int nn, .int ln])), (qc, .inr (0, [.ref qh, .ref qm, .ref qv, .int (nI kn), .long ab])), (qh, .inl (cA, 8, .inl hh)), (qm, .inl (cA, 16, .inl mm)), (qv, .inl (cA, 16, .inl vv))]) [0, 2, 3, 4, 5] (by decide) rfl
      have hFc := va_free (wc := [(h0, .inr (1, [.ref qk, .ref qc, .int st, .int nn, .int ln])), (qc, .inr (0, [.ref qh, .ref qm, .ref qv, .int (nI kn), .long ab])), (qh, .inl (cA, 8, .inl hh)), (qm, .inl (cA, 16, .inl mm)), (qv, .inl (cA, 16, .inl vv))]) hD hS hA [0, 2, 3, 4, 5] rfl
      refine va_callv (va_runV (As := [.int b]) (rest := []) ⟨hx, hb, hml, hown, hts⟩ (cX1_addToMessage_ok l dC dI cA tb H.size h0 qk qc qh qm qv st nn ln hh mm vv kn ab b hk) (cwV 1 hts gX1_update_X1_addToMessage rfl rfl rfl (by decide +kernel) ⟨Nat.le_of_ble_eq_true rfl, Nat.le_of_ble_eq_true rfl⟩) ⟨fun a U g mk q => kd_calling rfl rfl q, va_recv hK hPc (ci := 1) (q0 := 0) rfl rfl, fun U hU hW => ⟨rfl, kd_pre hPc hK hDc hT hS hFc U hU hW⟩⟩ rfl rfl hl.1 rfl (lv_room (Nat.le_of_ble_eq_true rfl)) dX1_update_19 ⟨Nat.le_of_ble_eq_true rfl, Nat.le_of_ble_eq_true rfl⟩) hS (fun q _ h => hFc q h) hFc (fun u t H1 locs ht hvm hw hB hz1 hk1 hS => ?_)
      obtain ⟨lo19, ho19, mo19, vo19, ko19, ao19⟩ := u
      have hw19 : (ho19, mo19, ko19, ao19) = kd_add b (hh, mm, kn, ab) ∧ lo19 = ln + 1 := hw
      have hP1 : va_P (dC, dI) vwCl [(h0, .inr (1, [.ref qk, .ref qc, .int st, .int nn, .int lo19])), (qc, .inr (0, [.ref qh, .ref qm, .ref qv, .int (nI ko19), .long ao19])), (qh, .inl (cA, 8, .inl ho19)), (qm, .inl (cA, 16, .inl mo19)), (qv, .inl (cA, 16, .inl vo19))] H1 := by rw [← ht]; exact hB.1
      have hD1 : va_D (va_A [(h0, .inr (1, [.ref qk, .ref qc, .int st, .int nn, .int ln])), (qc, .inr (0, [.ref qh, .ref qm, .ref qv, .int (nI kn), .long ab])), (qh, .inl (cA, 8, .inl hh)), (qm, .inl (cA, 16, .inl mm)), (qv, .inl (cA, 16, .inl vv))] H.size) [(h0, .inr (1, [.ref qk, .ref qc, .int st, .int nn, .int lo19])), (qc, .inr (0, [.ref qh, .ref qm, .ref qv, .int (nI ko19), .long ao19])), (qh, .inl (cA, 8, .inl ho19)), (qm, .inl (cA, 16, .inl mo19)), (qv, .inl (cA, 16, .inl vo19))] := hB.2.2
      obtain ⟨hP, hD⟩ := va_join (wr := [(qk, .inl (cA, 32, .inl key))]) (w1 := [(h0, .inr (1, [.ref qk, .ref qc, .int st, .int nn, .int lo19])), (qc, .inr (0, [.ref qh, .ref qm, .ref qv, .int (nI ko19), .long ao19])), (qh, .inl (cA, 8, .inl ho19)), (qm, .inl (cA, 16, .inl mo19)), (qv, .inl (cA, 16, .inl vo19))]) hP hD [0, 2, 3, 4, 5] [1] rfl rfl (by decide) (by decide) hk1 hFc hP1 hD1
      clear hw hB hk1 hPc hDc hFc hP1 hD1 hvm hz1
      generalize H1 = H at hP hS ⊢
      have hP : va_P (dC, dI) vwCl [(qk, .inl (cA, 32, .inl key)), (h0, .inr (1, [.ref qk, .ref qc, .int st, .int nn, .int lo19])), (qc, .inr (0, [.ref qh, .ref qm, .ref qv, .int (nI ko19), .long ao19])), (qh, .inl (cA, 8, .inl ho19)), (qm, .inl (cA, 16, .inl mo19)), (qv, .inl (cA, 16, .inl vo19))] H := hP
      have hD : va_D A [(qk, .inl (cA, 32, .inl key)), (h0, .inr (1, [.ref qk, .ref qc, .int st, .int nn, .int lo19])), (qc, .inr (0, [.ref qh, .ref qm, .ref qv, .int (nI ko19), .long ao19])), (qh, .inl (cA, 8, .inl ho19)), (qm, .inl (cA, 16, .inl mo19)), (qv, .inl (cA, 16, .inl vo19))] := hD
      refine lv_iconst (v := 1) hx hb dX1_update_22 (by decide) ?_
      have hP9 := hP.sub (ws' := [(h0, .inr (1, [.ref qk, .ref qc, .int st, .int nn, .int lo19])), (qk, .inl (cA, 32, .inl key)), (qc, .inr (0, [.ref qh, .ref qm, .ref qv, .int (nI ko19), .long ao19])), (qh, .inl (cA, 8, .inl ho19)), (qm, .inl (cA, 16, .inl mo19)), (qv, .inl (cA, 16, .inl vo19))]) [1, 0, 2, 3, 4, 5] rfl
      have hD9 := hD.sub (ws' := [(h0, .inr (1, [.ref qk, .ref qc, .int st, .int nn, .int lo19])), (qk, .inl (cA, 32, .inl key)), (qc, .inr (0, [.ref qh, .ref qm, .ref qv, .int (nI ko19), .long ao19])), (qh, .inl (cA, 8, .inl ho19)), (qm, .inl (cA, 16, .inl mo19)), (qv, .inl (cA, 16, .inl vo19))]) [1, 0, 2, 3, 4, 5] (by decide) rfl
      exact W.zret (v := 1) hx hb hr (by rfl) (fun t ht hW => ⟨⟨1, (lo19, ho19, mo19, vo19, ko19, ao19), rfl, (by dsimp only; rw [(if_neg (fun h => h.elim (fun h => h c5) ((hw9 ▸ c12)))), hw19.1, hw19.2]), by rw [ht]; exact hP9, va_K.moved hW.alike hK, hD9⟩, hS.F ht⟩) hS.2.2 dX1_update_23
    · refine lv_iconst (v := 0) hx hb dX1_update_15 (by decide) ?_
      have hP9 := hP.sub (ws' := [(h0, .inr (1, [.ref qk, .ref qc, .int st, .int nn, .int ln])), (qk, .inl (cA, 32, .inl key)), (qc, .inr (0, [.ref qh, .ref qm, .ref qv, .int (nI kn), .long ab])), (qh, .inl (cA, 8, .inl hh)), (qm, .inl (cA, 16, .inl mm)), (qv, .inl (cA, 16, .inl vv))]) [0, 1, 2, 3, 4, 5] rfl
      have hD9 := hD.sub (ws' := [(h0, .inr (1, [.ref qk, .ref qc, .int st, .int nn, .int ln])), (qk, .inl (cA, 32, .inl key)), (qc, .inr (0, [.ref qh, .ref qm, .ref qv, .int (nI kn), .long ab])), (qh, .inl (cA, 8, .inl hh)), (qm, .inl (cA, 16, .inl mm)), (qv, .inl (cA, 16, .inl vv))]) [0, 1, 2, 3, 4, 5] (by decide) rfl
      exact W.zret (v := 0) hx hb hr (by rfl) (fun t ht hW => ⟨⟨0, (ln, hh, mm, vv, kn, ab), rfl, ((if_pos (Or.inr (hw9 ▸ c12)))).symm, by rw [ht]; exact hP9, va_K.moved hW.alike hK, hD9⟩, hS.F ht⟩) hS.2.2 dX1_update_16

set_option maxHeartbeats 4000000 in
set_option maxRecDepth 100000 in
theorem cX1_fill_ok (l : Launch) (dC : Nat → ClassId) (dI : Nat → Nat → Nat) (cA : ClassId) (tb : Nat → Nat) (sz : Nat) (h0 : Nat) (qk : Nat) (qc : Nat) (qh : Nat) (qm : Nat) (qv : Nat) (key : Nat → Int32) (st : Int32) (nn : Int32) (ln : Int32) (hh : Nat → Int32) (mm : Nat → Int32) (vv : Nat → Int32) (kn : Nat) (ab : Int64) (b : Int32) (n : Int32) (hk : kn ≤ 64) : Met l yX1_fill wsX1_fill ({ frames := 6, cells := 0, slots := 0, locals := 132 }) (va_Pc [.ref h0, .int b, .int n] (kd_I (dC, dI) cA tb sz [(h0, .inr (1, [.ref qk, .ref qc, .int st, .int nn, .int ln])), (qk, .inl (cA, 32, .inl key)), (qc, .inr (0, [.ref qh, .ref qm, .ref qv, .int (nI kn), .long ab])), (qh, .inl (cA, 8, .inl hh)), (qm, .inl (cA, 16, .inl mm)), (qv, .inl (cA, 16, .inl vv))])) (va_Qi (fun (r : Int32) (u : Int32 × (Nat → Int32) × (Nat → Int32) × (Nat → Int32) × Nat × Int64) => (r, u.1, (u.2.1, u.2.2.1, u.2.2.2.2.1, u.2.2.2.2.2)) = if ¬ st = 2 ∨ kd_isB b = 0 ∨ n < 0 ∨ 10000 < n then (0, ln, (hh, mm, kn, ab)) else (1, ln + n, kd_adds (fun _ => b) n.toNatClampNeg (hh, mm, kn, ab))) (fun u t => kd_O (dC, dI) cA (va_A [(h0, .inr (1, [.ref qk, .ref qc, .int st, .int nn, .int ln])), (qk, .inl (cA, 32, .inl key)), (qc, .inr (0, [.ref qh, .ref qm, .ref qv, .int (nI kn), .long ab])), (qh, .inl (cA, 8, .inl hh)), (qm, .inl (cA, 16, .inl mm)), (qv, .inl (cA, 16, .inl vv))] sz) [(h0, .inr (1, [.ref qk, .ref qc, .int st, .int nn, .int u.1])), (qk, .inl (cA, 32, .inl key)), (qc, .inr (0, [.ref qh, .ref qm, .ref qv, .int (nI u.2.2.2.2.1), .long u.2.2.2.2.2])), (qh, .inl (cA, 8, .inl u.2.1)), (qm, .inl (cA, 16, .inl u.2.2.1)), (qv, .inl (cA, 16, .inl u.2.2.2.1))] t) (va_A [(h0, .inr (1, [.ref qk, .ref qc, .int st, .int nn, .int ln])), (qk, .inl (cA, 32, .inl key)), (qc, .inr (0, [.ref qh, .ref qm, .ref qv, .int (nI kn), .long ab])), (qh, .inl (cA, 8, .inl hh)), (qm, .inl (cA, 16, .inl mm)), (qv, .inl (cA, 16, .inl vv))] sz)) 0 0 (va_A [(h0, .inr (1, [.ref qk, .ref qc, .int st, .int nn, .int ln])), (qk, .inl (cA, 32, .inl key)), (qc, .inr (0, [.ref qh, .ref qm, .ref qv, .int (nI kn), .long ab])), (qh, .inl (cA, 8, .inl hh)), (qm, .inl (cA, 16, .inl mm)), (qv, .inl (cA, 16, .inl vv))] sz) := by
  refine Met.ofW (cc := cX1_fill) (maxL := 4) (ret := (some .boolean)) (by decide) rfl ?_
  intro p e s m args below meth c s₁ B hml hv
  obtain ⟨rfl, hsz, hP, hK, hD0, hT⟩ := hv
  have hx := B.exec
  have hb := B.bytes
  have hr := B.returns
  have hts := atoms_spec (ws := wsX1_fill) B.pre
  have hown : s.vm.findClass RX1 = some m.cls := findClass_of_methodNamed B.named
  have hlocks := B.notSynchronized
  have ki1 : ∀ w ∈ u_ws RX1 TX1 5, w ∈ wsX1_fill := by decide +kernel
  have k1 := hts (.fieldLink RX1 20 "KeyedDigest" "state" "I") (by decide +kernel)
  subst hsz
  have hD := hD0.self (sz := s.heap.size)
  generalize hAe : va_A [(h0, .inr (1, [.ref qk, .ref qc, .int st, .int nn, .int ln])), (qk, .inl (cA, 32, .inl key)), (qc, .inr (0, [.ref qh, .ref qm, .ref qv, .int (nI kn), .long ab])), (qh, .inl (cA, 8, .inl hh)), (qm, .inl (cA, 16, .inl mm)), (qv, .inl (cA, 16, .inl vv))] s.heap.size = A at hD hT ⊢
  have hA : ∀ q : Nat, s.heap.size ≤ q → A q := fun q h => by rw [← hAe]; exact Or.inr h
  have hS : va_S A s.heap s.heap [] := va_S.rf
  have hP : va_P (dC, dI) vwCl [(h0, .inr (1, [.ref qk, .ref qc, .int st, .int nn, .int ln])), (qk, .inl (cA, 32, .inl key)), (qc, .inr (0, [.ref qh, .ref qm, .ref qv, .int (nI kn), .long ab])), (qh, .inl (cA, 8, .inl hh)), (qm, .inl (cA, 16, .inl mm)), (qv, .inl (cA, 16, .inl vv))] s.heap := hP
  have hl := lv_entry ([.ref h0, .int b, .int n]) (n := 4) (Nat.le_of_ble_eq_true rfl)
  rw [lg_entry_eq]
  generalize (lg_sl ([.ref h0, .int b, .int n]) ++ List.replicate (4 - (lg_sl ([.ref h0, .int b, .int n])).length) Slot.unset).toArray = ls at hl ⊢
  have hl : lv_has ls 4 [(0, .ref h0), (1, .int b), (2, .int n)] := hl
  refine lv_aload_n hx hb dX1_fill_0 rfl (lv_at hl 0 rfl) ?_
  refine va_get (D := (dC, dI)) (ci := 1) (v := .int st) (C := RX1) (T := TX1) (N := 5) hx hb hts ki1 hown hK hP 0 rfl rfl 2 (by decide) k1 (fun _ h9 => h9) rfl dX1_fill_1 ?_
  refine lv_iconst (v := 2) hx hb dX1_fill_4 (by decide) ?_
  refine lv_icmp_ne (tgt := 26) hx hb dX1_fill_5 (by decide) (fun c5 => ?_) (fun c5 => ?_)
  · refine lv_iconst (v := 0) hx hb dX1_fill_26 (by decide) ?_
    have hP9 := hP.sub (ws' := [(h0, .inr (1, [.ref qk, .ref qc, .int st, .int nn, .int ln])), (qk, .inl (cA, 32, .inl key)), (qc, .inr (0, [.ref qh, .ref qm, .ref qv, .int (nI kn), .long ab])), (qh, .inl (cA, 8, .inl hh)), (qm, .inl (cA, 16, .inl mm)), (qv, .inl (cA, 16, .inl vv))]) [0, 1, 2, 3, 4, 5] rfl
    have hD9 := hD.sub (ws' := [(h0, .inr (1, [.ref qk, .ref qc, .int st, .int nn, .int ln])), (qk, .inl (cA, 32, .inl key)), (qc, .inr (0, [.ref qh, .ref qm, .ref qv, .int (nI kn), .long ab])), (qh, .inl (cA, 8, .inl hh)), (qm, .inl (cA, 16, .inl mm)), (qv, .inl (cA, 16, .inl vv))]) [0, 1, 2, 3, 4, 5] (by decide) rfl
    exact W.zret (v := 0) hx hb hr (by rfl) (fun t ht hW => ⟨⟨0, (ln, hh, mm, vv, kn, ab), rfl, ((if_pos (Or.inl c5))).symm, by rw [ht]; exact hP9, va_K.moved hW.alike hK, hD9⟩, hS.F ht⟩) hS.2.2 dX1_fill_27
  · refine lv_iload_n hx hb dX1_fill_8 rfl (lv_at hl 1 rfl) ?_
    have hPc := hP.sub (ws' := []) [] rfl
    have hDc := hD.sub (ws' := []) [] (by decide) rfl
    have hFc := va_free (wc := []) hD hS hA [] rfl
    refine va_calli (va_runS (As := [.int b]) (rest := []) ⟨hx, hb, hml, hown, hts⟩ (cX1_isByte_ok l dC dI cA tb s.heap.size b ) (va_cwS 1 hts gX1_fill_X1_isByte rfl rfl rfl (by decide +kernel) ⟨Nat.le_of_ble_eq_true rfl, Nat.le_of_ble_eq_true rfl⟩) ⟨fun a U g mk q => kd_calling rfl rfl q, fun U hU hW => ⟨rfl, kd_pre hPc hK hDc hT hS hFc U hU hW⟩⟩ rfl rfl hl.1 rfl (lv_room (Nat.le_of_ble_eq_true rfl)) dX1_fill_9 ⟨Nat.le_of_ble_eq_true rfl, Nat.le_of_ble_eq_true rfl⟩) hS (fun q _ h => hFc q h) hFc (fun r9 u t H1 locs ht hvm hw hB hz1 hk1 hS => ?_)
    have hw9 : r9 = kd_isB b := hw
    have hP1 : va_P (dC, dI) vwCl [] H1 := by rw [← ht]; exact hB.1
    have hD1 : va_D (va_A [] s.heap.size) [] := hB.2.2
    obtain ⟨hP, hD⟩ := va_join (wr := [(h0, .inr (1, [.ref qk, .ref qc, .int st, .int nn, .int ln])), (qk, .inl (cA, 32, .inl key)), (qc, .inr (0, [.ref qh, .ref qm, .ref qv, .int (nI kn), .long ab])), (qh, .inl (cA, 8, .inl hh)), (qm, .inl (cA, 16, .inl mm)), (qv, .inl (cA, 16, .inl vv))]) (w1 := []) hP hD [] [0, 1, 2, 3, 4, 5] rfl rfl (by decide) (by decide) hk1 hFc hP1 hD1
    clear hw hB hk1 hPc hDc hFc hP1 hD1 hvm hz1
    generalize H1 = H at hP hS ⊢
    have hP : va_P (dC, dI) vwCl [(h0, .inr (1, [.ref qk, .ref qc, .int st, .int nn, .int ln])), (qk, .inl (cA, 32, .inl key)), (qc, .inr (0, [.ref qh, .ref qm, .ref qv, .int (nI kn), .long ab])), (qh, .inl (cA, 8, .inl hh)), (qm, .inl (cA, 16, .inl mm)), (qv, .inl (cA, 16, .inl vv))] H := hP
    have hD : va_D A [(h0, .inr (1, [.ref qk, .ref qc, .int st, .int nn, .int ln])), (qk, .inl (cA, 32, .inl key)), (qc, .inr (0, [.ref qh, .ref qm, .ref qv, .int (nI kn), .long ab])), (qh, .inl (cA, 8, .inl hh)), (qm, .inl (cA, 16, .inl mm)), (qv, .inl (cA, 16, .inl vv))] := hD
    refine lv_if_eq (tgt := 26) hx hb dX1_fill_12 (by decide) (fun c12 => ?_) (fun c12 => ?_)
    · refine lv_iconst (v := 0) hx hb dX1_fill_26 (by decide) ?_
      have hP9 := hP.sub (ws' := [(h0, .inr (1, [.ref qk, .ref qc, .int st, .int nn, .int ln])), (qk, .inl (cA, 32, .inl key)), (qc, .inr (0, [.ref qh, .ref qm, .ref qv, .int (nI kn), .long ab])), (qh, .inl (cA, 8, .inl hh)), (qm, .inl (cA, 16, .inl mm)), (qv, .inl (cA, 16, .inl vv))]) [0, 1, 2, 3, 4, 5] rfl
      have hD9 := hD.sub (ws' := [(h0, .inr (1, [.ref qk, .ref qc, .int st, .int nn, .int ln])), (qk, .inl (cA, 32, .inl key)), (qc, .inr (0, [.ref qh, .ref qm, .ref qv, .int (nI kn), .long ab])), (qh, .inl (cA, 8, .inl hh)), (qm, .inl (cA, 16, .inl mm)), (qv, .inl (cA, 16, .inl vv))]) [0, 1, 2, 3, 4, 5] (by decide) rfl
      exact W.zret (v := 0) hx hb hr (by rfl) (fun t ht hW => ⟨⟨0, (ln, hh, mm, vv, kn, ab), rfl, ((if_pos (Or.inr (Or.inl (hw9 ▸ c12))))).symm, by rw [ht]; exact hP9, va_K.moved hW.alike hK, hD9⟩, hS.F ht⟩) hS.2.2 dX1_fill_27
    · refine lv_iload_n hx hb dX1_fill_15 rfl (lv_at hl 2 rfl) ?_
      refine lv_if_lt (tgt := 26) hx hb dX1_fill_16 (by decide) (fun c16 => ?_) (fun c16 => ?_)
      · refine lv_iconst (v := 0) hx hb dX1_fill_26 (by decide) ?_
        have hP9 := hP.sub (ws' := [(h0, .inr (1, [.ref qk, .ref qc, .int st, .int nn, .int ln])), (qk, .inl (cA, 32, .inl key)), (qc, .inr (0, [.ref qh, .ref qm, .ref qv, .int (nI kn), .long ab])), (qh, .inl (cA, 8, .inl hh)), (qm, .inl (cA, 16, .inl mm)), (qv, .inl (cA, 16, .inl vv))]) [0, 1, 2, 3, 4, 5] rfl
        have hD9 := hD.sub (ws' := [(h0, .inr (1, [.ref qk, .ref qc, .int st, .int nn, .int ln])), (qk, .inl (cA, 32, .inl key)), (qc, .inr (0, [.ref qh, .ref qm, .ref qv, .int (nI kn), .long ab])), (qh, .inl (cA, 8, .inl hh)), (qm, .inl (cA, 16, .inl mm)), (qv, .inl (cA, 16, .inl vv))]) [0, 1, 2, 3, 4, 5] (by decide) rfl
        exact W.zret (v := 0) hx hb hr (by rfl) (fun t ht hW => ⟨⟨0, (ln, hh, mm, vv, kn, ab), rfl, ((if_pos (Or.inr (Or.inr (Or.inl c16))))).symm, by rw [ht]; exact hP9, va_K.moved hW.alike hK, hD9⟩, hS.F ht⟩) hS.2.2 dX1_fill_27
      · refine lv_iload_n hx hb dX1_fill_19 rfl (lv_at hl 2 rfl) ?_
        refine lv_sipush (v := 10000) hx hb dX1_fill_20 (by decide) ?_
        refine lv_icmp_le (tgt := 28) hx hb dX1_fill_23 (by decide) (fun c23 => ?_) (fun c23 => ?_)
        · obtain ⟨nj, hnj, rfl⟩ := nI_of2 (n := 10000) (M := 10000) (by decide) c16 c23
          refine lv_iconst (v := 0) hx hb dX1_fill_28 (by decide) ?_
          refine lv_istore_n (lv' := [(3, .int 0), (0, .ref h0), (1, .int b), (2, .int (nI nj))]) hx hb dX1_fill_29 rfl hl (by decide) rfl (fun ls hl => ?_)
          have lp : ∀ (k : Nat) (i : Nat) (x : Int32) (u0 : kd_C) (l0 : Int32) (v0 : Nat → Int32), (i ≤ nj) → (nj - i < k) → (x = nI i) → (u0 = kd_adds (fun _ => b) i (hh, mm, kn, ab)) → (l0 = ln + nI i) → ∀ (H : Heap) (locs : List Loc) (ls : Array Slot), va_P (dC, dI) vwCl [(h0, .inr (1, [.ref qk, .ref qc, .int st, .int nn, .int l0])), (qk, .inl (cA, 32, .inl key)), (qc, .inr (0, [.ref qh, .ref qm, .ref qv, .int (nI u0.2.2.1), .long u0.2.2.2])), (qh, .inl (cA, 8, .inl u0.1)), (qm, .inl (cA, 16, .inl u0.2.1)), (qv, .inl (cA, 16, .inl v0))] H → va_D A [(h0, .inr (1, [.ref qk, .ref qc, .int st, .int nn, .int l0])), (qk, .inl (cA, 32, .inl key)), (qc, .inr (0, [.ref qh, .ref qm, .ref qv, .int (nI u0.2.2.1), .long u0.2.2.2])), (qh, .inl (cA, 8, .inl u0.1)), (qm, .inl (cA, 16, .inl u0.2.1)), (qv, .inl (cA, 16, .inl v0))] → va_S A s.heap H locs → lv_has ls 4 [(3, .int x), (0, .ref h0), (1, .int b), (2, .int (nI nj))] → W p l e (headSpec wsX1_fill { frames := 6, cells := 0, slots := 0, locals := 132 }).room s m ([.ref h0, .int b, .int (nI nj)]).toArray below meth c H locs 0 0 (MQ below (va_Qi (fun (r : Int32) (u : Int32 × (Nat → Int32) × (Nat → Int32) × (Nat → Int32) × Nat × Int64) => (r, u.1, (u.2.1, u.2.2.1, u.2.2.2.2.1, u.2.2.2.2.2)) = if ¬ st = 2 ∨ kd_isB b = 0 ∨ (nI nj) < 0 ∨ 10000 < (nI nj) then (0, ln, (hh, mm, kn, ab)) else (1, ln + (nI nj), kd_adds (fun _ => b) (nI nj).toNatClampNeg (hh, mm, kn, ab))) (fun u t => kd_O (dC, dI) cA A [(h0, .inr (1, [.ref qk, .ref qc, .int st, .int nn, .int u.1])), (qk, .inl (cA, 32, .inl key)), (qc, .inr (0, [.ref qh, .ref qm, .ref qv, .int (nI u.2.2.2.2.1), .long u.2.2.2.2.2])), (qh, .inl (cA, 8, .inl u.2.1)), (qm, .inl (cA, 16, .inl u.2.2.1)), (qv, .inl (cA, 16, .inl u.2.2.2.1))] t) A) ([.ref h0, .int b, .int (nI nj)]).toArray s 0 0 A) (F0 m 30 ls []) := by
            intro k
            induction k with
            | zero =>
              intro i x u0 l0 v0 hi hm ex hu hl0
              omega
            | succ k ih =>
              intro i x u0 l0 v0 hi hm ex hu hl0 H locs ls hP hD hS hl
              refine lv_iload_n hx hb dX1_fill_30 rfl (lv_at hl 0 rfl) ?_
              refine lv_iload_n hx hb dX1_fill_31 rfl (lv_at hl 3 rfl) ?_
              refine lv_icmp_ge (tgt := 46) hx hb dX1_fill_32 (by decide) (fun c32 => ?_) (fun c32 => ?_)
              · have hge : nj ≤ i := kd_ge ex (by omega) (by omega) c32
                have hij : i = nj := by omega
                rw [hij] at hu hl0
                subst hu hl0
                refine lv_iconst (v := 1) hx hb dX1_fill_46 (by decide) ?_
                have hP9 := hP.sub (ws' := [(h0, .inr (1, [.ref qk, .ref qc, .int st, .int nn, .int (ln + nI nj)])), (qk, .inl (cA, 32, .inl key)), (qc, .inr (0, [.ref qh, .ref qm, .ref qv, .int (nI ((kd_adds (fun _ => b) nj (hh, mm, kn, ab)).2.2.1)), .long ((kd_adds (fun _ => b) nj (hh, mm, kn, ab)).2.2.2)])), (qh, .inl (cA, 8, .inl ((kd_adds (fun _ => b) nj (hh, mm, kn, ab)).1))), (qm, .inl (cA, 16, .inl ((kd_adds (fun _ => b) nj (hh, mm, kn, ab)).2.1))), (qv, .inl (cA, 16, .inl v0))]) [0, 1, 2, 3, 4, 5] rfl
                have hD9 := hD.sub (ws' := [(h0, .inr (1, [.ref qk, .ref qc, .int st, .int nn, .int (ln + nI nj)])), (qk, .inl (cA, 32, .inl key)), (qc, .inr (0, [.ref qh, .ref qm, .ref qv, .int (nI ((kd_adds (fun _ => b) nj (hh, mm, kn, ab)).2.2.1)), .long ((kd_adds (fun _ => b) nj (hh, mm, kn, ab)).2.2.2)])), (qh, .inl (cA, 8, .inl ((kd_adds (fun _ => b) nj (hh, mm, kn, ab)).1))), (qm, .inl (cA, 16, .inl ((kd_adds (fun _ => b) nj (hh, mm, kn, ab)).2.1))), (qv, .inl (cA, 16, .inl v0))]) [0, 1, 2, 3, 4, 5] (by decide) rfl
                exact W.zret (v := 1) hx hb hr (by rfl) (fun t ht hW => ⟨⟨1, (ln + nI nj, (kd_adds (fun _ => b) nj (hh, mm, kn, ab)).1, (kd_adds (fun _ => b) nj (hh, mm, kn, ab)).2.1, v0, (kd_adds (fun _ => b) nj (hh, mm, kn, ab)).2.2.1, (kd_adds (fun _ => b) nj (hh, mm, kn, ab)).2.2.2), rfl, (by dsimp only; rw [(if_neg (fun h => h.elim (fun h => h c5) (fun h => h.elim (hw9 ▸ c12) (fun h => h.elim c16 ((fun h => absurd c23 (Int32.not_le.mpr h))))))), nI_clamp (by omega)]), by rw [ht]; exact hP9, va_K.moved hW.alike hK, hD9⟩, hS.F ht⟩) hS.2.2 dX1_fill_47
              · have hlt : i < nj := kd_lt ex (by omega) (by omega) c32
                refine lv_aload_n hx hb dX1_fill_35 rfl (lv_at hl 1 rfl) ?_
                refine lv_iload_n hx hb dX1_fill_36 rfl (lv_at hl 2 rfl) ?_
                have hPc := hP.sub (ws' := [(h0, .inr (1, [.ref qk, .ref qc, .int st, .int nn, .int l0])), (qc, .inr (0, [.ref qh, .ref qm, .ref qv, .int (nI u0.2.2.1), .long u0.2.2.2])), (qh, .inl (cA, 8, .inl u0.1)), (qm, .inl (cA, 16, .inl u0.2.1)), (qv, .inl (cA, 16, .inl v0))]) [0, 2, 3, 4, 5] rfl
                have hDc := hD.sub (ws' := [(h0, .inr (1, [.ref qk, .ref qc, .int st, .int nn, .int l0])), (qc, .inr (0, [.ref qh, .ref qm, .ref qv, .int (nI u0.2.2.1), .long u0.2.2.2])), (qh, .inl (cA, 8, .inl u0.1)), (qm, .inl (cA, 16, .inl u0.2.1)), (qv, .inl (cA, 16, .inl v0))]) [0, 2, 3, 4, 5] (by decide) rfl
                have hFc := va_free (wc := [(h0, .inr (1, [.ref qk, .ref qc, .int st, .int nn, .int l0])), (qc, .inr (0, [.ref qh, .ref qm, .ref qv, .int (nI u0.2.2.1), .long u0.2.2.2])), (qh, .inl (cA, 8, .inl u0.1)), (qm, .inl (cA, 16, .inl u0.2.1)), (qv, .inl (cA, 16, .inl v0))]) hD hS hA [0, 2, 3, 4, 5] rfl
                refine va_callv (va_runV (As := [.int b]) (rest := []) ⟨hx, hb, hml, hown, hts⟩ (cX1_addToMessage_ok l dC dI cA tb H.size h0 qk qc qh qm qv st nn l0 u0.1 u0.2.1 v0 u0.2.2.1 u0.2.2.2 b (by rw [hu]; exact kd_adds_le hk i)) (cwV 1 hts gX1_fill_X1_addToMessage rfl rfl rfl (by decide +kernel) ⟨Nat.le_of_ble_eq_true rfl, Nat.le_of_ble_eq_true rfl⟩) ⟨fun a U g mk q => kd_calling rfl rfl q, va_recv hK hPc (ci := 1) (q0 := 0) rfl rfl, fun U hU hW => ⟨rfl, kd_pre hPc hK hDc hT hS hFc U hU hW⟩⟩ rfl rfl hl.1 rfl (lv_room (Nat.le_of_ble_eq_true rfl)) dX1_fill_37 ⟨Nat.le_of_ble_eq_true rfl, Nat.le_of_ble_eq_true rfl⟩) hS (fun q _ h => hFc q h) hFc (fun u t H1 locs ht hvm hw hB hz1 hk1 hS => ?_)
                obtain ⟨lo37, ho37, mo37, vo37, ko37, ao37⟩ := u
                have hw37 : (ho37, mo37, ko37, ao37) = kd_add b (u0.1, u0.2.1, u0.2.2.1, u0.2.2.2) ∧ lo37 = l0 + 1 := hw
                have hP1 : va_P (dC, dI) vwCl [(h0, .inr (1, [.ref qk, .ref qc, .int st, .int nn, .int lo37])), (qc, .inr (0, [.ref qh, .ref qm, .ref qv, .int (nI ko37), .long ao37])), (qh, .inl (cA, 8, .inl ho37)), (qm, .inl (cA, 16, .inl mo37)), (qv, .inl (cA, 16, .inl vo37))] H1 := by rw [← ht]; exact hB.1
                have hD1 : va_D (va_A [(h0, .inr (1, [.ref qk, .ref qc, .int st, .int nn, .int l0])), (qc, .inr (0, [.ref qh, .ref qm, .ref qv, .int (nI u0.2.2.1), .long u0.2.2.2])), (qh, .inl (cA, 8, .inl u0.1)), (qm, .inl (cA, 16, .inl u0.2.1)), (qv, .inl (cA, 16, .inl v0))] H.size) [(h0, .inr (1, [.ref qk, .ref qc, .int st, .int nn, .int lo37])), (qc, .inr (0, [.ref qh, .ref qm, .ref qv, .int (nI ko37), .long ao37])), (qh, .inl (cA, 8, .inl ho37)), (qm, .inl (cA, 16, .inl mo37)), (qv, .inl (cA, 16, .inl vo37))] := hB.2.2
                obtain ⟨hP, hD⟩ := va_join (wr := [(qk, .inl (cA, 32, .inl key))]) (w1 := [(h0, .inr (1, [.ref qk, .ref qc, .int st, .int nn, .int lo37])), (qc, .inr (0, [.ref qh, .ref qm, .ref qv, .int (nI ko37), .long ao37])), (qh, .inl (cA, 8, .inl ho37)), (qm, .inl (cA, 16, .inl mo37)), (qv, .inl (cA, 16, .inl vo37))]) hP hD [0, 2, 3, 4, 5] [1] rfl rfl (by decide) (by decide) hk1 hFc hP1 hD1
                clear hw hB hk1 hPc hDc hFc hP1 hD1 hvm hz1
                generalize H1 = H at hP hS ⊢
                have hP : va_P (dC, dI) vwCl [(qk, .inl (cA, 32, .inl key)), (h0, .inr (1, [.ref qk, .ref qc, .int st, .int nn, .int lo37])), (qc, .inr (0, [.ref qh, .ref qm, .ref qv, .int (nI ko37), .long ao37])), (qh, .inl (cA, 8, .inl ho37)), (qm, .inl (cA, 16, .inl mo37)), (qv, .inl (cA, 16, .inl vo37))] H := hP
                have hD : va_D A [(qk, .inl (cA, 32, .inl key)), (h0, .inr (1, [.ref qk, .ref qc, .int st, .int nn, .int lo37])), (qc, .inr (0, [.ref qh, .ref qm, .ref qv, .int (nI ko37), .long ao37])), (qh, .inl (cA, 8, .inl ho37)), (qm, .inl (cA, 16, .inl mo37)), (qv, .inl (cA, 16, .inl vo37))] := hD
                obtain ⟨x40, ex40⟩ : ∃ zz : Int32, zz = x + 1 := ⟨_, rfl⟩
                refine lv_iinc (v := x40) (lv' := [(3, .int x40), (0, .ref h0), (1, .int b), (2, .int (nI nj))]) hx hb dX1_fill_40 hl (k := 0) rfl (by rw [ex40]; rfl) (by decide) rfl (fun ls hl => ?_)
                refine lv_goto (tgt := 30) hx hb dX1_fill_43 (by decide) ?_
                exact ih  (i + 1) x40 (ho37, mo37, ko37, ao37) lo37 vo37 (by omega) (by omega) (by rw [ex40, ex]; exact nI_1 i) (by rw [hw37.1]; show kd_add b u0 = _; rw [hu]; rfl) (by rw [hw37.2, hl0]; exact kd_ln1 ln i) _ _ ls (hP.sub [1, 0, 2, 3, 4, 5] rfl) (hD.sub [1, 0, 2, 3, 4, 5] (by decide) rfl) hS (lv_sub hl [0, 1, 2, 3] rfl)
          exact lp (nj + 1) 0 0 (hh, mm, kn, ab) ln vv (by omega) (by omega) rfl rfl (kd_ln0 ln) _ _ ls (hP.sub [0, 1, 2, 3, 4, 5] rfl) (hD.sub [0, 1, 2, 3, 4, 5] (by decide) rfl) hS (lv_sub hl [0, 1, 2, 3] rfl)
        · refine lv_iconst (v := 0) hx hb dX1_fill_26 (by decide) ?_
          have hP9 := hP.sub (ws' := [(h0, .inr (1, [.ref qk, .ref qc, .int st, .int nn, .int ln])), (qk, .inl (cA, 32, .inl key)), (qc, .inr (0, [.ref qh, .ref qm, .ref qv, .int (nI kn), .long ab])), (qh, .inl (cA, 8, .inl hh)), (qm, .inl (cA, 16, .inl mm)), (qv, .inl (cA, 16, .inl vv))]) [0, 1, 2, 3, 4, 5] rfl
          have hD9 := hD.sub (ws' := [(h0, .inr (1, [.ref qk, .ref qc, .int st, .int nn, .int ln])), (qk, .inl (cA, 32, .inl key)), (qc, .inr (0, [.ref qh, .ref qm, .ref qv, .int (nI kn), .long ab])), (qh, .inl (cA, 8, .inl hh)), (qm, .inl (cA, 16, .inl mm)), (qv, .inl (cA, 16, .inl vv))]) [0, 1, 2, 3, 4, 5] (by decide) rfl
          exact W.zret (v := 0) hx hb hr (by rfl) (fun t ht hW => ⟨⟨0, (ln, hh, mm, vv, kn, ab), rfl, ((if_pos (Or.inr (Or.inr (Or.inr (Int32.not_le.mp c23)))))).symm, by rw [ht]; exact hP9, va_K.moved hW.alike hK, hD9⟩, hS.F ht⟩) hS.2.2 dX1_fill_27

set_option maxHeartbeats 4000000 in
set_option maxRecDepth 100000 in
theorem cX1_addHighestFirst_ok (l : Launch) (dC : Nat → ClassId) (dI : Nat → Nat → Nat) (cA : ClassId) (tb : Nat → Nat) (sz : Nat) (h0 : Nat) (qk : Nat) (qc : Nat) (qh : Nat) (qm : Nat) (qv : Nat) (st : Int32) (nn : Int32) (ln : Int32) (hh : Nat → Int32) (mm : Nat → Int32) (vv : Nat → Int32) (kn : Nat) (ab : Int64) (w : Int32) (cv : Int32) (cn : Nat) (hk : kn ≤ 64) (hc : cn ≤ 4) (hcv : ∀ i, i ≤ 4 → (cv ≤ nI i ↔ cn ≤ i)) : Met l yX1_addHighestFirst wsX1_addHighestFirst ({ frames := 6, cells := 0, slots := 0, locals := 132 }) (va_Pc [.ref h0, .int w, .int cv] (kd_I (dC, dI) cA tb sz [(h0, .inr (1, [.ref qk, .ref qc, .int st, .int nn, .int ln])), (qc, .inr (0, [.ref qh, .ref qm, .ref qv, .int (nI kn), .long ab])), (qh, .inl (cA, 8, .inl hh)), (qm, .inl (cA, 16, .inl mm)), (qv, .inl (cA, 16, .inl vv))])) (va_Qv (fun (u : Int32 × (Nat → Int32) × (Nat → Int32) × (Nat → Int32) × Nat × Int64) => (u.2.1, u.2.2.1, u.2.2.2.2.1, u.2.2.2.2.2) = kd_adds (kd_hi w) cn (hh, mm, kn, ab) ∧ u.1 = ln + nI cn) (fun u t => kd_O (dC, dI) cA (va_A [(h0, .inr (1, [.ref qk, .ref qc, .int st, .int nn, .int ln])), (qc, .inr (0, [.ref qh, .ref qm, .ref qv, .int (nI kn), .long ab])), (qh, .inl (cA, 8, .inl hh)), (qm, .inl (cA, 16, .inl mm)), (qv, .inl (cA, 16, .inl vv))] sz) [(h0, .inr (1, [.ref qk, .ref qc, .int st, .int nn, .int u.1])), (qc, .inr (0, [.ref qh, .ref qm, .ref qv, .int (nI u.2.2.2.2.1), .long u.2.2.2.2.2])), (qh, .inl (cA, 8, .inl u.2.1)), (qm, .inl (cA, 16, .inl u.2.2.1)), (qv, .inl (cA, 16, .inl u.2.2.2.1))] t) (va_A [(h0, .inr (1, [.ref qk, .ref qc, .int st, .int nn, .int ln])), (qc, .inr (0, [.ref qh, .ref qm, .ref qv, .int (nI kn), .long ab])), (qh, .inl (cA, 8, .inl hh)), (qm, .inl (cA, 16, .inl mm)), (qv, .inl (cA, 16, .inl vv))] sz)) 0 0 (va_A [(h0, .inr (1, [.ref qk, .ref qc, .int st, .int nn, .int ln])), (qc, .inr (0, [.ref qh, .ref qm, .ref qv, .int (nI kn), .long ab])), (qh, .inl (cA, 8, .inl hh)), (qm, .inl (cA, 16, .inl mm)), (qv, .inl (cA, 16, .inl vv))] sz) := by
  refine Met.ofW (cc := cX1_addHighestFirst) (maxL := 4) (ret := none) (by decide) rfl ?_
  intro p e s m args below meth c s₁ B hml hv
  obtain ⟨rfl, hsz, hP, hK, hD0, hT⟩ := hv
  have hx := B.exec
  have hb := B.bytes
  have hr := B.returns
  have hts := atoms_spec (ws := wsX1_addHighestFirst) B.pre
  have hown : s.vm.findClass RX1 = some m.cls := findClass_of_methodNamed B.named
  have hlocks := B.notSynchronized
  subst hsz
  have hD := hD0.self (sz := s.heap.size)
  generalize hAe : va_A [(h0, .inr (1, [.ref qk, .ref qc, .int st, .int nn, .int ln])), (qc, .inr (0, [.ref qh, .ref qm, .ref qv, .int (nI kn), .long ab])), (qh, .inl (cA, 8, .inl hh)), (qm, .inl (cA, 16, .inl mm)), (qv, .inl (cA, 16, .inl vv))] s.heap.size = A at hD hT ⊢
  have hA : ∀ q : Nat, s.heap.size ≤ q → A q := fun q h => by rw [← hAe]; exact Or.inr h
  have hS : va_S A s.heap s.heap [] := va_S.rf
  have hP : va_P (dC, dI) vwCl [(h0, .inr (1, [.ref qk, .ref qc, .int st, .int nn, .int ln])), (qc, .inr (0, [.ref qh, .ref qm, .ref qv, .int (nI kn), .long ab])), (qh, .inl (cA, 8, .inl hh)), (qm, .inl (cA, 16, .inl mm)), (qv, .inl (cA, 16, .inl vv))] s.heap := hP
  have hl := lv_entry ([.ref h0, .int w, .int cv]) (n := 4) (Nat.le_of_ble_eq_true rfl)
  rw [lg_entry_eq]
  generalize (lg_sl ([.ref h0, .int w, .int cv]) ++ List.replicate (4 - (lg_sl ([.ref h0, .int w, .int cv])).length) Slot.unset).toArray = ls at hl ⊢
  have hl : lv_has ls 4 [(0, .ref h0), (1, .int w), (2, .int cv)] := hl
  refine lv_iconst (v := 0) hx hb dX1_addHighestFirst_0 (by decide) ?_
  refine lv_istore_n (lv' := [(3, .int 0), (0, .ref h0), (1, .int w), (2, .int cv)]) hx hb dX1_addHighestFirst_1 rfl hl (by decide) rfl (fun ls hl => ?_)
  have lp : ∀ (k : Nat) (i : Nat) (x : Int32) (u0 : kd_C) (l0 : Int32) (v0 : Nat → Int32), (i ≤ cn) → (cn - i < k) → (x = nI i) → (u0 = kd_adds (kd_hi w) i (hh, mm, kn, ab)) → (l0 = ln + nI i) → ∀ (H : Heap) (locs : List Loc) (ls : Array Slot), va_P (dC, dI) vwCl [(h0, .inr (1, [.ref qk, .ref qc, .int st, .int nn, .int l0])), (qc, .inr (0, [.ref qh, .ref qm, .ref qv, .int (nI u0.2.2.1), .long u0.2.2.2])), (qh, .inl (cA, 8, .inl u0.1)), (qm, .inl (cA, 16, .inl u0.2.1)), (qv, .inl (cA, 16, .inl v0))] H → va_D A [(h0, .inr (1, [.ref qk, .ref qc, .int st, .int nn, .int l0])), (qc, .inr (0, [.ref qh, .ref qm, .ref qv, .int (nI u0.2.2.1), .long u0.2.2.2])), (qh, .inl (cA, 8, .inl u0.1)), (qm, .inl (cA, 16, .inl u0.2.1)), (qv, .inl (cA, 16, .inl v0))] → va_S A s.heap H locs → lv_has ls 4 [(3, .int x), (0, .ref h0), (1, .int w), (2, .int cv)] → W p l e (headSpec wsX1_addHighestFirst { frames := 6, cells := 0, slots := 0, locals := 132 }).room s m ([.ref h0, .int w, .int cv]).toArray below meth c H locs 0 0 (MQ below (va_Qv (fun (u : Int32 × (Nat → Int32) × (Nat → Int32) × (Nat → Int32) × Nat × Int64) => (u.2.1, u.2.2.1, u.2.2.2.2.1, u.2.2.2.2.2) = kd_adds (kd_hi w) cn (hh, mm, kn, ab) ∧ u.1 = ln + nI cn) (fun u t => kd_O (dC, dI) cA A [(h0, .inr (1, [.ref qk, .ref qc, .int st, .int nn, .int u.1])), (qc, .inr (0, [.ref qh, .ref qm, .ref qv, .int (nI u.2.2.2.2.1), .long u.2.2.2.2.2])), (qh, .inl (cA, 8, .inl u.2.1)), (qm, .inl (cA, 16, .inl u.2.2.1)), (qv, .inl (cA, 16, .inl u.2.2.2.1))] t) A) ([.ref h0, .int w, .int cv]).toArray s 0 0 A) (F0 m 2 ls []) := by
    intro k
    induction k with
    | zero =>
      intro i x u0 l0 v0 hi hm ex hu hl0
      omega
    | succ k ih =>
      intro i x u0 l0 v0 hi hm ex hu hl0 H locs ls hP hD hS hl
      refine lv_iload_n hx hb dX1_addHighestFirst_2 rfl (lv_at hl 0 rfl) ?_
      refine lv_iload_n hx hb dX1_addHighestFirst_3 rfl (lv_at hl 3 rfl) ?_
      refine lv_icmp_ge (tgt := 30) hx hb dX1_addHighestFirst_4 (by decide) (fun c4 => ?_) (fun c4 => ?_)
      · have hge : cn ≤ i := (hcv i (by omega)).mp (by rw [← ex]; exact c4)
        have hij : i = cn := by omega
        rw [hij] at hu hl0
        subst hu hl0
        have hP9 := hP.sub (ws' := [(h0, .inr (1, [.ref qk, .ref qc, .int st, .int nn, .int (ln + nI cn)])), (qc, .inr (0, [.ref qh, .ref qm, .ref qv, .int (nI ((kd_adds (kd_hi w) cn (hh, mm, kn, ab)).2.2.1)), .long ((kd_adds (kd_hi w) cn (hh, mm, kn, ab)).2.2.2)])), (qh, .inl (cA, 8, .inl ((kd_adds (kd_hi w) cn (hh, mm, kn, ab)).1))), (qm, .inl (cA, 16, .inl ((kd_adds (kd_hi w) cn (hh, mm, kn, ab)).2.1))), (qv, .inl (cA, 16, .inl v0))]) [0, 1, 2, 3, 4] rfl
        have hD9 := hD.sub (ws' := [(h0, .inr (1, [.ref qk, .ref qc, .int st, .int nn, .int (ln + nI cn)])), (qc, .inr (0, [.ref qh, .ref qm, .ref qv, .int (nI ((kd_adds (kd_hi w) cn (hh, mm, kn, ab)).2.2.1)), .long ((kd_adds (kd_hi w) cn (hh, mm, kn, ab)).2.2.2)])), (qh, .inl (cA, 8, .inl ((kd_adds (kd_hi w) cn (hh, mm, kn, ab)).1))), (qm, .inl (cA, 16, .inl ((kd_adds (kd_hi w) cn (hh, mm, kn, ab)).2.1))), (qv, .inl (cA, 16, .inl v0))]) [0, 1, 2, 3, 4] (by decide) rfl
        exact W.vret hx hb hr (fun t ht hW => ⟨⟨(ln + nI cn, (kd_adds (kd_hi w) cn (hh, mm, kn, ab)).1, (kd_adds (kd_hi w) cn (hh, mm, kn, ab)).2.1, v0, (kd_adds (kd_hi w) cn (hh, mm, kn, ab)).2.2.1, (kd_adds (kd_hi w) cn (hh, mm, kn, ab)).2.2.2), rfl, ⟨rfl, rfl⟩, by rw [ht]; exact hP9, va_K.moved hW.alike hK, hD9⟩, hS.F ht⟩) hS.2.2 dX1_addHighestFirst_30
      · have hlt : i < cn := Nat.not_le.mp fun h => c4 (by rw [ex]; exact (hcv i (by omega)).mpr h)
        refine lv_aload_n hx hb dX1_addHighestFirst_7 rfl (lv_at hl 1 rfl) ?_
        refine lv_iload_n hx hb dX1_addHighestFirst_8 rfl (lv_at hl 2 rfl) ?_
        refine lv_bipush (v := 24) hx hb dX1_addHighestFirst_9 (by decide) ?_
        refine lv_bipush (v := 8) hx hb dX1_addHighestFirst_11 (by decide) ?_
        refine lv_iload_n hx hb dX1_addHighestFirst_13 rfl (lv_at hl 0 rfl) ?_
        refine lv_imul hx hb dX1_addHighestFirst_14 ?_
        refine lv_isub hx hb dX1_addHighestFirst_15 ?_
        refine lv_iushr (v := kd_ushr w (24 - (8 * x))) hx hb dX1_addHighestFirst_16 rfl ?_
        refine lv_sipush (v := 255) hx hb dX1_addHighestFirst_17 (by decide) ?_
        refine lv_iand hx hb dX1_addHighestFirst_20 ?_
        have hPc := hP.sub (ws' := [(h0, .inr (1, [.ref qk, .ref qc, .int st, .int nn, .int l0])), (qc, .inr (0, [.ref qh, .ref qm, .ref qv, .int (nI u0.2.2.1), .long u0.2.2.2])), (qh, .inl (cA, 8, .inl u0.1)), (qm, .inl (cA, 16, .inl u0.2.1)), (qv, .inl (cA, 16, .inl v0))]) [0, 1, 2, 3, 4] rfl
        have hDc := hD.sub (ws' := [(h0, .inr (1, [.ref qk, .ref qc, .int st, .int nn, .int l0])), (qc, .inr (0, [.ref qh, .ref qm, .ref qv, .int (nI u0.2.2.1), .long u0.2.2.2])), (qh, .inl (cA, 8, .inl u0.1)), (qm, .inl (cA, 16, .inl u0.2.1)), (qv, .inl (cA, 16, .inl v0))]) [0, 1, 2, 3, 4] (by decide) rfl
        have hFc := va_free (wc := [(h0, .inr (1, [.ref qk, .ref qc, .int st, .int nn, .int l0])), (qc, .inr (0, [.ref qh, .ref qm, .ref qv, .int (nI u0.2.2.1), .long u0.2.2.2])), (qh, .inl (cA, 8, .inl u0.1)), (qm, .inl (cA, 16, .inl u0.2.1)), (qv, .inl (cA, 16, .inl v0))]) hD hS hA [0, 1, 2, 3, 4] rfl
        refine va_callv (va_runV (As := [.int ((kd_ushr w (24 - (8 * x))) &&& 255)]) (rest := []) ⟨hx, hb, hml, hown, hts⟩ (cX1_addToMessage_ok l dC dI cA tb H.size h0 qk qc qh qm qv st nn l0 u0.1 u0.2.1 v0 u0.2.2.1 u0.2.2.2 ((kd_ushr w (24 - (8 * x))) &&& 255) (by rw [hu]; exact kd_adds_le hk i)) (cwV 1 hts gX1_addHighestFirst_X1_addToMessage rfl rfl rfl (by decide +kernel) ⟨Nat.le_of_ble_eq_true rfl, Nat.le_of_ble_eq_true rfl⟩) ⟨fun a U g mk q => kd_calling rfl rfl q, va_recv hK hPc (ci := 1) (q0 := 0) rfl rfl, fun U hU hW => ⟨rfl, kd_pre hPc hK hDc hT hS hFc U hU hW⟩⟩ rfl rfl hl.1 rfl (lv_room (Nat.le_of_ble_eq_true rfl)) dX1_addHighestFirst_21 ⟨Nat.le_of_ble_eq_true rfl, Nat.le_of_ble_eq_true rfl⟩) hS (fun q _ h => hFc q h) hFc (fun u t H1 locs ht hvm hw hB hz1 hk1 hS => ?_)
        obtain ⟨lo21, ho21, mo21, vo21, ko21, ao21⟩ := u
        have hw21 : (ho21, mo21, ko21, ao21) = kd_add ((kd_ushr w (24 - (8 * x))) &&& 255) (u0.1, u0.2.1, u0.2.2.1, u0.2.2.2) ∧ lo21 = l0 + 1 := hw
        have hP1 : va_P (dC, dI) vwCl [(h0, .inr (1, [.ref qk, .ref qc, .int st, .int nn, .int lo21])), (qc, .inr (0, [.ref qh, .ref qm, .ref qv, .int (nI ko21), .long ao21])), (qh, .inl (cA, 8, .inl ho21)), (qm, .inl (cA, 16, .inl mo21)), (qv, .inl (cA, 16, .inl vo21))] H1 := by rw [← ht]; exact hB.1
        have hD1 : va_D (va_A [(h0, .inr (1, [.ref qk, .ref qc, .int st, .int nn, .int l0])), (qc, .inr (0, [.ref qh, .ref qm, .ref qv, .int (nI u0.2.2.1), .long u0.2.2.2])), (qh, .inl (cA, 8, .inl u0.1)), (qm, .inl (cA, 16, .inl u0.2.1)), (qv, .inl (cA, 16, .inl v0))] H.size) [(h0, .inr (1, [.ref qk, .ref qc, .int st, .int nn, .int lo21])), (qc, .inr (0, [.ref qh, .ref qm, .ref qv, .int (nI ko21), .long ao21])), (qh, .inl (cA, 8, .inl ho21)), (qm, .inl (cA, 16, .inl mo21)), (qv, .inl (cA, 16, .inl vo21))] := hB.2.2
        obtain ⟨hP, hD⟩ := va_join (wr := []) (w1 := [(h0, .inr (1, [.ref qk, .ref qc, .int st, .int nn, .int lo21])), (qc, .inr (0, [.ref qh, .ref qm, .ref qv, .int (nI ko21), .long ao21])), (qh, .inl (cA, 8, .inl ho21)), (qm, .inl (cA, 16, .inl mo21)), (qv, .inl (cA, 16, .inl vo21))]) hP hD [0, 1, 2, 3, 4] [] rfl rfl (by decide) (by decide) hk1 hFc hP1 hD1
        clear hw hB hk1 hPc hDc hFc hP1 hD1 hvm hz1
        generalize H1 = H at hP hS ⊢
        have hP : va_P (dC, dI) vwCl [(h0, .inr (1, [.ref qk, .ref qc, .int st, .int nn, .int lo21])), (qc, .inr (0, [.ref qh, .ref qm, .ref qv, .int (nI ko21), .long ao21])), (qh, .inl (cA, 8, .inl ho21)), (qm, .inl (cA, 16, .inl mo21)), (qv, .inl (cA, 16, .inl vo21))] H := hP
        have hD : va_D A [(h0, .inr (1, [.ref qk, .ref qc, .int st, .int nn, .int lo21])), (qc, .inr (0, [.ref qh, .ref qm, .ref qv, .int (nI ko21), .long ao21])), (qh, .inl (cA, 8, .inl ho21)), (qm, .inl (cA, 16, .inl mo21)), (qv, .inl (cA, 16, .inl vo21))] := hD
        obtain ⟨x24, ex24⟩ : ∃ zz : Int32, zz = x + 1 := ⟨_, rfl⟩
        refine lv_iinc (v := x24) (lv' := [(3, .int x24), (0, .ref h0), (1, .int w), (2, .int cv)]) hx hb dX1_addHighestFirst_24 hl (k := 0) rfl (by rw [ex24]; rfl) (by decide) rfl (fun ls hl => ?_)
        refine lv_goto (tgt := 2) hx hb dX1_addHighestFirst_27 (by decide) ?_
        exact ih  (i + 1) x24 (ho21, mo21, ko21, ao21) lo21 vo21 (by omega) (by omega) (by rw [ex24, ex]; exact nI_1 i) (by rw [hw21.1, ex]; show kd_add (kd_hi w i) u0 = _; rw [hu]; rfl) (by rw [hw21.2, hl0]; exact kd_ln1 ln i) _ _ ls (hP.sub [0, 1, 2, 3, 4] rfl) (hD.sub [0, 1, 2, 3, 4] (by decide) rfl) hS (lv_sub hl [0, 1, 2, 3] rfl)
  exact lp (cn + 1) 0 0 (hh, mm, kn, ab) ln vv (by omega) (by omega) rfl rfl (kd_ln0 ln) _ _ ls (hP.sub [0, 1, 2, 3, 4] rfl) (hD.sub [0, 1, 2, 3, 4] (by decide) rfl) hS (lv_sub hl [0, 1, 2, 3] rfl)

set_option maxHeartbeats 4000000 in
set_option maxRecDepth 100000 in
theorem cX1_updates_ok (l : Launch) (dC : Nat → ClassId) (dI : Nat → Nat → Nat) (cA : ClassId) (tb : Nat → Nat) (sz : Nat) (h0 : Nat) (qk : Nat) (qc : Nat) (qh : Nat) (qm : Nat) (qv : Nat) (key : Nat → Int32) (st : Int32) (nn : Int32) (ln : Int32) (hh : Nat → Int32) (mm : Nat → Int32) (vv : Nat → Int32) (kn : Nat) (ab : Int64) (wa : Int32) (wb : Int32) (wc : Int32) (wd : Int32) (n : Int32) (hk : kn ≤ 64) : Met l yX1_updates wsX1_updates ({ frames := 7, cells := 0, slots := 0, locals := 155 }) (va_Pc [.ref h0, .int wa, .int wb, .int wc, .int wd, .int n] (kd_I (dC, dI) cA tb sz [(h0, .inr (1, [.ref qk, .ref qc, .int st, .int nn, .int ln])), (qk, .inl (cA, 32, .inl key)), (qc, .inr (0, [.ref qh, .ref qm, .ref qv, .int (nI kn), .long ab])), (qh, .inl (cA, 8, .inl hh)), (qm, .inl (cA, 16, .inl mm)), (qv, .inl (cA, 16, .inl vv))])) (va_Qi (fun (r : Int32) (u : Int32 × (Nat → Int32) × (Nat → Int32) × (Nat → Int32) × Nat × Int64) => (r, u.1, (u.2.1, u.2.2.1, u.2.2.2.2.1, u.2.2.2.2.2)) = if ¬ st = 2 ∨ n < 1 ∨ 16 < n then (0, ln, (hh, mm, kn, ab)) else (1, ln + n, kd_adds (kd_byte wa wb wc wd) n.toNatClampNeg (hh, mm, kn, ab))) (fun u t => kd_O (dC, dI) cA (va_A [(h0, .inr (1, [.ref qk, .ref qc, .int st, .int nn, .int ln])), (qk, .inl (cA, 32, .inl key)), (qc, .inr (0, [.ref qh, .ref qm, .ref qv, .int (nI kn), .long ab])), (qh, .inl (cA, 8, .inl hh)), (qm, .inl (cA, 16, .inl mm)), (qv, .inl (cA, 16, .inl vv))] sz) [(h0, .inr (1, [.ref qk, .ref qc, .int st, .int nn, .int u.1])), (qk, .inl (cA, 32, .inl key)), (qc, .inr (0, [.ref qh, .ref qm, .ref qv, .int (nI u.2.2.2.2.1), .long u.2.2.2.2.2])), (qh, .inl (cA, 8, .inl u.2.1)), (qm, .inl (cA, 16, .inl u.2.2.1)), (qv, .inl (cA, 16, .inl u.2.2.2.1))] t) (va_A [(h0, .inr (1, [.ref qk, .ref qc, .int st, .int nn, .int ln])), (qk, .inl (cA, 32, .inl key)), (qc, .inr (0, [.ref qh, .ref qm, .ref qv, .int (nI kn), .long ab])), (qh, .inl (cA, 8, .inl hh)), (qm, .inl (cA, 16, .inl mm)), (qv, .inl (cA, 16, .inl vv))] sz)) 0 0 (va_A [(h0, .inr (1, [.ref qk, .ref qc, .int st, .int nn, .int ln])), (qk, .inl (cA, 32, .inl key)), (qc, .inr (0, [.ref qh, .ref qm, .ref qv, .int (nI kn), .long ab])), (qh, .inl (cA, 8, .inl hh)), (qm, .inl (cA, 16, .inl mm)), (qv, .inl (cA, 16, .inl vv))] sz) := by
  refine Met.ofW (cc := cX1_updates) (maxL := 6) (ret := (some .boolean)) (by decide) rfl ?_
  intro p e s m args below meth c s₁ B hml hv
  obtain ⟨rfl, hsz, hP, hK, hD0, hT⟩ := hv
  have hx := B.exec
  have hb := B.bytes
  have hr := B.returns
  have hts := atoms_spec (ws := wsX1_updates) B.pre
  have hown : s.vm.findClass RX1 = some m.cls := findClass_of_methodNamed B.named
  have hlocks := B.notSynchronized
  have ki1 : ∀ w ∈ u_ws RX1 TX1 5, w ∈ wsX1_updates := by decide +kernel
  have k1 := hts (.fieldLink RX1 20 "KeyedDigest" "state" "I") (by decide +kernel)
  subst hsz
  have hD := hD0.self (sz := s.heap.size)
  generalize hAe : va_A [(h0, .inr (1, [.ref qk, .ref qc, .int st, .int nn, .int ln])), (qk, .inl (cA, 32, .inl key)), (qc, .inr (0, [.ref qh, .ref qm, .ref qv, .int (nI kn), .long ab])), (qh, .inl (cA, 8, .inl hh)), (qm, .inl (cA, 16, .inl mm)), (qv, .inl (cA, 16, .inl vv))] s.heap.size = A at hD hT ⊢
  have hA : ∀ q : Nat, s.heap.size ≤ q → A q := fun q h => by rw [← hAe]; exact Or.inr h
  have hS : va_S A s.heap s.heap [] := va_S.rf
  have hP : va_P (dC, dI) vwCl [(h0, .inr (1, [.ref qk, .ref qc, .int st, .int nn, .int ln])), (qk, .inl (cA, 32, .inl key)), (qc, .inr (0, [.ref qh, .ref qm, .ref qv, .int (nI kn), .long ab])), (qh, .inl (cA, 8, .inl hh)), (qm, .inl (cA, 16, .inl mm)), (qv, .inl (cA, 16, .inl vv))] s.heap := hP
  have hl := lv_entry ([.ref h0, .int wa, .int wb, .int wc, .int wd, .int n]) (n := 6) (Nat.le_of_ble_eq_true rfl)
  rw [lg_entry_eq]
  generalize (lg_sl ([.ref h0, .int wa, .int wb, .int wc, .int wd, .int n]) ++ List.replicate (6 - (lg_sl ([.ref h0, .int wa, .int wb, .int wc, .int wd, .int n])).length) Slot.unset).toArray = ls at hl ⊢
  have hl : lv_has ls 6 [(0, .ref h0), (1, .int wa), (2, .int wb), (3, .int wc), (4, .int wd), (5, .int n)] := hl
  refine lv_aload_n hx hb dX1_updates_0 rfl (lv_at hl 0 rfl) ?_
  refine va_get (D := (dC, dI)) (ci := 1) (v := .int st) (C := RX1) (T := TX1) (N := 5) hx hb hts ki1 hown hK hP 0 rfl rfl 2 (by decide) k1 (fun _ h9 => h9) rfl dX1_updates_1 ?_
  refine lv_iconst (v := 2) hx hb dX1_updates_4 (by decide) ?_
  refine lv_icmp_ne (tgt := 21) hx hb dX1_updates_5 (by decide) (fun c5 => ?_) (fun c5 => ?_)
  · refine lv_iconst (v := 0) hx hb dX1_updates_21 (by decide) ?_
    have hP9 := hP.sub (ws' := [(h0, .inr (1, [.ref qk, .ref qc, .int st, .int nn, .int ln])), (qk, .inl (cA, 32, .inl key)), (qc, .inr (0, [.ref qh, .ref qm, .ref qv, .int (nI kn), .long ab])), (qh, .inl (cA, 8, .inl hh)), (qm, .inl (cA, 16, .inl mm)), (qv, .inl (cA, 16, .inl vv))]) [0, 1, 2, 3, 4, 5] rfl
    have hD9 := hD.sub (ws' := [(h0, .inr (1, [.ref qk, .ref qc, .int st, .int nn, .int ln])), (qk, .inl (cA, 32, .inl key)), (qc, .inr (0, [.ref qh, .ref qm, .ref qv, .int (nI kn), .long ab])), (qh, .inl (cA, 8, .inl hh)), (qm, .inl (cA, 16, .inl mm)), (qv, .inl (cA, 16, .inl vv))]) [0, 1, 2, 3, 4, 5] (by decide) rfl
    exact W.zret (v := 0) hx hb hr (by rfl) (fun t ht hW => ⟨⟨0, (ln, hh, mm, vv, kn, ab), rfl, ((if_pos (Or.inl c5))).symm, by rw [ht]; exact hP9, va_K.moved hW.alike hK, hD9⟩, hS.F ht⟩) hS.2.2 dX1_updates_22
  · refine lv_iload hx hb dX1_updates_8 (lv_at hl 5 rfl) ?_
    refine lv_iconst (v := 1) hx hb dX1_updates_10 (by decide) ?_
    refine lv_icmp_lt (tgt := 21) hx hb dX1_updates_11 (by decide) (fun c11 => ?_) (fun c11 => ?_)
    · refine lv_iconst (v := 0) hx hb dX1_updates_21 (by decide) ?_
      have hP9 := hP.sub (ws' := [(h0, .inr (1, [.ref qk, .ref qc, .int st, .int nn, .int ln])), (qk, .inl (cA, 32, .inl key)), (qc, .inr (0, [.ref qh, .ref qm, .ref qv, .int (nI kn), .long ab])), (qh, .inl (cA, 8, .inl hh)), (qm, .inl (cA, 16, .inl mm)), (qv, .inl (cA, 16, .inl vv))]) [0, 1, 2, 3, 4, 5] rfl
      have hD9 := hD.sub (ws' := [(h0, .inr (1, [.ref qk, .ref qc, .int st, .int nn, .int ln])), (qk, .inl (cA, 32, .inl key)), (qc, .inr (0, [.ref qh, .ref qm, .ref qv, .int (nI kn), .long ab])), (qh, .inl (cA, 8, .inl hh)), (qm, .inl (cA, 16, .inl mm)), (qv, .inl (cA, 16, .inl vv))]) [0, 1, 2, 3, 4, 5] (by decide) rfl
      exact W.zret (v := 0) hx hb hr (by rfl) (fun t ht hW => ⟨⟨0, (ln, hh, mm, vv, kn, ab), rfl, ((if_pos (Or.inr (Or.inl c11)))).symm, by rw [ht]; exact hP9, va_K.moved hW.alike hK, hD9⟩, hS.F ht⟩) hS.2.2 dX1_updates_22
    · refine lv_iload hx hb dX1_updates_14 (lv_at hl 5 rfl) ?_
      refine lv_bipush (v := 16) hx hb dX1_updates_16 (by decide) ?_
      refine lv_icmp_le (tgt := 23) hx hb dX1_updates_18 (by decide) (fun c18 => ?_) (fun c18 => ?_)
      · obtain ⟨nj, hnj, rfl⟩ := nI_of2 (n := 16) (M := 16) (by decide) (kd_pos1 c11) c18
        refine lv_aload_n hx hb dX1_updates_23 rfl (lv_at hl 0 rfl) ?_
        refine lv_iload_n hx hb dX1_updates_24 rfl (lv_at hl 1 rfl) ?_
        refine lv_iload hx hb dX1_updates_25 (lv_at hl 5 rfl) ?_
        refine lv_iconst (v := 4) hx hb dX1_updates_27 (by decide) ?_
        refine va_mmin hx hb (hml.trans hl.1.symm) hown (hts (.methodLink RX1 46 Lib.Math.min.name) (by decide +kernel)) (hts (.static Lib.Math.min.name) (by decide +kernel)) (hts (.initialized "java/lang/Math") (by decide +kernel)) (hts (.code Lib.Math.min.name Lib.Math.min.code 2 (some .int)) (by decide +kernel)) (Nat.le_of_ble_eq_true rfl) (Nat.le_of_ble_eq_true rfl) (Nat.zero_le _) (Nat.zero_le _) dX1_updates_28 ?_
        refine lv_topi (fun x28 ex28 => ?_)
        have hPc := hP.sub (ws' := [(h0, .inr (1, [.ref qk, .ref qc, .int st, .int nn, .int ln])), (qc, .inr (0, [.ref qh, .ref qm, .ref qv, .int (nI kn), .long ab])), (qh, .inl (cA, 8, .inl hh)), (qm, .inl (cA, 16, .inl mm)), (qv, .inl (cA, 16, .inl vv))]) [0, 2, 3, 4, 5] rfl
        have hDc := hD.sub (ws' := [(h0, .inr (1, [.ref qk, .ref qc, .int st, .int nn, .int ln])), (qc, .inr (0, [.ref qh, .ref qm, .ref qv, .int (nI kn), .long ab])), (qh, .inl (cA, 8, .inl hh)), (qm, .inl (cA, 16, .inl mm)), (qv, .inl (cA, 16, .inl vv))]) [0, 2, 3, 4, 5] (by decide) rfl
        have hFc := va_free (wc := [(h0, .inr (1, [.ref qk, .ref qc, .int st, .int nn, .int ln])), (qc, .inr (0, [.ref qh, .ref qm, .ref qv, .int (nI kn), .long ab])), (qh, .inl (cA, 8, .inl hh)), (qm, .inl (cA, 16, .inl mm)), (qv, .inl (cA, 16, .inl vv))]) hD hS hA [0, 2, 3, 4, 5] rfl
        refine va_callv (va_runV (As := [.int wa, .int x28]) (rest := []) ⟨hx, hb, hml, hown, hts⟩ (cX1_addHighestFirst_ok l dC dI cA tb s.heap.size h0 qk qc qh qm qv st nn ln hh mm vv kn ab wa x28 (min nj 4) hk (by omega) (by rw [ex28]; exact fun i hi => kd_min0 nj (by omega) i (by omega))) (cwV 2 hts gX1_updates_X1_addHighestFirst rfl rfl rfl (by decide +kernel) ⟨Nat.le_of_ble_eq_true rfl, Nat.le_of_ble_eq_true rfl⟩) ⟨fun a U g mk q => kd_calling rfl rfl q, va_recv hK hPc (ci := 1) (q0 := 0) rfl rfl, fun U hU hW => ⟨rfl, kd_pre hPc hK hDc hT hS hFc U hU hW⟩⟩ rfl rfl hl.1 rfl (lv_room (Nat.le_of_ble_eq_true rfl)) dX1_updates_31 ⟨Nat.le_of_ble_eq_true rfl, Nat.le_of_ble_eq_true rfl⟩) hS (fun q _ h => hFc q h) hFc (fun u t H1 locs ht hvm hw hB hz1 hk1 hS => ?_)
        obtain ⟨lo31, ho31, mo31, vo31, ko31, ao31⟩ := u
        have hw31 : (ho31, mo31, ko31, ao31) = kd_adds (kd_hi wa) (min nj 4) (hh, mm, kn, ab) ∧ lo31 = ln + nI (min nj 4) := hw
        have hP1 : va_P (dC, dI) vwCl [(h0, .inr (1, [.ref qk, .ref qc, .int st, .int nn, .int lo31])), (qc, .inr (0, [.ref qh, .ref qm, .ref qv, .int (nI ko31), .long ao31])), (qh, .inl (cA, 8, .inl ho31)), (qm, .inl (cA, 16, .inl mo31)), (qv, .inl (cA, 16, .inl vo31))] H1 := by rw [← ht]; exact hB.1
        have hD1 : va_D (va_A [(h0, .inr (1, [.ref qk, .ref qc, .int st, .int nn, .int ln])), (qc, .inr (0, [.ref qh, .ref qm, .ref qv, .int (nI kn), .long ab])), (qh, .inl (cA, 8, .inl hh)), (qm, .inl (cA, 16, .inl mm)), (qv, .inl (cA, 16, .inl vv))] s.heap.size) [(h0, .inr (1, [.ref qk, .ref qc, .int st, .int nn, .int lo31])), (qc, .inr (0, [.ref qh, .ref qm, .ref qv, .int (nI ko31), .long ao31])), (qh, .inl (cA, 8, .inl ho31)), (qm, .inl (cA, 16, .inl mo31)), (qv, .inl (cA, 16, .inl vo31))] := hB.2.2
        obtain ⟨hP, hD⟩ := va_join (wr := [(qk, .inl (cA, 32, .inl key))]) (w1 := [(h0, .inr (1, [.ref qk, .ref qc, .int st, .int nn, .int lo31])), (qc, .inr (0, [.ref qh, .ref qm, .ref qv, .int (nI ko31), .long ao31])), (qh, .inl (cA, 8, .inl ho31)), (qm, .inl (cA, 16, .inl mo31)), (qv, .inl (cA, 16, .inl vo31))]) hP hD [0, 2, 3, 4, 5] [1] rfl rfl (by decide) (by decide) hk1 hFc hP1 hD1
        clear hw hB hk1 hPc hDc hFc hP1 hD1 hvm hz1
        generalize H1 = H at hP hS ⊢
        have hP : va_P (dC, dI) vwCl [(qk, .inl (cA, 32, .inl key)), (h0, .inr (1, [.ref qk, .ref qc, .int st, .int nn, .int lo31])), (qc, .inr (0, [.ref qh, .ref qm, .ref qv, .int (nI ko31), .long ao31])), (qh, .inl (cA, 8, .inl ho31)), (qm, .inl (cA, 16, .inl mo31)), (qv, .inl (cA, 16, .inl vo31))] H := hP
        have hD : va_D A [(qk, .inl (cA, 32, .inl key)), (h0, .inr (1, [.ref qk, .ref qc, .int st, .int nn, .int lo31])), (qc, .inr (0, [.ref qh, .ref qm, .ref qv, .int (nI ko31), .long ao31])), (qh, .inl (cA, 8, .inl ho31)), (qm, .inl (cA, 16, .inl mo31)), (qv, .inl (cA, 16, .inl vo31))] := hD
        refine lv_aload_n hx hb dX1_updates_34 rfl (lv_at hl 0 rfl) ?_
        refine lv_iload_n hx hb dX1_updates_35 rfl (lv_at hl 2 rfl) ?_
        refine lv_iload hx hb dX1_updates_36 (lv_at hl 5 rfl) ?_
        refine lv_iconst (v := 4) hx hb dX1_updates_38 (by decide) ?_
        refine lv_isub hx hb dX1_updates_39 ?_
        refine lv_iconst (v := 4) hx hb dX1_updates_40 (by decide) ?_
        refine va_mmin hx hb (hml.trans hl.1.symm) hown (hts (.methodLink RX1 46 Lib.Math.min.name) (by decide +kernel)) (hts (.static Lib.Math.min.name) (by decide +kernel)) (hts (.initialized "java/lang/Math") (by decide +kernel)) (hts (.code Lib.Math.min.name Lib.Math.min.code 2 (some .int)) (by decide +kernel)) (Nat.le_of_ble_eq_true rfl) (Nat.le_of_ble_eq_true rfl) (Nat.zero_le _) (Nat.zero_le _) dX1_updates_41 ?_
        refine lv_topi (fun x41 ex41 => ?_)
        have hPc := hP.sub (ws' := [(h0, .inr (1, [.ref qk, .ref qc, .int st, .int nn, .int lo31])), (qc, .inr (0, [.ref qh, .ref qm, .ref qv, .int (nI ko31), .long ao31])), (qh, .inl (cA, 8, .inl ho31)), (qm, .inl (cA, 16, .inl mo31)), (qv, .inl (cA, 16, .inl vo31))]) [1, 2, 3, 4, 5] rfl
        have hDc := hD.sub (ws' := [(h0, .inr (1, [.ref qk, .ref qc, .int st, .int nn, .int lo31])), (qc, .inr (0, [.ref qh, .ref qm, .ref qv, .int (nI ko31), .long ao31])), (qh, .inl (cA, 8, .inl ho31)), (qm, .inl (cA, 16, .inl mo31)), (qv, .inl (cA, 16, .inl vo31))]) [1, 2, 3, 4, 5] (by decide) rfl
        have hFc := va_free (wc := [(h0, .inr (1, [.ref qk, .ref qc, .int st, .int nn, .int lo31])), (qc, .inr (0, [.ref qh, .ref qm, .ref qv, .int (nI ko31), .long ao31])), (qh, .inl (cA, 8, .inl ho31)), (qm, .inl (cA, 16, .inl mo31)), (qv, .inl (cA, 16, .inl vo31))]) hD hS hA [1, 2, 3, 4, 5] rfl
        refine va_callv (va_runV (As := [.int wb, .int x41]) (rest := []) ⟨hx, hb, hml, hown, hts⟩ (cX1_addHighestFirst_ok l dC dI cA tb H.size h0 qk qc qh qm qv st nn lo31 ho31 mo31 vo31 ko31 ao31 wb x41 (min (nj - 4) 4) (kd_le_of hw31.1 hk) (by omega) (by rw [ex41]; exact fun i hi => kd_min4 nj (by omega) i (by omega))) (cwV 2 hts gX1_updates_X1_addHighestFirst rfl rfl rfl (by decide +kernel) ⟨Nat.le_of_ble_eq_true rfl, Nat.le_of_ble_eq_true rfl⟩) ⟨fun a U g mk q => kd_calling rfl rfl q, va_recv hK hPc (ci := 1) (q0 := 0) rfl rfl, fun U hU hW => ⟨rfl, kd_pre hPc hK hDc hT hS hFc U hU hW⟩⟩ rfl rfl hl.1 rfl (lv_room (Nat.le_of_ble_eq_true rfl)) dX1_updates_44 ⟨Nat.le_of_ble_eq_true rfl, Nat.le_of_ble_eq_true rfl⟩) hS (fun q _ h => hFc q h) hFc (fun u t H1 locs ht hvm hw hB hz1 hk1 hS => ?_)
        obtain ⟨lo44, ho44, mo44, vo44, ko44, ao44⟩ := u
        have hw44 : (ho44, mo44, ko44, ao44) = kd_adds (kd_hi wb) (min (nj - 4) 4) (ho31, mo31, ko31, ao31) ∧ lo44 = lo31 + nI (min (nj - 4) 4) := hw
        have hP1 : va_P (dC, dI) vwCl [(h0, .inr (1, [.ref qk, .ref qc, .int st, .int nn, .int lo44])), (qc, .inr (0, [.ref qh, .ref qm, .ref qv, .int (nI ko44), .long ao44])), (qh, .inl (cA, 8, .inl ho44)), (qm, .inl (cA, 16, .inl mo44)), (qv, .inl (cA, 16, .inl vo44))] H1 := by rw [← ht]; exact hB.1
        have hD1 : va_D (va_A [(h0, .inr (1, [.ref qk, .ref qc, .int st, .int nn, .int lo31])), (qc, .inr (0, [.ref qh, .ref qm, .ref qv, .int (nI ko31), .long ao31])), (qh, .inl (cA, 8, .inl ho31)), (qm, .inl (cA, 16, .inl mo31)), (qv, .inl (cA, 16, .inl vo31))] H.size) [(h0, .inr (1, [.ref qk, .ref qc, .int st, .int nn, .int lo44])), (qc, .inr (0, [.ref qh, .ref qm, .ref qv, .int (nI ko44), .long ao44])), (qh, .inl (cA, 8, .inl ho44)), (qm, .inl (cA, 16, .inl mo44)), (qv, .inl (cA, 16, .inl vo44))] := hB.2.2
        obtain ⟨hP, hD⟩ := va_join (wr := [(qk, .inl (cA, 32, .inl key))]) (w1 := [(h0, .inr (1, [.ref qk, .ref qc, .int st, .int nn, .int lo44])), (qc, .inr (0, [.ref qh, .ref qm, .ref qv, .int (nI ko44), .long ao44])), (qh, .inl (cA, 8, .inl ho44)), (qm, .inl (cA, 16, .inl mo44)), (qv, .inl (cA, 16, .inl vo44))]) hP hD [1, 2, 3, 4, 5] [0] rfl rfl (by decide) (by decide) hk1 hFc hP1 hD1
        clear hw hB hk1 hPc hDc hFc hP1 hD1 hvm hz1
        generalize H1 = H at hP hS ⊢
        have hP : va_P (dC, dI) vwCl [(qk, .inl (cA, 32, .inl key)), (h0, .inr (1, [.ref qk, .ref qc, .int st, .int nn, .int lo44])), (qc, .inr (0, [.ref qh, .ref qm, .ref qv, .int (nI ko44), .long ao44])), (qh, .inl (cA, 8, .inl ho44)), (qm, .inl (cA, 16, .inl mo44)), (qv, .inl (cA, 16, .inl vo44))] H := hP
        have hD : va_D A [(qk, .inl (cA, 32, .inl key)), (h0, .inr (1, [.ref qk, .ref qc, .int st, .int nn, .int lo44])), (qc, .inr (0, [.ref qh, .ref qm, .ref qv, .int (nI ko44), .long ao44])), (qh, .inl (cA, 8, .inl ho44)), (qm, .inl (cA, 16, .inl mo44)), (qv, .inl (cA, 16, .inl vo44))] := hD
        refine lv_aload_n hx hb dX1_updates_47 rfl (lv_at hl 0 rfl) ?_
        refine lv_iload_n hx hb dX1_updates_48 rfl (lv_at hl 3 rfl) ?_
        refine lv_iload hx hb dX1_updates_49 (lv_at hl 5 rfl) ?_
        refine lv_bipush (v := 8) hx hb dX1_updates_51 (by decide) ?_
        refine lv_isub hx hb dX1_updates_53 ?_
        refine lv_iconst (v := 4) hx hb dX1_updates_54 (by decide) ?_
        refine va_mmin hx hb (hml.trans hl.1.symm) hown (hts (.methodLink RX1 46 Lib.Math.min.name) (by decide +kernel)) (hts (.static Lib.Math.min.name) (by decide +kernel)) (hts (.initialized "java/lang/Math") (by decide +kernel)) (hts (.code Lib.Math.min.name Lib.Math.min.code 2 (some .int)) (by decide +kernel)) (Nat.le_of_ble_eq_true rfl) (Nat.le_of_ble_eq_true rfl) (Nat.zero_le _) (Nat.zero_le _) dX1_updates_55 ?_
        refine lv_topi (fun x55 ex55 => ?_)
        have hPc := hP.sub (ws' := [(h0, .inr (1, [.ref qk, .ref qc, .int st, .int nn, .int lo44])), (qc, .inr (0, [.ref qh, .ref qm, .ref qv, .int (nI ko44), .long ao44])), (qh, .inl (cA, 8, .inl ho44)), (qm, .inl (cA, 16, .inl mo44)), (qv, .inl (cA, 16, .inl vo44))]) [1, 2, 3, 4, 5] rfl
        have hDc := hD.sub (ws' := [(h0, .inr (1, [.ref qk, .ref qc, .int st, .int nn, .int lo44])), (qc, .inr (0, [.ref qh, .ref qm, .ref qv, .int (nI ko44), .long ao44])), (qh, .inl (cA, 8, .inl ho44)), (qm, .inl (cA, 16, .inl mo44)), (qv, .inl (cA, 16, .inl vo44))]) [1, 2, 3, 4, 5] (by decide) rfl
        have hFc := va_free (wc := [(h0, .inr (1, [.ref qk, .ref qc, .int st, .int nn, .int lo44])), (qc, .inr (0, [.ref qh, .ref qm, .ref qv, .int (nI ko44), .long ao44])), (qh, .inl (cA, 8, .inl ho44)), (qm, .inl (cA, 16, .inl mo44)), (qv, .inl (cA, 16, .inl vo44))]) hD hS hA [1, 2, 3, 4, 5] rfl
        refine va_callv (va_runV (As := [.int wc, .int x55]) (rest := []) ⟨hx, hb, hml, hown, hts⟩ (cX1_addHighestFirst_ok l dC dI cA tb H.size h0 qk qc qh qm qv st nn lo44 ho44 mo44 vo44 ko44 ao44 wc x55 (min (nj - 8) 4) (kd_le_of hw44.1 (kd_le_of hw31.1 hk)) (by omega) (by rw [ex55]; exact fun i hi => kd_min8 nj (by omega) i (by omega))) (cwV 2 hts gX1_updates_X1_addHighestFirst rfl rfl rfl (by decide +kernel) ⟨Nat.le_of_ble_eq_true rfl, Nat.le_of_ble_eq_true rfl⟩) ⟨fun a U g mk q => kd_calling rfl rfl q, va_recv hK hPc (ci := 1) (q0 := 0) rfl rfl, fun U hU hW => ⟨rfl, kd_pre hPc hK hDc hT hS hFc U hU hW⟩⟩ rfl rfl hl.1 rfl (lv_room (Nat.le_of_ble_eq_true rfl)) dX1_updates_58 ⟨Nat.le_of_ble_eq_true rfl, Nat.le_of_ble_eq_true rfl⟩) hS (fun q _ h => hFc q h) hFc (fun u t H1 locs ht hvm hw hB hz1 hk1 hS => ?_)
        obtain ⟨lo58, ho58, mo58, vo58, ko58, ao58⟩ := u
        have hw58 : (ho58, mo58, ko58, ao58) = kd_adds (kd_hi wc) (min (nj - 8) 4) (ho44, mo44, ko44, ao44) ∧ lo58 = lo44 + nI (min (nj - 8) 4) := hw
        have hP1 : va_P (dC, dI) vwCl [(h0, .inr (1, [.ref qk, .ref qc, .int st, .int nn, .int lo58])), (qc, .inr (0, [.ref qh, .ref qm, .ref qv, .int (nI ko58), .long ao58])), (qh, .inl (cA, 8, .inl ho58)), (qm, .inl (cA, 16, .inl mo58)), (qv, .inl (cA, 16, .inl vo58))] H1 := by rw [← ht]; exact hB.1
        have hD1 : va_D (va_A [(h0, .inr (1, [.ref qk, .ref qc, .int st, .int nn, .int lo44])), (qc, .inr (0, [.ref qh, .ref qm, .ref qv, .int (nI ko44), .long ao44])), (qh, .inl (cA, 8, .inl ho44)), (qm, .inl (cA, 16, .inl mo44)), (qv, .inl (cA, 16, .inl vo44))] H.size) [(h0, .inr (1, [.ref qk, .ref qc, .int st, .int nn, .int lo58])), (qc, .inr (0, [.ref qh, .ref qm, .ref qv, .int (nI ko58), .long ao58])), (qh, .inl (cA, 8, .inl ho58)), (qm, .inl (cA, 16, .inl mo58)), (qv, .inl (cA, 16, .inl vo58))] := hB.2.2
        obtain ⟨hP, hD⟩ := va_join (wr := [(qk, .inl (cA, 32, .inl key))]) (w1 := [(h0, .inr (1, [.ref qk, .ref qc, .int st, .int nn, .int lo58])), (qc, .inr (0, [.ref qh, .ref qm, .ref qv, .int (nI ko58), .long ao58])), (qh, .inl (cA, 8, .inl ho58)), (qm, .inl (cA, 16, .inl mo58)), (qv, .inl (cA, 16, .inl vo58))]) hP hD [1, 2, 3, 4, 5] [0] rfl rfl (by decide) (by decide) hk1 hFc hP1 hD1
        clear hw hB hk1 hPc hDc hFc hP1 hD1 hvm hz1
        generalize H1 = H at hP hS ⊢
        have hP : va_P (dC, dI) vwCl [(qk, .inl (cA, 32, .inl key)), (h0, .inr (1, [.ref qk, .ref qc, .int st, .int nn, .int lo58])), (qc, .inr (0, [.ref qh, .ref qm, .ref qv, .int (nI ko58), .long ao58])), (qh, .inl (cA, 8, .inl ho58)), (qm, .inl (cA, 16, .inl mo58)), (qv, .inl (cA, 16, .inl vo58))] H := hP
        have hD : va_D A [(qk, .inl (cA, 32, .inl key)), (h0, .inr (1, [.ref qk, .ref qc, .int st, .int nn, .int lo58])), (qc, .inr (0, [.ref qh, .ref qm, .ref qv, .int (nI ko58), .long ao58])), (qh, .inl (cA, 8, .inl ho58)), (qm, .inl (cA, 16, .inl mo58)), (qv, .inl (cA, 16, .inl vo58))] := hD
        refine lv_aload_n hx hb dX1_updates_61 rfl (lv_at hl 0 rfl) ?_
        refine lv_iload hx hb dX1_updates_62 (lv_at hl 4 rfl) ?_
        refine lv_iload hx hb dX1_updates_64 (lv_at hl 5 rfl) ?_
        refine lv_bipush (v := 12) hx hb dX1_updates_66 (by decide) ?_
        refine lv_isub hx hb dX1_updates_68 ?_
        refine lv_iconst (v := 4) hx hb dX1_updates_69 (by decide) ?_
        refine va_mmin hx hb (hml.trans hl.1.symm) hown (hts (.methodLink RX1 46 Lib.Math.min.name) (by decide +kernel)) (hts (.static Lib.Math.min.name) (by decide +kernel)) (hts (.initialized "java/lang/Math") (by decide +kernel)) (hts (.code Lib.Math.min.name Lib.Math.min.code 2 (some .int)) (by decide +kernel)) (Nat.le_of_ble_eq_true rfl) (Nat.le_of_ble_eq_true rfl) (Nat.zero_le _) (Nat.zero_le _) dX1_updates_70 ?_
        refine lv_topi (fun x70 ex70 => ?_)
        have hPc := hP.sub (ws' := [(h0, .inr (1, [.ref qk, .ref qc, .int st, .int nn, .int lo58])), (qc, .inr (0, [.ref qh, .ref qm, .ref qv, .int (nI ko58), .long ao58])), (qh, .inl (cA, 8, .inl ho58)), (qm, .inl (cA, 16, .inl mo58)), (qv, .inl (cA, 16, .inl vo58))]) [1, 2, 3, 4, 5] rfl
        have hDc := hD.sub (ws' := [(h0, .inr (1, [.ref qk, .ref qc, .int st, .int nn, .int lo58])), (qc, .inr (0, [.ref qh, .ref qm, .ref qv, .int (nI ko58), .long ao58])), (qh, .inl (cA, 8, .inl ho58)), (qm, .inl (cA, 16, .inl mo58)), (qv, .inl (cA, 16, .inl vo58))]) [1, 2, 3, 4, 5] (by decide) rfl
        have hFc := va_free (wc := [(h0, .inr (1, [.ref qk, .ref qc, .int st, .int nn, .int lo58])), (qc, .inr (0, [.ref qh, .ref qm, .ref qv, .int (nI ko58), .long ao58])), (qh, .inl (cA, 8, .inl ho58)), (qm, .inl (cA, 16, .inl mo58)), (qv, .inl (cA, 16, .inl vo58))]) hD hS hA [1, 2, 3, 4, 5] rfl
        refine va_callv (va_runV (As := [.int wd, .int x70]) (rest := []) ⟨hx, hb, hml, hown, hts⟩ (cX1_addHighestFirst_ok l dC dI cA tb H.size h0 qk qc qh qm qv st nn lo58 ho58 mo58 vo58 ko58 ao58 wd x70 (min (nj - 12) 4) (kd_le_of hw58.1 (kd_le_of hw44.1 (kd_le_of hw31.1 hk))) (by omega) (by rw [ex70]; exact fun i hi => kd_min12 nj (by omega) i (by omega))) (cwV 2 hts gX1_updates_X1_addHighestFirst rfl rfl rfl (by decide +kernel) ⟨Nat.le_of_ble_eq_true rfl, Nat.le_of_ble_eq_true rfl⟩) ⟨fun a U g mk q => kd_calling rfl rfl q, va_recv hK hPc (ci := 1) (q0 := 0) rfl rfl, fun U hU hW => ⟨rfl, kd_pre hPc hK hDc hT hS hFc U hU hW⟩⟩ rfl rfl hl.1 rfl (lv_room (Nat.le_of_ble_eq_true rfl)) dX1_updates_73 ⟨Nat.le_of_ble_eq_true rfl, Nat.le_of_ble_eq_true rfl⟩) hS (fun q _ h => hFc q h) hFc (fun u t H1 locs ht hvm hw hB hz1 hk1 hS => ?_)
        obtain ⟨lo73, ho73, mo73, vo73, ko73, ao73⟩ := u
        have hw73 : (ho73, mo73, ko73, ao73) = kd_adds (kd_hi wd) (min (nj - 12) 4) (ho58, mo58, ko58, ao58) ∧ lo73 = lo58 + nI (min (nj - 12) 4) := hw
        have hP1 : va_P (dC, dI) vwCl [(h0, .inr (1, [.ref qk, .ref qc, .int st, .int nn, .int lo73])), (qc, .inr (0, [.ref qh, .ref qm, .ref qv, .int (nI ko73), .long ao73])), (qh, .inl (cA, 8, .inl ho73)), (qm, .inl (cA, 16, .inl mo73)), (qv, .inl (cA, 16, .inl vo73))] H1 := by rw [← ht]; exact hB.1
        have hD1 : va_D (va_A [(h0, .inr (1, [.ref qk, .ref qc, .int st, .int nn, .int lo58])), (qc, .inr (0, [.ref qh, .ref qm, .ref qv, .int (nI ko58), .long ao58])), (qh, .inl (cA, 8, .inl ho58)), (qm, .inl (cA, 16, .inl mo58)), (qv, .inl (cA, 16, .inl vo58))] H.size) [(h0, .inr (1, [.ref qk, .ref qc, .int st, .int nn, .int lo73])), (qc, .inr (0, [.ref qh, .ref qm, .ref qv, .int (nI ko73), .long ao73])), (qh, .inl (cA, 8, .inl ho73)), (qm, .inl (cA, 16, .inl mo73)), (qv, .inl (cA, 16, .inl vo73))] := hB.2.2
        obtain ⟨hP, hD⟩ := va_join (wr := [(qk, .inl (cA, 32, .inl key))]) (w1 := [(h0, .inr (1, [.ref qk, .ref qc, .int st, .int nn, .int lo73])), (qc, .inr (0, [.ref qh, .ref qm, .ref qv, .int (nI ko73), .long ao73])), (qh, .inl (cA, 8, .inl ho73)), (qm, .inl (cA, 16, .inl mo73)), (qv, .inl (cA, 16, .inl vo73))]) hP hD [1, 2, 3, 4, 5] [0] rfl rfl (by decide) (by decide) hk1 hFc hP1 hD1
        clear hw hB hk1 hPc hDc hFc hP1 hD1 hvm hz1
        generalize H1 = H at hP hS ⊢
        have hP : va_P (dC, dI) vwCl [(qk, .inl (cA, 32, .inl key)), (h0, .inr (1, [.ref qk, .ref qc, .int st, .int nn, .int lo73])), (qc, .inr (0, [.ref qh, .ref qm, .ref qv, .int (nI ko73), .long ao73])), (qh, .inl (cA, 8, .inl ho73)), (qm, .inl (cA, 16, .inl mo73)), (qv, .inl (cA, 16, .inl vo73))] H := hP
        have hD : va_D A [(qk, .inl (cA, 32, .inl key)), (h0, .inr (1, [.ref qk, .ref qc, .int st, .int nn, .int lo73])), (qc, .inr (0, [.ref qh, .ref qm, .ref qv, .int (nI ko73), .long ao73])), (qh, .inl (cA, 8, .inl ho73)), (qm, .inl (cA, 16, .inl mo73)), (qv, .inl (cA, 16, .inl vo73))] := hD
        refine lv_iconst (v := 1) hx hb dX1_updates_76 (by decide) ?_
        have hP9 := hP.sub (ws' := [(h0, .inr (1, [.ref qk, .ref qc, .int st, .int nn, .int lo73])), (qk, .inl (cA, 32, .inl key)), (qc, .inr (0, [.ref qh, .ref qm, .ref qv, .int (nI ko73), .long ao73])), (qh, .inl (cA, 8, .inl ho73)), (qm, .inl (cA, 16, .inl mo73)), (qv, .inl (cA, 16, .inl vo73))]) [1, 0, 2, 3, 4, 5] rfl
        have hD9 := hD.sub (ws' := [(h0, .inr (1, [.ref qk, .ref qc, .int st, .int nn, .int lo73])), (qk, .inl (cA, 32, .inl key)), (qc, .inr (0, [.ref qh, .ref qm, .ref qv, .int (nI ko73), .long ao73])), (qh, .inl (cA, 8, .inl ho73)), (qm, .inl (cA, 16, .inl mo73)), (qv, .inl (cA, 16, .inl vo73))]) [1, 0, 2, 3, 4, 5] (by decide) rfl
        exact W.zret (v := 1) hx hb hr (by rfl) (fun t ht hW => ⟨⟨1, (lo73, ho73, mo73, vo73, ko73, ao73), rfl, (by dsimp only; rw [(if_neg (fun h => h.elim (fun h => h c5) (fun h => h.elim c11 ((fun h => absurd c18 (Int32.not_le.mpr h)))))), nI_clamp (by omega), hw73.1, hw73.2, hw58.1, hw58.2, hw44.1, hw44.2, hw31.1, hw31.2, kd_four nj hnj]; rw [kd_lens ln nj hnj]), by rw [ht]; exact hP9, va_K.moved hW.alike hK, hD9⟩, hS.F ht⟩) hS.2.2 dX1_updates_77
      · refine lv_iconst (v := 0) hx hb dX1_updates_21 (by decide) ?_
        have hP9 := hP.sub (ws' := [(h0, .inr (1, [.ref qk, .ref qc, .int st, .int nn, .int ln])), (qk, .inl (cA, 32, .inl key)), (qc, .inr (0, [.ref qh, .ref qm, .ref qv, .int (nI kn), .long ab])), (qh, .inl (cA, 8, .inl hh)), (qm, .inl (cA, 16, .inl mm)), (qv, .inl (cA, 16, .inl vv))]) [0, 1, 2, 3, 4, 5] rfl
        have hD9 := hD.sub (ws' := [(h0, .inr (1, [.ref qk, .ref qc, .int st, .int nn, .int ln])), (qk, .inl (cA, 32, .inl key)), (qc, .inr (0, [.ref qh, .ref qm, .ref qv, .int (nI kn), .long ab])), (qh, .inl (cA, 8, .inl hh)), (qm, .inl (cA, 16, .inl mm)), (qv, .inl (cA, 16, .inl vv))]) [0, 1, 2, 3, 4, 5] (by decide) rfl
        exact W.zret (v := 0) hx hb hr (by rfl) (fun t ht hW => ⟨⟨0, (ln, hh, mm, vv, kn, ab), rfl, ((if_pos (Or.inr (Or.inr (Int32.not_le.mp c18))))).symm, by rw [ht]; exact hP9, va_K.moved hW.alike hK, hD9⟩, hS.F ht⟩) hS.2.2 dX1_updates_22

set_option maxHeartbeats 4000000 in
set_option maxRecDepth 100000 in
theorem cX1_finish_ok (l : Launch) (dC : Nat → ClassId) (dI : Nat → Nat → Nat) (cA : ClassId) (tb : Nat → Nat) (sz : Nat) (h0 : Nat) (qk : Nat) (qc : Nat) (qh : Nat) (qm : Nat) (qv : Nat) (st : Int32) (nn : Int32) (ln : Int32) (hh : Nat → Int32) (mm : Nat → Int32) (vv : Nat → Int32) (kn : Nat) (ab : Int64) : Met l yX1_finish wsX1_finish ({ frames := 5, cells := 0, slots := 0, locals := 110 }) (va_Pc [.ref h0] (kd_I (dC, dI) cA tb sz [(h0, .inr (1, [.ref qk, .ref qc, .int st, .int nn, .int ln])), (qc, .inr (0, [.ref qh, .ref qm, .ref qv, .int (nI kn), .long ab])), (qh, .inl (cA, 8, .inl hh)), (qm, .inl (cA, 16, .inl mm)), (qv, .inl (cA, 16, .inl vv))])) (va_Qi (fun (r : Int32) (u : Int32 × (Nat → Int32) × (Nat → Int32)) => (r, u.1, u.2.1) = if st = 2 then (1, 3, kd_mix hh mm ab (-1)) else (0, st, hh)) (fun u t => kd_O (dC, dI) cA (va_A [(h0, .inr (1, [.ref qk, .ref qc, .int st, .int nn, .int ln])), (qc, .inr (0, [.ref qh, .ref qm, .ref qv, .int (nI kn), .long ab])), (qh, .inl (cA, 8, .inl hh)), (qm, .inl (cA, 16, .inl mm)), (qv, .inl (cA, 16, .inl vv))] sz) [(h0, .inr (1, [.ref qk, .ref qc, .int u.1, .int nn, .int ln])), (qc, .inr (0, [.ref qh, .ref qm, .ref qv, .int (nI kn), .long ab])), (qh, .inl (cA, 8, .inl u.2.1)), (qm, .inl (cA, 16, .inl mm)), (qv, .inl (cA, 16, .inl u.2.2))] t) (va_A [(h0, .inr (1, [.ref qk, .ref qc, .int st, .int nn, .int ln])), (qc, .inr (0, [.ref qh, .ref qm, .ref qv, .int (nI kn), .long ab])), (qh, .inl (cA, 8, .inl hh)), (qm, .inl (cA, 16, .inl mm)), (qv, .inl (cA, 16, .inl vv))] sz)) 0 0 (va_A [(h0, .inr (1, [.ref qk, .ref qc, .int st, .int nn, .int ln])), (qc, .inr (0, [.ref qh, .ref qm, .ref qv, .int (nI kn), .long ab])), (qh, .inl (cA, 8, .inl hh)), (qm, .inl (cA, 16, .inl mm)), (qv, .inl (cA, 16, .inl vv))] sz) := by
  refine Met.ofW (cc := cX1_finish) (maxL := 1) (ret := (some .boolean)) (by decide) rfl ?_
  intro p e s m args below meth c s₁ B hml hv
  obtain ⟨rfl, hsz, hP, hK, hD0, hT⟩ := hv
  have hx := B.exec
  have hb := B.bytes
  have hr := B.returns
  have hts := atoms_spec (ws := wsX1_finish) B.pre
  have hown : s.vm.findClass RX1 = some m.cls := findClass_of_methodNamed B.named
  have hlocks := B.notSynchronized
  have ki1 : ∀ w ∈ u_ws RX1 TX1 5, w ∈ wsX1_finish := by decide +kernel
  have k1 := hts (.fieldLink RX1 20 "KeyedDigest" "state" "I") (by decide +kernel)
  have k2 := hts (.fieldLink RX1 16 "KeyedDigest" "chain" "LKeyedDigest$Chain;") (by decide +kernel)
  subst hsz
  have hD := hD0.self (sz := s.heap.size)
  generalize hAe : va_A [(h0, .inr (1, [.ref qk, .ref qc, .int st, .int nn, .int ln])), (qc, .inr (0, [.ref qh, .ref qm, .ref qv, .int (nI kn), .long ab])), (qh, .inl (cA, 8, .inl hh)), (qm, .inl (cA, 16, .inl mm)), (qv, .inl (cA, 16, .inl vv))] s.heap.size = A at hD hT ⊢
  have hA : ∀ q : Nat, s.heap.size ≤ q → A q := fun q h => by rw [← hAe]; exact Or.inr h
  have hS : va_S A s.heap s.heap [] := va_S.rf
  have hP : va_P (dC, dI) vwCl [(h0, .inr (1, [.ref qk, .ref qc, .int st, .int nn, .int ln])), (qc, .inr (0, [.ref qh, .ref qm, .ref qv, .int (nI kn), .long ab])), (qh, .inl (cA, 8, .inl hh)), (qm, .inl (cA, 16, .inl mm)), (qv, .inl (cA, 16, .inl vv))] s.heap := hP
  have hl := lv_entry ([.ref h0]) (n := 1) (Nat.le_of_ble_eq_true rfl)
  rw [lg_entry_eq]
  generalize (lg_sl ([.ref h0]) ++ List.replicate (1 - (lg_sl ([.ref h0])).length) Slot.unset).toArray = ls at hl ⊢
  have hl : lv_has ls 1 [(0, .ref h0)] := hl
  refine lv_aload_n hx hb dX1_finish_0 rfl (lv_at hl 0 rfl) ?_
  refine va_get (D := (dC, dI)) (ci := 1) (v := .int st) (C := RX1) (T := TX1) (N := 5) hx hb hts ki1 hown hK hP 0 rfl rfl 2 (by decide) k1 (fun _ h9 => h9) rfl dX1_finish_1 ?_
  refine lv_iconst (v := 2) hx hb dX1_finish_4 (by decide) ?_
  refine lv_icmp_eq (tgt := 10) hx hb dX1_finish_5 (by decide) (fun c5 => ?_) (fun c5 => ?_)
  · refine lv_aload_n hx hb dX1_finish_10 rfl (lv_at hl 0 rfl) ?_
    refine va_get (D := (dC, dI)) (ci := 1) (v := .ref qc) (C := RX1) (T := TX1) (N := 5) hx hb hts ki1 hown hK hP 0 rfl rfl 1 (by decide) k2 (fun _ h9 => h9) rfl dX1_finish_11 ?_
    have hPc := hP.sub (ws' := [(qc, .inr (0, [.ref qh, .ref qm, .ref qv, .int (nI kn), .long ab])), (qh, .inl (cA, 8, .inl hh)), (qm, .inl (cA, 16, .inl mm)), (qv, .inl (cA, 16, .inl vv))]) [1, 2, 3, 4] rfl
    have hDc := hD.sub (ws' := [(qc, .inr (0, [.ref qh, .ref qm, .ref qv, .int (nI kn), .long ab])), (qh, .inl (cA, 8, .inl hh)), (qm, .inl (cA, 16, .inl mm)), (qv, .inl (cA, 16, .inl vv))]) [1, 2, 3, 4] (by decide) rfl
    have hFc := va_free (wc := [(qc, .inr (0, [.ref qh, .ref qm, .ref qv, .int (nI kn), .long ab])), (qh, .inl (cA, 8, .inl hh)), (qm, .inl (cA, 16, .inl mm)), (qv, .inl (cA, 16, .inl vv))]) hD hS hA [1, 2, 3, 4] rfl
    refine va_callv (va_runV (As := []) (rest := []) ⟨hx, hb, hml, hown, hts⟩ (cX0_mixLast_ok l dC dI cA tb s.heap.size qc qh qm qv hh mm vv (nI kn) ab ) (cwV 0 hts gX1_finish_X0_mixLast rfl rfl rfl (by decide +kernel) ⟨Nat.le_of_ble_eq_true rfl, Nat.le_of_ble_eq_true rfl⟩) ⟨fun a U g mk q => kd_calling rfl rfl q, va_recv hK hPc (ci := 0) (q0 := 0) rfl rfl, fun U hU hW => ⟨rfl, kd_pre hPc hK hDc hT hS hFc U hU hW⟩⟩ rfl rfl hl.1 rfl (lv_room (Nat.le_of_ble_eq_true rfl)) dX1_finish_14 ⟨Nat.le_of_ble_eq_true rfl, Nat.le_of_ble_eq_true rfl⟩) hS (fun q _ h => hFc q h) hFc (fun u t H1 locs ht hvm hw hB hz1 hk1 hS => ?_)
    obtain ⟨vo14, rfl⟩ : ∃ z, z = u := ⟨_, rfl⟩
    have hw14 : True := hw
    have hP1 : va_P (dC, dI) vwCl [(qc, .inr (0, [.ref qh, .ref qm, .ref qv, .int (nI kn), .long ab])), (qh, .inl (cA, 8, .inl (kd_mix hh mm ab (-1)))), (qm, .inl (cA, 16, .inl mm)), (qv, .inl (cA, 16, .inl vo14))] H1 := by rw [← ht]; exact hB.1
    have hD1 : va_D (va_A [(qc, .inr (0, [.ref qh, .ref qm, .ref qv, .int (nI kn), .long ab])), (qh, .inl (cA, 8, .inl hh)), (qm, .inl (cA, 16, .inl mm)), (qv, .inl (cA, 16, .inl vv))] s.heap.size) [(qc, .inr (0, [.ref qh, .ref qm, .ref qv, .int (nI kn), .long ab])), (qh, .inl (cA, 8, .inl (kd_mix hh mm ab (-1)))), (qm, .inl (cA, 16, .inl mm)), (qv, .inl (cA, 16, .inl vo14))] := hB.2.2
    obtain ⟨hP, hD⟩ := va_join (wr := [(h0, .inr (1, [.ref qk, .ref qc, .int st, .int nn, .int ln]))]) (w1 := [(qc, .inr (0, [.ref qh, .ref qm, .ref qv, .int (nI kn), .long ab])), (qh, .inl (cA, 8, .inl (kd_mix hh mm ab (-1)))), (qm, .inl (cA, 16, .inl mm)), (qv, .inl (cA, 16, .inl vo14))]) hP hD [1, 2, 3, 4] [0] rfl rfl (by decide) (by decide) hk1 hFc hP1 hD1
    clear hw hB hk1 hPc hDc hFc hP1 hD1 hvm hz1
    generalize H1 = H at hP hS ⊢
    have hP : va_P (dC, dI) vwCl [(h0, .inr (1, [.ref qk, .ref qc, .int st, .int nn, .int ln])), (qc, .inr (0, [.ref qh, .ref qm, .ref qv, .int (nI kn), .long ab])), (qh, .inl (cA, 8, .inl (kd_mix hh mm ab (-1)))), (qm, .inl (cA, 16, .inl mm)), (qv, .inl (cA, 16, .inl vo14))] H := hP
    have hD : va_D A [(h0, .inr (1, [.ref qk, .ref qc, .int st, .int nn, .int ln])), (qc, .inr (0, [.ref qh, .ref qm, .ref qv, .int (nI kn), .long ab])), (qh, .inl (cA, 8, .inl (kd_mix hh mm ab (-1)))), (qm, .inl (cA, 16, .inl mm)), (qv, .inl (cA, 16, .inl vo14))] := hD
    refine lv_aload_n hx hb dX1_finish_17 rfl (lv_at hl 0 rfl) ?_
    refine lv_iconst (v := 3) hx hb dX1_finish_18 (by decide) ?_
    refine va_put (D := (dC, dI)) (ci := 1) (v := .int 3) (ty := .int) (C := RX1) (T := TX1) (N := 5) hx hb hts ki1 tyX1 tyX1_ok nmX1 hown hK hP hD hS 0 rfl rfl 2 (by decide) k1 (fun _ h9 => h9) rfl (by decide +kernel) rfl rfl (Nat.le_of_ble_eq_true rfl) dX1_finish_19 (fun H locs hP hD hS => ?_)
    have hP : va_P (dC, dI) vwCl [(h0, .inr (1, [.ref qk, .ref qc, .int 3, .int nn, .int ln])), (qc, .inr (0, [.ref qh, .ref qm, .ref qv, .int (nI kn), .long ab])), (qh, .inl (cA, 8, .inl (kd_mix hh mm ab (-1)))), (qm, .inl (cA, 16, .inl mm)), (qv, .inl (cA, 16, .inl vo14))] H := hP
    have hD : va_D A [(h0, .inr (1, [.ref qk, .ref qc, .int 3, .int nn, .int ln])), (qc, .inr (0, [.ref qh, .ref qm, .ref qv, .int (nI kn), .long ab])), (qh, .inl (cA, 8, .inl (kd_mix hh mm ab (-1)))), (qm, .inl (cA, 16, .inl mm)), (qv, .inl (cA, 16, .inl vo14))] := hD
    refine lv_iconst (v := 1) hx hb dX1_finish_22 (by decide) ?_
    have hP9 := hP.sub (ws' := [(h0, .inr (1, [.ref qk, .ref qc, .int 3, .int nn, .int ln])), (qc, .inr (0, [.ref qh, .ref qm, .ref qv, .int (nI kn), .long ab])), (qh, .inl (cA, 8, .inl (kd_mix hh mm ab (-1)))), (qm, .inl (cA, 16, .inl mm)), (qv, .inl (cA, 16, .inl vo14))]) [0, 1, 2, 3, 4] rfl
    have hD9 := hD.sub (ws' := [(h0, .inr (1, [.ref qk, .ref qc, .int 3, .int nn, .int ln])), (qc, .inr (0, [.ref qh, .ref qm, .ref qv, .int (nI kn), .long ab])), (qh, .inl (cA, 8, .inl (kd_mix hh mm ab (-1)))), (qm, .inl (cA, 16, .inl mm)), (qv, .inl (cA, 16, .inl vo14))]) [0, 1, 2, 3, 4] (by decide) rfl
    exact W.zret (v := 1) hx hb hr (by rfl) (fun t ht hW => ⟨⟨1, (3, kd_mix hh mm ab (-1), vo14), rfl, (if_pos c5).symm, by rw [ht]; exact hP9, va_K.moved hW.alike hK, hD9⟩, hS.F ht⟩) hS.2.2 dX1_finish_23
  · refine lv_iconst (v := 0) hx hb dX1_finish_8 (by decide) ?_
    have hP9 := hP.sub (ws' := [(h0, .inr (1, [.ref qk, .ref qc, .int st, .int nn, .int ln])), (qc, .inr (0, [.ref qh, .ref qm, .ref qv, .int (nI kn), .long ab])), (qh, .inl (cA, 8, .inl hh)), (qm, .inl (cA, 16, .inl mm)), (qv, .inl (cA, 16, .inl vv))]) [0, 1, 2, 3, 4] rfl
    have hD9 := hD.sub (ws' := [(h0, .inr (1, [.ref qk, .ref qc, .int st, .int nn, .int ln])), (qc, .inr (0, [.ref qh, .ref qm, .ref qv, .int (nI kn), .long ab])), (qh, .inl (cA, 8, .inl hh)), (qm, .inl (cA, 16, .inl mm)), (qv, .inl (cA, 16, .inl vv))]) [0, 1, 2, 3, 4] (by decide) rfl
    exact W.zret (v := 0) hx hb hr (by rfl) (fun t ht hW => ⟨⟨0, (st, hh, vv), rfl, (if_neg c5).symm, by rw [ht]; exact hP9, va_K.moved hW.alike hK, hD9⟩, hS.F ht⟩) hS.2.2 dX1_finish_9

set_option maxHeartbeats 4000000 in
set_option maxRecDepth 100000 in
theorem cX1_start_ok (l : Launch) (dC : Nat → ClassId) (dI : Nat → Nat → Nat) (cA : ClassId) (tb : Nat → Nat) (sz : Nat) (h0 : Nat) (qk : Nat) (qc : Nat) (qh : Nat) (qm : Nat) (qv : Nat) (key : Nat → Int32) (st : Int32) (nn : Int32) (ln : Int32) (hh : Nat → Int32) (mm : Nat → Int32) (vv : Nat → Int32) (kn : Nat) (ab : Int64) (a : Int32) (kk : Int32) : Met l yX1_start wsX1_start ({ frames := 6, cells := 0, slots := 0, locals := 134 }) (va_Pc [.ref h0, .int a, .int kk] (kd_I (dC, dI) cA tb sz [(h0, .inr (1, [.ref qk, .ref qc, .int st, .int nn, .int ln])), (qk, .inl (cA, 32, .inl key)), (qc, .inr (0, [.ref qh, .ref qm, .ref qv, .int (nI kn), .long ab])), (qh, .inl (cA, 8, .inl hh)), (qm, .inl (cA, 16, .inl mm)), (qv, .inl (cA, 16, .inl vv))])) (va_Qi (fun (r : Int32) (u : Int32 × Int32 × Int32 × (Nat → Int32) × (Nat → Int32) × (Nat → Int32) × Nat × Int64) => (r, u.1, u.2.1, u.2.2.1, (u.2.2.2.1, u.2.2.2.2.1, u.2.2.2.2.2.2.1, u.2.2.2.2.2.2.2)) = if st = 0 ∨ a < 1 ∨ 32 < a ∨ kk < 0 ∨ 32 < kk then (0, st, nn, ln, (hh, mm, kn, ab)) else (1, 2, a, 0, kd_open key a kk)) (fun u t => kd_O (dC, dI) cA (va_A [(h0, .inr (1, [.ref qk, .ref qc, .int st, .int nn, .int ln])), (qk, .inl (cA, 32, .inl key)), (qc, .inr (0, [.ref qh, .ref qm, .ref qv, .int (nI kn), .long ab])), (qh, .inl (cA, 8, .inl hh)), (qm, .inl (cA, 16, .inl mm)), (qv, .inl (cA, 16, .inl vv))] sz) [(h0, .inr (1, [.ref qk, .ref qc, .int u.1, .int u.2.1, .int u.2.2.1])), (qk, .inl (cA, 32, .inl key)), (qc, .inr (0, [.ref qh, .ref qm, .ref qv, .int (nI u.2.2.2.2.2.2.1), .long u.2.2.2.2.2.2.2])), (qh, .inl (cA, 8, .inl u.2.2.2.1)), (qm, .inl (cA, 16, .inl u.2.2.2.2.1)), (qv, .inl (cA, 16, .inl u.2.2.2.2.2.1))] t) (va_A [(h0, .inr (1, [.ref qk, .ref qc, .int st, .int nn, .int ln])), (qk, .inl (cA, 32, .inl key)), (qc, .inr (0, [.ref qh, .ref qm, .ref qv, .int (nI kn), .long ab])), (qh, .inl (cA, 8, .inl hh)), (qm, .inl (cA, 16, .inl mm)), (qv, .inl (cA, 16, .inl vv))] sz)) 0 0 (va_A [(h0, .inr (1, [.ref qk, .ref qc, .int st, .int nn, .int ln])), (qk, .inl (cA, 32, .inl key)), (qc, .inr (0, [.ref qh, .ref qm, .ref qv, .int (nI kn), .long ab])), (qh, .inl (cA, 8, .inl hh)), (qm, .inl (cA, 16, .inl mm)), (qv, .inl (cA, 16, .inl vv))] sz) := by
  refine Met.ofW (cc := cX1_start) (maxL := 3) (ret := (some .boolean)) (by decide) rfl ?_
  intro p e s m args below meth c s₁ B hml hv
  obtain ⟨rfl, hsz, hP, hK, hD0, hT⟩ := hv
  have hx := B.exec
  have hb := B.bytes
  have hr := B.returns
  have hts := atoms_spec (ws := wsX1_start) B.pre
  have hown : s.vm.findClass RX1 = some m.cls := findClass_of_methodNamed B.named
  have hlocks := B.notSynchronized
  have ki1 : ∀ w ∈ u_ws RX1 TX1 5, w ∈ wsX1_start := by decide +kernel
  have k1 := hts (.fieldLink RX1 20 "KeyedDigest" "state" "I") (by decide +kernel)
  have k2 := hts (.fieldLink RX1 16 "KeyedDigest" "chain" "LKeyedDigest$Chain;") (by decide +kernel)
  have k3 := hts (.fieldLink RX1 24 "KeyedDigest" "digestBytes" "I") (by decide +kernel)
  have k4 := hts (.fieldLink RX1 27 "KeyedDigest" "messageBytes" "I") (by decide +kernel)
  have k5 := hts (.fieldLink RX1 9 "KeyedDigest" "key" "[I") (by decide +kernel)
  subst hsz
  have hD := hD0.self (sz := s.heap.size)
  generalize hAe : va_A [(h0, .inr (1, [.ref qk, .ref qc, .int st, .int nn, .int ln])), (qk, .inl (cA, 32, .inl key)), (qc, .inr (0, [.ref qh, .ref qm, .ref qv, .int (nI kn), .long ab])), (qh, .inl (cA, 8, .inl hh)), (qm, .inl (cA, 16, .inl mm)), (qv, .inl (cA, 16, .inl vv))] s.heap.size = A at hD hT ⊢
  have hA : ∀ q : Nat, s.heap.size ≤ q → A q := fun q h => by rw [← hAe]; exact Or.inr h
  have hS : va_S A s.heap s.heap [] := va_S.rf
  have hP : va_P (dC, dI) vwCl [(h0, .inr (1, [.ref qk, .ref qc, .int st, .int nn, .int ln])), (qk, .inl (cA, 32, .inl key)), (qc, .inr (0, [.ref qh, .ref qm, .ref qv, .int (nI kn), .long ab])), (qh, .inl (cA, 8, .inl hh)), (qm, .inl (cA, 16, .inl mm)), (qv, .inl (cA, 16, .inl vv))] s.heap := hP
  have hl := lv_entry ([.ref h0, .int a, .int kk]) (n := 3) (Nat.le_of_ble_eq_true rfl)
  rw [lg_entry_eq]
  generalize (lg_sl ([.ref h0, .int a, .int kk]) ++ List.replicate (3 - (lg_sl ([.ref h0, .int a, .int kk])).length) Slot.unset).toArray = ls at hl ⊢
  have hl : lv_has ls 3 [(0, .ref h0), (1, .int a), (2, .int kk)] := hl
  refine lv_aload_n hx hb dX1_start_0 rfl (lv_at hl 0 rfl) ?_
  refine va_get (D := (dC, dI)) (ci := 1) (v := .int st) (C := RX1) (T := TX1) (N := 5) hx hb hts ki1 hown hK hP 0 rfl rfl 2 (by decide) k1 (fun _ h9 => h9) rfl dX1_start_1 ?_
  refine lv_if_eq (tgt := 28) hx hb dX1_start_4 (by decide) (fun c4 => ?_) (fun c4 => ?_)
  · refine lv_iconst (v := 0) hx hb dX1_start_28 (by decide) ?_
    have hP9 := hP.sub (ws' := [(h0, .inr (1, [.ref qk, .ref qc, .int st, .int nn, .int ln])), (qk, .inl (cA, 32, .inl key)), (qc, .inr (0, [.ref qh, .ref qm, .ref qv, .int (nI kn), .long ab])), (qh, .inl (cA, 8, .inl hh)), (qm, .inl (cA, 16, .inl mm)), (qv, .inl (cA, 16, .inl vv))]) [0, 1, 2, 3, 4, 5] rfl
    have hD9 := hD.sub (ws' := [(h0, .inr (1, [.ref qk, .ref qc, .int st, .int nn, .int ln])), (qk, .inl (cA, 32, .inl key)), (qc, .inr (0, [.ref qh, .ref qm, .ref qv, .int (nI kn), .long ab])), (qh, .inl (cA, 8, .inl hh)), (qm, .inl (cA, 16, .inl mm)), (qv, .inl (cA, 16, .inl vv))]) [0, 1, 2, 3, 4, 5] (by decide) rfl
    exact W.zret (v := 0) hx hb hr (by rfl) (fun t ht hW => ⟨⟨0, (st, nn, ln, hh, mm, vv, kn, ab), rfl, ((if_pos (Or.inl c4))).symm, by rw [ht]; exact hP9, va_K.moved hW.alike hK, hD9⟩, hS.F ht⟩) hS.2.2 dX1_start_29
  · refine lv_iload_n hx hb dX1_start_7 rfl (lv_at hl 1 rfl) ?_
    refine lv_iconst (v := 1) hx hb dX1_start_8 (by decide) ?_
    refine lv_icmp_lt (tgt := 28) hx hb dX1_start_9 (by decide) (fun c9 => ?_) (fun c9 => ?_)
    · refine lv_iconst (v := 0) hx hb dX1_start_28 (by decide) ?_
      have hP9 := hP.sub (ws' := [(h0, .inr (1, [.ref qk, .ref qc, .int st, .int nn, .int ln])), (qk, .inl (cA, 32, .inl key)), (qc, .inr (0, [.ref qh, .ref qm, .ref qv, .int (nI kn), .long ab])), (qh, .inl (cA, 8, .inl hh)), (qm, .inl (cA, 16, .inl mm)), (qv, .inl (cA, 16, .inl vv))]) [0, 1, 2, 3, 4, 5] rfl
      have hD9 := hD.sub (ws' := [(h0, .inr (1, [.ref qk, .ref qc, .int st, .int nn, .int ln])), (qk, .inl (cA, 32, .inl key)), (qc, .inr (0, [.ref qh, .ref qm, .ref qv, .int (nI kn), .long ab])), (qh, .inl (cA, 8, .inl hh)), (qm, .inl (cA, 16, .inl mm)), (qv, .inl (cA, 16, .inl vv))]) [0, 1, 2, 3, 4, 5] (by decide) rfl
      exact W.zret (v := 0) hx hb hr (by rfl) (fun t ht hW => ⟨⟨0, (st, nn, ln, hh, mm, vv, kn, ab), rfl, ((if_pos (Or.inr (Or.inl c9)))).symm, by rw [ht]; exact hP9, va_K.moved hW.alike hK, hD9⟩, hS.F ht⟩) hS.2.2 dX1_start_29
    · refine lv_iload_n hx hb dX1_start_12 rfl (lv_at hl 1 rfl) ?_
      refine lv_bipush (v := 32) hx hb dX1_start_13 (by decide) ?_
      refine lv_icmp_gt (tgt := 28) hx hb dX1_start_15 (by decide) (fun c15 => ?_) (fun c15 => ?_)
      · refine lv_iconst (v := 0) hx hb dX1_start_28 (by decide) ?_
        have hP9 := hP.sub (ws' := [(h0, .inr (1, [.ref qk, .ref qc, .int st, .int nn, .int ln])), (qk, .inl (cA, 32, .inl key)), (qc, .inr (0, [.ref qh, .ref qm, .ref qv, .int (nI kn), .long ab])), (qh, .inl (cA, 8, .inl hh)), (qm, .inl (cA, 16, .inl mm)), (qv, .inl (cA, 16, .inl vv))]) [0, 1, 2, 3, 4, 5] rfl
        have hD9 := hD.sub (ws' := [(h0, .inr (1, [.ref qk, .ref qc, .int st, .int nn, .int ln])), (qk, .inl (cA, 32, .inl key)), (qc, .inr (0, [.ref qh, .ref qm, .ref qv, .int (nI kn), .long ab])), (qh, .inl (cA, 8, .inl hh)), (qm, .inl (cA, 16, .inl mm)), (qv, .inl (cA, 16, .inl vv))]) [0, 1, 2, 3, 4, 5] (by decide) rfl
        exact W.zret (v := 0) hx hb hr (by rfl) (fun t ht hW => ⟨⟨0, (st, nn, ln, hh, mm, vv, kn, ab), rfl, ((if_pos (Or.inr (Or.inr (Or.inl c15))))).symm, by rw [ht]; exact hP9, va_K.moved hW.alike hK, hD9⟩, hS.F ht⟩) hS.2.2 dX1_start_29
      · refine lv_iload_n hx hb dX1_start_18 rfl (lv_at hl 2 rfl) ?_
        refine lv_if_lt (tgt := 28) hx hb dX1_start_19 (by decide) (fun c19 => ?_) (fun c19 => ?_)
        · refine lv_iconst (v := 0) hx hb dX1_start_28 (by decide) ?_
          have hP9 := hP.sub (ws' := [(h0, .inr (1, [.ref qk, .ref qc, .int st, .int nn, .int ln])), (qk, .inl (cA, 32, .inl key)), (qc, .inr (0, [.ref qh, .ref qm, .ref qv, .int (nI kn), .long ab])), (qh, .inl (cA, 8, .inl hh)), (qm, .inl (cA, 16, .inl mm)), (qv, .inl (cA, 16, .inl vv))]) [0, 1, 2, 3, 4, 5] rfl
          have hD9 := hD.sub (ws' := [(h0, .inr (1, [.ref qk, .ref qc, .int st, .int nn, .int ln])), (qk, .inl (cA, 32, .inl key)), (qc, .inr (0, [.ref qh, .ref qm, .ref qv, .int (nI kn), .long ab])), (qh, .inl (cA, 8, .inl hh)), (qm, .inl (cA, 16, .inl mm)), (qv, .inl (cA, 16, .inl vv))]) [0, 1, 2, 3, 4, 5] (by decide) rfl
          exact W.zret (v := 0) hx hb hr (by rfl) (fun t ht hW => ⟨⟨0, (st, nn, ln, hh, mm, vv, kn, ab), rfl, ((if_pos (Or.inr (Or.inr (Or.inr (Or.inl c19)))))).symm, by rw [ht]; exact hP9, va_K.moved hW.alike hK, hD9⟩, hS.F ht⟩) hS.2.2 dX1_start_29
        · refine lv_iload_n hx hb dX1_start_22 rfl (lv_at hl 2 rfl) ?_
          refine lv_bipush (v := 32) hx hb dX1_start_23 (by decide) ?_
          refine lv_icmp_le (tgt := 30) hx hb dX1_start_25 (by decide) (fun c25 => ?_) (fun c25 => ?_)
          · refine lv_aload_n hx hb dX1_start_30 rfl (lv_at hl 0 rfl) ?_
            refine va_get (D := (dC, dI)) (ci := 1) (v := .ref qc) (C := RX1) (T := TX1) (N := 5) hx hb hts ki1 hown hK hP 0 rfl rfl 1 (by decide) k2 (fun _ h9 => h9) rfl dX1_start_31 ?_
            refine lv_iload_n hx hb dX1_start_34 rfl (lv_at hl 1 rfl) ?_
            refine lv_iload_n hx hb dX1_start_35 rfl (lv_at hl 2 rfl) ?_
            have hPc := hP.sub (ws' := [(qc, .inr (0, [.ref qh, .ref qm, .ref qv, .int (nI kn), .long ab])), (qh, .inl (cA, 8, .inl hh)), (qm, .inl (cA, 16, .inl mm))]) [2, 3, 4] rfl
            have hDc := hD.sub (ws' := [(qc, .inr (0, [.ref qh, .ref qm, .ref qv, .int (nI kn), .long ab])), (qh, .inl (cA, 8, .inl hh)), (qm, .inl (cA, 16, .inl mm))]) [2, 3, 4] (by decide) rfl
            have hFc := va_free (wc := [(qc, .inr (0, [.ref qh, .ref qm, .ref qv, .int (nI kn), .long ab])), (qh, .inl (cA, 8, .inl hh)), (qm, .inl (cA, 16, .inl mm))]) hD hS hA [2, 3, 4] rfl
            refine va_callv (va_runV (As := [.int a, .int kk]) (rest := []) ⟨hx, hb, hml, hown, hts⟩ (cX0_begin_ok l dC dI cA tb s.heap.size qc qh qm qv hh mm (nI kn) ab a kk ) (cwV 2 hts gX1_start_X0_begin rfl rfl rfl (by decide +kernel) ⟨Nat.le_of_ble_eq_true rfl, Nat.le_of_ble_eq_true rfl⟩) ⟨fun a U g mk q => kd_calling rfl rfl q, va_recv hK hPc (ci := 0) (q0 := 0) rfl rfl, fun U hU hW => ⟨rfl, kd_pre hPc hK hDc hT hS hFc U hU hW⟩⟩ rfl rfl hl.1 rfl (lv_room (Nat.le_of_ble_eq_true rfl)) dX1_start_36 ⟨Nat.le_of_ble_eq_true rfl, Nat.le_of_ble_eq_true rfl⟩) hS (fun q _ h => hFc q h) hFc (fun u t H1 locs ht hvm hw hB hz1 hk1 hS => ?_)
            have hw36 : True := hw
            have hP1 : va_P (dC, dI) vwCl [(qc, .inr (0, [.ref qh, .ref qm, .ref qv, .int (nI 0), .long 0])), (qh, .inl (cA, 8, .inl (kd_h0 a kk))), (qm, .inl (cA, 16, .inl kd_0))] H1 := by rw [← ht]; exact hB.1
            have hD1 : va_D (va_A [(qc, .inr (0, [.ref qh, .ref qm, .ref qv, .int (nI kn), .long ab])), (qh, .inl (cA, 8, .inl hh)), (qm, .inl (cA, 16, .inl mm))] s.heap.size) [(qc, .inr (0, [.ref qh, .ref qm, .ref qv, .int (nI 0), .long 0])), (qh, .inl (cA, 8, .inl (kd_h0 a kk))), (qm, .inl (cA, 16, .inl kd_0))] := hB.2.2
            obtain ⟨hP, hD⟩ := va_join (wr := [(h0, .inr (1, [.ref qk, .ref qc, .int st, .int nn, .int ln])), (qk, .inl (cA, 32, .inl key)), (qv, .inl (cA, 16, .inl vv))]) (w1 := [(qc, .inr (0, [.ref qh, .ref qm, .ref qv, .int (nI 0), .long 0])), (qh, .inl (cA, 8, .inl (kd_h0 a kk))), (qm, .inl (cA, 16, .inl kd_0))]) hP hD [2, 3, 4] [0, 1, 5] rfl rfl (by decide) (by decide) hk1 hFc hP1 hD1
            clear hw hB hk1 hPc hDc hFc hP1 hD1 hvm hz1
            generalize H1 = H at hP hS ⊢
            have hP : va_P (dC, dI) vwCl [(h0, .inr (1, [.ref qk, .ref qc, .int st, .int nn, .int ln])), (qk, .inl (cA, 32, .inl key)), (qv, .inl (cA, 16, .inl vv)), (qc, .inr (0, [.ref qh, .ref qm, .ref qv, .int (nI 0), .long 0])), (qh, .inl (cA, 8, .inl (kd_h0 a kk))), (qm, .inl (cA, 16, .inl kd_0))] H := hP
            have hD : va_D A [(h0, .inr (1, [.ref qk, .ref qc, .int st, .int nn, .int ln])), (qk, .inl (cA, 32, .inl key)), (qv, .inl (cA, 16, .inl vv)), (qc, .inr (0, [.ref qh, .ref qm, .ref qv, .int (nI 0), .long 0])), (qh, .inl (cA, 8, .inl (kd_h0 a kk))), (qm, .inl (cA, 16, .inl kd_0))] := hD
            refine lv_iload_n hx hb dX1_start_39 rfl (lv_at hl 2 rfl) ?_
            refine lv_if_le (tgt := 55) hx hb dX1_start_40 (by decide) (fun c40 => ?_) (fun c40 => ?_)
            · refine lv_aload_n hx hb dX1_start_55 rfl (lv_at hl 0 rfl) ?_
              refine lv_iconst (v := 2) hx hb dX1_start_56 (by decide) ?_
              refine va_put (D := (dC, dI)) (ci := 1) (v := .int 2) (ty := .int) (C := RX1) (T := TX1) (N := 5) hx hb hts ki1 tyX1 tyX1_ok nmX1 hown hK hP hD hS 0 rfl rfl 2 (by decide) k1 (fun _ h9 => h9) rfl (by decide +kernel) rfl rfl (Nat.le_of_ble_eq_true rfl) dX1_start_57 (fun H locs hP hD hS => ?_)
              have hP : va_P (dC, dI) vwCl [(h0, .inr (1, [.ref qk, .ref qc, .int 2, .int nn, .int ln])), (qk, .inl (cA, 32, .inl key)), (qv, .inl (cA, 16, .inl vv)), (qc, .inr (0, [.ref qh, .ref qm, .ref qv, .int (nI 0), .long 0])), (qh, .inl (cA, 8, .inl (kd_h0 a kk))), (qm, .inl (cA, 16, .inl kd_0))] H := hP
              have hD : va_D A [(h0, .inr (1, [.ref qk, .ref qc, .int 2, .int nn, .int ln])), (qk, .inl (cA, 32, .inl key)), (qv, .inl (cA, 16, .inl vv)), (qc, .inr (0, [.ref qh, .ref qm, .ref qv, .int (nI 0), .long 0])), (qh, .inl (cA, 8, .inl (kd_h0 a kk))), (qm, .inl (cA, 16, .inl kd_0))] := hD
              refine lv_aload_n hx hb dX1_start_60 rfl (lv_at hl 0 rfl) ?_
              refine lv_iload_n hx hb dX1_start_61 rfl (lv_at hl 1 rfl) ?_
              refine va_put (D := (dC, dI)) (ci := 1) (v := .int a) (ty := .int) (C := RX1) (T := TX1) (N := 5) hx hb hts ki1 tyX1 tyX1_ok nmX1 hown hK hP hD hS 0 rfl rfl 3 (by decide) k3 (fun _ h9 => h9) rfl (by decide +kernel) rfl rfl (Nat.le_of_ble_eq_true rfl) dX1_start_62 (fun H locs hP hD hS => ?_)
              have hP : va_P (dC, dI) vwCl [(h0, .inr (1, [.ref qk, .ref qc, .int 2, .int a, .int ln])), (qk, .inl (cA, 32, .inl key)), (qv, .inl (cA, 16, .inl vv)), (qc, .inr (0, [.ref qh, .ref qm, .ref qv, .int (nI 0), .long 0])), (qh, .inl (cA, 8, .inl (kd_h0 a kk))), (qm, .inl (cA, 16, .inl kd_0))] H := hP
              have hD : va_D A [(h0, .inr (1, [.ref qk, .ref qc, .int 2, .int a, .int ln])), (qk, .inl (cA, 32, .inl key)), (qv, .inl (cA, 16, .inl vv)), (qc, .inr (0, [.ref qh, .ref qm, .ref qv, .int (nI 0), .long 0])), (qh, .inl (cA, 8, .inl (kd_h0 a kk))), (qm, .inl (cA, 16, .inl kd_0))] := hD
              refine lv_aload_n hx hb dX1_start_65 rfl (lv_at hl 0 rfl) ?_
              refine lv_iconst (v := 0) hx hb dX1_start_66 (by decide) ?_
              refine va_put (D := (dC, dI)) (ci := 1) (v := .int 0) (ty := .int) (C := RX1) (T := TX1) (N := 5) hx hb hts ki1 tyX1 tyX1_ok nmX1 hown hK hP hD hS 0 rfl rfl 4 (by decide) k4 (fun _ h9 => h9) rfl (by decide +kernel) rfl rfl (Nat.le_of_ble_eq_true rfl) dX1_start_67 (fun H locs hP hD hS => ?_)
              have hP : va_P (dC, dI) vwCl [(h0, .inr (1, [.ref qk, .ref qc, .int 2, .int a, .int 0])), (qk, .inl (cA, 32, .inl key)), (qv, .inl (cA, 16, .inl vv)), (qc, .inr (0, [.ref qh, .ref qm, .ref qv, .int (nI 0), .long 0])), (qh, .inl (cA, 8, .inl (kd_h0 a kk))), (qm, .inl (cA, 16, .inl kd_0))] H := hP
              have hD : va_D A [(h0, .inr (1, [.ref qk, .ref qc, .int 2, .int a, .int 0])), (qk, .inl (cA, 32, .inl key)), (qv, .inl (cA, 16, .inl vv)), (qc, .inr (0, [.ref qh, .ref qm, .ref qv, .int (nI 0), .long 0])), (qh, .inl (cA, 8, .inl (kd_h0 a kk))), (qm, .inl (cA, 16, .inl kd_0))] := hD
              refine lv_iconst (v := 1) hx hb dX1_start_70 (by decide) ?_
              have hP9 := hP.sub (ws' := [(h0, .inr (1, [.ref qk, .ref qc, .int 2, .int a, .int 0])), (qk, .inl (cA, 32, .inl key)), (qc, .inr (0, [.ref qh, .ref qm, .ref qv, .int (nI 0), .long 0])), (qh, .inl (cA, 8, .inl (kd_h0 a kk))), (qm, .inl (cA, 16, .inl kd_0)), (qv, .inl (cA, 16, .inl vv))]) [0, 1, 3, 4, 5, 2] rfl
              have hD9 := hD.sub (ws' := [(h0, .inr (1, [.ref qk, .ref qc, .int 2, .int a, .int 0])), (qk, .inl (cA, 32, .inl key)), (qc, .inr (0, [.ref qh, .ref qm, .ref qv, .int (nI 0), .long 0])), (qh, .inl (cA, 8, .inl (kd_h0 a kk))), (qm, .inl (cA, 16, .inl kd_0)), (qv, .inl (cA, 16, .inl vv))]) [0, 1, 3, 4, 5, 2] (by decide) rfl
              exact W.zret (v := 1) hx hb hr (by rfl) (fun t ht hW => ⟨⟨1, (2, a, 0, kd_h0 a kk, kd_0, vv, 0, 0), rfl, (by dsimp only; rw [(if_neg (fun h => h.elim c4 (fun h => h.elim c9 (fun h => h.elim c15 (fun h => h.elim c19 ((fun h => absurd c25 (Int32.not_le.mpr h))))))))]; unfold kd_open; rw [if_pos c40]), by rw [ht]; exact hP9, va_K.moved hW.alike hK, hD9⟩, hS.F ht⟩) hS.2.2 dX1_start_71
            · obtain ⟨kj, hkj, rfl⟩ := nI_of2 (n := 32) (M := 32) (by decide) c19 c25
              refine lv_aload_n hx hb dX1_start_43 rfl (lv_at hl 0 rfl) ?_
              refine va_get (D := (dC, dI)) (ci := 1) (v := .ref qc) (C := RX1) (T := TX1) (N := 5) hx hb hts ki1 hown hK hP 0 rfl rfl 1 (by decide) k2 (fun _ h9 => h9) rfl dX1_start_44 ?_
              refine lv_aload_n hx hb dX1_start_47 rfl (lv_at hl 0 rfl) ?_
              refine va_get (D := (dC, dI)) (ci := 1) (v := .ref qk) (C := RX1) (T := TX1) (N := 5) hx hb hts ki1 hown hK hP 0 rfl rfl 0 (by decide) k5 (fun _ h9 => h9) rfl dX1_start_48 ?_
              refine lv_iload_n hx hb dX1_start_51 rfl (lv_at hl 2 rfl) ?_
              have hPc := hP.sub (ws' := [(qc, .inr (0, [.ref qh, .ref qm, .ref qv, .int (nI 0), .long 0])), (qh, .inl (cA, 8, .inl (kd_h0 a (nI kj)))), (qm, .inl (cA, 16, .inl kd_0)), (qv, .inl (cA, 16, .inl vv)), (qk, .inl (cA, 32, .inl key))]) [3, 4, 5, 2, 1] rfl
              have hDc := hD.sub (ws' := [(qc, .inr (0, [.ref qh, .ref qm, .ref qv, .int (nI 0), .long 0])), (qh, .inl (cA, 8, .inl (kd_h0 a (nI kj)))), (qm, .inl (cA, 16, .inl kd_0)), (qv, .inl (cA, 16, .inl vv)), (qk, .inl (cA, 32, .inl key))]) [3, 4, 5, 2, 1] (by decide) rfl
              have hFc := va_free (wc := [(qc, .inr (0, [.ref qh, .ref qm, .ref qv, .int (nI 0), .long 0])), (qh, .inl (cA, 8, .inl (kd_h0 a (nI kj)))), (qm, .inl (cA, 16, .inl kd_0)), (qv, .inl (cA, 16, .inl vv)), (qk, .inl (cA, 32, .inl key))]) hD hS hA [3, 4, 5, 2, 1] rfl
              refine va_callv (va_runV (As := [.ref qk, .int (nI kj)]) (rest := []) ⟨hx, hb, hml, hown, hts⟩ (cX0_addKey_ok l dC dI cA tb H.size qc qh qm qv (kd_h0 a (nI kj)) kd_0 vv 0 qk key kj hkj) (cwV 2 hts gX1_start_X0_addKey rfl rfl rfl (by decide +kernel) ⟨Nat.le_of_ble_eq_true rfl, Nat.le_of_ble_eq_true rfl⟩) ⟨fun a U g mk q => kd_calling rfl rfl q, va_recv hK hPc (ci := 0) (q0 := 0) rfl rfl, fun U hU hW => ⟨rfl, kd_pre hPc hK hDc hT hS hFc U hU hW⟩⟩ rfl rfl hl.1 rfl (lv_room (Nat.le_of_ble_eq_true rfl)) dX1_start_52 ⟨Nat.le_of_ble_eq_true rfl, Nat.le_of_ble_eq_true rfl⟩) hS (fun q _ h => hFc q h) hFc (fun u t H1 locs ht hvm hw hB hz1 hk1 hS => ?_)
              obtain ⟨vo52, rfl⟩ : ∃ z, z = u := ⟨_, rfl⟩
              have hw52 : True := hw
              have hP1 : va_P (dC, dI) vwCl [(qc, .inr (0, [.ref qh, .ref qm, .ref qv, .int (nI 64), .long 64])), (qh, .inl (cA, 8, .inl ((kd_adds key kj ((kd_h0 a (nI kj)), kd_0, 0, 0)).1))), (qm, .inl (cA, 16, .inl ((kd_adds key kj ((kd_h0 a (nI kj)), kd_0, 0, 0)).2.1))), (qv, .inl (cA, 16, .inl vo52)), (qk, .inl (cA, 32, .inl key))] H1 := by rw [← ht]; exact hB.1
              have hD1 : va_D (va_A [(qc, .inr (0, [.ref qh, .ref qm, .ref qv, .int (nI 0), .long 0])), (qh, .inl (cA, 8, .inl (kd_h0 a (nI kj)))), (qm, .inl (cA, 16, .inl kd_0)), (qv, .inl (cA, 16, .inl vv)), (qk, .inl (cA, 32, .inl key))] H.size) [(qc, .inr (0, [.ref qh, .ref qm, .ref qv, .int (nI 64), .long 64])), (qh, .inl (cA, 8, .inl ((kd_adds key kj ((kd_h0 a (nI kj)), kd_0, 0, 0)).1))), (qm, .inl (cA, 16, .inl ((kd_adds key kj ((kd_h0 a (nI kj)), kd_0, 0, 0)).2.1))), (qv, .inl (cA, 16, .inl vo52)), (qk, .inl (cA, 32, .inl key))] := hB.2.2
              obtain ⟨hP, hD⟩ := va_join (wr := [(h0, .inr (1, [.ref qk, .ref qc, .int st, .int nn, .int ln]))]) (w1 := [(qc, .inr (0, [.ref qh, .ref qm, .ref qv, .int (nI 64), .long 64])), (qh, .inl (cA, 8, .inl ((kd_adds key kj ((kd_h0 a (nI kj)), kd_0, 0, 0)).1))), (qm, .inl (cA, 16, .inl ((kd_adds key kj ((kd_h0 a (nI kj)), kd_0, 0, 0)).2.1))), (qv, .inl (cA, 16, .inl vo52)), (qk, .inl (cA, 32, .inl key))]) hP hD [3, 4, 5, 2, 1] [0] rfl rfl (by decide) (by decide) hk1 hFc hP1 hD1
              clear hw hB hk1 hPc hDc hFc hP1 hD1 hvm hz1
              generalize H1 = H at hP hS ⊢
              have hP : va_P (dC, dI) vwCl [(h0, .inr (1, [.ref qk, .ref qc, .int st, .int nn, .int ln])), (qc, .inr (0, [.ref qh, .ref qm, .ref qv, .int (nI 64), .long 64])), (qh, .inl (cA, 8, .inl ((kd_adds key kj ((kd_h0 a (nI kj)), kd_0, 0, 0)).1))), (qm, .inl (cA, 16, .inl ((kd_adds key kj ((kd_h0 a (nI kj)), kd_0, 0, 0)).2.1))), (qv, .inl (cA, 16, .inl vo52)), (qk, .inl (cA, 32, .inl key))] H := hP
              have hD : va_D A [(h0, .inr (1, [.ref qk, .ref qc, .int st, .int nn, .int ln])), (qc, .inr (0, [.ref qh, .ref qm, .ref qv, .int (nI 64), .long 64])), (qh, .inl (cA, 8, .inl ((kd_adds key kj ((kd_h0 a (nI kj)), kd_0, 0, 0)).1))), (qm, .inl (cA, 16, .inl ((kd_adds key kj ((kd_h0 a (nI kj)), kd_0, 0, 0)).2.1))), (qv, .inl (cA, 16, .inl vo52)), (qk, .inl (cA, 32, .inl key))] := hD
              refine lv_aload_n hx hb dX1_start_55 rfl (lv_at hl 0 rfl) ?_
              refine lv_iconst (v := 2) hx hb dX1_start_56 (by decide) ?_
              refine va_put (D := (dC, dI)) (ci := 1) (v := .int 2) (ty := .int) (C := RX1) (T := TX1) (N := 5) hx hb hts ki1 tyX1 tyX1_ok nmX1 hown hK hP hD hS 0 rfl rfl 2 (by decide) k1 (fun _ h9 => h9) rfl (by decide +kernel) rfl rfl (Nat.le_of_ble_eq_true rfl) dX1_start_57 (fun H locs hP hD hS => ?_)
              have hP : va_P (dC, dI) vwCl [(h0, .inr (1, [.ref qk, .ref qc, .int 2, .int nn, .int ln])), (qc, .inr (0, [.ref qh, .ref qm, .ref qv, .int (nI 64), .long 64])), (qh, .inl (cA, 8, .inl ((kd_adds key kj ((kd_h0 a (nI kj)), kd_0, 0, 0)).1))), (qm, .inl (cA, 16, .inl ((kd_adds key kj ((kd_h0 a (nI kj)), kd_0, 0, 0)).2.1))), (qv, .inl (cA, 16, .inl vo52)), (qk, .inl (cA, 32, .inl key))] H := hP
              have hD : va_D A [(h0, .inr (1, [.ref qk, .ref qc, .int 2, .int nn, .int ln])), (qc, .inr (0, [.ref qh, .ref qm, .ref qv, .int (nI 64), .long 64])), (qh, .inl (cA, 8, .inl ((kd_adds key kj ((kd_h0 a (nI kj)), kd_0, 0, 0)).1))), (qm, .inl (cA, 16, .inl ((kd_adds key kj ((kd_h0 a (nI kj)), kd_0, 0, 0)).2.1))), (qv, .inl (cA, 16, .inl vo52)), (qk, .inl (cA, 32, .inl key))] := hD
              refine lv_aload_n hx hb dX1_start_60 rfl (lv_at hl 0 rfl) ?_
              refine lv_iload_n hx hb dX1_start_61 rfl (lv_at hl 1 rfl) ?_
              refine va_put (D := (dC, dI)) (ci := 1) (v := .int a) (ty := .int) (C := RX1) (T := TX1) (N := 5) hx hb hts ki1 tyX1 tyX1_ok nmX1 hown hK hP hD hS 0 rfl rfl 3 (by decide) k3 (fun _ h9 => h9) rfl (by decide +kernel) rfl rfl (Nat.le_of_ble_eq_true rfl) dX1_start_62 (fun H locs hP hD hS => ?_)
              have hP : va_P (dC, dI) vwCl [(h0, .inr (1, [.ref qk, .ref qc, .int 2, .int a, .int ln])), (qc, .inr (0, [.ref qh, .ref qm, .ref qv, .int (nI 64), .long 64])), (qh, .inl (cA, 8, .inl ((kd_adds key kj ((kd_h0 a (nI kj)), kd_0, 0, 0)).1))), (qm, .inl (cA, 16, .inl ((kd_adds key kj ((kd_h0 a (nI kj)), kd_0, 0, 0)).2.1))), (qv, .inl (cA, 16, .inl vo52)), (qk, .inl (cA, 32, .inl key))] H := hP
              have hD : va_D A [(h0, .inr (1, [.ref qk, .ref qc, .int 2, .int a, .int ln])), (qc, .inr (0, [.ref qh, .ref qm, .ref qv, .int (nI 64), .long 64])), (qh, .inl (cA, 8, .inl ((kd_adds key kj ((kd_h0 a (nI kj)), kd_0, 0, 0)).1))), (qm, .inl (cA, 16, .inl ((kd_adds key kj ((kd_h0 a (nI kj)), kd_0, 0, 0)).2.1))), (qv, .inl (cA, 16, .inl vo52)), (qk, .inl (cA, 32, .inl key))] := hD
              refine lv_aload_n hx hb dX1_start_65 rfl (lv_at hl 0 rfl) ?_
              refine lv_iconst (v := 0) hx hb dX1_start_66 (by decide) ?_
              refine va_put (D := (dC, dI)) (ci := 1) (v := .int 0) (ty := .int) (C := RX1) (T := TX1) (N := 5) hx hb hts ki1 tyX1 tyX1_ok nmX1 hown hK hP hD hS 0 rfl rfl 4 (by decide) k4 (fun _ h9 => h9) rfl (by decide +kernel) rfl rfl (Nat.le_of_ble_eq_true rfl) dX1_start_67 (fun H locs hP hD hS => ?_)
              have hP : va_P (dC, dI) vwCl [(h0, .inr (1, [.ref qk, .ref qc, .int 2, .int a, .int 0])), (qc, .inr (0, [.ref qh, .ref qm, .ref qv, .int (nI 64), .long 64])), (qh, .inl (cA, 8, .inl ((kd_adds key kj ((kd_h0 a (nI kj)), kd_0, 0, 0)).1))), (qm, .inl (cA, 16, .inl ((kd_adds key kj ((kd_h0 a (nI kj)), kd_0, 0, 0)).2.1))), (qv, .inl (cA, 16, .inl vo52)), (qk, .inl (cA, 32, .inl key))] H := hP
              have hD : va_D A [(h0, .inr (1, [.ref qk, .ref qc, .int 2, .int a, .int 0])), (qc, .inr (0, [.ref qh, .ref qm, .ref qv, .int (nI 64), .long 64])), (qh, .inl (cA, 8, .inl ((kd_adds key kj ((kd_h0 a (nI kj)), kd_0, 0, 0)).1))), (qm, .inl (cA, 16, .inl ((kd_adds key kj ((kd_h0 a (nI kj)), kd_0, 0, 0)).2.1))), (qv, .inl (cA, 16, .inl vo52)), (qk, .inl (cA, 32, .inl key))] := hD
              refine lv_iconst (v := 1) hx hb dX1_start_70 (by decide) ?_
              have hP9 := hP.sub (ws' := [(h0, .inr (1, [.ref qk, .ref qc, .int 2, .int a, .int 0])), (qk, .inl (cA, 32, .inl key)), (qc, .inr (0, [.ref qh, .ref qm, .ref qv, .int (nI 64), .long 64])), (qh, .inl (cA, 8, .inl ((kd_adds key kj ((kd_h0 a (nI kj)), kd_0, 0, 0)).1))), (qm, .inl (cA, 16, .inl ((kd_adds key kj ((kd_h0 a (nI kj)), kd_0, 0, 0)).2.1))), (qv, .inl (cA, 16, .inl vo52))]) [0, 5, 1, 2, 3, 4] rfl
              have hD9 := hD.sub (ws' := [(h0, .inr (1, [.ref qk, .ref qc, .int 2, .int a, .int 0])), (qk, .inl (cA, 32, .inl key)), (qc, .inr (0, [.ref qh, .ref qm, .ref qv, .int (nI 64), .long 64])), (qh, .inl (cA, 8, .inl ((kd_adds key kj ((kd_h0 a (nI kj)), kd_0, 0, 0)).1))), (qm, .inl (cA, 16, .inl ((kd_adds key kj ((kd_h0 a (nI kj)), kd_0, 0, 0)).2.1))), (qv, .inl (cA, 16, .inl vo52))]) [0, 5, 1, 2, 3, 4] (by decide) rfl
              exact W.zret (v := 1) hx hb hr (by rfl) (fun t ht hW => ⟨⟨1, (2, a, 0, (kd_adds key kj ((kd_h0 a (nI kj)), kd_0, 0, 0)).1, (kd_adds key kj ((kd_h0 a (nI kj)), kd_0, 0, 0)).2.1, vo52, 64, 64), rfl, (by dsimp only; rw [(if_neg (fun h => h.elim c4 (fun h => h.elim c9 (fun h => h.elim c15 (fun h => h.elim c19 ((fun h => absurd c25 (Int32.not_le.mpr h))))))))]; unfold kd_open; rw [if_neg c40, nI_clamp (by omega)]), by rw [ht]; exact hP9, va_K.moved hW.alike hK, hD9⟩, hS.F ht⟩) hS.2.2 dX1_start_71
          · refine lv_iconst (v := 0) hx hb dX1_start_28 (by decide) ?_
            have hP9 := hP.sub (ws' := [(h0, .inr (1, [.ref qk, .ref qc, .int st, .int nn, .int ln])), (qk, .inl (cA, 32, .inl key)), (qc, .inr (0, [.ref qh, .ref qm, .ref qv, .int (nI kn), .long ab])), (qh, .inl (cA, 8, .inl hh)), (qm, .inl (cA, 16, .inl mm)), (qv, .inl (cA, 16, .inl vv))]) [0, 1, 2, 3, 4, 5] rfl
            have hD9 := hD.sub (ws' := [(h0, .inr (1, [.ref qk, .ref qc, .int st, .int nn, .int ln])), (qk, .inl (cA, 32, .inl key)), (qc, .inr (0, [.ref qh, .ref qm, .ref qv, .int (nI kn), .long ab])), (qh, .inl (cA, 8, .inl hh)), (qm, .inl (cA, 16, .inl mm)), (qv, .inl (cA, 16, .inl vv))]) [0, 1, 2, 3, 4, 5] (by decide) rfl
            exact W.zret (v := 0) hx hb hr (by rfl) (fun t ht hW => ⟨⟨0, (st, nn, ln, hh, mm, vv, kn, ab), rfl, ((if_pos (Or.inr (Or.inr (Or.inr (Or.inr (Int32.not_le.mp c25))))))).symm, by rw [ht]; exact hP9, va_K.moved hW.alike hK, hD9⟩, hS.F ht⟩) hS.2.2 dX1_start_29
