set_option maxHeartbeats 4000000 in
set_option maxRecDepth 100000 in
theorem cX2_down_ok (l : Launch) (dC : Nat → ClassId) (dI : Nat → Nat → Nat) (cA : ClassId) (tb : Nat → Nat) (sz : Nat) (w : Int32) (k : Int32) : Met l yX2_down wsX2_down ({ frames := 0, cells := 0, slots := 0, locals := 0 }) (va_Pc [.int w, .int k] (kd_I (dC, dI) cA tb sz [])) (va_Qi (fun (r : Int32) (u : Unit) => r = kd_rot w k) (fun u t => kd_O (dC, dI) cA (va_A [] sz) [] t) (va_A [] sz)) 0 0 (va_A [] sz) := by
  refine Met.ofW (cc := cX2_down) (maxL := 2) (ret := (some .int)) (by decide) rfl ?_
  intro p e s m args below meth c s₁ B hml hv
  obtain ⟨rfl, hsz, hP, hK, hD0, hT⟩ := hv
  have hx := B.exec
  have hb := B.bytes
  have hr := B.returns
  have hts := atoms_spec (ws := wsX2_down) B.pre
  have hown : s.vm.findClass RX2 = some m.cls := findClass_of_methodNamed B.named
  have hlocks := B.notSynchronized
  subst hsz
  have hD := hD0.self (sz := s.heap.size)
  generalize hAe : va_A [] s.heap.size = A at hD hT ⊢
  have hA : ∀ q : Nat, s.heap.size ≤ q → A q := fun q h => by rw [← hAe]; exact Or.inr h
  have hS : va_S A s.heap s.heap [] := va_S.rf
  have hP : va_P (dC, dI) vwCl [] s.heap := hP
  have hl := lv_entry ([.int w, .int k]) (n := 2) (Nat.le_of_ble_eq_true rfl)
  rw [lg_entry_eq]
  generalize (lg_sl ([.int w, .int k]) ++ List.replicate (2 - (lg_sl ([.int w, .int k])).length) Slot.unset).toArray = ls at hl ⊢
  have hl : lv_has ls 2 [(0, .int w), (1, .int k)] := hl
  refine lv_iload_n hx hb dX2_down_0 rfl (lv_at hl 0 rfl) ?_
  refine lv_iload_n hx hb dX2_down_1 rfl (lv_at hl 1 rfl) ?_
  refine lv_iushr (v := kd_ushr w k) hx hb dX2_down_2 rfl ?_
  refine lv_iload_n hx hb dX2_down_3 rfl (lv_at hl 0 rfl) ?_
  refine lv_bipush (v := 32) hx hb dX2_down_4 (by decide) ?_
  refine lv_iload_n hx hb dX2_down_6 rfl (lv_at hl 1 rfl) ?_
  refine lv_isub hx hb dX2_down_7 ?_
  refine lv_ishl hx hb dX2_down_8 ?_
  refine lv_ior hx hb dX2_down_9 ?_
  have hP9 := hP.sub (ws' := []) [] rfl
  have hD9 := hD.sub (ws' := []) [] (by decide) rfl
  exact W.iret (v := (kd_ushr w k) ||| (w <<< ((32 - k) &&& 31))) hx hb hr (fun t ht hW => ⟨⟨(kd_ushr w k) ||| (w <<< ((32 - k) &&& 31)), (), rfl, rfl, by rw [ht]; exact hP9, va_K.moved hW.alike hK, hD9⟩, hS.F ht⟩) hS.2.2 dX2_down_10

set_option maxHeartbeats 4000000 in
set_option maxRecDepth 100000 in
theorem cX2_first_ok (l : Launch) (dC : Nat → ClassId) (dI : Nat → Nat → Nat) (cA : ClassId) (tb : Nat → Nat) (sz : Nat) (j : Nat) (hj : j < 8) : Met l yX2_first wsX2_first ({ frames := 0, cells := 0, slots := 0, locals := 0 }) (va_Pc [.int (nI j)] (kd_I (dC, dI) cA tb sz [])) (va_Qi (fun (r : Int32) (u : Unit) => r = kd_iv j) (fun u t => kd_O (dC, dI) cA (va_A [] sz) [] t) (va_A [] sz)) 0 0 (va_A [] sz) := by
  refine Met.ofW (cc := cX2_first) (maxL := 1) (ret := (some .int)) (by decide) rfl ?_
  intro p e s m args below meth c s₁ B hml hv
  obtain ⟨rfl, hsz, hP, hK, hD0, hT⟩ := hv
  have hx := B.exec
  have hb := B.bytes
  have hr := B.returns
  have hts := atoms_spec (ws := wsX2_first) B.pre
  have hown : s.vm.findClass RX2 = some m.cls := findClass_of_methodNamed B.named
  have hlocks := B.notSynchronized
  have k0 := hts (.constant RX2 38 1779033703) (by decide +kernel)
  have k1 := hts (.constant RX2 39 (-1150833019)) (by decide +kernel)
  have k2 := hts (.constant RX2 40 1013904242) (by decide +kernel)
  have k3 := hts (.constant RX2 41 (-1521486534)) (by decide +kernel)
  have k4 := hts (.constant RX2 42 1359893119) (by decide +kernel)
  have k5 := hts (.constant RX2 43 (-1694144372)) (by decide +kernel)
  have k6 := hts (.constant RX2 44 528734635) (by decide +kernel)
  have k7 := hts (.constant RX2 45 1541459225) (by decide +kernel)
  subst hsz
  have hD := hD0.self (sz := s.heap.size)
  generalize hAe : va_A [] s.heap.size = A at hD hT ⊢
  have hA : ∀ q : Nat, s.heap.size ≤ q → A q := fun q h => by rw [← hAe]; exact Or.inr h
  have hS : va_S A s.heap s.heap [] := va_S.rf
  have hP : va_P (dC, dI) vwCl [] s.heap := hP
  have hl := lv_entry ([.int (nI j)]) (n := 1) (Nat.le_of_ble_eq_true rfl)
  rw [lg_entry_eq]
  generalize (lg_sl ([.int (nI j)]) ++ List.replicate (1 - (lg_sl ([.int (nI j)])).length) Slot.unset).toArray = ls at hl ⊢
  have hl : lv_has ls 1 [(0, .int (nI j))] := hl
  refine lv_iload_n hx hb dX2_first_0 rfl (lv_at hl 0 rfl) ?_
  rcases (show j = 0 ∨ j = 1 ∨ j = 2 ∨ j = 3 ∨ j = 4 ∨ j = 5 ∨ j = 6 ∨ j = 7 by omega) with rfl | rfl | rfl | rfl | rfl | rfl | rfl | rfl
  · refine lv_tableIn (tgt := 44) hx hb dX2_first_1 (by decide) (by decide) rfl (by decide) ?_
    refine lv_ldc (v := 1779033703) hx hb hown k0 dX2_first_44 ?_
    have hP9 := hP.sub (ws' := []) [] rfl
    have hD9 := hD.sub (ws' := []) [] (by decide) rfl
    exact W.iret (v := 1779033703) hx hb hr (fun t ht hW => ⟨⟨1779033703, (), rfl, rfl, by rw [ht]; exact hP9, va_K.moved hW.alike hK, hD9⟩, hS.F ht⟩) hS.2.2 dX2_first_46
  · refine lv_tableIn (tgt := 47) hx hb dX2_first_1 (by decide) (by decide) rfl (by decide) ?_
    refine lv_ldc (v := (-1150833019)) hx hb hown k1 dX2_first_47 ?_
    have hP9 := hP.sub (ws' := []) [] rfl
    have hD9 := hD.sub (ws' := []) [] (by decide) rfl
    exact W.iret (v := (-1150833019)) hx hb hr (fun t ht hW => ⟨⟨(-1150833019), (), rfl, rfl, by rw [ht]; exact hP9, va_K.moved hW.alike hK, hD9⟩, hS.F ht⟩) hS.2.2 dX2_first_49
  · refine lv_tableIn (tgt := 50) hx hb dX2_first_1 (by decide) (by decide) rfl (by decide) ?_
    refine lv_ldc (v := 1013904242) hx hb hown k2 dX2_first_50 ?_
    have hP9 := hP.sub (ws' := []) [] rfl
    have hD9 := hD.sub (ws' := []) [] (by decide) rfl
    exact W.iret (v := 1013904242) hx hb hr (fun t ht hW => ⟨⟨1013904242, (), rfl, rfl, by rw [ht]; exact hP9, va_K.moved hW.alike hK, hD9⟩, hS.F ht⟩) hS.2.2 dX2_first_52
  · refine lv_tableIn (tgt := 53) hx hb dX2_first_1 (by decide) (by decide) rfl (by decide) ?_
    refine lv_ldc (v := (-1521486534)) hx hb hown k3 dX2_first_53 ?_
    have hP9 := hP.sub (ws' := []) [] rfl
    have hD9 := hD.sub (ws' := []) [] (by decide) rfl
    exact W.iret (v := (-1521486534)) hx hb hr (fun t ht hW => ⟨⟨(-1521486534), (), rfl, rfl, by rw [ht]; exact hP9, va_K.moved hW.alike hK, hD9⟩, hS.F ht⟩) hS.2.2 dX2_first_55
  · refine lv_tableIn (tgt := 56) hx hb dX2_first_1 (by decide) (by decide) rfl (by decide) ?_
    refine lv_ldc (v := 1359893119) hx hb hown k4 dX2_first_56 ?_
    have hP9 := hP.sub (ws' := []) [] rfl
    have hD9 := hD.sub (ws' := []) [] (by decide) rfl
    exact W.iret (v := 1359893119) hx hb hr (fun t ht hW => ⟨⟨1359893119, (), rfl, rfl, by rw [ht]; exact hP9, va_K.moved hW.alike hK, hD9⟩, hS.F ht⟩) hS.2.2 dX2_first_58
  · refine lv_tableIn (tgt := 59) hx hb dX2_first_1 (by decide) (by decide) rfl (by decide) ?_
    refine lv_ldc (v := (-1694144372)) hx hb hown k5 dX2_first_59 ?_
    have hP9 := hP.sub (ws' := []) [] rfl
    have hD9 := hD.sub (ws' := []) [] (by decide) rfl
    exact W.iret (v := (-1694144372)) hx hb hr (fun t ht hW => ⟨⟨(-1694144372), (), rfl, rfl, by rw [ht]; exact hP9, va_K.moved hW.alike hK, hD9⟩, hS.F ht⟩) hS.2.2 dX2_first_61
  · refine lv_tableIn (tgt := 62) hx hb dX2_first_1 (by decide) (by decide) rfl (by decide) ?_
    refine lv_ldc (v := 528734635) hx hb hown k6 dX2_first_62 ?_
    have hP9 := hP.sub (ws' := []) [] rfl
    have hD9 := hD.sub (ws' := []) [] (by decide) rfl
    exact W.iret (v := 528734635) hx hb hr (fun t ht hW => ⟨⟨528734635, (), rfl, rfl, by rw [ht]; exact hP9, va_K.moved hW.alike hK, hD9⟩, hS.F ht⟩) hS.2.2 dX2_first_64
  · refine lv_tableOut (tgt := 65) hx hb dX2_first_1 (by decide) (by decide) ?_
    refine lv_ldc (v := 1541459225) hx hb hown k7 dX2_first_65 ?_
    have hP9 := hP.sub (ws' := []) [] rfl
    have hD9 := hD.sub (ws' := []) [] (by decide) rfl
    exact W.iret (v := 1541459225) hx hb hr (fun t ht hW => ⟨⟨1541459225, (), rfl, rfl, by rw [ht]; exact hP9, va_K.moved hW.alike hK, hD9⟩, hS.F ht⟩) hS.2.2 dX2_first_67

set_option maxHeartbeats 4000000 in
set_option maxRecDepth 100000 in
theorem cX2_g_ok (l : Launch) (dC : Nat → ClassId) (dI : Nat → Nat → Nat) (cA : ClassId) (tb : Nat → Nat) (sz : Nat) (h0 : Nat) (qk : Nat) (qh : Nat) (qv : Nat) (qm : Nat) (qb : Nat) (qr : Nat) (rd : Int32) (op : Int32) (dn : Int32) (vv : Nat → Int32) (mx : Int64) (ln : Int32) (nn : Int32) (bb : Int32) (na : Nat) (nb : Nat) (nc : Nat) (nd : Nat) (wx : Int32) (wy : Int32) (hna : na < 16) (hnb : nb < 16) (hnc : nc < 16) (hnd : nd < 16) : Met l yX2_g wsX2_g ({ frames := 1, cells := 0, slots := 0, locals := 21 }) (va_Pc [.ref h0, .int (nI na), .int (nI nb), .int (nI nc), .int (nI nd), .int wx, .int wy] (kd_I (dC, dI) cA tb sz [(h0, .inr (2, [.int rd, .int op, .int dn, .ref qk, .ref qh, .ref qv, .ref qm, .ref qb, .int bb, .long mx, .int ln, .int nn, .ref qr])), (qv, .inl (cA, 16, .inl vv))])) (va_Qv (fun (u : (Nat → Int32)) => u = kd_G na nb nc nd wx wy vv) (fun u t => kd_O (dC, dI) cA (va_A [(h0, .inr (2, [.int rd, .int op, .int dn, .ref qk, .ref qh, .ref qv, .ref qm, .ref qb, .int bb, .long mx, .int ln, .int nn, .ref qr])), (qv, .inl (cA, 16, .inl vv))] sz) [(h0, .inr (2, [.int rd, .int op, .int dn, .ref qk, .ref qh, .ref qv, .ref qm, .ref qb, .int bb, .long mx, .int ln, .int nn, .ref qr])), (qv, .inl (cA, 16, .inl u))] t) (va_A [(h0, .inr (2, [.int rd, .int op, .int dn, .ref qk, .ref qh, .ref qv, .ref qm, .ref qb, .int bb, .long mx, .int ln, .int nn, .ref qr])), (qv, .inl (cA, 16, .inl vv))] sz)) 0 0 (va_A [(h0, .inr (2, [.int rd, .int op, .int dn, .ref qk, .ref qh, .ref qv, .ref qm, .ref qb, .int bb, .long mx, .int ln, .int nn, .ref qr])), (qv, .inl (cA, 16, .inl vv))] sz) := by
  refine Met.ofW (cc := cX2_g) (maxL := 7) (ret := none) (by decide) rfl ?_
  intro p e s m args below meth c s₁ B hml hv
  obtain ⟨rfl, hsz, hP, hK, hD0, hT⟩ := hv
  have hx := B.exec
  have hb := B.bytes
  have hr := B.returns
  have hts := atoms_spec (ws := wsX2_g) B.pre
  have hown : s.vm.findClass RX2 = some m.cls := findClass_of_methodNamed B.named
  have hlocks := B.notSynchronized
  have ki2 : ∀ w ∈ u_ws RX2 TX2 13, w ∈ wsX2_g := by decide +kernel
  have k1 := hts (.fieldLink RX2 16 "KeyedDigestModel" "v" "[I") (by decide +kernel)
  subst hsz
  have hD := hD0.self (sz := s.heap.size)
  generalize hAe : va_A [(h0, .inr (2, [.int rd, .int op, .int dn, .ref qk, .ref qh, .ref qv, .ref qm, .ref qb, .int bb, .long mx, .int ln, .int nn, .ref qr])), (qv, .inl (cA, 16, .inl vv))] s.heap.size = A at hD hT ⊢
  have hA : ∀ q : Nat, s.heap.size ≤ q → A q := fun q h => by rw [← hAe]; exact Or.inr h
  have hS : va_S A s.heap s.heap [] := va_S.rf
  have hP : va_P (dC, dI) vwCl [(h0, .inr (2, [.int rd, .int op, .int dn, .ref qk, .ref qh, .ref qv, .ref qm, .ref qb, .int bb, .long mx, .int ln, .int nn, .ref qr])), (qv, .inl (cA, 16, .inl vv))] s.heap := hP
  have hl := lv_entry ([.ref h0, .int (nI na), .int (nI nb), .int (nI nc), .int (nI nd), .int wx, .int wy]) (n := 7) (Nat.le_of_ble_eq_true rfl)
  rw [lg_entry_eq]
  generalize (lg_sl ([.ref h0, .int (nI na), .int (nI nb), .int (nI nc), .int (nI nd), .int wx, .int wy]) ++ List.replicate (7 - (lg_sl ([.ref h0, .int (nI na), .int (nI nb), .int (nI nc), .int (nI nd), .int wx, .int wy])).length) Slot.unset).toArray = ls at hl ⊢
  have hl : lv_has ls 7 [(0, .ref h0), (1, .int (nI na)), (2, .int (nI nb)), (3, .int (nI nc)), (4, .int (nI nd)), (5, .int wx), (6, .int wy)] := hl
  refine lv_aload_n hx hb dX2_g_0 rfl (lv_at hl 0 rfl) ?_
  refine va_get (D := (dC, dI)) (ci := 2) (v := .ref qv) (C := RX2) (T := TX2) (N := 13) hx hb hts ki2 hown hK hP 0 rfl rfl 5 (by decide) k1 (fun _ h9 => h9) rfl dX2_g_1 ?_
  refine lv_iload_n hx hb dX2_g_4 rfl (lv_at hl 1 rfl) ?_
  refine lv_aload_n hx hb dX2_g_5 rfl (lv_at hl 0 rfl) ?_
  refine va_get (D := (dC, dI)) (ci := 2) (v := .ref qv) (C := RX2) (T := TX2) (N := 13) hx hb hts ki2 hown hK hP 0 rfl rfl 5 (by decide) k1 (fun _ h9 => h9) rfl dX2_g_6 ?_
  refine lv_iload_n hx hb dX2_g_9 rfl (lv_at hl 1 rfl) ?_
  refine kd_ild na hx hb hK hP 1 0 rfl rfl rfl (by omega) (by decide) dX2_g_10 ?_
  refine lv_aload_n hx hb dX2_g_11 rfl (lv_at hl 0 rfl) ?_
  refine va_get (D := (dC, dI)) (ci := 2) (v := .ref qv) (C := RX2) (T := TX2) (N := 13) hx hb hts ki2 hown hK hP 0 rfl rfl 5 (by decide) k1 (fun _ h9 => h9) rfl dX2_g_12 ?_
  refine lv_iload_n hx hb dX2_g_15 rfl (lv_at hl 2 rfl) ?_
  refine kd_ild nb hx hb hK hP 1 0 rfl rfl rfl (by omega) (by decide) dX2_g_16 ?_
  refine lv_iadd hx hb dX2_g_17 ?_
  refine lv_iload hx hb dX2_g_18 (lv_at hl 5 rfl) ?_
  refine lv_iadd hx hb dX2_g_20 ?_
  refine lv_topi (fun x21 ex21 => ?_)
  refine kd_ist na hx hb hK hP hD hS 1 0 rfl rfl rfl (by omega) (by decide) dX2_g_21 (fun f21 ef21 H locs hP hD hS => ?_)
  have hP : va_P (dC, dI) vwCl [(h0, .inr (2, [.int rd, .int op, .int dn, .ref qk, .ref qh, .ref qv, .ref qm, .ref qb, .int bb, .long mx, .int ln, .int nn, .ref qr])), (qv, .inl (cA, 16, .inl f21))] H := hP
  have hD : va_D A [(h0, .inr (2, [.int rd, .int op, .int dn, .ref qk, .ref qh, .ref qv, .ref qm, .ref qb, .int bb, .long mx, .int ln, .int nn, .ref qr])), (qv, .inl (cA, 16, .inl f21))] := hD
  refine lv_aload_n hx hb dX2_g_22 rfl (lv_at hl 0 rfl) ?_
  refine va_get (D := (dC, dI)) (ci := 2) (v := .ref qv) (C := RX2) (T := TX2) (N := 13) hx hb hts ki2 hown hK hP 0 rfl rfl 5 (by decide) k1 (fun _ h9 => h9) rfl dX2_g_23 ?_
  refine lv_iload hx hb dX2_g_26 (lv_at hl 4 rfl) ?_
  refine lv_aload_n hx hb dX2_g_28 rfl (lv_at hl 0 rfl) ?_
  refine va_get (D := (dC, dI)) (ci := 2) (v := .ref qv) (C := RX2) (T := TX2) (N := 13) hx hb hts ki2 hown hK hP 0 rfl rfl 5 (by decide) k1 (fun _ h9 => h9) rfl dX2_g_29 ?_
  refine lv_iload hx hb dX2_g_32 (lv_at hl 4 rfl) ?_
  refine kd_ild nd hx hb hK hP 1 0 rfl rfl rfl (by omega) (by decide) dX2_g_34 ?_
  refine lv_aload_n hx hb dX2_g_35 rfl (lv_at hl 0 rfl) ?_
  refine va_get (D := (dC, dI)) (ci := 2) (v := .ref qv) (C := RX2) (T := TX2) (N := 13) hx hb hts ki2 hown hK hP 0 rfl rfl 5 (by decide) k1 (fun _ h9 => h9) rfl dX2_g_36 ?_
  refine lv_iload_n hx hb dX2_g_39 rfl (lv_at hl 1 rfl) ?_
  refine kd_ild na hx hb hK hP 1 0 rfl rfl rfl (by omega) (by decide) dX2_g_40 ?_
  refine lv_ixor hx hb dX2_g_41 ?_
  refine lv_bipush (v := 16) hx hb dX2_g_42 (by decide) ?_
  have hPc := hP.sub (ws' := []) [] rfl
  have hDc := hD.sub (ws' := []) [] (by decide) rfl
  have hFc := va_free (wc := []) hD hS hA [] rfl
  refine va_calli (va_runS (As := [.int ((f21 nd) ^^^ (f21 na)), .int 16]) (rest := [.int (nI nd), .ref qv]) ⟨hx, hb, hml, hown, hts⟩ (cX2_down_ok l dC dI cA tb H.size ((f21 nd) ^^^ (f21 na)) 16 ) (va_cwS 2 hts gX2_g_X2_down rfl rfl rfl (by decide +kernel) ⟨Nat.le_of_ble_eq_true rfl, Nat.le_of_ble_eq_true rfl⟩) ⟨fun a U g mk q => kd_calling rfl rfl q, fun U hU hW => ⟨rfl, kd_pre hPc hK hDc hT hS hFc U hU hW⟩⟩ rfl rfl hl.1 rfl (lv_room (Nat.le_of_ble_eq_true rfl)) dX2_g_44 ⟨Nat.le_of_ble_eq_true rfl, Nat.le_of_ble_eq_true rfl⟩) hS (fun q _ h => hFc q h) hFc (fun r44 u t H1 locs ht hvm hw hB hz1 hk1 hS => ?_)
  have hw44 : r44 = kd_rot ((f21 nd) ^^^ (f21 na)) 16 := hw
  have hP1 : va_P (dC, dI) vwCl [] H1 := by rw [← ht]; exact hB.1
  have hD1 : va_D (va_A [] H.size) [] := hB.2.2
  obtain ⟨hP, hD⟩ := va_join (wr := [(h0, .inr (2, [.int rd, .int op, .int dn, .ref qk, .ref qh, .ref qv, .ref qm, .ref qb, .int bb, .long mx, .int ln, .int nn, .ref qr])), (qv, .inl (cA, 16, .inl f21))]) (w1 := []) hP hD [] [0, 1] rfl rfl (by decide) (by decide) hk1 hFc hP1 hD1
  clear hw hB hk1 hPc hDc hFc hP1 hD1 hvm hz1
  generalize H1 = H at hP hS ⊢
  have hP : va_P (dC, dI) vwCl [(h0, .inr (2, [.int rd, .int op, .int dn, .ref qk, .ref qh, .ref qv, .ref qm, .ref qb, .int bb, .long mx, .int ln, .int nn, .ref qr])), (qv, .inl (cA, 16, .inl f21))] H := hP
  have hD : va_D A [(h0, .inr (2, [.int rd, .int op, .int dn, .ref qk, .ref qh, .ref qv, .ref qm, .ref qb, .int bb, .long mx, .int ln, .int nn, .ref qr])), (qv, .inl (cA, 16, .inl f21))] := hD
  refine kd_ist nd hx hb hK hP hD hS 1 0 rfl rfl rfl (by omega) (by decide) dX2_g_47 (fun f47 ef47 H locs hP hD hS => ?_)
  have hP : va_P (dC, dI) vwCl [(h0, .inr (2, [.int rd, .int op, .int dn, .ref qk, .ref qh, .ref qv, .ref qm, .ref qb, .int bb, .long mx, .int ln, .int nn, .ref qr])), (qv, .inl (cA, 16, .inl f47))] H := hP
  have hD : va_D A [(h0, .inr (2, [.int rd, .int op, .int dn, .ref qk, .ref qh, .ref qv, .ref qm, .ref qb, .int bb, .long mx, .int ln, .int nn, .ref qr])), (qv, .inl (cA, 16, .inl f47))] := hD
  refine lv_aload_n hx hb dX2_g_48 rfl (lv_at hl 0 rfl) ?_
  refine va_get (D := (dC, dI)) (ci := 2) (v := .ref qv) (C := RX2) (T := TX2) (N := 13) hx hb hts ki2 hown hK hP 0 rfl rfl 5 (by decide) k1 (fun _ h9 => h9) rfl dX2_g_49 ?_
  refine lv_iload_n hx hb dX2_g_52 rfl (lv_at hl 3 rfl) ?_
  refine lv_aload_n hx hb dX2_g_53 rfl (lv_at hl 0 rfl) ?_
  refine va_get (D := (dC, dI)) (ci := 2) (v := .ref qv) (C := RX2) (T := TX2) (N := 13) hx hb hts ki2 hown hK hP 0 rfl rfl 5 (by decide) k1 (fun _ h9 => h9) rfl dX2_g_54 ?_
  refine lv_iload_n hx hb dX2_g_57 rfl (lv_at hl 3 rfl) ?_
  refine kd_ild nc hx hb hK hP 1 0 rfl rfl rfl (by omega) (by decide) dX2_g_58 ?_
  refine lv_aload_n hx hb dX2_g_59 rfl (lv_at hl 0 rfl) ?_
  refine va_get (D := (dC, dI)) (ci := 2) (v := .ref qv) (C := RX2) (T := TX2) (N := 13) hx hb hts ki2 hown hK hP 0 rfl rfl 5 (by decide) k1 (fun _ h9 => h9) rfl dX2_g_60 ?_
  refine lv_iload hx hb dX2_g_63 (lv_at hl 4 rfl) ?_
  refine kd_ild nd hx hb hK hP 1 0 rfl rfl rfl (by omega) (by decide) dX2_g_65 ?_
  refine lv_iadd hx hb dX2_g_66 ?_
  refine lv_topi (fun x67 ex67 => ?_)
  refine kd_ist nc hx hb hK hP hD hS 1 0 rfl rfl rfl (by omega) (by decide) dX2_g_67 (fun f67 ef67 H locs hP hD hS => ?_)
  have hP : va_P (dC, dI) vwCl [(h0, .inr (2, [.int rd, .int op, .int dn, .ref qk, .ref qh, .ref qv, .ref qm, .ref qb, .int bb, .long mx, .int ln, .int nn, .ref qr])), (qv, .inl (cA, 16, .inl f67))] H := hP
  have hD : va_D A [(h0, .inr (2, [.int rd, .int op, .int dn, .ref qk, .ref qh, .ref qv, .ref qm, .ref qb, .int bb, .long mx, .int ln, .int nn, .ref qr])), (qv, .inl (cA, 16, .inl f67))] := hD
  refine lv_aload_n hx hb dX2_g_68 rfl (lv_at hl 0 rfl) ?_
  refine va_get (D := (dC, dI)) (ci := 2) (v := .ref qv) (C := RX2) (T := TX2) (N := 13) hx hb hts ki2 hown hK hP 0 rfl rfl 5 (by decide) k1 (fun _ h9 => h9) rfl dX2_g_69 ?_
  refine lv_iload_n hx hb dX2_g_72 rfl (lv_at hl 2 rfl) ?_
  refine lv_aload_n hx hb dX2_g_73 rfl (lv_at hl 0 rfl) ?_
  refine va_get (D := (dC, dI)) (ci := 2) (v := .ref qv) (C := RX2) (T := TX2) (N := 13) hx hb hts ki2 hown hK hP 0 rfl rfl 5 (by decide) k1 (fun _ h9 => h9) rfl dX2_g_74 ?_
  refine lv_iload_n hx hb dX2_g_77 rfl (lv_at hl 2 rfl) ?_
  refine kd_ild nb hx hb hK hP 1 0 rfl rfl rfl (by omega) (by decide) dX2_g_78 ?_
  refine lv_aload_n hx hb dX2_g_79 rfl (lv_at hl 0 rfl) ?_
  refine va_get (D := (dC, dI)) (ci := 2) (v := .ref qv) (C := RX2) (T := TX2) (N := 13) hx hb hts ki2 hown hK hP 0 rfl rfl 5 (by decide) k1 (fun _ h9 => h9) rfl dX2_g_80 ?_
  refine lv_iload_n hx hb dX2_g_83 rfl (lv_at hl 3 rfl) ?_
  refine kd_ild nc hx hb hK hP 1 0 rfl rfl rfl (by omega) (by decide) dX2_g_84 ?_
  refine lv_ixor hx hb dX2_g_85 ?_
  refine lv_bipush (v := 12) hx hb dX2_g_86 (by decide) ?_
  have hPc := hP.sub (ws' := []) [] rfl
  have hDc := hD.sub (ws' := []) [] (by decide) rfl
  have hFc := va_free (wc := []) hD hS hA [] rfl
  refine va_calli (va_runS (As := [.int ((f67 nb) ^^^ (f67 nc)), .int 12]) (rest := [.int (nI nb), .ref qv]) ⟨hx, hb, hml, hown, hts⟩ (cX2_down_ok l dC dI cA tb H.size ((f67 nb) ^^^ (f67 nc)) 12 ) (va_cwS 2 hts gX2_g_X2_down rfl rfl rfl (by decide +kernel) ⟨Nat.le_of_ble_eq_true rfl, Nat.le_of_ble_eq_true rfl⟩) ⟨fun a U g mk q => kd_calling rfl rfl q, fun U hU hW => ⟨rfl, kd_pre hPc hK hDc hT hS hFc U hU hW⟩⟩ rfl rfl hl.1 rfl (lv_room (Nat.le_of_ble_eq_true rfl)) dX2_g_88 ⟨Nat.le_of_ble_eq_true rfl, Nat.le_of_ble_eq_true rfl⟩) hS (fun q _ h => hFc q h) hFc (fun r88 u t H1 locs ht hvm hw hB hz1 hk1 hS => ?_)
  have hw88 : r88 = kd_rot ((f67 nb) ^^^ (f67 nc)) 12 := hw
  have hP1 : va_P (dC, dI) vwCl [] H1 := by rw [← ht]; exact hB.1
  have hD1 : va_D (va_A [] H.size) [] := hB.2.2
  obtain ⟨hP, hD⟩ := va_join (wr := [(h0, .inr (2, [.int rd, .int op, .int dn, .ref qk, .ref qh, .ref qv, .ref qm, .ref qb, .int bb, .long mx, .int ln, .int nn, .ref qr])), (qv, .inl (cA, 16, .inl f67))]) (w1 := []) hP hD [] [0, 1] rfl rfl (by decide) (by decide) hk1 hFc hP1 hD1
  clear hw hB hk1 hPc hDc hFc hP1 hD1 hvm hz1
  generalize H1 = H at hP hS ⊢
  have hP : va_P (dC, dI) vwCl [(h0, .inr (2, [.int rd, .int op, .int dn, .ref qk, .ref qh, .ref qv, .ref qm, .ref qb, .int bb, .long mx, .int ln, .int nn, .ref qr])), (qv, .inl (cA, 16, .inl f67))] H := hP
  have hD : va_D A [(h0, .inr (2, [.int rd, .int op, .int dn, .ref qk, .ref qh, .ref qv, .ref qm, .ref qb, .int bb, .long mx, .int ln, .int nn, .ref qr])), (qv, .inl (cA, 16, .inl f67))] := hD
  refine kd_ist nb hx hb hK hP hD hS 1 0 rfl rfl rfl (by omega) (by decide) dX2_g_91 (fun f91 ef91 H locs hP hD hS => ?_)
  have hP : va_P (dC, dI) vwCl [(h0, .inr (2, [.int rd, .int op, .int dn, .ref qk, .ref qh, .ref qv, .ref qm, .ref qb, .int bb, .long mx, .int ln, .int nn, .ref qr])), (qv, .inl (cA, 16, .inl f91))] H := hP
  have hD : va_D A [(h0, .inr (2, [.int rd, .int op, .int dn, .ref qk, .ref qh, .ref qv, .ref qm, .ref qb, .int bb, .long mx, .int ln, .int nn, .ref qr])), (qv, .inl (cA, 16, .inl f91))] := hD
  refine lv_aload_n hx hb dX2_g_92 rfl (lv_at hl 0 rfl) ?_
  refine va_get (D := (dC, dI)) (ci := 2) (v := .ref qv) (C := RX2) (T := TX2) (N := 13) hx hb hts ki2 hown hK hP 0 rfl rfl 5 (by decide) k1 (fun _ h9 => h9) rfl dX2_g_93 ?_
  refine lv_iload_n hx hb dX2_g_96 rfl (lv_at hl 1 rfl) ?_
  refine lv_aload_n hx hb dX2_g_97 rfl (lv_at hl 0 rfl) ?_
  refine va_get (D := (dC, dI)) (ci := 2) (v := .ref qv) (C := RX2) (T := TX2) (N := 13) hx hb hts ki2 hown hK hP 0 rfl rfl 5 (by decide) k1 (fun _ h9 => h9) rfl dX2_g_98 ?_
  refine lv_iload_n hx hb dX2_g_101 rfl (lv_at hl 1 rfl) ?_
  refine kd_ild na hx hb hK hP 1 0 rfl rfl rfl (by omega) (by decide) dX2_g_102 ?_
  refine lv_aload_n hx hb dX2_g_103 rfl (lv_at hl 0 rfl) ?_
  refine va_get (D := (dC, dI)) (ci := 2) (v := .ref qv) (C := RX2) (T := TX2) (N := 13) hx hb hts ki2 hown hK hP 0 rfl rfl 5 (by decide) k1 (fun _ h9 => h9) rfl dX2_g_104 ?_
  refine lv_iload_n hx hb dX2_g_107 rfl (lv_at hl 2 rfl) ?_
  refine kd_ild nb hx hb hK hP 1 0 rfl rfl rfl (by omega) (by decide) dX2_g_108 ?_
  refine lv_iadd hx hb dX2_g_109 ?_
  refine lv_iload hx hb dX2_g_110 (lv_at hl 6 rfl) ?_
  refine lv_iadd hx hb dX2_g_112 ?_
  refine lv_topi (fun x113 ex113 => ?_)
  refine kd_ist na hx hb hK hP hD hS 1 0 rfl rfl rfl (by omega) (by decide) dX2_g_113 (fun f113 ef113 H locs hP hD hS => ?_)
  have hP : va_P (dC, dI) vwCl [(h0, .inr (2, [.int rd, .int op, .int dn, .ref qk, .ref qh, .ref qv, .ref qm, .ref qb, .int bb, .long mx, .int ln, .int nn, .ref qr])), (qv, .inl (cA, 16, .inl f113))] H := hP
  have hD : va_D A [(h0, .inr (2, [.int rd, .int op, .int dn, .ref qk, .ref qh, .ref qv, .ref qm, .ref qb, .int bb, .long mx, .int ln, .int nn, .ref qr])), (qv, .inl (cA, 16, .inl f113))] := hD
  refine lv_aload_n hx hb dX2_g_114 rfl (lv_at hl 0 rfl) ?_
  refine va_get (D := (dC, dI)) (ci := 2) (v := .ref qv) (C := RX2) (T := TX2) (N := 13) hx hb hts ki2 hown hK hP 0 rfl rfl 5 (by decide) k1 (fun _ h9 => h9) rfl dX2_g_115 ?_
  refine lv_iload hx hb dX2_g_118 (lv_at hl 4 rfl) ?_
  refine lv_aload_n hx hb dX2_g_120 rfl (lv_at hl 0 rfl) ?_
  refine va_get (D := (dC, dI)) (ci := 2) (v := .ref qv) (C := RX2) (T := TX2) (N := 13) hx hb hts ki2 hown hK hP 0 rfl rfl 5 (by decide) k1 (fun _ h9 => h9) rfl dX2_g_121 ?_
  refine lv_iload hx hb dX2_g_124 (lv_at hl 4 rfl) ?_
  refine kd_ild nd hx hb hK hP 1 0 rfl rfl rfl (by omega) (by decide) dX2_g_126 ?_
  refine lv_aload_n hx hb dX2_g_127 rfl (lv_at hl 0 rfl) ?_
  refine va_get (D := (dC, dI)) (ci := 2) (v := .ref qv) (C := RX2) (T := TX2) (N := 13) hx hb hts ki2 hown hK hP 0 rfl rfl 5 (by decide) k1 (fun _ h9 => h9) rfl dX2_g_128 ?_
  refine lv_iload_n hx hb dX2_g_131 rfl (lv_at hl 1 rfl) ?_
  refine kd_ild na hx hb hK hP 1 0 rfl rfl rfl (by omega) (by decide) dX2_g_132 ?_
  refine lv_ixor hx hb dX2_g_133 ?_
  refine lv_bipush (v := 8) hx hb dX2_g_134 (by decide) ?_
  have hPc := hP.sub (ws' := []) [] rfl
  have hDc := hD.sub (ws' := []) [] (by decide) rfl
  have hFc := va_free (wc := []) hD hS hA [] rfl
  refine va_calli (va_runS (As := [.int ((f113 nd) ^^^ (f113 na)), .int 8]) (rest := [.int (nI nd), .ref qv]) ⟨hx, hb, hml, hown, hts⟩ (cX2_down_ok l dC dI cA tb H.size ((f113 nd) ^^^ (f113 na)) 8 ) (va_cwS 2 hts gX2_g_X2_down rfl rfl rfl (by decide +kernel) ⟨Nat.le_of_ble_eq_true rfl, Nat.le_of_ble_eq_true rfl⟩) ⟨fun a U g mk q => kd_calling rfl rfl q, fun U hU hW => ⟨rfl, kd_pre hPc hK hDc hT hS hFc U hU hW⟩⟩ rfl rfl hl.1 rfl (lv_room (Nat.le_of_ble_eq_true rfl)) dX2_g_136 ⟨Nat.le_of_ble_eq_true rfl, Nat.le_of_ble_eq_true rfl⟩) hS (fun q _ h => hFc q h) hFc (fun r136 u t H1 locs ht hvm hw hB hz1 hk1 hS => ?_)
  have hw136 : r136 = kd_rot ((f113 nd) ^^^ (f113 na)) 8 := hw
  have hP1 : va_P (dC, dI) vwCl [] H1 := by rw [← ht]; exact hB.1
  have hD1 : va_D (va_A [] H.size) [] := hB.2.2
  obtain ⟨hP, hD⟩ := va_join (wr := [(h0, .inr (2, [.int rd, .int op, .int dn, .ref qk, .ref qh, .ref qv, .ref qm, .ref qb, .int bb, .long mx, .int ln, .int nn, .ref qr])), (qv, .inl (cA, 16, .inl f113))]) (w1 := []) hP hD [] [0, 1] rfl rfl (by decide) (by decide) hk1 hFc hP1 hD1
  clear hw hB hk1 hPc hDc hFc hP1 hD1 hvm hz1
  generalize H1 = H at hP hS ⊢
  have hP : va_P (dC, dI) vwCl [(h0, .inr (2, [.int rd, .int op, .int dn, .ref qk, .ref qh, .ref qv, .ref qm, .ref qb, .int bb, .long mx, .int ln, .int nn, .ref qr])), (qv, .inl (cA, 16, .inl f113))] H := hP
  have hD : va_D A [(h0, .inr (2, [.int rd, .int op, .int dn, .ref qk, .ref qh, .ref qv, .ref qm, .ref qb, .int bb, .long mx, .int ln, .int nn, .ref qr])), (qv, .inl (cA, 16, .inl f113))] := hD
  refine kd_ist nd hx hb hK hP hD hS 1 0 rfl rfl rfl (by omega) (by decide) dX2_g_139 (fun f139 ef139 H locs hP hD hS => ?_)
  have hP : va_P (dC, dI) vwCl [(h0, .inr (2, [.int rd, .int op, .int dn, .ref qk, .ref qh, .ref qv, .ref qm, .ref qb, .int bb, .long mx, .int ln, .int nn, .ref qr])), (qv, .inl (cA, 16, .inl f139))] H := hP
  have hD : va_D A [(h0, .inr (2, [.int rd, .int op, .int dn, .ref qk, .ref qh, .ref qv, .ref qm, .ref qb, .int bb, .long mx, .int ln, .int nn, .ref qr])), (qv, .inl (cA, 16, .inl f139))] := hD
  refine lv_aload_n hx hb dX2_g_140 rfl (lv_at hl 0 rfl) ?_
  refine va_get (D := (dC, dI)) (ci := 2) (v := .ref qv) (C := RX2) (T := TX2) (N := 13) hx hb hts ki2 hown hK hP 0 rfl rfl 5 (by decide) k1 (fun _ h9 => h9) rfl dX2_g_141 ?_
  refine lv_iload_n hx hb dX2_g_144 rfl (lv_at hl 3 rfl) ?_
  refine lv_aload_n hx hb dX2_g_145 rfl (lv_at hl 0 rfl) ?_
  refine va_get (D := (dC, dI)) (ci := 2) (v := .ref qv) (C := RX2) (T := TX2) (N := 13) hx hb hts ki2 hown hK hP 0 rfl rfl 5 (by decide) k1 (fun _ h9 => h9) rfl dX2_g_146 ?_
  refine lv_iload_n hx hb dX2_g_149 rfl (lv_at hl 3 rfl) ?_
  refine kd_ild nc hx hb hK hP 1 0 rfl rfl rfl (by omega) (by decide) dX2_g_150 ?_
  refine lv_aload_n hx hb dX2_g_151 rfl (lv_at hl 0 rfl) ?_
  refine va_get (D := (dC, dI)) (ci := 2) (v := .ref qv) (C := RX2) (T := TX2) (N := 13) hx hb hts ki2 hown hK hP 0 rfl rfl 5 (by decide) k1 (fun _ h9 => h9) rfl dX2_g_152 ?_
  refine lv_iload hx hb dX2_g_155 (lv_at hl 4 rfl) ?_
  refine kd_ild nd hx hb hK hP 1 0 rfl rfl rfl (by omega) (by decide) dX2_g_157 ?_
  refine lv_iadd hx hb dX2_g_158 ?_
  refine lv_topi (fun x159 ex159 => ?_)
  refine kd_ist nc hx hb hK hP hD hS 1 0 rfl rfl rfl (by omega) (by decide) dX2_g_159 (fun f159 ef159 H locs hP hD hS => ?_)
  have hP : va_P (dC, dI) vwCl [(h0, .inr (2, [.int rd, .int op, .int dn, .ref qk, .ref qh, .ref qv, .ref qm, .ref qb, .int bb, .long mx, .int ln, .int nn, .ref qr])), (qv, .inl (cA, 16, .inl f159))] H := hP
  have hD : va_D A [(h0, .inr (2, [.int rd, .int op, .int dn, .ref qk, .ref qh, .ref qv, .ref qm, .ref qb, .int bb, .long mx, .int ln, .int nn, .ref qr])), (qv, .inl (cA, 16, .inl f159))] := hD
  refine lv_aload_n hx hb dX2_g_160 rfl (lv_at hl 0 rfl) ?_
  refine va_get (D := (dC, dI)) (ci := 2) (v := .ref qv) (C := RX2) (T := TX2) (N := 13) hx hb hts ki2 hown hK hP 0 rfl rfl 5 (by decide) k1 (fun _ h9 => h9) rfl dX2_g_161 ?_
  refine lv_iload_n hx hb dX2_g_164 rfl (lv_at hl 2 rfl) ?_
  refine lv_aload_n hx hb dX2_g_165 rfl (lv_at hl 0 rfl) ?_
  refine va_get (D := (dC, dI)) (ci := 2) (v := .ref qv) (C := RX2) (T := TX2) (N := 13) hx hb hts ki2 hown hK hP 0 rfl rfl 5 (by decide) k1 (fun _ h9 => h9) rfl dX2_g_166 ?_
  refine lv_iload_n hx hb dX2_g_169 rfl (lv_at hl 2 rfl) ?_
  refine kd_ild nb hx hb hK hP 1 0 rfl rfl rfl (by omega) (by decide) dX2_g_170 ?_
  refine lv_aload_n hx hb dX2_g_171 rfl (lv_at hl 0 rfl) ?_
  refine va_get (D := (dC, dI)) (ci := 2) (v := .ref qv) (C := RX2) (T := TX2) (N := 13) hx hb hts ki2 hown hK hP 0 rfl rfl 5 (by decide) k1 (fun _ h9 => h9) rfl dX2_g_172 ?_
  refine lv_iload_n hx hb dX2_g_175 rfl (lv_at hl 3 rfl) ?_
  refine kd_ild nc hx hb hK hP 1 0 rfl rfl rfl (by omega) (by decide) dX2_g_176 ?_
  refine lv_ixor hx hb dX2_g_177 ?_
  refine lv_bipush (v := 7) hx hb dX2_g_178 (by decide) ?_
  have hPc := hP.sub (ws' := []) [] rfl
  have hDc := hD.sub (ws' := []) [] (by decide) rfl
  have hFc := va_free (wc := []) hD hS hA [] rfl
  refine va_calli (va_runS (As := [.int ((f159 nb) ^^^ (f159 nc)), .int 7]) (rest := [.int (nI nb), .ref qv]) ⟨hx, hb, hml, hown, hts⟩ (cX2_down_ok l dC dI cA tb H.size ((f159 nb) ^^^ (f159 nc)) 7 ) (va_cwS 2 hts gX2_g_X2_down rfl rfl rfl (by decide +kernel) ⟨Nat.le_of_ble_eq_true rfl, Nat.le_of_ble_eq_true rfl⟩) ⟨fun a U g mk q => kd_calling rfl rfl q, fun U hU hW => ⟨rfl, kd_pre hPc hK hDc hT hS hFc U hU hW⟩⟩ rfl rfl hl.1 rfl (lv_room (Nat.le_of_ble_eq_true rfl)) dX2_g_180 ⟨Nat.le_of_ble_eq_true rfl, Nat.le_of_ble_eq_true rfl⟩) hS (fun q _ h => hFc q h) hFc (fun r180 u t H1 locs ht hvm hw hB hz1 hk1 hS => ?_)
  have hw180 : r180 = kd_rot ((f159 nb) ^^^ (f159 nc)) 7 := hw
  have hP1 : va_P (dC, dI) vwCl [] H1 := by rw [← ht]; exact hB.1
  have hD1 : va_D (va_A [] H.size) [] := hB.2.2
  obtain ⟨hP, hD⟩ := va_join (wr := [(h0, .inr (2, [.int rd, .int op, .int dn, .ref qk, .ref qh, .ref qv, .ref qm, .ref qb, .int bb, .long mx, .int ln, .int nn, .ref qr])), (qv, .inl (cA, 16, .inl f159))]) (w1 := []) hP hD [] [0, 1] rfl rfl (by decide) (by decide) hk1 hFc hP1 hD1
  clear hw hB hk1 hPc hDc hFc hP1 hD1 hvm hz1
  generalize H1 = H at hP hS ⊢
  have hP : va_P (dC, dI) vwCl [(h0, .inr (2, [.int rd, .int op, .int dn, .ref qk, .ref qh, .ref qv, .ref qm, .ref qb, .int bb, .long mx, .int ln, .int nn, .ref qr])), (qv, .inl (cA, 16, .inl f159))] H := hP
  have hD : va_D A [(h0, .inr (2, [.int rd, .int op, .int dn, .ref qk, .ref qh, .ref qv, .ref qm, .ref qb, .int bb, .long mx, .int ln, .int nn, .ref qr])), (qv, .inl (cA, 16, .inl f159))] := hD
  refine kd_ist nb hx hb hK hP hD hS 1 0 rfl rfl rfl (by omega) (by decide) dX2_g_183 (fun f183 ef183 H locs hP hD hS => ?_)
  have hP : va_P (dC, dI) vwCl [(h0, .inr (2, [.int rd, .int op, .int dn, .ref qk, .ref qh, .ref qv, .ref qm, .ref qb, .int bb, .long mx, .int ln, .int nn, .ref qr])), (qv, .inl (cA, 16, .inl f183))] H := hP
  have hD : va_D A [(h0, .inr (2, [.int rd, .int op, .int dn, .ref qk, .ref qh, .ref qv, .ref qm, .ref qb, .int bb, .long mx, .int ln, .int nn, .ref qr])), (qv, .inl (cA, 16, .inl f183))] := hD
  have g1 : f21 = kd_g1 na nb (wx) vv := by rw [ef21, ex21]; rfl
  have g2 : f47 = kd_g2 nd na 16 f21 := by rw [ef47, hw44]; rfl
  have g3 : f67 = kd_g3 nc nd f47 := by rw [ef67, ex67]; rfl
  have g4 : f91 = kd_g2 nb nc 12 f67 := by rw [ef91, hw88]; rfl
  have g5 : f113 = kd_g1 na nb (wy) f91 := by rw [ef113, ex113]; rfl
  have g6 : f139 = kd_g2 nd na 8 f113 := by rw [ef139, hw136]; rfl
  have g7 : f159 = kd_g3 nc nd f139 := by rw [ef159, ex159]; rfl
  have g8 : f183 = kd_g2 nb nc 7 f159 := by rw [ef183, hw180]; rfl
  have hP9 := hP.sub (ws' := [(h0, .inr (2, [.int rd, .int op, .int dn, .ref qk, .ref qh, .ref qv, .ref qm, .ref qb, .int bb, .long mx, .int ln, .int nn, .ref qr])), (qv, .inl (cA, 16, .inl f183))]) [0, 1] rfl
  have hD9 := hD.sub (ws' := [(h0, .inr (2, [.int rd, .int op, .int dn, .ref qk, .ref qh, .ref qv, .ref qm, .ref qb, .int bb, .long mx, .int ln, .int nn, .ref qr])), (qv, .inl (cA, 16, .inl f183))]) [0, 1] (by decide) rfl
  exact W.vret hx hb hr (fun t ht hW => ⟨⟨(f183), rfl, (by dsimp only; rw [g8, g7, g6, g5, g4, g3, g2, g1]; rfl), by rw [ht]; exact hP9, va_K.moved hW.alike hK, hD9⟩, hS.F ht⟩) hS.2.2 dX2_g_184
