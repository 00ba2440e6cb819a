set_option maxHeartbeats 4000000 in
set_option maxRecDepth 100000 in
theorem cX0_mixRound_ok (l : Launch) (dC : Nat → ClassId) (dI : Nat → Nat → Nat) (cA : ClassId) (tb : Nat → Nat) (sz : Nat) (h0 : Nat) (qh : Nat) (qm : Nat) (qv : Nat) (mm : Nat → Int32) (vv : Nat → Int32) (bb : Int32) (ab : Int64) (sv : Int32) (n : Nat) (hn : n < 10) (es : sv = nI (16 * n)) : Met l yX0_mixRound wsX0_mixRound ({ frames := 2, cells := 0, slots := 0, locals := 47 }) (va_Pc [.ref h0, .int sv] (kd_I (dC, dI) cA tb sz [(h0, .inr (0, [.ref qh, .ref qm, .ref qv, .int bb, .long ab])), (qm, .inl (cA, 16, .inl mm)), (qv, .inl (cA, 16, .inl vv))])) (va_Qv (fun (u : (Nat → Int32)) => u = kd_round mm n vv) (fun u t => kd_O (dC, dI) cA (va_A [(h0, .inr (0, [.ref qh, .ref qm, .ref qv, .int bb, .long ab])), (qm, .inl (cA, 16, .inl mm)), (qv, .inl (cA, 16, .inl vv))] sz) [(h0, .inr (0, [.ref qh, .ref qm, .ref qv, .int bb, .long ab])), (qm, .inl (cA, 16, .inl mm)), (qv, .inl (cA, 16, .inl u))] t) (va_A [(h0, .inr (0, [.ref qh, .ref qm, .ref qv, .int bb, .long ab])), (qm, .inl (cA, 16, .inl mm)), (qv, .inl (cA, 16, .inl vv))] sz)) 0 0 (va_A [(h0, .inr (0, [.ref qh, .ref qm, .ref qv, .int bb, .long ab])), (qm, .inl (cA, 16, .inl mm)), (qv, .inl (cA, 16, .inl vv))] sz) := by
  refine Met.ofW (cc := cX0_mixRound) (maxL := 2) (ret := none) (by decide) rfl ?_
  intro p e s m args below meth c s₁ B hml hv
  obtain ⟨rfl, hsz, hP, hK, hD0, hT⟩ := hv
  have hx := B.exec
  have hb := B.bytes
  have hr := B.returns
  have hts := atoms_spec (ws := wsX0_mixRound) B.pre
  have hown : s.vm.findClass RX0 = some m.cls := findClass_of_methodNamed B.named
  have hlocks := B.notSynchronized
  have k0 := hts (.fieldLink RX0 46 "KeyedDigest$Chain" "PLACES" "[I") (by decide +kernel)
  subst hsz
  have hD := hD0.self (sz := s.heap.size)
  generalize hAe : va_A [(h0, .inr (0, [.ref qh, .ref qm, .ref qv, .int bb, .long ab])), (qm, .inl (cA, 16, .inl mm)), (qv, .inl (cA, 16, .inl vv))] s.heap.size = A at hD hT ⊢
  have hA : ∀ q : Nat, s.heap.size ≤ q → A q := fun q h => by rw [← hAe]; exact Or.inr h
  have hS : va_S A s.heap s.heap [] := va_S.rf
  have hP : va_P (dC, dI) vwCl [(h0, .inr (0, [.ref qh, .ref qm, .ref qv, .int bb, .long ab])), (qm, .inl (cA, 16, .inl mm)), (qv, .inl (cA, 16, .inl vv))] s.heap := hP
  have hl := lv_entry ([.ref h0, .int sv]) (n := 2) (Nat.le_of_ble_eq_true rfl)
  rw [lg_entry_eq]
  generalize (lg_sl ([.ref h0, .int sv]) ++ List.replicate (2 - (lg_sl ([.ref h0, .int sv])).length) Slot.unset).toArray = ls at hl ⊢
  have hl : lv_has ls 2 [(0, .ref h0), (1, .int sv)] := hl
  refine lv_aload_n hx hb dX0_mixRound_0 rfl (lv_at hl 0 rfl) ?_
  refine lv_iconst (v := 0) hx hb dX0_mixRound_1 (by decide) ?_
  refine lv_iconst (v := 4) hx hb dX0_mixRound_2 (by decide) ?_
  refine lv_bipush (v := 8) hx hb dX0_mixRound_3 (by decide) ?_
  refine lv_bipush (v := 12) hx hb dX0_mixRound_5 (by decide) ?_
  refine va_gets hx hb hT.2.2.1 hS hown k0 (fun _ h9 => h9) dX0_mixRound_7 ?_
  refine lv_iload_n hx hb dX0_mixRound_10 rfl (lv_at hl 1 rfl) ?_
  refine kd_ti (16 * n) hx hb hT.2.2.2 hS es (by omega) (by decide) dX0_mixRound_11 ?_
  refine va_gets hx hb hT.2.2.1 hS hown k0 (fun _ h9 => h9) dX0_mixRound_12 ?_
  refine lv_iload_n hx hb dX0_mixRound_15 rfl (lv_at hl 1 rfl) ?_
  refine lv_iconst (v := 1) hx hb dX0_mixRound_16 (by decide) ?_
  refine lv_iadd hx hb dX0_mixRound_17 ?_
  refine kd_ti (16 * n + 1) hx hb hT.2.2.2 hS (by rw [es]; exact nI_add _ _) (by omega) (by decide) dX0_mixRound_18 ?_
  have hPc := hP.sub (ws' := [(h0, .inr (0, [.ref qh, .ref qm, .ref qv, .int bb, .long ab])), (qm, .inl (cA, 16, .inl mm)), (qv, .inl (cA, 16, .inl vv))]) [0, 1, 2] rfl
  have hDc := hD.sub (ws' := [(h0, .inr (0, [.ref qh, .ref qm, .ref qv, .int bb, .long ab])), (qm, .inl (cA, 16, .inl mm)), (qv, .inl (cA, 16, .inl vv))]) [0, 1, 2] (by decide) rfl
  have hFc := va_free (wc := [(h0, .inr (0, [.ref qh, .ref qm, .ref qv, .int bb, .long ab])), (qm, .inl (cA, 16, .inl mm)), (qv, .inl (cA, 16, .inl vv))]) hD hS hA [0, 1, 2] rfl
  refine va_callv (va_runV (As := [.int 0, .int 4, .int 8, .int 12, .int (kd_PL (16 * n)), .int (kd_PL (16 * n + 1))]) (rest := []) ⟨hx, hb, hml, hown, hts⟩ (cX0_mixFour_ok l dC dI cA tb s.heap.size h0 qh qm qv mm vv bb ab 0 4 8 12 (kd_pl (16 * n)) (kd_pl (16 * n + 1)) (by decide) (by decide) (by decide) (by decide) (kd_pl_lt _ (by omega)) (kd_pl_lt _ (by omega))) (cwV 6 hts gX0_mixRound_X0_mixFour rfl rfl rfl (by decide +kernel) ⟨Nat.le_of_ble_eq_true rfl, Nat.le_of_ble_eq_true rfl⟩) ⟨fun a U g mk q => kd_calling rfl rfl q, va_recv hK hPc (ci := 0) (q0 := 0) rfl rfl, fun U hU hW => ⟨rfl, kd_pre hPc hK hDc hT hS hFc U hU hW⟩⟩ rfl rfl hl.1 rfl (lv_room (Nat.le_of_ble_eq_true rfl)) dX0_mixRound_19 ⟨Nat.le_of_ble_eq_true rfl, Nat.le_of_ble_eq_true rfl⟩) hS (fun q _ h => hFc q h) hFc (fun u t H1 locs ht hvm hw hB hz1 hk1 hS => ?_)
  obtain ⟨vo19, rfl⟩ : ∃ z, z = u := ⟨_, rfl⟩
  have hw19 : vo19 = kd_G 0 4 8 12 (mm (kd_pl (16 * n))) (mm (kd_pl (16 * n + 1))) vv := hw
  have hP1 : va_P (dC, dI) vwCl [(h0, .inr (0, [.ref qh, .ref qm, .ref qv, .int bb, .long ab])), (qm, .inl (cA, 16, .inl mm)), (qv, .inl (cA, 16, .inl vo19))] H1 := by rw [← ht]; exact hB.1
  have hD1 : va_D (va_A [(h0, .inr (0, [.ref qh, .ref qm, .ref qv, .int bb, .long ab])), (qm, .inl (cA, 16, .inl mm)), (qv, .inl (cA, 16, .inl vv))] s.heap.size) [(h0, .inr (0, [.ref qh, .ref qm, .ref qv, .int bb, .long ab])), (qm, .inl (cA, 16, .inl mm)), (qv, .inl (cA, 16, .inl vo19))] := hB.2.2
  obtain ⟨hP, hD⟩ := va_join (wr := []) (w1 := [(h0, .inr (0, [.ref qh, .ref qm, .ref qv, .int bb, .long ab])), (qm, .inl (cA, 16, .inl mm)), (qv, .inl (cA, 16, .inl vo19))]) hP hD [0, 1, 2] [] rfl rfl (by decide) (by decide) hk1 hFc hP1 hD1
  clear hw hB hk1 hPc hDc hFc hP1 hD1 hvm hz1
  generalize H1 = H at hP hS ⊢
  have hP : va_P (dC, dI) vwCl [(h0, .inr (0, [.ref qh, .ref qm, .ref qv, .int bb, .long ab])), (qm, .inl (cA, 16, .inl mm)), (qv, .inl (cA, 16, .inl vo19))] H := hP
  have hD : va_D A [(h0, .inr (0, [.ref qh, .ref qm, .ref qv, .int bb, .long ab])), (qm, .inl (cA, 16, .inl mm)), (qv, .inl (cA, 16, .inl vo19))] := hD
  refine lv_aload_n hx hb dX0_mixRound_22 rfl (lv_at hl 0 rfl) ?_
  refine lv_iconst (v := 1) hx hb dX0_mixRound_23 (by decide) ?_
  refine lv_iconst (v := 5) hx hb dX0_mixRound_24 (by decide) ?_
  refine lv_bipush (v := 9) hx hb dX0_mixRound_25 (by decide) ?_
  refine lv_bipush (v := 13) hx hb dX0_mixRound_27 (by decide) ?_
  refine va_gets hx hb hT.2.2.1 hS hown k0 (fun _ h9 => h9) dX0_mixRound_29 ?_
  refine lv_iload_n hx hb dX0_mixRound_32 rfl (lv_at hl 1 rfl) ?_
  refine lv_iconst (v := 2) hx hb dX0_mixRound_33 (by decide) ?_
  refine lv_iadd hx hb dX0_mixRound_34 ?_
  refine kd_ti (16 * n + 2) hx hb hT.2.2.2 hS (by rw [es]; exact nI_add _ _) (by omega) (by decide) dX0_mixRound_35 ?_
  refine va_gets hx hb hT.2.2.1 hS hown k0 (fun _ h9 => h9) dX0_mixRound_36 ?_
  refine lv_iload_n hx hb dX0_mixRound_39 rfl (lv_at hl 1 rfl) ?_
  refine lv_iconst (v := 3) hx hb dX0_mixRound_40 (by decide) ?_
  refine lv_iadd hx hb dX0_mixRound_41 ?_
  refine kd_ti (16 * n + 3) hx hb hT.2.2.2 hS (by rw [es]; exact nI_add _ _) (by omega) (by decide) dX0_mixRound_42 ?_
  have hPc := hP.sub (ws' := [(h0, .inr (0, [.ref qh, .ref qm, .ref qv, .int bb, .long ab])), (qm, .inl (cA, 16, .inl mm)), (qv, .inl (cA, 16, .inl vo19))]) [0, 1, 2] rfl
  have hDc := hD.sub (ws' := [(h0, .inr (0, [.ref qh, .ref qm, .ref qv, .int bb, .long ab])), (qm, .inl (cA, 16, .inl mm)), (qv, .inl (cA, 16, .inl vo19))]) [0, 1, 2] (by decide) rfl
  have hFc := va_free (wc := [(h0, .inr (0, [.ref qh, .ref qm, .ref qv, .int bb, .long ab])), (qm, .inl (cA, 16, .inl mm)), (qv, .inl (cA, 16, .inl vo19))]) hD hS hA [0, 1, 2] rfl
  refine va_callv (va_runV (As := [.int 1, .int 5, .int 9, .int 13, .int (kd_PL (16 * n + 2)), .int (kd_PL (16 * n + 3))]) (rest := []) ⟨hx, hb, hml, hown, hts⟩ (cX0_mixFour_ok l dC dI cA tb H.size h0 qh qm qv mm vo19 bb ab 1 5 9 13 (kd_pl (16 * n + 2)) (kd_pl (16 * n + 3)) (by decide) (by decide) (by decide) (by decide) (kd_pl_lt _ (by omega)) (kd_pl_lt _ (by omega))) (cwV 6 hts gX0_mixRound_X0_mixFour rfl rfl rfl (by decide +kernel) ⟨Nat.le_of_ble_eq_true rfl, Nat.le_of_ble_eq_true rfl⟩) ⟨fun a U g mk q => kd_calling rfl rfl q, va_recv hK hPc (ci := 0) (q0 := 0) rfl rfl, fun U hU hW => ⟨rfl, kd_pre hPc hK hDc hT hS hFc U hU hW⟩⟩ rfl rfl hl.1 rfl (lv_room (Nat.le_of_ble_eq_true rfl)) dX0_mixRound_43 ⟨Nat.le_of_ble_eq_true rfl, Nat.le_of_ble_eq_true rfl⟩) hS (fun q _ h => hFc q h) hFc (fun u t H1 locs ht hvm hw hB hz1 hk1 hS => ?_)
  obtain ⟨vo43, rfl⟩ : ∃ z, z = u := ⟨_, rfl⟩
  have hw43 : vo43 = kd_G 1 5 9 13 (mm (kd_pl (16 * n + 2))) (mm (kd_pl (16 * n + 3))) vo19 := hw
  have hP1 : va_P (dC, dI) vwCl [(h0, .inr (0, [.ref qh, .ref qm, .ref qv, .int bb, .long ab])), (qm, .inl (cA, 16, .inl mm)), (qv, .inl (cA, 16, .inl vo43))] H1 := by rw [← ht]; exact hB.1
  have hD1 : va_D (va_A [(h0, .inr (0, [.ref qh, .ref qm, .ref qv, .int bb, .long ab])), (qm, .inl (cA, 16, .inl mm)), (qv, .inl (cA, 16, .inl vo19))] H.size) [(h0, .inr (0, [.ref qh, .ref qm, .ref qv, .int bb, .long ab])), (qm, .inl (cA, 16, .inl mm)), (qv, .inl (cA, 16, .inl vo43))] := hB.2.2
  obtain ⟨hP, hD⟩ := va_join (wr := []) (w1 := [(h0, .inr (0, [.ref qh, .ref qm, .ref qv, .int bb, .long ab])), (qm, .inl (cA, 16, .inl mm)), (qv, .inl (cA, 16, .inl vo43))]) hP hD [0, 1, 2] [] rfl rfl (by decide) (by decide) hk1 hFc hP1 hD1
  clear hw hB hk1 hPc hDc hFc hP1 hD1 hvm hz1
  generalize H1 = H at hP hS ⊢
  have hP : va_P (dC, dI) vwCl [(h0, .inr (0, [.ref qh, .ref qm, .ref qv, .int bb, .long ab])), (qm, .inl (cA, 16, .inl mm)), (qv, .inl (cA, 16, .inl vo43))] H := hP
  have hD : va_D A [(h0, .inr (0, [.ref qh, .ref qm, .ref qv, .int bb, .long ab])), (qm, .inl (cA, 16, .inl mm)), (qv, .inl (cA, 16, .inl vo43))] := hD
  refine lv_aload_n hx hb dX0_mixRound_46 rfl (lv_at hl 0 rfl) ?_
  refine lv_iconst (v := 2) hx hb dX0_mixRound_47 (by decide) ?_
  refine lv_bipush (v := 6) hx hb dX0_mixRound_48 (by decide) ?_
  refine lv_bipush (v := 10) hx hb dX0_mixRound_50 (by decide) ?_
  refine lv_bipush (v := 14) hx hb dX0_mixRound_52 (by decide) ?_
  refine va_gets hx hb hT.2.2.1 hS hown k0 (fun _ h9 => h9) dX0_mixRound_54 ?_
  refine lv_iload_n hx hb dX0_mixRound_57 rfl (lv_at hl 1 rfl) ?_
  refine lv_iconst (v := 4) hx hb dX0_mixRound_58 (by decide) ?_
  refine lv_iadd hx hb dX0_mixRound_59 ?_
  refine kd_ti (16 * n + 4) hx hb hT.2.2.2 hS (by rw [es]; exact nI_add _ _) (by omega) (by decide) dX0_mixRound_60 ?_
  refine va_gets hx hb hT.2.2.1 hS hown k0 (fun _ h9 => h9) dX0_mixRound_61 ?_
  refine lv_iload_n hx hb dX0_mixRound_64 rfl (lv_at hl 1 rfl) ?_
  refine lv_iconst (v := 5) hx hb dX0_mixRound_65 (by decide) ?_
  refine lv_iadd hx hb dX0_mixRound_66 ?_
  refine kd_ti (16 * n + 5) hx hb hT.2.2.2 hS (by rw [es]; exact nI_add _ _) (by omega) (by decide) dX0_mixRound_67 ?_
  have hPc := hP.sub (ws' := [(h0, .inr (0, [.ref qh, .ref qm, .ref qv, .int bb, .long ab])), (qm, .inl (cA, 16, .inl mm)), (qv, .inl (cA, 16, .inl vo43))]) [0, 1, 2] rfl
  have hDc := hD.sub (ws' := [(h0, .inr (0, [.ref qh, .ref qm, .ref qv, .int bb, .long ab])), (qm, .inl (cA, 16, .inl mm)), (qv, .inl (cA, 16, .inl vo43))]) [0, 1, 2] (by decide) rfl
  have hFc := va_free (wc := [(h0, .inr (0, [.ref qh, .ref qm, .ref qv, .int bb, .long ab])), (qm, .inl (cA, 16, .inl mm)), (qv, .inl (cA, 16, .inl vo43))]) hD hS hA [0, 1, 2] rfl
  refine va_callv (va_runV (As := [.int 2, .int 6, .int 10, .int 14, .int (kd_PL (16 * n + 4)), .int (kd_PL (16 * n + 5))]) (rest := []) ⟨hx, hb, hml, hown, hts⟩ (cX0_mixFour_ok l dC dI cA tb H.size h0 qh qm qv mm vo43 bb ab 2 6 10 14 (kd_pl (16 * n + 4)) (kd_pl (16 * n + 5)) (by decide) (by decide) (by decide) (by decide) (kd_pl_lt _ (by omega)) (kd_pl_lt _ (by omega))) (cwV 6 hts gX0_mixRound_X0_mixFour rfl rfl rfl (by decide +kernel) ⟨Nat.le_of_ble_eq_true rfl, Nat.le_of_ble_eq_true rfl⟩) ⟨fun a U g mk q => kd_calling rfl rfl q, va_recv hK hPc (ci := 0) (q0 := 0) rfl rfl, fun U hU hW => ⟨rfl, kd_pre hPc hK hDc hT hS hFc U hU hW⟩⟩ rfl rfl hl.1 rfl (lv_room (Nat.le_of_ble_eq_true rfl)) dX0_mixRound_68 ⟨Nat.le_of_ble_eq_true rfl, Nat.le_of_ble_eq_true rfl⟩) hS (fun q _ h => hFc q h) hFc (fun u t H1 locs ht hvm hw hB hz1 hk1 hS => ?_)
  obtain ⟨vo68, rfl⟩ : ∃ z, z = u := ⟨_, rfl⟩
  have hw68 : vo68 = kd_G 2 6 10 14 (mm (kd_pl (16 * n + 4))) (mm (kd_pl (16 * n + 5))) vo43 := hw
  have hP1 : va_P (dC, dI) vwCl [(h0, .inr (0, [.ref qh, .ref qm, .ref qv, .int bb, .long ab])), (qm, .inl (cA, 16, .inl mm)), (qv, .inl (cA, 16, .inl vo68))] H1 := by rw [← ht]; exact hB.1
  have hD1 : va_D (va_A [(h0, .inr (0, [.ref qh, .ref qm, .ref qv, .int bb, .long ab])), (qm, .inl (cA, 16, .inl mm)), (qv, .inl (cA, 16, .inl vo43))] H.size) [(h0, .inr (0, [.ref qh, .ref qm, .ref qv, .int bb, .long ab])), (qm, .inl (cA, 16, .inl mm)), (qv, .inl (cA, 16, .inl vo68))] := hB.2.2
  obtain ⟨hP, hD⟩ := va_join (wr := []) (w1 := [(h0, .inr (0, [.ref qh, .ref qm, .ref qv, .int bb, .long ab])), (qm, .inl (cA, 16, .inl mm)), (qv, .inl (cA, 16, .inl vo68))]) hP hD [0, 1, 2] [] rfl rfl (by decide) (by decide) hk1 hFc hP1 hD1
  clear hw hB hk1 hPc hDc hFc hP1 hD1 hvm hz1
  generalize H1 = H at hP hS ⊢
  have hP : va_P (dC, dI) vwCl [(h0, .inr (0, [.ref qh, .ref qm, .ref qv, .int bb, .long ab])), (qm, .inl (cA, 16, .inl mm)), (qv, .inl (cA, 16, .inl vo68))] H := hP
  have hD : va_D A [(h0, .inr (0, [.ref qh, .ref qm, .ref qv, .int bb, .long ab])), (qm, .inl (cA, 16, .inl mm)), (qv, .inl (cA, 16, .inl vo68))] := hD
  refine lv_aload_n hx hb dX0_mixRound_71 rfl (lv_at hl 0 rfl) ?_
  refine lv_iconst (v := 3) hx hb dX0_mixRound_72 (by decide) ?_
  refine lv_bipush (v := 7) hx hb dX0_mixRound_73 (by decide) ?_
  refine lv_bipush (v := 11) hx hb dX0_mixRound_75 (by decide) ?_
  refine lv_bipush (v := 15) hx hb dX0_mixRound_77 (by decide) ?_
  refine va_gets hx hb hT.2.2.1 hS hown k0 (fun _ h9 => h9) dX0_mixRound_79 ?_
  refine lv_iload_n hx hb dX0_mixRound_82 rfl (lv_at hl 1 rfl) ?_
  refine lv_bipush (v := 6) hx hb dX0_mixRound_83 (by decide) ?_
  refine lv_iadd hx hb dX0_mixRound_85 ?_
  refine kd_ti (16 * n + 6) hx hb hT.2.2.2 hS (by rw [es]; exact nI_add _ _) (by omega) (by decide) dX0_mixRound_86 ?_
  refine va_gets hx hb hT.2.2.1 hS hown k0 (fun _ h9 => h9) dX0_mixRound_87 ?_
  refine lv_iload_n hx hb dX0_mixRound_90 rfl (lv_at hl 1 rfl) ?_
  refine lv_bipush (v := 7) hx hb dX0_mixRound_91 (by decide) ?_
  refine lv_iadd hx hb dX0_mixRound_93 ?_
  refine kd_ti (16 * n + 7) hx hb hT.2.2.2 hS (by rw [es]; exact nI_add _ _) (by omega) (by decide) dX0_mixRound_94 ?_
  have hPc := hP.sub (ws' := [(h0, .inr (0, [.ref qh, .ref qm, .ref qv, .int bb, .long ab])), (qm, .inl (cA, 16, .inl mm)), (qv, .inl (cA, 16, .inl vo68))]) [0, 1, 2] rfl
  have hDc := hD.sub (ws' := [(h0, .inr (0, [.ref qh, .ref qm, .ref qv, .int bb, .long ab])), (qm, .inl (cA, 16, .inl mm)), (qv, .inl (cA, 16, .inl vo68))]) [0, 1, 2] (by decide) rfl
  have hFc := va_free (wc := [(h0, .inr (0, [.ref qh, .ref qm, .ref qv, .int bb, .long ab])), (qm, .inl (cA, 16, .inl mm)), (qv, .inl (cA, 16, .inl vo68))]) hD hS hA [0, 1, 2] rfl
  refine va_callv (va_runV (As := [.int 3, .int 7, .int 11, .int 15, .int (kd_PL (16 * n + 6)), .int (kd_PL (16 * n + 7))]) (rest := []) ⟨hx, hb, hml, hown, hts⟩ (cX0_mixFour_ok l dC dI cA tb H.size h0 qh qm qv mm vo68 bb ab 3 7 11 15 (kd_pl (16 * n + 6)) (kd_pl (16 * n + 7)) (by decide) (by decide) (by decide) (by decide) (kd_pl_lt _ (by omega)) (kd_pl_lt _ (by omega))) (cwV 6 hts gX0_mixRound_X0_mixFour rfl rfl rfl (by decide +kernel) ⟨Nat.le_of_ble_eq_true rfl, Nat.le_of_ble_eq_true rfl⟩) ⟨fun a U g mk q => kd_calling rfl rfl q, va_recv hK hPc (ci := 0) (q0 := 0) rfl rfl, fun U hU hW => ⟨rfl, kd_pre hPc hK hDc hT hS hFc U hU hW⟩⟩ rfl rfl hl.1 rfl (lv_room (Nat.le_of_ble_eq_true rfl)) dX0_mixRound_95 ⟨Nat.le_of_ble_eq_true rfl, Nat.le_of_ble_eq_true rfl⟩) hS (fun q _ h => hFc q h) hFc (fun u t H1 locs ht hvm hw hB hz1 hk1 hS => ?_)
  obtain ⟨vo95, rfl⟩ : ∃ z, z = u := ⟨_, rfl⟩
  have hw95 : vo95 = kd_G 3 7 11 15 (mm (kd_pl (16 * n + 6))) (mm (kd_pl (16 * n + 7))) vo68 := hw
  have hP1 : va_P (dC, dI) vwCl [(h0, .inr (0, [.ref qh, .ref qm, .ref qv, .int bb, .long ab])), (qm, .inl (cA, 16, .inl mm)), (qv, .inl (cA, 16, .inl vo95))] H1 := by rw [← ht]; exact hB.1
  have hD1 : va_D (va_A [(h0, .inr (0, [.ref qh, .ref qm, .ref qv, .int bb, .long ab])), (qm, .inl (cA, 16, .inl mm)), (qv, .inl (cA, 16, .inl vo68))] H.size) [(h0, .inr (0, [.ref qh, .ref qm, .ref qv, .int bb, .long ab])), (qm, .inl (cA, 16, .inl mm)), (qv, .inl (cA, 16, .inl vo95))] := hB.2.2
  obtain ⟨hP, hD⟩ := va_join (wr := []) (w1 := [(h0, .inr (0, [.ref qh, .ref qm, .ref qv, .int bb, .long ab])), (qm, .inl (cA, 16, .inl mm)), (qv, .inl (cA, 16, .inl vo95))]) hP hD [0, 1, 2] [] rfl rfl (by decide) (by decide) hk1 hFc hP1 hD1
  clear hw hB hk1 hPc hDc hFc hP1 hD1 hvm hz1
  generalize H1 = H at hP hS ⊢
  have hP : va_P (dC, dI) vwCl [(h0, .inr (0, [.ref qh, .ref qm, .ref qv, .int bb, .long ab])), (qm, .inl (cA, 16, .inl mm)), (qv, .inl (cA, 16, .inl vo95))] H := hP
  have hD : va_D A [(h0, .inr (0, [.ref qh, .ref qm, .ref qv, .int bb, .long ab])), (qm, .inl (cA, 16, .inl mm)), (qv, .inl (cA, 16, .inl vo95))] := hD
  refine lv_aload_n hx hb dX0_mixRound_98 rfl (lv_at hl 0 rfl) ?_
  refine lv_iconst (v := 0) hx hb dX0_mixRound_99 (by decide) ?_
  refine lv_iconst (v := 5) hx hb dX0_mixRound_100 (by decide) ?_
  refine lv_bipush (v := 10) hx hb dX0_mixRound_101 (by decide) ?_
  refine lv_bipush (v := 15) hx hb dX0_mixRound_103 (by decide) ?_
  refine va_gets hx hb hT.2.2.1 hS hown k0 (fun _ h9 => h9) dX0_mixRound_105 ?_
  refine lv_iload_n hx hb dX0_mixRound_108 rfl (lv_at hl 1 rfl) ?_
  refine lv_bipush (v := 8) hx hb dX0_mixRound_109 (by decide) ?_
  refine lv_iadd hx hb dX0_mixRound_111 ?_
  refine kd_ti (16 * n + 8) hx hb hT.2.2.2 hS (by rw [es]; exact nI_add _ _) (by omega) (by decide) dX0_mixRound_112 ?_
  refine va_gets hx hb hT.2.2.1 hS hown k0 (fun _ h9 => h9) dX0_mixRound_113 ?_
  refine lv_iload_n hx hb dX0_mixRound_116 rfl (lv_at hl 1 rfl) ?_
  refine lv_bipush (v := 9) hx hb dX0_mixRound_117 (by decide) ?_
  refine lv_iadd hx hb dX0_mixRound_119 ?_
  refine kd_ti (16 * n + 9) hx hb hT.2.2.2 hS (by rw [es]; exact nI_add _ _) (by omega) (by decide) dX0_mixRound_120 ?_
  have hPc := hP.sub (ws' := [(h0, .inr (0, [.ref qh, .ref qm, .ref qv, .int bb, .long ab])), (qm, .inl (cA, 16, .inl mm)), (qv, .inl (cA, 16, .inl vo95))]) [0, 1, 2] rfl
  have hDc := hD.sub (ws' := [(h0, .inr (0, [.ref qh, .ref qm, .ref qv, .int bb, .long ab])), (qm, .inl (cA, 16, .inl mm)), (qv, .inl (cA, 16, .inl vo95))]) [0, 1, 2] (by decide) rfl
  have hFc := va_free (wc := [(h0, .inr (0, [.ref qh, .ref qm, .ref qv, .int bb, .long ab])), (qm, .inl (cA, 16, .inl mm)), (qv, .inl (cA, 16, .inl vo95))]) hD hS hA [0, 1, 2] rfl
  refine va_callv (va_runV (As := [.int 0, .int 5, .int 10, .int 15, .int (kd_PL (16 * n + 8)), .int (kd_PL (16 * n + 9))]) (rest := []) ⟨hx, hb, hml, hown, hts⟩ (cX0_mixFour_ok l dC dI cA tb H.size h0 qh qm qv mm vo95 bb ab 0 5 10 15 (kd_pl (16 * n + 8)) (kd_pl (16 * n + 9)) (by decide) (by decide) (by decide) (by decide) (kd_pl_lt _ (by omega)) (kd_pl_lt _ (by omega))) (cwV 6 hts gX0_mixRound_X0_mixFour rfl rfl rfl (by decide +kernel) ⟨Nat.le_of_ble_eq_true rfl, Nat.le_of_ble_eq_true rfl⟩) ⟨fun a U g mk q => kd_calling rfl rfl q, va_recv hK hPc (ci := 0) (q0 := 0) rfl rfl, fun U hU hW => ⟨rfl, kd_pre hPc hK hDc hT hS hFc U hU hW⟩⟩ rfl rfl hl.1 rfl (lv_room (Nat.le_of_ble_eq_true rfl)) dX0_mixRound_121 ⟨Nat.le_of_ble_eq_true rfl, Nat.le_of_ble_eq_true rfl⟩) hS (fun q _ h => hFc q h) hFc (fun u t H1 locs ht hvm hw hB hz1 hk1 hS => ?_)
  obtain ⟨vo121, rfl⟩ : ∃ z, z = u := ⟨_, rfl⟩
  have hw121 : vo121 = kd_G 0 5 10 15 (mm (kd_pl (16 * n + 8))) (mm (kd_pl (16 * n + 9))) vo95 := hw
  have hP1 : va_P (dC, dI) vwCl [(h0, .inr (0, [.ref qh, .ref qm, .ref qv, .int bb, .long ab])), (qm, .inl (cA, 16, .inl mm)), (qv, .inl (cA, 16, .inl vo121))] H1 := by rw [← ht]; exact hB.1
  have hD1 : va_D (va_A [(h0, .inr (0, [.ref qh, .ref qm, .ref qv, .int bb, .long ab])), (qm, .inl (cA, 16, .inl mm)), (qv, .inl (cA, 16, .inl vo95))] H.size) [(h0, .inr (0, [.ref qh, .ref qm, .ref qv, .int bb, .long ab])), (qm, .inl (cA, 16, .inl mm)), (qv, .inl (cA, 16, .inl vo121))] := hB.2.2
  obtain ⟨hP, hD⟩ := va_join (wr := []) (w1 := [(h0, .inr (0, [.ref qh, .ref qm, .ref qv, .int bb, .long ab])), (qm, .inl (cA, 16, .inl mm)), (qv, .inl (cA, 16, .inl vo121))]) hP hD [0, 1, 2] [] rfl rfl (by decide) (by decide) hk1 hFc hP1 hD1
  clear hw hB hk1 hPc hDc hFc hP1 hD1 hvm hz1
  generalize H1 = H at hP hS ⊢
  have hP : va_P (dC, dI) vwCl [(h0, .inr (0, [.ref qh, .ref qm, .ref qv, .int bb, .long ab])), (qm, .inl (cA, 16, .inl mm)), (qv, .inl (cA, 16, .inl vo121))] H := hP
  have hD : va_D A [(h0, .inr (0, [.ref qh, .ref qm, .ref qv, .int bb, .long ab])), (qm, .inl (cA, 16, .inl mm)), (qv, .inl (cA, 16, .inl vo121))] := hD
  refine lv_aload_n hx hb dX0_mixRound_124 rfl (lv_at hl 0 rfl) ?_
  refine lv_iconst (v := 1) hx hb dX0_mixRound_125 (by decide) ?_
  refine lv_bipush (v := 6) hx hb dX0_mixRound_126 (by decide) ?_
  refine lv_bipush (v := 11) hx hb dX0_mixRound_128 (by decide) ?_
  refine lv_bipush (v := 12) hx hb dX0_mixRound_130 (by decide) ?_
  refine va_gets hx hb hT.2.2.1 hS hown k0 (fun _ h9 => h9) dX0_mixRound_132 ?_
  refine lv_iload_n hx hb dX0_mixRound_135 rfl (lv_at hl 1 rfl) ?_
  refine lv_bipush (v := 10) hx hb dX0_mixRound_136 (by decide) ?_
  refine lv_iadd hx hb dX0_mixRound_138 ?_
  refine kd_ti (16 * n + 10) hx hb hT.2.2.2 hS (by rw [es]; exact nI_add _ _) (by omega) (by decide) dX0_mixRound_139 ?_
  refine va_gets hx hb hT.2.2.1 hS hown k0 (fun _ h9 => h9) dX0_mixRound_140 ?_
  refine lv_iload_n hx hb dX0_mixRound_143 rfl (lv_at hl 1 rfl) ?_
  refine lv_bipush (v := 11) hx hb dX0_mixRound_144 (by decide) ?_
  refine lv_iadd hx hb dX0_mixRound_146 ?_
  refine kd_ti (16 * n + 11) hx hb hT.2.2.2 hS (by rw [es]; exact nI_add _ _) (by omega) (by decide) dX0_mixRound_147 ?_
  have hPc := hP.sub (ws' := [(h0, .inr (0, [.ref qh, .ref qm, .ref qv, .int bb, .long ab])), (qm, .inl (cA, 16, .inl mm)), (qv, .inl (cA, 16, .inl vo121))]) [0, 1, 2] rfl
  have hDc := hD.sub (ws' := [(h0, .inr (0, [.ref qh, .ref qm, .ref qv, .int bb, .long ab])), (qm, .inl (cA, 16, .inl mm)), (qv, .inl (cA, 16, .inl vo121))]) [0, 1, 2] (by decide) rfl
  have hFc := va_free (wc := [(h0, .inr (0, [.ref qh, .ref qm, .ref qv, .int bb, .long ab])), (qm, .inl (cA, 16, .inl mm)), (qv, .inl (cA, 16, .inl vo121))]) hD hS hA [0, 1, 2] rfl
  refine va_callv (va_runV (As := [.int 1, .int 6, .int 11, .int 12, .int (kd_PL (16 * n + 10)), .int (kd_PL (16 * n + 11))]) (rest := []) ⟨hx, hb, hml, hown, hts⟩ (cX0_mixFour_ok l dC dI cA tb H.size h0 qh qm qv mm vo121 bb ab 1 6 11 12 (kd_pl (16 * n + 10)) (kd_pl (16 * n + 11)) (by decide) (by decide) (by decide) (by decide) (kd_pl_lt _ (by omega)) (kd_pl_lt _ (by omega))) (cwV 6 hts gX0_mixRound_X0_mixFour rfl rfl rfl (by decide +kernel) ⟨Nat.le_of_ble_eq_true rfl, Nat.le_of_ble_eq_true rfl⟩) ⟨fun a U g mk q => kd_calling rfl rfl q, va_recv hK hPc (ci := 0) (q0 := 0) rfl rfl, fun U hU hW => ⟨rfl, kd_pre hPc hK hDc hT hS hFc U hU hW⟩⟩ rfl rfl hl.1 rfl (lv_room (Nat.le_of_ble_eq_true rfl)) dX0_mixRound_148 ⟨Nat.le_of_ble_eq_true rfl, Nat.le_of_ble_eq_true rfl⟩) hS (fun q _ h => hFc q h) hFc (fun u t H1 locs ht hvm hw hB hz1 hk1 hS => ?_)
  obtain ⟨vo148, rfl⟩ : ∃ z, z = u := ⟨_, rfl⟩
  have hw148 : vo148 = kd_G 1 6 11 12 (mm (kd_pl (16 * n + 10))) (mm (kd_pl (16 * n + 11))) vo121 := hw
  have hP1 : va_P (dC, dI) vwCl [(h0, .inr (0, [.ref qh, .ref qm, .ref qv, .int bb, .long ab])), (qm, .inl (cA, 16, .inl mm)), (qv, .inl (cA, 16, .inl vo148))] H1 := by rw [← ht]; exact hB.1
  have hD1 : va_D (va_A [(h0, .inr (0, [.ref qh, .ref qm, .ref qv, .int bb, .long ab])), (qm, .inl (cA, 16, .inl mm)), (qv, .inl (cA, 16, .inl vo121))] H.size) [(h0, .inr (0, [.ref qh, .ref qm, .ref qv, .int bb, .long ab])), (qm, .inl (cA, 16, .inl mm)), (qv, .inl (cA, 16, .inl vo148))] := hB.2.2
  obtain ⟨hP, hD⟩ := va_join (wr := []) (w1 := [(h0, .inr (0, [.ref qh, .ref qm, .ref qv, .int bb, .long ab])), (qm, .inl (cA, 16, .inl mm)), (qv, .inl (cA, 16, .inl vo148))]) hP hD [0, 1, 2] [] rfl rfl (by decide) (by decide) hk1 hFc hP1 hD1
  clear hw hB hk1 hPc hDc hFc hP1 hD1 hvm hz1
  generalize H1 = H at hP hS ⊢
  have hP : va_P (dC, dI) vwCl [(h0, .inr (0, [.ref qh, .ref qm, .ref qv, .int bb, .long ab])), (qm, .inl (cA, 16, .inl mm)), (qv, .inl (cA, 16, .inl vo148))] H := hP
  have hD : va_D A [(h0, .inr (0, [.ref qh, .ref qm, .ref qv, .int bb, .long ab])), (qm, .inl (cA, 16, .inl mm)), (qv, .inl (cA, 16, .inl vo148))] := hD
  refine lv_aload_n hx hb dX0_mixRound_151 rfl (lv_at hl 0 rfl) ?_
  refine lv_iconst (v := 2) hx hb dX0_mixRound_152 (by decide) ?_
  refine lv_bipush (v := 7) hx hb dX0_mixRound_153 (by decide) ?_
  refine lv_bipush (v := 8) hx hb dX0_mixRound_155 (by decide) ?_
  refine lv_bipush (v := 13) hx hb dX0_mixRound_157 (by decide) ?_
  refine va_gets hx hb hT.2.2.1 hS hown k0 (fun _ h9 => h9) dX0_mixRound_159 ?_
  refine lv_iload_n hx hb dX0_mixRound_162 rfl (lv_at hl 1 rfl) ?_
  refine lv_bipush (v := 12) hx hb dX0_mixRound_163 (by decide) ?_
  refine lv_iadd hx hb dX0_mixRound_165 ?_
  refine kd_ti (16 * n + 12) hx hb hT.2.2.2 hS (by rw [es]; exact nI_add _ _) (by omega) (by decide) dX0_mixRound_166 ?_
  refine va_gets hx hb hT.2.2.1 hS hown k0 (fun _ h9 => h9) dX0_mixRound_167 ?_
  refine lv_iload_n hx hb dX0_mixRound_170 rfl (lv_at hl 1 rfl) ?_
  refine lv_bipush (v := 13) hx hb dX0_mixRound_171 (by decide) ?_
  refine lv_iadd hx hb dX0_mixRound_173 ?_
  refine kd_ti (16 * n + 13) hx hb hT.2.2.2 hS (by rw [es]; exact nI_add _ _) (by omega) (by decide) dX0_mixRound_174 ?_
  have hPc := hP.sub (ws' := [(h0, .inr (0, [.ref qh, .ref qm, .ref qv, .int bb, .long ab])), (qm, .inl (cA, 16, .inl mm)), (qv, .inl (cA, 16, .inl vo148))]) [0, 1, 2] rfl
  have hDc := hD.sub (ws' := [(h0, .inr (0, [.ref qh, .ref qm, .ref qv, .int bb, .long ab])), (qm, .inl (cA, 16, .inl mm)), (qv, .inl (cA, 16, .inl vo148))]) [0, 1, 2] (by decide) rfl
  have hFc := va_free (wc := [(h0, .inr (0, [.ref qh, .ref qm, .ref qv, .int bb, .long ab])), (qm, .inl (cA, 16, .inl mm)), (qv, .inl (cA, 16, .inl vo148))]) hD hS hA [0, 1, 2] rfl
  refine va_callv (va_runV (As := [.int 2, .int 7, .int 8, .int 13, .int (kd_PL (16 * n + 12)), .int (kd_PL (16 * n + 13))]) (rest := []) ⟨hx, hb, hml, hown, hts⟩ (cX0_mixFour_ok l dC dI cA tb H.size h0 qh qm qv mm vo148 bb ab 2 7 8 13 (kd_pl (16 * n + 12)) (kd_pl (16 * n + 13)) (by decide) (by decide) (by decide) (by decide) (kd_pl_lt _ (by omega)) (kd_pl_lt _ (by omega))) (cwV 6 hts gX0_mixRound_X0_mixFour rfl rfl rfl (by decide +kernel) ⟨Nat.le_of_ble_eq_true rfl, Nat.le_of_ble_eq_true rfl⟩) ⟨fun a U g mk q => kd_calling rfl rfl q, va_recv hK hPc (ci := 0) (q0 := 0) rfl rfl, fun U hU hW => ⟨rfl, kd_pre hPc hK hDc hT hS hFc U hU hW⟩⟩ rfl rfl hl.1 rfl (lv_room (Nat.le_of_ble_eq_true rfl)) dX0_mixRound_175 ⟨Nat.le_of_ble_eq_true rfl, Nat.le_of_ble_eq_true rfl⟩) hS (fun q _ h => hFc q h) hFc (fun u t H1 locs ht hvm hw hB hz1 hk1 hS => ?_)
  obtain ⟨vo175, rfl⟩ : ∃ z, z = u := ⟨_, rfl⟩
  have hw175 : vo175 = kd_G 2 7 8 13 (mm (kd_pl (16 * n + 12))) (mm (kd_pl (16 * n + 13))) vo148 := hw
  have hP1 : va_P (dC, dI) vwCl [(h0, .inr (0, [.ref qh, .ref qm, .ref qv, .int bb, .long ab])), (qm, .inl (cA, 16, .inl mm)), (qv, .inl (cA, 16, .inl vo175))] H1 := by rw [← ht]; exact hB.1
  have hD1 : va_D (va_A [(h0, .inr (0, [.ref qh, .ref qm, .ref qv, .int bb, .long ab])), (qm, .inl (cA, 16, .inl mm)), (qv, .inl (cA, 16, .inl vo148))] H.size) [(h0, .inr (0, [.ref qh, .ref qm, .ref qv, .int bb, .long ab])), (qm, .inl (cA, 16, .inl mm)), (qv, .inl (cA, 16, .inl vo175))] := hB.2.2
  obtain ⟨hP, hD⟩ := va_join (wr := []) (w1 := [(h0, .inr (0, [.ref qh, .ref qm, .ref qv, .int bb, .long ab])), (qm, .inl (cA, 16, .inl mm)), (qv, .inl (cA, 16, .inl vo175))]) hP hD [0, 1, 2] [] rfl rfl (by decide) (by decide) hk1 hFc hP1 hD1
  clear hw hB hk1 hPc hDc hFc hP1 hD1 hvm hz1
  generalize H1 = H at hP hS ⊢
  have hP : va_P (dC, dI) vwCl [(h0, .inr (0, [.ref qh, .ref qm, .ref qv, .int bb, .long ab])), (qm, .inl (cA, 16, .inl mm)), (qv, .inl (cA, 16, .inl vo175))] H := hP
  have hD : va_D A [(h0, .inr (0, [.ref qh, .ref qm, .ref qv, .int bb, .long ab])), (qm, .inl (cA, 16, .inl mm)), (qv, .inl (cA, 16, .inl vo175))] := hD
  refine lv_aload_n hx hb dX0_mixRound_178 rfl (lv_at hl 0 rfl) ?_
  refine lv_iconst (v := 3) hx hb dX0_mixRound_179 (by decide) ?_
  refine lv_iconst (v := 4) hx hb dX0_mixRound_180 (by decide) ?_
  refine lv_bipush (v := 9) hx hb dX0_mixRound_181 (by decide) ?_
  refine lv_bipush (v := 14) hx hb dX0_mixRound_183 (by decide) ?_
  refine va_gets hx hb hT.2.2.1 hS hown k0 (fun _ h9 => h9) dX0_mixRound_185 ?_
  refine lv_iload_n hx hb dX0_mixRound_188 rfl (lv_at hl 1 rfl) ?_
  refine lv_bipush (v := 14) hx hb dX0_mixRound_189 (by decide) ?_
  refine lv_iadd hx hb dX0_mixRound_191 ?_
  refine kd_ti (16 * n + 14) hx hb hT.2.2.2 hS (by rw [es]; exact nI_add _ _) (by omega) (by decide) dX0_mixRound_192 ?_
  refine va_gets hx hb hT.2.2.1 hS hown k0 (fun _ h9 => h9) dX0_mixRound_193 ?_
  refine lv_iload_n hx hb dX0_mixRound_196 rfl (lv_at hl 1 rfl) ?_
  refine lv_bipush (v := 15) hx hb dX0_mixRound_197 (by decide) ?_
  refine lv_iadd hx hb dX0_mixRound_199 ?_
  refine kd_ti (16 * n + 15) hx hb hT.2.2.2 hS (by rw [es]; exact nI_add _ _) (by omega) (by decide) dX0_mixRound_200 ?_
  have hPc := hP.sub (ws' := [(h0, .inr (0, [.ref qh, .ref qm, .ref qv, .int bb, .long ab])), (qm, .inl (cA, 16, .inl mm)), (qv, .inl (cA, 16, .inl vo175))]) [0, 1, 2] rfl
  have hDc := hD.sub (ws' := [(h0, .inr (0, [.ref qh, .ref qm, .ref qv, .int bb, .long ab])), (qm, .inl (cA, 16, .inl mm)), (qv, .inl (cA, 16, .inl vo175))]) [0, 1, 2] (by decide) rfl
  have hFc := va_free (wc := [(h0, .inr (0, [.ref qh, .ref qm, .ref qv, .int bb, .long ab])), (qm, .inl (cA, 16, .inl mm)), (qv, .inl (cA, 16, .inl vo175))]) hD hS hA [0, 1, 2] rfl
  refine va_callv (va_runV (As := [.int 3, .int 4, .int 9, .int 14, .int (kd_PL (16 * n + 14)), .int (kd_PL (16 * n + 15))]) (rest := []) ⟨hx, hb, hml, hown, hts⟩ (cX0_mixFour_ok l dC dI cA tb H.size h0 qh qm qv mm vo175 bb ab 3 4 9 14 (kd_pl (16 * n + 14)) (kd_pl (16 * n + 15)) (by decide) (by decide) (by decide) (by decide) (kd_pl_lt _ (by omega)) (kd_pl_lt _ (by omega))) (cwV 6 hts gX0_mixRound_X0_mixFour rfl rfl rfl (by decide +kernel) ⟨Nat.le_of_ble_eq_true rfl, Nat.le_of_ble_eq_true rfl⟩) ⟨fun a U g mk q => kd_calling rfl rfl q, va_recv hK hPc (ci := 0) (q0 := 0) rfl rfl, fun U hU hW => ⟨rfl, kd_pre hPc hK hDc hT hS hFc U hU hW⟩⟩ rfl rfl hl.1 rfl (lv_room (Nat.le_of_ble_eq_true rfl)) dX0_mixRound_201 ⟨Nat.le_of_ble_eq_true rfl, Nat.le_of_ble_eq_true rfl⟩) hS (fun q _ h => hFc q h) hFc (fun u t H1 locs ht hvm hw hB hz1 hk1 hS => ?_)
  obtain ⟨vo201, rfl⟩ : ∃ z, z = u := ⟨_, rfl⟩
  have hw201 : vo201 = kd_G 3 4 9 14 (mm (kd_pl (16 * n + 14))) (mm (kd_pl (16 * n + 15))) vo175 := hw
  have hP1 : va_P (dC, dI) vwCl [(h0, .inr (0, [.ref qh, .ref qm, .ref qv, .int bb, .long ab])), (qm, .inl (cA, 16, .inl mm)), (qv, .inl (cA, 16, .inl vo201))] H1 := by rw [← ht]; exact hB.1
  have hD1 : va_D (va_A [(h0, .inr (0, [.ref qh, .ref qm, .ref qv, .int bb, .long ab])), (qm, .inl (cA, 16, .inl mm)), (qv, .inl (cA, 16, .inl vo175))] H.size) [(h0, .inr (0, [.ref qh, .ref qm, .ref qv, .int bb, .long ab])), (qm, .inl (cA, 16, .inl mm)), (qv, .inl (cA, 16, .inl vo201))] := hB.2.2
  obtain ⟨hP, hD⟩ := va_join (wr := []) (w1 := [(h0, .inr (0, [.ref qh, .ref qm, .ref qv, .int bb, .long ab])), (qm, .inl (cA, 16, .inl mm)), (qv, .inl (cA, 16, .inl vo201))]) hP hD [0, 1, 2] [] rfl rfl (by decide) (by decide) hk1 hFc hP1 hD1
  clear hw hB hk1 hPc hDc hFc hP1 hD1 hvm hz1
  generalize H1 = H at hP hS ⊢
  have hP : va_P (dC, dI) vwCl [(h0, .inr (0, [.ref qh, .ref qm, .ref qv, .int bb, .long ab])), (qm, .inl (cA, 16, .inl mm)), (qv, .inl (cA, 16, .inl vo201))] H := hP
  have hD : va_D A [(h0, .inr (0, [.ref qh, .ref qm, .ref qv, .int bb, .long ab])), (qm, .inl (cA, 16, .inl mm)), (qv, .inl (cA, 16, .inl vo201))] := hD
  have hP9 := hP.sub (ws' := [(h0, .inr (0, [.ref qh, .ref qm, .ref qv, .int bb, .long ab])), (qm, .inl (cA, 16, .inl mm)), (qv, .inl (cA, 16, .inl vo201))]) [0, 1, 2] rfl
  have hD9 := hD.sub (ws' := [(h0, .inr (0, [.ref qh, .ref qm, .ref qv, .int bb, .long ab])), (qm, .inl (cA, 16, .inl mm)), (qv, .inl (cA, 16, .inl vo201))]) [0, 1, 2] (by decide) rfl
  exact W.vret hx hb hr (fun t ht hW => ⟨⟨(vo201), rfl, (by dsimp only; rw [hw201, hw175, hw148, hw121, hw95, hw68, hw43, hw19]; rfl), by rw [ht]; exact hP9, va_K.moved hW.alike hK, hD9⟩, hS.F ht⟩) hS.2.2 dX0_mixRound_204

set_option maxHeartbeats 4000000 in
set_option maxRecDepth 100000 in
theorem cX0_mix_ok (l : Launch) (dC : Nat → ClassId) (dI : Nat → Nat → Nat) (cA : ClassId) (tb : Nat → Nat) (sz : Nat) (h0 : Nat) (qh : Nat) (qm : Nat) (qv : Nat) (hh : Nat → Int32) (mm : Nat → Int32) (vv : Nat → Int32) (bb : Int32) (ab : Int64) (lm : Int32) : Met l yX0_mix wsX0_mix ({ frames := 3, cells := 0, slots := 0, locals := 68 }) (va_Pc [.ref h0, .int lm] (kd_I (dC, dI) cA tb sz [(h0, .inr (0, [.ref qh, .ref qm, .ref qv, .int bb, .long ab])), (qh, .inl (cA, 8, .inl hh)), (qm, .inl (cA, 16, .inl mm)), (qv, .inl (cA, 16, .inl vv))])) (va_Qv (fun (u : (Nat → Int32)) => True) (fun u t => kd_O (dC, dI) cA (va_A [(h0, .inr (0, [.ref qh, .ref qm, .ref qv, .int bb, .long ab])), (qh, .inl (cA, 8, .inl hh)), (qm, .inl (cA, 16, .inl mm)), (qv, .inl (cA, 16, .inl vv))] sz) [(h0, .inr (0, [.ref qh, .ref qm, .ref qv, .int bb, .long ab])), (qh, .inl (cA, 8, .inl (kd_mix hh mm ab lm))), (qm, .inl (cA, 16, .inl mm)), (qv, .inl (cA, 16, .inl u))] t) (va_A [(h0, .inr (0, [.ref qh, .ref qm, .ref qv, .int bb, .long ab])), (qh, .inl (cA, 8, .inl hh)), (qm, .inl (cA, 16, .inl mm)), (qv, .inl (cA, 16, .inl vv))] sz)) 0 0 (va_A [(h0, .inr (0, [.ref qh, .ref qm, .ref qv, .int bb, .long ab])), (qh, .inl (cA, 8, .inl hh)), (qm, .inl (cA, 16, .inl mm)), (qv, .inl (cA, 16, .inl vv))] sz) := by
  refine Met.ofW (cc := cX0_mix) (maxL := 3) (ret := none) (by decide) rfl ?_
  intro p e s m args below meth c s₁ B hml hv
  obtain ⟨rfl, hsz, hP, hK, hD0, hT⟩ := hv
  have hx := B.exec
  have hb := B.bytes
  have hr := B.returns
  have hts := atoms_spec (ws := wsX0_mix) B.pre
  have hown : s.vm.findClass RX0 = some m.cls := findClass_of_methodNamed B.named
  have hlocks := B.notSynchronized
  have ki0 : ∀ w ∈ u_ws RX0 TX0 5, w ∈ wsX0_mix := by decide +kernel
  have k1 := hts (.fieldLink RX0 16 "KeyedDigest$Chain" "v" "[I") (by decide +kernel)
  have k2 := hts (.fieldLink RX0 23 "KeyedDigest$Chain" "allBytes" "J") (by decide +kernel)
  have k3 := hts (.fieldLink RX0 9 "KeyedDigest$Chain" "h" "[I") (by decide +kernel)
  have k4 := hts (.fieldLink RX0 27 "KeyedDigest$Chain" "IV" "[I") (by decide +kernel)
  subst hsz
  have hD := hD0.self (sz := s.heap.size)
  generalize hAe : va_A [(h0, .inr (0, [.ref qh, .ref qm, .ref qv, .int bb, .long ab])), (qh, .inl (cA, 8, .inl hh)), (qm, .inl (cA, 16, .inl mm)), (qv, .inl (cA, 16, .inl vv))] s.heap.size = A at hD hT ⊢
  have hA : ∀ q : Nat, s.heap.size ≤ q → A q := fun q h => by rw [← hAe]; exact Or.inr h
  have hS : va_S A s.heap s.heap [] := va_S.rf
  have hP : va_P (dC, dI) vwCl [(h0, .inr (0, [.ref qh, .ref qm, .ref qv, .int bb, .long ab])), (qh, .inl (cA, 8, .inl hh)), (qm, .inl (cA, 16, .inl mm)), (qv, .inl (cA, 16, .inl vv))] s.heap := hP
  have hl := lv_entry ([.ref h0, .int lm]) (n := 3) (Nat.le_of_ble_eq_true rfl)
  rw [lg_entry_eq]
  generalize (lg_sl ([.ref h0, .int lm]) ++ List.replicate (3 - (lg_sl ([.ref h0, .int lm])).length) Slot.unset).toArray = ls at hl ⊢
  have hl : lv_has ls 3 [(0, .ref h0), (1, .int lm)] := hl
  refine lv_iconst (v := 0) hx hb dX0_mix_0 (by decide) ?_
  refine lv_istore_n (lv' := [(2, .int 0), (0, .ref h0), (1, .int lm)]) hx hb dX0_mix_1 rfl hl (by decide) rfl (fun ls hl => ?_)
  have lp1 : ∀ (k : Nat) (i : Nat) (x : Int32) (f : Nat → Int32), (i ≤ 8) → (8 - i < k) → (x = nI i) → (∀ j, j < i → f j = hh j ∧ f (j + 8) = kd_iv j) → ∀ (H : Heap) (locs : List Loc) (ls : Array Slot), va_P (dC, dI) vwCl [(h0, .inr (0, [.ref qh, .ref qm, .ref qv, .int bb, .long ab])), (qh, .inl (cA, 8, .inl hh)), (qm, .inl (cA, 16, .inl mm)), (qv, .inl (cA, 16, .inl f))] H → va_D A [(h0, .inr (0, [.ref qh, .ref qm, .ref qv, .int bb, .long ab])), (qh, .inl (cA, 8, .inl hh)), (qm, .inl (cA, 16, .inl mm)), (qv, .inl (cA, 16, .inl f))] → va_S A s.heap H locs → lv_has ls 3 [(2, .int x), (0, .ref h0), (1, .int lm)] → W p l e (headSpec wsX0_mix { frames := 3, cells := 0, slots := 0, locals := 68 }).room s m ([.ref h0, .int lm]).toArray below meth c H locs 0 0 (MQ below (va_Qv (fun (u : (Nat → Int32)) => True) (fun u t => kd_O (dC, dI) cA A [(h0, .inr (0, [.ref qh, .ref qm, .ref qv, .int bb, .long ab])), (qh, .inl (cA, 8, .inl (kd_mix hh mm ab lm))), (qm, .inl (cA, 16, .inl mm)), (qv, .inl (cA, 16, .inl u))] t) A) ([.ref h0, .int lm]).toArray s 0 0 A) (F0 m 2 ls []) := by
    intro k
    induction k with
    | zero =>
      intro i x f hi hk ex hf
      omega
    | succ k ih =>
      intro i x f hi hk ex hf H locs ls hP hD hS hl
      refine lv_iload_n hx hb dX0_mix_2 rfl (lv_at hl 0 rfl) ?_
      refine lv_bipush (v := 8) hx hb dX0_mix_3 (by decide) ?_
      refine lv_icmp_ge (tgt := 40) hx hb dX0_mix_5 (by decide) (fun c5 => ?_) (fun c5 => ?_)
      · have hge : 8 ≤ i := kd_ge (n := 8) ex (by omega) (by decide) c5
        have hP := kd_arrP hP hD 3 rfl (kd_v00 hh) (fun j hj => kd_v00_of hf hge j hj)
        have hD := hD.set (p := 3) (e := .inl (cA, 16, .inl (kd_v00 hh))) rfl
        have hP : va_P (dC, dI) vwCl [(h0, .inr (0, [.ref qh, .ref qm, .ref qv, .int bb, .long ab])), (qh, .inl (cA, 8, .inl hh)), (qm, .inl (cA, 16, .inl mm)), (qv, .inl (cA, 16, .inl (kd_v00 hh)))] H := hP
        have hD : va_D A [(h0, .inr (0, [.ref qh, .ref qm, .ref qv, .int bb, .long ab])), (qh, .inl (cA, 8, .inl hh)), (qm, .inl (cA, 16, .inl mm)), (qv, .inl (cA, 16, .inl (kd_v00 hh)))] := hD
        refine lv_aload_n hx hb dX0_mix_40 rfl (lv_at hl 1 rfl) ?_
        refine va_get (D := (dC, dI)) (ci := 0) (v := .ref qv) (C := RX0) (T := TX0) (N := 5) hx hb hts ki0 hown hK hP 0 rfl rfl 2 (by decide) k1 (fun _ h9 => h9) rfl dX0_mix_41 ?_
        refine lv_bipush (v := 12) hx hb dX0_mix_44 (by decide) ?_
        refine lv_dup2_11 hx hb dX0_mix_46 rfl rfl ?_
        refine kd_ild 12 hx hb hK hP 3 0 rfl rfl rfl (by decide) (by decide) dX0_mix_47 ?_
        refine lv_aload_n hx hb dX0_mix_48 rfl (lv_at hl 1 rfl) ?_
        refine va_get (D := (dC, dI)) (ci := 0) (v := .long ab) (C := RX0) (T := TX0) (N := 5) hx hb hts ki0 hown hK hP 0 rfl rfl 4 (by decide) k2 (fun _ h9 => h9) rfl dX0_mix_49 ?_
        refine lv_l2i (v := ab.toInt32) hx hb dX0_mix_52 rfl ?_
        refine lv_ixor hx hb dX0_mix_53 ?_
        refine lv_topi (fun x54 ex54 => ?_)
        refine kd_ist 12 hx hb hK hP hD hS 3 0 rfl rfl rfl (by decide) (by decide) dX0_mix_54 (fun f54 ef54 H locs hP hD hS => ?_)
        have hP : va_P (dC, dI) vwCl [(h0, .inr (0, [.ref qh, .ref qm, .ref qv, .int bb, .long ab])), (qh, .inl (cA, 8, .inl hh)), (qm, .inl (cA, 16, .inl mm)), (qv, .inl (cA, 16, .inl f54))] H := hP
        have hD : va_D A [(h0, .inr (0, [.ref qh, .ref qm, .ref qv, .int bb, .long ab])), (qh, .inl (cA, 8, .inl hh)), (qm, .inl (cA, 16, .inl mm)), (qv, .inl (cA, 16, .inl f54))] := hD
        refine lv_aload_n hx hb dX0_mix_55 rfl (lv_at hl 1 rfl) ?_
        refine va_get (D := (dC, dI)) (ci := 0) (v := .ref qv) (C := RX0) (T := TX0) (N := 5) hx hb hts ki0 hown hK hP 0 rfl rfl 2 (by decide) k1 (fun _ h9 => h9) rfl dX0_mix_56 ?_
        refine lv_bipush (v := 13) hx hb dX0_mix_59 (by decide) ?_
        refine lv_dup2_11 hx hb dX0_mix_61 rfl rfl ?_
        refine kd_ild 13 hx hb hK hP 3 0 rfl rfl rfl (by decide) (by decide) dX0_mix_62 ?_
        refine lv_aload_n hx hb dX0_mix_63 rfl (lv_at hl 1 rfl) ?_
        refine va_get (D := (dC, dI)) (ci := 0) (v := .long ab) (C := RX0) (T := TX0) (N := 5) hx hb hts ki0 hown hK hP 0 rfl rfl 4 (by decide) k2 (fun _ h9 => h9) rfl dX0_mix_64 ?_
        refine lv_bipush (v := 32) hx hb dX0_mix_67 (by decide) ?_
        refine lv_lushr (v := kd_lushr ab 32) hx hb dX0_mix_69 rfl ?_
        refine lv_l2i (v := (kd_lushr ab 32).toInt32) hx hb dX0_mix_70 rfl ?_
        refine lv_ixor hx hb dX0_mix_71 ?_
        refine lv_topi (fun x72 ex72 => ?_)
        refine kd_ist 13 hx hb hK hP hD hS 3 0 rfl rfl rfl (by decide) (by decide) dX0_mix_72 (fun f72 ef72 H locs hP hD hS => ?_)
        have hP : va_P (dC, dI) vwCl [(h0, .inr (0, [.ref qh, .ref qm, .ref qv, .int bb, .long ab])), (qh, .inl (cA, 8, .inl hh)), (qm, .inl (cA, 16, .inl mm)), (qv, .inl (cA, 16, .inl f72))] H := hP
        have hD : va_D A [(h0, .inr (0, [.ref qh, .ref qm, .ref qv, .int bb, .long ab])), (qh, .inl (cA, 8, .inl hh)), (qm, .inl (cA, 16, .inl mm)), (qv, .inl (cA, 16, .inl f72))] := hD
        refine lv_aload_n hx hb dX0_mix_73 rfl (lv_at hl 1 rfl) ?_
        refine va_get (D := (dC, dI)) (ci := 0) (v := .ref qv) (C := RX0) (T := TX0) (N := 5) hx hb hts ki0 hown hK hP 0 rfl rfl 2 (by decide) k1 (fun _ h9 => h9) rfl dX0_mix_74 ?_
        refine lv_bipush (v := 14) hx hb dX0_mix_77 (by decide) ?_
        refine lv_dup2_11 hx hb dX0_mix_79 rfl rfl ?_
        refine kd_ild 14 hx hb hK hP 3 0 rfl rfl rfl (by decide) (by decide) dX0_mix_80 ?_
        refine lv_iload_n hx hb dX0_mix_81 rfl (lv_at hl 2 rfl) ?_
        refine lv_ixor hx hb dX0_mix_82 ?_
        refine lv_topi (fun x83 ex83 => ?_)
        refine kd_ist 14 hx hb hK hP hD hS 3 0 rfl rfl rfl (by decide) (by decide) dX0_mix_83 (fun f83 ef83 H locs hP hD hS => ?_)
        have hP : va_P (dC, dI) vwCl [(h0, .inr (0, [.ref qh, .ref qm, .ref qv, .int bb, .long ab])), (qh, .inl (cA, 8, .inl hh)), (qm, .inl (cA, 16, .inl mm)), (qv, .inl (cA, 16, .inl f83))] H := hP
        have hD : va_D A [(h0, .inr (0, [.ref qh, .ref qm, .ref qv, .int bb, .long ab])), (qh, .inl (cA, 8, .inl hh)), (qm, .inl (cA, 16, .inl mm)), (qv, .inl (cA, 16, .inl f83))] := hD
        obtain rfl : f83 = kd_v0 hh ab lm := by rw [ef83, ex83, ef72, ex72, ef54, ex54]; rfl
        have hP : va_P (dC, dI) vwCl [(h0, .inr (0, [.ref qh, .ref qm, .ref qv, .int bb, .long ab])), (qh, .inl (cA, 8, .inl hh)), (qm, .inl (cA, 16, .inl mm)), (qv, .inl (cA, 16, .inl (kd_v0 hh ab lm)))] H := hP
        have hD : va_D A [(h0, .inr (0, [.ref qh, .ref qm, .ref qv, .int bb, .long ab])), (qh, .inl (cA, 8, .inl hh)), (qm, .inl (cA, 16, .inl mm)), (qv, .inl (cA, 16, .inl (kd_v0 hh ab lm)))] := hD
        refine lv_iconst (v := 0) hx hb dX0_mix_84 (by decide) ?_
        refine lv_istore_n (lv' := [(2, .int 0), (0, .ref h0), (1, .int lm)]) hx hb dX0_mix_85 rfl hl (by decide) rfl (fun ls hl => ?_)
        have lp2 : ∀ (k : Nat) (n : Nat) (y : Int32) (g : Nat → Int32), (n ≤ 10) → (10 - n < k) → (y = nI n) → (g = kd_rounds mm n (kd_v0 hh ab lm)) → ∀ (H : Heap) (locs : List Loc) (ls : Array Slot), va_P (dC, dI) vwCl [(h0, .inr (0, [.ref qh, .ref qm, .ref qv, .int bb, .long ab])), (qh, .inl (cA, 8, .inl hh)), (qm, .inl (cA, 16, .inl mm)), (qv, .inl (cA, 16, .inl g))] H → va_D A [(h0, .inr (0, [.ref qh, .ref qm, .ref qv, .int bb, .long ab])), (qh, .inl (cA, 8, .inl hh)), (qm, .inl (cA, 16, .inl mm)), (qv, .inl (cA, 16, .inl g))] → va_S A s.heap H locs → lv_has ls 3 [(2, .int y), (0, .ref h0), (1, .int lm)] → W p l e (headSpec wsX0_mix { frames := 3, cells := 0, slots := 0, locals := 68 }).room s m ([.ref h0, .int lm]).toArray below meth c H locs 0 0 (MQ below (va_Qv (fun (u : (Nat → Int32)) => True) (fun u t => kd_O (dC, dI) cA A [(h0, .inr (0, [.ref qh, .ref qm, .ref qv, .int bb, .long ab])), (qh, .inl (cA, 8, .inl (kd_mix hh mm ab lm))), (qm, .inl (cA, 16, .inl mm)), (qv, .inl (cA, 16, .inl u))] t) A) ([.ref h0, .int lm]).toArray s 0 0 A) (F0 m 86 ls []) := by
          intro k
          induction k with
          | zero =>
            intro n y g hi hk ey hg
            omega
          | succ k ih =>
            intro n y g hi hk ey hg H locs ls hP hD hS hl
            refine lv_iload_n hx hb dX0_mix_86 rfl (lv_at hl 0 rfl) ?_
            refine lv_bipush (v := 10) hx hb dX0_mix_87 (by decide) ?_
            refine lv_icmp_ge (tgt := 106) hx hb dX0_mix_89 (by decide) (fun c89 => ?_) (fun c89 => ?_)
            · have hge : 10 ≤ n := kd_ge (n := 10) ey (by omega) (by decide) c89
              obtain rfl : n = 10 := by omega
              subst hg
              refine lv_iconst (v := 0) hx hb dX0_mix_106 (by decide) ?_
              refine lv_istore_n (lv' := [(2, .int 0), (0, .ref h0), (1, .int lm)]) hx hb dX0_mix_107 rfl hl (by decide) rfl (fun ls hl => ?_)
              have lp3 : ∀ (k : Nat) (j : Nat) (z : Int32) (g3 : Nat → Int32), (j ≤ 8) → (8 - j < k) → (z = nI j) → (∀ q, g3 q = if q < j then kd_mix hh mm ab lm q else hh q) → ∀ (H : Heap) (locs : List Loc) (ls : Array Slot), va_P (dC, dI) vwCl [(h0, .inr (0, [.ref qh, .ref qm, .ref qv, .int bb, .long ab])), (qh, .inl (cA, 8, .inl g3)), (qm, .inl (cA, 16, .inl mm)), (qv, .inl (cA, 16, .inl (kd_rounds mm 10 (kd_v0 hh ab lm))))] H → va_D A [(h0, .inr (0, [.ref qh, .ref qm, .ref qv, .int bb, .long ab])), (qh, .inl (cA, 8, .inl g3)), (qm, .inl (cA, 16, .inl mm)), (qv, .inl (cA, 16, .inl (kd_rounds mm 10 (kd_v0 hh ab lm))))] → va_S A s.heap H locs → lv_has ls 3 [(2, .int z), (0, .ref h0), (1, .int lm)] → W p l e (headSpec wsX0_mix { frames := 3, cells := 0, slots := 0, locals := 68 }).room s m ([.ref h0, .int lm]).toArray below meth c H locs 0 0 (MQ below (va_Qv (fun (u : (Nat → Int32)) => True) (fun u t => kd_O (dC, dI) cA A [(h0, .inr (0, [.ref qh, .ref qm, .ref qv, .int bb, .long ab])), (qh, .inl (cA, 8, .inl (kd_mix hh mm ab lm))), (qm, .inl (cA, 16, .inl mm)), (qv, .inl (cA, 16, .inl u))] t) A) ([.ref h0, .int lm]).toArray s 0 0 A) (F0 m 108 ls []) := by
                intro k
                induction k with
                | zero =>
                  intro j z g3 hi hk ez hg3
                  omega
                | succ k ih =>
                  intro j z g3 hi hk ez hg3 H locs ls hP hD hS hl
                  refine lv_iload_n hx hb dX0_mix_108 rfl (lv_at hl 0 rfl) ?_
                  refine lv_bipush (v := 8) hx hb dX0_mix_109 (by decide) ?_
                  refine lv_icmp_ge (tgt := 145) hx hb dX0_mix_111 (by decide) (fun c111 => ?_) (fun c111 => ?_)
                  · have hge : 8 ≤ j := kd_ge (n := 8) ez (by omega) (by decide) c111
                    have hP := kd_arrP hP hD 1 rfl (kd_mix hh mm ab lm) (fun q hq => by rw [hg3 q, if_pos (by omega)])
                    have hD := hD.set (p := 1) (e := .inl (cA, 8, .inl (kd_mix hh mm ab lm))) rfl
                    have hP : va_P (dC, dI) vwCl [(h0, .inr (0, [.ref qh, .ref qm, .ref qv, .int bb, .long ab])), (qh, .inl (cA, 8, .inl (kd_mix hh mm ab lm))), (qm, .inl (cA, 16, .inl mm)), (qv, .inl (cA, 16, .inl (kd_rounds mm 10 (kd_v0 hh ab lm))))] H := hP
                    have hD : va_D A [(h0, .inr (0, [.ref qh, .ref qm, .ref qv, .int bb, .long ab])), (qh, .inl (cA, 8, .inl (kd_mix hh mm ab lm))), (qm, .inl (cA, 16, .inl mm)), (qv, .inl (cA, 16, .inl (kd_rounds mm 10 (kd_v0 hh ab lm))))] := hD
                    have hP9 := hP.sub (ws' := [(h0, .inr (0, [.ref qh, .ref qm, .ref qv, .int bb, .long ab])), (qh, .inl (cA, 8, .inl (kd_mix hh mm ab lm))), (qm, .inl (cA, 16, .inl mm)), (qv, .inl (cA, 16, .inl (kd_rounds mm 10 (kd_v0 hh ab lm))))]) [0, 1, 2, 3] rfl
                    have hD9 := hD.sub (ws' := [(h0, .inr (0, [.ref qh, .ref qm, .ref qv, .int bb, .long ab])), (qh, .inl (cA, 8, .inl (kd_mix hh mm ab lm))), (qm, .inl (cA, 16, .inl mm)), (qv, .inl (cA, 16, .inl (kd_rounds mm 10 (kd_v0 hh ab lm))))]) [0, 1, 2, 3] (by decide) rfl
                    exact W.vret hx hb hr (fun t ht hW => ⟨⟨(kd_rounds mm 10 (kd_v0 hh ab lm)), rfl, trivial, by rw [ht]; exact hP9, va_K.moved hW.alike hK, hD9⟩, hS.F ht⟩) hS.2.2 dX0_mix_145
                  · have hlt : j < 8 := kd_lt (n := 8) ez (by omega) (by decide) c111
                    refine lv_aload_n hx hb dX0_mix_114 rfl (lv_at hl 1 rfl) ?_
                    refine va_get (D := (dC, dI)) (ci := 0) (v := .ref qh) (C := RX0) (T := TX0) (N := 5) hx hb hts ki0 hown hK hP 0 rfl rfl 0 (by decide) k3 (fun _ h9 => h9) rfl dX0_mix_115 ?_
                    refine lv_iload_n hx hb dX0_mix_118 rfl (lv_at hl 0 rfl) ?_
                    refine lv_dup2_11 hx hb dX0_mix_119 rfl rfl ?_
                    refine kd_ild j hx hb hK hP 1 0 rfl rfl ez hlt (by decide) dX0_mix_120 ?_
                    refine lv_aload_n hx hb dX0_mix_121 rfl (lv_at hl 1 rfl) ?_
                    refine va_get (D := (dC, dI)) (ci := 0) (v := .ref qv) (C := RX0) (T := TX0) (N := 5) hx hb hts ki0 hown hK hP 0 rfl rfl 2 (by decide) k1 (fun _ h9 => h9) rfl dX0_mix_122 ?_
                    refine lv_iload_n hx hb dX0_mix_125 rfl (lv_at hl 0 rfl) ?_
                    refine kd_ild j hx hb hK hP 3 0 rfl rfl ez (by omega) (by decide) dX0_mix_126 ?_
                    refine lv_aload_n hx hb dX0_mix_127 rfl (lv_at hl 1 rfl) ?_
                    refine va_get (D := (dC, dI)) (ci := 0) (v := .ref qv) (C := RX0) (T := TX0) (N := 5) hx hb hts ki0 hown hK hP 0 rfl rfl 2 (by decide) k1 (fun _ h9 => h9) rfl dX0_mix_128 ?_
                    refine lv_iload_n hx hb dX0_mix_131 rfl (lv_at hl 0 rfl) ?_
                    refine lv_bipush (v := 8) hx hb dX0_mix_132 (by decide) ?_
                    refine lv_iadd hx hb dX0_mix_134 ?_
                    refine kd_ild (j + 8) hx hb hK hP 3 0 rfl rfl (by rw [ez]; exact nI_add _ _) (by omega) (by decide) dX0_mix_135 ?_
                    refine lv_ixor hx hb dX0_mix_136 ?_
                    refine lv_ixor hx hb dX0_mix_137 ?_
                    refine lv_topi (fun x138 ex138 => ?_)
                    refine kd_ist j hx hb hK hP hD hS 1 0 rfl rfl ez hlt (by decide) dX0_mix_138 (fun f138 ef138 H locs hP hD hS => ?_)
                    have hP : va_P (dC, dI) vwCl [(h0, .inr (0, [.ref qh, .ref qm, .ref qv, .int bb, .long ab])), (qh, .inl (cA, 8, .inl f138)), (qm, .inl (cA, 16, .inl mm)), (qv, .inl (cA, 16, .inl (kd_rounds mm 10 (kd_v0 hh ab lm))))] H := hP
                    have hD : va_D A [(h0, .inr (0, [.ref qh, .ref qm, .ref qv, .int bb, .long ab])), (qh, .inl (cA, 8, .inl f138)), (qm, .inl (cA, 16, .inl mm)), (qv, .inl (cA, 16, .inl (kd_rounds mm 10 (kd_v0 hh ab lm))))] := hD
                    obtain ⟨x139, ex139⟩ : ∃ zz : Int32, zz = z + 1 := ⟨_, rfl⟩
                    refine lv_iinc (v := x139) (lv' := [(2, .int x139), (0, .ref h0), (1, .int lm)]) hx hb dX0_mix_139 hl (k := 0) rfl (by rw [ex139]; rfl) (by decide) rfl (fun ls hl => ?_)
                    refine lv_goto (tgt := 108) hx hb dX0_mix_142 (by decide) ?_
                    exact ih  (j + 1) x139 f138 (by omega) (by omega) (by rw [ex139, ez]; exact nI_1 j) (by rw [ef138, ex138]; exact kd_finStep hg3) _ _ ls (hP.sub [0, 1, 2, 3] rfl) (hD.sub [0, 1, 2, 3] (by decide) rfl) hS (lv_sub hl [0, 1, 2] rfl)
              exact lp3 9 0 0 hh (by omega) (by omega) rfl (fun q => (if_neg (Nat.not_lt_zero q)).symm) _ _ ls (hP.sub [0, 1, 2, 3] rfl) (hD.sub [0, 1, 2, 3] (by decide) rfl) hS (lv_sub hl [0, 1, 2] rfl)
            · have hlt : n < 10 := kd_lt (n := 10) ey (by omega) (by decide) c89
              refine lv_aload_n hx hb dX0_mix_92 rfl (lv_at hl 1 rfl) ?_
              refine lv_bipush (v := 16) hx hb dX0_mix_93 (by decide) ?_
              refine lv_iload_n hx hb dX0_mix_95 rfl (lv_at hl 0 rfl) ?_
              refine lv_imul hx hb dX0_mix_96 ?_
              have hPc := hP.sub (ws' := [(h0, .inr (0, [.ref qh, .ref qm, .ref qv, .int bb, .long ab])), (qm, .inl (cA, 16, .inl mm)), (qv, .inl (cA, 16, .inl g))]) [0, 2, 3] rfl
              have hDc := hD.sub (ws' := [(h0, .inr (0, [.ref qh, .ref qm, .ref qv, .int bb, .long ab])), (qm, .inl (cA, 16, .inl mm)), (qv, .inl (cA, 16, .inl g))]) [0, 2, 3] (by decide) rfl
              have hFc := va_free (wc := [(h0, .inr (0, [.ref qh, .ref qm, .ref qv, .int bb, .long ab])), (qm, .inl (cA, 16, .inl mm)), (qv, .inl (cA, 16, .inl g))]) hD hS hA [0, 2, 3] rfl
              refine va_callv (va_runV (As := [.int (16 * y)]) (rest := []) ⟨hx, hb, hml, hown, hts⟩ (cX0_mixRound_ok l dC dI cA tb H.size h0 qh qm qv mm g bb ab (16 * y) n hlt (by rw [ey]; exact pk_mul 16 n)) (cwV 1 hts gX0_mix_X0_mixRound rfl rfl rfl (by decide +kernel) ⟨Nat.le_of_ble_eq_true rfl, Nat.le_of_ble_eq_true rfl⟩) ⟨fun a U g mk q => kd_calling rfl rfl q, va_recv hK hPc (ci := 0) (q0 := 0) rfl rfl, fun U hU hW => ⟨rfl, kd_pre hPc hK hDc hT hS hFc U hU hW⟩⟩ rfl rfl hl.1 rfl (lv_room (Nat.le_of_ble_eq_true rfl)) dX0_mix_97 ⟨Nat.le_of_ble_eq_true rfl, Nat.le_of_ble_eq_true rfl⟩) hS (fun q _ h => hFc q h) hFc (fun u t H1 locs ht hvm hw hB hz1 hk1 hS => ?_)
              obtain ⟨vo97, rfl⟩ : ∃ z, z = u := ⟨_, rfl⟩
              have hw97 : vo97 = kd_round mm n g := hw
              have hP1 : va_P (dC, dI) vwCl [(h0, .inr (0, [.ref qh, .ref qm, .ref qv, .int bb, .long ab])), (qm, .inl (cA, 16, .inl mm)), (qv, .inl (cA, 16, .inl vo97))] H1 := by rw [← ht]; exact hB.1
              have hD1 : va_D (va_A [(h0, .inr (0, [.ref qh, .ref qm, .ref qv, .int bb, .long ab])), (qm, .inl (cA, 16, .inl mm)), (qv, .inl (cA, 16, .inl g))] H.size) [(h0, .inr (0, [.ref qh, .ref qm, .ref qv, .int bb, .long ab])), (qm, .inl (cA, 16, .inl mm)), (qv, .inl (cA, 16, .inl vo97))] := hB.2.2
              obtain ⟨hP, hD⟩ := va_join (wr := [(qh, .inl (cA, 8, .inl hh))]) (w1 := [(h0, .inr (0, [.ref qh, .ref qm, .ref qv, .int bb, .long ab])), (qm, .inl (cA, 16, .inl mm)), (qv, .inl (cA, 16, .inl vo97))]) hP hD [0, 2, 3] [1] rfl rfl (by decide) (by decide) hk1 hFc hP1 hD1
              clear hw hB hk1 hPc hDc hFc hP1 hD1 hvm hz1
              generalize H1 = H at hP hS ⊢
              have hP : va_P (dC, dI) vwCl [(qh, .inl (cA, 8, .inl hh)), (h0, .inr (0, [.ref qh, .ref qm, .ref qv, .int bb, .long ab])), (qm, .inl (cA, 16, .inl mm)), (qv, .inl (cA, 16, .inl vo97))] H := hP
              have hD : va_D A [(qh, .inl (cA, 8, .inl hh)), (h0, .inr (0, [.ref qh, .ref qm, .ref qv, .int bb, .long ab])), (qm, .inl (cA, 16, .inl mm)), (qv, .inl (cA, 16, .inl vo97))] := hD
              obtain ⟨x100, ex100⟩ : ∃ zz : Int32, zz = y + 1 := ⟨_, rfl⟩
              refine lv_iinc (v := x100) (lv' := [(2, .int x100), (0, .ref h0), (1, .int lm)]) hx hb dX0_mix_100 hl (k := 0) rfl (by rw [ex100]; rfl) (by decide) rfl (fun ls hl => ?_)
              refine lv_goto (tgt := 86) hx hb dX0_mix_103 (by decide) ?_
              exact ih  (n + 1) x100 vo97 (by omega) (by omega) (by rw [ex100, ey]; exact nI_1 n) (by rw [hw97, hg]; rfl) _ _ ls (hP.sub [1, 0, 2, 3] rfl) (hD.sub [1, 0, 2, 3] (by decide) rfl) hS (lv_sub hl [0, 1, 2] rfl)
        exact lp2 11 0 0 (kd_v0 hh ab lm) (by omega) (by omega) rfl rfl _ _ ls (hP.sub [0, 1, 2, 3] rfl) (hD.sub [0, 1, 2, 3] (by decide) rfl) hS (lv_sub hl [0, 1, 2] rfl)
      · have hlt : i < 8 := kd_lt (n := 8) ex (by omega) (by decide) c5
        refine lv_aload_n hx hb dX0_mix_8 rfl (lv_at hl 1 rfl) ?_
        refine va_get (D := (dC, dI)) (ci := 0) (v := .ref qv) (C := RX0) (T := TX0) (N := 5) hx hb hts ki0 hown hK hP 0 rfl rfl 2 (by decide) k1 (fun _ h9 => h9) rfl dX0_mix_9 ?_
        refine lv_iload_n hx hb dX0_mix_12 rfl (lv_at hl 0 rfl) ?_
        refine lv_aload_n hx hb dX0_mix_13 rfl (lv_at hl 1 rfl) ?_
        refine va_get (D := (dC, dI)) (ci := 0) (v := .ref qh) (C := RX0) (T := TX0) (N := 5) hx hb hts ki0 hown hK hP 0 rfl rfl 0 (by decide) k3 (fun _ h9 => h9) rfl dX0_mix_14 ?_
        refine lv_iload_n hx hb dX0_mix_17 rfl (lv_at hl 0 rfl) ?_
        refine kd_ild i hx hb hK hP 1 0 rfl rfl ex hlt (by decide) dX0_mix_18 ?_
        refine lv_topi (fun x19 ex19 => ?_)
        refine kd_ist i hx hb hK hP hD hS 3 0 rfl rfl ex (by omega) (by decide) dX0_mix_19 (fun f19 ef19 H locs hP hD hS => ?_)
        have hP : va_P (dC, dI) vwCl [(h0, .inr (0, [.ref qh, .ref qm, .ref qv, .int bb, .long ab])), (qh, .inl (cA, 8, .inl hh)), (qm, .inl (cA, 16, .inl mm)), (qv, .inl (cA, 16, .inl f19))] H := hP
        have hD : va_D A [(h0, .inr (0, [.ref qh, .ref qm, .ref qv, .int bb, .long ab])), (qh, .inl (cA, 8, .inl hh)), (qm, .inl (cA, 16, .inl mm)), (qv, .inl (cA, 16, .inl f19))] := hD
        refine lv_aload_n hx hb dX0_mix_20 rfl (lv_at hl 1 rfl) ?_
        refine va_get (D := (dC, dI)) (ci := 0) (v := .ref qv) (C := RX0) (T := TX0) (N := 5) hx hb hts ki0 hown hK hP 0 rfl rfl 2 (by decide) k1 (fun _ h9 => h9) rfl dX0_mix_21 ?_
        refine lv_iload_n hx hb dX0_mix_24 rfl (lv_at hl 0 rfl) ?_
        refine lv_bipush (v := 8) hx hb dX0_mix_25 (by decide) ?_
        refine lv_iadd hx hb dX0_mix_27 ?_
        refine va_gets hx hb hT.1 hS hown k4 (fun _ h9 => h9) dX0_mix_28 ?_
        refine lv_iload_n hx hb dX0_mix_31 rfl (lv_at hl 0 rfl) ?_
        refine kd_ti i hx hb hT.2.1 hS ex hlt (by decide) dX0_mix_32 ?_
        refine lv_topi (fun x33 ex33 => ?_)
        refine kd_ist (i + 8) hx hb hK hP hD hS 3 0 rfl rfl (by rw [ex]; exact nI_add _ _) (by omega) (by decide) dX0_mix_33 (fun f33 ef33 H locs hP hD hS => ?_)
        have hP : va_P (dC, dI) vwCl [(h0, .inr (0, [.ref qh, .ref qm, .ref qv, .int bb, .long ab])), (qh, .inl (cA, 8, .inl hh)), (qm, .inl (cA, 16, .inl mm)), (qv, .inl (cA, 16, .inl f33))] H := hP
        have hD : va_D A [(h0, .inr (0, [.ref qh, .ref qm, .ref qv, .int bb, .long ab])), (qh, .inl (cA, 8, .inl hh)), (qm, .inl (cA, 16, .inl mm)), (qv, .inl (cA, 16, .inl f33))] := hD
        obtain ⟨x34, ex34⟩ : ∃ zz : Int32, zz = x + 1 := ⟨_, rfl⟩
        refine lv_iinc (v := x34) (lv' := [(2, .int x34), (0, .ref h0), (1, .int lm)]) hx hb dX0_mix_34 hl (k := 0) rfl (by rw [ex34]; rfl) (by decide) rfl (fun ls hl => ?_)
        refine lv_goto (tgt := 2) hx hb dX0_mix_37 (by decide) ?_
        exact ih  (i + 1) x34 f33 (by omega) (by omega) (by rw [ex34, ex]; exact nI_1 i) (fun j hj => by rw [ef33, ef19, ex19, ex33]; exact kd_two hf hj hlt) _ _ ls (hP.sub [0, 1, 2, 3] rfl) (hD.sub [0, 1, 2, 3] (by decide) rfl) hS (lv_sub hl [0, 1, 2] rfl)
  exact lp1 9 0 0 vv (by omega) (by omega) rfl (fun j hj => absurd hj (Nat.not_lt_zero j)) _ _ ls (hP.sub [0, 1, 2, 3] rfl) (hD.sub [0, 1, 2, 3] (by decide) rfl) hS (lv_sub hl [0, 1, 2] rfl)
