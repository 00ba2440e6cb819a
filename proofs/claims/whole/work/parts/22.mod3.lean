set_option maxHeartbeats 4000000 in
set_option maxRecDepth 100000 in
theorem cX2_take_ok (l : Launch) (dC : Nat → ClassId) (dI : Nat → Nat → Nat) (cA : ClassId) (tb : Nat → Nat) (sz : Nat) (h0 : Nat) (qk : Nat) (qh : Nat) (qv : Nat) (qm : Nat) (qb : Nat) (qr : Nat) (rd : Int32) (op : Int32) (dn : Int32) (hh : Nat → Int32) (vv : Nat → Int32) (mm : Nat → Int32) (bl : Nat → Int32) (kn : Nat) (mx : Int64) (ln : Int32) (nn : Int32) (b : Int32) (hk : kn ≤ 64) : Met l yX2_take wsX2_take ({ frames := 3, cells := 0, slots := 0, locals := 71 }) (va_Pc [.ref h0, .int b] (kd_I (dC, dI) cA tb sz [(h0, .inr (2, [.int rd, .int op, .int dn, .ref qk, .ref qh, .ref qv, .ref qm, .ref qb, .int (nI kn), .long mx, .int ln, .int nn, .ref qr])), (qh, .inl (cA, 8, .inl hh)), (qv, .inl (cA, 16, .inl vv)), (qm, .inl (cA, 16, .inl mm)), (qb, .inl (cA, 64, .inl bl)), (qr, .inl (cA, 160, .inl kd_PL))])) (va_Qv (fun (u : (Nat → Int32) × (Nat → Int32) × (Nat → Int32) × (Nat → Int32) × Nat × Int64) => (u.1, u.2.2.2.1, u.2.2.2.2.1, u.2.2.2.2.2) = kd_take b (hh, bl, kn, mx)) (fun u t => kd_O (dC, dI) cA (va_A [(h0, .inr (2, [.int rd, .int op, .int dn, .ref qk, .ref qh, .ref qv, .ref qm, .ref qb, .int (nI kn), .long mx, .int ln, .int nn, .ref qr])), (qh, .inl (cA, 8, .inl hh)), (qv, .inl (cA, 16, .inl vv)), (qm, .inl (cA, 16, .inl mm)), (qb, .inl (cA, 64, .inl bl)), (qr, .inl (cA, 160, .inl kd_PL))] sz) [(h0, .inr (2, [.int rd, .int op, .int dn, .ref qk, .ref qh, .ref qv, .ref qm, .ref qb, .int (nI u.2.2.2.2.1), .long u.2.2.2.2.2, .int ln, .int nn, .ref qr])), (qh, .inl (cA, 8, .inl u.1)), (qv, .inl (cA, 16, .inl u.2.2.1)), (qm, .inl (cA, 16, .inl u.2.1)), (qb, .inl (cA, 64, .inl u.2.2.2.1)), (qr, .inl (cA, 160, .inl kd_PL))] t) (va_A [(h0, .inr (2, [.int rd, .int op, .int dn, .ref qk, .ref qh, .ref qv, .ref qm, .ref qb, .int (nI kn), .long mx, .int ln, .int nn, .ref qr])), (qh, .inl (cA, 8, .inl hh)), (qv, .inl (cA, 16, .inl vv)), (qm, .inl (cA, 16, .inl mm)), (qb, .inl (cA, 64, .inl bl)), (qr, .inl (cA, 160, .inl kd_PL))] sz)) 0 0 (va_A [(h0, .inr (2, [.int rd, .int op, .int dn, .ref qk, .ref qh, .ref qv, .ref qm, .ref qb, .int (nI kn), .long mx, .int ln, .int nn, .ref qr])), (qh, .inl (cA, 8, .inl hh)), (qv, .inl (cA, 16, .inl vv)), (qm, .inl (cA, 16, .inl mm)), (qb, .inl (cA, 64, .inl bl)), (qr, .inl (cA, 160, .inl kd_PL))] sz) := by
  refine Met.ofW (cc := cX2_take) (maxL := 2) (ret := none) (by decide) rfl ?_
  intro p e s m args below meth c s₁ B hml hv
  obtain ⟨rfl, hsz, hP, hK, hD0, hT⟩ := hv
  have hx := B.exec
  have hb := B.bytes
  have hr := B.returns
  have hts := atoms_spec (ws := wsX2_take) B.pre
  have hown : s.vm.findClass RX2 = some m.cls := findClass_of_methodNamed B.named
  have hlocks := B.notSynchronized
  have ki2 : ∀ w ∈ u_ws RX2 TX2 13, w ∈ wsX2_take := by decide +kernel
  have k1 := hts (.fieldLink RX2 55 "KeyedDigestModel" "filled" "I") (by decide +kernel)
  have k2 := hts (.fieldLink RX2 22 "KeyedDigestModel" "block" "[I") (by decide +kernel)
  have k3 := hts (.fieldLink RX2 58 "KeyedDigestModel" "mixed" "J") (by decide +kernel)
  have k4 := hts (.constantLong RX2 69 64) (by decide +kernel)
  subst hsz
  have hD := hD0.self (sz := s.heap.size)
  generalize hAe : va_A [(h0, .inr (2, [.int rd, .int op, .int dn, .ref qk, .ref qh, .ref qv, .ref qm, .ref qb, .int (nI kn), .long mx, .int ln, .int nn, .ref qr])), (qh, .inl (cA, 8, .inl hh)), (qv, .inl (cA, 16, .inl vv)), (qm, .inl (cA, 16, .inl mm)), (qb, .inl (cA, 64, .inl bl)), (qr, .inl (cA, 160, .inl kd_PL))] s.heap.size = A at hD hT ⊢
  have hA : ∀ q : Nat, s.heap.size ≤ q → A q := fun q h => by rw [← hAe]; exact Or.inr h
  have hS : va_S A s.heap s.heap [] := va_S.rf
  have hP : va_P (dC, dI) vwCl [(h0, .inr (2, [.int rd, .int op, .int dn, .ref qk, .ref qh, .ref qv, .ref qm, .ref qb, .int (nI kn), .long mx, .int ln, .int nn, .ref qr])), (qh, .inl (cA, 8, .inl hh)), (qv, .inl (cA, 16, .inl vv)), (qm, .inl (cA, 16, .inl mm)), (qb, .inl (cA, 64, .inl bl)), (qr, .inl (cA, 160, .inl kd_PL))] s.heap := hP
  have hl := lv_entry ([.ref h0, .int b]) (n := 2) (Nat.le_of_ble_eq_true rfl)
  rw [lg_entry_eq]
  generalize (lg_sl ([.ref h0, .int b]) ++ List.replicate (2 - (lg_sl ([.ref h0, .int b])).length) Slot.unset).toArray = ls at hl ⊢
  have hl : lv_has ls 2 [(0, .ref h0), (1, .int b)] := hl
  refine lv_aload_n hx hb dX2_take_0 rfl (lv_at hl 0 rfl) ?_
  refine va_get (D := (dC, dI)) (ci := 2) (v := .int (nI kn)) (C := RX2) (T := TX2) (N := 13) hx hb hts ki2 hown hK hP 0 rfl rfl 8 (by decide) k1 (fun _ h9 => h9) rfl dX2_take_1 ?_
  refine lv_bipush (v := 64) hx hb dX2_take_4 (by decide) ?_
  refine lv_icmp_ne (tgt := 35) hx hb dX2_take_6 (by decide) (fun c6 => ?_) (fun c6 => ?_)
  · have hne : ¬ kn = 64 := fun h => c6 (by rw [h]; rfl)
    have hlt : kn < 64 := by omega
    refine lv_aload_n hx hb dX2_take_35 rfl (lv_at hl 0 rfl) ?_
    refine va_get (D := (dC, dI)) (ci := 2) (v := .ref qb) (C := RX2) (T := TX2) (N := 13) hx hb hts ki2 hown hK hP 0 rfl rfl 7 (by decide) k2 (fun _ h9 => h9) rfl dX2_take_36 ?_
    refine lv_aload_n hx hb dX2_take_39 rfl (lv_at hl 0 rfl) ?_
    refine va_get (D := (dC, dI)) (ci := 2) (v := .int (nI kn)) (C := RX2) (T := TX2) (N := 13) hx hb hts ki2 hown hK hP 0 rfl rfl 8 (by decide) k1 (fun _ h9 => h9) rfl dX2_take_40 ?_
    refine lv_iload_n hx hb dX2_take_43 rfl (lv_at hl 1 rfl) ?_
    refine kd_ist kn hx hb hK hP hD hS 4 0 rfl rfl rfl (by omega) (by decide) dX2_take_44 (fun f44 ef44 H locs hP hD hS => ?_)
    have hP : va_P (dC, dI) vwCl [(h0, .inr (2, [.int rd, .int op, .int dn, .ref qk, .ref qh, .ref qv, .ref qm, .ref qb, .int (nI kn), .long mx, .int ln, .int nn, .ref qr])), (qh, .inl (cA, 8, .inl hh)), (qv, .inl (cA, 16, .inl vv)), (qm, .inl (cA, 16, .inl mm)), (qb, .inl (cA, 64, .inl f44)), (qr, .inl (cA, 160, .inl kd_PL))] H := hP
    have hD : va_D A [(h0, .inr (2, [.int rd, .int op, .int dn, .ref qk, .ref qh, .ref qv, .ref qm, .ref qb, .int (nI kn), .long mx, .int ln, .int nn, .ref qr])), (qh, .inl (cA, 8, .inl hh)), (qv, .inl (cA, 16, .inl vv)), (qm, .inl (cA, 16, .inl mm)), (qb, .inl (cA, 64, .inl f44)), (qr, .inl (cA, 160, .inl kd_PL))] := hD
    refine lv_aload_n hx hb dX2_take_45 rfl (lv_at hl 0 rfl) ?_
    refine lv_dup hx hb dX2_take_46 rfl ?_
    refine va_get (D := (dC, dI)) (ci := 2) (v := .int (nI kn)) (C := RX2) (T := TX2) (N := 13) hx hb hts ki2 hown hK hP 0 rfl rfl 8 (by decide) k1 (fun _ h9 => h9) rfl dX2_take_47 ?_
    refine lv_iconst (v := 1) hx hb dX2_take_50 (by decide) ?_
    refine lv_iadd hx hb dX2_take_51 ?_
    refine lv_topi (fun x52 ex52 => ?_)
    refine va_put (D := (dC, dI)) (ci := 2) (v := .int x52) (ty := .int) (C := RX2) (T := TX2) (N := 13) hx hb hts ki2 tyX2 tyX2_ok nmX2 hown hK hP hD hS 0 rfl rfl 8 (by decide) k1 (fun _ h9 => h9) rfl (by decide +kernel) rfl rfl (Nat.le_of_ble_eq_true rfl) dX2_take_52 (fun H locs hP hD hS => ?_)
    have hP : va_P (dC, dI) vwCl [(h0, .inr (2, [.int rd, .int op, .int dn, .ref qk, .ref qh, .ref qv, .ref qm, .ref qb, .int x52, .long mx, .int ln, .int nn, .ref qr])), (qh, .inl (cA, 8, .inl hh)), (qv, .inl (cA, 16, .inl vv)), (qm, .inl (cA, 16, .inl mm)), (qb, .inl (cA, 64, .inl f44)), (qr, .inl (cA, 160, .inl kd_PL))] H := hP
    have hD : va_D A [(h0, .inr (2, [.int rd, .int op, .int dn, .ref qk, .ref qh, .ref qv, .ref qm, .ref qb, .int x52, .long mx, .int ln, .int nn, .ref qr])), (qh, .inl (cA, 8, .inl hh)), (qv, .inl (cA, 16, .inl vv)), (qm, .inl (cA, 16, .inl mm)), (qb, .inl (cA, 64, .inl f44)), (qr, .inl (cA, 160, .inl kd_PL))] := hD
    obtain rfl : x52 = nI (kn + 1) := by rw [ex52]; exact nI_1 kn
    have hP : va_P (dC, dI) vwCl [(h0, .inr (2, [.int rd, .int op, .int dn, .ref qk, .ref qh, .ref qv, .ref qm, .ref qb, .int (nI (kn + 1)), .long mx, .int ln, .int nn, .ref qr])), (qh, .inl (cA, 8, .inl hh)), (qv, .inl (cA, 16, .inl vv)), (qm, .inl (cA, 16, .inl mm)), (qb, .inl (cA, 64, .inl f44)), (qr, .inl (cA, 160, .inl kd_PL))] H := hP
    have hD : va_D A [(h0, .inr (2, [.int rd, .int op, .int dn, .ref qk, .ref qh, .ref qv, .ref qm, .ref qb, .int (nI (kn + 1)), .long mx, .int ln, .int nn, .ref qr])), (qh, .inl (cA, 8, .inl hh)), (qv, .inl (cA, 16, .inl vv)), (qm, .inl (cA, 16, .inl mm)), (qb, .inl (cA, 64, .inl f44)), (qr, .inl (cA, 160, .inl kd_PL))] := hD
    have hP9 := hP.sub (ws' := [(h0, .inr (2, [.int rd, .int op, .int dn, .ref qk, .ref qh, .ref qv, .ref qm, .ref qb, .int (nI (kn + 1)), .long mx, .int ln, .int nn, .ref qr])), (qh, .inl (cA, 8, .inl hh)), (qv, .inl (cA, 16, .inl vv)), (qm, .inl (cA, 16, .inl mm)), (qb, .inl (cA, 64, .inl f44)), (qr, .inl (cA, 160, .inl kd_PL))]) [0, 1, 2, 3, 4, 5] rfl
    have hD9 := hD.sub (ws' := [(h0, .inr (2, [.int rd, .int op, .int dn, .ref qk, .ref qh, .ref qv, .ref qm, .ref qb, .int (nI (kn + 1)), .long mx, .int ln, .int nn, .ref qr])), (qh, .inl (cA, 8, .inl hh)), (qv, .inl (cA, 16, .inl vv)), (qm, .inl (cA, 16, .inl mm)), (qb, .inl (cA, 64, .inl f44)), (qr, .inl (cA, 160, .inl kd_PL))]) [0, 1, 2, 3, 4, 5] (by decide) rfl
    exact W.vret hx hb hr (fun t ht hW => ⟨⟨(hh, mm, vv, f44, kn + 1, mx), rfl, (by dsimp only; unfold kd_take; rw [if_neg (show ¬ kn = 64 by omega), ef44]), by rw [ht]; exact hP9, va_K.moved hW.alike hK, hD9⟩, hS.F ht⟩) hS.2.2 dX2_take_55
  · have hk64 : kn = 64 := (nI_eq (b := 64) (by omega) (by decide)).mp c6
    subst hk64
    refine lv_aload_n hx hb dX2_take_9 rfl (lv_at hl 0 rfl) ?_
    refine lv_aload_n hx hb dX2_take_10 rfl (lv_at hl 0 rfl) ?_
    refine va_get (D := (dC, dI)) (ci := 2) (v := .long mx) (C := RX2) (T := TX2) (N := 13) hx hb hts ki2 hown hK hP 0 rfl rfl 9 (by decide) k3 (fun _ h9 => h9) rfl dX2_take_11 ?_
    refine lv_ldc2 (v := 64) hx hb hown k4 dX2_take_14 ?_
    refine lv_ladd hx hb dX2_take_17 ?_
    refine lv_topl (fun x18 ex18 => ?_)
    refine va_put (D := (dC, dI)) (ci := 2) (v := .long x18) (ty := .long) (C := RX2) (T := TX2) (N := 13) hx hb hts ki2 tyX2 tyX2_ok nmX2 hown hK hP hD hS 0 rfl rfl 9 (by decide) k3 (fun _ h9 => h9) rfl (by decide +kernel) rfl rfl (Nat.le_of_ble_eq_true rfl) dX2_take_18 (fun H locs hP hD hS => ?_)
    have hP : va_P (dC, dI) vwCl [(h0, .inr (2, [.int rd, .int op, .int dn, .ref qk, .ref qh, .ref qv, .ref qm, .ref qb, .int (nI 64), .long x18, .int ln, .int nn, .ref qr])), (qh, .inl (cA, 8, .inl hh)), (qv, .inl (cA, 16, .inl vv)), (qm, .inl (cA, 16, .inl mm)), (qb, .inl (cA, 64, .inl bl)), (qr, .inl (cA, 160, .inl kd_PL))] H := hP
    have hD : va_D A [(h0, .inr (2, [.int rd, .int op, .int dn, .ref qk, .ref qh, .ref qv, .ref qm, .ref qb, .int (nI 64), .long x18, .int ln, .int nn, .ref qr])), (qh, .inl (cA, 8, .inl hh)), (qv, .inl (cA, 16, .inl vv)), (qm, .inl (cA, 16, .inl mm)), (qb, .inl (cA, 64, .inl bl)), (qr, .inl (cA, 160, .inl kd_PL))] := hD
    refine lv_aload_n hx hb dX2_take_21 rfl (lv_at hl 0 rfl) ?_
    refine lv_aload_n hx hb dX2_take_22 rfl (lv_at hl 0 rfl) ?_
    refine va_get (D := (dC, dI)) (ci := 2) (v := .long x18) (C := RX2) (T := TX2) (N := 13) hx hb hts ki2 hown hK hP 0 rfl rfl 9 (by decide) k3 (fun _ h9 => h9) rfl dX2_take_23 ?_
    refine lv_iconst (v := 0) hx hb dX2_take_26 (by decide) ?_
    have hPc := hP.sub (ws' := [(h0, .inr (2, [.int rd, .int op, .int dn, .ref qk, .ref qh, .ref qv, .ref qm, .ref qb, .int (nI 64), .long x18, .int ln, .int nn, .ref qr])), (qh, .inl (cA, 8, .inl hh)), (qv, .inl (cA, 16, .inl vv)), (qm, .inl (cA, 16, .inl mm)), (qb, .inl (cA, 64, .inl bl)), (qr, .inl (cA, 160, .inl kd_PL))]) [0, 1, 2, 3, 4, 5] rfl
    have hDc := hD.sub (ws' := [(h0, .inr (2, [.int rd, .int op, .int dn, .ref qk, .ref qh, .ref qv, .ref qm, .ref qb, .int (nI 64), .long x18, .int ln, .int nn, .ref qr])), (qh, .inl (cA, 8, .inl hh)), (qv, .inl (cA, 16, .inl vv)), (qm, .inl (cA, 16, .inl mm)), (qb, .inl (cA, 64, .inl bl)), (qr, .inl (cA, 160, .inl kd_PL))]) [0, 1, 2, 3, 4, 5] (by decide) rfl
    have hFc := va_free (wc := [(h0, .inr (2, [.int rd, .int op, .int dn, .ref qk, .ref qh, .ref qv, .ref qm, .ref qb, .int (nI 64), .long x18, .int ln, .int nn, .ref qr])), (qh, .inl (cA, 8, .inl hh)), (qv, .inl (cA, 16, .inl vv)), (qm, .inl (cA, 16, .inl mm)), (qb, .inl (cA, 64, .inl bl)), (qr, .inl (cA, 160, .inl kd_PL))]) hD hS hA [0, 1, 2, 3, 4, 5] rfl
    refine va_callv (va_runV (As := [.long x18, .int 0]) (rest := []) ⟨hx, hb, hml, hown, hts⟩ (cX2_mix_ok l dC dI cA tb H.size h0 qk qh qv qm qb qr rd op dn hh vv mm bl x18 ln nn (nI 64) x18 0 ) (cwV 2 hts gX2_take_X2_mix rfl rfl rfl (by decide +kernel) ⟨Nat.le_of_ble_eq_true rfl, Nat.le_of_ble_eq_true rfl⟩) ⟨fun a U g mk q => kd_calling rfl rfl q, va_recv hK hPc (ci := 2) (q0 := 0) rfl rfl, fun U hU hW => ⟨rfl, kd_pre hPc hK hDc hT hS hFc U hU hW⟩⟩ rfl rfl hl.1 rfl (lv_room (Nat.le_of_ble_eq_true rfl)) dX2_take_27 ⟨Nat.le_of_ble_eq_true rfl, Nat.le_of_ble_eq_true rfl⟩) hS (fun q _ h => hFc q h) hFc (fun u t H1 locs ht hvm hw hB hz1 hk1 hS => ?_)
    obtain ⟨vo27, rfl⟩ : ∃ z, z = u := ⟨_, rfl⟩
    have hw27 : True := hw
    have hP1 : va_P (dC, dI) vwCl [(h0, .inr (2, [.int rd, .int op, .int dn, .ref qk, .ref qh, .ref qv, .ref qm, .ref qb, .int (nI 64), .long x18, .int ln, .int nn, .ref qr])), (qh, .inl (cA, 8, .inl (kd_mix hh (kd_wd bl) x18 (kd_lm 0)))), (qv, .inl (cA, 16, .inl vo27)), (qm, .inl (cA, 16, .inl (kd_wd bl))), (qb, .inl (cA, 64, .inl bl)), (qr, .inl (cA, 160, .inl kd_PL))] H1 := by rw [← ht]; exact hB.1
    have hD1 : va_D (va_A [(h0, .inr (2, [.int rd, .int op, .int dn, .ref qk, .ref qh, .ref qv, .ref qm, .ref qb, .int (nI 64), .long x18, .int ln, .int nn, .ref qr])), (qh, .inl (cA, 8, .inl hh)), (qv, .inl (cA, 16, .inl vv)), (qm, .inl (cA, 16, .inl mm)), (qb, .inl (cA, 64, .inl bl)), (qr, .inl (cA, 160, .inl kd_PL))] H.size) [(h0, .inr (2, [.int rd, .int op, .int dn, .ref qk, .ref qh, .ref qv, .ref qm, .ref qb, .int (nI 64), .long x18, .int ln, .int nn, .ref qr])), (qh, .inl (cA, 8, .inl (kd_mix hh (kd_wd bl) x18 (kd_lm 0)))), (qv, .inl (cA, 16, .inl vo27)), (qm, .inl (cA, 16, .inl (kd_wd bl))), (qb, .inl (cA, 64, .inl bl)), (qr, .inl (cA, 160, .inl kd_PL))] := hB.2.2
    obtain ⟨hP, hD⟩ := va_join (wr := []) (w1 := [(h0, .inr (2, [.int rd, .int op, .int dn, .ref qk, .ref qh, .ref qv, .ref qm, .ref qb, .int (nI 64), .long x18, .int ln, .int nn, .ref qr])), (qh, .inl (cA, 8, .inl (kd_mix hh (kd_wd bl) x18 (kd_lm 0)))), (qv, .inl (cA, 16, .inl vo27)), (qm, .inl (cA, 16, .inl (kd_wd bl))), (qb, .inl (cA, 64, .inl bl)), (qr, .inl (cA, 160, .inl kd_PL))]) hP hD [0, 1, 2, 3, 4, 5] [] rfl rfl (by decide) (by decide) hk1 hFc hP1 hD1
    clear hw hB hk1 hPc hDc hFc hP1 hD1 hvm hz1
    generalize H1 = H at hP hS ⊢
    have hP : va_P (dC, dI) vwCl [(h0, .inr (2, [.int rd, .int op, .int dn, .ref qk, .ref qh, .ref qv, .ref qm, .ref qb, .int (nI 64), .long x18, .int ln, .int nn, .ref qr])), (qh, .inl (cA, 8, .inl (kd_mix hh (kd_wd bl) x18 (kd_lm 0)))), (qv, .inl (cA, 16, .inl vo27)), (qm, .inl (cA, 16, .inl (kd_wd bl))), (qb, .inl (cA, 64, .inl bl)), (qr, .inl (cA, 160, .inl kd_PL))] H := hP
    have hD : va_D A [(h0, .inr (2, [.int rd, .int op, .int dn, .ref qk, .ref qh, .ref qv, .ref qm, .ref qb, .int (nI 64), .long x18, .int ln, .int nn, .ref qr])), (qh, .inl (cA, 8, .inl (kd_mix hh (kd_wd bl) x18 (kd_lm 0)))), (qv, .inl (cA, 16, .inl vo27)), (qm, .inl (cA, 16, .inl (kd_wd bl))), (qb, .inl (cA, 64, .inl bl)), (qr, .inl (cA, 160, .inl kd_PL))] := hD
    refine lv_aload_n hx hb dX2_take_30 rfl (lv_at hl 0 rfl) ?_
    refine lv_iconst (v := 0) hx hb dX2_take_31 (by decide) ?_
    refine va_put (D := (dC, dI)) (ci := 2) (v := .int 0) (ty := .int) (C := RX2) (T := TX2) (N := 13) hx hb hts ki2 tyX2 tyX2_ok nmX2 hown hK hP hD hS 0 rfl rfl 8 (by decide) k1 (fun _ h9 => h9) rfl (by decide +kernel) rfl rfl (Nat.le_of_ble_eq_true rfl) dX2_take_32 (fun H locs hP hD hS => ?_)
    have hP : va_P (dC, dI) vwCl [(h0, .inr (2, [.int rd, .int op, .int dn, .ref qk, .ref qh, .ref qv, .ref qm, .ref qb, .int 0, .long x18, .int ln, .int nn, .ref qr])), (qh, .inl (cA, 8, .inl (kd_mix hh (kd_wd bl) x18 (kd_lm 0)))), (qv, .inl (cA, 16, .inl vo27)), (qm, .inl (cA, 16, .inl (kd_wd bl))), (qb, .inl (cA, 64, .inl bl)), (qr, .inl (cA, 160, .inl kd_PL))] H := hP
    have hD : va_D A [(h0, .inr (2, [.int rd, .int op, .int dn, .ref qk, .ref qh, .ref qv, .ref qm, .ref qb, .int 0, .long x18, .int ln, .int nn, .ref qr])), (qh, .inl (cA, 8, .inl (kd_mix hh (kd_wd bl) x18 (kd_lm 0)))), (qv, .inl (cA, 16, .inl vo27)), (qm, .inl (cA, 16, .inl (kd_wd bl))), (qb, .inl (cA, 64, .inl bl)), (qr, .inl (cA, 160, .inl kd_PL))] := hD
    refine lv_aload_n hx hb dX2_take_35 rfl (lv_at hl 0 rfl) ?_
    refine va_get (D := (dC, dI)) (ci := 2) (v := .ref qb) (C := RX2) (T := TX2) (N := 13) hx hb hts ki2 hown hK hP 0 rfl rfl 7 (by decide) k2 (fun _ h9 => h9) rfl dX2_take_36 ?_
    refine lv_aload_n hx hb dX2_take_39 rfl (lv_at hl 0 rfl) ?_
    refine va_get (D := (dC, dI)) (ci := 2) (v := .int 0) (C := RX2) (T := TX2) (N := 13) hx hb hts ki2 hown hK hP 0 rfl rfl 8 (by decide) k1 (fun _ h9 => h9) rfl dX2_take_40 ?_
    refine lv_iload_n hx hb dX2_take_43 rfl (lv_at hl 1 rfl) ?_
    refine kd_ist 0 hx hb hK hP hD hS 4 0 rfl rfl rfl (by decide) (by decide) dX2_take_44 (fun f44 ef44 H locs hP hD hS => ?_)
    have hP : va_P (dC, dI) vwCl [(h0, .inr (2, [.int rd, .int op, .int dn, .ref qk, .ref qh, .ref qv, .ref qm, .ref qb, .int 0, .long x18, .int ln, .int nn, .ref qr])), (qh, .inl (cA, 8, .inl (kd_mix hh (kd_wd bl) x18 (kd_lm 0)))), (qv, .inl (cA, 16, .inl vo27)), (qm, .inl (cA, 16, .inl (kd_wd bl))), (qb, .inl (cA, 64, .inl f44)), (qr, .inl (cA, 160, .inl kd_PL))] H := hP
    have hD : va_D A [(h0, .inr (2, [.int rd, .int op, .int dn, .ref qk, .ref qh, .ref qv, .ref qm, .ref qb, .int 0, .long x18, .int ln, .int nn, .ref qr])), (qh, .inl (cA, 8, .inl (kd_mix hh (kd_wd bl) x18 (kd_lm 0)))), (qv, .inl (cA, 16, .inl vo27)), (qm, .inl (cA, 16, .inl (kd_wd bl))), (qb, .inl (cA, 64, .inl f44)), (qr, .inl (cA, 160, .inl kd_PL))] := hD
    refine lv_aload_n hx hb dX2_take_45 rfl (lv_at hl 0 rfl) ?_
    refine lv_dup hx hb dX2_take_46 rfl ?_
    refine va_get (D := (dC, dI)) (ci := 2) (v := .int 0) (C := RX2) (T := TX2) (N := 13) hx hb hts ki2 hown hK hP 0 rfl rfl 8 (by decide) k1 (fun _ h9 => h9) rfl dX2_take_47 ?_
    refine lv_iconst (v := 1) hx hb dX2_take_50 (by decide) ?_
    refine lv_iadd hx hb dX2_take_51 ?_
    refine lv_topi (fun x52 ex52 => ?_)
    refine va_put (D := (dC, dI)) (ci := 2) (v := .int x52) (ty := .int) (C := RX2) (T := TX2) (N := 13) hx hb hts ki2 tyX2 tyX2_ok nmX2 hown hK hP hD hS 0 rfl rfl 8 (by decide) k1 (fun _ h9 => h9) rfl (by decide +kernel) rfl rfl (Nat.le_of_ble_eq_true rfl) dX2_take_52 (fun H locs hP hD hS => ?_)
    have hP : va_P (dC, dI) vwCl [(h0, .inr (2, [.int rd, .int op, .int dn, .ref qk, .ref qh, .ref qv, .ref qm, .ref qb, .int x52, .long x18, .int ln, .int nn, .ref qr])), (qh, .inl (cA, 8, .inl (kd_mix hh (kd_wd bl) x18 (kd_lm 0)))), (qv, .inl (cA, 16, .inl vo27)), (qm, .inl (cA, 16, .inl (kd_wd bl))), (qb, .inl (cA, 64, .inl f44)), (qr, .inl (cA, 160, .inl kd_PL))] H := hP
    have hD : va_D A [(h0, .inr (2, [.int rd, .int op, .int dn, .ref qk, .ref qh, .ref qv, .ref qm, .ref qb, .int x52, .long x18, .int ln, .int nn, .ref qr])), (qh, .inl (cA, 8, .inl (kd_mix hh (kd_wd bl) x18 (kd_lm 0)))), (qv, .inl (cA, 16, .inl vo27)), (qm, .inl (cA, 16, .inl (kd_wd bl))), (qb, .inl (cA, 64, .inl f44)), (qr, .inl (cA, 160, .inl kd_PL))] := hD
    obtain rfl : x52 = nI 1 := by rw [ex52]; rfl
    have hP : va_P (dC, dI) vwCl [(h0, .inr (2, [.int rd, .int op, .int dn, .ref qk, .ref qh, .ref qv, .ref qm, .ref qb, .int (nI 1), .long x18, .int ln, .int nn, .ref qr])), (qh, .inl (cA, 8, .inl (kd_mix hh (kd_wd bl) x18 (kd_lm 0)))), (qv, .inl (cA, 16, .inl vo27)), (qm, .inl (cA, 16, .inl (kd_wd bl))), (qb, .inl (cA, 64, .inl f44)), (qr, .inl (cA, 160, .inl kd_PL))] H := hP
    have hD : va_D A [(h0, .inr (2, [.int rd, .int op, .int dn, .ref qk, .ref qh, .ref qv, .ref qm, .ref qb, .int (nI 1), .long x18, .int ln, .int nn, .ref qr])), (qh, .inl (cA, 8, .inl (kd_mix hh (kd_wd bl) x18 (kd_lm 0)))), (qv, .inl (cA, 16, .inl vo27)), (qm, .inl (cA, 16, .inl (kd_wd bl))), (qb, .inl (cA, 64, .inl f44)), (qr, .inl (cA, 160, .inl kd_PL))] := hD
    have hP9 := hP.sub (ws' := [(h0, .inr (2, [.int rd, .int op, .int dn, .ref qk, .ref qh, .ref qv, .ref qm, .ref qb, .int (nI 1), .long x18, .int ln, .int nn, .ref qr])), (qh, .inl (cA, 8, .inl (kd_mix hh (kd_wd bl) x18 (kd_lm 0)))), (qv, .inl (cA, 16, .inl vo27)), (qm, .inl (cA, 16, .inl (kd_wd bl))), (qb, .inl (cA, 64, .inl f44)), (qr, .inl (cA, 160, .inl kd_PL))]) [0, 1, 2, 3, 4, 5] rfl
    have hD9 := hD.sub (ws' := [(h0, .inr (2, [.int rd, .int op, .int dn, .ref qk, .ref qh, .ref qv, .ref qm, .ref qb, .int (nI 1), .long x18, .int ln, .int nn, .ref qr])), (qh, .inl (cA, 8, .inl (kd_mix hh (kd_wd bl) x18 (kd_lm 0)))), (qv, .inl (cA, 16, .inl vo27)), (qm, .inl (cA, 16, .inl (kd_wd bl))), (qb, .inl (cA, 64, .inl f44)), (qr, .inl (cA, 160, .inl kd_PL))]) [0, 1, 2, 3, 4, 5] (by decide) rfl
    exact W.vret hx hb hr (fun t ht hW => ⟨⟨(kd_mix hh (kd_wd bl) x18 (kd_lm 0), kd_wd bl, vo27, f44, 1, x18), rfl, (by dsimp only; unfold kd_take; rw [if_pos rfl, ef44, ex18]), by rw [ht]; exact hP9, va_K.moved hW.alike hK, hD9⟩, hS.F ht⟩) hS.2.2 dX2_take_55

set_option maxHeartbeats 4000000 in
set_option maxRecDepth 100000 in
theorem cX2_init__ok (l : Launch) (dC : Nat → ClassId) (dI : Nat → Nat → Nat) (cA : ClassId) (tb : Nat → Nat) (sz : Nat) (h0 : Nat) (qk : Nat) (qh : Nat) (qv : Nat) (qm : Nat) (qb : Nat) (qr : Nat) (rd : Int32) (op : Int32) (dn : Int32) (key : Nat → Int32) (mx : Int64) (ln : Int32) (nn : Int32) (bb : Int32) : Met l yX2_init_ wsX2_init_ ({ frames := 0, cells := 0, slots := 0, locals := 0 }) (va_Pc [.ref h0] (kd_I (dC, dI) cA tb sz [(h0, .inr (2, [.int rd, .int op, .int dn, .ref qk, .ref qh, .ref qv, .ref qm, .ref qb, .int bb, .long mx, .int ln, .int nn, .ref qr])), (qk, .inl (cA, 32, .inl key))])) (va_Qv (fun (u : Unit) => True) (fun u t => kd_O (dC, dI) cA (va_A [(h0, .inr (2, [.int rd, .int op, .int dn, .ref qk, .ref qh, .ref qv, .ref qm, .ref qb, .int bb, .long mx, .int ln, .int nn, .ref qr])), (qk, .inl (cA, 32, .inl key))] sz) [(h0, .inr (2, [.int 1, .int 0, .int 0, .ref qk, .ref qh, .ref qv, .ref qm, .ref qb, .int bb, .long mx, .int ln, .int nn, .ref qr])), (qk, .inl (cA, 32, .inl kd_0))] t) (va_A [(h0, .inr (2, [.int rd, .int op, .int dn, .ref qk, .ref qh, .ref qv, .ref qm, .ref qb, .int bb, .long mx, .int ln, .int nn, .ref qr])), (qk, .inl (cA, 32, .inl key))] sz)) 0 0 (va_A [(h0, .inr (2, [.int rd, .int op, .int dn, .ref qk, .ref qh, .ref qv, .ref qm, .ref qb, .int bb, .long mx, .int ln, .int nn, .ref qr])), (qk, .inl (cA, 32, .inl key))] sz) := by
  refine Met.ofW (cc := cX2_init_) (maxL := 2) (ret := none) (by decide) rfl ?_
  intro p e s m args below meth c s₁ B hml hv
  obtain ⟨rfl, hsz, hP, hK, hD0, hT⟩ := hv
  have hx := B.exec
  have hb := B.bytes
  have hr := B.returns
  have hts := atoms_spec (ws := wsX2_init_) B.pre
  have hown : s.vm.findClass RX2 = some m.cls := findClass_of_methodNamed B.named
  have hlocks := B.notSynchronized
  have ki2 : ∀ w ∈ u_ws RX2 TX2 13, w ∈ wsX2_init_ := by decide +kernel
  have k1 := hts (.fieldLink RX2 28 "KeyedDigestModel" "ready" "Z") (by decide +kernel)
  have k2 := hts (.fieldLink RX2 32 "KeyedDigestModel" "isOpen" "Z") (by decide +kernel)
  have k3 := hts (.fieldLink RX2 35 "KeyedDigestModel" "isDone" "Z") (by decide +kernel)
  have k4 := hts (.fieldLink RX2 7 "KeyedDigestModel" "key" "[I") (by decide +kernel)
  subst hsz
  have hD := hD0.self (sz := s.heap.size)
  generalize hAe : va_A [(h0, .inr (2, [.int rd, .int op, .int dn, .ref qk, .ref qh, .ref qv, .ref qm, .ref qb, .int bb, .long mx, .int ln, .int nn, .ref qr])), (qk, .inl (cA, 32, .inl key))] s.heap.size = A at hD hT ⊢
  have hA : ∀ q : Nat, s.heap.size ≤ q → A q := fun q h => by rw [← hAe]; exact Or.inr h
  have hS : va_S A s.heap s.heap [] := va_S.rf
  have hP : va_P (dC, dI) vwCl [(h0, .inr (2, [.int rd, .int op, .int dn, .ref qk, .ref qh, .ref qv, .ref qm, .ref qb, .int bb, .long mx, .int ln, .int nn, .ref qr])), (qk, .inl (cA, 32, .inl key))] s.heap := hP
  have hl := lv_entry ([.ref h0]) (n := 2) (Nat.le_of_ble_eq_true rfl)
  rw [lg_entry_eq]
  generalize (lg_sl ([.ref h0]) ++ List.replicate (2 - (lg_sl ([.ref h0])).length) Slot.unset).toArray = ls at hl ⊢
  have hl : lv_has ls 2 [(0, .ref h0)] := hl
  refine lv_aload_n hx hb dX2_init__0 rfl (lv_at hl 0 rfl) ?_
  refine lv_iconst (v := 1) hx hb dX2_init__1 (by decide) ?_
  refine va_put (D := (dC, dI)) (ci := 2) (v := .int 1) (ty := .boolean) (C := RX2) (T := TX2) (N := 13) hx hb hts ki2 tyX2 tyX2_ok nmX2 hown hK hP hD hS 0 rfl rfl 0 (by decide) k1 (fun _ h9 => h9) rfl (by decide +kernel) rfl rfl (Nat.le_of_ble_eq_true rfl) dX2_init__2 (fun H locs hP hD hS => ?_)
  have hP : va_P (dC, dI) vwCl [(h0, .inr (2, [.int 1, .int op, .int dn, .ref qk, .ref qh, .ref qv, .ref qm, .ref qb, .int bb, .long mx, .int ln, .int nn, .ref qr])), (qk, .inl (cA, 32, .inl key))] H := hP
  have hD : va_D A [(h0, .inr (2, [.int 1, .int op, .int dn, .ref qk, .ref qh, .ref qv, .ref qm, .ref qb, .int bb, .long mx, .int ln, .int nn, .ref qr])), (qk, .inl (cA, 32, .inl key))] := hD
  refine lv_aload_n hx hb dX2_init__5 rfl (lv_at hl 0 rfl) ?_
  refine lv_iconst (v := 0) hx hb dX2_init__6 (by decide) ?_
  refine va_put (D := (dC, dI)) (ci := 2) (v := .int 0) (ty := .boolean) (C := RX2) (T := TX2) (N := 13) hx hb hts ki2 tyX2 tyX2_ok nmX2 hown hK hP hD hS 0 rfl rfl 1 (by decide) k2 (fun _ h9 => h9) rfl (by decide +kernel) rfl rfl (Nat.le_of_ble_eq_true rfl) dX2_init__7 (fun H locs hP hD hS => ?_)
  have hP : va_P (dC, dI) vwCl [(h0, .inr (2, [.int 1, .int 0, .int dn, .ref qk, .ref qh, .ref qv, .ref qm, .ref qb, .int bb, .long mx, .int ln, .int nn, .ref qr])), (qk, .inl (cA, 32, .inl key))] H := hP
  have hD : va_D A [(h0, .inr (2, [.int 1, .int 0, .int dn, .ref qk, .ref qh, .ref qv, .ref qm, .ref qb, .int bb, .long mx, .int ln, .int nn, .ref qr])), (qk, .inl (cA, 32, .inl key))] := hD
  refine lv_aload_n hx hb dX2_init__10 rfl (lv_at hl 0 rfl) ?_
  refine lv_iconst (v := 0) hx hb dX2_init__11 (by decide) ?_
  refine va_put (D := (dC, dI)) (ci := 2) (v := .int 0) (ty := .boolean) (C := RX2) (T := TX2) (N := 13) hx hb hts ki2 tyX2 tyX2_ok nmX2 hown hK hP hD hS 0 rfl rfl 2 (by decide) k3 (fun _ h9 => h9) rfl (by decide +kernel) rfl rfl (Nat.le_of_ble_eq_true rfl) dX2_init__12 (fun H locs hP hD hS => ?_)
  have hP : va_P (dC, dI) vwCl [(h0, .inr (2, [.int 1, .int 0, .int 0, .ref qk, .ref qh, .ref qv, .ref qm, .ref qb, .int bb, .long mx, .int ln, .int nn, .ref qr])), (qk, .inl (cA, 32, .inl key))] H := hP
  have hD : va_D A [(h0, .inr (2, [.int 1, .int 0, .int 0, .ref qk, .ref qh, .ref qv, .ref qm, .ref qb, .int bb, .long mx, .int ln, .int nn, .ref qr])), (qk, .inl (cA, 32, .inl key))] := hD
  refine lv_iconst (v := 0) hx hb dX2_init__15 (by decide) ?_
  refine lv_istore_n (lv' := [(1, .int 0), (0, .ref h0)]) hx hb dX2_init__16 rfl hl (by decide) rfl (fun ls hl => ?_)
  have lp : ∀ (k : Nat) (i : Nat) (x : Int32) (f : Nat → Int32), (i ≤ 32) → (32 - i < k) → (x = nI i) → (∀ j, j < i → f j = 0) → ∀ (H : Heap) (locs : List Loc) (ls : Array Slot), va_P (dC, dI) vwCl [(h0, .inr (2, [.int 1, .int 0, .int 0, .ref qk, .ref qh, .ref qv, .ref qm, .ref qb, .int bb, .long mx, .int ln, .int nn, .ref qr])), (qk, .inl (cA, 32, .inl f))] H → va_D A [(h0, .inr (2, [.int 1, .int 0, .int 0, .ref qk, .ref qh, .ref qv, .ref qm, .ref qb, .int bb, .long mx, .int ln, .int nn, .ref qr])), (qk, .inl (cA, 32, .inl f))] → va_S A s.heap H locs → lv_has ls 2 [(1, .int x), (0, .ref h0)] → W p l e (headSpec wsX2_init_ { frames := 0, cells := 0, slots := 0, locals := 0 }).room s m ([.ref h0]).toArray below meth c H locs 0 0 (MQ below (va_Qv (fun (u : Unit) => True) (fun u t => kd_O (dC, dI) cA A [(h0, .inr (2, [.int 1, .int 0, .int 0, .ref qk, .ref qh, .ref qv, .ref qm, .ref qb, .int bb, .long mx, .int ln, .int nn, .ref qr])), (qk, .inl (cA, 32, .inl kd_0))] t) A) ([.ref h0]).toArray s 0 0 A) (F0 m 17 ls []) := by
    intro k
    induction k with
    | zero =>
      intro i x f hi hk ex hf
      omega
    | succ k ih =>
      intro i x f hi hk ex hf H locs ls hP hD hS hl
      refine lv_iload_n hx hb dX2_init__17 rfl (lv_at hl 0 rfl) ?_
      refine lv_bipush (v := 32) hx hb dX2_init__18 (by decide) ?_
      refine lv_icmp_ge (tgt := 36) hx hb dX2_init__20 (by decide) (fun c20 => ?_) (fun c20 => ?_)
      · have hge : 32 ≤ i := kd_ge (n := 32) ex (by omega) (by decide) c20
        have hP := kd_arrP hP hD 1 rfl kd_0 (fun j hj => hf j (by omega))
        have hD := hD.set (p := 1) (e := .inl (cA, 32, .inl kd_0)) rfl
        have hP : va_P (dC, dI) vwCl [(h0, .inr (2, [.int 1, .int 0, .int 0, .ref qk, .ref qh, .ref qv, .ref qm, .ref qb, .int bb, .long mx, .int ln, .int nn, .ref qr])), (qk, .inl (cA, 32, .inl kd_0))] H := hP
        have hD : va_D A [(h0, .inr (2, [.int 1, .int 0, .int 0, .ref qk, .ref qh, .ref qv, .ref qm, .ref qb, .int bb, .long mx, .int ln, .int nn, .ref qr])), (qk, .inl (cA, 32, .inl kd_0))] := hD
        have hP9 := hP.sub (ws' := [(h0, .inr (2, [.int 1, .int 0, .int 0, .ref qk, .ref qh, .ref qv, .ref qm, .ref qb, .int bb, .long mx, .int ln, .int nn, .ref qr])), (qk, .inl (cA, 32, .inl kd_0))]) [0, 1] rfl
        have hD9 := hD.sub (ws' := [(h0, .inr (2, [.int 1, .int 0, .int 0, .ref qk, .ref qh, .ref qv, .ref qm, .ref qb, .int bb, .long mx, .int ln, .int nn, .ref qr])), (qk, .inl (cA, 32, .inl kd_0))]) [0, 1] (by decide) rfl
        exact W.vret hx hb hr (fun t ht hW => ⟨⟨(), rfl, trivial, by rw [ht]; exact hP9, va_K.moved hW.alike hK, hD9⟩, hS.F ht⟩) hS.2.2 dX2_init__36
      · have hlt : i < 32 := kd_lt (n := 32) ex (by omega) (by decide) c20
        refine lv_aload_n hx hb dX2_init__23 rfl (lv_at hl 1 rfl) ?_
        refine va_get (D := (dC, dI)) (ci := 2) (v := .ref qk) (C := RX2) (T := TX2) (N := 13) hx hb hts ki2 hown hK hP 0 rfl rfl 3 (by decide) k4 (fun _ h9 => h9) rfl dX2_init__24 ?_
        refine lv_iload_n hx hb dX2_init__27 rfl (lv_at hl 0 rfl) ?_
        refine lv_iconst (v := 0) hx hb dX2_init__28 (by decide) ?_
        refine kd_ist i hx hb hK hP hD hS 1 0 rfl rfl ex hlt (by decide) dX2_init__29 (fun f29 ef29 H locs hP hD hS => ?_)
        have hP : va_P (dC, dI) vwCl [(h0, .inr (2, [.int 1, .int 0, .int 0, .ref qk, .ref qh, .ref qv, .ref qm, .ref qb, .int bb, .long mx, .int ln, .int nn, .ref qr])), (qk, .inl (cA, 32, .inl f29))] H := hP
        have hD : va_D A [(h0, .inr (2, [.int 1, .int 0, .int 0, .ref qk, .ref qh, .ref qv, .ref qm, .ref qb, .int bb, .long mx, .int ln, .int nn, .ref qr])), (qk, .inl (cA, 32, .inl f29))] := hD
        obtain ⟨x30, ex30⟩ : ∃ zz : Int32, zz = x + 1 := ⟨_, rfl⟩
        refine lv_iinc (v := x30) (lv' := [(1, .int x30), (0, .ref h0)]) hx hb dX2_init__30 hl (k := 0) rfl (by rw [ex30]; rfl) (by decide) rfl (fun ls hl => ?_)
        refine lv_goto (tgt := 17) hx hb dX2_init__33 (by decide) ?_
        exact ih  (i + 1) x30 f29 (by omega) (by omega) (by rw [ex30, ex]; exact nI_1 i) (fun j hj => by rw [ef29]; unfold upd; split; rfl; exact hf j (by omega)) _ _ ls (hP.sub [0, 1] rfl) (hD.sub [0, 1] (by decide) rfl) hS (lv_sub hl [0, 1] rfl)
  exact lp 33 0 0 key (by omega) (by omega) rfl (fun j hj => absurd hj (Nat.not_lt_zero j)) _ _ ls (hP.sub [0, 1] rfl) (hD.sub [0, 1] (by decide) rfl) hS (lv_sub hl [0, 1] rfl)

set_option maxHeartbeats 4000000 in
set_option maxRecDepth 100000 in
theorem cX2_setKeyByte_ok (l : Launch) (dC : Nat → ClassId) (dI : Nat → Nat → Nat) (cA : ClassId) (tb : Nat → Nat) (sz : Nat) (h0 : Nat) (qk : Nat) (qh : Nat) (qv : Nat) (qm : Nat) (qb : Nat) (qr : Nat) (rd : Int32) (op : Int32) (dn : Int32) (key : Nat → Int32) (mx : Int64) (ln : Int32) (nn : Int32) (bb : Int32) (i : Int32) (b : Int32) : Met l yX2_setKeyByte wsX2_setKeyByte ({ frames := 0, cells := 0, slots := 0, locals := 0 }) (va_Pc [.ref h0, .int i, .int b] (kd_I (dC, dI) cA tb sz [(h0, .inr (2, [.int rd, .int op, .int dn, .ref qk, .ref qh, .ref qv, .ref qm, .ref qb, .int bb, .long mx, .int ln, .int nn, .ref qr])), (qk, .inl (cA, 32, .inl key))])) (va_Qi (fun (r : Int32) (u : (Nat → Int32)) => (r, u) = kd_set (i < 0 ∨ 32 ≤ i ∨ b < 0 ∨ 256 ≤ b ∨ ¬ op = 0) key i b) (fun u t => kd_O (dC, dI) cA (va_A [(h0, .inr (2, [.int rd, .int op, .int dn, .ref qk, .ref qh, .ref qv, .ref qm, .ref qb, .int bb, .long mx, .int ln, .int nn, .ref qr])), (qk, .inl (cA, 32, .inl key))] sz) [(h0, .inr (2, [.int rd, .int op, .int dn, .ref qk, .ref qh, .ref qv, .ref qm, .ref qb, .int bb, .long mx, .int ln, .int nn, .ref qr])), (qk, .inl (cA, 32, .inl u))] t) (va_A [(h0, .inr (2, [.int rd, .int op, .int dn, .ref qk, .ref qh, .ref qv, .ref qm, .ref qb, .int bb, .long mx, .int ln, .int nn, .ref qr])), (qk, .inl (cA, 32, .inl key))] sz)) 0 0 (va_A [(h0, .inr (2, [.int rd, .int op, .int dn, .ref qk, .ref qh, .ref qv, .ref qm, .ref qb, .int bb, .long mx, .int ln, .int nn, .ref qr])), (qk, .inl (cA, 32, .inl key))] sz) := by
  refine Met.ofW (cc := cX2_setKeyByte) (maxL := 4) (ret := (some .boolean)) (by decide) rfl ?_
  intro p e s m args below meth c s₁ B hml hv
  obtain ⟨rfl, hsz, hP, hK, hD0, hT⟩ := hv
  have hx := B.exec
  have hb := B.bytes
  have hr := B.returns
  have hts := atoms_spec (ws := wsX2_setKeyByte) B.pre
  have hown : s.vm.findClass RX2 = some m.cls := findClass_of_methodNamed B.named
  have hlocks := B.notSynchronized
  have ki2 : ∀ w ∈ u_ws RX2 TX2 13, w ∈ wsX2_setKeyByte := by decide +kernel
  have k1 := hts (.fieldLink RX2 32 "KeyedDigestModel" "isOpen" "Z") (by decide +kernel)
  have k2 := hts (.fieldLink RX2 7 "KeyedDigestModel" "key" "[I") (by decide +kernel)
  subst hsz
  have hD := hD0.self (sz := s.heap.size)
  generalize hAe : va_A [(h0, .inr (2, [.int rd, .int op, .int dn, .ref qk, .ref qh, .ref qv, .ref qm, .ref qb, .int bb, .long mx, .int ln, .int nn, .ref qr])), (qk, .inl (cA, 32, .inl key))] s.heap.size = A at hD hT ⊢
  have hA : ∀ q : Nat, s.heap.size ≤ q → A q := fun q h => by rw [← hAe]; exact Or.inr h
  have hS : va_S A s.heap s.heap [] := va_S.rf
  have hP : va_P (dC, dI) vwCl [(h0, .inr (2, [.int rd, .int op, .int dn, .ref qk, .ref qh, .ref qv, .ref qm, .ref qb, .int bb, .long mx, .int ln, .int nn, .ref qr])), (qk, .inl (cA, 32, .inl key))] s.heap := hP
  have hl := lv_entry ([.ref h0, .int i, .int b]) (n := 4) (Nat.le_of_ble_eq_true rfl)
  rw [lg_entry_eq]
  generalize (lg_sl ([.ref h0, .int i, .int b]) ++ List.replicate (4 - (lg_sl ([.ref h0, .int i, .int b])).length) Slot.unset).toArray = ls at hl ⊢
  have hl : lv_has ls 4 [(0, .ref h0), (1, .int i), (2, .int b)] := hl
  refine lv_iload_n hx hb dX2_setKeyByte_0 rfl (lv_at hl 1 rfl) ?_
  refine lv_if_lt (tgt := 32) hx hb dX2_setKeyByte_1 (by decide) (fun c1 => ?_) (fun c1 => ?_)
  · refine lv_iconst (v := 0) hx hb dX2_setKeyByte_32 (by decide) ?_
    refine lv_istore_n (lv' := [(3, .int 0), (0, .ref h0), (1, .int i), (2, .int b)]) hx hb dX2_setKeyByte_33 rfl hl (by decide) rfl (fun ls hl => ?_)
    refine lv_iload_n hx hb dX2_setKeyByte_34 rfl (lv_at hl 0 rfl) ?_
    refine lv_if_eq (tgt := 45) hx hb dX2_setKeyByte_35 (by decide) (fun c35 => ?_) (fun c35 => ?_)
    · refine lv_iload_n hx hb dX2_setKeyByte_45 rfl (lv_at hl 0 rfl) ?_
      have hP9 := hP.sub (ws' := [(h0, .inr (2, [.int rd, .int op, .int dn, .ref qk, .ref qh, .ref qv, .ref qm, .ref qb, .int bb, .long mx, .int ln, .int nn, .ref qr])), (qk, .inl (cA, 32, .inl key))]) [0, 1] rfl
      have hD9 := hD.sub (ws' := [(h0, .inr (2, [.int rd, .int op, .int dn, .ref qk, .ref qh, .ref qv, .ref qm, .ref qb, .int bb, .long mx, .int ln, .int nn, .ref qr])), (qk, .inl (cA, 32, .inl key))]) [0, 1] (by decide) rfl
      exact W.zret (v := 0) hx hb hr (by rfl) (fun t ht hW => ⟨⟨0, (key), rfl, ((if_pos (Or.inl c1))).symm, by rw [ht]; exact hP9, va_K.moved hW.alike hK, hD9⟩, hS.F ht⟩) hS.2.2 dX2_setKeyByte_46
    · exact absurd rfl c35
  · refine lv_iload_n hx hb dX2_setKeyByte_4 rfl (lv_at hl 1 rfl) ?_
    refine lv_bipush (v := 32) hx hb dX2_setKeyByte_5 (by decide) ?_
    refine lv_icmp_ge (tgt := 32) hx hb dX2_setKeyByte_7 (by decide) (fun c7 => ?_) (fun c7 => ?_)
    · refine lv_iconst (v := 0) hx hb dX2_setKeyByte_32 (by decide) ?_
      refine lv_istore_n (lv' := [(3, .int 0), (0, .ref h0), (1, .int i), (2, .int b)]) hx hb dX2_setKeyByte_33 rfl hl (by decide) rfl (fun ls hl => ?_)
      refine lv_iload_n hx hb dX2_setKeyByte_34 rfl (lv_at hl 0 rfl) ?_
      refine lv_if_eq (tgt := 45) hx hb dX2_setKeyByte_35 (by decide) (fun c35 => ?_) (fun c35 => ?_)
      · refine lv_iload_n hx hb dX2_setKeyByte_45 rfl (lv_at hl 0 rfl) ?_
        have hP9 := hP.sub (ws' := [(h0, .inr (2, [.int rd, .int op, .int dn, .ref qk, .ref qh, .ref qv, .ref qm, .ref qb, .int bb, .long mx, .int ln, .int nn, .ref qr])), (qk, .inl (cA, 32, .inl key))]) [0, 1] rfl
        have hD9 := hD.sub (ws' := [(h0, .inr (2, [.int rd, .int op, .int dn, .ref qk, .ref qh, .ref qv, .ref qm, .ref qb, .int bb, .long mx, .int ln, .int nn, .ref qr])), (qk, .inl (cA, 32, .inl key))]) [0, 1] (by decide) rfl
        exact W.zret (v := 0) hx hb hr (by rfl) (fun t ht hW => ⟨⟨0, (key), rfl, ((if_pos (Or.inr (Or.inl c7)))).symm, by rw [ht]; exact hP9, va_K.moved hW.alike hK, hD9⟩, hS.F ht⟩) hS.2.2 dX2_setKeyByte_46
      · exact absurd rfl c35
    · refine lv_iload_n hx hb dX2_setKeyByte_10 rfl (lv_at hl 2 rfl) ?_
      refine lv_if_lt (tgt := 32) hx hb dX2_setKeyByte_11 (by decide) (fun c11 => ?_) (fun c11 => ?_)
      · refine lv_iconst (v := 0) hx hb dX2_setKeyByte_32 (by decide) ?_
        refine lv_istore_n (lv' := [(3, .int 0), (0, .ref h0), (1, .int i), (2, .int b)]) hx hb dX2_setKeyByte_33 rfl hl (by decide) rfl (fun ls hl => ?_)
        refine lv_iload_n hx hb dX2_setKeyByte_34 rfl (lv_at hl 0 rfl) ?_
        refine lv_if_eq (tgt := 45) hx hb dX2_setKeyByte_35 (by decide) (fun c35 => ?_) (fun c35 => ?_)
        · refine lv_iload_n hx hb dX2_setKeyByte_45 rfl (lv_at hl 0 rfl) ?_
          have hP9 := hP.sub (ws' := [(h0, .inr (2, [.int rd, .int op, .int dn, .ref qk, .ref qh, .ref qv, .ref qm, .ref qb, .int bb, .long mx, .int ln, .int nn, .ref qr])), (qk, .inl (cA, 32, .inl key))]) [0, 1] rfl
          have hD9 := hD.sub (ws' := [(h0, .inr (2, [.int rd, .int op, .int dn, .ref qk, .ref qh, .ref qv, .ref qm, .ref qb, .int bb, .long mx, .int ln, .int nn, .ref qr])), (qk, .inl (cA, 32, .inl key))]) [0, 1] (by decide) rfl
          exact W.zret (v := 0) hx hb hr (by rfl) (fun t ht hW => ⟨⟨0, (key), rfl, ((if_pos (Or.inr (Or.inr (Or.inl c11))))).symm, by rw [ht]; exact hP9, va_K.moved hW.alike hK, hD9⟩, hS.F ht⟩) hS.2.2 dX2_setKeyByte_46
        · exact absurd rfl c35
      · refine lv_iload_n hx hb dX2_setKeyByte_14 rfl (lv_at hl 2 rfl) ?_
        refine lv_sipush (v := 256) hx hb dX2_setKeyByte_15 (by decide) ?_
        refine lv_icmp_ge (tgt := 32) hx hb dX2_setKeyByte_18 (by decide) (fun c18 => ?_) (fun c18 => ?_)
        · refine lv_iconst (v := 0) hx hb dX2_setKeyByte_32 (by decide) ?_
          refine lv_istore_n (lv' := [(3, .int 0), (0, .ref h0), (1, .int i), (2, .int b)]) hx hb dX2_setKeyByte_33 rfl hl (by decide) rfl (fun ls hl => ?_)
          refine lv_iload_n hx hb dX2_setKeyByte_34 rfl (lv_at hl 0 rfl) ?_
          refine lv_if_eq (tgt := 45) hx hb dX2_setKeyByte_35 (by decide) (fun c35 => ?_) (fun c35 => ?_)
          · refine lv_iload_n hx hb dX2_setKeyByte_45 rfl (lv_at hl 0 rfl) ?_
            have hP9 := hP.sub (ws' := [(h0, .inr (2, [.int rd, .int op, .int dn, .ref qk, .ref qh, .ref qv, .ref qm, .ref qb, .int bb, .long mx, .int ln, .int nn, .ref qr])), (qk, .inl (cA, 32, .inl key))]) [0, 1] rfl
            have hD9 := hD.sub (ws' := [(h0, .inr (2, [.int rd, .int op, .int dn, .ref qk, .ref qh, .ref qv, .ref qm, .ref qb, .int bb, .long mx, .int ln, .int nn, .ref qr])), (qk, .inl (cA, 32, .inl key))]) [0, 1] (by decide) rfl
            exact W.zret (v := 0) hx hb hr (by rfl) (fun t ht hW => ⟨⟨0, (key), rfl, ((if_pos (Or.inr (Or.inr (Or.inr (Or.inl c18)))))).symm, by rw [ht]; exact hP9, va_K.moved hW.alike hK, hD9⟩, hS.F ht⟩) hS.2.2 dX2_setKeyByte_46
          · exact absurd rfl c35
        · refine lv_aload_n hx hb dX2_setKeyByte_21 rfl (lv_at hl 0 rfl) ?_
          refine va_get (D := (dC, dI)) (ci := 2) (v := .int op) (C := RX2) (T := TX2) (N := 13) hx hb hts ki2 hown hK hP 0 rfl rfl 1 (by decide) k1 (fun _ h9 => h9) rfl dX2_setKeyByte_22 ?_
          refine lv_if_ne (tgt := 32) hx hb dX2_setKeyByte_25 (by decide) (fun c25 => ?_) (fun c25 => ?_)
          · refine lv_iconst (v := 0) hx hb dX2_setKeyByte_32 (by decide) ?_
            refine lv_istore_n (lv' := [(3, .int 0), (0, .ref h0), (1, .int i), (2, .int b)]) hx hb dX2_setKeyByte_33 rfl hl (by decide) rfl (fun ls hl => ?_)
            refine lv_iload_n hx hb dX2_setKeyByte_34 rfl (lv_at hl 0 rfl) ?_
            refine lv_if_eq (tgt := 45) hx hb dX2_setKeyByte_35 (by decide) (fun c35 => ?_) (fun c35 => ?_)
            · refine lv_iload_n hx hb dX2_setKeyByte_45 rfl (lv_at hl 0 rfl) ?_
              have hP9 := hP.sub (ws' := [(h0, .inr (2, [.int rd, .int op, .int dn, .ref qk, .ref qh, .ref qv, .ref qm, .ref qb, .int bb, .long mx, .int ln, .int nn, .ref qr])), (qk, .inl (cA, 32, .inl key))]) [0, 1] rfl
              have hD9 := hD.sub (ws' := [(h0, .inr (2, [.int rd, .int op, .int dn, .ref qk, .ref qh, .ref qv, .ref qm, .ref qb, .int bb, .long mx, .int ln, .int nn, .ref qr])), (qk, .inl (cA, 32, .inl key))]) [0, 1] (by decide) rfl
              exact W.zret (v := 0) hx hb hr (by rfl) (fun t ht hW => ⟨⟨0, (key), rfl, ((if_pos (Or.inr (Or.inr (Or.inr (Or.inr (c25))))))).symm, by rw [ht]; exact hP9, va_K.moved hW.alike hK, hD9⟩, hS.F ht⟩) hS.2.2 dX2_setKeyByte_46
            · exact absurd rfl c35
          · refine lv_iconst (v := 1) hx hb dX2_setKeyByte_28 (by decide) ?_
            refine lv_goto (tgt := 33) hx hb dX2_setKeyByte_29 (by decide) ?_
            refine lv_istore_n (lv' := [(3, .int 1), (0, .ref h0), (1, .int i), (2, .int b)]) hx hb dX2_setKeyByte_33 rfl hl (by decide) rfl (fun ls hl => ?_)
            refine lv_iload_n hx hb dX2_setKeyByte_34 rfl (lv_at hl 0 rfl) ?_
            refine lv_if_eq (tgt := 45) hx hb dX2_setKeyByte_35 (by decide) (fun c35 => ?_) (fun c35 => ?_)
            · exact absurd c35 (by decide)
            · obtain ⟨j, hj, ej⟩ := kd_ix (n := 32) (by decide) c1 c7
              refine lv_aload_n hx hb dX2_setKeyByte_38 rfl (lv_at hl 1 rfl) ?_
              refine va_get (D := (dC, dI)) (ci := 2) (v := .ref qk) (C := RX2) (T := TX2) (N := 13) hx hb hts ki2 hown hK hP 0 rfl rfl 3 (by decide) k2 (fun _ h9 => h9) rfl dX2_setKeyByte_39 ?_
              refine lv_iload_n hx hb dX2_setKeyByte_42 rfl (lv_at hl 2 rfl) ?_
              refine lv_iload_n hx hb dX2_setKeyByte_43 rfl (lv_at hl 3 rfl) ?_
              refine kd_ist j hx hb hK hP hD hS 1 0 rfl rfl ej hj (by decide) dX2_setKeyByte_44 (fun f44 ef44 H locs hP hD hS => ?_)
              have hP : va_P (dC, dI) vwCl [(h0, .inr (2, [.int rd, .int op, .int dn, .ref qk, .ref qh, .ref qv, .ref qm, .ref qb, .int bb, .long mx, .int ln, .int nn, .ref qr])), (qk, .inl (cA, 32, .inl f44))] H := hP
              have hD : va_D A [(h0, .inr (2, [.int rd, .int op, .int dn, .ref qk, .ref qh, .ref qv, .ref qm, .ref qb, .int bb, .long mx, .int ln, .int nn, .ref qr])), (qk, .inl (cA, 32, .inl f44))] := hD
              refine lv_iload_n hx hb dX2_setKeyByte_45 rfl (lv_at hl 0 rfl) ?_
              have hP9 := hP.sub (ws' := [(h0, .inr (2, [.int rd, .int op, .int dn, .ref qk, .ref qh, .ref qv, .ref qm, .ref qb, .int bb, .long mx, .int ln, .int nn, .ref qr])), (qk, .inl (cA, 32, .inl f44))]) [0, 1] rfl
              have hD9 := hD.sub (ws' := [(h0, .inr (2, [.int rd, .int op, .int dn, .ref qk, .ref qh, .ref qv, .ref qm, .ref qb, .int bb, .long mx, .int ln, .int nn, .ref qr])), (qk, .inl (cA, 32, .inl f44))]) [0, 1] (by decide) rfl
              exact W.zret (v := 1) hx hb hr (by rfl) (fun t ht hW => ⟨⟨1, (f44), rfl, (by dsimp only; unfold kd_set; rw [(if_neg (fun h => h.elim c1 (fun h => h.elim c7 (fun h => h.elim c11 (fun h => h.elim c18 ((fun h => h c25))))))), ef44, ej, nI_clamp (by omega)]), by rw [ht]; exact hP9, va_K.moved hW.alike hK, hD9⟩, hS.F ht⟩) hS.2.2 dX2_setKeyByte_46

set_option maxHeartbeats 4000000 in
set_option maxRecDepth 100000 in
theorem cX2_length_ok (l : Launch) (dC : Nat → ClassId) (dI : Nat → Nat → Nat) (cA : ClassId) (tb : Nat → Nat) (sz : Nat) (h0 : Nat) (qk : Nat) (qh : Nat) (qv : Nat) (qm : Nat) (qb : Nat) (qr : Nat) (rd : Int32) (op : Int32) (dn : Int32) (mx : Int64) (ln : Int32) (nn : Int32) (bb : Int32) : Met l yX2_length wsX2_length ({ frames := 0, cells := 0, slots := 0, locals := 0 }) (va_Pc [.ref h0] (kd_I (dC, dI) cA tb sz [(h0, .inr (2, [.int rd, .int op, .int dn, .ref qk, .ref qh, .ref qv, .ref qm, .ref qb, .int bb, .long mx, .int ln, .int nn, .ref qr]))])) (va_Qi (fun (r : Int32) (u : Unit) => r = if ¬ op = 0 ∨ ¬ dn = 0 then ln else -1) (fun u t => kd_O (dC, dI) cA (va_A [(h0, .inr (2, [.int rd, .int op, .int dn, .ref qk, .ref qh, .ref qv, .ref qm, .ref qb, .int bb, .long mx, .int ln, .int nn, .ref qr]))] sz) [(h0, .inr (2, [.int rd, .int op, .int dn, .ref qk, .ref qh, .ref qv, .ref qm, .ref qb, .int bb, .long mx, .int ln, .int nn, .ref qr]))] t) (va_A [(h0, .inr (2, [.int rd, .int op, .int dn, .ref qk, .ref qh, .ref qv, .ref qm, .ref qb, .int bb, .long mx, .int ln, .int nn, .ref qr]))] sz)) 0 0 (va_A [(h0, .inr (2, [.int rd, .int op, .int dn, .ref qk, .ref qh, .ref qv, .ref qm, .ref qb, .int bb, .long mx, .int ln, .int nn, .ref qr]))] sz) := by
  refine Met.ofW (cc := cX2_length) (maxL := 1) (ret := (some .int)) (by decide) rfl ?_
  intro p e s m args below meth c s₁ B hml hv
  obtain ⟨rfl, hsz, hP, hK, hD0, hT⟩ := hv
  have hx := B.exec
  have hb := B.bytes
  have hr := B.returns
  have hts := atoms_spec (ws := wsX2_length) B.pre
  have hown : s.vm.findClass RX2 = some m.cls := findClass_of_methodNamed B.named
  have hlocks := B.notSynchronized
  have ki2 : ∀ w ∈ u_ws RX2 TX2 13, w ∈ wsX2_length := by decide +kernel
  have k1 := hts (.fieldLink RX2 32 "KeyedDigestModel" "isOpen" "Z") (by decide +kernel)
  have k2 := hts (.fieldLink RX2 62 "KeyedDigestModel" "came" "I") (by decide +kernel)
  have k3 := hts (.fieldLink RX2 35 "KeyedDigestModel" "isDone" "Z") (by decide +kernel)
  subst hsz
  have hD := hD0.self (sz := s.heap.size)
  generalize hAe : va_A [(h0, .inr (2, [.int rd, .int op, .int dn, .ref qk, .ref qh, .ref qv, .ref qm, .ref qb, .int bb, .long mx, .int ln, .int nn, .ref qr]))] s.heap.size = A at hD hT ⊢
  have hA : ∀ q : Nat, s.heap.size ≤ q → A q := fun q h => by rw [← hAe]; exact Or.inr h
  have hS : va_S A s.heap s.heap [] := va_S.rf
  have hP : va_P (dC, dI) vwCl [(h0, .inr (2, [.int rd, .int op, .int dn, .ref qk, .ref qh, .ref qv, .ref qm, .ref qb, .int bb, .long mx, .int ln, .int nn, .ref qr]))] s.heap := hP
  have hl := lv_entry ([.ref h0]) (n := 1) (Nat.le_of_ble_eq_true rfl)
  rw [lg_entry_eq]
  generalize (lg_sl ([.ref h0]) ++ List.replicate (1 - (lg_sl ([.ref h0])).length) Slot.unset).toArray = ls at hl ⊢
  have hl : lv_has ls 1 [(0, .ref h0)] := hl
  refine lv_aload_n hx hb dX2_length_0 rfl (lv_at hl 0 rfl) ?_
  refine va_get (D := (dC, dI)) (ci := 2) (v := .int op) (C := RX2) (T := TX2) (N := 13) hx hb hts ki2 hown hK hP 0 rfl rfl 1 (by decide) k1 (fun _ h9 => h9) rfl dX2_length_1 ?_
  refine lv_if_ne (tgt := 14) hx hb dX2_length_4 (by decide) (fun c4 => ?_) (fun c4 => ?_)
  · refine lv_aload_n hx hb dX2_length_14 rfl (lv_at hl 0 rfl) ?_
    refine va_get (D := (dC, dI)) (ci := 2) (v := .int ln) (C := RX2) (T := TX2) (N := 13) hx hb hts ki2 hown hK hP 0 rfl rfl 10 (by decide) k2 (fun _ h9 => h9) rfl dX2_length_15 ?_
    refine lv_goto (tgt := 22) hx hb dX2_length_18 (by decide) ?_
    have hP9 := hP.sub (ws' := [(h0, .inr (2, [.int rd, .int op, .int dn, .ref qk, .ref qh, .ref qv, .ref qm, .ref qb, .int bb, .long mx, .int ln, .int nn, .ref qr]))]) [0] rfl
    have hD9 := hD.sub (ws' := [(h0, .inr (2, [.int rd, .int op, .int dn, .ref qk, .ref qh, .ref qv, .ref qm, .ref qb, .int bb, .long mx, .int ln, .int nn, .ref qr]))]) [0] (by decide) rfl
    exact W.iret (v := ln) hx hb hr (fun t ht hW => ⟨⟨ln, (), rfl, (if_pos (Or.inl c4)).symm, by rw [ht]; exact hP9, va_K.moved hW.alike hK, hD9⟩, hS.F ht⟩) hS.2.2 dX2_length_22
  · refine lv_aload_n hx hb dX2_length_7 rfl (lv_at hl 0 rfl) ?_
    refine va_get (D := (dC, dI)) (ci := 2) (v := .int dn) (C := RX2) (T := TX2) (N := 13) hx hb hts ki2 hown hK hP 0 rfl rfl 2 (by decide) k3 (fun _ h9 => h9) rfl dX2_length_8 ?_
    refine lv_if_eq (tgt := 21) hx hb dX2_length_11 (by decide) (fun c11 => ?_) (fun c11 => ?_)
    · refine lv_iconst (v := (-1)) hx hb dX2_length_21 (by decide) ?_
      have hP9 := hP.sub (ws' := [(h0, .inr (2, [.int rd, .int op, .int dn, .ref qk, .ref qh, .ref qv, .ref qm, .ref qb, .int bb, .long mx, .int ln, .int nn, .ref qr]))]) [0] rfl
      have hD9 := hD.sub (ws' := [(h0, .inr (2, [.int rd, .int op, .int dn, .ref qk, .ref qh, .ref qv, .ref qm, .ref qb, .int bb, .long mx, .int ln, .int nn, .ref qr]))]) [0] (by decide) rfl
      exact W.iret (v := (-1)) hx hb hr (fun t ht hW => ⟨⟨(-1), (), rfl, (if_neg (fun h => h.elim (fun h => h c4) (fun h => h c11))).symm, by rw [ht]; exact hP9, va_K.moved hW.alike hK, hD9⟩, hS.F ht⟩) hS.2.2 dX2_length_22
    · refine lv_aload_n hx hb dX2_length_14 rfl (lv_at hl 0 rfl) ?_
      refine va_get (D := (dC, dI)) (ci := 2) (v := .int ln) (C := RX2) (T := TX2) (N := 13) hx hb hts ki2 hown hK hP 0 rfl rfl 10 (by decide) k2 (fun _ h9 => h9) rfl dX2_length_15 ?_
      refine lv_goto (tgt := 22) hx hb dX2_length_18 (by decide) ?_
      have hP9 := hP.sub (ws' := [(h0, .inr (2, [.int rd, .int op, .int dn, .ref qk, .ref qh, .ref qv, .ref qm, .ref qb, .int bb, .long mx, .int ln, .int nn, .ref qr]))]) [0] rfl
      have hD9 := hD.sub (ws' := [(h0, .inr (2, [.int rd, .int op, .int dn, .ref qk, .ref qh, .ref qv, .ref qm, .ref qb, .int bb, .long mx, .int ln, .int nn, .ref qr]))]) [0] (by decide) rfl
      exact W.iret (v := ln) hx hb hr (fun t ht hW => ⟨⟨ln, (), rfl, (if_pos (Or.inr c11)).symm, by rw [ht]; exact hP9, va_K.moved hW.alike hK, hD9⟩, hS.F ht⟩) hS.2.2 dX2_length_22

set_option maxHeartbeats 4000000 in
set_option maxRecDepth 100000 in
theorem cX2_word_ok (l : Launch) (dC : Nat → ClassId) (dI : Nat → Nat → Nat) (cA : ClassId) (tb : Nat → Nat) (sz : Nat) (h0 : Nat) (qk : Nat) (qh : Nat) (qv : Nat) (qm : Nat) (qb : Nat) (qr : Nat) (rd : Int32) (op : Int32) (dn : Int32) (hh : Nat → Int32) (mx : Int64) (ln : Int32) (nn : Int32) (bb : Int32) (i : Int32) : Met l yX2_word wsX2_word ({ frames := 0, cells := 0, slots := 0, locals := 0 }) (va_Pc [.ref h0, .int i] (kd_I (dC, dI) cA tb sz [(h0, .inr (2, [.int rd, .int op, .int dn, .ref qk, .ref qh, .ref qv, .ref qm, .ref qb, .int bb, .long mx, .int ln, .int nn, .ref qr])), (qh, .inl (cA, 8, .inl hh))])) (va_Qi (fun (r : Int32) (u : Unit) => r = if (op = 0 ∧ dn = 0) ∨ i < 0 ∨ 8 ≤ i then 0 else hh i.toNatClampNeg) (fun u t => kd_O (dC, dI) cA (va_A [(h0, .inr (2, [.int rd, .int op, .int dn, .ref qk, .ref qh, .ref qv, .ref qm, .ref qb, .int bb, .long mx, .int ln, .int nn, .ref qr])), (qh, .inl (cA, 8, .inl hh))] sz) [(h0, .inr (2, [.int rd, .int op, .int dn, .ref qk, .ref qh, .ref qv, .ref qm, .ref qb, .int bb, .long mx, .int ln, .int nn, .ref qr])), (qh, .inl (cA, 8, .inl hh))] t) (va_A [(h0, .inr (2, [.int rd, .int op, .int dn, .ref qk, .ref qh, .ref qv, .ref qm, .ref qb, .int bb, .long mx, .int ln, .int nn, .ref qr])), (qh, .inl (cA, 8, .inl hh))] sz)) 0 0 (va_A [(h0, .inr (2, [.int rd, .int op, .int dn, .ref qk, .ref qh, .ref qv, .ref qm, .ref qb, .int bb, .long mx, .int ln, .int nn, .ref qr])), (qh, .inl (cA, 8, .inl hh))] sz) := by
  refine Met.ofW (cc := cX2_word) (maxL := 2) (ret := (some .int)) (by decide) rfl ?_
  intro p e s m args below meth c s₁ B hml hv
  obtain ⟨rfl, hsz, hP, hK, hD0, hT⟩ := hv
  have hx := B.exec
  have hb := B.bytes
  have hr := B.returns
  have hts := atoms_spec (ws := wsX2_word) B.pre
  have hown : s.vm.findClass RX2 = some m.cls := findClass_of_methodNamed B.named
  have hlocks := B.notSynchronized
  have ki2 : ∀ w ∈ u_ws RX2 TX2 13, w ∈ wsX2_word := by decide +kernel
  have k1 := hts (.fieldLink RX2 32 "KeyedDigestModel" "isOpen" "Z") (by decide +kernel)
  have k2 := hts (.fieldLink RX2 13 "KeyedDigestModel" "h" "[I") (by decide +kernel)
  have k3 := hts (.fieldLink RX2 35 "KeyedDigestModel" "isDone" "Z") (by decide +kernel)
  subst hsz
  have hD := hD0.self (sz := s.heap.size)
  generalize hAe : va_A [(h0, .inr (2, [.int rd, .int op, .int dn, .ref qk, .ref qh, .ref qv, .ref qm, .ref qb, .int bb, .long mx, .int ln, .int nn, .ref qr])), (qh, .inl (cA, 8, .inl hh))] s.heap.size = A at hD hT ⊢
  have hA : ∀ q : Nat, s.heap.size ≤ q → A q := fun q h => by rw [← hAe]; exact Or.inr h
  have hS : va_S A s.heap s.heap [] := va_S.rf
  have hP : va_P (dC, dI) vwCl [(h0, .inr (2, [.int rd, .int op, .int dn, .ref qk, .ref qh, .ref qv, .ref qm, .ref qb, .int bb, .long mx, .int ln, .int nn, .ref qr])), (qh, .inl (cA, 8, .inl hh))] s.heap := hP
  have hl := lv_entry ([.ref h0, .int i]) (n := 2) (Nat.le_of_ble_eq_true rfl)
  rw [lg_entry_eq]
  generalize (lg_sl ([.ref h0, .int i]) ++ List.replicate (2 - (lg_sl ([.ref h0, .int i])).length) Slot.unset).toArray = ls at hl ⊢
  have hl : lv_has ls 2 [(0, .ref h0), (1, .int i)] := hl
  refine lv_aload_n hx hb dX2_word_0 rfl (lv_at hl 0 rfl) ?_
  refine va_get (D := (dC, dI)) (ci := 2) (v := .int op) (C := RX2) (T := TX2) (N := 13) hx hb hts ki2 hown hK hP 0 rfl rfl 1 (by decide) k1 (fun _ h9 => h9) rfl dX2_word_1 ?_
  refine lv_if_ne (tgt := 14) hx hb dX2_word_4 (by decide) (fun c4 => ?_) (fun c4 => ?_)
  · refine lv_iload_n hx hb dX2_word_14 rfl (lv_at hl 1 rfl) ?_
    refine lv_if_lt (tgt := 33) hx hb dX2_word_15 (by decide) (fun c15 => ?_) (fun c15 => ?_)
    · refine lv_iconst (v := 0) hx hb dX2_word_33 (by decide) ?_
      have hP9 := hP.sub (ws' := [(h0, .inr (2, [.int rd, .int op, .int dn, .ref qk, .ref qh, .ref qv, .ref qm, .ref qb, .int bb, .long mx, .int ln, .int nn, .ref qr])), (qh, .inl (cA, 8, .inl hh))]) [0, 1] rfl
      have hD9 := hD.sub (ws' := [(h0, .inr (2, [.int rd, .int op, .int dn, .ref qk, .ref qh, .ref qv, .ref qm, .ref qb, .int bb, .long mx, .int ln, .int nn, .ref qr])), (qh, .inl (cA, 8, .inl hh))]) [0, 1] (by decide) rfl
      exact W.iret (v := 0) hx hb hr (fun t ht hW => ⟨⟨0, (), rfl, (if_pos (Or.inr (Or.inl c15))).symm, by rw [ht]; exact hP9, va_K.moved hW.alike hK, hD9⟩, hS.F ht⟩) hS.2.2 dX2_word_34
    · refine lv_iload_n hx hb dX2_word_18 rfl (lv_at hl 1 rfl) ?_
      refine lv_bipush (v := 8) hx hb dX2_word_19 (by decide) ?_
      refine lv_icmp_ge (tgt := 33) hx hb dX2_word_21 (by decide) (fun c21 => ?_) (fun c21 => ?_)
      · refine lv_iconst (v := 0) hx hb dX2_word_33 (by decide) ?_
        have hP9 := hP.sub (ws' := [(h0, .inr (2, [.int rd, .int op, .int dn, .ref qk, .ref qh, .ref qv, .ref qm, .ref qb, .int bb, .long mx, .int ln, .int nn, .ref qr])), (qh, .inl (cA, 8, .inl hh))]) [0, 1] rfl
        have hD9 := hD.sub (ws' := [(h0, .inr (2, [.int rd, .int op, .int dn, .ref qk, .ref qh, .ref qv, .ref qm, .ref qb, .int bb, .long mx, .int ln, .int nn, .ref qr])), (qh, .inl (cA, 8, .inl hh))]) [0, 1] (by decide) rfl
        exact W.iret (v := 0) hx hb hr (fun t ht hW => ⟨⟨0, (), rfl, (if_pos (Or.inr (Or.inr c21))).symm, by rw [ht]; exact hP9, va_K.moved hW.alike hK, hD9⟩, hS.F ht⟩) hS.2.2 dX2_word_34
      · obtain ⟨j, hj, ej⟩ := kd_ix (n := 8) (by decide) c15 c21
        refine lv_aload_n hx hb dX2_word_24 rfl (lv_at hl 0 rfl) ?_
        refine va_get (D := (dC, dI)) (ci := 2) (v := .ref qh) (C := RX2) (T := TX2) (N := 13) hx hb hts ki2 hown hK hP 0 rfl rfl 4 (by decide) k2 (fun _ h9 => h9) rfl dX2_word_25 ?_
        refine lv_iload_n hx hb dX2_word_28 rfl (lv_at hl 1 rfl) ?_
        refine kd_ild j hx hb hK hP 1 0 rfl rfl ej hj (by decide) dX2_word_29 ?_
        refine lv_goto (tgt := 34) hx hb dX2_word_30 (by decide) ?_
        have hP9 := hP.sub (ws' := [(h0, .inr (2, [.int rd, .int op, .int dn, .ref qk, .ref qh, .ref qv, .ref qm, .ref qb, .int bb, .long mx, .int ln, .int nn, .ref qr])), (qh, .inl (cA, 8, .inl hh))]) [0, 1] rfl
        have hD9 := hD.sub (ws' := [(h0, .inr (2, [.int rd, .int op, .int dn, .ref qk, .ref qh, .ref qv, .ref qm, .ref qb, .int bb, .long mx, .int ln, .int nn, .ref qr])), (qh, .inl (cA, 8, .inl hh))]) [0, 1] (by decide) rfl
        exact W.iret (v := hh j) hx hb hr (fun t ht hW => ⟨⟨hh j, (), rfl, (by dsimp only; rw [(if_neg (fun h => h.elim (fun h => c4 h.1) (fun h => h.elim c15 (c21)))), ej, nI_clamp (by omega)]), by rw [ht]; exact hP9, va_K.moved hW.alike hK, hD9⟩, hS.F ht⟩) hS.2.2 dX2_word_34
  · refine lv_aload_n hx hb dX2_word_7 rfl (lv_at hl 0 rfl) ?_
    refine va_get (D := (dC, dI)) (ci := 2) (v := .int dn) (C := RX2) (T := TX2) (N := 13) hx hb hts ki2 hown hK hP 0 rfl rfl 2 (by decide) k3 (fun _ h9 => h9) rfl dX2_word_8 ?_
    refine lv_if_eq (tgt := 33) hx hb dX2_word_11 (by decide) (fun c11 => ?_) (fun c11 => ?_)
    · refine lv_iconst (v := 0) hx hb dX2_word_33 (by decide) ?_
      have hP9 := hP.sub (ws' := [(h0, .inr (2, [.int rd, .int op, .int dn, .ref qk, .ref qh, .ref qv, .ref qm, .ref qb, .int bb, .long mx, .int ln, .int nn, .ref qr])), (qh, .inl (cA, 8, .inl hh))]) [0, 1] rfl
      have hD9 := hD.sub (ws' := [(h0, .inr (2, [.int rd, .int op, .int dn, .ref qk, .ref qh, .ref qv, .ref qm, .ref qb, .int bb, .long mx, .int ln, .int nn, .ref qr])), (qh, .inl (cA, 8, .inl hh))]) [0, 1] (by decide) rfl
      exact W.iret (v := 0) hx hb hr (fun t ht hW => ⟨⟨0, (), rfl, (if_pos (Or.inl ⟨c4, c11⟩)).symm, by rw [ht]; exact hP9, va_K.moved hW.alike hK, hD9⟩, hS.F ht⟩) hS.2.2 dX2_word_34
    · refine lv_iload_n hx hb dX2_word_14 rfl (lv_at hl 1 rfl) ?_
      refine lv_if_lt (tgt := 33) hx hb dX2_word_15 (by decide) (fun c15 => ?_) (fun c15 => ?_)
      · refine lv_iconst (v := 0) hx hb dX2_word_33 (by decide) ?_
        have hP9 := hP.sub (ws' := [(h0, .inr (2, [.int rd, .int op, .int dn, .ref qk, .ref qh, .ref qv, .ref qm, .ref qb, .int bb, .long mx, .int ln, .int nn, .ref qr])), (qh, .inl (cA, 8, .inl hh))]) [0, 1] rfl
        have hD9 := hD.sub (ws' := [(h0, .inr (2, [.int rd, .int op, .int dn, .ref qk, .ref qh, .ref qv, .ref qm, .ref qb, .int bb, .long mx, .int ln, .int nn, .ref qr])), (qh, .inl (cA, 8, .inl hh))]) [0, 1] (by decide) rfl
        exact W.iret (v := 0) hx hb hr (fun t ht hW => ⟨⟨0, (), rfl, (if_pos (Or.inr (Or.inl c15))).symm, by rw [ht]; exact hP9, va_K.moved hW.alike hK, hD9⟩, hS.F ht⟩) hS.2.2 dX2_word_34
      · refine lv_iload_n hx hb dX2_word_18 rfl (lv_at hl 1 rfl) ?_
        refine lv_bipush (v := 8) hx hb dX2_word_19 (by decide) ?_
        refine lv_icmp_ge (tgt := 33) hx hb dX2_word_21 (by decide) (fun c21 => ?_) (fun c21 => ?_)
        · refine lv_iconst (v := 0) hx hb dX2_word_33 (by decide) ?_
          have hP9 := hP.sub (ws' := [(h0, .inr (2, [.int rd, .int op, .int dn, .ref qk, .ref qh, .ref qv, .ref qm, .ref qb, .int bb, .long mx, .int ln, .int nn, .ref qr])), (qh, .inl (cA, 8, .inl hh))]) [0, 1] rfl
          have hD9 := hD.sub (ws' := [(h0, .inr (2, [.int rd, .int op, .int dn, .ref qk, .ref qh, .ref qv, .ref qm, .ref qb, .int bb, .long mx, .int ln, .int nn, .ref qr])), (qh, .inl (cA, 8, .inl hh))]) [0, 1] (by decide) rfl
          exact W.iret (v := 0) hx hb hr (fun t ht hW => ⟨⟨0, (), rfl, (if_pos (Or.inr (Or.inr c21))).symm, by rw [ht]; exact hP9, va_K.moved hW.alike hK, hD9⟩, hS.F ht⟩) hS.2.2 dX2_word_34
        · obtain ⟨j, hj, ej⟩ := kd_ix (n := 8) (by decide) c15 c21
          refine lv_aload_n hx hb dX2_word_24 rfl (lv_at hl 0 rfl) ?_
          refine va_get (D := (dC, dI)) (ci := 2) (v := .ref qh) (C := RX2) (T := TX2) (N := 13) hx hb hts ki2 hown hK hP 0 rfl rfl 4 (by decide) k2 (fun _ h9 => h9) rfl dX2_word_25 ?_
          refine lv_iload_n hx hb dX2_word_28 rfl (lv_at hl 1 rfl) ?_
          refine kd_ild j hx hb hK hP 1 0 rfl rfl ej hj (by decide) dX2_word_29 ?_
          refine lv_goto (tgt := 34) hx hb dX2_word_30 (by decide) ?_
          have hP9 := hP.sub (ws' := [(h0, .inr (2, [.int rd, .int op, .int dn, .ref qk, .ref qh, .ref qv, .ref qm, .ref qb, .int bb, .long mx, .int ln, .int nn, .ref qr])), (qh, .inl (cA, 8, .inl hh))]) [0, 1] rfl
          have hD9 := hD.sub (ws' := [(h0, .inr (2, [.int rd, .int op, .int dn, .ref qk, .ref qh, .ref qv, .ref qm, .ref qb, .int bb, .long mx, .int ln, .int nn, .ref qr])), (qh, .inl (cA, 8, .inl hh))]) [0, 1] (by decide) rfl
          exact W.iret (v := hh j) hx hb hr (fun t ht hW => ⟨⟨hh j, (), rfl, (by dsimp only; rw [(if_neg (fun h => h.elim (fun h => c11 h.2) (fun h => h.elim c15 (c21)))), ej, nI_clamp (by omega)]), by rw [ht]; exact hP9, va_K.moved hW.alike hK, hD9⟩, hS.F ht⟩) hS.2.2 dX2_word_34

set_option maxHeartbeats 4000000 in
set_option maxRecDepth 100000 in
theorem cX2_out_ok (l : Launch) (dC : Nat → ClassId) (dI : Nat → Nat → Nat) (cA : ClassId) (tb : Nat → Nat) (sz : Nat) (h0 : Nat) (qk : Nat) (qh : Nat) (qv : Nat) (qm : Nat) (qb : Nat) (qr : Nat) (rd : Int32) (op : Int32) (dn : Int32) (hh : Nat → Int32) (mx : Int64) (ln : Int32) (nn : Int32) (bb : Int32) (i : Int32) (hnn : nn ≤ 32) : Met l yX2_out wsX2_out ({ frames := 0, cells := 0, slots := 0, locals := 0 }) (va_Pc [.ref h0, .int i] (kd_I (dC, dI) cA tb sz [(h0, .inr (2, [.int rd, .int op, .int dn, .ref qk, .ref qh, .ref qv, .ref qm, .ref qb, .int bb, .long mx, .int ln, .int nn, .ref qr])), (qh, .inl (cA, 8, .inl hh))])) (va_Qi (fun (r : Int32) (u : Unit) => r = if dn = 0 ∨ i < 0 ∨ nn ≤ i then -1 else kd_ushr (hh (i.toNatClampNeg / 4)) (8 * nI (i.toNatClampNeg % 4)) &&& 255) (fun u t => kd_O (dC, dI) cA (va_A [(h0, .inr (2, [.int rd, .int op, .int dn, .ref qk, .ref qh, .ref qv, .ref qm, .ref qb, .int bb, .long mx, .int ln, .int nn, .ref qr])), (qh, .inl (cA, 8, .inl hh))] sz) [(h0, .inr (2, [.int rd, .int op, .int dn, .ref qk, .ref qh, .ref qv, .ref qm, .ref qb, .int bb, .long mx, .int ln, .int nn, .ref qr])), (qh, .inl (cA, 8, .inl hh))] t) (va_A [(h0, .inr (2, [.int rd, .int op, .int dn, .ref qk, .ref qh, .ref qv, .ref qm, .ref qb, .int bb, .long mx, .int ln, .int nn, .ref qr])), (qh, .inl (cA, 8, .inl hh))] sz)) 0 0 (va_A [(h0, .inr (2, [.int rd, .int op, .int dn, .ref qk, .ref qh, .ref qv, .ref qm, .ref qb, .int bb, .long mx, .int ln, .int nn, .ref qr])), (qh, .inl (cA, 8, .inl hh))] sz) := by
  refine Met.ofW (cc := cX2_out) (maxL := 2) (ret := (some .int)) (by decide) rfl ?_
  intro p e s m args below meth c s₁ B hml hv
  obtain ⟨rfl, hsz, hP, hK, hD0, hT⟩ := hv
  have hx := B.exec
  have hb := B.bytes
  have hr := B.returns
  have hts := atoms_spec (ws := wsX2_out) B.pre
  have hown : s.vm.findClass RX2 = some m.cls := findClass_of_methodNamed B.named
  have hlocks := B.notSynchronized
  have ki2 : ∀ w ∈ u_ws RX2 TX2 13, w ∈ wsX2_out := by decide +kernel
  have k1 := hts (.fieldLink RX2 35 "KeyedDigestModel" "isDone" "Z") (by decide +kernel)
  have k2 := hts (.fieldLink RX2 51 "KeyedDigestModel" "size" "I") (by decide +kernel)
  have k3 := hts (.fieldLink RX2 13 "KeyedDigestModel" "h" "[I") (by decide +kernel)
  subst hsz
  have hD := hD0.self (sz := s.heap.size)
  generalize hAe : va_A [(h0, .inr (2, [.int rd, .int op, .int dn, .ref qk, .ref qh, .ref qv, .ref qm, .ref qb, .int bb, .long mx, .int ln, .int nn, .ref qr])), (qh, .inl (cA, 8, .inl hh))] s.heap.size = A at hD hT ⊢
  have hA : ∀ q : Nat, s.heap.size ≤ q → A q := fun q h => by rw [← hAe]; exact Or.inr h
  have hS : va_S A s.heap s.heap [] := va_S.rf
  have hP : va_P (dC, dI) vwCl [(h0, .inr (2, [.int rd, .int op, .int dn, .ref qk, .ref qh, .ref qv, .ref qm, .ref qb, .int bb, .long mx, .int ln, .int nn, .ref qr])), (qh, .inl (cA, 8, .inl hh))] s.heap := hP
  have hl := lv_entry ([.ref h0, .int i]) (n := 2) (Nat.le_of_ble_eq_true rfl)
  rw [lg_entry_eq]
  generalize (lg_sl ([.ref h0, .int i]) ++ List.replicate (2 - (lg_sl ([.ref h0, .int i])).length) Slot.unset).toArray = ls at hl ⊢
  have hl : lv_has ls 2 [(0, .ref h0), (1, .int i)] := hl
  refine lv_aload_n hx hb dX2_out_0 rfl (lv_at hl 0 rfl) ?_
  refine va_get (D := (dC, dI)) (ci := 2) (v := .int dn) (C := RX2) (T := TX2) (N := 13) hx hb hts ki2 hown hK hP 0 rfl rfl 2 (by decide) k1 (fun _ h9 => h9) rfl dX2_out_1 ?_
  refine lv_if_eq (tgt := 41) hx hb dX2_out_4 (by decide) (fun c4 => ?_) (fun c4 => ?_)
  · refine lv_iconst (v := (-1)) hx hb dX2_out_41 (by decide) ?_
    have hP9 := hP.sub (ws' := [(h0, .inr (2, [.int rd, .int op, .int dn, .ref qk, .ref qh, .ref qv, .ref qm, .ref qb, .int bb, .long mx, .int ln, .int nn, .ref qr])), (qh, .inl (cA, 8, .inl hh))]) [0, 1] rfl
    have hD9 := hD.sub (ws' := [(h0, .inr (2, [.int rd, .int op, .int dn, .ref qk, .ref qh, .ref qv, .ref qm, .ref qb, .int bb, .long mx, .int ln, .int nn, .ref qr])), (qh, .inl (cA, 8, .inl hh))]) [0, 1] (by decide) rfl
    exact W.iret (v := (-1)) hx hb hr (fun t ht hW => ⟨⟨(-1), (), rfl, ((if_pos (Or.inl c4))).symm, by rw [ht]; exact hP9, va_K.moved hW.alike hK, hD9⟩, hS.F ht⟩) hS.2.2 dX2_out_42
  · refine lv_iload_n hx hb dX2_out_7 rfl (lv_at hl 1 rfl) ?_
    refine lv_if_lt (tgt := 41) hx hb dX2_out_8 (by decide) (fun c8 => ?_) (fun c8 => ?_)
    · refine lv_iconst (v := (-1)) hx hb dX2_out_41 (by decide) ?_
      have hP9 := hP.sub (ws' := [(h0, .inr (2, [.int rd, .int op, .int dn, .ref qk, .ref qh, .ref qv, .ref qm, .ref qb, .int bb, .long mx, .int ln, .int nn, .ref qr])), (qh, .inl (cA, 8, .inl hh))]) [0, 1] rfl
      have hD9 := hD.sub (ws' := [(h0, .inr (2, [.int rd, .int op, .int dn, .ref qk, .ref qh, .ref qv, .ref qm, .ref qb, .int bb, .long mx, .int ln, .int nn, .ref qr])), (qh, .inl (cA, 8, .inl hh))]) [0, 1] (by decide) rfl
      exact W.iret (v := (-1)) hx hb hr (fun t ht hW => ⟨⟨(-1), (), rfl, ((if_pos (Or.inr (Or.inl c8)))).symm, by rw [ht]; exact hP9, va_K.moved hW.alike hK, hD9⟩, hS.F ht⟩) hS.2.2 dX2_out_42
    · refine lv_iload_n hx hb dX2_out_11 rfl (lv_at hl 1 rfl) ?_
      refine lv_aload_n hx hb dX2_out_12 rfl (lv_at hl 0 rfl) ?_
      refine va_get (D := (dC, dI)) (ci := 2) (v := .int nn) (C := RX2) (T := TX2) (N := 13) hx hb hts ki2 hown hK hP 0 rfl rfl 11 (by decide) k2 (fun _ h9 => h9) rfl dX2_out_13 ?_
      refine lv_icmp_ge (tgt := 41) hx hb dX2_out_16 (by decide) (fun c16 => ?_) (fun c16 => ?_)
      · refine lv_iconst (v := (-1)) hx hb dX2_out_41 (by decide) ?_
        have hP9 := hP.sub (ws' := [(h0, .inr (2, [.int rd, .int op, .int dn, .ref qk, .ref qh, .ref qv, .ref qm, .ref qb, .int bb, .long mx, .int ln, .int nn, .ref qr])), (qh, .inl (cA, 8, .inl hh))]) [0, 1] rfl
        have hD9 := hD.sub (ws' := [(h0, .inr (2, [.int rd, .int op, .int dn, .ref qk, .ref qh, .ref qv, .ref qm, .ref qb, .int bb, .long mx, .int ln, .int nn, .ref qr])), (qh, .inl (cA, 8, .inl hh))]) [0, 1] (by decide) rfl
        exact W.iret (v := (-1)) hx hb hr (fun t ht hW => ⟨⟨(-1), (), rfl, ((if_pos (Or.inr (Or.inr (c16))))).symm, by rw [ht]; exact hP9, va_K.moved hW.alike hK, hD9⟩, hS.F ht⟩) hS.2.2 dX2_out_42
      · obtain ⟨j, hj, rfl⟩ := kd_ix (n := 32) (by decide) c8 (fun h => c16 (Int32.le_trans hnn h))
        refine lv_aload_n hx hb dX2_out_19 rfl (lv_at hl 0 rfl) ?_
        refine va_get (D := (dC, dI)) (ci := 2) (v := .ref qh) (C := RX2) (T := TX2) (N := 13) hx hb hts ki2 hown hK hP 0 rfl rfl 4 (by decide) k3 (fun _ h9 => h9) rfl dX2_out_20 ?_
        refine lv_iload_n hx hb dX2_out_23 rfl (lv_at hl 1 rfl) ?_
        refine lv_iconst (v := 4) hx hb dX2_out_24 (by decide) ?_
        refine lv_idiv hx hb dX2_out_25 (by decide) ?_
        refine kd_ild (j / 4) hx hb hK hP 1 0 rfl rfl (pk_div (by omega) (by decide) (by decide)) (by omega) (by decide) dX2_out_26 ?_
        refine lv_bipush (v := 8) hx hb dX2_out_27 (by decide) ?_
        refine lv_iload_n hx hb dX2_out_29 rfl (lv_at hl 1 rfl) ?_
        refine lv_iconst (v := 4) hx hb dX2_out_30 (by decide) ?_
        refine lv_irem hx hb dX2_out_31 (by decide) ?_
        refine lv_topi (fun x31 ex31 => ?_)
        obtain rfl : x31 = nI (j % 4) := by rw [ex31]; exact pk_rem (by omega) (by decide) (by decide)
        refine lv_imul hx hb dX2_out_32 ?_
        refine lv_iushr (v := kd_ushr (hh (j / 4)) (8 * (nI (j % 4)))) hx hb dX2_out_33 rfl ?_
        refine lv_sipush (v := 255) hx hb dX2_out_34 (by decide) ?_
        refine lv_iand hx hb dX2_out_37 ?_
        refine lv_goto (tgt := 42) hx hb dX2_out_38 (by decide) ?_
        have hP9 := hP.sub (ws' := [(h0, .inr (2, [.int rd, .int op, .int dn, .ref qk, .ref qh, .ref qv, .ref qm, .ref qb, .int bb, .long mx, .int ln, .int nn, .ref qr])), (qh, .inl (cA, 8, .inl hh))]) [0, 1] rfl
        have hD9 := hD.sub (ws' := [(h0, .inr (2, [.int rd, .int op, .int dn, .ref qk, .ref qh, .ref qv, .ref qm, .ref qb, .int bb, .long mx, .int ln, .int nn, .ref qr])), (qh, .inl (cA, 8, .inl hh))]) [0, 1] (by decide) rfl
        exact W.iret (v := (kd_ushr (hh (j / 4)) (8 * (nI (j % 4)))) &&& 255) hx hb hr (fun t ht hW => ⟨⟨(kd_ushr (hh (j / 4)) (8 * (nI (j % 4)))) &&& 255, (), rfl, (by dsimp only; rw [(if_neg (fun h => h.elim c4 (fun h => h.elim c8 (c16)))), nI_clamp (by omega)]), by rw [ht]; exact hP9, va_K.moved hW.alike hK, hD9⟩, hS.F ht⟩) hS.2.2 dX2_out_42
