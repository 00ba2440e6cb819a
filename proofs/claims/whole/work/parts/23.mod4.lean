set_option maxHeartbeats 4000000 in
set_option maxRecDepth 100000 in
theorem cX2_update_ok (l : Launch) (dC : Nat → ClassId) (dI : Nat → Nat → Nat) (cA : ClassId) (tb : Nat → Nat) (sz : Nat) (h0 : Nat) (qk : Nat) (qh : Nat) (qv : Nat) (qm : Nat) (qb : Nat) (qr : Nat) (rd : Int32) (op : Int32) (dn : Int32) (hh : Nat → Int32) (vv : Nat → Int32) (mm : Nat → Int32) (bl : Nat → Int32) (kn : Nat) (mx : Int64) (ln : Int32) (nn : Int32) (b : Int32) (hk : kn ≤ 64) : Met l yX2_update wsX2_update ({ frames := 4, cells := 0, slots := 0, locals := 92 }) (va_Pc [.ref h0, .int b] (kd_I (dC, dI) cA tb sz [(h0, .inr (2, [.int rd, .int op, .int dn, .ref qk, .ref qh, .ref qv, .ref qm, .ref qb, .int (nI kn), .long mx, .int ln, .int nn, .ref qr])), (qh, .inl (cA, 8, .inl hh)), (qv, .inl (cA, 16, .inl vv)), (qm, .inl (cA, 16, .inl mm)), (qb, .inl (cA, 64, .inl bl)), (qr, .inl (cA, 160, .inl kd_PL))])) (va_Qi (fun (r : Int32) (u : Int32 × (Nat → Int32) × (Nat → Int32) × (Nat → Int32) × (Nat → Int32) × Nat × Int64) => (r, u.1, (u.2.1, u.2.2.2.2.1, u.2.2.2.2.2.1, u.2.2.2.2.2.2)) = if op = 0 ∨ b < 0 ∨ 256 ≤ b then (0, ln, (hh, bl, kn, mx)) else (1, ln + 1, kd_take b (hh, bl, kn, mx))) (fun u t => kd_O (dC, dI) cA (va_A [(h0, .inr (2, [.int rd, .int op, .int dn, .ref qk, .ref qh, .ref qv, .ref qm, .ref qb, .int (nI kn), .long mx, .int ln, .int nn, .ref qr])), (qh, .inl (cA, 8, .inl hh)), (qv, .inl (cA, 16, .inl vv)), (qm, .inl (cA, 16, .inl mm)), (qb, .inl (cA, 64, .inl bl)), (qr, .inl (cA, 160, .inl kd_PL))] sz) [(h0, .inr (2, [.int rd, .int op, .int dn, .ref qk, .ref qh, .ref qv, .ref qm, .ref qb, .int (nI u.2.2.2.2.2.1), .long u.2.2.2.2.2.2, .int u.1, .int nn, .ref qr])), (qh, .inl (cA, 8, .inl u.2.1)), (qv, .inl (cA, 16, .inl u.2.2.2.1)), (qm, .inl (cA, 16, .inl u.2.2.1)), (qb, .inl (cA, 64, .inl u.2.2.2.2.1)), (qr, .inl (cA, 160, .inl kd_PL))] t) (va_A [(h0, .inr (2, [.int rd, .int op, .int dn, .ref qk, .ref qh, .ref qv, .ref qm, .ref qb, .int (nI kn), .long mx, .int ln, .int nn, .ref qr])), (qh, .inl (cA, 8, .inl hh)), (qv, .inl (cA, 16, .inl vv)), (qm, .inl (cA, 16, .inl mm)), (qb, .inl (cA, 64, .inl bl)), (qr, .inl (cA, 160, .inl kd_PL))] sz)) 0 0 (va_A [(h0, .inr (2, [.int rd, .int op, .int dn, .ref qk, .ref qh, .ref qv, .ref qm, .ref qb, .int (nI kn), .long mx, .int ln, .int nn, .ref qr])), (qh, .inl (cA, 8, .inl hh)), (qv, .inl (cA, 16, .inl vv)), (qm, .inl (cA, 16, .inl mm)), (qb, .inl (cA, 64, .inl bl)), (qr, .inl (cA, 160, .inl kd_PL))] sz) := by
  refine Met.ofW (cc := cX2_update) (maxL := 3) (ret := (some .boolean)) (by decide) rfl ?_
  intro p e s m args below meth c s₁ B hml hv
  obtain ⟨rfl, hsz, hP, hK, hD0, hT⟩ := hv
  have hx := B.exec
  have hb := B.bytes
  have hr := B.returns
  have hts := atoms_spec (ws := wsX2_update) B.pre
  have hown : s.vm.findClass RX2 = some m.cls := findClass_of_methodNamed B.named
  have hlocks := B.notSynchronized
  have ki2 : ∀ w ∈ u_ws RX2 TX2 13, w ∈ wsX2_update := by decide +kernel
  have k1 := hts (.fieldLink RX2 32 "KeyedDigestModel" "isOpen" "Z") (by decide +kernel)
  have k2 := hts (.fieldLink RX2 62 "KeyedDigestModel" "came" "I") (by decide +kernel)
  subst hsz
  have hD := hD0.self (sz := s.heap.size)
  generalize hAe : va_A [(h0, .inr (2, [.int rd, .int op, .int dn, .ref qk, .ref qh, .ref qv, .ref qm, .ref qb, .int (nI kn), .long mx, .int ln, .int nn, .ref qr])), (qh, .inl (cA, 8, .inl hh)), (qv, .inl (cA, 16, .inl vv)), (qm, .inl (cA, 16, .inl mm)), (qb, .inl (cA, 64, .inl bl)), (qr, .inl (cA, 160, .inl kd_PL))] s.heap.size = A at hD hT ⊢
  have hA : ∀ q : Nat, s.heap.size ≤ q → A q := fun q h => by rw [← hAe]; exact Or.inr h
  have hS : va_S A s.heap s.heap [] := va_S.rf
  have hP : va_P (dC, dI) vwCl [(h0, .inr (2, [.int rd, .int op, .int dn, .ref qk, .ref qh, .ref qv, .ref qm, .ref qb, .int (nI kn), .long mx, .int ln, .int nn, .ref qr])), (qh, .inl (cA, 8, .inl hh)), (qv, .inl (cA, 16, .inl vv)), (qm, .inl (cA, 16, .inl mm)), (qb, .inl (cA, 64, .inl bl)), (qr, .inl (cA, 160, .inl kd_PL))] s.heap := hP
  have hl := lv_entry ([.ref h0, .int b]) (n := 3) (Nat.le_of_ble_eq_true rfl)
  rw [lg_entry_eq]
  generalize (lg_sl ([.ref h0, .int b]) ++ List.replicate (3 - (lg_sl ([.ref h0, .int b])).length) Slot.unset).toArray = ls at hl ⊢
  have hl : lv_has ls 3 [(0, .ref h0), (1, .int b)] := hl
  refine lv_aload_n hx hb dX2_update_0 rfl (lv_at hl 0 rfl) ?_
  refine va_get (D := (dC, dI)) (ci := 2) (v := .int op) (C := RX2) (T := TX2) (N := 13) hx hb hts ki2 hown hK hP 0 rfl rfl 1 (by decide) k1 (fun _ h9 => h9) rfl dX2_update_1 ?_
  refine lv_if_eq (tgt := 22) hx hb dX2_update_4 (by decide) (fun c4 => ?_) (fun c4 => ?_)
  · refine lv_iconst (v := 0) hx hb dX2_update_22 (by decide) ?_
    refine lv_istore_n (lv' := [(2, .int 0), (0, .ref h0), (1, .int b)]) hx hb dX2_update_23 rfl hl (by decide) rfl (fun ls hl => ?_)
    refine lv_iload_n hx hb dX2_update_24 rfl (lv_at hl 0 rfl) ?_
    refine lv_if_eq (tgt := 43) hx hb dX2_update_25 (by decide) (fun c25 => ?_) (fun c25 => ?_)
    · refine lv_iload_n hx hb dX2_update_43 rfl (lv_at hl 0 rfl) ?_
      have hP9 := hP.sub (ws' := [(h0, .inr (2, [.int rd, .int op, .int dn, .ref qk, .ref qh, .ref qv, .ref qm, .ref qb, .int (nI kn), .long mx, .int ln, .int nn, .ref qr])), (qh, .inl (cA, 8, .inl hh)), (qv, .inl (cA, 16, .inl vv)), (qm, .inl (cA, 16, .inl mm)), (qb, .inl (cA, 64, .inl bl)), (qr, .inl (cA, 160, .inl kd_PL))]) [0, 1, 2, 3, 4, 5] rfl
      have hD9 := hD.sub (ws' := [(h0, .inr (2, [.int rd, .int op, .int dn, .ref qk, .ref qh, .ref qv, .ref qm, .ref qb, .int (nI kn), .long mx, .int ln, .int nn, .ref qr])), (qh, .inl (cA, 8, .inl hh)), (qv, .inl (cA, 16, .inl vv)), (qm, .inl (cA, 16, .inl mm)), (qb, .inl (cA, 64, .inl bl)), (qr, .inl (cA, 160, .inl kd_PL))]) [0, 1, 2, 3, 4, 5] (by decide) rfl
      exact W.zret (v := 0) hx hb hr (by rfl) (fun t ht hW => ⟨⟨0, (ln, hh, mm, vv, bl, kn, mx), rfl, ((if_pos (Or.inl c4))).symm, by rw [ht]; exact hP9, va_K.moved hW.alike hK, hD9⟩, hS.F ht⟩) hS.2.2 dX2_update_44
    · exact absurd rfl c25
  · refine lv_iload_n hx hb dX2_update_7 rfl (lv_at hl 1 rfl) ?_
    refine lv_if_lt (tgt := 22) hx hb dX2_update_8 (by decide) (fun c8 => ?_) (fun c8 => ?_)
    · refine lv_iconst (v := 0) hx hb dX2_update_22 (by decide) ?_
      refine lv_istore_n (lv' := [(2, .int 0), (0, .ref h0), (1, .int b)]) hx hb dX2_update_23 rfl hl (by decide) rfl (fun ls hl => ?_)
      refine lv_iload_n hx hb dX2_update_24 rfl (lv_at hl 0 rfl) ?_
      refine lv_if_eq (tgt := 43) hx hb dX2_update_25 (by decide) (fun c25 => ?_) (fun c25 => ?_)
      · refine lv_iload_n hx hb dX2_update_43 rfl (lv_at hl 0 rfl) ?_
        have hP9 := hP.sub (ws' := [(h0, .inr (2, [.int rd, .int op, .int dn, .ref qk, .ref qh, .ref qv, .ref qm, .ref qb, .int (nI kn), .long mx, .int ln, .int nn, .ref qr])), (qh, .inl (cA, 8, .inl hh)), (qv, .inl (cA, 16, .inl vv)), (qm, .inl (cA, 16, .inl mm)), (qb, .inl (cA, 64, .inl bl)), (qr, .inl (cA, 160, .inl kd_PL))]) [0, 1, 2, 3, 4, 5] rfl
        have hD9 := hD.sub (ws' := [(h0, .inr (2, [.int rd, .int op, .int dn, .ref qk, .ref qh, .ref qv, .ref qm, .ref qb, .int (nI kn), .long mx, .int ln, .int nn, .ref qr])), (qh, .inl (cA, 8, .inl hh)), (qv, .inl (cA, 16, .inl vv)), (qm, .inl (cA, 16, .inl mm)), (qb, .inl (cA, 64, .inl bl)), (qr, .inl (cA, 160, .inl kd_PL))]) [0, 1, 2, 3, 4, 5] (by decide) rfl
        exact W.zret (v := 0) hx hb hr (by rfl) (fun t ht hW => ⟨⟨0, (ln, hh, mm, vv, bl, kn, mx), rfl, ((if_pos (Or.inr (Or.inl c8)))).symm, by rw [ht]; exact hP9, va_K.moved hW.alike hK, hD9⟩, hS.F ht⟩) hS.2.2 dX2_update_44
      · exact absurd rfl c25
    · refine lv_iload_n hx hb dX2_update_11 rfl (lv_at hl 1 rfl) ?_
      refine lv_sipush (v := 256) hx hb dX2_update_12 (by decide) ?_
      refine lv_icmp_ge (tgt := 22) hx hb dX2_update_15 (by decide) (fun c15 => ?_) (fun c15 => ?_)
      · refine lv_iconst (v := 0) hx hb dX2_update_22 (by decide) ?_
        refine lv_istore_n (lv' := [(2, .int 0), (0, .ref h0), (1, .int b)]) hx hb dX2_update_23 rfl hl (by decide) rfl (fun ls hl => ?_)
        refine lv_iload_n hx hb dX2_update_24 rfl (lv_at hl 0 rfl) ?_
        refine lv_if_eq (tgt := 43) hx hb dX2_update_25 (by decide) (fun c25 => ?_) (fun c25 => ?_)
        · refine lv_iload_n hx hb dX2_update_43 rfl (lv_at hl 0 rfl) ?_
          have hP9 := hP.sub (ws' := [(h0, .inr (2, [.int rd, .int op, .int dn, .ref qk, .ref qh, .ref qv, .ref qm, .ref qb, .int (nI kn), .long mx, .int ln, .int nn, .ref qr])), (qh, .inl (cA, 8, .inl hh)), (qv, .inl (cA, 16, .inl vv)), (qm, .inl (cA, 16, .inl mm)), (qb, .inl (cA, 64, .inl bl)), (qr, .inl (cA, 160, .inl kd_PL))]) [0, 1, 2, 3, 4, 5] rfl
          have hD9 := hD.sub (ws' := [(h0, .inr (2, [.int rd, .int op, .int dn, .ref qk, .ref qh, .ref qv, .ref qm, .ref qb, .int (nI kn), .long mx, .int ln, .int nn, .ref qr])), (qh, .inl (cA, 8, .inl hh)), (qv, .inl (cA, 16, .inl vv)), (qm, .inl (cA, 16, .inl mm)), (qb, .inl (cA, 64, .inl bl)), (qr, .inl (cA, 160, .inl kd_PL))]) [0, 1, 2, 3, 4, 5] (by decide) rfl
          exact W.zret (v := 0) hx hb hr (by rfl) (fun t ht hW => ⟨⟨0, (ln, hh, mm, vv, bl, kn, mx), rfl, ((if_pos (Or.inr (Or.inr (c15))))).symm, by rw [ht]; exact hP9, va_K.moved hW.alike hK, hD9⟩, hS.F ht⟩) hS.2.2 dX2_update_44
        · exact absurd rfl c25
      · refine lv_iconst (v := 1) hx hb dX2_update_18 (by decide) ?_
        refine lv_goto (tgt := 23) hx hb dX2_update_19 (by decide) ?_
        refine lv_istore_n (lv' := [(2, .int 1), (0, .ref h0), (1, .int b)]) hx hb dX2_update_23 rfl hl (by decide) rfl (fun ls hl => ?_)
        refine lv_iload_n hx hb dX2_update_24 rfl (lv_at hl 0 rfl) ?_
        refine lv_if_eq (tgt := 43) hx hb dX2_update_25 (by decide) (fun c25 => ?_) (fun c25 => ?_)
        · exact absurd c25 (by decide)
        · refine lv_aload_n hx hb dX2_update_28 rfl (lv_at hl 1 rfl) ?_
          refine lv_iload_n hx hb dX2_update_29 rfl (lv_at hl 2 rfl) ?_
          have hPc := hP.sub (ws' := [(h0, .inr (2, [.int rd, .int op, .int dn, .ref qk, .ref qh, .ref qv, .ref qm, .ref qb, .int (nI kn), .long mx, .int ln, .int nn, .ref qr])), (qh, .inl (cA, 8, .inl hh)), (qv, .inl (cA, 16, .inl vv)), (qm, .inl (cA, 16, .inl mm)), (qb, .inl (cA, 64, .inl bl)), (qr, .inl (cA, 160, .inl kd_PL))]) [0, 1, 2, 3, 4, 5] rfl
          have hDc := hD.sub (ws' := [(h0, .inr (2, [.int rd, .int op, .int dn, .ref qk, .ref qh, .ref qv, .ref qm, .ref qb, .int (nI kn), .long mx, .int ln, .int nn, .ref qr])), (qh, .inl (cA, 8, .inl hh)), (qv, .inl (cA, 16, .inl vv)), (qm, .inl (cA, 16, .inl mm)), (qb, .inl (cA, 64, .inl bl)), (qr, .inl (cA, 160, .inl kd_PL))]) [0, 1, 2, 3, 4, 5] (by decide) rfl
          have hFc := va_free (wc := [(h0, .inr (2, [.int rd, .int op, .int dn, .ref qk, .ref qh, .ref qv, .ref qm, .ref qb, .int (nI kn), .long mx, .int ln, .int nn, .ref qr])), (qh, .inl (cA, 8, .inl hh)), (qv, .inl (cA, 16, .inl vv)), (qm, .inl (cA, 16, .inl mm)), (qb, .inl (cA, 64, .inl bl)), (qr, .inl (cA, 160, .inl kd_PL))]) hD hS hA [0, 1, 2, 3, 4, 5] rfl
          refine va_callv (va_runV (As := [.int b]) (rest := []) ⟨hx, hb, hml, hown, hts⟩ (cX2_take_ok l dC dI cA tb s.heap.size h0 qk qh qv qm qb qr rd op dn hh vv mm bl kn mx ln nn b hk) (cwV 1 hts gX2_update_X2_take rfl rfl rfl (by decide +kernel) ⟨Nat.le_of_ble_eq_true rfl, Nat.le_of_ble_eq_true rfl⟩) ⟨fun a U g mk q => kd_calling rfl rfl q, va_recv hK hPc (ci := 2) (q0 := 0) rfl rfl, fun U hU hW => ⟨rfl, kd_pre hPc hK hDc hT hS hFc U hU hW⟩⟩ rfl rfl hl.1 rfl (lv_room (Nat.le_of_ble_eq_true rfl)) dX2_update_30 ⟨Nat.le_of_ble_eq_true rfl, Nat.le_of_ble_eq_true rfl⟩) hS (fun q _ h => hFc q h) hFc (fun u t H1 locs ht hvm hw hB hz1 hk1 hS => ?_)
          obtain ⟨ho30, mo30, vo30, bo30, ko30, xo30⟩ := u
          have hw30 : (ho30, bo30, ko30, xo30) = kd_take b (hh, bl, kn, mx) := hw
          have hP1 : va_P (dC, dI) vwCl [(h0, .inr (2, [.int rd, .int op, .int dn, .ref qk, .ref qh, .ref qv, .ref qm, .ref qb, .int (nI ko30), .long xo30, .int ln, .int nn, .ref qr])), (qh, .inl (cA, 8, .inl ho30)), (qv, .inl (cA, 16, .inl vo30)), (qm, .inl (cA, 16, .inl mo30)), (qb, .inl (cA, 64, .inl bo30)), (qr, .inl (cA, 160, .inl kd_PL))] H1 := by rw [← ht]; exact hB.1
          have hD1 : va_D (va_A [(h0, .inr (2, [.int rd, .int op, .int dn, .ref qk, .ref qh, .ref qv, .ref qm, .ref qb, .int (nI kn), .long mx, .int ln, .int nn, .ref qr])), (qh, .inl (cA, 8, .inl hh)), (qv, .inl (cA, 16, .inl vv)), (qm, .inl (cA, 16, .inl mm)), (qb, .inl (cA, 64, .inl bl)), (qr, .inl (cA, 160, .inl kd_PL))] s.heap.size) [(h0, .inr (2, [.int rd, .int op, .int dn, .ref qk, .ref qh, .ref qv, .ref qm, .ref qb, .int (nI ko30), .long xo30, .int ln, .int nn, .ref qr])), (qh, .inl (cA, 8, .inl ho30)), (qv, .inl (cA, 16, .inl vo30)), (qm, .inl (cA, 16, .inl mo30)), (qb, .inl (cA, 64, .inl bo30)), (qr, .inl (cA, 160, .inl kd_PL))] := hB.2.2
          obtain ⟨hP, hD⟩ := va_join (wr := []) (w1 := [(h0, .inr (2, [.int rd, .int op, .int dn, .ref qk, .ref qh, .ref qv, .ref qm, .ref qb, .int (nI ko30), .long xo30, .int ln, .int nn, .ref qr])), (qh, .inl (cA, 8, .inl ho30)), (qv, .inl (cA, 16, .inl vo30)), (qm, .inl (cA, 16, .inl mo30)), (qb, .inl (cA, 64, .inl bo30)), (qr, .inl (cA, 160, .inl kd_PL))]) hP hD [0, 1, 2, 3, 4, 5] [] rfl rfl (by decide) (by decide) hk1 hFc hP1 hD1
          clear hw hB hk1 hPc hDc hFc hP1 hD1 hvm hz1
          generalize H1 = H at hP hS ⊢
          have hP : va_P (dC, dI) vwCl [(h0, .inr (2, [.int rd, .int op, .int dn, .ref qk, .ref qh, .ref qv, .ref qm, .ref qb, .int (nI ko30), .long xo30, .int ln, .int nn, .ref qr])), (qh, .inl (cA, 8, .inl ho30)), (qv, .inl (cA, 16, .inl vo30)), (qm, .inl (cA, 16, .inl mo30)), (qb, .inl (cA, 64, .inl bo30)), (qr, .inl (cA, 160, .inl kd_PL))] H := hP
          have hD : va_D A [(h0, .inr (2, [.int rd, .int op, .int dn, .ref qk, .ref qh, .ref qv, .ref qm, .ref qb, .int (nI ko30), .long xo30, .int ln, .int nn, .ref qr])), (qh, .inl (cA, 8, .inl ho30)), (qv, .inl (cA, 16, .inl vo30)), (qm, .inl (cA, 16, .inl mo30)), (qb, .inl (cA, 64, .inl bo30)), (qr, .inl (cA, 160, .inl kd_PL))] := hD
          refine lv_aload_n hx hb dX2_update_33 rfl (lv_at hl 1 rfl) ?_
          refine lv_dup hx hb dX2_update_34 rfl ?_
          refine va_get (D := (dC, dI)) (ci := 2) (v := .int ln) (C := RX2) (T := TX2) (N := 13) hx hb hts ki2 hown hK hP 0 rfl rfl 10 (by decide) k2 (fun _ h9 => h9) rfl dX2_update_35 ?_
          refine lv_iconst (v := 1) hx hb dX2_update_38 (by decide) ?_
          refine lv_iadd hx hb dX2_update_39 ?_
          refine lv_topi (fun x40 ex40 => ?_)
          refine va_put (D := (dC, dI)) (ci := 2) (v := .int x40) (ty := .int) (C := RX2) (T := TX2) (N := 13) hx hb hts ki2 tyX2 tyX2_ok nmX2 hown hK hP hD hS 0 rfl rfl 10 (by decide) k2 (fun _ h9 => h9) rfl (by decide +kernel) rfl rfl (Nat.le_of_ble_eq_true rfl) dX2_update_40 (fun H locs hP hD hS => ?_)
          have hP : va_P (dC, dI) vwCl [(h0, .inr (2, [.int rd, .int op, .int dn, .ref qk, .ref qh, .ref qv, .ref qm, .ref qb, .int (nI ko30), .long xo30, .int x40, .int nn, .ref qr])), (qh, .inl (cA, 8, .inl ho30)), (qv, .inl (cA, 16, .inl vo30)), (qm, .inl (cA, 16, .inl mo30)), (qb, .inl (cA, 64, .inl bo30)), (qr, .inl (cA, 160, .inl kd_PL))] H := hP
          have hD : va_D A [(h0, .inr (2, [.int rd, .int op, .int dn, .ref qk, .ref qh, .ref qv, .ref qm, .ref qb, .int (nI ko30), .long xo30, .int x40, .int nn, .ref qr])), (qh, .inl (cA, 8, .inl ho30)), (qv, .inl (cA, 16, .inl vo30)), (qm, .inl (cA, 16, .inl mo30)), (qb, .inl (cA, 64, .inl bo30)), (qr, .inl (cA, 160, .inl kd_PL))] := hD
          refine lv_iload_n hx hb dX2_update_43 rfl (lv_at hl 0 rfl) ?_
          have hP9 := hP.sub (ws' := [(h0, .inr (2, [.int rd, .int op, .int dn, .ref qk, .ref qh, .ref qv, .ref qm, .ref qb, .int (nI ko30), .long xo30, .int x40, .int nn, .ref qr])), (qh, .inl (cA, 8, .inl ho30)), (qv, .inl (cA, 16, .inl vo30)), (qm, .inl (cA, 16, .inl mo30)), (qb, .inl (cA, 64, .inl bo30)), (qr, .inl (cA, 160, .inl kd_PL))]) [0, 1, 2, 3, 4, 5] rfl
          have hD9 := hD.sub (ws' := [(h0, .inr (2, [.int rd, .int op, .int dn, .ref qk, .ref qh, .ref qv, .ref qm, .ref qb, .int (nI ko30), .long xo30, .int x40, .int nn, .ref qr])), (qh, .inl (cA, 8, .inl ho30)), (qv, .inl (cA, 16, .inl vo30)), (qm, .inl (cA, 16, .inl mo30)), (qb, .inl (cA, 64, .inl bo30)), (qr, .inl (cA, 160, .inl kd_PL))]) [0, 1, 2, 3, 4, 5] (by decide) rfl
          exact W.zret (v := 1) hx hb hr (by rfl) (fun t ht hW => ⟨⟨1, (x40, ho30, mo30, vo30, bo30, ko30, xo30), rfl, (by dsimp only; rw [(if_neg (fun h => h.elim c4 (fun h => h.elim c8 (c15)))), hw30, ex40]), by rw [ht]; exact hP9, va_K.moved hW.alike hK, hD9⟩, hS.F ht⟩) hS.2.2 dX2_update_44

set_option maxHeartbeats 4000000 in
set_option maxRecDepth 100000 in
theorem cX2_fill_ok (l : Launch) (dC : Nat → ClassId) (dI : Nat → Nat → Nat) (cA : ClassId) (tb : Nat → Nat) (sz : Nat) (h0 : Nat) (qk : Nat) (qh : Nat) (qv : Nat) (qm : Nat) (qb : Nat) (qr : Nat) (rd : Int32) (op : Int32) (dn : Int32) (hh : Nat → Int32) (vv : Nat → Int32) (mm : Nat → Int32) (bl : Nat → Int32) (kn : Nat) (mx : Int64) (ln : Int32) (nn : Int32) (b : Int32) (n : Int32) (hk : kn ≤ 64) : Met l yX2_fill wsX2_fill ({ frames := 4, cells := 0, slots := 0, locals := 92 }) (va_Pc [.ref h0, .int b, .int n] (kd_I (dC, dI) cA tb sz [(h0, .inr (2, [.int rd, .int op, .int dn, .ref qk, .ref qh, .ref qv, .ref qm, .ref qb, .int (nI kn), .long mx, .int ln, .int nn, .ref qr])), (qh, .inl (cA, 8, .inl hh)), (qv, .inl (cA, 16, .inl vv)), (qm, .inl (cA, 16, .inl mm)), (qb, .inl (cA, 64, .inl bl)), (qr, .inl (cA, 160, .inl kd_PL))])) (va_Qi (fun (r : Int32) (u : Int32 × (Nat → Int32) × (Nat → Int32) × (Nat → Int32) × (Nat → Int32) × Nat × Int64) => (r, u.1, (u.2.1, u.2.2.2.2.1, u.2.2.2.2.2.1, u.2.2.2.2.2.2)) = if op = 0 ∨ b < 0 ∨ 256 ≤ b ∨ n < 0 ∨ 10000 < n then (0, ln, (hh, bl, kn, mx)) else (1, ln + n, kd_takes (fun _ => b) n.toNatClampNeg (hh, bl, kn, mx))) (fun u t => kd_O (dC, dI) cA (va_A [(h0, .inr (2, [.int rd, .int op, .int dn, .ref qk, .ref qh, .ref qv, .ref qm, .ref qb, .int (nI kn), .long mx, .int ln, .int nn, .ref qr])), (qh, .inl (cA, 8, .inl hh)), (qv, .inl (cA, 16, .inl vv)), (qm, .inl (cA, 16, .inl mm)), (qb, .inl (cA, 64, .inl bl)), (qr, .inl (cA, 160, .inl kd_PL))] sz) [(h0, .inr (2, [.int rd, .int op, .int dn, .ref qk, .ref qh, .ref qv, .ref qm, .ref qb, .int (nI u.2.2.2.2.2.1), .long u.2.2.2.2.2.2, .int u.1, .int nn, .ref qr])), (qh, .inl (cA, 8, .inl u.2.1)), (qv, .inl (cA, 16, .inl u.2.2.2.1)), (qm, .inl (cA, 16, .inl u.2.2.1)), (qb, .inl (cA, 64, .inl u.2.2.2.2.1)), (qr, .inl (cA, 160, .inl kd_PL))] t) (va_A [(h0, .inr (2, [.int rd, .int op, .int dn, .ref qk, .ref qh, .ref qv, .ref qm, .ref qb, .int (nI kn), .long mx, .int ln, .int nn, .ref qr])), (qh, .inl (cA, 8, .inl hh)), (qv, .inl (cA, 16, .inl vv)), (qm, .inl (cA, 16, .inl mm)), (qb, .inl (cA, 64, .inl bl)), (qr, .inl (cA, 160, .inl kd_PL))] sz)) 0 0 (va_A [(h0, .inr (2, [.int rd, .int op, .int dn, .ref qk, .ref qh, .ref qv, .ref qm, .ref qb, .int (nI kn), .long mx, .int ln, .int nn, .ref qr])), (qh, .inl (cA, 8, .inl hh)), (qv, .inl (cA, 16, .inl vv)), (qm, .inl (cA, 16, .inl mm)), (qb, .inl (cA, 64, .inl bl)), (qr, .inl (cA, 160, .inl kd_PL))] sz) := by
  refine Met.ofW (cc := cX2_fill) (maxL := 5) (ret := (some .boolean)) (by decide) rfl ?_
  intro p e s m args below meth c s₁ B hml hv
  obtain ⟨rfl, hsz, hP, hK, hD0, hT⟩ := hv
  have hx := B.exec
  have hb := B.bytes
  have hr := B.returns
  have hts := atoms_spec (ws := wsX2_fill) B.pre
  have hown : s.vm.findClass RX2 = some m.cls := findClass_of_methodNamed B.named
  have hlocks := B.notSynchronized
  have ki2 : ∀ w ∈ u_ws RX2 TX2 13, w ∈ wsX2_fill := by decide +kernel
  have k1 := hts (.fieldLink RX2 32 "KeyedDigestModel" "isOpen" "Z") (by decide +kernel)
  have k2 := hts (.fieldLink RX2 62 "KeyedDigestModel" "came" "I") (by decide +kernel)
  subst hsz
  have hD := hD0.self (sz := s.heap.size)
  generalize hAe : va_A [(h0, .inr (2, [.int rd, .int op, .int dn, .ref qk, .ref qh, .ref qv, .ref qm, .ref qb, .int (nI kn), .long mx, .int ln, .int nn, .ref qr])), (qh, .inl (cA, 8, .inl hh)), (qv, .inl (cA, 16, .inl vv)), (qm, .inl (cA, 16, .inl mm)), (qb, .inl (cA, 64, .inl bl)), (qr, .inl (cA, 160, .inl kd_PL))] s.heap.size = A at hD hT ⊢
  have hA : ∀ q : Nat, s.heap.size ≤ q → A q := fun q h => by rw [← hAe]; exact Or.inr h
  have hS : va_S A s.heap s.heap [] := va_S.rf
  have hP : va_P (dC, dI) vwCl [(h0, .inr (2, [.int rd, .int op, .int dn, .ref qk, .ref qh, .ref qv, .ref qm, .ref qb, .int (nI kn), .long mx, .int ln, .int nn, .ref qr])), (qh, .inl (cA, 8, .inl hh)), (qv, .inl (cA, 16, .inl vv)), (qm, .inl (cA, 16, .inl mm)), (qb, .inl (cA, 64, .inl bl)), (qr, .inl (cA, 160, .inl kd_PL))] s.heap := hP
  have hl := lv_entry ([.ref h0, .int b, .int n]) (n := 5) (Nat.le_of_ble_eq_true rfl)
  rw [lg_entry_eq]
  generalize (lg_sl ([.ref h0, .int b, .int n]) ++ List.replicate (5 - (lg_sl ([.ref h0, .int b, .int n])).length) Slot.unset).toArray = ls at hl ⊢
  have hl : lv_has ls 5 [(0, .ref h0), (1, .int b), (2, .int n)] := hl
  refine lv_aload_n hx hb dX2_fill_0 rfl (lv_at hl 0 rfl) ?_
  refine va_get (D := (dC, dI)) (ci := 2) (v := .int op) (C := RX2) (T := TX2) (N := 13) hx hb hts ki2 hown hK hP 0 rfl rfl 1 (by decide) k1 (fun _ h9 => h9) rfl dX2_fill_1 ?_
  refine lv_if_eq (tgt := 33) hx hb dX2_fill_4 (by decide) (fun c4 => ?_) (fun c4 => ?_)
  · refine lv_iconst (v := 0) hx hb dX2_fill_33 (by decide) ?_
    refine lv_istore_n (lv' := [(3, .int 0), (0, .ref h0), (1, .int b), (2, .int n)]) hx hb dX2_fill_34 rfl hl (by decide) rfl (fun ls hl => ?_)
    refine lv_iconst (v := 0) hx hb dX2_fill_35 (by decide) ?_
    refine lv_istore (lv' := [(4, .int 0), (3, .int 0), (0, .ref h0), (1, .int b), (2, .int n)]) hx hb dX2_fill_36 hl (by decide) rfl (fun ls hl => ?_)
    refine lv_iload hx hb dX2_fill_38 (lv_at hl 0 rfl) ?_
    refine lv_iload_n hx hb dX2_fill_40 rfl (lv_at hl 4 rfl) ?_
    refine lv_icmp_ge (tgt := 69) hx hb dX2_fill_41 (by decide) (fun c41 => ?_) (fun c41 => ?_)
    · refine lv_iload_n hx hb dX2_fill_69 rfl (lv_at hl 1 rfl) ?_
      have hP9 := hP.sub (ws' := [(h0, .inr (2, [.int rd, .int op, .int dn, .ref qk, .ref qh, .ref qv, .ref qm, .ref qb, .int (nI kn), .long mx, .int ln, .int nn, .ref qr])), (qh, .inl (cA, 8, .inl hh)), (qv, .inl (cA, 16, .inl vv)), (qm, .inl (cA, 16, .inl mm)), (qb, .inl (cA, 64, .inl bl)), (qr, .inl (cA, 160, .inl kd_PL))]) [0, 1, 2, 3, 4, 5] rfl
      have hD9 := hD.sub (ws' := [(h0, .inr (2, [.int rd, .int op, .int dn, .ref qk, .ref qh, .ref qv, .ref qm, .ref qb, .int (nI kn), .long mx, .int ln, .int nn, .ref qr])), (qh, .inl (cA, 8, .inl hh)), (qv, .inl (cA, 16, .inl vv)), (qm, .inl (cA, 16, .inl mm)), (qb, .inl (cA, 64, .inl bl)), (qr, .inl (cA, 160, .inl kd_PL))]) [0, 1, 2, 3, 4, 5] (by decide) rfl
      exact W.zret (v := 0) hx hb hr (by rfl) (fun t ht hW => ⟨⟨0, (ln, hh, mm, vv, bl, kn, mx), rfl, ((if_pos (Or.inl c4))).symm, by rw [ht]; exact hP9, va_K.moved hW.alike hK, hD9⟩, hS.F ht⟩) hS.2.2 dX2_fill_70
    · refine lv_iload_n hx hb dX2_fill_44 rfl (lv_at hl 1 rfl) ?_
      refine lv_if_eq (tgt := 69) hx hb dX2_fill_45 (by decide) (fun c45 => ?_) (fun c45 => ?_)
      · refine lv_iload_n hx hb dX2_fill_69 rfl (lv_at hl 1 rfl) ?_
        have hP9 := hP.sub (ws' := [(h0, .inr (2, [.int rd, .int op, .int dn, .ref qk, .ref qh, .ref qv, .ref qm, .ref qb, .int (nI kn), .long mx, .int ln, .int nn, .ref qr])), (qh, .inl (cA, 8, .inl hh)), (qv, .inl (cA, 16, .inl vv)), (qm, .inl (cA, 16, .inl mm)), (qb, .inl (cA, 64, .inl bl)), (qr, .inl (cA, 160, .inl kd_PL))]) [0, 1, 2, 3, 4, 5] rfl
        have hD9 := hD.sub (ws' := [(h0, .inr (2, [.int rd, .int op, .int dn, .ref qk, .ref qh, .ref qv, .ref qm, .ref qb, .int (nI kn), .long mx, .int ln, .int nn, .ref qr])), (qh, .inl (cA, 8, .inl hh)), (qv, .inl (cA, 16, .inl vv)), (qm, .inl (cA, 16, .inl mm)), (qb, .inl (cA, 64, .inl bl)), (qr, .inl (cA, 160, .inl kd_PL))]) [0, 1, 2, 3, 4, 5] (by decide) rfl
        exact W.zret (v := 0) hx hb hr (by rfl) (fun t ht hW => ⟨⟨0, (ln, hh, mm, vv, bl, kn, mx), rfl, ((if_pos (Or.inl c4))).symm, by rw [ht]; exact hP9, va_K.moved hW.alike hK, hD9⟩, hS.F ht⟩) hS.2.2 dX2_fill_70
      · exact absurd rfl c45
  · refine lv_iload_n hx hb dX2_fill_7 rfl (lv_at hl 1 rfl) ?_
    refine lv_if_lt (tgt := 33) hx hb dX2_fill_8 (by decide) (fun c8 => ?_) (fun c8 => ?_)
    · refine lv_iconst (v := 0) hx hb dX2_fill_33 (by decide) ?_
      refine lv_istore_n (lv' := [(3, .int 0), (0, .ref h0), (1, .int b), (2, .int n)]) hx hb dX2_fill_34 rfl hl (by decide) rfl (fun ls hl => ?_)
      refine lv_iconst (v := 0) hx hb dX2_fill_35 (by decide) ?_
      refine lv_istore (lv' := [(4, .int 0), (3, .int 0), (0, .ref h0), (1, .int b), (2, .int n)]) hx hb dX2_fill_36 hl (by decide) rfl (fun ls hl => ?_)
      refine lv_iload hx hb dX2_fill_38 (lv_at hl 0 rfl) ?_
      refine lv_iload_n hx hb dX2_fill_40 rfl (lv_at hl 4 rfl) ?_
      refine lv_icmp_ge (tgt := 69) hx hb dX2_fill_41 (by decide) (fun c41 => ?_) (fun c41 => ?_)
      · refine lv_iload_n hx hb dX2_fill_69 rfl (lv_at hl 1 rfl) ?_
        have hP9 := hP.sub (ws' := [(h0, .inr (2, [.int rd, .int op, .int dn, .ref qk, .ref qh, .ref qv, .ref qm, .ref qb, .int (nI kn), .long mx, .int ln, .int nn, .ref qr])), (qh, .inl (cA, 8, .inl hh)), (qv, .inl (cA, 16, .inl vv)), (qm, .inl (cA, 16, .inl mm)), (qb, .inl (cA, 64, .inl bl)), (qr, .inl (cA, 160, .inl kd_PL))]) [0, 1, 2, 3, 4, 5] rfl
        have hD9 := hD.sub (ws' := [(h0, .inr (2, [.int rd, .int op, .int dn, .ref qk, .ref qh, .ref qv, .ref qm, .ref qb, .int (nI kn), .long mx, .int ln, .int nn, .ref qr])), (qh, .inl (cA, 8, .inl hh)), (qv, .inl (cA, 16, .inl vv)), (qm, .inl (cA, 16, .inl mm)), (qb, .inl (cA, 64, .inl bl)), (qr, .inl (cA, 160, .inl kd_PL))]) [0, 1, 2, 3, 4, 5] (by decide) rfl
        exact W.zret (v := 0) hx hb hr (by rfl) (fun t ht hW => ⟨⟨0, (ln, hh, mm, vv, bl, kn, mx), rfl, ((if_pos (Or.inr (Or.inl c8)))).symm, by rw [ht]; exact hP9, va_K.moved hW.alike hK, hD9⟩, hS.F ht⟩) hS.2.2 dX2_fill_70
      · refine lv_iload_n hx hb dX2_fill_44 rfl (lv_at hl 1 rfl) ?_
        refine lv_if_eq (tgt := 69) hx hb dX2_fill_45 (by decide) (fun c45 => ?_) (fun c45 => ?_)
        · refine lv_iload_n hx hb dX2_fill_69 rfl (lv_at hl 1 rfl) ?_
          have hP9 := hP.sub (ws' := [(h0, .inr (2, [.int rd, .int op, .int dn, .ref qk, .ref qh, .ref qv, .ref qm, .ref qb, .int (nI kn), .long mx, .int ln, .int nn, .ref qr])), (qh, .inl (cA, 8, .inl hh)), (qv, .inl (cA, 16, .inl vv)), (qm, .inl (cA, 16, .inl mm)), (qb, .inl (cA, 64, .inl bl)), (qr, .inl (cA, 160, .inl kd_PL))]) [0, 1, 2, 3, 4, 5] rfl
          have hD9 := hD.sub (ws' := [(h0, .inr (2, [.int rd, .int op, .int dn, .ref qk, .ref qh, .ref qv, .ref qm, .ref qb, .int (nI kn), .long mx, .int ln, .int nn, .ref qr])), (qh, .inl (cA, 8, .inl hh)), (qv, .inl (cA, 16, .inl vv)), (qm, .inl (cA, 16, .inl mm)), (qb, .inl (cA, 64, .inl bl)), (qr, .inl (cA, 160, .inl kd_PL))]) [0, 1, 2, 3, 4, 5] (by decide) rfl
          exact W.zret (v := 0) hx hb hr (by rfl) (fun t ht hW => ⟨⟨0, (ln, hh, mm, vv, bl, kn, mx), rfl, ((if_pos (Or.inr (Or.inl c8)))).symm, by rw [ht]; exact hP9, va_K.moved hW.alike hK, hD9⟩, hS.F ht⟩) hS.2.2 dX2_fill_70
        · exact absurd rfl c45
    · refine lv_iload_n hx hb dX2_fill_11 rfl (lv_at hl 1 rfl) ?_
      refine lv_sipush (v := 256) hx hb dX2_fill_12 (by decide) ?_
      refine lv_icmp_ge (tgt := 33) hx hb dX2_fill_15 (by decide) (fun c15 => ?_) (fun c15 => ?_)
      · refine lv_iconst (v := 0) hx hb dX2_fill_33 (by decide) ?_
        refine lv_istore_n (lv' := [(3, .int 0), (0, .ref h0), (1, .int b), (2, .int n)]) hx hb dX2_fill_34 rfl hl (by decide) rfl (fun ls hl => ?_)
        refine lv_iconst (v := 0) hx hb dX2_fill_35 (by decide) ?_
        refine lv_istore (lv' := [(4, .int 0), (3, .int 0), (0, .ref h0), (1, .int b), (2, .int n)]) hx hb dX2_fill_36 hl (by decide) rfl (fun ls hl => ?_)
        refine lv_iload hx hb dX2_fill_38 (lv_at hl 0 rfl) ?_
        refine lv_iload_n hx hb dX2_fill_40 rfl (lv_at hl 4 rfl) ?_
        refine lv_icmp_ge (tgt := 69) hx hb dX2_fill_41 (by decide) (fun c41 => ?_) (fun c41 => ?_)
        · refine lv_iload_n hx hb dX2_fill_69 rfl (lv_at hl 1 rfl) ?_
          have hP9 := hP.sub (ws' := [(h0, .inr (2, [.int rd, .int op, .int dn, .ref qk, .ref qh, .ref qv, .ref qm, .ref qb, .int (nI kn), .long mx, .int ln, .int nn, .ref qr])), (qh, .inl (cA, 8, .inl hh)), (qv, .inl (cA, 16, .inl vv)), (qm, .inl (cA, 16, .inl mm)), (qb, .inl (cA, 64, .inl bl)), (qr, .inl (cA, 160, .inl kd_PL))]) [0, 1, 2, 3, 4, 5] rfl
          have hD9 := hD.sub (ws' := [(h0, .inr (2, [.int rd, .int op, .int dn, .ref qk, .ref qh, .ref qv, .ref qm, .ref qb, .int (nI kn), .long mx, .int ln, .int nn, .ref qr])), (qh, .inl (cA, 8, .inl hh)), (qv, .inl (cA, 16, .inl vv)), (qm, .inl (cA, 16, .inl mm)), (qb, .inl (cA, 64, .inl bl)), (qr, .inl (cA, 160, .inl kd_PL))]) [0, 1, 2, 3, 4, 5] (by decide) rfl
          exact W.zret (v := 0) hx hb hr (by rfl) (fun t ht hW => ⟨⟨0, (ln, hh, mm, vv, bl, kn, mx), rfl, ((if_pos (Or.inr (Or.inr (Or.inl c15))))).symm, by rw [ht]; exact hP9, va_K.moved hW.alike hK, hD9⟩, hS.F ht⟩) hS.2.2 dX2_fill_70
        · refine lv_iload_n hx hb dX2_fill_44 rfl (lv_at hl 1 rfl) ?_
          refine lv_if_eq (tgt := 69) hx hb dX2_fill_45 (by decide) (fun c45 => ?_) (fun c45 => ?_)
          · refine lv_iload_n hx hb dX2_fill_69 rfl (lv_at hl 1 rfl) ?_
            have hP9 := hP.sub (ws' := [(h0, .inr (2, [.int rd, .int op, .int dn, .ref qk, .ref qh, .ref qv, .ref qm, .ref qb, .int (nI kn), .long mx, .int ln, .int nn, .ref qr])), (qh, .inl (cA, 8, .inl hh)), (qv, .inl (cA, 16, .inl vv)), (qm, .inl (cA, 16, .inl mm)), (qb, .inl (cA, 64, .inl bl)), (qr, .inl (cA, 160, .inl kd_PL))]) [0, 1, 2, 3, 4, 5] rfl
            have hD9 := hD.sub (ws' := [(h0, .inr (2, [.int rd, .int op, .int dn, .ref qk, .ref qh, .ref qv, .ref qm, .ref qb, .int (nI kn), .long mx, .int ln, .int nn, .ref qr])), (qh, .inl (cA, 8, .inl hh)), (qv, .inl (cA, 16, .inl vv)), (qm, .inl (cA, 16, .inl mm)), (qb, .inl (cA, 64, .inl bl)), (qr, .inl (cA, 160, .inl kd_PL))]) [0, 1, 2, 3, 4, 5] (by decide) rfl
            exact W.zret (v := 0) hx hb hr (by rfl) (fun t ht hW => ⟨⟨0, (ln, hh, mm, vv, bl, kn, mx), rfl, ((if_pos (Or.inr (Or.inr (Or.inl c15))))).symm, by rw [ht]; exact hP9, va_K.moved hW.alike hK, hD9⟩, hS.F ht⟩) hS.2.2 dX2_fill_70
          · exact absurd rfl c45
      · refine lv_iload_n hx hb dX2_fill_18 rfl (lv_at hl 2 rfl) ?_
        refine lv_if_lt (tgt := 33) hx hb dX2_fill_19 (by decide) (fun c19 => ?_) (fun c19 => ?_)
        · refine lv_iconst (v := 0) hx hb dX2_fill_33 (by decide) ?_
          refine lv_istore_n (lv' := [(3, .int 0), (0, .ref h0), (1, .int b), (2, .int n)]) hx hb dX2_fill_34 rfl hl (by decide) rfl (fun ls hl => ?_)
          refine lv_iconst (v := 0) hx hb dX2_fill_35 (by decide) ?_
          refine lv_istore (lv' := [(4, .int 0), (3, .int 0), (0, .ref h0), (1, .int b), (2, .int n)]) hx hb dX2_fill_36 hl (by decide) rfl (fun ls hl => ?_)
          refine lv_iload hx hb dX2_fill_38 (lv_at hl 0 rfl) ?_
          refine lv_iload_n hx hb dX2_fill_40 rfl (lv_at hl 4 rfl) ?_
          refine lv_icmp_ge (tgt := 69) hx hb dX2_fill_41 (by decide) (fun c41 => ?_) (fun c41 => ?_)
          · refine lv_iload_n hx hb dX2_fill_69 rfl (lv_at hl 1 rfl) ?_
            have hP9 := hP.sub (ws' := [(h0, .inr (2, [.int rd, .int op, .int dn, .ref qk, .ref qh, .ref qv, .ref qm, .ref qb, .int (nI kn), .long mx, .int ln, .int nn, .ref qr])), (qh, .inl (cA, 8, .inl hh)), (qv, .inl (cA, 16, .inl vv)), (qm, .inl (cA, 16, .inl mm)), (qb, .inl (cA, 64, .inl bl)), (qr, .inl (cA, 160, .inl kd_PL))]) [0, 1, 2, 3, 4, 5] rfl
            have hD9 := hD.sub (ws' := [(h0, .inr (2, [.int rd, .int op, .int dn, .ref qk, .ref qh, .ref qv, .ref qm, .ref qb, .int (nI kn), .long mx, .int ln, .int nn, .ref qr])), (qh, .inl (cA, 8, .inl hh)), (qv, .inl (cA, 16, .inl vv)), (qm, .inl (cA, 16, .inl mm)), (qb, .inl (cA, 64, .inl bl)), (qr, .inl (cA, 160, .inl kd_PL))]) [0, 1, 2, 3, 4, 5] (by decide) rfl
            exact W.zret (v := 0) hx hb hr (by rfl) (fun t ht hW => ⟨⟨0, (ln, hh, mm, vv, bl, kn, mx), rfl, ((if_pos (Or.inr (Or.inr (Or.inr (Or.inl c19)))))).symm, by rw [ht]; exact hP9, va_K.moved hW.alike hK, hD9⟩, hS.F ht⟩) hS.2.2 dX2_fill_70
          · refine lv_iload_n hx hb dX2_fill_44 rfl (lv_at hl 1 rfl) ?_
            refine lv_if_eq (tgt := 69) hx hb dX2_fill_45 (by decide) (fun c45 => ?_) (fun c45 => ?_)
            · refine lv_iload_n hx hb dX2_fill_69 rfl (lv_at hl 1 rfl) ?_
              have hP9 := hP.sub (ws' := [(h0, .inr (2, [.int rd, .int op, .int dn, .ref qk, .ref qh, .ref qv, .ref qm, .ref qb, .int (nI kn), .long mx, .int ln, .int nn, .ref qr])), (qh, .inl (cA, 8, .inl hh)), (qv, .inl (cA, 16, .inl vv)), (qm, .inl (cA, 16, .inl mm)), (qb, .inl (cA, 64, .inl bl)), (qr, .inl (cA, 160, .inl kd_PL))]) [0, 1, 2, 3, 4, 5] rfl
              have hD9 := hD.sub (ws' := [(h0, .inr (2, [.int rd, .int op, .int dn, .ref qk, .ref qh, .ref qv, .ref qm, .ref qb, .int (nI kn), .long mx, .int ln, .int nn, .ref qr])), (qh, .inl (cA, 8, .inl hh)), (qv, .inl (cA, 16, .inl vv)), (qm, .inl (cA, 16, .inl mm)), (qb, .inl (cA, 64, .inl bl)), (qr, .inl (cA, 160, .inl kd_PL))]) [0, 1, 2, 3, 4, 5] (by decide) rfl
              exact W.zret (v := 0) hx hb hr (by rfl) (fun t ht hW => ⟨⟨0, (ln, hh, mm, vv, bl, kn, mx), rfl, ((if_pos (Or.inr (Or.inr (Or.inr (Or.inl c19)))))).symm, by rw [ht]; exact hP9, va_K.moved hW.alike hK, hD9⟩, hS.F ht⟩) hS.2.2 dX2_fill_70
            · exact absurd rfl c45
        · refine lv_iload_n hx hb dX2_fill_22 rfl (lv_at hl 2 rfl) ?_
          refine lv_sipush (v := 10000) hx hb dX2_fill_23 (by decide) ?_
          refine lv_icmp_gt (tgt := 33) hx hb dX2_fill_26 (by decide) (fun c26 => ?_) (fun c26 => ?_)
          · refine lv_iconst (v := 0) hx hb dX2_fill_33 (by decide) ?_
            refine lv_istore_n (lv' := [(3, .int 0), (0, .ref h0), (1, .int b), (2, .int n)]) hx hb dX2_fill_34 rfl hl (by decide) rfl (fun ls hl => ?_)
            refine lv_iconst (v := 0) hx hb dX2_fill_35 (by decide) ?_
            refine lv_istore (lv' := [(4, .int 0), (3, .int 0), (0, .ref h0), (1, .int b), (2, .int n)]) hx hb dX2_fill_36 hl (by decide) rfl (fun ls hl => ?_)
            refine lv_iload hx hb dX2_fill_38 (lv_at hl 0 rfl) ?_
            refine lv_iload_n hx hb dX2_fill_40 rfl (lv_at hl 4 rfl) ?_
            refine lv_icmp_ge (tgt := 69) hx hb dX2_fill_41 (by decide) (fun c41 => ?_) (fun c41 => ?_)
            · refine lv_iload_n hx hb dX2_fill_69 rfl (lv_at hl 1 rfl) ?_
              have hP9 := hP.sub (ws' := [(h0, .inr (2, [.int rd, .int op, .int dn, .ref qk, .ref qh, .ref qv, .ref qm, .ref qb, .int (nI kn), .long mx, .int ln, .int nn, .ref qr])), (qh, .inl (cA, 8, .inl hh)), (qv, .inl (cA, 16, .inl vv)), (qm, .inl (cA, 16, .inl mm)), (qb, .inl (cA, 64, .inl bl)), (qr, .inl (cA, 160, .inl kd_PL))]) [0, 1, 2, 3, 4, 5] rfl
              have hD9 := hD.sub (ws' := [(h0, .inr (2, [.int rd, .int op, .int dn, .ref qk, .ref qh, .ref qv, .ref qm, .ref qb, .int (nI kn), .long mx, .int ln, .int nn, .ref qr])), (qh, .inl (cA, 8, .inl hh)), (qv, .inl (cA, 16, .inl vv)), (qm, .inl (cA, 16, .inl mm)), (qb, .inl (cA, 64, .inl bl)), (qr, .inl (cA, 160, .inl kd_PL))]) [0, 1, 2, 3, 4, 5] (by decide) rfl
              exact W.zret (v := 0) hx hb hr (by rfl) (fun t ht hW => ⟨⟨0, (ln, hh, mm, vv, bl, kn, mx), rfl, ((if_pos (Or.inr (Or.inr (Or.inr (Or.inr (c26))))))).symm, by rw [ht]; exact hP9, va_K.moved hW.alike hK, hD9⟩, hS.F ht⟩) hS.2.2 dX2_fill_70
            · refine lv_iload_n hx hb dX2_fill_44 rfl (lv_at hl 1 rfl) ?_
              refine lv_if_eq (tgt := 69) hx hb dX2_fill_45 (by decide) (fun c45 => ?_) (fun c45 => ?_)
              · refine lv_iload_n hx hb dX2_fill_69 rfl (lv_at hl 1 rfl) ?_
                have hP9 := hP.sub (ws' := [(h0, .inr (2, [.int rd, .int op, .int dn, .ref qk, .ref qh, .ref qv, .ref qm, .ref qb, .int (nI kn), .long mx, .int ln, .int nn, .ref qr])), (qh, .inl (cA, 8, .inl hh)), (qv, .inl (cA, 16, .inl vv)), (qm, .inl (cA, 16, .inl mm)), (qb, .inl (cA, 64, .inl bl)), (qr, .inl (cA, 160, .inl kd_PL))]) [0, 1, 2, 3, 4, 5] rfl
                have hD9 := hD.sub (ws' := [(h0, .inr (2, [.int rd, .int op, .int dn, .ref qk, .ref qh, .ref qv, .ref qm, .ref qb, .int (nI kn), .long mx, .int ln, .int nn, .ref qr])), (qh, .inl (cA, 8, .inl hh)), (qv, .inl (cA, 16, .inl vv)), (qm, .inl (cA, 16, .inl mm)), (qb, .inl (cA, 64, .inl bl)), (qr, .inl (cA, 160, .inl kd_PL))]) [0, 1, 2, 3, 4, 5] (by decide) rfl
                exact W.zret (v := 0) hx hb hr (by rfl) (fun t ht hW => ⟨⟨0, (ln, hh, mm, vv, bl, kn, mx), rfl, ((if_pos (Or.inr (Or.inr (Or.inr (Or.inr (c26))))))).symm, by rw [ht]; exact hP9, va_K.moved hW.alike hK, hD9⟩, hS.F ht⟩) hS.2.2 dX2_fill_70
              · exact absurd rfl c45
          · obtain ⟨nj, hnj, rfl⟩ := nI_of2 (n := 10000) (M := 10000) (by decide) c19 (Int32.not_lt.mp c26)
            refine lv_iconst (v := 1) hx hb dX2_fill_29 (by decide) ?_
            refine lv_goto (tgt := 34) hx hb dX2_fill_30 (by decide) ?_
            refine lv_istore_n (lv' := [(3, .int 1), (0, .ref h0), (1, .int b), (2, .int (nI nj))]) hx hb dX2_fill_34 rfl hl (by decide) rfl (fun ls hl => ?_)
            refine lv_iconst (v := 0) hx hb dX2_fill_35 (by decide) ?_
            refine lv_istore (lv' := [(4, .int 0), (3, .int 1), (0, .ref h0), (1, .int b), (2, .int (nI nj))]) hx hb dX2_fill_36 hl (by decide) rfl (fun ls hl => ?_)
            have lp : ∀ (k : Nat) (i : Nat) (x : Int32) (u0 : kd_M) (l0 : Int32) (v0 : Nat → Int32) (m0 : Nat → Int32), (i ≤ nj) → (nj - i < k) → (x = nI i) → (u0 = kd_takes (fun _ => b) i (hh, bl, kn, mx)) → (l0 = ln + nI i) → ∀ (H : Heap) (locs : List Loc) (ls : Array Slot), va_P (dC, dI) vwCl [(h0, .inr (2, [.int rd, .int op, .int dn, .ref qk, .ref qh, .ref qv, .ref qm, .ref qb, .int (nI u0.2.2.1), .long u0.2.2.2, .int l0, .int nn, .ref qr])), (qh, .inl (cA, 8, .inl u0.1)), (qv, .inl (cA, 16, .inl v0)), (qm, .inl (cA, 16, .inl m0)), (qb, .inl (cA, 64, .inl u0.2.1)), (qr, .inl (cA, 160, .inl kd_PL))] H → va_D A [(h0, .inr (2, [.int rd, .int op, .int dn, .ref qk, .ref qh, .ref qv, .ref qm, .ref qb, .int (nI u0.2.2.1), .long u0.2.2.2, .int l0, .int nn, .ref qr])), (qh, .inl (cA, 8, .inl u0.1)), (qv, .inl (cA, 16, .inl v0)), (qm, .inl (cA, 16, .inl m0)), (qb, .inl (cA, 64, .inl u0.2.1)), (qr, .inl (cA, 160, .inl kd_PL))] → va_S A s.heap H locs → lv_has ls 5 [(4, .int x), (3, .int 1), (0, .ref h0), (1, .int b), (2, .int (nI nj))] → W p l e (headSpec wsX2_fill { frames := 4, cells := 0, slots := 0, locals := 92 }).room s m ([.ref h0, .int b, .int (nI nj)]).toArray below meth c H locs 0 0 (MQ below (va_Qi (fun (r : Int32) (u : Int32 × (Nat → Int32) × (Nat → Int32) × (Nat → Int32) × (Nat → Int32) × Nat × Int64) => (r, u.1, (u.2.1, u.2.2.2.2.1, u.2.2.2.2.2.1, u.2.2.2.2.2.2)) = if op = 0 ∨ b < 0 ∨ 256 ≤ b ∨ (nI nj) < 0 ∨ 10000 < (nI nj) then (0, ln, (hh, bl, kn, mx)) else (1, ln + (nI nj), kd_takes (fun _ => b) (nI nj).toNatClampNeg (hh, bl, kn, mx))) (fun u t => kd_O (dC, dI) cA A [(h0, .inr (2, [.int rd, .int op, .int dn, .ref qk, .ref qh, .ref qv, .ref qm, .ref qb, .int (nI u.2.2.2.2.2.1), .long u.2.2.2.2.2.2, .int u.1, .int nn, .ref qr])), (qh, .inl (cA, 8, .inl u.2.1)), (qv, .inl (cA, 16, .inl u.2.2.2.1)), (qm, .inl (cA, 16, .inl u.2.2.1)), (qb, .inl (cA, 64, .inl u.2.2.2.2.1)), (qr, .inl (cA, 160, .inl kd_PL))] t) A) ([.ref h0, .int b, .int (nI nj)]).toArray s 0 0 A) (F0 m 38 ls []) := by
              intro k
              induction k with
              | zero =>
                intro i x u0 l0 v0 m0 hi hm ex hu hl0
                omega
              | succ k ih =>
                intro i x u0 l0 v0 m0 hi hm ex hu hl0 H locs ls hP hD hS hl
                refine lv_iload hx hb dX2_fill_38 (lv_at hl 0 rfl) ?_
                refine lv_iload_n hx hb dX2_fill_40 rfl (lv_at hl 4 rfl) ?_
                refine lv_icmp_ge (tgt := 69) hx hb dX2_fill_41 (by decide) (fun c41 => ?_) (fun c41 => ?_)
                · have hge : nj ≤ i := kd_ge ex (by omega) (by omega) c41
                  have hij : i = nj := by omega
                  rw [hij] at hu hl0
                  subst hu hl0
                  refine lv_iload_n hx hb dX2_fill_69 rfl (lv_at hl 1 rfl) ?_
                  have hP9 := hP.sub (ws' := [(h0, .inr (2, [.int rd, .int op, .int dn, .ref qk, .ref qh, .ref qv, .ref qm, .ref qb, .int (nI ((kd_takes (fun _ => b) nj (hh, bl, kn, mx)).2.2.1)), .long ((kd_takes (fun _ => b) nj (hh, bl, kn, mx)).2.2.2), .int (ln + nI nj), .int nn, .ref qr])), (qh, .inl (cA, 8, .inl ((kd_takes (fun _ => b) nj (hh, bl, kn, mx)).1))), (qv, .inl (cA, 16, .inl v0)), (qm, .inl (cA, 16, .inl m0)), (qb, .inl (cA, 64, .inl ((kd_takes (fun _ => b) nj (hh, bl, kn, mx)).2.1))), (qr, .inl (cA, 160, .inl kd_PL))]) [0, 1, 2, 3, 4, 5] rfl
                  have hD9 := hD.sub (ws' := [(h0, .inr (2, [.int rd, .int op, .int dn, .ref qk, .ref qh, .ref qv, .ref qm, .ref qb, .int (nI ((kd_takes (fun _ => b) nj (hh, bl, kn, mx)).2.2.1)), .long ((kd_takes (fun _ => b) nj (hh, bl, kn, mx)).2.2.2), .int (ln + nI nj), .int nn, .ref qr])), (qh, .inl (cA, 8, .inl ((kd_takes (fun _ => b) nj (hh, bl, kn, mx)).1))), (qv, .inl (cA, 16, .inl v0)), (qm, .inl (cA, 16, .inl m0)), (qb, .inl (cA, 64, .inl ((kd_takes (fun _ => b) nj (hh, bl, kn, mx)).2.1))), (qr, .inl (cA, 160, .inl kd_PL))]) [0, 1, 2, 3, 4, 5] (by decide) rfl
                  exact W.zret (v := 1) hx hb hr (by rfl) (fun t ht hW => ⟨⟨1, (ln + nI nj, (kd_takes (fun _ => b) nj (hh, bl, kn, mx)).1, m0, v0, (kd_takes (fun _ => b) nj (hh, bl, kn, mx)).2.1, (kd_takes (fun _ => b) nj (hh, bl, kn, mx)).2.2.1, (kd_takes (fun _ => b) nj (hh, bl, kn, mx)).2.2.2), rfl, (by dsimp only; rw [(if_neg (fun h => h.elim c4 (fun h => h.elim c8 (fun h => h.elim c15 (fun h => h.elim c19 (c26)))))), nI_clamp (by omega)]), by rw [ht]; exact hP9, va_K.moved hW.alike hK, hD9⟩, hS.F ht⟩) hS.2.2 dX2_fill_70
                · have hlt : i < nj := kd_lt ex (by omega) (by omega) c41
                  refine lv_iload_n hx hb dX2_fill_44 rfl (lv_at hl 1 rfl) ?_
                  refine lv_if_eq (tgt := 69) hx hb dX2_fill_45 (by decide) (fun c45 => ?_) (fun c45 => ?_)
                  · exact absurd c45 (by decide)
                  · refine lv_aload_n hx hb dX2_fill_48 rfl (lv_at hl 2 rfl) ?_
                    refine lv_iload_n hx hb dX2_fill_49 rfl (lv_at hl 3 rfl) ?_
                    have hPc := hP.sub (ws' := [(h0, .inr (2, [.int rd, .int op, .int dn, .ref qk, .ref qh, .ref qv, .ref qm, .ref qb, .int (nI u0.2.2.1), .long u0.2.2.2, .int l0, .int nn, .ref qr])), (qh, .inl (cA, 8, .inl u0.1)), (qv, .inl (cA, 16, .inl v0)), (qm, .inl (cA, 16, .inl m0)), (qb, .inl (cA, 64, .inl u0.2.1)), (qr, .inl (cA, 160, .inl kd_PL))]) [0, 1, 2, 3, 4, 5] rfl
                    have hDc := hD.sub (ws' := [(h0, .inr (2, [.int rd, .int op, .int dn, .ref qk, .ref qh, .ref qv, .ref qm, .ref qb, .int (nI u0.2.2.1), .long u0.2.2.2, .int l0, .int nn, .ref qr])), (qh, .inl (cA, 8, .inl u0.1)), (qv, .inl (cA, 16, .inl v0)), (qm, .inl (cA, 16, .inl m0)), (qb, .inl (cA, 64, .inl u0.2.1)), (qr, .inl (cA, 160, .inl kd_PL))]) [0, 1, 2, 3, 4, 5] (by decide) rfl
                    have hFc := va_free (wc := [(h0, .inr (2, [.int rd, .int op, .int dn, .ref qk, .ref qh, .ref qv, .ref qm, .ref qb, .int (nI u0.2.2.1), .long u0.2.2.2, .int l0, .int nn, .ref qr])), (qh, .inl (cA, 8, .inl u0.1)), (qv, .inl (cA, 16, .inl v0)), (qm, .inl (cA, 16, .inl m0)), (qb, .inl (cA, 64, .inl u0.2.1)), (qr, .inl (cA, 160, .inl kd_PL))]) hD hS hA [0, 1, 2, 3, 4, 5] rfl
                    refine va_callv (va_runV (As := [.int b]) (rest := []) ⟨hx, hb, hml, hown, hts⟩ (cX2_take_ok l dC dI cA tb H.size h0 qk qh qv qm qb qr rd op dn u0.1 v0 m0 u0.2.1 u0.2.2.1 u0.2.2.2 l0 nn b (by rw [hu]; exact kd_takes_le hk i)) (cwV 1 hts gX2_fill_X2_take rfl rfl rfl (by decide +kernel) ⟨Nat.le_of_ble_eq_true rfl, Nat.le_of_ble_eq_true rfl⟩) ⟨fun a U g mk q => kd_calling rfl rfl q, va_recv hK hPc (ci := 2) (q0 := 0) rfl rfl, fun U hU hW => ⟨rfl, kd_pre hPc hK hDc hT hS hFc U hU hW⟩⟩ rfl rfl hl.1 rfl (lv_room (Nat.le_of_ble_eq_true rfl)) dX2_fill_50 ⟨Nat.le_of_ble_eq_true rfl, Nat.le_of_ble_eq_true rfl⟩) hS (fun q _ h => hFc q h) hFc (fun u t H1 locs ht hvm hw hB hz1 hk1 hS => ?_)
                    obtain ⟨ho50, mo50, vo50, bo50, ko50, xo50⟩ := u
                    have hw50 : (ho50, bo50, ko50, xo50) = kd_take b (u0.1, u0.2.1, u0.2.2.1, u0.2.2.2) := hw
                    have hP1 : va_P (dC, dI) vwCl [(h0, .inr (2, [.int rd, .int op, .int dn, .ref qk, .ref qh, .ref qv, .ref qm, .ref qb, .int (nI ko50), .long xo50, .int l0, .int nn, .ref qr])), (qh, .inl (cA, 8, .inl ho50)), (qv, .inl (cA, 16, .inl vo50)), (qm, .inl (cA, 16, .inl mo50)), (qb, .inl (cA, 64, .inl bo50)), (qr, .inl (cA, 160, .inl kd_PL))] H1 := by rw [← ht]; exact hB.1
                    have hD1 : va_D (va_A [(h0, .inr (2, [.int rd, .int op, .int dn, .ref qk, .ref qh, .ref qv, .ref qm, .ref qb, .int (nI u0.2.2.1), .long u0.2.2.2, .int l0, .int nn, .ref qr])), (qh, .inl (cA, 8, .inl u0.1)), (qv, .inl (cA, 16, .inl v0)), (qm, .inl (cA, 16, .inl m0)), (qb, .inl (cA, 64, .inl u0.2.1)), (qr, .inl (cA, 160, .inl kd_PL))] H.size) [(h0, .inr (2, [.int rd, .int op, .int dn, .ref qk, .ref qh, .ref qv, .ref qm, .ref qb, .int (nI ko50), .long xo50, .int l0, .int nn, .ref qr])), (qh, .inl (cA, 8, .inl ho50)), (qv, .inl (cA, 16, .inl vo50)), (qm, .inl (cA, 16, .inl mo50)), (qb, .inl (cA, 64, .inl bo50)), (qr, .inl (cA, 160, .inl kd_PL))] := hB.2.2
                    obtain ⟨hP, hD⟩ := va_join (wr := []) (w1 := [(h0, .inr (2, [.int rd, .int op, .int dn, .ref qk, .ref qh, .ref qv, .ref qm, .ref qb, .int (nI ko50), .long xo50, .int l0, .int nn, .ref qr])), (qh, .inl (cA, 8, .inl ho50)), (qv, .inl (cA, 16, .inl vo50)), (qm, .inl (cA, 16, .inl mo50)), (qb, .inl (cA, 64, .inl bo50)), (qr, .inl (cA, 160, .inl kd_PL))]) hP hD [0, 1, 2, 3, 4, 5] [] rfl rfl (by decide) (by decide) hk1 hFc hP1 hD1
                    clear hw hB hk1 hPc hDc hFc hP1 hD1 hvm hz1
                    generalize H1 = H at hP hS ⊢
                    have hP : va_P (dC, dI) vwCl [(h0, .inr (2, [.int rd, .int op, .int dn, .ref qk, .ref qh, .ref qv, .ref qm, .ref qb, .int (nI ko50), .long xo50, .int l0, .int nn, .ref qr])), (qh, .inl (cA, 8, .inl ho50)), (qv, .inl (cA, 16, .inl vo50)), (qm, .inl (cA, 16, .inl mo50)), (qb, .inl (cA, 64, .inl bo50)), (qr, .inl (cA, 160, .inl kd_PL))] H := hP
                    have hD : va_D A [(h0, .inr (2, [.int rd, .int op, .int dn, .ref qk, .ref qh, .ref qv, .ref qm, .ref qb, .int (nI ko50), .long xo50, .int l0, .int nn, .ref qr])), (qh, .inl (cA, 8, .inl ho50)), (qv, .inl (cA, 16, .inl vo50)), (qm, .inl (cA, 16, .inl mo50)), (qb, .inl (cA, 64, .inl bo50)), (qr, .inl (cA, 160, .inl kd_PL))] := hD
                    refine lv_aload_n hx hb dX2_fill_53 rfl (lv_at hl 2 rfl) ?_
                    refine lv_dup hx hb dX2_fill_54 rfl ?_
                    refine va_get (D := (dC, dI)) (ci := 2) (v := .int l0) (C := RX2) (T := TX2) (N := 13) hx hb hts ki2 hown hK hP 0 rfl rfl 10 (by decide) k2 (fun _ h9 => h9) rfl dX2_fill_55 ?_
                    refine lv_iconst (v := 1) hx hb dX2_fill_58 (by decide) ?_
                    refine lv_iadd hx hb dX2_fill_59 ?_
                    refine lv_topi (fun x60 ex60 => ?_)
                    refine va_put (D := (dC, dI)) (ci := 2) (v := .int x60) (ty := .int) (C := RX2) (T := TX2) (N := 13) hx hb hts ki2 tyX2 tyX2_ok nmX2 hown hK hP hD hS 0 rfl rfl 10 (by decide) k2 (fun _ h9 => h9) rfl (by decide +kernel) rfl rfl (Nat.le_of_ble_eq_true rfl) dX2_fill_60 (fun H locs hP hD hS => ?_)
                    have hP : va_P (dC, dI) vwCl [(h0, .inr (2, [.int rd, .int op, .int dn, .ref qk, .ref qh, .ref qv, .ref qm, .ref qb, .int (nI ko50), .long xo50, .int x60, .int nn, .ref qr])), (qh, .inl (cA, 8, .inl ho50)), (qv, .inl (cA, 16, .inl vo50)), (qm, .inl (cA, 16, .inl mo50)), (qb, .inl (cA, 64, .inl bo50)), (qr, .inl (cA, 160, .inl kd_PL))] H := hP
                    have hD : va_D A [(h0, .inr (2, [.int rd, .int op, .int dn, .ref qk, .ref qh, .ref qv, .ref qm, .ref qb, .int (nI ko50), .long xo50, .int x60, .int nn, .ref qr])), (qh, .inl (cA, 8, .inl ho50)), (qv, .inl (cA, 16, .inl vo50)), (qm, .inl (cA, 16, .inl mo50)), (qb, .inl (cA, 64, .inl bo50)), (qr, .inl (cA, 160, .inl kd_PL))] := hD
                    obtain ⟨x63, ex63⟩ : ∃ zz : Int32, zz = x + 1 := ⟨_, rfl⟩
                    refine lv_iinc (v := x63) (lv' := [(4, .int x63), (3, .int 1), (0, .ref h0), (1, .int b), (2, .int (nI nj))]) hx hb dX2_fill_63 hl (k := 0) rfl (by rw [ex63]; rfl) (by decide) rfl (fun ls hl => ?_)
                    refine lv_goto (tgt := 38) hx hb dX2_fill_66 (by decide) ?_
                    exact ih  (i + 1) x63 (ho50, bo50, ko50, xo50) x60 vo50 mo50 (by omega) (by omega) (by rw [ex63, ex]; exact nI_1 i) (by rw [hw50]; show kd_take b u0 = _; rw [hu]; rfl) (by rw [ex60, hl0]; exact kd_ln1 ln i) _ _ ls (hP.sub [0, 1, 2, 3, 4, 5] rfl) (hD.sub [0, 1, 2, 3, 4, 5] (by decide) rfl) hS (lv_sub hl [0, 1, 2, 3, 4] rfl)
            exact lp (nj + 1) 0 0 (hh, bl, kn, mx) ln vv mm (by omega) (by omega) rfl rfl (kd_ln0 ln) _ _ ls (hP.sub [0, 1, 2, 3, 4, 5] rfl) (hD.sub [0, 1, 2, 3, 4, 5] (by decide) rfl) hS (lv_sub hl [0, 1, 2, 3, 4] rfl)

set_option maxHeartbeats 4000000 in
set_option maxRecDepth 100000 in
theorem cX2_updates_ok (l : Launch) (dC : Nat → ClassId) (dI : Nat → Nat → Nat) (cA : ClassId) (tb : Nat → Nat) (sz : Nat) (h0 : Nat) (qk : Nat) (qh : Nat) (qv : Nat) (qm : Nat) (qb : Nat) (qr : Nat) (rd : Int32) (op : Int32) (dn : Int32) (hh : Nat → Int32) (vv : Nat → Int32) (mm : Nat → Int32) (bl : Nat → Int32) (kn : Nat) (mx : Int64) (ln : Int32) (nn : Int32) (wa : Int32) (wb : Int32) (wc : Int32) (wd : Int32) (n : Int32) (hk : kn ≤ 64) : Met l yX2_updates wsX2_updates ({ frames := 4, cells := 0, slots := 0, locals := 92 }) (va_Pc [.ref h0, .int wa, .int wb, .int wc, .int wd, .int n] (kd_I (dC, dI) cA tb sz [(h0, .inr (2, [.int rd, .int op, .int dn, .ref qk, .ref qh, .ref qv, .ref qm, .ref qb, .int (nI kn), .long mx, .int ln, .int nn, .ref qr])), (qh, .inl (cA, 8, .inl hh)), (qv, .inl (cA, 16, .inl vv)), (qm, .inl (cA, 16, .inl mm)), (qb, .inl (cA, 64, .inl bl)), (qr, .inl (cA, 160, .inl kd_PL))])) (va_Qi (fun (r : Int32) (u : Int32 × (Nat → Int32) × (Nat → Int32) × (Nat → Int32) × (Nat → Int32) × Nat × Int64) => (r, u.1, (u.2.1, u.2.2.2.2.1, u.2.2.2.2.2.1, u.2.2.2.2.2.2)) = if op = 0 ∨ n < 1 ∨ 16 < n then (0, ln, (hh, bl, kn, mx)) else (1, ln + n, kd_takes (kd_byte wa wb wc wd) n.toNatClampNeg (hh, bl, kn, mx))) (fun u t => kd_O (dC, dI) cA (va_A [(h0, .inr (2, [.int rd, .int op, .int dn, .ref qk, .ref qh, .ref qv, .ref qm, .ref qb, .int (nI kn), .long mx, .int ln, .int nn, .ref qr])), (qh, .inl (cA, 8, .inl hh)), (qv, .inl (cA, 16, .inl vv)), (qm, .inl (cA, 16, .inl mm)), (qb, .inl (cA, 64, .inl bl)), (qr, .inl (cA, 160, .inl kd_PL))] sz) [(h0, .inr (2, [.int rd, .int op, .int dn, .ref qk, .ref qh, .ref qv, .ref qm, .ref qb, .int (nI u.2.2.2.2.2.1), .long u.2.2.2.2.2.2, .int u.1, .int nn, .ref qr])), (qh, .inl (cA, 8, .inl u.2.1)), (qv, .inl (cA, 16, .inl u.2.2.2.1)), (qm, .inl (cA, 16, .inl u.2.2.1)), (qb, .inl (cA, 64, .inl u.2.2.2.2.1)), (qr, .inl (cA, 160, .inl kd_PL))] t) (va_A [(h0, .inr (2, [.int rd, .int op, .int dn, .ref qk, .ref qh, .ref qv, .ref qm, .ref qb, .int (nI kn), .long mx, .int ln, .int nn, .ref qr])), (qh, .inl (cA, 8, .inl hh)), (qv, .inl (cA, 16, .inl vv)), (qm, .inl (cA, 16, .inl mm)), (qb, .inl (cA, 64, .inl bl)), (qr, .inl (cA, 160, .inl kd_PL))] sz)) 0 0 (va_A [(h0, .inr (2, [.int rd, .int op, .int dn, .ref qk, .ref qh, .ref qv, .ref qm, .ref qb, .int (nI kn), .long mx, .int ln, .int nn, .ref qr])), (qh, .inl (cA, 8, .inl hh)), (qv, .inl (cA, 16, .inl vv)), (qm, .inl (cA, 16, .inl mm)), (qb, .inl (cA, 64, .inl bl)), (qr, .inl (cA, 160, .inl kd_PL))] sz) := by
  refine Met.ofW (cc := cX2_updates) (maxL := 9) (ret := (some .boolean)) (by decide) rfl ?_
  intro p e s m args below meth c s₁ B hml hv
  obtain ⟨rfl, hsz, hP, hK, hD0, hT⟩ := hv
  have hx := B.exec
  have hb := B.bytes
  have hr := B.returns
  have hts := atoms_spec (ws := wsX2_updates) B.pre
  have hown : s.vm.findClass RX2 = some m.cls := findClass_of_methodNamed B.named
  have hlocks := B.notSynchronized
  have ki2 : ∀ w ∈ u_ws RX2 TX2 13, w ∈ wsX2_updates := by decide +kernel
  have k1 := hts (.fieldLink RX2 32 "KeyedDigestModel" "isOpen" "Z") (by decide +kernel)
  have k2 := hts (.fieldLink RX2 62 "KeyedDigestModel" "came" "I") (by decide +kernel)
  subst hsz
  have hD := hD0.self (sz := s.heap.size)
  generalize hAe : va_A [(h0, .inr (2, [.int rd, .int op, .int dn, .ref qk, .ref qh, .ref qv, .ref qm, .ref qb, .int (nI kn), .long mx, .int ln, .int nn, .ref qr])), (qh, .inl (cA, 8, .inl hh)), (qv, .inl (cA, 16, .inl vv)), (qm, .inl (cA, 16, .inl mm)), (qb, .inl (cA, 64, .inl bl)), (qr, .inl (cA, 160, .inl kd_PL))] s.heap.size = A at hD hT ⊢
  have hA : ∀ q : Nat, s.heap.size ≤ q → A q := fun q h => by rw [← hAe]; exact Or.inr h
  have hS : va_S A s.heap s.heap [] := va_S.rf
  have hP : va_P (dC, dI) vwCl [(h0, .inr (2, [.int rd, .int op, .int dn, .ref qk, .ref qh, .ref qv, .ref qm, .ref qb, .int (nI kn), .long mx, .int ln, .int nn, .ref qr])), (qh, .inl (cA, 8, .inl hh)), (qv, .inl (cA, 16, .inl vv)), (qm, .inl (cA, 16, .inl mm)), (qb, .inl (cA, 64, .inl bl)), (qr, .inl (cA, 160, .inl kd_PL))] s.heap := hP
  have hl := lv_entry ([.ref h0, .int wa, .int wb, .int wc, .int wd, .int n]) (n := 9) (Nat.le_of_ble_eq_true rfl)
  rw [lg_entry_eq]
  generalize (lg_sl ([.ref h0, .int wa, .int wb, .int wc, .int wd, .int n]) ++ List.replicate (9 - (lg_sl ([.ref h0, .int wa, .int wb, .int wc, .int wd, .int n])).length) Slot.unset).toArray = ls at hl ⊢
  have hl : lv_has ls 9 [(0, .ref h0), (1, .int wa), (2, .int wb), (3, .int wc), (4, .int wd), (5, .int n)] := hl
  refine lv_aload_n hx hb dX2_updates_0 rfl (lv_at hl 0 rfl) ?_
  refine va_get (D := (dC, dI)) (ci := 2) (v := .int op) (C := RX2) (T := TX2) (N := 13) hx hb hts ki2 hown hK hP 0 rfl rfl 1 (by decide) k1 (fun _ h9 => h9) rfl dX2_updates_1 ?_
  refine lv_if_eq (tgt := 24) hx hb dX2_updates_4 (by decide) (fun c4 => ?_) (fun c4 => ?_)
  · refine lv_iconst (v := 0) hx hb dX2_updates_24 (by decide) ?_
    refine lv_istore (lv' := [(6, .int 0), (0, .ref h0), (1, .int wa), (2, .int wb), (3, .int wc), (4, .int wd), (5, .int n)]) hx hb dX2_updates_25 hl (by decide) rfl (fun ls hl => ?_)
    refine lv_iconst (v := 0) hx hb dX2_updates_27 (by decide) ?_
    refine lv_istore (lv' := [(7, .int 0), (6, .int 0), (0, .ref h0), (1, .int wa), (2, .int wb), (3, .int wc), (4, .int wd), (5, .int n)]) hx hb dX2_updates_28 hl (by decide) rfl (fun ls hl => ?_)
    refine lv_iload hx hb dX2_updates_30 (lv_at hl 0 rfl) ?_
    refine lv_iload hx hb dX2_updates_32 (lv_at hl 7 rfl) ?_
    refine lv_icmp_ge (tgt := 115) hx hb dX2_updates_34 (by decide) (fun c34 => ?_) (fun c34 => ?_)
    · refine lv_iload hx hb dX2_updates_115 (lv_at hl 1 rfl) ?_
      have hP9 := hP.sub (ws' := [(h0, .inr (2, [.int rd, .int op, .int dn, .ref qk, .ref qh, .ref qv, .ref qm, .ref qb, .int (nI kn), .long mx, .int ln, .int nn, .ref qr])), (qh, .inl (cA, 8, .inl hh)), (qv, .inl (cA, 16, .inl vv)), (qm, .inl (cA, 16, .inl mm)), (qb, .inl (cA, 64, .inl bl)), (qr, .inl (cA, 160, .inl kd_PL))]) [0, 1, 2, 3, 4, 5] rfl
      have hD9 := hD.sub (ws' := [(h0, .inr (2, [.int rd, .int op, .int dn, .ref qk, .ref qh, .ref qv, .ref qm, .ref qb, .int (nI kn), .long mx, .int ln, .int nn, .ref qr])), (qh, .inl (cA, 8, .inl hh)), (qv, .inl (cA, 16, .inl vv)), (qm, .inl (cA, 16, .inl mm)), (qb, .inl (cA, 64, .inl bl)), (qr, .inl (cA, 160, .inl kd_PL))]) [0, 1, 2, 3, 4, 5] (by decide) rfl
      exact W.zret (v := 0) hx hb hr (by rfl) (fun t ht hW => ⟨⟨0, (ln, hh, mm, vv, bl, kn, mx), rfl, ((if_pos (Or.inl c4))).symm, by rw [ht]; exact hP9, va_K.moved hW.alike hK, hD9⟩, hS.F ht⟩) hS.2.2 dX2_updates_117
    · refine lv_iload hx hb dX2_updates_37 (lv_at hl 1 rfl) ?_
      refine lv_if_eq (tgt := 115) hx hb dX2_updates_39 (by decide) (fun c39 => ?_) (fun c39 => ?_)
      · refine lv_iload hx hb dX2_updates_115 (lv_at hl 1 rfl) ?_
        have hP9 := hP.sub (ws' := [(h0, .inr (2, [.int rd, .int op, .int dn, .ref qk, .ref qh, .ref qv, .ref qm, .ref qb, .int (nI kn), .long mx, .int ln, .int nn, .ref qr])), (qh, .inl (cA, 8, .inl hh)), (qv, .inl (cA, 16, .inl vv)), (qm, .inl (cA, 16, .inl mm)), (qb, .inl (cA, 64, .inl bl)), (qr, .inl (cA, 160, .inl kd_PL))]) [0, 1, 2, 3, 4, 5] rfl
        have hD9 := hD.sub (ws' := [(h0, .inr (2, [.int rd, .int op, .int dn, .ref qk, .ref qh, .ref qv, .ref qm, .ref qb, .int (nI kn), .long mx, .int ln, .int nn, .ref qr])), (qh, .inl (cA, 8, .inl hh)), (qv, .inl (cA, 16, .inl vv)), (qm, .inl (cA, 16, .inl mm)), (qb, .inl (cA, 64, .inl bl)), (qr, .inl (cA, 160, .inl kd_PL))]) [0, 1, 2, 3, 4, 5] (by decide) rfl
        exact W.zret (v := 0) hx hb hr (by rfl) (fun t ht hW => ⟨⟨0, (ln, hh, mm, vv, bl, kn, mx), rfl, ((if_pos (Or.inl c4))).symm, by rw [ht]; exact hP9, va_K.moved hW.alike hK, hD9⟩, hS.F ht⟩) hS.2.2 dX2_updates_117
      · exact absurd rfl c39
  · refine lv_iload hx hb dX2_updates_7 (lv_at hl 5 rfl) ?_
    refine lv_iconst (v := 1) hx hb dX2_updates_9 (by decide) ?_
    refine lv_icmp_lt (tgt := 24) hx hb dX2_updates_10 (by decide) (fun c10 => ?_) (fun c10 => ?_)
    · refine lv_iconst (v := 0) hx hb dX2_updates_24 (by decide) ?_
      refine lv_istore (lv' := [(6, .int 0), (0, .ref h0), (1, .int wa), (2, .int wb), (3, .int wc), (4, .int wd), (5, .int n)]) hx hb dX2_updates_25 hl (by decide) rfl (fun ls hl => ?_)
      refine lv_iconst (v := 0) hx hb dX2_updates_27 (by decide) ?_
      refine lv_istore (lv' := [(7, .int 0), (6, .int 0), (0, .ref h0), (1, .int wa), (2, .int wb), (3, .int wc), (4, .int wd), (5, .int n)]) hx hb dX2_updates_28 hl (by decide) rfl (fun ls hl => ?_)
      refine lv_iload hx hb dX2_updates_30 (lv_at hl 0 rfl) ?_
      refine lv_iload hx hb dX2_updates_32 (lv_at hl 7 rfl) ?_
      refine lv_icmp_ge (tgt := 115) hx hb dX2_updates_34 (by decide) (fun c34 => ?_) (fun c34 => ?_)
      · refine lv_iload hx hb dX2_updates_115 (lv_at hl 1 rfl) ?_
        have hP9 := hP.sub (ws' := [(h0, .inr (2, [.int rd, .int op, .int dn, .ref qk, .ref qh, .ref qv, .ref qm, .ref qb, .int (nI kn), .long mx, .int ln, .int nn, .ref qr])), (qh, .inl (cA, 8, .inl hh)), (qv, .inl (cA, 16, .inl vv)), (qm, .inl (cA, 16, .inl mm)), (qb, .inl (cA, 64, .inl bl)), (qr, .inl (cA, 160, .inl kd_PL))]) [0, 1, 2, 3, 4, 5] rfl
        have hD9 := hD.sub (ws' := [(h0, .inr (2, [.int rd, .int op, .int dn, .ref qk, .ref qh, .ref qv, .ref qm, .ref qb, .int (nI kn), .long mx, .int ln, .int nn, .ref qr])), (qh, .inl (cA, 8, .inl hh)), (qv, .inl (cA, 16, .inl vv)), (qm, .inl (cA, 16, .inl mm)), (qb, .inl (cA, 64, .inl bl)), (qr, .inl (cA, 160, .inl kd_PL))]) [0, 1, 2, 3, 4, 5] (by decide) rfl
        exact W.zret (v := 0) hx hb hr (by rfl) (fun t ht hW => ⟨⟨0, (ln, hh, mm, vv, bl, kn, mx), rfl, ((if_pos (Or.inr (Or.inl c10)))).symm, by rw [ht]; exact hP9, va_K.moved hW.alike hK, hD9⟩, hS.F ht⟩) hS.2.2 dX2_updates_117
      · refine lv_iload hx hb dX2_updates_37 (lv_at hl 1 rfl) ?_
        refine lv_if_eq (tgt := 115) hx hb dX2_updates_39 (by decide) (fun c39 => ?_) (fun c39 => ?_)
        · refine lv_iload hx hb dX2_updates_115 (lv_at hl 1 rfl) ?_
          have hP9 := hP.sub (ws' := [(h0, .inr (2, [.int rd, .int op, .int dn, .ref qk, .ref qh, .ref qv, .ref qm, .ref qb, .int (nI kn), .long mx, .int ln, .int nn, .ref qr])), (qh, .inl (cA, 8, .inl hh)), (qv, .inl (cA, 16, .inl vv)), (qm, .inl (cA, 16, .inl mm)), (qb, .inl (cA, 64, .inl bl)), (qr, .inl (cA, 160, .inl kd_PL))]) [0, 1, 2, 3, 4, 5] rfl
          have hD9 := hD.sub (ws' := [(h0, .inr (2, [.int rd, .int op, .int dn, .ref qk, .ref qh, .ref qv, .ref qm, .ref qb, .int (nI kn), .long mx, .int ln, .int nn, .ref qr])), (qh, .inl (cA, 8, .inl hh)), (qv, .inl (cA, 16, .inl vv)), (qm, .inl (cA, 16, .inl mm)), (qb, .inl (cA, 64, .inl bl)), (qr, .inl (cA, 160, .inl kd_PL))]) [0, 1, 2, 3, 4, 5] (by decide) rfl
          exact W.zret (v := 0) hx hb hr (by rfl) (fun t ht hW => ⟨⟨0, (ln, hh, mm, vv, bl, kn, mx), rfl, ((if_pos (Or.inr (Or.inl c10)))).symm, by rw [ht]; exact hP9, va_K.moved hW.alike hK, hD9⟩, hS.F ht⟩) hS.2.2 dX2_updates_117
        · exact absurd rfl c39
    · refine lv_iload hx hb dX2_updates_13 (lv_at hl 5 rfl) ?_
      refine lv_bipush (v := 16) hx hb dX2_updates_15 (by decide) ?_
      refine lv_icmp_gt (tgt := 24) hx hb dX2_updates_17 (by decide) (fun c17 => ?_) (fun c17 => ?_)
      · refine lv_iconst (v := 0) hx hb dX2_updates_24 (by decide) ?_
        refine lv_istore (lv' := [(6, .int 0), (0, .ref h0), (1, .int wa), (2, .int wb), (3, .int wc), (4, .int wd), (5, .int n)]) hx hb dX2_updates_25 hl (by decide) rfl (fun ls hl => ?_)
        refine lv_iconst (v := 0) hx hb dX2_updates_27 (by decide) ?_
        refine lv_istore (lv' := [(7, .int 0), (6, .int 0), (0, .ref h0), (1, .int wa), (2, .int wb), (3, .int wc), (4, .int wd), (5, .int n)]) hx hb dX2_updates_28 hl (by decide) rfl (fun ls hl => ?_)
        refine lv_iload hx hb dX2_updates_30 (lv_at hl 0 rfl) ?_
        refine lv_iload hx hb dX2_updates_32 (lv_at hl 7 rfl) ?_
        refine lv_icmp_ge (tgt := 115) hx hb dX2_updates_34 (by decide) (fun c34 => ?_) (fun c34 => ?_)
        · refine lv_iload hx hb dX2_updates_115 (lv_at hl 1 rfl) ?_
          have hP9 := hP.sub (ws' := [(h0, .inr (2, [.int rd, .int op, .int dn, .ref qk, .ref qh, .ref qv, .ref qm, .ref qb, .int (nI kn), .long mx, .int ln, .int nn, .ref qr])), (qh, .inl (cA, 8, .inl hh)), (qv, .inl (cA, 16, .inl vv)), (qm, .inl (cA, 16, .inl mm)), (qb, .inl (cA, 64, .inl bl)), (qr, .inl (cA, 160, .inl kd_PL))]) [0, 1, 2, 3, 4, 5] rfl
          have hD9 := hD.sub (ws' := [(h0, .inr (2, [.int rd, .int op, .int dn, .ref qk, .ref qh, .ref qv, .ref qm, .ref qb, .int (nI kn), .long mx, .int ln, .int nn, .ref qr])), (qh, .inl (cA, 8, .inl hh)), (qv, .inl (cA, 16, .inl vv)), (qm, .inl (cA, 16, .inl mm)), (qb, .inl (cA, 64, .inl bl)), (qr, .inl (cA, 160, .inl kd_PL))]) [0, 1, 2, 3, 4, 5] (by decide) rfl
          exact W.zret (v := 0) hx hb hr (by rfl) (fun t ht hW => ⟨⟨0, (ln, hh, mm, vv, bl, kn, mx), rfl, ((if_pos (Or.inr (Or.inr (c17))))).symm, by rw [ht]; exact hP9, va_K.moved hW.alike hK, hD9⟩, hS.F ht⟩) hS.2.2 dX2_updates_117
        · refine lv_iload hx hb dX2_updates_37 (lv_at hl 1 rfl) ?_
          refine lv_if_eq (tgt := 115) hx hb dX2_updates_39 (by decide) (fun c39 => ?_) (fun c39 => ?_)
          · refine lv_iload hx hb dX2_updates_115 (lv_at hl 1 rfl) ?_
            have hP9 := hP.sub (ws' := [(h0, .inr (2, [.int rd, .int op, .int dn, .ref qk, .ref qh, .ref qv, .ref qm, .ref qb, .int (nI kn), .long mx, .int ln, .int nn, .ref qr])), (qh, .inl (cA, 8, .inl hh)), (qv, .inl (cA, 16, .inl vv)), (qm, .inl (cA, 16, .inl mm)), (qb, .inl (cA, 64, .inl bl)), (qr, .inl (cA, 160, .inl kd_PL))]) [0, 1, 2, 3, 4, 5] rfl
            have hD9 := hD.sub (ws' := [(h0, .inr (2, [.int rd, .int op, .int dn, .ref qk, .ref qh, .ref qv, .ref qm, .ref qb, .int (nI kn), .long mx, .int ln, .int nn, .ref qr])), (qh, .inl (cA, 8, .inl hh)), (qv, .inl (cA, 16, .inl vv)), (qm, .inl (cA, 16, .inl mm)), (qb, .inl (cA, 64, .inl bl)), (qr, .inl (cA, 160, .inl kd_PL))]) [0, 1, 2, 3, 4, 5] (by decide) rfl
            exact W.zret (v := 0) hx hb hr (by rfl) (fun t ht hW => ⟨⟨0, (ln, hh, mm, vv, bl, kn, mx), rfl, ((if_pos (Or.inr (Or.inr (c17))))).symm, by rw [ht]; exact hP9, va_K.moved hW.alike hK, hD9⟩, hS.F ht⟩) hS.2.2 dX2_updates_117
          · exact absurd rfl c39
      · obtain ⟨nj, hnj, rfl⟩ := nI_of2 (n := 16) (M := 16) (by decide) (kd_pos1 c10) (Int32.not_lt.mp c17)
        refine lv_iconst (v := 1) hx hb dX2_updates_20 (by decide) ?_
        refine lv_goto (tgt := 25) hx hb dX2_updates_21 (by decide) ?_
        refine lv_istore (lv' := [(6, .int 1), (0, .ref h0), (1, .int wa), (2, .int wb), (3, .int wc), (4, .int wd), (5, .int (nI nj))]) hx hb dX2_updates_25 hl (by decide) rfl (fun ls hl => ?_)
        refine lv_iconst (v := 0) hx hb dX2_updates_27 (by decide) ?_
        refine lv_istore (lv' := [(7, .int 0), (6, .int 1), (0, .ref h0), (1, .int wa), (2, .int wb), (3, .int wc), (4, .int wd), (5, .int (nI nj))]) hx hb dX2_updates_28 hl (by decide) rfl (fun ls hl => ?_)
        have lp : ∀ (k : Nat) (i : Nat) (x : Int32) (u0 : kd_M) (l0 : Int32) (v0 : Nat → Int32) (m0 : Nat → Int32), (i ≤ nj) → (nj - i < k) → (x = nI i) → (u0 = kd_takes (kd_byte wa wb wc wd) i (hh, bl, kn, mx)) → (l0 = ln + nI i) → ∀ (H : Heap) (locs : List Loc) (ls : Array Slot), va_P (dC, dI) vwCl [(h0, .inr (2, [.int rd, .int op, .int dn, .ref qk, .ref qh, .ref qv, .ref qm, .ref qb, .int (nI u0.2.2.1), .long u0.2.2.2, .int l0, .int nn, .ref qr])), (qh, .inl (cA, 8, .inl u0.1)), (qv, .inl (cA, 16, .inl v0)), (qm, .inl (cA, 16, .inl m0)), (qb, .inl (cA, 64, .inl u0.2.1)), (qr, .inl (cA, 160, .inl kd_PL))] H → va_D A [(h0, .inr (2, [.int rd, .int op, .int dn, .ref qk, .ref qh, .ref qv, .ref qm, .ref qb, .int (nI u0.2.2.1), .long u0.2.2.2, .int l0, .int nn, .ref qr])), (qh, .inl (cA, 8, .inl u0.1)), (qv, .inl (cA, 16, .inl v0)), (qm, .inl (cA, 16, .inl m0)), (qb, .inl (cA, 64, .inl u0.2.1)), (qr, .inl (cA, 160, .inl kd_PL))] → va_S A s.heap H locs → lv_has ls 9 [(7, .int x), (6, .int 1), (0, .ref h0), (1, .int wa), (2, .int wb), (3, .int wc), (4, .int wd), (5, .int (nI nj))] → W p l e (headSpec wsX2_updates { frames := 4, cells := 0, slots := 0, locals := 92 }).room s m ([.ref h0, .int wa, .int wb, .int wc, .int wd, .int (nI nj)]).toArray below meth c H locs 0 0 (MQ below (va_Qi (fun (r : Int32) (u : Int32 × (Nat → Int32) × (Nat → Int32) × (Nat → Int32) × (Nat → Int32) × Nat × Int64) => (r, u.1, (u.2.1, u.2.2.2.2.1, u.2.2.2.2.2.1, u.2.2.2.2.2.2)) = if op = 0 ∨ (nI nj) < 1 ∨ 16 < (nI nj) then (0, ln, (hh, bl, kn, mx)) else (1, ln + (nI nj), kd_takes (kd_byte wa wb wc wd) (nI nj).toNatClampNeg (hh, bl, kn, mx))) (fun u t => kd_O (dC, dI) cA A [(h0, .inr (2, [.int rd, .int op, .int dn, .ref qk, .ref qh, .ref qv, .ref qm, .ref qb, .int (nI u.2.2.2.2.2.1), .long u.2.2.2.2.2.2, .int u.1, .int nn, .ref qr])), (qh, .inl (cA, 8, .inl u.2.1)), (qv, .inl (cA, 16, .inl u.2.2.2.1)), (qm, .inl (cA, 16, .inl u.2.2.1)), (qb, .inl (cA, 64, .inl u.2.2.2.2.1)), (qr, .inl (cA, 160, .inl kd_PL))] t) A) ([.ref h0, .int wa, .int wb, .int wc, .int wd, .int (nI nj)]).toArray s 0 0 A) (F0 m 30 ls []) := by
          intro k
          induction k with
          | zero =>
            intro i x u0 l0 v0 m0 hi hm ex hu hl0
            omega
          | succ k ih =>
            intro i x u0 l0 v0 m0 hi hm ex hu hl0 H locs ls hP hD hS hl
            refine lv_iload hx hb dX2_updates_30 (lv_at hl 0 rfl) ?_
            refine lv_iload hx hb dX2_updates_32 (lv_at hl 7 rfl) ?_
            refine lv_icmp_ge (tgt := 115) hx hb dX2_updates_34 (by decide) (fun c34 => ?_) (fun c34 => ?_)
            · have hge : nj ≤ i := kd_ge ex (by omega) (by omega) c34
              have hij : i = nj := by omega
              rw [hij] at hu hl0
              subst hu hl0
              refine lv_iload hx hb dX2_updates_115 (lv_at hl 1 rfl) ?_
              have hP9 := hP.sub (ws' := [(h0, .inr (2, [.int rd, .int op, .int dn, .ref qk, .ref qh, .ref qv, .ref qm, .ref qb, .int (nI ((kd_takes (kd_byte wa wb wc wd) nj (hh, bl, kn, mx)).2.2.1)), .long ((kd_takes (kd_byte wa wb wc wd) nj (hh, bl, kn, mx)).2.2.2), .int (ln + nI nj), .int nn, .ref qr])), (qh, .inl (cA, 8, .inl ((kd_takes (kd_byte wa wb wc wd) nj (hh, bl, kn, mx)).1))), (qv, .inl (cA, 16, .inl v0)), (qm, .inl (cA, 16, .inl m0)), (qb, .inl (cA, 64, .inl ((kd_takes (kd_byte wa wb wc wd) nj (hh, bl, kn, mx)).2.1))), (qr, .inl (cA, 160, .inl kd_PL))]) [0, 1, 2, 3, 4, 5] rfl
              have hD9 := hD.sub (ws' := [(h0, .inr (2, [.int rd, .int op, .int dn, .ref qk, .ref qh, .ref qv, .ref qm, .ref qb, .int (nI ((kd_takes (kd_byte wa wb wc wd) nj (hh, bl, kn, mx)).2.2.1)), .long ((kd_takes (kd_byte wa wb wc wd) nj (hh, bl, kn, mx)).2.2.2), .int (ln + nI nj), .int nn, .ref qr])), (qh, .inl (cA, 8, .inl ((kd_takes (kd_byte wa wb wc wd) nj (hh, bl, kn, mx)).1))), (qv, .inl (cA, 16, .inl v0)), (qm, .inl (cA, 16, .inl m0)), (qb, .inl (cA, 64, .inl ((kd_takes (kd_byte wa wb wc wd) nj (hh, bl, kn, mx)).2.1))), (qr, .inl (cA, 160, .inl kd_PL))]) [0, 1, 2, 3, 4, 5] (by decide) rfl
              exact W.zret (v := 1) hx hb hr (by rfl) (fun t ht hW => ⟨⟨1, (ln + nI nj, (kd_takes (kd_byte wa wb wc wd) nj (hh, bl, kn, mx)).1, m0, v0, (kd_takes (kd_byte wa wb wc wd) nj (hh, bl, kn, mx)).2.1, (kd_takes (kd_byte wa wb wc wd) nj (hh, bl, kn, mx)).2.2.1, (kd_takes (kd_byte wa wb wc wd) nj (hh, bl, kn, mx)).2.2.2), rfl, (by dsimp only; rw [(if_neg (fun h => h.elim c4 (fun h => h.elim c10 (c17)))), nI_clamp (by omega)]), by rw [ht]; exact hP9, va_K.moved hW.alike hK, hD9⟩, hS.F ht⟩) hS.2.2 dX2_updates_117
            · have hlt : i < nj := kd_lt ex (by omega) (by omega) c34
              refine lv_iload hx hb dX2_updates_37 (lv_at hl 1 rfl) ?_
              refine lv_if_eq (tgt := 115) hx hb dX2_updates_39 (by decide) (fun c39 => ?_) (fun c39 => ?_)
              · exact absurd c39 (by decide)
              · refine lv_iload hx hb dX2_updates_42 (lv_at hl 0 rfl) ?_
                refine lv_iconst (v := 4) hx hb dX2_updates_44 (by decide) ?_
                refine lv_icmp_ge (tgt := 52) hx hb dX2_updates_45 (by decide) (fun c45 => ?_) (fun c45 => ?_)
                · refine lv_iload hx hb dX2_updates_52 (lv_at hl 0 rfl) ?_
                  refine lv_bipush (v := 8) hx hb dX2_updates_54 (by decide) ?_
                  refine lv_icmp_ge (tgt := 63) hx hb dX2_updates_56 (by decide) (fun c56 => ?_) (fun c56 => ?_)
                  · refine lv_iload hx hb dX2_updates_63 (lv_at hl 0 rfl) ?_
                    refine lv_bipush (v := 12) hx hb dX2_updates_65 (by decide) ?_
                    refine lv_icmp_ge (tgt := 74) hx hb dX2_updates_67 (by decide) (fun c67 => ?_) (fun c67 => ?_)
                    · refine lv_iload hx hb dX2_updates_74 (lv_at hl 6 rfl) ?_
                      refine lv_istore (lv' := [(8, .int wd), (7, .int x), (6, .int 1), (0, .ref h0), (1, .int wa), (2, .int wb), (3, .int wc), (4, .int wd), (5, .int (nI nj))]) hx hb dX2_updates_76 hl (by decide) rfl (fun ls hl => ?_)
                      refine lv_aload_n hx hb dX2_updates_78 rfl (lv_at hl 3 rfl) ?_
                      refine lv_iload hx hb dX2_updates_79 (lv_at hl 0 rfl) ?_
                      refine lv_bipush (v := 24) hx hb dX2_updates_81 (by decide) ?_
                      refine lv_bipush (v := 8) hx hb dX2_updates_83 (by decide) ?_
                      refine lv_iload hx hb dX2_updates_85 (lv_at hl 1 rfl) ?_
                      refine lv_iconst (v := 4) hx hb dX2_updates_87 (by decide) ?_
                      refine lv_irem hx hb dX2_updates_88 (by decide) ?_
                      refine lv_imul hx hb dX2_updates_89 ?_
                      refine lv_isub hx hb dX2_updates_90 ?_
                      refine lv_ishr hx hb dX2_updates_91 ?_
                      refine lv_sipush (v := 255) hx hb dX2_updates_92 (by decide) ?_
                      refine lv_iand hx hb dX2_updates_95 ?_
                      refine lv_topi (fun x95 ex95 => ?_)
                      obtain rfl : x95 = kd_byte wa wb wc wd i := by rw [ex95, ex]; exact kd_by3 wa wb wc wd (kd_ge (n := 12) ex (by omega) (by decide) c67) (by omega)
                      have hPc := hP.sub (ws' := [(h0, .inr (2, [.int rd, .int op, .int dn, .ref qk, .ref qh, .ref qv, .ref qm, .ref qb, .int (nI u0.2.2.1), .long u0.2.2.2, .int l0, .int nn, .ref qr])), (qh, .inl (cA, 8, .inl u0.1)), (qv, .inl (cA, 16, .inl v0)), (qm, .inl (cA, 16, .inl m0)), (qb, .inl (cA, 64, .inl u0.2.1)), (qr, .inl (cA, 160, .inl kd_PL))]) [0, 1, 2, 3, 4, 5] rfl
                      have hDc := hD.sub (ws' := [(h0, .inr (2, [.int rd, .int op, .int dn, .ref qk, .ref qh, .ref qv, .ref qm, .ref qb, .int (nI u0.2.2.1), .long u0.2.2.2, .int l0, .int nn, .ref qr])), (qh, .inl (cA, 8, .inl u0.1)), (qv, .inl (cA, 16, .inl v0)), (qm, .inl (cA, 16, .inl m0)), (qb, .inl (cA, 64, .inl u0.2.1)), (qr, .inl (cA, 160, .inl kd_PL))]) [0, 1, 2, 3, 4, 5] (by decide) rfl
                      have hFc := va_free (wc := [(h0, .inr (2, [.int rd, .int op, .int dn, .ref qk, .ref qh, .ref qv, .ref qm, .ref qb, .int (nI u0.2.2.1), .long u0.2.2.2, .int l0, .int nn, .ref qr])), (qh, .inl (cA, 8, .inl u0.1)), (qv, .inl (cA, 16, .inl v0)), (qm, .inl (cA, 16, .inl m0)), (qb, .inl (cA, 64, .inl u0.2.1)), (qr, .inl (cA, 160, .inl kd_PL))]) hD hS hA [0, 1, 2, 3, 4, 5] rfl
                      refine va_callv (va_runV (As := [.int (kd_byte wa wb wc wd i)]) (rest := []) ⟨hx, hb, hml, hown, hts⟩ (cX2_take_ok l dC dI cA tb H.size h0 qk qh qv qm qb qr rd op dn u0.1 v0 m0 u0.2.1 u0.2.2.1 u0.2.2.2 l0 nn (kd_byte wa wb wc wd i) (by rw [hu]; exact kd_takes_le hk i)) (cwV 1 hts gX2_updates_X2_take rfl rfl rfl (by decide +kernel) ⟨Nat.le_of_ble_eq_true rfl, Nat.le_of_ble_eq_true rfl⟩) ⟨fun a U g mk q => kd_calling rfl rfl q, va_recv hK hPc (ci := 2) (q0 := 0) rfl rfl, fun U hU hW => ⟨rfl, kd_pre hPc hK hDc hT hS hFc U hU hW⟩⟩ rfl rfl hl.1 rfl (lv_room (Nat.le_of_ble_eq_true rfl)) dX2_updates_96 ⟨Nat.le_of_ble_eq_true rfl, Nat.le_of_ble_eq_true rfl⟩) hS (fun q _ h => hFc q h) hFc (fun u t H1 locs ht hvm hw hB hz1 hk1 hS => ?_)
                      obtain ⟨ho96, mo96, vo96, bo96, ko96, xo96⟩ := u
                      have hw96 : (ho96, bo96, ko96, xo96) = kd_take (kd_byte wa wb wc wd i) (u0.1, u0.2.1, u0.2.2.1, u0.2.2.2) := hw
                      have hP1 : va_P (dC, dI) vwCl [(h0, .inr (2, [.int rd, .int op, .int dn, .ref qk, .ref qh, .ref qv, .ref qm, .ref qb, .int (nI ko96), .long xo96, .int l0, .int nn, .ref qr])), (qh, .inl (cA, 8, .inl ho96)), (qv, .inl (cA, 16, .inl vo96)), (qm, .inl (cA, 16, .inl mo96)), (qb, .inl (cA, 64, .inl bo96)), (qr, .inl (cA, 160, .inl kd_PL))] H1 := by rw [← ht]; exact hB.1
                      have hD1 : va_D (va_A [(h0, .inr (2, [.int rd, .int op, .int dn, .ref qk, .ref qh, .ref qv, .ref qm, .ref qb, .int (nI u0.2.2.1), .long u0.2.2.2, .int l0, .int nn, .ref qr])), (qh, .inl (cA, 8, .inl u0.1)), (qv, .inl (cA, 16, .inl v0)), (qm, .inl (cA, 16, .inl m0)), (qb, .inl (cA, 64, .inl u0.2.1)), (qr, .inl (cA, 160, .inl kd_PL))] H.size) [(h0, .inr (2, [.int rd, .int op, .int dn, .ref qk, .ref qh, .ref qv, .ref qm, .ref qb, .int (nI ko96), .long xo96, .int l0, .int nn, .ref qr])), (qh, .inl (cA, 8, .inl ho96)), (qv, .inl (cA, 16, .inl vo96)), (qm, .inl (cA, 16, .inl mo96)), (qb, .inl (cA, 64, .inl bo96)), (qr, .inl (cA, 160, .inl kd_PL))] := hB.2.2
                      obtain ⟨hP, hD⟩ := va_join (wr := []) (w1 := [(h0, .inr (2, [.int rd, .int op, .int dn, .ref qk, .ref qh, .ref qv, .ref qm, .ref qb, .int (nI ko96), .long xo96, .int l0, .int nn, .ref qr])), (qh, .inl (cA, 8, .inl ho96)), (qv, .inl (cA, 16, .inl vo96)), (qm, .inl (cA, 16, .inl mo96)), (qb, .inl (cA, 64, .inl bo96)), (qr, .inl (cA, 160, .inl kd_PL))]) hP hD [0, 1, 2, 3, 4, 5] [] rfl rfl (by decide) (by decide) hk1 hFc hP1 hD1
                      clear hw hB hk1 hPc hDc hFc hP1 hD1 hvm hz1
                      generalize H1 = H at hP hS ⊢
                      have hP : va_P (dC, dI) vwCl [(h0, .inr (2, [.int rd, .int op, .int dn, .ref qk, .ref qh, .ref qv, .ref qm, .ref qb, .int (nI ko96), .long xo96, .int l0, .int nn, .ref qr])), (qh, .inl (cA, 8, .inl ho96)), (qv, .inl (cA, 16, .inl vo96)), (qm, .inl (cA, 16, .inl mo96)), (qb, .inl (cA, 64, .inl bo96)), (qr, .inl (cA, 160, .inl kd_PL))] H := hP
                      have hD : va_D A [(h0, .inr (2, [.int rd, .int op, .int dn, .ref qk, .ref qh, .ref qv, .ref qm, .ref qb, .int (nI ko96), .long xo96, .int l0, .int nn, .ref qr])), (qh, .inl (cA, 8, .inl ho96)), (qv, .inl (cA, 16, .inl vo96)), (qm, .inl (cA, 16, .inl mo96)), (qb, .inl (cA, 64, .inl bo96)), (qr, .inl (cA, 160, .inl kd_PL))] := hD
                      refine lv_aload_n hx hb dX2_updates_99 rfl (lv_at hl 3 rfl) ?_
                      refine lv_dup hx hb dX2_updates_100 rfl ?_
                      refine va_get (D := (dC, dI)) (ci := 2) (v := .int l0) (C := RX2) (T := TX2) (N := 13) hx hb hts ki2 hown hK hP 0 rfl rfl 10 (by decide) k2 (fun _ h9 => h9) rfl dX2_updates_101 ?_
                      refine lv_iconst (v := 1) hx hb dX2_updates_104 (by decide) ?_
                      refine lv_iadd hx hb dX2_updates_105 ?_
                      refine lv_topi (fun x106 ex106 => ?_)
                      refine va_put (D := (dC, dI)) (ci := 2) (v := .int x106) (ty := .int) (C := RX2) (T := TX2) (N := 13) hx hb hts ki2 tyX2 tyX2_ok nmX2 hown hK hP hD hS 0 rfl rfl 10 (by decide) k2 (fun _ h9 => h9) rfl (by decide +kernel) rfl rfl (Nat.le_of_ble_eq_true rfl) dX2_updates_106 (fun H locs hP hD hS => ?_)
                      have hP : va_P (dC, dI) vwCl [(h0, .inr (2, [.int rd, .int op, .int dn, .ref qk, .ref qh, .ref qv, .ref qm, .ref qb, .int (nI ko96), .long xo96, .int x106, .int nn, .ref qr])), (qh, .inl (cA, 8, .inl ho96)), (qv, .inl (cA, 16, .inl vo96)), (qm, .inl (cA, 16, .inl mo96)), (qb, .inl (cA, 64, .inl bo96)), (qr, .inl (cA, 160, .inl kd_PL))] H := hP
                      have hD : va_D A [(h0, .inr (2, [.int rd, .int op, .int dn, .ref qk, .ref qh, .ref qv, .ref qm, .ref qb, .int (nI ko96), .long xo96, .int x106, .int nn, .ref qr])), (qh, .inl (cA, 8, .inl ho96)), (qv, .inl (cA, 16, .inl vo96)), (qm, .inl (cA, 16, .inl mo96)), (qb, .inl (cA, 64, .inl bo96)), (qr, .inl (cA, 160, .inl kd_PL))] := hD
                      obtain ⟨x109, ex109⟩ : ∃ zz : Int32, zz = x + 1 := ⟨_, rfl⟩
                      refine lv_iinc (v := x109) (lv' := [(7, .int x109), (8, .int wd), (6, .int 1), (0, .ref h0), (1, .int wa), (2, .int wb), (3, .int wc), (4, .int wd), (5, .int (nI nj))]) hx hb dX2_updates_109 hl (k := 1) rfl (by rw [ex109]; rfl) (by decide) rfl (fun ls hl => ?_)
                      refine lv_goto (tgt := 30) hx hb dX2_updates_112 (by decide) ?_
                      exact ih  (i + 1) x109 (ho96, bo96, ko96, xo96) x106 vo96 mo96 (by omega) (by omega) (by rw [ex109, ex]; exact nI_1 i) (by rw [hw96]; show kd_take (kd_byte wa wb wc wd i) u0 = _; rw [hu]; rfl) (by rw [ex106, hl0]; exact kd_ln1 ln i) _ _ ls (hP.sub [0, 1, 2, 3, 4, 5] rfl) (hD.sub [0, 1, 2, 3, 4, 5] (by decide) rfl) hS (lv_sub hl [0, 2, 3, 4, 5, 6, 7, 8] rfl)
                    · refine lv_iload_n hx hb dX2_updates_70 rfl (lv_at hl 5 rfl) ?_
                      refine lv_goto (tgt := 76) hx hb dX2_updates_71 (by decide) ?_
                      refine lv_istore (lv' := [(8, .int wc), (7, .int x), (6, .int 1), (0, .ref h0), (1, .int wa), (2, .int wb), (3, .int wc), (4, .int wd), (5, .int (nI nj))]) hx hb dX2_updates_76 hl (by decide) rfl (fun ls hl => ?_)
                      refine lv_aload_n hx hb dX2_updates_78 rfl (lv_at hl 3 rfl) ?_
                      refine lv_iload hx hb dX2_updates_79 (lv_at hl 0 rfl) ?_
                      refine lv_bipush (v := 24) hx hb dX2_updates_81 (by decide) ?_
                      refine lv_bipush (v := 8) hx hb dX2_updates_83 (by decide) ?_
                      refine lv_iload hx hb dX2_updates_85 (lv_at hl 1 rfl) ?_
                      refine lv_iconst (v := 4) hx hb dX2_updates_87 (by decide) ?_
                      refine lv_irem hx hb dX2_updates_88 (by decide) ?_
                      refine lv_imul hx hb dX2_updates_89 ?_
                      refine lv_isub hx hb dX2_updates_90 ?_
                      refine lv_ishr hx hb dX2_updates_91 ?_
                      refine lv_sipush (v := 255) hx hb dX2_updates_92 (by decide) ?_
                      refine lv_iand hx hb dX2_updates_95 ?_
                      refine lv_topi (fun x95 ex95 => ?_)
                      obtain rfl : x95 = kd_byte wa wb wc wd i := by rw [ex95, ex]; exact kd_by2 wa wb wc wd (kd_ge (n := 8) ex (by omega) (by decide) c56) (kd_lt (n := 12) ex (by omega) (by decide) c67)
                      have hPc := hP.sub (ws' := [(h0, .inr (2, [.int rd, .int op, .int dn, .ref qk, .ref qh, .ref qv, .ref qm, .ref qb, .int (nI u0.2.2.1), .long u0.2.2.2, .int l0, .int nn, .ref qr])), (qh, .inl (cA, 8, .inl u0.1)), (qv, .inl (cA, 16, .inl v0)), (qm, .inl (cA, 16, .inl m0)), (qb, .inl (cA, 64, .inl u0.2.1)), (qr, .inl (cA, 160, .inl kd_PL))]) [0, 1, 2, 3, 4, 5] rfl
                      have hDc := hD.sub (ws' := [(h0, .inr (2, [.int rd, .int op, .int dn, .ref qk, .ref qh, .ref qv, .ref qm, .ref qb, .int (nI u0.2.2.1), .long u0.2.2.2, .int l0, .int nn, .ref qr])), (qh, .inl (cA, 8, .inl u0.1)), (qv, .inl (cA, 16, .inl v0)), (qm, .inl (cA, 16, .inl m0)), (qb, .inl (cA, 64, .inl u0.2.1)), (qr, .inl (cA, 160, .inl kd_PL))]) [0, 1, 2, 3, 4, 5] (by decide) rfl
                      have hFc := va_free (wc := [(h0, .inr (2, [.int rd, .int op, .int dn, .ref qk, .ref qh, .ref qv, .ref qm, .ref qb, .int (nI u0.2.2.1), .long u0.2.2.2, .int l0, .int nn, .ref qr])), (qh, .inl (cA, 8, .inl u0.1)), (qv, .inl (cA, 16, .inl v0)), (qm, .inl (cA, 16, .inl m0)), (qb, .inl (cA, 64, .inl u0.2.1)), (qr, .inl (cA, 160, .inl kd_PL))]) hD hS hA [0, 1, 2, 3, 4, 5] rfl
                      refine va_callv (va_runV (As := [.int (kd_byte wa wb wc wd i)]) (rest := []) ⟨hx, hb, hml, hown, hts⟩ (cX2_take_ok l dC dI cA tb H.size h0 qk qh qv qm qb qr rd op dn u0.1 v0 m0 u0.2.1 u0.2.2.1 u0.2.2.2 l0 nn (kd_byte wa wb wc wd i) (by rw [hu]; exact kd_takes_le hk i)) (cwV 1 hts gX2_updates_X2_take rfl rfl rfl (by decide +kernel) ⟨Nat.le_of_ble_eq_true rfl, Nat.le_of_ble_eq_true rfl⟩) ⟨fun a U g mk q => kd_calling rfl rfl q, va_recv hK hPc (ci := 2) (q0 := 0) rfl rfl, fun U hU hW => ⟨rfl, kd_pre hPc hK hDc hT hS hFc U hU hW⟩⟩ rfl rfl hl.1 rfl (lv_room (Nat.le_of_ble_eq_true rfl)) dX2_updates_96 ⟨Nat.le_of_ble_eq_true rfl, Nat.le_of_ble_eq_true rfl⟩) hS (fun q _ h => hFc q h) hFc (fun u t H1 locs ht hvm hw hB hz1 hk1 hS => ?_)
                      obtain ⟨ho96, mo96, vo96, bo96, ko96, xo96⟩ := u
                      have hw96 : (ho96, bo96, ko96, xo96) = kd_take (kd_byte wa wb wc wd i) (u0.1, u0.2.1, u0.2.2.1, u0.2.2.2) := hw
                      have hP1 : va_P (dC, dI) vwCl [(h0, .inr (2, [.int rd, .int op, .int dn, .ref qk, .ref qh, .ref qv, .ref qm, .ref qb, .int (nI ko96), .long xo96, .int l0, .int nn, .ref qr])), (qh, .inl (cA, 8, .inl ho96)), (qv, .inl (cA, 16, .inl vo96)), (qm, .inl (cA, 16, .inl mo96)), (qb, .inl (cA, 64, .inl bo96)), (qr, .inl (cA, 160, .inl kd_PL))] H1 := by rw [← ht]; exact hB.1
                      have hD1 : va_D (va_A [(h0, .inr (2, [.int rd, .int op, .int dn, .ref qk, .ref qh, .ref qv, .ref qm, .ref qb, .int (nI u0.2.2.1), .long u0.2.2.2, .int l0, .int nn, .ref qr])), (qh, .inl (cA, 8, .inl u0.1)), (qv, .inl (cA, 16, .inl v0)), (qm, .inl (cA, 16, .inl m0)), (qb, .inl (cA, 64, .inl u0.2.1)), (qr, .inl (cA, 160, .inl kd_PL))] H.size) [(h0, .inr (2, [.int rd, .int op, .int dn, .ref qk, .ref qh, .ref qv, .ref qm, .ref qb, .int (nI ko96), .long xo96, .int l0, .int nn, .ref qr])), (qh, .inl (cA, 8, .inl ho96)), (qv, .inl (cA, 16, .inl vo96)), (qm, .inl (cA, 16, .inl mo96)), (qb, .inl (cA, 64, .inl bo96)), (qr, .inl (cA, 160, .inl kd_PL))] := hB.2.2
                      obtain ⟨hP, hD⟩ := va_join (wr := []) (w1 := [(h0, .inr (2, [.int rd, .int op, .int dn, .ref qk, .ref qh, .ref qv, .ref qm, .ref qb, .int (nI ko96), .long xo96, .int l0, .int nn, .ref qr])), (qh, .inl (cA, 8, .inl ho96)), (qv, .inl (cA, 16, .inl vo96)), (qm, .inl (cA, 16, .inl mo96)), (qb, .inl (cA, 64, .inl bo96)), (qr, .inl (cA, 160, .inl kd_PL))]) hP hD [0, 1, 2, 3, 4, 5] [] rfl rfl (by decide) (by decide) hk1 hFc hP1 hD1
                      clear hw hB hk1 hPc hDc hFc hP1 hD1 hvm hz1
                      generalize H1 = H at hP hS ⊢
                      have hP : va_P (dC, dI) vwCl [(h0, .inr (2, [.int rd, .int op, .int dn, .ref qk, .ref qh, .ref qv, .ref qm, .ref qb, .int (nI ko96), .long xo96, .int l0, .int nn, .ref qr])), (qh, .inl (cA, 8, .inl ho96)), (qv, .inl (cA, 16, .inl vo96)), (qm, .inl (cA, 16, .inl mo96)), (qb, .inl (cA, 64, .inl bo96)), (qr, .inl (cA, 160, .inl kd_PL))] H := hP
                      have hD : va_D A [(h0, .inr (2, [.int rd, .int op, .int dn, .ref qk, .ref qh, .ref qv, .ref qm, .ref qb, .int (nI ko96), .long xo96, .int l0, .int nn, .ref qr])), (qh, .inl (cA, 8, .inl ho96)), (qv, .inl (cA, 16, .inl vo96)), (qm, .inl (cA, 16, .inl mo96)), (qb, .inl (cA, 64, .inl bo96)), (qr, .inl (cA, 160, .inl kd_PL))] := hD
                      refine lv_aload_n hx hb dX2_updates_99 rfl (lv_at hl 3 rfl) ?_
                      refine lv_dup hx hb dX2_updates_100 rfl ?_
                      refine va_get (D := (dC, dI)) (ci := 2) (v := .int l0) (C := RX2) (T := TX2) (N := 13) hx hb hts ki2 hown hK hP 0 rfl rfl 10 (by decide) k2 (fun _ h9 => h9) rfl dX2_updates_101 ?_
                      refine lv_iconst (v := 1) hx hb dX2_updates_104 (by decide) ?_
                      refine lv_iadd hx hb dX2_updates_105 ?_
                      refine lv_topi (fun x106 ex106 => ?_)
                      refine va_put (D := (dC, dI)) (ci := 2) (v := .int x106) (ty := .int) (C := RX2) (T := TX2) (N := 13) hx hb hts ki2 tyX2 tyX2_ok nmX2 hown hK hP hD hS 0 rfl rfl 10 (by decide) k2 (fun _ h9 => h9) rfl (by decide +kernel) rfl rfl (Nat.le_of_ble_eq_true rfl) dX2_updates_106 (fun H locs hP hD hS => ?_)
                      have hP : va_P (dC, dI) vwCl [(h0, .inr (2, [.int rd, .int op, .int dn, .ref qk, .ref qh, .ref qv, .ref qm, .ref qb, .int (nI ko96), .long xo96, .int x106, .int nn, .ref qr])), (qh, .inl (cA, 8, .inl ho96)), (qv, .inl (cA, 16, .inl vo96)), (qm, .inl (cA, 16, .inl mo96)), (qb, .inl (cA, 64, .inl bo96)), (qr, .inl (cA, 160, .inl kd_PL))] H := hP
                      have hD : va_D A [(h0, .inr (2, [.int rd, .int op, .int dn, .ref qk, .ref qh, .ref qv, .ref qm, .ref qb, .int (nI ko96), .long xo96, .int x106, .int nn, .ref qr])), (qh, .inl (cA, 8, .inl ho96)), (qv, .inl (cA, 16, .inl vo96)), (qm, .inl (cA, 16, .inl mo96)), (qb, .inl (cA, 64, .inl bo96)), (qr, .inl (cA, 160, .inl kd_PL))] := hD
                      obtain ⟨x109, ex109⟩ : ∃ zz : Int32, zz = x + 1 := ⟨_, rfl⟩
                      refine lv_iinc (v := x109) (lv' := [(7, .int x109), (8, .int wc), (6, .int 1), (0, .ref h0), (1, .int wa), (2, .int wb), (3, .int wc), (4, .int wd), (5, .int (nI nj))]) hx hb dX2_updates_109 hl (k := 1) rfl (by rw [ex109]; rfl) (by decide) rfl (fun ls hl => ?_)
                      refine lv_goto (tgt := 30) hx hb dX2_updates_112 (by decide) ?_
                      exact ih  (i + 1) x109 (ho96, bo96, ko96, xo96) x106 vo96 mo96 (by omega) (by omega) (by rw [ex109, ex]; exact nI_1 i) (by rw [hw96]; show kd_take (kd_byte wa wb wc wd i) u0 = _; rw [hu]; rfl) (by rw [ex106, hl0]; exact kd_ln1 ln i) _ _ ls (hP.sub [0, 1, 2, 3, 4, 5] rfl) (hD.sub [0, 1, 2, 3, 4, 5] (by decide) rfl) hS (lv_sub hl [0, 2, 3, 4, 5, 6, 7, 8] rfl)
                  · refine lv_iload_n hx hb dX2_updates_59 rfl (lv_at hl 4 rfl) ?_
                    refine lv_goto (tgt := 76) hx hb dX2_updates_60 (by decide) ?_
                    refine lv_istore (lv' := [(8, .int wb), (7, .int x), (6, .int 1), (0, .ref h0), (1, .int wa), (2, .int wb), (3, .int wc), (4, .int wd), (5, .int (nI nj))]) hx hb dX2_updates_76 hl (by decide) rfl (fun ls hl => ?_)
                    refine lv_aload_n hx hb dX2_updates_78 rfl (lv_at hl 3 rfl) ?_
                    refine lv_iload hx hb dX2_updates_79 (lv_at hl 0 rfl) ?_
                    refine lv_bipush (v := 24) hx hb dX2_updates_81 (by decide) ?_
                    refine lv_bipush (v := 8) hx hb dX2_updates_83 (by decide) ?_
                    refine lv_iload hx hb dX2_updates_85 (lv_at hl 1 rfl) ?_
                    refine lv_iconst (v := 4) hx hb dX2_updates_87 (by decide) ?_
                    refine lv_irem hx hb dX2_updates_88 (by decide) ?_
                    refine lv_imul hx hb dX2_updates_89 ?_
                    refine lv_isub hx hb dX2_updates_90 ?_
                    refine lv_ishr hx hb dX2_updates_91 ?_
                    refine lv_sipush (v := 255) hx hb dX2_updates_92 (by decide) ?_
                    refine lv_iand hx hb dX2_updates_95 ?_
                    refine lv_topi (fun x95 ex95 => ?_)
                    obtain rfl : x95 = kd_byte wa wb wc wd i := by rw [ex95, ex]; exact kd_by1 wa wb wc wd (kd_ge (n := 4) ex (by omega) (by decide) c45) (kd_lt (n := 8) ex (by omega) (by decide) c56)
                    have hPc := hP.sub (ws' := [(h0, .inr (2, [.int rd, .int op, .int dn, .ref qk, .ref qh, .ref qv, .ref qm, .ref qb, .int (nI u0.2.2.1), .long u0.2.2.2, .int l0, .int nn, .ref qr])), (qh, .inl (cA, 8, .inl u0.1)), (qv, .inl (cA, 16, .inl v0)), (qm, .inl (cA, 16, .inl m0)), (qb, .inl (cA, 64, .inl u0.2.1)), (qr, .inl (cA, 160, .inl kd_PL))]) [0, 1, 2, 3, 4, 5] rfl
                    have hDc := hD.sub (ws' := [(h0, .inr (2, [.int rd, .int op, .int dn, .ref qk, .ref qh, .ref qv, .ref qm, .ref qb, .int (nI u0.2.2.1), .long u0.2.2.2, .int l0, .int nn, .ref qr])), (qh, .inl (cA, 8, .inl u0.1)), (qv, .inl (cA, 16, .inl v0)), (qm, .inl (cA, 16, .inl m0)), (qb, .inl (cA, 64, .inl u0.2.1)), (qr, .inl (cA, 160, .inl kd_PL))]) [0, 1, 2, 3, 4, 5] (by decide) rfl
                    have hFc := va_free (wc := [(h0, .inr (2, [.int rd, .int op, .int dn, .ref qk, .ref qh, .ref qv, .ref qm, .ref qb, .int (nI u0.2.2.1), .long u0.2.2.2, .int l0, .int nn, .ref qr])), (qh, .inl (cA, 8, .inl u0.1)), (qv, .inl (cA, 16, .inl v0)), (qm, .inl (cA, 16, .inl m0)), (qb, .inl (cA, 64, .inl u0.2.1)), (qr, .inl (cA, 160, .inl kd_PL))]) hD hS hA [0, 1, 2, 3, 4, 5] rfl
                    refine va_callv (va_runV (As := [.int (kd_byte wa wb wc wd i)]) (rest := []) ⟨hx, hb, hml, hown, hts⟩ (cX2_take_ok l dC dI cA tb H.size h0 qk qh qv qm qb qr rd op dn u0.1 v0 m0 u0.2.1 u0.2.2.1 u0.2.2.2 l0 nn (kd_byte wa wb wc wd i) (by rw [hu]; exact kd_takes_le hk i)) (cwV 1 hts gX2_updates_X2_take rfl rfl rfl (by decide +kernel) ⟨Nat.le_of_ble_eq_true rfl, Nat.le_of_ble_eq_true rfl⟩) ⟨fun a U g mk q => kd_calling rfl rfl q, va_recv hK hPc (ci := 2) (q0 := 0) rfl rfl, fun U hU hW => ⟨rfl, kd_pre hPc hK hDc hT hS hFc U hU hW⟩⟩ rfl rfl hl.1 rfl (lv_room (Nat.le_of_ble_eq_true rfl)) dX2_updates_96 ⟨Nat.le_of_ble_eq_true rfl, Nat.le_of_ble_eq_true rfl⟩) hS (fun q _ h => hFc q h) hFc (fun u t H1 locs ht hvm hw hB hz1 hk1 hS => ?_)
                    obtain ⟨ho96, mo96, vo96, bo96, ko96, xo96⟩ := u
                    have hw96 : (ho96, bo96, ko96, xo96) = kd_take (kd_byte wa wb wc wd i) (u0.1, u0.2.1, u0.2.2.1, u0.2.2.2) := hw
                    have hP1 : va_P (dC, dI) vwCl [(h0, .inr (2, [.int rd, .int op, .int dn, .ref qk, .ref qh, .ref qv, .ref qm, .ref qb, .int (nI ko96), .long xo96, .int l0, .int nn, .ref qr])), (qh, .inl (cA, 8, .inl ho96)), (qv, .inl (cA, 16, .inl vo96)), (qm, .inl (cA, 16, .inl mo96)), (qb, .inl (cA, 64, .inl bo96)), (qr, .inl (cA, 160, .inl kd_PL))] H1 := by rw [← ht]; exact hB.1
                    have hD1 : va_D (va_A [(h0, .inr (2, [.int rd, .int op, .int dn, .ref qk, .ref qh, .ref qv, .ref qm, .ref qb, .int (nI u0.2.2.1), .long u0.2.2.2, .int l0, .int nn, .ref qr])), (qh, .inl (cA, 8, .inl u0.1)), (qv, .inl (cA, 16, .inl v0)), (qm, .inl (cA, 16, .inl m0)), (qb, .inl (cA, 64, .inl u0.2.1)), (qr, .inl (cA, 160, .inl kd_PL))] H.size) [(h0, .inr (2, [.int rd, .int op, .int dn, .ref qk, .ref qh, .ref qv, .ref qm, .ref qb, .int (nI ko96), .long xo96, .int l0, .int nn, .ref qr])), (qh, .inl (cA, 8, .inl ho96)), (qv, .inl (cA, 16, .inl vo96)), (qm, .inl (cA, 16, .inl mo96)), (qb, .inl (cA, 64, .inl bo96)), (qr, .inl (cA, 160, .inl kd_PL))] := hB.2.2
                    obtain ⟨hP, hD⟩ := va_join (wr := []) (w1 := [(h0, .inr (2, [.int rd, .int op, .int dn, .ref qk, .ref qh, .ref qv, .ref qm, .ref qb, .int (nI ko96), .long xo96, .int l0, .int nn, .ref qr])), (qh, .inl (cA, 8, .inl ho96)), (qv, .inl (cA, 16, .inl vo96)), (qm, .inl (cA, 16, .inl mo96)), (qb, .inl (cA, 64, .inl bo96)), (qr, .inl (cA, 160, .inl kd_PL))]) hP hD [0, 1, 2, 3, 4, 5] [] rfl rfl (by decide) (by decide) hk1 hFc hP1 hD1
                    clear hw hB hk1 hPc hDc hFc hP1 hD1 hvm hz1
                    generalize H1 = H at hP hS ⊢
                    have hP : va_P (dC, dI) vwCl [(h0, .inr (2, [.int rd, .int op, .int dn, .ref qk, .ref qh, .ref qv, .ref qm, .ref qb, .int (nI ko96), .long xo96, .int l0, .int nn, .ref qr])), (qh, .inl (cA, 8, .inl ho96)), (qv, .inl (cA, 16, .inl vo96)), (qm, .inl (cA, 16, .inl mo96)), (qb, .inl (cA, 64, .inl bo96)), (qr, .inl (cA, 160, .inl kd_PL))] H := hP
                    have hD : va_D A [(h0, .inr (2, [.int rd, .int op, .int dn, .ref qk, .ref qh, .ref qv, .ref qm, .ref qb, .int (nI ko96), .long xo96, .int l0, .int nn, .ref qr])), (qh, .inl (cA, 8, .inl ho96)), (qv, .inl (cA, 16, .inl vo96)), (qm, .inl (cA, 16, .inl mo96)), (qb, .inl (cA, 64, .inl bo96)), (qr, .inl (cA, 160, .inl kd_PL))] := hD
                    refine lv_aload_n hx hb dX2_updates_99 rfl (lv_at hl 3 rfl) ?_
                    refine lv_dup hx hb dX2_updates_100 rfl ?_
                    refine va_get (D := (dC, dI)) (ci := 2) (v := .int l0) (C := RX2) (T := TX2) (N := 13) hx hb hts ki2 hown hK hP 0 rfl rfl 10 (by decide) k2 (fun _ h9 => h9) rfl dX2_updates_101 ?_
                    refine lv_iconst (v := 1) hx hb dX2_updates_104 (by decide) ?_
                    refine lv_iadd hx hb dX2_updates_105 ?_
                    refine lv_topi (fun x106 ex106 => ?_)
                    refine va_put (D := (dC, dI)) (ci := 2) (v := .int x106) (ty := .int) (C := RX2) (T := TX2) (N := 13) hx hb hts ki2 tyX2 tyX2_ok nmX2 hown hK hP hD hS 0 rfl rfl 10 (by decide) k2 (fun _ h9 => h9) rfl (by decide +kernel) rfl rfl (Nat.le_of_ble_eq_true rfl) dX2_updates_106 (fun H locs hP hD hS => ?_)
                    have hP : va_P (dC, dI) vwCl [(h0, .inr (2, [.int rd, .int op, .int dn, .ref qk, .ref qh, .ref qv, .ref qm, .ref qb, .int (nI ko96), .long xo96, .int x106, .int nn, .ref qr])), (qh, .inl (cA, 8, .inl ho96)), (qv, .inl (cA, 16, .inl vo96)), (qm, .inl (cA, 16, .inl mo96)), (qb, .inl (cA, 64, .inl bo96)), (qr, .inl (cA, 160, .inl kd_PL))] H := hP
                    have hD : va_D A [(h0, .inr (2, [.int rd, .int op, .int dn, .ref qk, .ref qh, .ref qv, .ref qm, .ref qb, .int (nI ko96), .long xo96, .int x106, .int nn, .ref qr])), (qh, .inl (cA, 8, .inl ho96)), (qv, .inl (cA, 16, .inl vo96)), (qm, .inl (cA, 16, .inl mo96)), (qb, .inl (cA, 64, .inl bo96)), (qr, .inl (cA, 160, .inl kd_PL))] := hD
                    obtain ⟨x109, ex109⟩ : ∃ zz : Int32, zz = x + 1 := ⟨_, rfl⟩
                    refine lv_iinc (v := x109) (lv' := [(7, .int x109), (8, .int wb), (6, .int 1), (0, .ref h0), (1, .int wa), (2, .int wb), (3, .int wc), (4, .int wd), (5, .int (nI nj))]) hx hb dX2_updates_109 hl (k := 1) rfl (by rw [ex109]; rfl) (by decide) rfl (fun ls hl => ?_)
                    refine lv_goto (tgt := 30) hx hb dX2_updates_112 (by decide) ?_
                    exact ih  (i + 1) x109 (ho96, bo96, ko96, xo96) x106 vo96 mo96 (by omega) (by omega) (by rw [ex109, ex]; exact nI_1 i) (by rw [hw96]; show kd_take (kd_byte wa wb wc wd i) u0 = _; rw [hu]; rfl) (by rw [ex106, hl0]; exact kd_ln1 ln i) _ _ ls (hP.sub [0, 1, 2, 3, 4, 5] rfl) (hD.sub [0, 1, 2, 3, 4, 5] (by decide) rfl) hS (lv_sub hl [0, 2, 3, 4, 5, 6, 7, 8] rfl)
                · refine lv_iload_n hx hb dX2_updates_48 rfl (lv_at hl 3 rfl) ?_
                  refine lv_goto (tgt := 76) hx hb dX2_updates_49 (by decide) ?_
                  refine lv_istore (lv' := [(8, .int wa), (7, .int x), (6, .int 1), (0, .ref h0), (1, .int wa), (2, .int wb), (3, .int wc), (4, .int wd), (5, .int (nI nj))]) hx hb dX2_updates_76 hl (by decide) rfl (fun ls hl => ?_)
                  refine lv_aload_n hx hb dX2_updates_78 rfl (lv_at hl 3 rfl) ?_
                  refine lv_iload hx hb dX2_updates_79 (lv_at hl 0 rfl) ?_
                  refine lv_bipush (v := 24) hx hb dX2_updates_81 (by decide) ?_
                  refine lv_bipush (v := 8) hx hb dX2_updates_83 (by decide) ?_
                  refine lv_iload hx hb dX2_updates_85 (lv_at hl 1 rfl) ?_
                  refine lv_iconst (v := 4) hx hb dX2_updates_87 (by decide) ?_
                  refine lv_irem hx hb dX2_updates_88 (by decide) ?_
                  refine lv_imul hx hb dX2_updates_89 ?_
                  refine lv_isub hx hb dX2_updates_90 ?_
                  refine lv_ishr hx hb dX2_updates_91 ?_
                  refine lv_sipush (v := 255) hx hb dX2_updates_92 (by decide) ?_
                  refine lv_iand hx hb dX2_updates_95 ?_
                  refine lv_topi (fun x95 ex95 => ?_)
                  obtain rfl : x95 = kd_byte wa wb wc wd i := by rw [ex95, ex]; exact kd_by0 wa wb wc wd (kd_lt (n := 4) ex (by omega) (by decide) c45)
                  have hPc := hP.sub (ws' := [(h0, .inr (2, [.int rd, .int op, .int dn, .ref qk, .ref qh, .ref qv, .ref qm, .ref qb, .int (nI u0.2.2.1), .long u0.2.2.2, .int l0, .int nn, .ref qr])), (qh, .inl (cA, 8, .inl u0.1)), (qv, .inl (cA, 16, .inl v0)), (qm, .inl (cA, 16, .inl m0)), (qb, .inl (cA, 64, .inl u0.2.1)), (qr, .inl (cA, 160, .inl kd_PL))]) [0, 1, 2, 3, 4, 5] rfl
                  have hDc := hD.sub (ws' := [(h0, .inr (2, [.int rd, .int op, .int dn, .ref qk, .ref qh, .ref qv, .ref qm, .ref qb, .int (nI u0.2.2.1), .long u0.2.2.2, .int l0, .int nn, .ref qr])), (qh, .inl (cA, 8, .inl u0.1)), (qv, .inl (cA, 16, .inl v0)), (qm, .inl (cA, 16, .inl m0)), (qb, .inl (cA, 64, .inl u0.2.1)), (qr, .inl (cA, 160, .inl kd_PL))]) [0, 1, 2, 3, 4, 5] (by decide) rfl
                  have hFc := va_free (wc := [(h0, .inr (2, [.int rd, .int op, .int dn, .ref qk, .ref qh, .ref qv, .ref qm, .ref qb, .int (nI u0.2.2.1), .long u0.2.2.2, .int l0, .int nn, .ref qr])), (qh, .inl (cA, 8, .inl u0.1)), (qv, .inl (cA, 16, .inl v0)), (qm, .inl (cA, 16, .inl m0)), (qb, .inl (cA, 64, .inl u0.2.1)), (qr, .inl (cA, 160, .inl kd_PL))]) hD hS hA [0, 1, 2, 3, 4, 5] rfl
                  refine va_callv (va_runV (As := [.int (kd_byte wa wb wc wd i)]) (rest := []) ⟨hx, hb, hml, hown, hts⟩ (cX2_take_ok l dC dI cA tb H.size h0 qk qh qv qm qb qr rd op dn u0.1 v0 m0 u0.2.1 u0.2.2.1 u0.2.2.2 l0 nn (kd_byte wa wb wc wd i) (by rw [hu]; exact kd_takes_le hk i)) (cwV 1 hts gX2_updates_X2_take rfl rfl rfl (by decide +kernel) ⟨Nat.le_of_ble_eq_true rfl, Nat.le_of_ble_eq_true rfl⟩) ⟨fun a U g mk q => kd_calling rfl rfl q, va_recv hK hPc (ci := 2) (q0 := 0) rfl rfl, fun U hU hW => ⟨rfl, kd_pre hPc hK hDc hT hS hFc U hU hW⟩⟩ rfl rfl hl.1 rfl (lv_room (Nat.le_of_ble_eq_true rfl)) dX2_updates_96 ⟨Nat.le_of_ble_eq_true rfl, Nat.le_of_ble_eq_true rfl⟩) hS (fun q _ h => hFc q h) hFc (fun u t H1 locs ht hvm hw hB hz1 hk1 hS => ?_)
                  obtain ⟨ho96, mo96, vo96, bo96, ko96, xo96⟩ := u
                  have hw96 : (ho96, bo96, ko96, xo96) = kd_take (kd_byte wa wb wc wd i) (u0.1, u0.2.1, u0.2.2.1, u0.2.2.2) := hw
                  have hP1 : va_P (dC, dI) vwCl [(h0, .inr (2, [.int rd, .int op, .int dn, .ref qk, .ref qh, .ref qv, .ref qm, .ref qb, .int (nI ko96), .long xo96, .int l0, .int nn, .ref qr])), (qh, .inl (cA, 8, .inl ho96)), (qv, .inl (cA, 16, .inl vo96)), (qm, .inl (cA, 16, .inl mo96)), (qb, .inl (cA, 64, .inl bo96)), (qr, .inl (cA, 160, .inl kd_PL))] H1 := by rw [← ht]; exact hB.1
                  have hD1 : va_D (va_A [(h0, .inr (2, [.int rd, .int op, .int dn, .ref qk, .ref qh, .ref qv, .ref qm, .ref qb, .int (nI u0.2.2.1), .long u0.2.2.2, .int l0, .int nn, .ref qr])), (qh, .inl (cA, 8, .inl u0.1)), (qv, .inl (cA, 16, .inl v0)), (qm, .inl (cA, 16, .inl m0)), (qb, .inl (cA, 64, .inl u0.2.1)), (qr, .inl (cA, 160, .inl kd_PL))] H.size) [(h0, .inr (2, [.int rd, .int op, .int dn, .ref qk, .ref qh, .ref qv, .ref qm, .ref qb, .int (nI ko96), .long xo96, .int l0, .int nn, .ref qr])), (qh, .inl (cA, 8, .inl ho96)), (qv, .inl (cA, 16, .inl vo96)), (qm, .inl (cA, 16, .inl mo96)), (qb, .inl (cA, 64, .inl bo96)), (qr, .inl (cA, 160, .inl kd_PL))] := hB.2.2
                  obtain ⟨hP, hD⟩ := va_join (wr := []) (w1 := [(h0, .inr (2, [.int rd, .int op, .int dn, .ref qk, .ref qh, .ref qv, .ref qm, .ref qb, .int (nI ko96), .long xo96, .int l0, .int nn, .ref qr])), (qh, .inl (cA, 8, .inl ho96)), (qv, .inl (cA, 16, .inl vo96)), (qm, .inl (cA, 16, .inl mo96)), (qb, .inl (cA, 64, .inl bo96)), (qr, .inl (cA, 160, .inl kd_PL))]) hP hD [0, 1, 2, 3, 4, 5] [] rfl rfl (by decide) (by decide) hk1 hFc hP1 hD1
                  clear hw hB hk1 hPc hDc hFc hP1 hD1 hvm hz1
                  generalize H1 = H at hP hS ⊢
                  have hP : va_P (dC, dI) vwCl [(h0, .inr (2, [.int rd, .int op, .int dn, .ref qk, .ref qh, .ref qv, .ref qm, .ref qb, .int (nI ko96), .long xo96, .int l0, .int nn, .ref qr])), (qh, .inl (cA, 8, .inl ho96)), (qv, .inl (cA, 16, .inl vo96)), (qm, .inl (cA, 16, .inl mo96)), (qb, .inl (cA, 64, .inl bo96)), (qr, .inl (cA, 160, .inl kd_PL))] H := hP
                  have hD : va_D A [(h0, .inr (2, [.int rd, .int op, .int dn, .ref qk, .ref qh, .ref qv, .ref qm, .ref qb, .int (nI ko96), .long xo96, .int l0, .int nn, .ref qr])), (qh, .inl (cA, 8, .inl ho96)), (qv, .inl (cA, 16, .inl vo96)), (qm, .inl (cA, 16, .inl mo96)), (qb, .inl (cA, 64, .inl bo96)), (qr, .inl (cA, 160, .inl kd_PL))] := hD
                  refine lv_aload_n hx hb dX2_updates_99 rfl (lv_at hl 3 rfl) ?_
                  refine lv_dup hx hb dX2_updates_100 rfl ?_
                  refine va_get (D := (dC, dI)) (ci := 2) (v := .int l0) (C := RX2) (T := TX2) (N := 13) hx hb hts ki2 hown hK hP 0 rfl rfl 10 (by decide) k2 (fun _ h9 => h9) rfl dX2_updates_101 ?_
                  refine lv_iconst (v := 1) hx hb dX2_updates_104 (by decide) ?_
                  refine lv_iadd hx hb dX2_updates_105 ?_
                  refine lv_topi (fun x106 ex106 => ?_)
                  refine va_put (D := (dC, dI)) (ci := 2) (v := .int x106) (ty := .int) (C := RX2) (T := TX2) (N := 13) hx hb hts ki2 tyX2 tyX2_ok nmX2 hown hK hP hD hS 0 rfl rfl 10 (by decide) k2 (fun _ h9 => h9) rfl (by decide +kernel) rfl rfl (Nat.le_of_ble_eq_true rfl) dX2_updates_106 (fun H locs hP hD hS => ?_)
                  have hP : va_P (dC, dI) vwCl [(h0, .inr (2, [.int rd, .int op, .int dn, .ref qk, .ref qh, .ref qv, .ref qm, .ref qb, .int (nI ko96), .long xo96, .int x106, .int nn, .ref qr])), (qh, .inl (cA, 8, .inl ho96)), (qv, .inl (cA, 16, .inl vo96)), (qm, .inl (cA, 16, .inl mo96)), (qb, .inl (cA, 64, .inl bo96)), (qr, .inl (cA, 160, .inl kd_PL))] H := hP
                  have hD : va_D A [(h0, .inr (2, [.int rd, .int op, .int dn, .ref qk, .ref qh, .ref qv, .ref qm, .ref qb, .int (nI ko96), .long xo96, .int x106, .int nn, .ref qr])), (qh, .inl (cA, 8, .inl ho96)), (qv, .inl (cA, 16, .inl vo96)), (qm, .inl (cA, 16, .inl mo96)), (qb, .inl (cA, 64, .inl bo96)), (qr, .inl (cA, 160, .inl kd_PL))] := hD
                  obtain ⟨x109, ex109⟩ : ∃ zz : Int32, zz = x + 1 := ⟨_, rfl⟩
                  refine lv_iinc (v := x109) (lv' := [(7, .int x109), (8, .int wa), (6, .int 1), (0, .ref h0), (1, .int wa), (2, .int wb), (3, .int wc), (4, .int wd), (5, .int (nI nj))]) hx hb dX2_updates_109 hl (k := 1) rfl (by rw [ex109]; rfl) (by decide) rfl (fun ls hl => ?_)
                  refine lv_goto (tgt := 30) hx hb dX2_updates_112 (by decide) ?_
                  exact ih  (i + 1) x109 (ho96, bo96, ko96, xo96) x106 vo96 mo96 (by omega) (by omega) (by rw [ex109, ex]; exact nI_1 i) (by rw [hw96]; show kd_take (kd_byte wa wb wc wd i) u0 = _; rw [hu]; rfl) (by rw [ex106, hl0]; exact kd_ln1 ln i) _ _ ls (hP.sub [0, 1, 2, 3, 4, 5] rfl) (hD.sub [0, 1, 2, 3, 4, 5] (by decide) rfl) hS (lv_sub hl [0, 2, 3, 4, 5, 6, 7, 8] rfl)
        exact lp (nj + 1) 0 0 (hh, bl, kn, mx) ln vv mm (by omega) (by omega) rfl rfl (kd_ln0 ln) _ _ ls (hP.sub [0, 1, 2, 3, 4, 5] rfl) (hD.sub [0, 1, 2, 3, 4, 5] (by decide) rfl) hS (lv_sub hl [0, 1, 2, 3, 4, 5, 6, 7] rfl)
