set_option maxHeartbeats 4000000 in
set_option maxRecDepth 100000 in
theorem cX0_turnDown_ok (l : Launch) (dC : Nat → ClassId) (dI : Nat → Nat → Nat) (cA : ClassId) (tb : Nat → Nat) (sz : Nat) (w : Int32) (k : Int32) : Met l yX0_turnDown wsX0_turnDown ({ frames := 0, cells := 0, slots := 0, locals := 0 }) (va_Pc [.int w, .int k] (kd_I (dC, dI) cA tb sz [])) (va_Qi (fun (r : Int32) (u : Unit) => r = kd_rot w k) (fun u t => kd_O (dC, dI) cA (va_A [] sz) [] t) (va_A [] sz)) 0 0 (va_A [] sz) := by
  refine Met.ofW (cc := cX0_turnDown) (maxL := 2) (ret := (some .int)) (by decide) rfl ?_
  intro p e s m args below meth c s₁ B hml hv
  obtain ⟨rfl, hsz, hP, hK, hD0, hT⟩ := hv
  have hx := B.exec
  have hb := B.bytes
  have hr := B.returns
  have hts := atoms_spec (ws := wsX0_turnDown) B.pre
  have hown : s.vm.findClass RX0 = some m.cls := findClass_of_methodNamed B.named
  have hlocks := B.notSynchronized
  subst hsz
  have hD := hD0.self (sz := s.heap.size)
  generalize hAe : va_A [] s.heap.size = A at hD hT ⊢
  have hA : ∀ q : Nat, s.heap.size ≤ q → A q := fun q h => by rw [← hAe]; exact Or.inr h
  have hS : va_S A s.heap s.heap [] := va_S.rf
  have hP : va_P (dC, dI) vwCl [] s.heap := hP
  have hl := lv_entry ([.int w, .int k]) (n := 2) (Nat.le_of_ble_eq_true rfl)
  rw [lg_entry_eq]
  generalize (lg_sl ([.int w, .int k]) ++ List.replicate (2 - (lg_sl ([.int w, .int k])).length) Slot.unset).toArray = ls at hl ⊢
  have hl : lv_has ls 2 [(0, .int w), (1, .int k)] := hl
  refine lv_iload_n hx hb dX0_turnDown_0 rfl (lv_at hl 0 rfl) ?_
  refine lv_iload_n hx hb dX0_turnDown_1 rfl (lv_at hl 1 rfl) ?_
  refine lv_iushr (v := kd_ushr w k) hx hb dX0_turnDown_2 rfl ?_
  refine lv_iload_n hx hb dX0_turnDown_3 rfl (lv_at hl 0 rfl) ?_
  refine lv_bipush (v := 32) hx hb dX0_turnDown_4 (by decide) ?_
  refine lv_iload_n hx hb dX0_turnDown_6 rfl (lv_at hl 1 rfl) ?_
  refine lv_isub hx hb dX0_turnDown_7 ?_
  refine lv_ishl hx hb dX0_turnDown_8 ?_
  refine lv_ior hx hb dX0_turnDown_9 ?_
  have hP9 := hP.sub (ws' := []) [] rfl
  have hD9 := hD.sub (ws' := []) [] (by decide) rfl
  exact W.iret (v := (kd_ushr w k) ||| (w <<< ((32 - k) &&& 31))) hx hb hr (fun t ht hW => ⟨⟨(kd_ushr w k) ||| (w <<< ((32 - k) &&& 31)), (), rfl, rfl, by rw [ht]; exact hP9, va_K.moved hW.alike hK, hD9⟩, hS.F ht⟩) hS.2.2 dX0_turnDown_10

set_option maxHeartbeats 4000000 in
set_option maxRecDepth 100000 in
theorem cX0_emptyBlock_ok (l : Launch) (dC : Nat → ClassId) (dI : Nat → Nat → Nat) (cA : ClassId) (tb : Nat → Nat) (sz : Nat) (h0 : Nat) (qh : Nat) (qm : Nat) (qv : Nat) (mm : Nat → Int32) (bb : Int32) (ab : Int64) : Met l yX0_emptyBlock wsX0_emptyBlock ({ frames := 0, cells := 0, slots := 0, locals := 0 }) (va_Pc [.ref h0] (kd_I (dC, dI) cA tb sz [(h0, .inr (0, [.ref qh, .ref qm, .ref qv, .int bb, .long ab])), (qm, .inl (cA, 16, .inl mm))])) (va_Qv (fun (u : Unit) => True) (fun u t => kd_O (dC, dI) cA (va_A [(h0, .inr (0, [.ref qh, .ref qm, .ref qv, .int bb, .long ab])), (qm, .inl (cA, 16, .inl mm))] sz) [(h0, .inr (0, [.ref qh, .ref qm, .ref qv, .int (nI 0), .long ab])), (qm, .inl (cA, 16, .inl kd_0))] t) (va_A [(h0, .inr (0, [.ref qh, .ref qm, .ref qv, .int bb, .long ab])), (qm, .inl (cA, 16, .inl mm))] sz)) 0 0 (va_A [(h0, .inr (0, [.ref qh, .ref qm, .ref qv, .int bb, .long ab])), (qm, .inl (cA, 16, .inl mm))] sz) := by
  refine Met.ofW (cc := cX0_emptyBlock) (maxL := 2) (ret := none) (by decide) rfl ?_
  intro p e s m args below meth c s₁ B hml hv
  obtain ⟨rfl, hsz, hP, hK, hD0, hT⟩ := hv
  have hx := B.exec
  have hb := B.bytes
  have hr := B.returns
  have hts := atoms_spec (ws := wsX0_emptyBlock) B.pre
  have hown : s.vm.findClass RX0 = some m.cls := findClass_of_methodNamed B.named
  have hlocks := B.notSynchronized
  have ki0 : ∀ w ∈ u_ws RX0 TX0 5, w ∈ wsX0_emptyBlock := by decide +kernel
  have k1 := hts (.fieldLink RX0 19 "KeyedDigest$Chain" "blockBytes" "I") (by decide +kernel)
  have k2 := hts (.fieldLink RX0 13 "KeyedDigest$Chain" "m" "[I") (by decide +kernel)
  subst hsz
  have hD := hD0.self (sz := s.heap.size)
  generalize hAe : va_A [(h0, .inr (0, [.ref qh, .ref qm, .ref qv, .int bb, .long ab])), (qm, .inl (cA, 16, .inl mm))] s.heap.size = A at hD hT ⊢
  have hA : ∀ q : Nat, s.heap.size ≤ q → A q := fun q h => by rw [← hAe]; exact Or.inr h
  have hS : va_S A s.heap s.heap [] := va_S.rf
  have hP : va_P (dC, dI) vwCl [(h0, .inr (0, [.ref qh, .ref qm, .ref qv, .int bb, .long ab])), (qm, .inl (cA, 16, .inl mm))] s.heap := hP
  have hl := lv_entry ([.ref h0]) (n := 2) (Nat.le_of_ble_eq_true rfl)
  rw [lg_entry_eq]
  generalize (lg_sl ([.ref h0]) ++ List.replicate (2 - (lg_sl ([.ref h0])).length) Slot.unset).toArray = ls at hl ⊢
  have hl : lv_has ls 2 [(0, .ref h0)] := hl
  refine lv_iconst (v := 0) hx hb dX0_emptyBlock_0 (by decide) ?_
  refine lv_istore_n (lv' := [(1, .int 0), (0, .ref h0)]) hx hb dX0_emptyBlock_1 rfl hl (by decide) rfl (fun ls hl => ?_)
  have lp : ∀ (k : Nat) (i : Nat) (x : Int32) (f : Nat → Int32), (i ≤ 16) → (16 - i < k) → (x = nI i) → (∀ j, j < i → f j = 0) → ∀ (H : Heap) (locs : List Loc) (ls : Array Slot), va_P (dC, dI) vwCl [(h0, .inr (0, [.ref qh, .ref qm, .ref qv, .int bb, .long ab])), (qm, .inl (cA, 16, .inl f))] H → va_D A [(h0, .inr (0, [.ref qh, .ref qm, .ref qv, .int bb, .long ab])), (qm, .inl (cA, 16, .inl f))] → va_S A s.heap H locs → lv_has ls 2 [(1, .int x), (0, .ref h0)] → W p l e (headSpec wsX0_emptyBlock { frames := 0, cells := 0, slots := 0, locals := 0 }).room s m ([.ref h0]).toArray below meth c H locs 0 0 (MQ below (va_Qv (fun (u : Unit) => True) (fun u t => kd_O (dC, dI) cA A [(h0, .inr (0, [.ref qh, .ref qm, .ref qv, .int (nI 0), .long ab])), (qm, .inl (cA, 16, .inl kd_0))] t) A) ([.ref h0]).toArray s 0 0 A) (F0 m 2 ls []) := by
    intro k
    induction k with
    | zero =>
      intro i x f hi hk ex hf
      omega
    | succ k ih =>
      intro i x f hi hk ex hf H locs ls hP hD hS hl
      refine lv_iload_n hx hb dX0_emptyBlock_2 rfl (lv_at hl 0 rfl) ?_
      refine lv_bipush (v := 16) hx hb dX0_emptyBlock_3 (by decide) ?_
      refine lv_icmp_ge (tgt := 21) hx hb dX0_emptyBlock_5 (by decide) (fun c5 => ?_) (fun c5 => ?_)
      · have hge : 16 ≤ i := kd_ge (n := 16) ex (by omega) (by decide) c5
        have hP := kd_arrP hP hD 1 rfl kd_0 (fun j hj => hf j (by omega))
        have hD := hD.set (p := 1) (e := .inl (cA, 16, .inl kd_0)) rfl
        have hP : va_P (dC, dI) vwCl [(h0, .inr (0, [.ref qh, .ref qm, .ref qv, .int bb, .long ab])), (qm, .inl (cA, 16, .inl kd_0))] H := hP
        have hD : va_D A [(h0, .inr (0, [.ref qh, .ref qm, .ref qv, .int bb, .long ab])), (qm, .inl (cA, 16, .inl kd_0))] := hD
        refine lv_aload_n hx hb dX0_emptyBlock_21 rfl (lv_at hl 1 rfl) ?_
        refine lv_iconst (v := 0) hx hb dX0_emptyBlock_22 (by decide) ?_
        refine va_put (D := (dC, dI)) (ci := 0) (v := .int 0) (ty := .int) (C := RX0) (T := TX0) (N := 5) hx hb hts ki0 tyX0 tyX0_ok nmX0 hown hK hP hD hS 0 rfl rfl 3 (by decide) k1 (fun _ h9 => h9) rfl (by decide +kernel) rfl rfl (Nat.le_of_ble_eq_true rfl) dX0_emptyBlock_23 (fun H locs hP hD hS => ?_)
        have hP : va_P (dC, dI) vwCl [(h0, .inr (0, [.ref qh, .ref qm, .ref qv, .int 0, .long ab])), (qm, .inl (cA, 16, .inl kd_0))] H := hP
        have hD : va_D A [(h0, .inr (0, [.ref qh, .ref qm, .ref qv, .int 0, .long ab])), (qm, .inl (cA, 16, .inl kd_0))] := hD
        have hP9 := hP.sub (ws' := [(h0, .inr (0, [.ref qh, .ref qm, .ref qv, .int (nI 0), .long ab])), (qm, .inl (cA, 16, .inl kd_0))]) [0, 1] rfl
        have hD9 := hD.sub (ws' := [(h0, .inr (0, [.ref qh, .ref qm, .ref qv, .int (nI 0), .long ab])), (qm, .inl (cA, 16, .inl kd_0))]) [0, 1] (by decide) rfl
        exact W.vret hx hb hr (fun t ht hW => ⟨⟨(), rfl, trivial, by rw [ht]; exact hP9, va_K.moved hW.alike hK, hD9⟩, hS.F ht⟩) hS.2.2 dX0_emptyBlock_26
      · have hlt : i < 16 := kd_lt (n := 16) ex (by omega) (by decide) c5
        refine lv_aload_n hx hb dX0_emptyBlock_8 rfl (lv_at hl 1 rfl) ?_
        refine va_get (D := (dC, dI)) (ci := 0) (v := .ref qm) (C := RX0) (T := TX0) (N := 5) hx hb hts ki0 hown hK hP 0 rfl rfl 1 (by decide) k2 (fun _ h9 => h9) rfl dX0_emptyBlock_9 ?_
        refine lv_iload_n hx hb dX0_emptyBlock_12 rfl (lv_at hl 0 rfl) ?_
        refine lv_iconst (v := 0) hx hb dX0_emptyBlock_13 (by decide) ?_
        refine kd_ist i hx hb hK hP hD hS 1 0 rfl rfl ex hlt (by decide) dX0_emptyBlock_14 (fun f14 ef14 H locs hP hD hS => ?_)
        have hP : va_P (dC, dI) vwCl [(h0, .inr (0, [.ref qh, .ref qm, .ref qv, .int bb, .long ab])), (qm, .inl (cA, 16, .inl f14))] H := hP
        have hD : va_D A [(h0, .inr (0, [.ref qh, .ref qm, .ref qv, .int bb, .long ab])), (qm, .inl (cA, 16, .inl f14))] := hD
        obtain ⟨x15, ex15⟩ : ∃ zz : Int32, zz = x + 1 := ⟨_, rfl⟩
        refine lv_iinc (v := x15) (lv' := [(1, .int x15), (0, .ref h0)]) hx hb dX0_emptyBlock_15 hl (k := 0) rfl (by rw [ex15]; rfl) (by decide) rfl (fun ls hl => ?_)
        refine lv_goto (tgt := 2) hx hb dX0_emptyBlock_18 (by decide) ?_
        exact ih  (i + 1) x15 f14 (by omega) (by omega) (by rw [ex15, ex]; exact nI_1 i) (fun j hj => by rw [ef14]; unfold upd; split; rfl; exact hf j (by omega)) _ _ ls (hP.sub [0, 1] rfl) (hD.sub [0, 1] (by decide) rfl) hS (lv_sub hl [0, 1] rfl)
  exact lp 17 0 0 mm (by omega) (by omega) rfl (fun j hj => absurd hj (Nat.not_lt_zero j)) _ _ ls (hP.sub [0, 1] rfl) (hD.sub [0, 1] (by decide) rfl) hS (lv_sub hl [0, 1] rfl)

set_option maxHeartbeats 4000000 in
set_option maxRecDepth 100000 in
theorem cX0_begin_ok (l : Launch) (dC : Nat → ClassId) (dI : Nat → Nat → Nat) (cA : ClassId) (tb : Nat → Nat) (sz : Nat) (h0 : Nat) (qh : Nat) (qm : Nat) (qv : Nat) (hh : Nat → Int32) (mm : Nat → Int32) (bb : Int32) (ab : Int64) (nn : Int32) (kk : Int32) : Met l yX0_begin wsX0_begin ({ frames := 1, cells := 0, slots := 0, locals := 21 }) (va_Pc [.ref h0, .int nn, .int kk] (kd_I (dC, dI) cA tb sz [(h0, .inr (0, [.ref qh, .ref qm, .ref qv, .int bb, .long ab])), (qh, .inl (cA, 8, .inl hh)), (qm, .inl (cA, 16, .inl mm))])) (va_Qv (fun (u : Unit) => True) (fun u t => kd_O (dC, dI) cA (va_A [(h0, .inr (0, [.ref qh, .ref qm, .ref qv, .int bb, .long ab])), (qh, .inl (cA, 8, .inl hh)), (qm, .inl (cA, 16, .inl mm))] sz) [(h0, .inr (0, [.ref qh, .ref qm, .ref qv, .int (nI 0), .long 0])), (qh, .inl (cA, 8, .inl (kd_h0 nn kk))), (qm, .inl (cA, 16, .inl kd_0))] t) (va_A [(h0, .inr (0, [.ref qh, .ref qm, .ref qv, .int bb, .long ab])), (qh, .inl (cA, 8, .inl hh)), (qm, .inl (cA, 16, .inl mm))] sz)) 0 0 (va_A [(h0, .inr (0, [.ref qh, .ref qm, .ref qv, .int bb, .long ab])), (qh, .inl (cA, 8, .inl hh)), (qm, .inl (cA, 16, .inl mm))] sz) := by
  refine Met.ofW (cc := cX0_begin) (maxL := 4) (ret := none) (by decide) rfl ?_
  intro p e s m args below meth c s₁ B hml hv
  obtain ⟨rfl, hsz, hP, hK, hD0, hT⟩ := hv
  have hx := B.exec
  have hb := B.bytes
  have hr := B.returns
  have hts := atoms_spec (ws := wsX0_begin) B.pre
  have hown : s.vm.findClass RX0 = some m.cls := findClass_of_methodNamed B.named
  have hlocks := B.notSynchronized
  have ki0 : ∀ w ∈ u_ws RX0 TX0 5, w ∈ wsX0_begin := by decide +kernel
  have k1 := hts (.fieldLink RX0 9 "KeyedDigest$Chain" "h" "[I") (by decide +kernel)
  have k2 := hts (.constant RX0 30 16842752) (by decide +kernel)
  have k3 := hts (.fieldLink RX0 23 "KeyedDigest$Chain" "allBytes" "J") (by decide +kernel)
  have k4 := hts (.fieldLink RX0 27 "KeyedDigest$Chain" "IV" "[I") (by decide +kernel)
  subst hsz
  have hD := hD0.self (sz := s.heap.size)
  generalize hAe : va_A [(h0, .inr (0, [.ref qh, .ref qm, .ref qv, .int bb, .long ab])), (qh, .inl (cA, 8, .inl hh)), (qm, .inl (cA, 16, .inl mm))] s.heap.size = A at hD hT ⊢
  have hA : ∀ q : Nat, s.heap.size ≤ q → A q := fun q h => by rw [← hAe]; exact Or.inr h
  have hS : va_S A s.heap s.heap [] := va_S.rf
  have hP : va_P (dC, dI) vwCl [(h0, .inr (0, [.ref qh, .ref qm, .ref qv, .int bb, .long ab])), (qh, .inl (cA, 8, .inl hh)), (qm, .inl (cA, 16, .inl mm))] s.heap := hP
  have hl := lv_entry ([.ref h0, .int nn, .int kk]) (n := 4) (Nat.le_of_ble_eq_true rfl)
  rw [lg_entry_eq]
  generalize (lg_sl ([.ref h0, .int nn, .int kk]) ++ List.replicate (4 - (lg_sl ([.ref h0, .int nn, .int kk])).length) Slot.unset).toArray = ls at hl ⊢
  have hl : lv_has ls 4 [(0, .ref h0), (1, .int nn), (2, .int kk)] := hl
  refine lv_iconst (v := 0) hx hb dX0_begin_0 (by decide) ?_
  refine lv_istore_n (lv' := [(3, .int 0), (0, .ref h0), (1, .int nn), (2, .int kk)]) hx hb dX0_begin_1 rfl hl (by decide) rfl (fun ls hl => ?_)
  have lp : ∀ (k : Nat) (i : Nat) (x : Int32) (f : Nat → Int32), (i ≤ 8) → (8 - i < k) → (x = nI i) → (∀ j, j < i → f j = kd_iv j) → ∀ (H : Heap) (locs : List Loc) (ls : Array Slot), va_P (dC, dI) vwCl [(h0, .inr (0, [.ref qh, .ref qm, .ref qv, .int bb, .long ab])), (qh, .inl (cA, 8, .inl f)), (qm, .inl (cA, 16, .inl mm))] H → va_D A [(h0, .inr (0, [.ref qh, .ref qm, .ref qv, .int bb, .long ab])), (qh, .inl (cA, 8, .inl f)), (qm, .inl (cA, 16, .inl mm))] → va_S A s.heap H locs → lv_has ls 4 [(3, .int x), (0, .ref h0), (1, .int nn), (2, .int kk)] → W p l e (headSpec wsX0_begin { frames := 1, cells := 0, slots := 0, locals := 21 }).room s m ([.ref h0, .int nn, .int kk]).toArray below meth c H locs 0 0 (MQ below (va_Qv (fun (u : Unit) => True) (fun u t => kd_O (dC, dI) cA A [(h0, .inr (0, [.ref qh, .ref qm, .ref qv, .int (nI 0), .long 0])), (qh, .inl (cA, 8, .inl (kd_h0 nn kk))), (qm, .inl (cA, 16, .inl kd_0))] t) A) ([.ref h0, .int nn, .int kk]).toArray s 0 0 A) (F0 m 2 ls []) := by
    intro k
    induction k with
    | zero =>
      intro i x f hi hk ex hf
      omega
    | succ k ih =>
      intro i x f hi hk ex hf H locs ls hP hD hS hl
      refine lv_iload_n hx hb dX0_begin_2 rfl (lv_at hl 0 rfl) ?_
      refine lv_bipush (v := 8) hx hb dX0_begin_3 (by decide) ?_
      refine lv_icmp_ge (tgt := 25) hx hb dX0_begin_5 (by decide) (fun c5 => ?_) (fun c5 => ?_)
      · have hge : 8 ≤ i := kd_ge (n := 8) ex (by omega) (by decide) c5
        have hP := kd_arrP hP hD 1 rfl kd_iv (fun j hj => hf j (by omega))
        have hD := hD.set (p := 1) (e := .inl (cA, 8, .inl kd_iv)) rfl
        have hP : va_P (dC, dI) vwCl [(h0, .inr (0, [.ref qh, .ref qm, .ref qv, .int bb, .long ab])), (qh, .inl (cA, 8, .inl kd_iv)), (qm, .inl (cA, 16, .inl mm))] H := hP
        have hD : va_D A [(h0, .inr (0, [.ref qh, .ref qm, .ref qv, .int bb, .long ab])), (qh, .inl (cA, 8, .inl kd_iv)), (qm, .inl (cA, 16, .inl mm))] := hD
        refine lv_aload_n hx hb dX0_begin_25 rfl (lv_at hl 1 rfl) ?_
        refine va_get (D := (dC, dI)) (ci := 0) (v := .ref qh) (C := RX0) (T := TX0) (N := 5) hx hb hts ki0 hown hK hP 0 rfl rfl 0 (by decide) k1 (fun _ h9 => h9) rfl dX0_begin_26 ?_
        refine lv_iconst (v := 0) hx hb dX0_begin_29 (by decide) ?_
        refine lv_dup2_11 hx hb dX0_begin_30 rfl rfl ?_
        refine kd_ild 0 hx hb hK hP 1 0 rfl rfl rfl (by decide) (by decide) dX0_begin_31 ?_
        refine lv_ldc (v := 16842752) hx hb hown k2 dX0_begin_32 ?_
        refine lv_sipush (v := 256) hx hb dX0_begin_34 (by decide) ?_
        refine lv_iload_n hx hb dX0_begin_37 rfl (lv_at hl 3 rfl) ?_
        refine lv_imul hx hb dX0_begin_38 ?_
        refine lv_iadd hx hb dX0_begin_39 ?_
        refine lv_iload_n hx hb dX0_begin_40 rfl (lv_at hl 2 rfl) ?_
        refine lv_iadd hx hb dX0_begin_41 ?_
        refine lv_ixor hx hb dX0_begin_42 ?_
        refine lv_topi (fun x43 ex43 => ?_)
        refine kd_ist 0 hx hb hK hP hD hS 1 0 rfl rfl rfl (by decide) (by decide) dX0_begin_43 (fun f43 ef43 H locs hP hD hS => ?_)
        have hP : va_P (dC, dI) vwCl [(h0, .inr (0, [.ref qh, .ref qm, .ref qv, .int bb, .long ab])), (qh, .inl (cA, 8, .inl f43)), (qm, .inl (cA, 16, .inl mm))] H := hP
        have hD : va_D A [(h0, .inr (0, [.ref qh, .ref qm, .ref qv, .int bb, .long ab])), (qh, .inl (cA, 8, .inl f43)), (qm, .inl (cA, 16, .inl mm))] := hD
        obtain rfl : f43 = kd_h0 nn kk := by rw [ef43, ex43]; rfl
        have hP : va_P (dC, dI) vwCl [(h0, .inr (0, [.ref qh, .ref qm, .ref qv, .int bb, .long ab])), (qh, .inl (cA, 8, .inl (kd_h0 nn kk))), (qm, .inl (cA, 16, .inl mm))] H := hP
        have hD : va_D A [(h0, .inr (0, [.ref qh, .ref qm, .ref qv, .int bb, .long ab])), (qh, .inl (cA, 8, .inl (kd_h0 nn kk))), (qm, .inl (cA, 16, .inl mm))] := hD
        refine lv_aload_n hx hb dX0_begin_44 rfl (lv_at hl 1 rfl) ?_
        refine lv_lconst (v := 0) hx hb dX0_begin_45 (by decide) ?_
        refine va_put (D := (dC, dI)) (ci := 0) (v := .long 0) (ty := .long) (C := RX0) (T := TX0) (N := 5) hx hb hts ki0 tyX0 tyX0_ok nmX0 hown hK hP hD hS 0 rfl rfl 4 (by decide) k3 (fun _ h9 => h9) rfl (by decide +kernel) rfl rfl (Nat.le_of_ble_eq_true rfl) dX0_begin_46 (fun H locs hP hD hS => ?_)
        have hP : va_P (dC, dI) vwCl [(h0, .inr (0, [.ref qh, .ref qm, .ref qv, .int bb, .long 0])), (qh, .inl (cA, 8, .inl (kd_h0 nn kk))), (qm, .inl (cA, 16, .inl mm))] H := hP
        have hD : va_D A [(h0, .inr (0, [.ref qh, .ref qm, .ref qv, .int bb, .long 0])), (qh, .inl (cA, 8, .inl (kd_h0 nn kk))), (qm, .inl (cA, 16, .inl mm))] := hD
        refine lv_aload_n hx hb dX0_begin_49 rfl (lv_at hl 1 rfl) ?_
        have hPc := hP.sub (ws' := [(h0, .inr (0, [.ref qh, .ref qm, .ref qv, .int bb, .long 0])), (qm, .inl (cA, 16, .inl mm))]) [0, 2] rfl
        have hDc := hD.sub (ws' := [(h0, .inr (0, [.ref qh, .ref qm, .ref qv, .int bb, .long 0])), (qm, .inl (cA, 16, .inl mm))]) [0, 2] (by decide) rfl
        have hFc := va_free (wc := [(h0, .inr (0, [.ref qh, .ref qm, .ref qv, .int bb, .long 0])), (qm, .inl (cA, 16, .inl mm))]) hD hS hA [0, 2] rfl
        refine va_callv (va_runV (As := []) (rest := []) ⟨hx, hb, hml, hown, hts⟩ (cX0_emptyBlock_ok l dC dI cA tb H.size h0 qh qm qv mm bb 0 ) (cwV 0 hts gX0_begin_X0_emptyBlock rfl rfl rfl (by decide +kernel) ⟨Nat.le_of_ble_eq_true rfl, Nat.le_of_ble_eq_true rfl⟩) ⟨fun a U g mk q => kd_calling rfl rfl q, va_recv hK hPc (ci := 0) (q0 := 0) rfl rfl, fun U hU hW => ⟨rfl, kd_pre hPc hK hDc hT hS hFc U hU hW⟩⟩ rfl rfl hl.1 rfl (lv_room (Nat.le_of_ble_eq_true rfl)) dX0_begin_50 ⟨Nat.le_of_ble_eq_true rfl, Nat.le_of_ble_eq_true rfl⟩) hS (fun q _ h => hFc q h) hFc (fun u t H1 locs ht hvm hw hB hz1 hk1 hS => ?_)
        have hw50 : True := hw
        have hP1 : va_P (dC, dI) vwCl [(h0, .inr (0, [.ref qh, .ref qm, .ref qv, .int (nI 0), .long 0])), (qm, .inl (cA, 16, .inl kd_0))] H1 := by rw [← ht]; exact hB.1
        have hD1 : va_D (va_A [(h0, .inr (0, [.ref qh, .ref qm, .ref qv, .int bb, .long 0])), (qm, .inl (cA, 16, .inl mm))] H.size) [(h0, .inr (0, [.ref qh, .ref qm, .ref qv, .int (nI 0), .long 0])), (qm, .inl (cA, 16, .inl kd_0))] := hB.2.2
        obtain ⟨hP, hD⟩ := va_join (wr := [(qh, .inl (cA, 8, .inl (kd_h0 nn kk)))]) (w1 := [(h0, .inr (0, [.ref qh, .ref qm, .ref qv, .int (nI 0), .long 0])), (qm, .inl (cA, 16, .inl kd_0))]) hP hD [0, 2] [1] rfl rfl (by decide) (by decide) hk1 hFc hP1 hD1
        clear hw hB hk1 hPc hDc hFc hP1 hD1 hvm hz1
        generalize H1 = H at hP hS ⊢
        have hP : va_P (dC, dI) vwCl [(qh, .inl (cA, 8, .inl (kd_h0 nn kk))), (h0, .inr (0, [.ref qh, .ref qm, .ref qv, .int (nI 0), .long 0])), (qm, .inl (cA, 16, .inl kd_0))] H := hP
        have hD : va_D A [(qh, .inl (cA, 8, .inl (kd_h0 nn kk))), (h0, .inr (0, [.ref qh, .ref qm, .ref qv, .int (nI 0), .long 0])), (qm, .inl (cA, 16, .inl kd_0))] := hD
        have hP9 := hP.sub (ws' := [(h0, .inr (0, [.ref qh, .ref qm, .ref qv, .int (nI 0), .long 0])), (qh, .inl (cA, 8, .inl (kd_h0 nn kk))), (qm, .inl (cA, 16, .inl kd_0))]) [1, 0, 2] rfl
        have hD9 := hD.sub (ws' := [(h0, .inr (0, [.ref qh, .ref qm, .ref qv, .int (nI 0), .long 0])), (qh, .inl (cA, 8, .inl (kd_h0 nn kk))), (qm, .inl (cA, 16, .inl kd_0))]) [1, 0, 2] (by decide) rfl
        exact W.vret hx hb hr (fun t ht hW => ⟨⟨(), rfl, trivial, by rw [ht]; exact hP9, va_K.moved hW.alike hK, hD9⟩, hS.F ht⟩) hS.2.2 dX0_begin_53
      · have hlt : i < 8 := kd_lt (n := 8) ex (by omega) (by decide) c5
        refine lv_aload_n hx hb dX0_begin_8 rfl (lv_at hl 1 rfl) ?_
        refine va_get (D := (dC, dI)) (ci := 0) (v := .ref qh) (C := RX0) (T := TX0) (N := 5) hx hb hts ki0 hown hK hP 0 rfl rfl 0 (by decide) k1 (fun _ h9 => h9) rfl dX0_begin_9 ?_
        refine lv_iload_n hx hb dX0_begin_12 rfl (lv_at hl 0 rfl) ?_
        refine va_gets hx hb hT.1 hS hown k4 (fun _ h9 => h9) dX0_begin_13 ?_
        refine lv_iload_n hx hb dX0_begin_16 rfl (lv_at hl 0 rfl) ?_
        refine kd_ti i hx hb hT.2.1 hS ex hlt (by decide) dX0_begin_17 ?_
        refine lv_topi (fun x18 ex18 => ?_)
        refine kd_ist i hx hb hK hP hD hS 1 0 rfl rfl ex hlt (by decide) dX0_begin_18 (fun f18 ef18 H locs hP hD hS => ?_)
        have hP : va_P (dC, dI) vwCl [(h0, .inr (0, [.ref qh, .ref qm, .ref qv, .int bb, .long ab])), (qh, .inl (cA, 8, .inl f18)), (qm, .inl (cA, 16, .inl mm))] H := hP
        have hD : va_D A [(h0, .inr (0, [.ref qh, .ref qm, .ref qv, .int bb, .long ab])), (qh, .inl (cA, 8, .inl f18)), (qm, .inl (cA, 16, .inl mm))] := hD
        obtain ⟨x19, ex19⟩ : ∃ zz : Int32, zz = x + 1 := ⟨_, rfl⟩
        refine lv_iinc (v := x19) (lv' := [(3, .int x19), (0, .ref h0), (1, .int nn), (2, .int kk)]) hx hb dX0_begin_19 hl (k := 0) rfl (by rw [ex19]; rfl) (by decide) rfl (fun ls hl => ?_)
        refine lv_goto (tgt := 2) hx hb dX0_begin_22 (by decide) ?_
        exact ih  (i + 1) x19 f18 (by omega) (by omega) (by rw [ex19, ex]; exact nI_1 i) (fun j hj => by rw [ef18]; unfold upd; split; (subst j; exact ex18); exact hf j (by omega)) _ _ ls (hP.sub [0, 1, 2] rfl) (hD.sub [0, 1, 2] (by decide) rfl) hS (lv_sub hl [0, 1, 2, 3] rfl)
  exact lp 9 0 0 hh (by omega) (by omega) rfl (fun j hj => absurd hj (Nat.not_lt_zero j)) _ _ ls (hP.sub [0, 1, 2] rfl) (hD.sub [0, 1, 2] (by decide) rfl) hS (lv_sub hl [0, 1, 2, 3] rfl)

set_option maxHeartbeats 4000000 in
set_option maxRecDepth 100000 in
theorem cX0_mixFour_ok (l : Launch) (dC : Nat → ClassId) (dI : Nat → Nat → Nat) (cA : ClassId) (tb : Nat → Nat) (sz : Nat) (h0 : Nat) (qh : Nat) (qm : Nat) (qv : Nat) (mm : Nat → Int32) (vv : Nat → Int32) (bb : Int32) (ab : Int64) (na : Nat) (nb : Nat) (nc : Nat) (nd : Nat) (nx : Nat) (ny : Nat) (hna : na < 16) (hnb : nb < 16) (hnc : nc < 16) (hnd : nd < 16) (hnx : nx < 16) (hny : ny < 16) : Met l yX0_mixFour wsX0_mixFour ({ frames := 1, cells := 0, slots := 0, locals := 21 }) (va_Pc [.ref h0, .int (nI na), .int (nI nb), .int (nI nc), .int (nI nd), .int (nI nx), .int (nI ny)] (kd_I (dC, dI) cA tb sz [(h0, .inr (0, [.ref qh, .ref qm, .ref qv, .int bb, .long ab])), (qm, .inl (cA, 16, .inl mm)), (qv, .inl (cA, 16, .inl vv))])) (va_Qv (fun (u : (Nat → Int32)) => u = kd_G na nb nc nd (mm nx) (mm ny) vv) (fun u t => kd_O (dC, dI) cA (va_A [(h0, .inr (0, [.ref qh, .ref qm, .ref qv, .int bb, .long ab])), (qm, .inl (cA, 16, .inl mm)), (qv, .inl (cA, 16, .inl vv))] sz) [(h0, .inr (0, [.ref qh, .ref qm, .ref qv, .int bb, .long ab])), (qm, .inl (cA, 16, .inl mm)), (qv, .inl (cA, 16, .inl u))] t) (va_A [(h0, .inr (0, [.ref qh, .ref qm, .ref qv, .int bb, .long ab])), (qm, .inl (cA, 16, .inl mm)), (qv, .inl (cA, 16, .inl vv))] sz)) 0 0 (va_A [(h0, .inr (0, [.ref qh, .ref qm, .ref qv, .int bb, .long ab])), (qm, .inl (cA, 16, .inl mm)), (qv, .inl (cA, 16, .inl vv))] sz) := by
  refine Met.ofW (cc := cX0_mixFour) (maxL := 7) (ret := none) (by decide) rfl ?_
  intro p e s m args below meth c s₁ B hml hv
  obtain ⟨rfl, hsz, hP, hK, hD0, hT⟩ := hv
  have hx := B.exec
  have hb := B.bytes
  have hr := B.returns
  have hts := atoms_spec (ws := wsX0_mixFour) B.pre
  have hown : s.vm.findClass RX0 = some m.cls := findClass_of_methodNamed B.named
  have hlocks := B.notSynchronized
  have ki0 : ∀ w ∈ u_ws RX0 TX0 5, w ∈ wsX0_mixFour := by decide +kernel
  have k1 := hts (.fieldLink RX0 16 "KeyedDigest$Chain" "v" "[I") (by decide +kernel)
  have k2 := hts (.fieldLink RX0 13 "KeyedDigest$Chain" "m" "[I") (by decide +kernel)
  subst hsz
  have hD := hD0.self (sz := s.heap.size)
  generalize hAe : va_A [(h0, .inr (0, [.ref qh, .ref qm, .ref qv, .int bb, .long ab])), (qm, .inl (cA, 16, .inl mm)), (qv, .inl (cA, 16, .inl vv))] s.heap.size = A at hD hT ⊢
  have hA : ∀ q : Nat, s.heap.size ≤ q → A q := fun q h => by rw [← hAe]; exact Or.inr h
  have hS : va_S A s.heap s.heap [] := va_S.rf
  have hP : va_P (dC, dI) vwCl [(h0, .inr (0, [.ref qh, .ref qm, .ref qv, .int bb, .long ab])), (qm, .inl (cA, 16, .inl mm)), (qv, .inl (cA, 16, .inl vv))] s.heap := hP
  have hl := lv_entry ([.ref h0, .int (nI na), .int (nI nb), .int (nI nc), .int (nI nd), .int (nI nx), .int (nI ny)]) (n := 7) (Nat.le_of_ble_eq_true rfl)
  rw [lg_entry_eq]
  generalize (lg_sl ([.ref h0, .int (nI na), .int (nI nb), .int (nI nc), .int (nI nd), .int (nI nx), .int (nI ny)]) ++ List.replicate (7 - (lg_sl ([.ref h0, .int (nI na), .int (nI nb), .int (nI nc), .int (nI nd), .int (nI nx), .int (nI ny)])).length) Slot.unset).toArray = ls at hl ⊢
  have hl : lv_has ls 7 [(0, .ref h0), (1, .int (nI na)), (2, .int (nI nb)), (3, .int (nI nc)), (4, .int (nI nd)), (5, .int (nI nx)), (6, .int (nI ny))] := hl
  refine lv_aload_n hx hb dX0_mixFour_0 rfl (lv_at hl 0 rfl) ?_
  refine va_get (D := (dC, dI)) (ci := 0) (v := .ref qv) (C := RX0) (T := TX0) (N := 5) hx hb hts ki0 hown hK hP 0 rfl rfl 2 (by decide) k1 (fun _ h9 => h9) rfl dX0_mixFour_1 ?_
  refine lv_iload_n hx hb dX0_mixFour_4 rfl (lv_at hl 1 rfl) ?_
  refine lv_aload_n hx hb dX0_mixFour_5 rfl (lv_at hl 0 rfl) ?_
  refine va_get (D := (dC, dI)) (ci := 0) (v := .ref qv) (C := RX0) (T := TX0) (N := 5) hx hb hts ki0 hown hK hP 0 rfl rfl 2 (by decide) k1 (fun _ h9 => h9) rfl dX0_mixFour_6 ?_
  refine lv_iload_n hx hb dX0_mixFour_9 rfl (lv_at hl 1 rfl) ?_
  refine kd_ild na hx hb hK hP 2 0 rfl rfl rfl (by omega) (by decide) dX0_mixFour_10 ?_
  refine lv_aload_n hx hb dX0_mixFour_11 rfl (lv_at hl 0 rfl) ?_
  refine va_get (D := (dC, dI)) (ci := 0) (v := .ref qv) (C := RX0) (T := TX0) (N := 5) hx hb hts ki0 hown hK hP 0 rfl rfl 2 (by decide) k1 (fun _ h9 => h9) rfl dX0_mixFour_12 ?_
  refine lv_iload_n hx hb dX0_mixFour_15 rfl (lv_at hl 2 rfl) ?_
  refine kd_ild nb hx hb hK hP 2 0 rfl rfl rfl (by omega) (by decide) dX0_mixFour_16 ?_
  refine lv_iadd hx hb dX0_mixFour_17 ?_
  refine lv_aload_n hx hb dX0_mixFour_18 rfl (lv_at hl 0 rfl) ?_
  refine va_get (D := (dC, dI)) (ci := 0) (v := .ref qm) (C := RX0) (T := TX0) (N := 5) hx hb hts ki0 hown hK hP 0 rfl rfl 1 (by decide) k2 (fun _ h9 => h9) rfl dX0_mixFour_19 ?_
  refine lv_iload hx hb dX0_mixFour_22 (lv_at hl 5 rfl) ?_
  refine kd_ild nx hx hb hK hP 1 0 rfl rfl rfl (by omega) (by decide) dX0_mixFour_24 ?_
  refine lv_iadd hx hb dX0_mixFour_25 ?_
  refine lv_topi (fun x26 ex26 => ?_)
  refine kd_ist na hx hb hK hP hD hS 2 0 rfl rfl rfl (by omega) (by decide) dX0_mixFour_26 (fun f26 ef26 H locs hP hD hS => ?_)
  have hP : va_P (dC, dI) vwCl [(h0, .inr (0, [.ref qh, .ref qm, .ref qv, .int bb, .long ab])), (qm, .inl (cA, 16, .inl mm)), (qv, .inl (cA, 16, .inl f26))] H := hP
  have hD : va_D A [(h0, .inr (0, [.ref qh, .ref qm, .ref qv, .int bb, .long ab])), (qm, .inl (cA, 16, .inl mm)), (qv, .inl (cA, 16, .inl f26))] := hD
  refine lv_aload_n hx hb dX0_mixFour_27 rfl (lv_at hl 0 rfl) ?_
  refine va_get (D := (dC, dI)) (ci := 0) (v := .ref qv) (C := RX0) (T := TX0) (N := 5) hx hb hts ki0 hown hK hP 0 rfl rfl 2 (by decide) k1 (fun _ h9 => h9) rfl dX0_mixFour_28 ?_
  refine lv_iload hx hb dX0_mixFour_31 (lv_at hl 4 rfl) ?_
  refine lv_aload_n hx hb dX0_mixFour_33 rfl (lv_at hl 0 rfl) ?_
  refine va_get (D := (dC, dI)) (ci := 0) (v := .ref qv) (C := RX0) (T := TX0) (N := 5) hx hb hts ki0 hown hK hP 0 rfl rfl 2 (by decide) k1 (fun _ h9 => h9) rfl dX0_mixFour_34 ?_
  refine lv_iload hx hb dX0_mixFour_37 (lv_at hl 4 rfl) ?_
  refine kd_ild nd hx hb hK hP 2 0 rfl rfl rfl (by omega) (by decide) dX0_mixFour_39 ?_
  refine lv_aload_n hx hb dX0_mixFour_40 rfl (lv_at hl 0 rfl) ?_
  refine va_get (D := (dC, dI)) (ci := 0) (v := .ref qv) (C := RX0) (T := TX0) (N := 5) hx hb hts ki0 hown hK hP 0 rfl rfl 2 (by decide) k1 (fun _ h9 => h9) rfl dX0_mixFour_41 ?_
  refine lv_iload_n hx hb dX0_mixFour_44 rfl (lv_at hl 1 rfl) ?_
  refine kd_ild na hx hb hK hP 2 0 rfl rfl rfl (by omega) (by decide) dX0_mixFour_45 ?_
  refine lv_ixor hx hb dX0_mixFour_46 ?_
  refine lv_bipush (v := 16) hx hb dX0_mixFour_47 (by decide) ?_
  have hPc := hP.sub (ws' := []) [] rfl
  have hDc := hD.sub (ws' := []) [] (by decide) rfl
  have hFc := va_free (wc := []) hD hS hA [] rfl
  refine va_calli (va_runS (As := [.int ((f26 nd) ^^^ (f26 na)), .int 16]) (rest := [.int (nI nd), .ref qv]) ⟨hx, hb, hml, hown, hts⟩ (cX0_turnDown_ok l dC dI cA tb H.size ((f26 nd) ^^^ (f26 na)) 16 ) (va_cwS 2 hts gX0_mixFour_X0_turnDown rfl rfl rfl (by decide +kernel) ⟨Nat.le_of_ble_eq_true rfl, Nat.le_of_ble_eq_true rfl⟩) ⟨fun a U g mk q => kd_calling rfl rfl q, fun U hU hW => ⟨rfl, kd_pre hPc hK hDc hT hS hFc U hU hW⟩⟩ rfl rfl hl.1 rfl (lv_room (Nat.le_of_ble_eq_true rfl)) dX0_mixFour_49 ⟨Nat.le_of_ble_eq_true rfl, Nat.le_of_ble_eq_true rfl⟩) hS (fun q _ h => hFc q h) hFc (fun r49 u t H1 locs ht hvm hw hB hz1 hk1 hS => ?_)
  have hw49 : r49 = kd_rot ((f26 nd) ^^^ (f26 na)) 16 := hw
  have hP1 : va_P (dC, dI) vwCl [] H1 := by rw [← ht]; exact hB.1
  have hD1 : va_D (va_A [] H.size) [] := hB.2.2
  obtain ⟨hP, hD⟩ := va_join (wr := [(h0, .inr (0, [.ref qh, .ref qm, .ref qv, .int bb, .long ab])), (qm, .inl (cA, 16, .inl mm)), (qv, .inl (cA, 16, .inl f26))]) (w1 := []) hP hD [] [0, 1, 2] rfl rfl (by decide) (by decide) hk1 hFc hP1 hD1
  clear hw hB hk1 hPc hDc hFc hP1 hD1 hvm hz1
  generalize H1 = H at hP hS ⊢
  have hP : va_P (dC, dI) vwCl [(h0, .inr (0, [.ref qh, .ref qm, .ref qv, .int bb, .long ab])), (qm, .inl (cA, 16, .inl mm)), (qv, .inl (cA, 16, .inl f26))] H := hP
  have hD : va_D A [(h0, .inr (0, [.ref qh, .ref qm, .ref qv, .int bb, .long ab])), (qm, .inl (cA, 16, .inl mm)), (qv, .inl (cA, 16, .inl f26))] := hD
  refine kd_ist nd hx hb hK hP hD hS 2 0 rfl rfl rfl (by omega) (by decide) dX0_mixFour_52 (fun f52 ef52 H locs hP hD hS => ?_)
  have hP : va_P (dC, dI) vwCl [(h0, .inr (0, [.ref qh, .ref qm, .ref qv, .int bb, .long ab])), (qm, .inl (cA, 16, .inl mm)), (qv, .inl (cA, 16, .inl f52))] H := hP
  have hD : va_D A [(h0, .inr (0, [.ref qh, .ref qm, .ref qv, .int bb, .long ab])), (qm, .inl (cA, 16, .inl mm)), (qv, .inl (cA, 16, .inl f52))] := hD
  refine lv_aload_n hx hb dX0_mixFour_53 rfl (lv_at hl 0 rfl) ?_
  refine va_get (D := (dC, dI)) (ci := 0) (v := .ref qv) (C := RX0) (T := TX0) (N := 5) hx hb hts ki0 hown hK hP 0 rfl rfl 2 (by decide) k1 (fun _ h9 => h9) rfl dX0_mixFour_54 ?_
  refine lv_iload_n hx hb dX0_mixFour_57 rfl (lv_at hl 3 rfl) ?_
  refine lv_aload_n hx hb dX0_mixFour_58 rfl (lv_at hl 0 rfl) ?_
  refine va_get (D := (dC, dI)) (ci := 0) (v := .ref qv) (C := RX0) (T := TX0) (N := 5) hx hb hts ki0 hown hK hP 0 rfl rfl 2 (by decide) k1 (fun _ h9 => h9) rfl dX0_mixFour_59 ?_
  refine lv_iload_n hx hb dX0_mixFour_62 rfl (lv_at hl 3 rfl) ?_
  refine kd_ild nc hx hb hK hP 2 0 rfl rfl rfl (by omega) (by decide) dX0_mixFour_63 ?_
  refine lv_aload_n hx hb dX0_mixFour_64 rfl (lv_at hl 0 rfl) ?_
  refine va_get (D := (dC, dI)) (ci := 0) (v := .ref qv) (C := RX0) (T := TX0) (N := 5) hx hb hts ki0 hown hK hP 0 rfl rfl 2 (by decide) k1 (fun _ h9 => h9) rfl dX0_mixFour_65 ?_
  refine lv_iload hx hb dX0_mixFour_68 (lv_at hl 4 rfl) ?_
  refine kd_ild nd hx hb hK hP 2 0 rfl rfl rfl (by omega) (by decide) dX0_mixFour_70 ?_
  refine lv_iadd hx hb dX0_mixFour_71 ?_
  refine lv_topi (fun x72 ex72 => ?_)
  refine kd_ist nc hx hb hK hP hD hS 2 0 rfl rfl rfl (by omega) (by decide) dX0_mixFour_72 (fun f72 ef72 H locs hP hD hS => ?_)
  have hP : va_P (dC, dI) vwCl [(h0, .inr (0, [.ref qh, .ref qm, .ref qv, .int bb, .long ab])), (qm, .inl (cA, 16, .inl mm)), (qv, .inl (cA, 16, .inl f72))] H := hP
  have hD : va_D A [(h0, .inr (0, [.ref qh, .ref qm, .ref qv, .int bb, .long ab])), (qm, .inl (cA, 16, .inl mm)), (qv, .inl (cA, 16, .inl f72))] := hD
  refine lv_aload_n hx hb dX0_mixFour_73 rfl (lv_at hl 0 rfl) ?_
  refine va_get (D := (dC, dI)) (ci := 0) (v := .ref qv) (C := RX0) (T := TX0) (N := 5) hx hb hts ki0 hown hK hP 0 rfl rfl 2 (by decide) k1 (fun _ h9 => h9) rfl dX0_mixFour_74 ?_
  refine lv_iload_n hx hb dX0_mixFour_77 rfl (lv_at hl 2 rfl) ?_
  refine lv_aload_n hx hb dX0_mixFour_78 rfl (lv_at hl 0 rfl) ?_
  refine va_get (D := (dC, dI)) (ci := 0) (v := .ref qv) (C := RX0) (T := TX0) (N := 5) hx hb hts ki0 hown hK hP 0 rfl rfl 2 (by decide) k1 (fun _ h9 => h9) rfl dX0_mixFour_79 ?_
  refine lv_iload_n hx hb dX0_mixFour_82 rfl (lv_at hl 2 rfl) ?_
  refine kd_ild nb hx hb hK hP 2 0 rfl rfl rfl (by omega) (by decide) dX0_mixFour_83 ?_
  refine lv_aload_n hx hb dX0_mixFour_84 rfl (lv_at hl 0 rfl) ?_
  refine va_get (D := (dC, dI)) (ci := 0) (v := .ref qv) (C := RX0) (T := TX0) (N := 5) hx hb hts ki0 hown hK hP 0 rfl rfl 2 (by decide) k1 (fun _ h9 => h9) rfl dX0_mixFour_85 ?_
  refine lv_iload_n hx hb dX0_mixFour_88 rfl (lv_at hl 3 rfl) ?_
  refine kd_ild nc hx hb hK hP 2 0 rfl rfl rfl (by omega) (by decide) dX0_mixFour_89 ?_
  refine lv_ixor hx hb dX0_mixFour_90 ?_
  refine lv_bipush (v := 12) hx hb dX0_mixFour_91 (by decide) ?_
  have hPc := hP.sub (ws' := []) [] rfl
  have hDc := hD.sub (ws' := []) [] (by decide) rfl
  have hFc := va_free (wc := []) hD hS hA [] rfl
  refine va_calli (va_runS (As := [.int ((f72 nb) ^^^ (f72 nc)), .int 12]) (rest := [.int (nI nb), .ref qv]) ⟨hx, hb, hml, hown, hts⟩ (cX0_turnDown_ok l dC dI cA tb H.size ((f72 nb) ^^^ (f72 nc)) 12 ) (va_cwS 2 hts gX0_mixFour_X0_turnDown rfl rfl rfl (by decide +kernel) ⟨Nat.le_of_ble_eq_true rfl, Nat.le_of_ble_eq_true rfl⟩) ⟨fun a U g mk q => kd_calling rfl rfl q, fun U hU hW => ⟨rfl, kd_pre hPc hK hDc hT hS hFc U hU hW⟩⟩ rfl rfl hl.1 rfl (lv_room (Nat.le_of_ble_eq_true rfl)) dX0_mixFour_93 ⟨Nat.le_of_ble_eq_true rfl, Nat.le_of_ble_eq_true rfl⟩) hS (fun q _ h => hFc q h) hFc (fun r93 u t H1 locs ht hvm hw hB hz1 hk1 hS => ?_)
  have hw93 : r93 = kd_rot ((f72 nb) ^^^ (f72 nc)) 12 := hw
  have hP1 : va_P (dC, dI) vwCl [] H1 := by rw [← ht]; exact hB.1
  have hD1 : va_D (va_A [] H.size) [] := hB.2.2
  obtain ⟨hP, hD⟩ := va_join (wr := [(h0, .inr (0, [.ref qh, .ref qm, .ref qv, .int bb, .long ab])), (qm, .inl (cA, 16, .inl mm)), (qv, .inl (cA, 16, .inl f72))]) (w1 := []) hP hD [] [0, 1, 2] rfl rfl (by decide) (by decide) hk1 hFc hP1 hD1
  clear hw hB hk1 hPc hDc hFc hP1 hD1 hvm hz1
  generalize H1 = H at hP hS ⊢
  have hP : va_P (dC, dI) vwCl [(h0, .inr (0, [.ref qh, .ref qm, .ref qv, .int bb, .long ab])), (qm, .inl (cA, 16, .inl mm)), (qv, .inl (cA, 16, .inl f72))] H := hP
  have hD : va_D A [(h0, .inr (0, [.ref qh, .ref qm, .ref qv, .int bb, .long ab])), (qm, .inl (cA, 16, .inl mm)), (qv, .inl (cA, 16, .inl f72))] := hD
  refine kd_ist nb hx hb hK hP hD hS 2 0 rfl rfl rfl (by omega) (by decide) dX0_mixFour_96 (fun f96 ef96 H locs hP hD hS => ?_)
  have hP : va_P (dC, dI) vwCl [(h0, .inr (0, [.ref qh, .ref qm, .ref qv, .int bb, .long ab])), (qm, .inl (cA, 16, .inl mm)), (qv, .inl (cA, 16, .inl f96))] H := hP
  have hD : va_D A [(h0, .inr (0, [.ref qh, .ref qm, .ref qv, .int bb, .long ab])), (qm, .inl (cA, 16, .inl mm)), (qv, .inl (cA, 16, .inl f96))] := hD
  refine lv_aload_n hx hb dX0_mixFour_97 rfl (lv_at hl 0 rfl) ?_
  refine va_get (D := (dC, dI)) (ci := 0) (v := .ref qv) (C := RX0) (T := TX0) (N := 5) hx hb hts ki0 hown hK hP 0 rfl rfl 2 (by decide) k1 (fun _ h9 => h9) rfl dX0_mixFour_98 ?_
  refine lv_iload_n hx hb dX0_mixFour_101 rfl (lv_at hl 1 rfl) ?_
  refine lv_aload_n hx hb dX0_mixFour_102 rfl (lv_at hl 0 rfl) ?_
  refine va_get (D := (dC, dI)) (ci := 0) (v := .ref qv) (C := RX0) (T := TX0) (N := 5) hx hb hts ki0 hown hK hP 0 rfl rfl 2 (by decide) k1 (fun _ h9 => h9) rfl dX0_mixFour_103 ?_
  refine lv_iload_n hx hb dX0_mixFour_106 rfl (lv_at hl 1 rfl) ?_
  refine kd_ild na hx hb hK hP 2 0 rfl rfl rfl (by omega) (by decide) dX0_mixFour_107 ?_
  refine lv_aload_n hx hb dX0_mixFour_108 rfl (lv_at hl 0 rfl) ?_
  refine va_get (D := (dC, dI)) (ci := 0) (v := .ref qv) (C := RX0) (T := TX0) (N := 5) hx hb hts ki0 hown hK hP 0 rfl rfl 2 (by decide) k1 (fun _ h9 => h9) rfl dX0_mixFour_109 ?_
  refine lv_iload_n hx hb dX0_mixFour_112 rfl (lv_at hl 2 rfl) ?_
  refine kd_ild nb hx hb hK hP 2 0 rfl rfl rfl (by omega) (by decide) dX0_mixFour_113 ?_
  refine lv_iadd hx hb dX0_mixFour_114 ?_
  refine lv_aload_n hx hb dX0_mixFour_115 rfl (lv_at hl 0 rfl) ?_
  refine va_get (D := (dC, dI)) (ci := 0) (v := .ref qm) (C := RX0) (T := TX0) (N := 5) hx hb hts ki0 hown hK hP 0 rfl rfl 1 (by decide) k2 (fun _ h9 => h9) rfl dX0_mixFour_116 ?_
  refine lv_iload hx hb dX0_mixFour_119 (lv_at hl 6 rfl) ?_
  refine kd_ild ny hx hb hK hP 1 0 rfl rfl rfl (by omega) (by decide) dX0_mixFour_121 ?_
  refine lv_iadd hx hb dX0_mixFour_122 ?_
  refine lv_topi (fun x123 ex123 => ?_)
  refine kd_ist na hx hb hK hP hD hS 2 0 rfl rfl rfl (by omega) (by decide) dX0_mixFour_123 (fun f123 ef123 H locs hP hD hS => ?_)
  have hP : va_P (dC, dI) vwCl [(h0, .inr (0, [.ref qh, .ref qm, .ref qv, .int bb, .long ab])), (qm, .inl (cA, 16, .inl mm)), (qv, .inl (cA, 16, .inl f123))] H := hP
  have hD : va_D A [(h0, .inr (0, [.ref qh, .ref qm, .ref qv, .int bb, .long ab])), (qm, .inl (cA, 16, .inl mm)), (qv, .inl (cA, 16, .inl f123))] := hD
  refine lv_aload_n hx hb dX0_mixFour_124 rfl (lv_at hl 0 rfl) ?_
  refine va_get (D := (dC, dI)) (ci := 0) (v := .ref qv) (C := RX0) (T := TX0) (N := 5) hx hb hts ki0 hown hK hP 0 rfl rfl 2 (by decide) k1 (fun _ h9 => h9) rfl dX0_mixFour_125 ?_
  refine lv_iload hx hb dX0_mixFour_128 (lv_at hl 4 rfl) ?_
  refine lv_aload_n hx hb dX0_mixFour_130 rfl (lv_at hl 0 rfl) ?_
  refine va_get (D := (dC, dI)) (ci := 0) (v := .ref qv) (C := RX0) (T := TX0) (N := 5) hx hb hts ki0 hown hK hP 0 rfl rfl 2 (by decide) k1 (fun _ h9 => h9) rfl dX0_mixFour_131 ?_
  refine lv_iload hx hb dX0_mixFour_134 (lv_at hl 4 rfl) ?_
  refine kd_ild nd hx hb hK hP 2 0 rfl rfl rfl (by omega) (by decide) dX0_mixFour_136 ?_
  refine lv_aload_n hx hb dX0_mixFour_137 rfl (lv_at hl 0 rfl) ?_
  refine va_get (D := (dC, dI)) (ci := 0) (v := .ref qv) (C := RX0) (T := TX0) (N := 5) hx hb hts ki0 hown hK hP 0 rfl rfl 2 (by decide) k1 (fun _ h9 => h9) rfl dX0_mixFour_138 ?_
  refine lv_iload_n hx hb dX0_mixFour_141 rfl (lv_at hl 1 rfl) ?_
  refine kd_ild na hx hb hK hP 2 0 rfl rfl rfl (by omega) (by decide) dX0_mixFour_142 ?_
  refine lv_ixor hx hb dX0_mixFour_143 ?_
  refine lv_bipush (v := 8) hx hb dX0_mixFour_144 (by decide) ?_
  have hPc := hP.sub (ws' := []) [] rfl
  have hDc := hD.sub (ws' := []) [] (by decide) rfl
  have hFc := va_free (wc := []) hD hS hA [] rfl
  refine va_calli (va_runS (As := [.int ((f123 nd) ^^^ (f123 na)), .int 8]) (rest := [.int (nI nd), .ref qv]) ⟨hx, hb, hml, hown, hts⟩ (cX0_turnDown_ok l dC dI cA tb H.size ((f123 nd) ^^^ (f123 na)) 8 ) (va_cwS 2 hts gX0_mixFour_X0_turnDown rfl rfl rfl (by decide +kernel) ⟨Nat.le_of_ble_eq_true rfl, Nat.le_of_ble_eq_true rfl⟩) ⟨fun a U g mk q => kd_calling rfl rfl q, fun U hU hW => ⟨rfl, kd_pre hPc hK hDc hT hS hFc U hU hW⟩⟩ rfl rfl hl.1 rfl (lv_room (Nat.le_of_ble_eq_true rfl)) dX0_mixFour_146 ⟨Nat.le_of_ble_eq_true rfl, Nat.le_of_ble_eq_true rfl⟩) hS (fun q _ h => hFc q h) hFc (fun r146 u t H1 locs ht hvm hw hB hz1 hk1 hS => ?_)
  have hw146 : r146 = kd_rot ((f123 nd) ^^^ (f123 na)) 8 := hw
  have hP1 : va_P (dC, dI) vwCl [] H1 := by rw [← ht]; exact hB.1
  have hD1 : va_D (va_A [] H.size) [] := hB.2.2
  obtain ⟨hP, hD⟩ := va_join (wr := [(h0, .inr (0, [.ref qh, .ref qm, .ref qv, .int bb, .long ab])), (qm, .inl (cA, 16, .inl mm)), (qv, .inl (cA, 16, .inl f123))]) (w1 := []) hP hD [] [0, 1, 2] rfl rfl (by decide) (by decide) hk1 hFc hP1 hD1
  clear hw hB hk1 hPc hDc hFc hP1 hD1 hvm hz1
  generalize H1 = H at hP hS ⊢
  have hP : va_P (dC, dI) vwCl [(h0, .inr (0, [.ref qh, .ref qm, .ref qv, .int bb, .long ab])), (qm, .inl (cA, 16, .inl mm)), (qv, .inl (cA, 16, .inl f123))] H := hP
  have hD : va_D A [(h0, .inr (0, [.ref qh, .ref qm, .ref qv, .int bb, .long ab])), (qm, .inl (cA, 16, .inl mm)), (qv, .inl (cA, 16, .inl f123))] := hD
  refine kd_ist nd hx hb hK hP hD hS 2 0 rfl rfl rfl (by omega) (by decide) dX0_mixFour_149 (fun f149 ef149 H locs hP hD hS => ?_)
  have hP : va_P (dC, dI) vwCl [(h0, .inr (0, [.ref qh, .ref qm, .ref qv, .int bb, .long ab])), (qm, .inl (cA, 16, .inl mm)), (qv, .inl (cA, 16, .inl f149))] H := hP
  have hD : va_D A [(h0, .inr (0, [.ref qh, .ref qm, .ref qv, .int bb, .long ab])), (qm, .inl (cA, 16, .inl mm)), (qv, .inl (cA, 16, .inl f149))] := hD
  refine lv_aload_n hx hb dX0_mixFour_150 rfl (lv_at hl 0 rfl) ?_
  refine va_get (D := (dC, dI)) (ci := 0) (v := .ref qv) (C := RX0) (T := TX0) (N := 5) hx hb hts ki0 hown hK hP 0 rfl rfl 2 (by decide) k1 (fun _ h9 => h9) rfl dX0_mixFour_151 ?_
  refine lv_iload_n hx hb dX0_mixFour_154 rfl (lv_at hl 3 rfl) ?_
  refine lv_aload_n hx hb dX0_mixFour_155 rfl (lv_at hl 0 rfl) ?_
  refine va_get (D := (dC, dI)) (ci := 0) (v := .ref qv) (C := RX0) (T := TX0) (N := 5) hx hb hts ki0 hown hK hP 0 rfl rfl 2 (by decide) k1 (fun _ h9 => h9) rfl dX0_mixFour_156 ?_
  refine lv_iload_n hx hb dX0_mixFour_159 rfl (lv_at hl 3 rfl) ?_
  refine kd_ild nc hx hb hK hP 2 0 rfl rfl rfl (by omega) (by decide) dX0_mixFour_160 ?_
  refine lv_aload_n hx hb dX0_mixFour_161 rfl (lv_at hl 0 rfl) ?_
  refine va_get (D := (dC, dI)) (ci := 0) (v := .ref qv) (C := RX0) (T := TX0) (N := 5) hx hb hts ki0 hown hK hP 0 rfl rfl 2 (by decide) k1 (fun _ h9 => h9) rfl dX0_mixFour_162 ?_
  refine lv_iload hx hb dX0_mixFour_165 (lv_at hl 4 rfl) ?_
  refine kd_ild nd hx hb hK hP 2 0 rfl rfl rfl (by omega) (by decide) dX0_mixFour_167 ?_
  refine lv_iadd hx hb dX0_mixFour_168 ?_
  refine lv_topi (fun x169 ex169 => ?_)
  refine kd_ist nc hx hb hK hP hD hS 2 0 rfl rfl rfl (by omega) (by decide) dX0_mixFour_169 (fun f169 ef169 H locs hP hD hS => ?_)
  have hP : va_P (dC, dI) vwCl [(h0, .inr (0, [.ref qh, .ref qm, .ref qv, .int bb, .long ab])), (qm, .inl (cA, 16, .inl mm)), (qv, .inl (cA, 16, .inl f169))] H := hP
  have hD : va_D A [(h0, .inr (0, [.ref qh, .ref qm, .ref qv, .int bb, .long ab])), (qm, .inl (cA, 16, .inl mm)), (qv, .inl (cA, 16, .inl f169))] := hD
  refine lv_aload_n hx hb dX0_mixFour_170 rfl (lv_at hl 0 rfl) ?_
  refine va_get (D := (dC, dI)) (ci := 0) (v := .ref qv) (C := RX0) (T := TX0) (N := 5) hx hb hts ki0 hown hK hP 0 rfl rfl 2 (by decide) k1 (fun _ h9 => h9) rfl dX0_mixFour_171 ?_
  refine lv_iload_n hx hb dX0_mixFour_174 rfl (lv_at hl 2 rfl) ?_
  refine lv_aload_n hx hb dX0_mixFour_175 rfl (lv_at hl 0 rfl) ?_
  refine va_get (D := (dC, dI)) (ci := 0) (v := .ref qv) (C := RX0) (T := TX0) (N := 5) hx hb hts ki0 hown hK hP 0 rfl rfl 2 (by decide) k1 (fun _ h9 => h9) rfl dX0_mixFour_176 ?_
  refine lv_iload_n hx hb dX0_mixFour_179 rfl (lv_at hl 2 rfl) ?_
  refine kd_ild nb hx hb hK hP 2 0 rfl rfl rfl (by omega) (by decide) dX0_mixFour_180 ?_
  refine lv_aload_n hx hb dX0_mixFour_181 rfl (lv_at hl 0 rfl) ?_
  refine va_get (D := (dC, dI)) (ci := 0) (v := .ref qv) (C := RX0) (T := TX0) (N := 5) hx hb hts ki0 hown hK hP 0 rfl rfl 2 (by decide) k1 (fun _ h9 => h9) rfl dX0_mixFour_182 ?_
  refine lv_iload_n hx hb dX0_mixFour_185 rfl (lv_at hl 3 rfl) ?_
  refine kd_ild nc hx hb hK hP 2 0 rfl rfl rfl (by omega) (by decide) dX0_mixFour_186 ?_
  refine lv_ixor hx hb dX0_mixFour_187 ?_
  refine lv_bipush (v := 7) hx hb dX0_mixFour_188 (by decide) ?_
  have hPc := hP.sub (ws' := []) [] rfl
  have hDc := hD.sub (ws' := []) [] (by decide) rfl
  have hFc := va_free (wc := []) hD hS hA [] rfl
  refine va_calli (va_runS (As := [.int ((f169 nb) ^^^ (f169 nc)), .int 7]) (rest := [.int (nI nb), .ref qv]) ⟨hx, hb, hml, hown, hts⟩ (cX0_turnDown_ok l dC dI cA tb H.size ((f169 nb) ^^^ (f169 nc)) 7 ) (va_cwS 2 hts gX0_mixFour_X0_turnDown rfl rfl rfl (by decide +kernel) ⟨Nat.le_of_ble_eq_true rfl, Nat.le_of_ble_eq_true rfl⟩) ⟨fun a U g mk q => kd_calling rfl rfl q, fun U hU hW => ⟨rfl, kd_pre hPc hK hDc hT hS hFc U hU hW⟩⟩ rfl rfl hl.1 rfl (lv_room (Nat.le_of_ble_eq_true rfl)) dX0_mixFour_190 ⟨Nat.le_of_ble_eq_true rfl, Nat.le_of_ble_eq_true rfl⟩) hS (fun q _ h => hFc q h) hFc (fun r190 u t H1 locs ht hvm hw hB hz1 hk1 hS => ?_)
  have hw190 : r190 = kd_rot ((f169 nb) ^^^ (f169 nc)) 7 := hw
  have hP1 : va_P (dC, dI) vwCl [] H1 := by rw [← ht]; exact hB.1
  have hD1 : va_D (va_A [] H.size) [] := hB.2.2
  obtain ⟨hP, hD⟩ := va_join (wr := [(h0, .inr (0, [.ref qh, .ref qm, .ref qv, .int bb, .long ab])), (qm, .inl (cA, 16, .inl mm)), (qv, .inl (cA, 16, .inl f169))]) (w1 := []) hP hD [] [0, 1, 2] rfl rfl (by decide) (by decide) hk1 hFc hP1 hD1
  clear hw hB hk1 hPc hDc hFc hP1 hD1 hvm hz1
  generalize H1 = H at hP hS ⊢
  have hP : va_P (dC, dI) vwCl [(h0, .inr (0, [.ref qh, .ref qm, .ref qv, .int bb, .long ab])), (qm, .inl (cA, 16, .inl mm)), (qv, .inl (cA, 16, .inl f169))] H := hP
  have hD : va_D A [(h0, .inr (0, [.ref qh, .ref qm, .ref qv, .int bb, .long ab])), (qm, .inl (cA, 16, .inl mm)), (qv, .inl (cA, 16, .inl f169))] := hD
  refine kd_ist nb hx hb hK hP hD hS 2 0 rfl rfl rfl (by omega) (by decide) dX0_mixFour_193 (fun f193 ef193 H locs hP hD hS => ?_)
  have hP : va_P (dC, dI) vwCl [(h0, .inr (0, [.ref qh, .ref qm, .ref qv, .int bb, .long ab])), (qm, .inl (cA, 16, .inl mm)), (qv, .inl (cA, 16, .inl f193))] H := hP
  have hD : va_D A [(h0, .inr (0, [.ref qh, .ref qm, .ref qv, .int bb, .long ab])), (qm, .inl (cA, 16, .inl mm)), (qv, .inl (cA, 16, .inl f193))] := hD
  have g1 : f26 = kd_g1 na nb (mm nx) vv := by rw [ef26, ex26]; rfl
  have g2 : f52 = kd_g2 nd na 16 f26 := by rw [ef52, hw49]; rfl
  have g3 : f72 = kd_g3 nc nd f52 := by rw [ef72, ex72]; rfl
  have g4 : f96 = kd_g2 nb nc 12 f72 := by rw [ef96, hw93]; rfl
  have g5 : f123 = kd_g1 na nb (mm ny) f96 := by rw [ef123, ex123]; rfl
  have g6 : f149 = kd_g2 nd na 8 f123 := by rw [ef149, hw146]; rfl
  have g7 : f169 = kd_g3 nc nd f149 := by rw [ef169, ex169]; rfl
  have g8 : f193 = kd_g2 nb nc 7 f169 := by rw [ef193, hw190]; rfl
  have hP9 := hP.sub (ws' := [(h0, .inr (0, [.ref qh, .ref qm, .ref qv, .int bb, .long ab])), (qm, .inl (cA, 16, .inl mm)), (qv, .inl (cA, 16, .inl f193))]) [0, 1, 2] rfl
  have hD9 := hD.sub (ws' := [(h0, .inr (0, [.ref qh, .ref qm, .ref qv, .int bb, .long ab])), (qm, .inl (cA, 16, .inl mm)), (qv, .inl (cA, 16, .inl f193))]) [0, 1, 2] (by decide) rfl
  exact W.vret hx hb hr (fun t ht hW => ⟨⟨(f193), rfl, (by dsimp only; rw [g8, g7, g6, g5, g4, g3, g2, g1]; rfl), by rw [ht]; exact hP9, va_K.moved hW.alike hK, hD9⟩, hS.F ht⟩) hS.2.2 dX0_mixFour_194
