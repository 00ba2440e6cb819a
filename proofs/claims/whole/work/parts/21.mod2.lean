set_option maxHeartbeats 4000000 in
set_option maxRecDepth 100000 in
theorem cX2_mix_ok (l : Launch) (dC : Nat → ClassId) (dI : Nat → Nat → Nat) (cA : ClassId) (tb : Nat → Nat) (sz : Nat) (h0 : Nat) (qk : Nat) (qh : Nat) (qv : Nat) (qm : Nat) (qb : Nat) (qr : Nat) (rd : Int32) (op : Int32) (dn : Int32) (hh : Nat → Int32) (vv : Nat → Int32) (mm : Nat → Int32) (bl : Nat → Int32) (mx : Int64) (ln : Int32) (nn : Int32) (bb : Int32) (mn : Int64) (la : Int32) : Met l yX2_mix wsX2_mix ({ frames := 2, cells := 0, slots := 0, locals := 47 }) (va_Pc [.ref h0, .long mn, .int la] (kd_I (dC, dI) cA tb sz [(h0, .inr (2, [.int rd, .int op, .int dn, .ref qk, .ref qh, .ref qv, .ref qm, .ref qb, .int bb, .long mx, .int ln, .int nn, .ref qr])), (qh, .inl (cA, 8, .inl hh)), (qv, .inl (cA, 16, .inl vv)), (qm, .inl (cA, 16, .inl mm)), (qb, .inl (cA, 64, .inl bl)), (qr, .inl (cA, 160, .inl kd_PL))])) (va_Qv (fun (u : (Nat → Int32)) => True) (fun u t => kd_O (dC, dI) cA (va_A [(h0, .inr (2, [.int rd, .int op, .int dn, .ref qk, .ref qh, .ref qv, .ref qm, .ref qb, .int bb, .long mx, .int ln, .int nn, .ref qr])), (qh, .inl (cA, 8, .inl hh)), (qv, .inl (cA, 16, .inl vv)), (qm, .inl (cA, 16, .inl mm)), (qb, .inl (cA, 64, .inl bl)), (qr, .inl (cA, 160, .inl kd_PL))] sz) [(h0, .inr (2, [.int rd, .int op, .int dn, .ref qk, .ref qh, .ref qv, .ref qm, .ref qb, .int bb, .long mx, .int ln, .int nn, .ref qr])), (qh, .inl (cA, 8, .inl (kd_mix hh (kd_wd bl) mn (kd_lm la)))), (qv, .inl (cA, 16, .inl u)), (qm, .inl (cA, 16, .inl (kd_wd bl))), (qb, .inl (cA, 64, .inl bl)), (qr, .inl (cA, 160, .inl kd_PL))] t) (va_A [(h0, .inr (2, [.int rd, .int op, .int dn, .ref qk, .ref qh, .ref qv, .ref qm, .ref qb, .int bb, .long mx, .int ln, .int nn, .ref qr])), (qh, .inl (cA, 8, .inl hh)), (qv, .inl (cA, 16, .inl vv)), (qm, .inl (cA, 16, .inl mm)), (qb, .inl (cA, 64, .inl bl)), (qr, .inl (cA, 160, .inl kd_PL))] sz)) 0 0 (va_A [(h0, .inr (2, [.int rd, .int op, .int dn, .ref qk, .ref qh, .ref qv, .ref qm, .ref qb, .int bb, .long mx, .int ln, .int nn, .ref qr])), (qh, .inl (cA, 8, .inl hh)), (qv, .inl (cA, 16, .inl vv)), (qm, .inl (cA, 16, .inl mm)), (qb, .inl (cA, 64, .inl bl)), (qr, .inl (cA, 160, .inl kd_PL))] sz) := by
  refine Met.ofW (cc := cX2_mix) (maxL := 5) (ret := none) (by decide) rfl ?_
  intro p e s m args below meth c s₁ B hml hv
  obtain ⟨rfl, hsz, hP, hK, hD0, hT⟩ := hv
  have hx := B.exec
  have hb := B.bytes
  have hr := B.returns
  have hts := atoms_spec (ws := wsX2_mix) B.pre
  have hown : s.vm.findClass RX2 = some m.cls := findClass_of_methodNamed B.named
  have hlocks := B.notSynchronized
  have ki2 : ∀ w ∈ u_ws RX2 TX2 13, w ∈ wsX2_mix := by decide +kernel
  have k1 := hts (.fieldLink RX2 16 "KeyedDigestModel" "v" "[I") (by decide +kernel)
  have k2 := hts (.fieldLink RX2 13 "KeyedDigestModel" "h" "[I") (by decide +kernel)
  have k3 := hts (.fieldLink RX2 19 "KeyedDigestModel" "m" "[I") (by decide +kernel)
  have k4 := hts (.fieldLink RX2 25 "KeyedDigestModel" "rows" "[I") (by decide +kernel)
  have k5 := hts (.fieldLink RX2 22 "KeyedDigestModel" "block" "[I") (by decide +kernel)
  subst hsz
  have hD := hD0.self (sz := s.heap.size)
  generalize hAe : va_A [(h0, .inr (2, [.int rd, .int op, .int dn, .ref qk, .ref qh, .ref qv, .ref qm, .ref qb, .int bb, .long mx, .int ln, .int nn, .ref qr])), (qh, .inl (cA, 8, .inl hh)), (qv, .inl (cA, 16, .inl vv)), (qm, .inl (cA, 16, .inl mm)), (qb, .inl (cA, 64, .inl bl)), (qr, .inl (cA, 160, .inl kd_PL))] s.heap.size = A at hD hT ⊢
  have hA : ∀ q : Nat, s.heap.size ≤ q → A q := fun q h => by rw [← hAe]; exact Or.inr h
  have hS : va_S A s.heap s.heap [] := va_S.rf
  have hP : va_P (dC, dI) vwCl [(h0, .inr (2, [.int rd, .int op, .int dn, .ref qk, .ref qh, .ref qv, .ref qm, .ref qb, .int bb, .long mx, .int ln, .int nn, .ref qr])), (qh, .inl (cA, 8, .inl hh)), (qv, .inl (cA, 16, .inl vv)), (qm, .inl (cA, 16, .inl mm)), (qb, .inl (cA, 64, .inl bl)), (qr, .inl (cA, 160, .inl kd_PL))] s.heap := hP
  have hl := lv_entry ([.ref h0, .long mn, .int la]) (n := 5) (Nat.le_of_ble_eq_true rfl)
  rw [lg_entry_eq]
  generalize (lg_sl ([.ref h0, .long mn, .int la]) ++ List.replicate (5 - (lg_sl ([.ref h0, .long mn, .int la])).length) Slot.unset).toArray = ls at hl ⊢
  have hl : lv_has ls 5 [(0, .ref h0), (1, .long mn), (3, .int la)] := hl
  refine lv_iconst (v := 0) hx hb dX2_mix_0 (by decide) ?_
  refine lv_istore (lv' := [(4, .int 0), (0, .ref h0), (1, .long mn), (3, .int la)]) hx hb dX2_mix_1 hl (by decide) rfl (fun ls hl => ?_)
  have lp1 : ∀ (k : Nat) (i : Nat) (x : Int32) (f : Nat → Int32) (g : Nat → Int32), (i ≤ 16) → (16 - i < k) → (x = nI i) → (∀ j, j < i → f j = kd_wd bl j) → (∀ j, j < i → g j = kd_v00 hh j) → ∀ (H : Heap) (locs : List Loc) (ls : Array Slot), va_P (dC, dI) vwCl [(h0, .inr (2, [.int rd, .int op, .int dn, .ref qk, .ref qh, .ref qv, .ref qm, .ref qb, .int bb, .long mx, .int ln, .int nn, .ref qr])), (qh, .inl (cA, 8, .inl hh)), (qv, .inl (cA, 16, .inl g)), (qm, .inl (cA, 16, .inl f)), (qb, .inl (cA, 64, .inl bl)), (qr, .inl (cA, 160, .inl kd_PL))] H → va_D A [(h0, .inr (2, [.int rd, .int op, .int dn, .ref qk, .ref qh, .ref qv, .ref qm, .ref qb, .int bb, .long mx, .int ln, .int nn, .ref qr])), (qh, .inl (cA, 8, .inl hh)), (qv, .inl (cA, 16, .inl g)), (qm, .inl (cA, 16, .inl f)), (qb, .inl (cA, 64, .inl bl)), (qr, .inl (cA, 160, .inl kd_PL))] → va_S A s.heap H locs → lv_has ls 5 [(4, .int x), (0, .ref h0), (1, .long mn), (3, .int la)] → W p l e (headSpec wsX2_mix { frames := 2, cells := 0, slots := 0, locals := 47 }).room s m ([.ref h0, .long mn, .int la]).toArray below meth c H locs 0 0 (MQ below (va_Qv (fun (u : (Nat → Int32)) => True) (fun u t => kd_O (dC, dI) cA A [(h0, .inr (2, [.int rd, .int op, .int dn, .ref qk, .ref qh, .ref qv, .ref qm, .ref qb, .int bb, .long mx, .int ln, .int nn, .ref qr])), (qh, .inl (cA, 8, .inl (kd_mix hh (kd_wd bl) mn (kd_lm la)))), (qv, .inl (cA, 16, .inl u)), (qm, .inl (cA, 16, .inl (kd_wd bl))), (qb, .inl (cA, 64, .inl bl)), (qr, .inl (cA, 160, .inl kd_PL))] t) A) ([.ref h0, .long mn, .int la]).toArray s 0 0 A) (F0 m 3 ls []) := by
    intro k
    induction k with
    | zero =>
      intro i x f g hi hk ex hf hg
      omega
    | succ k ih =>
      intro i x f g hi hk ex hf hg H locs ls hP hD hS hl
      refine lv_iload hx hb dX2_mix_3 (lv_at hl 0 rfl) ?_
      refine lv_bipush (v := 16) hx hb dX2_mix_5 (by decide) ?_
      refine lv_icmp_ge (tgt := 109) hx hb dX2_mix_7 (by decide) (fun c7 => ?_) (fun c7 => ?_)
      · have hge : 16 ≤ i := kd_ge (n := 16) ex (by omega) (by decide) c7
        have hP := kd_arrP hP hD 3 rfl (kd_wd bl) (fun j hj => hf j (by omega))
        have hD := hD.set (p := 3) (e := .inl (cA, 16, .inl (kd_wd bl))) rfl
        have hP : va_P (dC, dI) vwCl [(h0, .inr (2, [.int rd, .int op, .int dn, .ref qk, .ref qh, .ref qv, .ref qm, .ref qb, .int bb, .long mx, .int ln, .int nn, .ref qr])), (qh, .inl (cA, 8, .inl hh)), (qv, .inl (cA, 16, .inl g)), (qm, .inl (cA, 16, .inl (kd_wd bl))), (qb, .inl (cA, 64, .inl bl)), (qr, .inl (cA, 160, .inl kd_PL))] H := hP
        have hD : va_D A [(h0, .inr (2, [.int rd, .int op, .int dn, .ref qk, .ref qh, .ref qv, .ref qm, .ref qb, .int bb, .long mx, .int ln, .int nn, .ref qr])), (qh, .inl (cA, 8, .inl hh)), (qv, .inl (cA, 16, .inl g)), (qm, .inl (cA, 16, .inl (kd_wd bl))), (qb, .inl (cA, 64, .inl bl)), (qr, .inl (cA, 160, .inl kd_PL))] := hD
        have hP := kd_arrP hP hD 2 rfl (kd_v00 hh) (fun j hj => hg j (by omega))
        have hD := hD.set (p := 2) (e := .inl (cA, 16, .inl (kd_v00 hh))) rfl
        have hP : va_P (dC, dI) vwCl [(h0, .inr (2, [.int rd, .int op, .int dn, .ref qk, .ref qh, .ref qv, .ref qm, .ref qb, .int bb, .long mx, .int ln, .int nn, .ref qr])), (qh, .inl (cA, 8, .inl hh)), (qv, .inl (cA, 16, .inl (kd_v00 hh))), (qm, .inl (cA, 16, .inl (kd_wd bl))), (qb, .inl (cA, 64, .inl bl)), (qr, .inl (cA, 160, .inl kd_PL))] H := hP
        have hD : va_D A [(h0, .inr (2, [.int rd, .int op, .int dn, .ref qk, .ref qh, .ref qv, .ref qm, .ref qb, .int bb, .long mx, .int ln, .int nn, .ref qr])), (qh, .inl (cA, 8, .inl hh)), (qv, .inl (cA, 16, .inl (kd_v00 hh))), (qm, .inl (cA, 16, .inl (kd_wd bl))), (qb, .inl (cA, 64, .inl bl)), (qr, .inl (cA, 160, .inl kd_PL))] := hD
        refine lv_aload_n hx hb dX2_mix_109 rfl (lv_at hl 1 rfl) ?_
        refine va_get (D := (dC, dI)) (ci := 2) (v := .ref qv) (C := RX2) (T := TX2) (N := 13) hx hb hts ki2 hown hK hP 0 rfl rfl 5 (by decide) k1 (fun _ h9 => h9) rfl dX2_mix_110 ?_
        refine lv_bipush (v := 12) hx hb dX2_mix_113 (by decide) ?_
        refine lv_aload_n hx hb dX2_mix_115 rfl (lv_at hl 1 rfl) ?_
        refine va_get (D := (dC, dI)) (ci := 2) (v := .ref qv) (C := RX2) (T := TX2) (N := 13) hx hb hts ki2 hown hK hP 0 rfl rfl 5 (by decide) k1 (fun _ h9 => h9) rfl dX2_mix_116 ?_
        refine lv_bipush (v := 12) hx hb dX2_mix_119 (by decide) ?_
        refine kd_ild 12 hx hb hK hP 2 0 rfl rfl rfl (by decide) (by decide) dX2_mix_121 ?_
        refine lv_lload_n hx hb dX2_mix_122 rfl (lv_at hl 2 rfl) ?_
        refine lv_l2i (v := mn.toInt32) hx hb dX2_mix_123 rfl ?_
        refine lv_ixor hx hb dX2_mix_124 ?_
        refine lv_topi (fun x125 ex125 => ?_)
        refine kd_ist 12 hx hb hK hP hD hS 2 0 rfl rfl rfl (by decide) (by decide) dX2_mix_125 (fun f125 ef125 H locs hP hD hS => ?_)
        have hP : va_P (dC, dI) vwCl [(h0, .inr (2, [.int rd, .int op, .int dn, .ref qk, .ref qh, .ref qv, .ref qm, .ref qb, .int bb, .long mx, .int ln, .int nn, .ref qr])), (qh, .inl (cA, 8, .inl hh)), (qv, .inl (cA, 16, .inl f125)), (qm, .inl (cA, 16, .inl (kd_wd bl))), (qb, .inl (cA, 64, .inl bl)), (qr, .inl (cA, 160, .inl kd_PL))] H := hP
        have hD : va_D A [(h0, .inr (2, [.int rd, .int op, .int dn, .ref qk, .ref qh, .ref qv, .ref qm, .ref qb, .int bb, .long mx, .int ln, .int nn, .ref qr])), (qh, .inl (cA, 8, .inl hh)), (qv, .inl (cA, 16, .inl f125)), (qm, .inl (cA, 16, .inl (kd_wd bl))), (qb, .inl (cA, 64, .inl bl)), (qr, .inl (cA, 160, .inl kd_PL))] := hD
        refine lv_aload_n hx hb dX2_mix_126 rfl (lv_at hl 1 rfl) ?_
        refine va_get (D := (dC, dI)) (ci := 2) (v := .ref qv) (C := RX2) (T := TX2) (N := 13) hx hb hts ki2 hown hK hP 0 rfl rfl 5 (by decide) k1 (fun _ h9 => h9) rfl dX2_mix_127 ?_
        refine lv_bipush (v := 13) hx hb dX2_mix_130 (by decide) ?_
        refine lv_aload_n hx hb dX2_mix_132 rfl (lv_at hl 1 rfl) ?_
        refine va_get (D := (dC, dI)) (ci := 2) (v := .ref qv) (C := RX2) (T := TX2) (N := 13) hx hb hts ki2 hown hK hP 0 rfl rfl 5 (by decide) k1 (fun _ h9 => h9) rfl dX2_mix_133 ?_
        refine lv_bipush (v := 13) hx hb dX2_mix_136 (by decide) ?_
        refine kd_ild 13 hx hb hK hP 2 0 rfl rfl rfl (by decide) (by decide) dX2_mix_138 ?_
        refine lv_lload_n hx hb dX2_mix_139 rfl (lv_at hl 2 rfl) ?_
        refine lv_bipush (v := 32) hx hb dX2_mix_140 (by decide) ?_
        refine lv_lushr (v := kd_lushr mn 32) hx hb dX2_mix_142 rfl ?_
        refine lv_l2i (v := (kd_lushr mn 32).toInt32) hx hb dX2_mix_143 rfl ?_
        refine lv_ixor hx hb dX2_mix_144 ?_
        refine lv_topi (fun x145 ex145 => ?_)
        refine kd_ist 13 hx hb hK hP hD hS 2 0 rfl rfl rfl (by decide) (by decide) dX2_mix_145 (fun f145 ef145 H locs hP hD hS => ?_)
        have hP : va_P (dC, dI) vwCl [(h0, .inr (2, [.int rd, .int op, .int dn, .ref qk, .ref qh, .ref qv, .ref qm, .ref qb, .int bb, .long mx, .int ln, .int nn, .ref qr])), (qh, .inl (cA, 8, .inl hh)), (qv, .inl (cA, 16, .inl f145)), (qm, .inl (cA, 16, .inl (kd_wd bl))), (qb, .inl (cA, 64, .inl bl)), (qr, .inl (cA, 160, .inl kd_PL))] H := hP
        have hD : va_D A [(h0, .inr (2, [.int rd, .int op, .int dn, .ref qk, .ref qh, .ref qv, .ref qm, .ref qb, .int bb, .long mx, .int ln, .int nn, .ref qr])), (qh, .inl (cA, 8, .inl hh)), (qv, .inl (cA, 16, .inl f145)), (qm, .inl (cA, 16, .inl (kd_wd bl))), (qb, .inl (cA, 64, .inl bl)), (qr, .inl (cA, 160, .inl kd_PL))] := hD
        refine lv_aload_n hx hb dX2_mix_146 rfl (lv_at hl 1 rfl) ?_
        refine va_get (D := (dC, dI)) (ci := 2) (v := .ref qv) (C := RX2) (T := TX2) (N := 13) hx hb hts ki2 hown hK hP 0 rfl rfl 5 (by decide) k1 (fun _ h9 => h9) rfl dX2_mix_147 ?_
        refine lv_bipush (v := 14) hx hb dX2_mix_150 (by decide) ?_
        refine lv_iload_n hx hb dX2_mix_152 rfl (lv_at hl 3 rfl) ?_
        refine lv_if_eq (tgt := 168) hx hb dX2_mix_153 (by decide) (fun c153 => ?_) (fun c153 => ?_)
        · refine lv_aload_n hx hb dX2_mix_168 rfl (lv_at hl 1 rfl) ?_
          refine va_get (D := (dC, dI)) (ci := 2) (v := .ref qv) (C := RX2) (T := TX2) (N := 13) hx hb hts ki2 hown hK hP 0 rfl rfl 5 (by decide) k1 (fun _ h9 => h9) rfl dX2_mix_169 ?_
          refine lv_bipush (v := 14) hx hb dX2_mix_172 (by decide) ?_
          refine kd_ild 14 hx hb hK hP 2 0 rfl rfl rfl (by decide) (by decide) dX2_mix_174 ?_
          refine lv_topi (fun x175 ex175 => ?_)
          refine kd_ist 14 hx hb hK hP hD hS 2 0 rfl rfl rfl (by decide) (by decide) dX2_mix_175 (fun f175 ef175 H locs hP hD hS => ?_)
          have hP : va_P (dC, dI) vwCl [(h0, .inr (2, [.int rd, .int op, .int dn, .ref qk, .ref qh, .ref qv, .ref qm, .ref qb, .int bb, .long mx, .int ln, .int nn, .ref qr])), (qh, .inl (cA, 8, .inl hh)), (qv, .inl (cA, 16, .inl f175)), (qm, .inl (cA, 16, .inl (kd_wd bl))), (qb, .inl (cA, 64, .inl bl)), (qr, .inl (cA, 160, .inl kd_PL))] H := hP
          have hD : va_D A [(h0, .inr (2, [.int rd, .int op, .int dn, .ref qk, .ref qh, .ref qv, .ref qm, .ref qb, .int bb, .long mx, .int ln, .int nn, .ref qr])), (qh, .inl (cA, 8, .inl hh)), (qv, .inl (cA, 16, .inl f175)), (qm, .inl (cA, 16, .inl (kd_wd bl))), (qb, .inl (cA, 64, .inl bl)), (qr, .inl (cA, 160, .inl kd_PL))] := hD
          obtain rfl : f175 = kd_v0 hh mn (kd_lm la) := by rw [ef175, ex175, ef145, ex145, ef125, ex125]; unfold kd_lm; rw [if_pos c153]; exact kd_x0 _ _
          have hP : va_P (dC, dI) vwCl [(h0, .inr (2, [.int rd, .int op, .int dn, .ref qk, .ref qh, .ref qv, .ref qm, .ref qb, .int bb, .long mx, .int ln, .int nn, .ref qr])), (qh, .inl (cA, 8, .inl hh)), (qv, .inl (cA, 16, .inl (kd_v0 hh mn (kd_lm la)))), (qm, .inl (cA, 16, .inl (kd_wd bl))), (qb, .inl (cA, 64, .inl bl)), (qr, .inl (cA, 160, .inl kd_PL))] H := hP
          have hD : va_D A [(h0, .inr (2, [.int rd, .int op, .int dn, .ref qk, .ref qh, .ref qv, .ref qm, .ref qb, .int bb, .long mx, .int ln, .int nn, .ref qr])), (qh, .inl (cA, 8, .inl hh)), (qv, .inl (cA, 16, .inl (kd_v0 hh mn (kd_lm la)))), (qm, .inl (cA, 16, .inl (kd_wd bl))), (qb, .inl (cA, 64, .inl bl)), (qr, .inl (cA, 160, .inl kd_PL))] := hD
          refine lv_iconst (v := 0) hx hb dX2_mix_176 (by decide) ?_
          refine lv_istore (lv' := [(4, .int 0), (0, .ref h0), (1, .long mn), (3, .int la)]) hx hb dX2_mix_177 hl (by decide) rfl (fun ls hl => ?_)
          have lp2 : ∀ (k : Nat) (n : Nat) (y : Int32) (g : Nat → Int32), (n ≤ 10) → (10 - n < k) → (y = nI (16 * n)) → (g = kd_rounds (kd_wd bl) n (kd_v0 hh mn (kd_lm la))) → ∀ (H : Heap) (locs : List Loc) (ls : Array Slot), va_P (dC, dI) vwCl [(h0, .inr (2, [.int rd, .int op, .int dn, .ref qk, .ref qh, .ref qv, .ref qm, .ref qb, .int bb, .long mx, .int ln, .int nn, .ref qr])), (qh, .inl (cA, 8, .inl hh)), (qv, .inl (cA, 16, .inl g)), (qm, .inl (cA, 16, .inl (kd_wd bl))), (qb, .inl (cA, 64, .inl bl)), (qr, .inl (cA, 160, .inl kd_PL))] H → va_D A [(h0, .inr (2, [.int rd, .int op, .int dn, .ref qk, .ref qh, .ref qv, .ref qm, .ref qb, .int bb, .long mx, .int ln, .int nn, .ref qr])), (qh, .inl (cA, 8, .inl hh)), (qv, .inl (cA, 16, .inl g)), (qm, .inl (cA, 16, .inl (kd_wd bl))), (qb, .inl (cA, 64, .inl bl)), (qr, .inl (cA, 160, .inl kd_PL))] → va_S A s.heap H locs → lv_has ls 5 [(4, .int y), (0, .ref h0), (1, .long mn), (3, .int la)] → W p l e (headSpec wsX2_mix { frames := 2, cells := 0, slots := 0, locals := 47 }).room s m ([.ref h0, .long mn, .int la]).toArray below meth c H locs 0 0 (MQ below (va_Qv (fun (u : (Nat → Int32)) => True) (fun u t => kd_O (dC, dI) cA A [(h0, .inr (2, [.int rd, .int op, .int dn, .ref qk, .ref qh, .ref qv, .ref qm, .ref qb, .int bb, .long mx, .int ln, .int nn, .ref qr])), (qh, .inl (cA, 8, .inl (kd_mix hh (kd_wd bl) mn (kd_lm la)))), (qv, .inl (cA, 16, .inl u)), (qm, .inl (cA, 16, .inl (kd_wd bl))), (qb, .inl (cA, 64, .inl bl)), (qr, .inl (cA, 160, .inl kd_PL))] t) A) ([.ref h0, .long mn, .int la]).toArray s 0 0 A) (F0 m 179 ls []) := by
            intro k
            induction k with
            | zero =>
              intro n y g hi hk ey hg
              omega
            | succ k ih =>
              intro n y g hi hk ey hg H locs ls hP hD hS hl
              refine lv_iload hx hb dX2_mix_179 (lv_at hl 0 rfl) ?_
              refine lv_sipush (v := 160) hx hb dX2_mix_181 (by decide) ?_
              refine lv_icmp_ge (tgt := 513) hx hb dX2_mix_184 (by decide) (fun c184 => ?_) (fun c184 => ?_)
              · have hge : 160 ≤ 16 * n := kd_ge (n := 160) ey (by omega) (by decide) c184
                obtain rfl : n = 10 := by omega
                subst hg
                refine lv_iconst (v := 0) hx hb dX2_mix_513 (by decide) ?_
                refine lv_istore (lv' := [(4, .int 0), (0, .ref h0), (1, .long mn), (3, .int la)]) hx hb dX2_mix_514 hl (by decide) rfl (fun ls hl => ?_)
                have lp3 : ∀ (k : Nat) (j : Nat) (z : Int32) (g3 : Nat → Int32), (j ≤ 8) → (8 - j < k) → (z = nI j) → (∀ q, g3 q = if q < j then kd_mix hh (kd_wd bl) mn (kd_lm la) q else hh q) → ∀ (H : Heap) (locs : List Loc) (ls : Array Slot), va_P (dC, dI) vwCl [(h0, .inr (2, [.int rd, .int op, .int dn, .ref qk, .ref qh, .ref qv, .ref qm, .ref qb, .int bb, .long mx, .int ln, .int nn, .ref qr])), (qh, .inl (cA, 8, .inl g3)), (qv, .inl (cA, 16, .inl (kd_rounds (kd_wd bl) 10 (kd_v0 hh mn (kd_lm la))))), (qm, .inl (cA, 16, .inl (kd_wd bl))), (qb, .inl (cA, 64, .inl bl)), (qr, .inl (cA, 160, .inl kd_PL))] H → va_D A [(h0, .inr (2, [.int rd, .int op, .int dn, .ref qk, .ref qh, .ref qv, .ref qm, .ref qb, .int bb, .long mx, .int ln, .int nn, .ref qr])), (qh, .inl (cA, 8, .inl g3)), (qv, .inl (cA, 16, .inl (kd_rounds (kd_wd bl) 10 (kd_v0 hh mn (kd_lm la))))), (qm, .inl (cA, 16, .inl (kd_wd bl))), (qb, .inl (cA, 64, .inl bl)), (qr, .inl (cA, 160, .inl kd_PL))] → va_S A s.heap H locs → lv_has ls 5 [(4, .int z), (0, .ref h0), (1, .long mn), (3, .int la)] → W p l e (headSpec wsX2_mix { frames := 2, cells := 0, slots := 0, locals := 47 }).room s m ([.ref h0, .long mn, .int la]).toArray below meth c H locs 0 0 (MQ below (va_Qv (fun (u : (Nat → Int32)) => True) (fun u t => kd_O (dC, dI) cA A [(h0, .inr (2, [.int rd, .int op, .int dn, .ref qk, .ref qh, .ref qv, .ref qm, .ref qb, .int bb, .long mx, .int ln, .int nn, .ref qr])), (qh, .inl (cA, 8, .inl (kd_mix hh (kd_wd bl) mn (kd_lm la)))), (qv, .inl (cA, 16, .inl u)), (qm, .inl (cA, 16, .inl (kd_wd bl))), (qb, .inl (cA, 64, .inl bl)), (qr, .inl (cA, 160, .inl kd_PL))] t) A) ([.ref h0, .long mn, .int la]).toArray s 0 0 A) (F0 m 516 ls []) := by
                  intro k
                  induction k with
                  | zero =>
                    intro j z g3 hi hk ez hg3
                    omega
                  | succ k ih =>
                    intro j z g3 hi hk ez hg3 H locs ls hP hD hS hl
                    refine lv_iload hx hb dX2_mix_516 (lv_at hl 0 rfl) ?_
                    refine lv_bipush (v := 8) hx hb dX2_mix_518 (by decide) ?_
                    refine lv_icmp_ge (tgt := 562) hx hb dX2_mix_520 (by decide) (fun c520 => ?_) (fun c520 => ?_)
                    · have hge : 8 ≤ j := kd_ge (n := 8) ez (by omega) (by decide) c520
                      have hP := kd_arrP hP hD 1 rfl (kd_mix hh (kd_wd bl) mn (kd_lm la)) (fun q hq => by rw [hg3 q, if_pos (by omega)])
                      have hD := hD.set (p := 1) (e := .inl (cA, 8, .inl (kd_mix hh (kd_wd bl) mn (kd_lm la)))) rfl
                      have hP : va_P (dC, dI) vwCl [(h0, .inr (2, [.int rd, .int op, .int dn, .ref qk, .ref qh, .ref qv, .ref qm, .ref qb, .int bb, .long mx, .int ln, .int nn, .ref qr])), (qh, .inl (cA, 8, .inl (kd_mix hh (kd_wd bl) mn (kd_lm la)))), (qv, .inl (cA, 16, .inl (kd_rounds (kd_wd bl) 10 (kd_v0 hh mn (kd_lm la))))), (qm, .inl (cA, 16, .inl (kd_wd bl))), (qb, .inl (cA, 64, .inl bl)), (qr, .inl (cA, 160, .inl kd_PL))] H := hP
                      have hD : va_D A [(h0, .inr (2, [.int rd, .int op, .int dn, .ref qk, .ref qh, .ref qv, .ref qm, .ref qb, .int bb, .long mx, .int ln, .int nn, .ref qr])), (qh, .inl (cA, 8, .inl (kd_mix hh (kd_wd bl) mn (kd_lm la)))), (qv, .inl (cA, 16, .inl (kd_rounds (kd_wd bl) 10 (kd_v0 hh mn (kd_lm la))))), (qm, .inl (cA, 16, .inl (kd_wd bl))), (qb, .inl (cA, 64, .inl bl)), (qr, .inl (cA, 160, .inl kd_PL))] := hD
                      have hP9 := hP.sub (ws' := [(h0, .inr (2, [.int rd, .int op, .int dn, .ref qk, .ref qh, .ref qv, .ref qm, .ref qb, .int bb, .long mx, .int ln, .int nn, .ref qr])), (qh, .inl (cA, 8, .inl (kd_mix hh (kd_wd bl) mn (kd_lm la)))), (qv, .inl (cA, 16, .inl (kd_rounds (kd_wd bl) 10 (kd_v0 hh mn (kd_lm la))))), (qm, .inl (cA, 16, .inl (kd_wd bl))), (qb, .inl (cA, 64, .inl bl)), (qr, .inl (cA, 160, .inl kd_PL))]) [0, 1, 2, 3, 4, 5] rfl
                      have hD9 := hD.sub (ws' := [(h0, .inr (2, [.int rd, .int op, .int dn, .ref qk, .ref qh, .ref qv, .ref qm, .ref qb, .int bb, .long mx, .int ln, .int nn, .ref qr])), (qh, .inl (cA, 8, .inl (kd_mix hh (kd_wd bl) mn (kd_lm la)))), (qv, .inl (cA, 16, .inl (kd_rounds (kd_wd bl) 10 (kd_v0 hh mn (kd_lm la))))), (qm, .inl (cA, 16, .inl (kd_wd bl))), (qb, .inl (cA, 64, .inl bl)), (qr, .inl (cA, 160, .inl kd_PL))]) [0, 1, 2, 3, 4, 5] (by decide) rfl
                      exact W.vret hx hb hr (fun t ht hW => ⟨⟨(kd_rounds (kd_wd bl) 10 (kd_v0 hh mn (kd_lm la))), rfl, trivial, by rw [ht]; exact hP9, va_K.moved hW.alike hK, hD9⟩, hS.F ht⟩) hS.2.2 dX2_mix_562
                    · have hlt : j < 8 := kd_lt (n := 8) ez (by omega) (by decide) c520
                      refine lv_aload_n hx hb dX2_mix_523 rfl (lv_at hl 1 rfl) ?_
                      refine va_get (D := (dC, dI)) (ci := 2) (v := .ref qh) (C := RX2) (T := TX2) (N := 13) hx hb hts ki2 hown hK hP 0 rfl rfl 4 (by decide) k2 (fun _ h9 => h9) rfl dX2_mix_524 ?_
                      refine lv_iload hx hb dX2_mix_527 (lv_at hl 0 rfl) ?_
                      refine lv_aload_n hx hb dX2_mix_529 rfl (lv_at hl 1 rfl) ?_
                      refine va_get (D := (dC, dI)) (ci := 2) (v := .ref qh) (C := RX2) (T := TX2) (N := 13) hx hb hts ki2 hown hK hP 0 rfl rfl 4 (by decide) k2 (fun _ h9 => h9) rfl dX2_mix_530 ?_
                      refine lv_iload hx hb dX2_mix_533 (lv_at hl 0 rfl) ?_
                      refine kd_ild j hx hb hK hP 1 0 rfl rfl ez hlt (by decide) dX2_mix_535 ?_
                      refine lv_aload_n hx hb dX2_mix_536 rfl (lv_at hl 1 rfl) ?_
                      refine va_get (D := (dC, dI)) (ci := 2) (v := .ref qv) (C := RX2) (T := TX2) (N := 13) hx hb hts ki2 hown hK hP 0 rfl rfl 5 (by decide) k1 (fun _ h9 => h9) rfl dX2_mix_537 ?_
                      refine lv_iload hx hb dX2_mix_540 (lv_at hl 0 rfl) ?_
                      refine kd_ild j hx hb hK hP 2 0 rfl rfl ez (by omega) (by decide) dX2_mix_542 ?_
                      refine lv_ixor hx hb dX2_mix_543 ?_
                      refine lv_aload_n hx hb dX2_mix_544 rfl (lv_at hl 1 rfl) ?_
                      refine va_get (D := (dC, dI)) (ci := 2) (v := .ref qv) (C := RX2) (T := TX2) (N := 13) hx hb hts ki2 hown hK hP 0 rfl rfl 5 (by decide) k1 (fun _ h9 => h9) rfl dX2_mix_545 ?_
                      refine lv_iload hx hb dX2_mix_548 (lv_at hl 0 rfl) ?_
                      refine lv_bipush (v := 8) hx hb dX2_mix_550 (by decide) ?_
                      refine lv_iadd hx hb dX2_mix_552 ?_
                      refine kd_ild (j + 8) hx hb hK hP 2 0 rfl rfl (by rw [ez]; exact nI_add _ _) (by omega) (by decide) dX2_mix_553 ?_
                      refine lv_ixor hx hb dX2_mix_554 ?_
                      refine lv_topi (fun x555 ex555 => ?_)
                      refine kd_ist j hx hb hK hP hD hS 1 0 rfl rfl ez hlt (by decide) dX2_mix_555 (fun f555 ef555 H locs hP hD hS => ?_)
                      have hP : va_P (dC, dI) vwCl [(h0, .inr (2, [.int rd, .int op, .int dn, .ref qk, .ref qh, .ref qv, .ref qm, .ref qb, .int bb, .long mx, .int ln, .int nn, .ref qr])), (qh, .inl (cA, 8, .inl f555)), (qv, .inl (cA, 16, .inl (kd_rounds (kd_wd bl) 10 (kd_v0 hh mn (kd_lm la))))), (qm, .inl (cA, 16, .inl (kd_wd bl))), (qb, .inl (cA, 64, .inl bl)), (qr, .inl (cA, 160, .inl kd_PL))] H := hP
                      have hD : va_D A [(h0, .inr (2, [.int rd, .int op, .int dn, .ref qk, .ref qh, .ref qv, .ref qm, .ref qb, .int bb, .long mx, .int ln, .int nn, .ref qr])), (qh, .inl (cA, 8, .inl f555)), (qv, .inl (cA, 16, .inl (kd_rounds (kd_wd bl) 10 (kd_v0 hh mn (kd_lm la))))), (qm, .inl (cA, 16, .inl (kd_wd bl))), (qb, .inl (cA, 64, .inl bl)), (qr, .inl (cA, 160, .inl kd_PL))] := hD
                      obtain ⟨x556, ex556⟩ : ∃ zz : Int32, zz = z + 1 := ⟨_, rfl⟩
                      refine lv_iinc (v := x556) (lv' := [(4, .int x556), (0, .ref h0), (1, .long mn), (3, .int la)]) hx hb dX2_mix_556 hl (k := 0) rfl (by rw [ex556]; rfl) (by decide) rfl (fun ls hl => ?_)
                      refine lv_goto (tgt := 516) hx hb dX2_mix_559 (by decide) ?_
                      exact ih  (j + 1) x556 f555 (by omega) (by omega) (by rw [ex556, ez]; exact nI_1 j) (by rw [ef555, ex555, Int32.xor_assoc]; exact kd_finStep hg3) _ _ ls (hP.sub [0, 1, 2, 3, 4, 5] rfl) (hD.sub [0, 1, 2, 3, 4, 5] (by decide) rfl) hS (lv_sub hl [0, 1, 2, 3] rfl)
                exact lp3 9 0 0 hh (by omega) (by omega) rfl (fun q => (if_neg (Nat.not_lt_zero q)).symm) _ _ ls (hP.sub [0, 1, 2, 3, 4, 5] rfl) (hD.sub [0, 1, 2, 3, 4, 5] (by decide) rfl) hS (lv_sub hl [0, 1, 2, 3] rfl)
              · have hlt : n < 10 := by have := kd_lt (n := 160) ey (by omega) (by decide) c184; omega
                refine lv_aload_n hx hb dX2_mix_187 rfl (lv_at hl 1 rfl) ?_
                refine lv_iconst (v := 0) hx hb dX2_mix_188 (by decide) ?_
                refine lv_iconst (v := 4) hx hb dX2_mix_189 (by decide) ?_
                refine lv_bipush (v := 8) hx hb dX2_mix_190 (by decide) ?_
                refine lv_bipush (v := 12) hx hb dX2_mix_192 (by decide) ?_
                refine lv_aload_n hx hb dX2_mix_194 rfl (lv_at hl 1 rfl) ?_
                refine va_get (D := (dC, dI)) (ci := 2) (v := .ref qm) (C := RX2) (T := TX2) (N := 13) hx hb hts ki2 hown hK hP 0 rfl rfl 6 (by decide) k3 (fun _ h9 => h9) rfl dX2_mix_195 ?_
                refine lv_aload_n hx hb dX2_mix_198 rfl (lv_at hl 1 rfl) ?_
                refine va_get (D := (dC, dI)) (ci := 2) (v := .ref qr) (C := RX2) (T := TX2) (N := 13) hx hb hts ki2 hown hK hP 0 rfl rfl 12 (by decide) k4 (fun _ h9 => h9) rfl dX2_mix_199 ?_
                refine lv_iload hx hb dX2_mix_202 (lv_at hl 0 rfl) ?_
                refine kd_ild (16 * n) hx hb hK hP 5 0 rfl rfl ey (by omega) (by decide) dX2_mix_204 ?_
                refine kd_ild (kd_pl (16 * n)) hx hb hK hP 3 0 rfl rfl rfl (kd_pl_lt _ (by omega)) (by decide) dX2_mix_205 ?_
                refine lv_aload_n hx hb dX2_mix_206 rfl (lv_at hl 1 rfl) ?_
                refine va_get (D := (dC, dI)) (ci := 2) (v := .ref qm) (C := RX2) (T := TX2) (N := 13) hx hb hts ki2 hown hK hP 0 rfl rfl 6 (by decide) k3 (fun _ h9 => h9) rfl dX2_mix_207 ?_
                refine lv_aload_n hx hb dX2_mix_210 rfl (lv_at hl 1 rfl) ?_
                refine va_get (D := (dC, dI)) (ci := 2) (v := .ref qr) (C := RX2) (T := TX2) (N := 13) hx hb hts ki2 hown hK hP 0 rfl rfl 12 (by decide) k4 (fun _ h9 => h9) rfl dX2_mix_211 ?_
                refine lv_iload hx hb dX2_mix_214 (lv_at hl 0 rfl) ?_
                refine lv_iconst (v := 1) hx hb dX2_mix_216 (by decide) ?_
                refine lv_iadd hx hb dX2_mix_217 ?_
                refine kd_ild (16 * n + 1) hx hb hK hP 5 0 rfl rfl (by rw [ey]; exact nI_add _ _) (by omega) (by decide) dX2_mix_218 ?_
                refine kd_ild (kd_pl (16 * n + 1)) hx hb hK hP 3 0 rfl rfl rfl (kd_pl_lt _ (by omega)) (by decide) dX2_mix_219 ?_
                have hPc := hP.sub (ws' := [(h0, .inr (2, [.int rd, .int op, .int dn, .ref qk, .ref qh, .ref qv, .ref qm, .ref qb, .int bb, .long mx, .int ln, .int nn, .ref qr])), (qv, .inl (cA, 16, .inl g))]) [0, 2] rfl
                have hDc := hD.sub (ws' := [(h0, .inr (2, [.int rd, .int op, .int dn, .ref qk, .ref qh, .ref qv, .ref qm, .ref qb, .int bb, .long mx, .int ln, .int nn, .ref qr])), (qv, .inl (cA, 16, .inl g))]) [0, 2] (by decide) rfl
                have hFc := va_free (wc := [(h0, .inr (2, [.int rd, .int op, .int dn, .ref qk, .ref qh, .ref qv, .ref qm, .ref qb, .int bb, .long mx, .int ln, .int nn, .ref qr])), (qv, .inl (cA, 16, .inl g))]) hD hS hA [0, 2] rfl
                refine va_callv (va_runV (As := [.int 0, .int 4, .int 8, .int 12, .int ((kd_wd bl) (kd_pl (16 * n))), .int ((kd_wd bl) (kd_pl (16 * n + 1)))]) (rest := []) ⟨hx, hb, hml, hown, hts⟩ (cX2_g_ok l dC dI cA tb H.size h0 qk qh qv qm qb qr rd op dn g mx ln nn bb 0 4 8 12 ((kd_wd bl) (kd_pl (16 * n))) ((kd_wd bl) (kd_pl (16 * n + 1))) (by decide) (by decide) (by decide) (by decide)) (cwV 6 hts gX2_mix_X2_g rfl rfl rfl (by decide +kernel) ⟨Nat.le_of_ble_eq_true rfl, Nat.le_of_ble_eq_true rfl⟩) ⟨fun a U g mk q => kd_calling rfl rfl q, va_recv hK hPc (ci := 2) (q0 := 0) rfl rfl, fun U hU hW => ⟨rfl, kd_pre hPc hK hDc hT hS hFc U hU hW⟩⟩ rfl rfl hl.1 rfl (lv_room (Nat.le_of_ble_eq_true rfl)) dX2_mix_220 ⟨Nat.le_of_ble_eq_true rfl, Nat.le_of_ble_eq_true rfl⟩) hS (fun q _ h => hFc q h) hFc (fun u t H1 locs ht hvm hw hB hz1 hk1 hS => ?_)
                obtain ⟨vo220, rfl⟩ : ∃ z, z = u := ⟨_, rfl⟩
                have hw220 : vo220 = kd_G 0 4 8 12 ((kd_wd bl) (kd_pl (16 * n))) ((kd_wd bl) (kd_pl (16 * n + 1))) g := hw
                have hP1 : va_P (dC, dI) vwCl [(h0, .inr (2, [.int rd, .int op, .int dn, .ref qk, .ref qh, .ref qv, .ref qm, .ref qb, .int bb, .long mx, .int ln, .int nn, .ref qr])), (qv, .inl (cA, 16, .inl vo220))] H1 := by rw [← ht]; exact hB.1
                have hD1 : va_D (va_A [(h0, .inr (2, [.int rd, .int op, .int dn, .ref qk, .ref qh, .ref qv, .ref qm, .ref qb, .int bb, .long mx, .int ln, .int nn, .ref qr])), (qv, .inl (cA, 16, .inl g))] H.size) [(h0, .inr (2, [.int rd, .int op, .int dn, .ref qk, .ref qh, .ref qv, .ref qm, .ref qb, .int bb, .long mx, .int ln, .int nn, .ref qr])), (qv, .inl (cA, 16, .inl vo220))] := hB.2.2
                obtain ⟨hP, hD⟩ := va_join (wr := [(qh, .inl (cA, 8, .inl hh)), (qm, .inl (cA, 16, .inl (kd_wd bl))), (qb, .inl (cA, 64, .inl bl)), (qr, .inl (cA, 160, .inl kd_PL))]) (w1 := [(h0, .inr (2, [.int rd, .int op, .int dn, .ref qk, .ref qh, .ref qv, .ref qm, .ref qb, .int bb, .long mx, .int ln, .int nn, .ref qr])), (qv, .inl (cA, 16, .inl vo220))]) hP hD [0, 2] [1, 3, 4, 5] rfl rfl (by decide) (by decide) hk1 hFc hP1 hD1
                clear hw hB hk1 hPc hDc hFc hP1 hD1 hvm hz1
                generalize H1 = H at hP hS ⊢
                have hP : va_P (dC, dI) vwCl [(qh, .inl (cA, 8, .inl hh)), (qm, .inl (cA, 16, .inl (kd_wd bl))), (qb, .inl (cA, 64, .inl bl)), (qr, .inl (cA, 160, .inl kd_PL)), (h0, .inr (2, [.int rd, .int op, .int dn, .ref qk, .ref qh, .ref qv, .ref qm, .ref qb, .int bb, .long mx, .int ln, .int nn, .ref qr])), (qv, .inl (cA, 16, .inl vo220))] H := hP
                have hD : va_D A [(qh, .inl (cA, 8, .inl hh)), (qm, .inl (cA, 16, .inl (kd_wd bl))), (qb, .inl (cA, 64, .inl bl)), (qr, .inl (cA, 160, .inl kd_PL)), (h0, .inr (2, [.int rd, .int op, .int dn, .ref qk, .ref qh, .ref qv, .ref qm, .ref qb, .int bb, .long mx, .int ln, .int nn, .ref qr])), (qv, .inl (cA, 16, .inl vo220))] := hD
                refine lv_aload_n hx hb dX2_mix_223 rfl (lv_at hl 1 rfl) ?_
                refine lv_iconst (v := 1) hx hb dX2_mix_224 (by decide) ?_
                refine lv_iconst (v := 5) hx hb dX2_mix_225 (by decide) ?_
                refine lv_bipush (v := 9) hx hb dX2_mix_226 (by decide) ?_
                refine lv_bipush (v := 13) hx hb dX2_mix_228 (by decide) ?_
                refine lv_aload_n hx hb dX2_mix_230 rfl (lv_at hl 1 rfl) ?_
                refine va_get (D := (dC, dI)) (ci := 2) (v := .ref qm) (C := RX2) (T := TX2) (N := 13) hx hb hts ki2 hown hK hP 4 rfl rfl 6 (by decide) k3 (fun _ h9 => h9) rfl dX2_mix_231 ?_
                refine lv_aload_n hx hb dX2_mix_234 rfl (lv_at hl 1 rfl) ?_
                refine va_get (D := (dC, dI)) (ci := 2) (v := .ref qr) (C := RX2) (T := TX2) (N := 13) hx hb hts ki2 hown hK hP 4 rfl rfl 12 (by decide) k4 (fun _ h9 => h9) rfl dX2_mix_235 ?_
                refine lv_iload hx hb dX2_mix_238 (lv_at hl 0 rfl) ?_
                refine lv_iconst (v := 2) hx hb dX2_mix_240 (by decide) ?_
                refine lv_iadd hx hb dX2_mix_241 ?_
                refine kd_ild (16 * n + 2) hx hb hK hP 3 0 rfl rfl (by rw [ey]; exact nI_add _ _) (by omega) (by decide) dX2_mix_242 ?_
                refine kd_ild (kd_pl (16 * n + 2)) hx hb hK hP 1 0 rfl rfl rfl (kd_pl_lt _ (by omega)) (by decide) dX2_mix_243 ?_
                refine lv_aload_n hx hb dX2_mix_244 rfl (lv_at hl 1 rfl) ?_
                refine va_get (D := (dC, dI)) (ci := 2) (v := .ref qm) (C := RX2) (T := TX2) (N := 13) hx hb hts ki2 hown hK hP 4 rfl rfl 6 (by decide) k3 (fun _ h9 => h9) rfl dX2_mix_245 ?_
                refine lv_aload_n hx hb dX2_mix_248 rfl (lv_at hl 1 rfl) ?_
                refine va_get (D := (dC, dI)) (ci := 2) (v := .ref qr) (C := RX2) (T := TX2) (N := 13) hx hb hts ki2 hown hK hP 4 rfl rfl 12 (by decide) k4 (fun _ h9 => h9) rfl dX2_mix_249 ?_
                refine lv_iload hx hb dX2_mix_252 (lv_at hl 0 rfl) ?_
                refine lv_iconst (v := 3) hx hb dX2_mix_254 (by decide) ?_
                refine lv_iadd hx hb dX2_mix_255 ?_
                refine kd_ild (16 * n + 3) hx hb hK hP 3 0 rfl rfl (by rw [ey]; exact nI_add _ _) (by omega) (by decide) dX2_mix_256 ?_
                refine kd_ild (kd_pl (16 * n + 3)) hx hb hK hP 1 0 rfl rfl rfl (kd_pl_lt _ (by omega)) (by decide) dX2_mix_257 ?_
                have hPc := hP.sub (ws' := [(h0, .inr (2, [.int rd, .int op, .int dn, .ref qk, .ref qh, .ref qv, .ref qm, .ref qb, .int bb, .long mx, .int ln, .int nn, .ref qr])), (qv, .inl (cA, 16, .inl vo220))]) [4, 5] rfl
                have hDc := hD.sub (ws' := [(h0, .inr (2, [.int rd, .int op, .int dn, .ref qk, .ref qh, .ref qv, .ref qm, .ref qb, .int bb, .long mx, .int ln, .int nn, .ref qr])), (qv, .inl (cA, 16, .inl vo220))]) [4, 5] (by decide) rfl
                have hFc := va_free (wc := [(h0, .inr (2, [.int rd, .int op, .int dn, .ref qk, .ref qh, .ref qv, .ref qm, .ref qb, .int bb, .long mx, .int ln, .int nn, .ref qr])), (qv, .inl (cA, 16, .inl vo220))]) hD hS hA [4, 5] rfl
                refine va_callv (va_runV (As := [.int 1, .int 5, .int 9, .int 13, .int ((kd_wd bl) (kd_pl (16 * n + 2))), .int ((kd_wd bl) (kd_pl (16 * n + 3)))]) (rest := []) ⟨hx, hb, hml, hown, hts⟩ (cX2_g_ok l dC dI cA tb H.size h0 qk qh qv qm qb qr rd op dn vo220 mx ln nn bb 1 5 9 13 ((kd_wd bl) (kd_pl (16 * n + 2))) ((kd_wd bl) (kd_pl (16 * n + 3))) (by decide) (by decide) (by decide) (by decide)) (cwV 6 hts gX2_mix_X2_g rfl rfl rfl (by decide +kernel) ⟨Nat.le_of_ble_eq_true rfl, Nat.le_of_ble_eq_true rfl⟩) ⟨fun a U g mk q => kd_calling rfl rfl q, va_recv hK hPc (ci := 2) (q0 := 0) rfl rfl, fun U hU hW => ⟨rfl, kd_pre hPc hK hDc hT hS hFc U hU hW⟩⟩ rfl rfl hl.1 rfl (lv_room (Nat.le_of_ble_eq_true rfl)) dX2_mix_258 ⟨Nat.le_of_ble_eq_true rfl, Nat.le_of_ble_eq_true rfl⟩) hS (fun q _ h => hFc q h) hFc (fun u t H1 locs ht hvm hw hB hz1 hk1 hS => ?_)
                obtain ⟨vo258, rfl⟩ : ∃ z, z = u := ⟨_, rfl⟩
                have hw258 : vo258 = kd_G 1 5 9 13 ((kd_wd bl) (kd_pl (16 * n + 2))) ((kd_wd bl) (kd_pl (16 * n + 3))) vo220 := hw
                have hP1 : va_P (dC, dI) vwCl [(h0, .inr (2, [.int rd, .int op, .int dn, .ref qk, .ref qh, .ref qv, .ref qm, .ref qb, .int bb, .long mx, .int ln, .int nn, .ref qr])), (qv, .inl (cA, 16, .inl vo258))] H1 := by rw [← ht]; exact hB.1
                have hD1 : va_D (va_A [(h0, .inr (2, [.int rd, .int op, .int dn, .ref qk, .ref qh, .ref qv, .ref qm, .ref qb, .int bb, .long mx, .int ln, .int nn, .ref qr])), (qv, .inl (cA, 16, .inl vo220))] H.size) [(h0, .inr (2, [.int rd, .int op, .int dn, .ref qk, .ref qh, .ref qv, .ref qm, .ref qb, .int bb, .long mx, .int ln, .int nn, .ref qr])), (qv, .inl (cA, 16, .inl vo258))] := hB.2.2
                obtain ⟨hP, hD⟩ := va_join (wr := [(qh, .inl (cA, 8, .inl hh)), (qm, .inl (cA, 16, .inl (kd_wd bl))), (qb, .inl (cA, 64, .inl bl)), (qr, .inl (cA, 160, .inl kd_PL))]) (w1 := [(h0, .inr (2, [.int rd, .int op, .int dn, .ref qk, .ref qh, .ref qv, .ref qm, .ref qb, .int bb, .long mx, .int ln, .int nn, .ref qr])), (qv, .inl (cA, 16, .inl vo258))]) hP hD [4, 5] [0, 1, 2, 3] rfl rfl (by decide) (by decide) hk1 hFc hP1 hD1
                clear hw hB hk1 hPc hDc hFc hP1 hD1 hvm hz1
                generalize H1 = H at hP hS ⊢
                have hP : va_P (dC, dI) vwCl [(qh, .inl (cA, 8, .inl hh)), (qm, .inl (cA, 16, .inl (kd_wd bl))), (qb, .inl (cA, 64, .inl bl)), (qr, .inl (cA, 160, .inl kd_PL)), (h0, .inr (2, [.int rd, .int op, .int dn, .ref qk, .ref qh, .ref qv, .ref qm, .ref qb, .int bb, .long mx, .int ln, .int nn, .ref qr])), (qv, .inl (cA, 16, .inl vo258))] H := hP
                have hD : va_D A [(qh, .inl (cA, 8, .inl hh)), (qm, .inl (cA, 16, .inl (kd_wd bl))), (qb, .inl (cA, 64, .inl bl)), (qr, .inl (cA, 160, .inl kd_PL)), (h0, .inr (2, [.int rd, .int op, .int dn, .ref qk, .ref qh, .ref qv, .ref qm, .ref qb, .int bb, .long mx, .int ln, .int nn, .ref qr])), (qv, .inl (cA, 16, .inl vo258))] := hD
                refine lv_aload_n hx hb dX2_mix_261 rfl (lv_at hl 1 rfl) ?_
                refine lv_iconst (v := 2) hx hb dX2_mix_262 (by decide) ?_
                refine lv_bipush (v := 6) hx hb dX2_mix_263 (by decide) ?_
                refine lv_bipush (v := 10) hx hb dX2_mix_265 (by decide) ?_
                refine lv_bipush (v := 14) hx hb dX2_mix_267 (by decide) ?_
                refine lv_aload_n hx hb dX2_mix_269 rfl (lv_at hl 1 rfl) ?_
                refine va_get (D := (dC, dI)) (ci := 2) (v := .ref qm) (C := RX2) (T := TX2) (N := 13) hx hb hts ki2 hown hK hP 4 rfl rfl 6 (by decide) k3 (fun _ h9 => h9) rfl dX2_mix_270 ?_
                refine lv_aload_n hx hb dX2_mix_273 rfl (lv_at hl 1 rfl) ?_
                refine va_get (D := (dC, dI)) (ci := 2) (v := .ref qr) (C := RX2) (T := TX2) (N := 13) hx hb hts ki2 hown hK hP 4 rfl rfl 12 (by decide) k4 (fun _ h9 => h9) rfl dX2_mix_274 ?_
                refine lv_iload hx hb dX2_mix_277 (lv_at hl 0 rfl) ?_
                refine lv_iconst (v := 4) hx hb dX2_mix_279 (by decide) ?_
                refine lv_iadd hx hb dX2_mix_280 ?_
                refine kd_ild (16 * n + 4) hx hb hK hP 3 0 rfl rfl (by rw [ey]; exact nI_add _ _) (by omega) (by decide) dX2_mix_281 ?_
                refine kd_ild (kd_pl (16 * n + 4)) hx hb hK hP 1 0 rfl rfl rfl (kd_pl_lt _ (by omega)) (by decide) dX2_mix_282 ?_
                refine lv_aload_n hx hb dX2_mix_283 rfl (lv_at hl 1 rfl) ?_
                refine va_get (D := (dC, dI)) (ci := 2) (v := .ref qm) (C := RX2) (T := TX2) (N := 13) hx hb hts ki2 hown hK hP 4 rfl rfl 6 (by decide) k3 (fun _ h9 => h9) rfl dX2_mix_284 ?_
                refine lv_aload_n hx hb dX2_mix_287 rfl (lv_at hl 1 rfl) ?_
                refine va_get (D := (dC, dI)) (ci := 2) (v := .ref qr) (C := RX2) (T := TX2) (N := 13) hx hb hts ki2 hown hK hP 4 rfl rfl 12 (by decide) k4 (fun _ h9 => h9) rfl dX2_mix_288 ?_
                refine lv_iload hx hb dX2_mix_291 (lv_at hl 0 rfl) ?_
                refine lv_iconst (v := 5) hx hb dX2_mix_293 (by decide) ?_
                refine lv_iadd hx hb dX2_mix_294 ?_
                refine kd_ild (16 * n + 5) hx hb hK hP 3 0 rfl rfl (by rw [ey]; exact nI_add _ _) (by omega) (by decide) dX2_mix_295 ?_
                refine kd_ild (kd_pl (16 * n + 5)) hx hb hK hP 1 0 rfl rfl rfl (kd_pl_lt _ (by omega)) (by decide) dX2_mix_296 ?_
                have hPc := hP.sub (ws' := [(h0, .inr (2, [.int rd, .int op, .int dn, .ref qk, .ref qh, .ref qv, .ref qm, .ref qb, .int bb, .long mx, .int ln, .int nn, .ref qr])), (qv, .inl (cA, 16, .inl vo258))]) [4, 5] rfl
                have hDc := hD.sub (ws' := [(h0, .inr (2, [.int rd, .int op, .int dn, .ref qk, .ref qh, .ref qv, .ref qm, .ref qb, .int bb, .long mx, .int ln, .int nn, .ref qr])), (qv, .inl (cA, 16, .inl vo258))]) [4, 5] (by decide) rfl
                have hFc := va_free (wc := [(h0, .inr (2, [.int rd, .int op, .int dn, .ref qk, .ref qh, .ref qv, .ref qm, .ref qb, .int bb, .long mx, .int ln, .int nn, .ref qr])), (qv, .inl (cA, 16, .inl vo258))]) hD hS hA [4, 5] rfl
                refine va_callv (va_runV (As := [.int 2, .int 6, .int 10, .int 14, .int ((kd_wd bl) (kd_pl (16 * n + 4))), .int ((kd_wd bl) (kd_pl (16 * n + 5)))]) (rest := []) ⟨hx, hb, hml, hown, hts⟩ (cX2_g_ok l dC dI cA tb H.size h0 qk qh qv qm qb qr rd op dn vo258 mx ln nn bb 2 6 10 14 ((kd_wd bl) (kd_pl (16 * n + 4))) ((kd_wd bl) (kd_pl (16 * n + 5))) (by decide) (by decide) (by decide) (by decide)) (cwV 6 hts gX2_mix_X2_g rfl rfl rfl (by decide +kernel) ⟨Nat.le_of_ble_eq_true rfl, Nat.le_of_ble_eq_true rfl⟩) ⟨fun a U g mk q => kd_calling rfl rfl q, va_recv hK hPc (ci := 2) (q0 := 0) rfl rfl, fun U hU hW => ⟨rfl, kd_pre hPc hK hDc hT hS hFc U hU hW⟩⟩ rfl rfl hl.1 rfl (lv_room (Nat.le_of_ble_eq_true rfl)) dX2_mix_297 ⟨Nat.le_of_ble_eq_true rfl, Nat.le_of_ble_eq_true rfl⟩) hS (fun q _ h => hFc q h) hFc (fun u t H1 locs ht hvm hw hB hz1 hk1 hS => ?_)
                obtain ⟨vo297, rfl⟩ : ∃ z, z = u := ⟨_, rfl⟩
                have hw297 : vo297 = kd_G 2 6 10 14 ((kd_wd bl) (kd_pl (16 * n + 4))) ((kd_wd bl) (kd_pl (16 * n + 5))) vo258 := hw
                have hP1 : va_P (dC, dI) vwCl [(h0, .inr (2, [.int rd, .int op, .int dn, .ref qk, .ref qh, .ref qv, .ref qm, .ref qb, .int bb, .long mx, .int ln, .int nn, .ref qr])), (qv, .inl (cA, 16, .inl vo297))] H1 := by rw [← ht]; exact hB.1
                have hD1 : va_D (va_A [(h0, .inr (2, [.int rd, .int op, .int dn, .ref qk, .ref qh, .ref qv, .ref qm, .ref qb, .int bb, .long mx, .int ln, .int nn, .ref qr])), (qv, .inl (cA, 16, .inl vo258))] H.size) [(h0, .inr (2, [.int rd, .int op, .int dn, .ref qk, .ref qh, .ref qv, .ref qm, .ref qb, .int bb, .long mx, .int ln, .int nn, .ref qr])), (qv, .inl (cA, 16, .inl vo297))] := hB.2.2
                obtain ⟨hP, hD⟩ := va_join (wr := [(qh, .inl (cA, 8, .inl hh)), (qm, .inl (cA, 16, .inl (kd_wd bl))), (qb, .inl (cA, 64, .inl bl)), (qr, .inl (cA, 160, .inl kd_PL))]) (w1 := [(h0, .inr (2, [.int rd, .int op, .int dn, .ref qk, .ref qh, .ref qv, .ref qm, .ref qb, .int bb, .long mx, .int ln, .int nn, .ref qr])), (qv, .inl (cA, 16, .inl vo297))]) hP hD [4, 5] [0, 1, 2, 3] rfl rfl (by decide) (by decide) hk1 hFc hP1 hD1
                clear hw hB hk1 hPc hDc hFc hP1 hD1 hvm hz1
                generalize H1 = H at hP hS ⊢
                have hP : va_P (dC, dI) vwCl [(qh, .inl (cA, 8, .inl hh)), (qm, .inl (cA, 16, .inl (kd_wd bl))), (qb, .inl (cA, 64, .inl bl)), (qr, .inl (cA, 160, .inl kd_PL)), (h0, .inr (2, [.int rd, .int op, .int dn, .ref qk, .ref qh, .ref qv, .ref qm, .ref qb, .int bb, .long mx, .int ln, .int nn, .ref qr])), (qv, .inl (cA, 16, .inl vo297))] H := hP
                have hD : va_D A [(qh, .inl (cA, 8, .inl hh)), (qm, .inl (cA, 16, .inl (kd_wd bl))), (qb, .inl (cA, 64, .inl bl)), (qr, .inl (cA, 160, .inl kd_PL)), (h0, .inr (2, [.int rd, .int op, .int dn, .ref qk, .ref qh, .ref qv, .ref qm, .ref qb, .int bb, .long mx, .int ln, .int nn, .ref qr])), (qv, .inl (cA, 16, .inl vo297))] := hD
                refine lv_aload_n hx hb dX2_mix_300 rfl (lv_at hl 1 rfl) ?_
                refine lv_iconst (v := 3) hx hb dX2_mix_301 (by decide) ?_
                refine lv_bipush (v := 7) hx hb dX2_mix_302 (by decide) ?_
                refine lv_bipush (v := 11) hx hb dX2_mix_304 (by decide) ?_
                refine lv_bipush (v := 15) hx hb dX2_mix_306 (by decide) ?_
                refine lv_aload_n hx hb dX2_mix_308 rfl (lv_at hl 1 rfl) ?_
                refine va_get (D := (dC, dI)) (ci := 2) (v := .ref qm) (C := RX2) (T := TX2) (N := 13) hx hb hts ki2 hown hK hP 4 rfl rfl 6 (by decide) k3 (fun _ h9 => h9) rfl dX2_mix_309 ?_
                refine lv_aload_n hx hb dX2_mix_312 rfl (lv_at hl 1 rfl) ?_
                refine va_get (D := (dC, dI)) (ci := 2) (v := .ref qr) (C := RX2) (T := TX2) (N := 13) hx hb hts ki2 hown hK hP 4 rfl rfl 12 (by decide) k4 (fun _ h9 => h9) rfl dX2_mix_313 ?_
                refine lv_iload hx hb dX2_mix_316 (lv_at hl 0 rfl) ?_
                refine lv_bipush (v := 6) hx hb dX2_mix_318 (by decide) ?_
                refine lv_iadd hx hb dX2_mix_320 ?_
                refine kd_ild (16 * n + 6) hx hb hK hP 3 0 rfl rfl (by rw [ey]; exact nI_add _ _) (by omega) (by decide) dX2_mix_321 ?_
                refine kd_ild (kd_pl (16 * n + 6)) hx hb hK hP 1 0 rfl rfl rfl (kd_pl_lt _ (by omega)) (by decide) dX2_mix_322 ?_
                refine lv_aload_n hx hb dX2_mix_323 rfl (lv_at hl 1 rfl) ?_
                refine va_get (D := (dC, dI)) (ci := 2) (v := .ref qm) (C := RX2) (T := TX2) (N := 13) hx hb hts ki2 hown hK hP 4 rfl rfl 6 (by decide) k3 (fun _ h9 => h9) rfl dX2_mix_324 ?_
                refine lv_aload_n hx hb dX2_mix_327 rfl (lv_at hl 1 rfl) ?_
                refine va_get (D := (dC, dI)) (ci := 2) (v := .ref qr) (C := RX2) (T := TX2) (N := 13) hx hb hts ki2 hown hK hP 4 rfl rfl 12 (by decide) k4 (fun _ h9 => h9) rfl dX2_mix_328 ?_
                refine lv_iload hx hb dX2_mix_331 (lv_at hl 0 rfl) ?_
                refine lv_bipush (v := 7) hx hb dX2_mix_333 (by decide) ?_
                refine lv_iadd hx hb dX2_mix_335 ?_
                refine kd_ild (16 * n + 7) hx hb hK hP 3 0 rfl rfl (by rw [ey]; exact nI_add _ _) (by omega) (by decide) dX2_mix_336 ?_
                refine kd_ild (kd_pl (16 * n + 7)) hx hb hK hP 1 0 rfl rfl rfl (kd_pl_lt _ (by omega)) (by decide) dX2_mix_337 ?_
                have hPc := hP.sub (ws' := [(h0, .inr (2, [.int rd, .int op, .int dn, .ref qk, .ref qh, .ref qv, .ref qm, .ref qb, .int bb, .long mx, .int ln, .int nn, .ref qr])), (qv, .inl (cA, 16, .inl vo297))]) [4, 5] rfl
                have hDc := hD.sub (ws' := [(h0, .inr (2, [.int rd, .int op, .int dn, .ref qk, .ref qh, .ref qv, .ref qm, .ref qb, .int bb, .long mx, .int ln, .int nn, .ref qr])), (qv, .inl (cA, 16, .inl vo297))]) [4, 5] (by decide) rfl
                have hFc := va_free (wc := [(h0, .inr (2, [.int rd, .int op, .int dn, .ref qk, .ref qh, .ref qv, .ref qm, .ref qb, .int bb, .long mx, .int ln, .int nn, .ref qr])), (qv, .inl (cA, 16, .inl vo297))]) hD hS hA [4, 5] rfl
                refine va_callv (va_runV (As := [.int 3, .int 7, .int 11, .int 15, .int ((kd_wd bl) (kd_pl (16 * n + 6))), .int ((kd_wd bl) (kd_pl (16 * n + 7)))]) (rest := []) ⟨hx, hb, hml, hown, hts⟩ (cX2_g_ok l dC dI cA tb H.size h0 qk qh qv qm qb qr rd op dn vo297 mx ln nn bb 3 7 11 15 ((kd_wd bl) (kd_pl (16 * n + 6))) ((kd_wd bl) (kd_pl (16 * n + 7))) (by decide) (by decide) (by decide) (by decide)) (cwV 6 hts gX2_mix_X2_g rfl rfl rfl (by decide +kernel) ⟨Nat.le_of_ble_eq_true rfl, Nat.le_of_ble_eq_true rfl⟩) ⟨fun a U g mk q => kd_calling rfl rfl q, va_recv hK hPc (ci := 2) (q0 := 0) rfl rfl, fun U hU hW => ⟨rfl, kd_pre hPc hK hDc hT hS hFc U hU hW⟩⟩ rfl rfl hl.1 rfl (lv_room (Nat.le_of_ble_eq_true rfl)) dX2_mix_338 ⟨Nat.le_of_ble_eq_true rfl, Nat.le_of_ble_eq_true rfl⟩) hS (fun q _ h => hFc q h) hFc (fun u t H1 locs ht hvm hw hB hz1 hk1 hS => ?_)
                obtain ⟨vo338, rfl⟩ : ∃ z, z = u := ⟨_, rfl⟩
                have hw338 : vo338 = kd_G 3 7 11 15 ((kd_wd bl) (kd_pl (16 * n + 6))) ((kd_wd bl) (kd_pl (16 * n + 7))) vo297 := hw
                have hP1 : va_P (dC, dI) vwCl [(h0, .inr (2, [.int rd, .int op, .int dn, .ref qk, .ref qh, .ref qv, .ref qm, .ref qb, .int bb, .long mx, .int ln, .int nn, .ref qr])), (qv, .inl (cA, 16, .inl vo338))] H1 := by rw [← ht]; exact hB.1
                have hD1 : va_D (va_A [(h0, .inr (2, [.int rd, .int op, .int dn, .ref qk, .ref qh, .ref qv, .ref qm, .ref qb, .int bb, .long mx, .int ln, .int nn, .ref qr])), (qv, .inl (cA, 16, .inl vo297))] H.size) [(h0, .inr (2, [.int rd, .int op, .int dn, .ref qk, .ref qh, .ref qv, .ref qm, .ref qb, .int bb, .long mx, .int ln, .int nn, .ref qr])), (qv, .inl (cA, 16, .inl vo338))] := hB.2.2
                obtain ⟨hP, hD⟩ := va_join (wr := [(qh, .inl (cA, 8, .inl hh)), (qm, .inl (cA, 16, .inl (kd_wd bl))), (qb, .inl (cA, 64, .inl bl)), (qr, .inl (cA, 160, .inl kd_PL))]) (w1 := [(h0, .inr (2, [.int rd, .int op, .int dn, .ref qk, .ref qh, .ref qv, .ref qm, .ref qb, .int bb, .long mx, .int ln, .int nn, .ref qr])), (qv, .inl (cA, 16, .inl vo338))]) hP hD [4, 5] [0, 1, 2, 3] rfl rfl (by decide) (by decide) hk1 hFc hP1 hD1
                clear hw hB hk1 hPc hDc hFc hP1 hD1 hvm hz1
                generalize H1 = H at hP hS ⊢
                have hP : va_P (dC, dI) vwCl [(qh, .inl (cA, 8, .inl hh)), (qm, .inl (cA, 16, .inl (kd_wd bl))), (qb, .inl (cA, 64, .inl bl)), (qr, .inl (cA, 160, .inl kd_PL)), (h0, .inr (2, [.int rd, .int op, .int dn, .ref qk, .ref qh, .ref qv, .ref qm, .ref qb, .int bb, .long mx, .int ln, .int nn, .ref qr])), (qv, .inl (cA, 16, .inl vo338))] H := hP
                have hD : va_D A [(qh, .inl (cA, 8, .inl hh)), (qm, .inl (cA, 16, .inl (kd_wd bl))), (qb, .inl (cA, 64, .inl bl)), (qr, .inl (cA, 160, .inl kd_PL)), (h0, .inr (2, [.int rd, .int op, .int dn, .ref qk, .ref qh, .ref qv, .ref qm, .ref qb, .int bb, .long mx, .int ln, .int nn, .ref qr])), (qv, .inl (cA, 16, .inl vo338))] := hD
                refine lv_aload_n hx hb dX2_mix_341 rfl (lv_at hl 1 rfl) ?_
                refine lv_iconst (v := 0) hx hb dX2_mix_342 (by decide) ?_
                refine lv_iconst (v := 5) hx hb dX2_mix_343 (by decide) ?_
                refine lv_bipush (v := 10) hx hb dX2_mix_344 (by decide) ?_
                refine lv_bipush (v := 15) hx hb dX2_mix_346 (by decide) ?_
                refine lv_aload_n hx hb dX2_mix_348 rfl (lv_at hl 1 rfl) ?_
                refine va_get (D := (dC, dI)) (ci := 2) (v := .ref qm) (C := RX2) (T := TX2) (N := 13) hx hb hts ki2 hown hK hP 4 rfl rfl 6 (by decide) k3 (fun _ h9 => h9) rfl dX2_mix_349 ?_
                refine lv_aload_n hx hb dX2_mix_352 rfl (lv_at hl 1 rfl) ?_
                refine va_get (D := (dC, dI)) (ci := 2) (v := .ref qr) (C := RX2) (T := TX2) (N := 13) hx hb hts ki2 hown hK hP 4 rfl rfl 12 (by decide) k4 (fun _ h9 => h9) rfl dX2_mix_353 ?_
                refine lv_iload hx hb dX2_mix_356 (lv_at hl 0 rfl) ?_
                refine lv_bipush (v := 8) hx hb dX2_mix_358 (by decide) ?_
                refine lv_iadd hx hb dX2_mix_360 ?_
                refine kd_ild (16 * n + 8) hx hb hK hP 3 0 rfl rfl (by rw [ey]; exact nI_add _ _) (by omega) (by decide) dX2_mix_361 ?_
                refine kd_ild (kd_pl (16 * n + 8)) hx hb hK hP 1 0 rfl rfl rfl (kd_pl_lt _ (by omega)) (by decide) dX2_mix_362 ?_
                refine lv_aload_n hx hb dX2_mix_363 rfl (lv_at hl 1 rfl) ?_
                refine va_get (D := (dC, dI)) (ci := 2) (v := .ref qm) (C := RX2) (T := TX2) (N := 13) hx hb hts ki2 hown hK hP 4 rfl rfl 6 (by decide) k3 (fun _ h9 => h9) rfl dX2_mix_364 ?_
                refine lv_aload_n hx hb dX2_mix_367 rfl (lv_at hl 1 rfl) ?_
                refine va_get (D := (dC, dI)) (ci := 2) (v := .ref qr) (C := RX2) (T := TX2) (N := 13) hx hb hts ki2 hown hK hP 4 rfl rfl 12 (by decide) k4 (fun _ h9 => h9) rfl dX2_mix_368 ?_
                refine lv_iload hx hb dX2_mix_371 (lv_at hl 0 rfl) ?_
                refine lv_bipush (v := 9) hx hb dX2_mix_373 (by decide) ?_
                refine lv_iadd hx hb dX2_mix_375 ?_
                refine kd_ild (16 * n + 9) hx hb hK hP 3 0 rfl rfl (by rw [ey]; exact nI_add _ _) (by omega) (by decide) dX2_mix_376 ?_
                refine kd_ild (kd_pl (16 * n + 9)) hx hb hK hP 1 0 rfl rfl rfl (kd_pl_lt _ (by omega)) (by decide) dX2_mix_377 ?_
                have hPc := hP.sub (ws' := [(h0, .inr (2, [.int rd, .int op, .int dn, .ref qk, .ref qh, .ref qv, .ref qm, .ref qb, .int bb, .long mx, .int ln, .int nn, .ref qr])), (qv, .inl (cA, 16, .inl vo338))]) [4, 5] rfl
                have hDc := hD.sub (ws' := [(h0, .inr (2, [.int rd, .int op, .int dn, .ref qk, .ref qh, .ref qv, .ref qm, .ref qb, .int bb, .long mx, .int ln, .int nn, .ref qr])), (qv, .inl (cA, 16, .inl vo338))]) [4, 5] (by decide) rfl
                have hFc := va_free (wc := [(h0, .inr (2, [.int rd, .int op, .int dn, .ref qk, .ref qh, .ref qv, .ref qm, .ref qb, .int bb, .long mx, .int ln, .int nn, .ref qr])), (qv, .inl (cA, 16, .inl vo338))]) hD hS hA [4, 5] rfl
                refine va_callv (va_runV (As := [.int 0, .int 5, .int 10, .int 15, .int ((kd_wd bl) (kd_pl (16 * n + 8))), .int ((kd_wd bl) (kd_pl (16 * n + 9)))]) (rest := []) ⟨hx, hb, hml, hown, hts⟩ (cX2_g_ok l dC dI cA tb H.size h0 qk qh qv qm qb qr rd op dn vo338 mx ln nn bb 0 5 10 15 ((kd_wd bl) (kd_pl (16 * n + 8))) ((kd_wd bl) (kd_pl (16 * n + 9))) (by decide) (by decide) (by decide) (by decide)) (cwV 6 hts gX2_mix_X2_g rfl rfl rfl (by decide +kernel) ⟨Nat.le_of_ble_eq_true rfl, Nat.le_of_ble_eq_true rfl⟩) ⟨fun a U g mk q => kd_calling rfl rfl q, va_recv hK hPc (ci := 2) (q0 := 0) rfl rfl, fun U hU hW => ⟨rfl, kd_pre hPc hK hDc hT hS hFc U hU hW⟩⟩ rfl rfl hl.1 rfl (lv_room (Nat.le_of_ble_eq_true rfl)) dX2_mix_378 ⟨Nat.le_of_ble_eq_true rfl, Nat.le_of_ble_eq_true rfl⟩) hS (fun q _ h => hFc q h) hFc (fun u t H1 locs ht hvm hw hB hz1 hk1 hS => ?_)
                obtain ⟨vo378, rfl⟩ : ∃ z, z = u := ⟨_, rfl⟩
                have hw378 : vo378 = kd_G 0 5 10 15 ((kd_wd bl) (kd_pl (16 * n + 8))) ((kd_wd bl) (kd_pl (16 * n + 9))) vo338 := hw
                have hP1 : va_P (dC, dI) vwCl [(h0, .inr (2, [.int rd, .int op, .int dn, .ref qk, .ref qh, .ref qv, .ref qm, .ref qb, .int bb, .long mx, .int ln, .int nn, .ref qr])), (qv, .inl (cA, 16, .inl vo378))] H1 := by rw [← ht]; exact hB.1
                have hD1 : va_D (va_A [(h0, .inr (2, [.int rd, .int op, .int dn, .ref qk, .ref qh, .ref qv, .ref qm, .ref qb, .int bb, .long mx, .int ln, .int nn, .ref qr])), (qv, .inl (cA, 16, .inl vo338))] H.size) [(h0, .inr (2, [.int rd, .int op, .int dn, .ref qk, .ref qh, .ref qv, .ref qm, .ref qb, .int bb, .long mx, .int ln, .int nn, .ref qr])), (qv, .inl (cA, 16, .inl vo378))] := hB.2.2
                obtain ⟨hP, hD⟩ := va_join (wr := [(qh, .inl (cA, 8, .inl hh)), (qm, .inl (cA, 16, .inl (kd_wd bl))), (qb, .inl (cA, 64, .inl bl)), (qr, .inl (cA, 160, .inl kd_PL))]) (w1 := [(h0, .inr (2, [.int rd, .int op, .int dn, .ref qk, .ref qh, .ref qv, .ref qm, .ref qb, .int bb, .long mx, .int ln, .int nn, .ref qr])), (qv, .inl (cA, 16, .inl vo378))]) hP hD [4, 5] [0, 1, 2, 3] rfl rfl (by decide) (by decide) hk1 hFc hP1 hD1
                clear hw hB hk1 hPc hDc hFc hP1 hD1 hvm hz1
                generalize H1 = H at hP hS ⊢
                have hP : va_P (dC, dI) vwCl [(qh, .inl (cA, 8, .inl hh)), (qm, .inl (cA, 16, .inl (kd_wd bl))), (qb, .inl (cA, 64, .inl bl)), (qr, .inl (cA, 160, .inl kd_PL)), (h0, .inr (2, [.int rd, .int op, .int dn, .ref qk, .ref qh, .ref qv, .ref qm, .ref qb, .int bb, .long mx, .int ln, .int nn, .ref qr])), (qv, .inl (cA, 16, .inl vo378))] H := hP
                have hD : va_D A [(qh, .inl (cA, 8, .inl hh)), (qm, .inl (cA, 16, .inl (kd_wd bl))), (qb, .inl (cA, 64, .inl bl)), (qr, .inl (cA, 160, .inl kd_PL)), (h0, .inr (2, [.int rd, .int op, .int dn, .ref qk, .ref qh, .ref qv, .ref qm, .ref qb, .int bb, .long mx, .int ln, .int nn, .ref qr])), (qv, .inl (cA, 16, .inl vo378))] := hD
                refine lv_aload_n hx hb dX2_mix_381 rfl (lv_at hl 1 rfl) ?_
                refine lv_iconst (v := 1) hx hb dX2_mix_382 (by decide) ?_
                refine lv_bipush (v := 6) hx hb dX2_mix_383 (by decide) ?_
                refine lv_bipush (v := 11) hx hb dX2_mix_385 (by decide) ?_
                refine lv_bipush (v := 12) hx hb dX2_mix_387 (by decide) ?_
                refine lv_aload_n hx hb dX2_mix_389 rfl (lv_at hl 1 rfl) ?_
                refine va_get (D := (dC, dI)) (ci := 2) (v := .ref qm) (C := RX2) (T := TX2) (N := 13) hx hb hts ki2 hown hK hP 4 rfl rfl 6 (by decide) k3 (fun _ h9 => h9) rfl dX2_mix_390 ?_
                refine lv_aload_n hx hb dX2_mix_393 rfl (lv_at hl 1 rfl) ?_
                refine va_get (D := (dC, dI)) (ci := 2) (v := .ref qr) (C := RX2) (T := TX2) (N := 13) hx hb hts ki2 hown hK hP 4 rfl rfl 12 (by decide) k4 (fun _ h9 => h9) rfl dX2_mix_394 ?_
                refine lv_iload hx hb dX2_mix_397 (lv_at hl 0 rfl) ?_
                refine lv_bipush (v := 10) hx hb dX2_mix_399 (by decide) ?_
                refine lv_iadd hx hb dX2_mix_401 ?_
                refine kd_ild (16 * n + 10) hx hb hK hP 3 0 rfl rfl (by rw [ey]; exact nI_add _ _) (by omega) (by decide) dX2_mix_402 ?_
                refine kd_ild (kd_pl (16 * n + 10)) hx hb hK hP 1 0 rfl rfl rfl (kd_pl_lt _ (by omega)) (by decide) dX2_mix_403 ?_
                refine lv_aload_n hx hb dX2_mix_404 rfl (lv_at hl 1 rfl) ?_
                refine va_get (D := (dC, dI)) (ci := 2) (v := .ref qm) (C := RX2) (T := TX2) (N := 13) hx hb hts ki2 hown hK hP 4 rfl rfl 6 (by decide) k3 (fun _ h9 => h9) rfl dX2_mix_405 ?_
                refine lv_aload_n hx hb dX2_mix_408 rfl (lv_at hl 1 rfl) ?_
                refine va_get (D := (dC, dI)) (ci := 2) (v := .ref qr) (C := RX2) (T := TX2) (N := 13) hx hb hts ki2 hown hK hP 4 rfl rfl 12 (by decide) k4 (fun _ h9 => h9) rfl dX2_mix_409 ?_
                refine lv_iload hx hb dX2_mix_412 (lv_at hl 0 rfl) ?_
                refine lv_bipush (v := 11) hx hb dX2_mix_414 (by decide) ?_
                refine lv_iadd hx hb dX2_mix_416 ?_
                refine kd_ild (16 * n + 11) hx hb hK hP 3 0 rfl rfl (by rw [ey]; exact nI_add _ _) (by omega) (by decide) dX2_mix_417 ?_
                refine kd_ild (kd_pl (16 * n + 11)) hx hb hK hP 1 0 rfl rfl rfl (kd_pl_lt _ (by omega)) (by decide) dX2_mix_418 ?_
                have hPc := hP.sub (ws' := [(h0, .inr (2, [.int rd, .int op, .int dn, .ref qk, .ref qh, .ref qv, .ref qm, .ref qb, .int bb, .long mx, .int ln, .int nn, .ref qr])), (qv, .inl (cA, 16, .inl vo378))]) [4, 5] rfl
                have hDc := hD.sub (ws' := [(h0, .inr (2, [.int rd, .int op, .int dn, .ref qk, .ref qh, .ref qv, .ref qm, .ref qb, .int bb, .long mx, .int ln, .int nn, .ref qr])), (qv, .inl (cA, 16, .inl vo378))]) [4, 5] (by decide) rfl
                have hFc := va_free (wc := [(h0, .inr (2, [.int rd, .int op, .int dn, .ref qk, .ref qh, .ref qv, .ref qm, .ref qb, .int bb, .long mx, .int ln, .int nn, .ref qr])), (qv, .inl (cA, 16, .inl vo378))]) hD hS hA [4, 5] rfl
                refine va_callv (va_runV (As := [.int 1, .int 6, .int 11, .int 12, .int ((kd_wd bl) (kd_pl (16 * n + 10))), .int ((kd_wd bl) (kd_pl (16 * n + 11)))]) (rest := []) ⟨hx, hb, hml, hown, hts⟩ (cX2_g_ok l dC dI cA tb H.size h0 qk qh qv qm qb qr rd op dn vo378 mx ln nn bb 1 6 11 12 ((kd_wd bl) (kd_pl (16 * n + 10))) ((kd_wd bl) (kd_pl (16 * n + 11))) (by decide) (by decide) (by decide) (by decide)) (cwV 6 hts gX2_mix_X2_g rfl rfl rfl (by decide +kernel) ⟨Nat.le_of_ble_eq_true rfl, Nat.le_of_ble_eq_true rfl⟩) ⟨fun a U g mk q => kd_calling rfl rfl q, va_recv hK hPc (ci := 2) (q0 := 0) rfl rfl, fun U hU hW => ⟨rfl, kd_pre hPc hK hDc hT hS hFc U hU hW⟩⟩ rfl rfl hl.1 rfl (lv_room (Nat.le_of_ble_eq_true rfl)) dX2_mix_419 ⟨Nat.le_of_ble_eq_true rfl, Nat.le_of_ble_eq_true rfl⟩) hS (fun q _ h => hFc q h) hFc (fun u t H1 locs ht hvm hw hB hz1 hk1 hS => ?_)
                obtain ⟨vo419, rfl⟩ : ∃ z, z = u := ⟨_, rfl⟩
                have hw419 : vo419 = kd_G 1 6 11 12 ((kd_wd bl) (kd_pl (16 * n + 10))) ((kd_wd bl) (kd_pl (16 * n + 11))) vo378 := hw
                have hP1 : va_P (dC, dI) vwCl [(h0, .inr (2, [.int rd, .int op, .int dn, .ref qk, .ref qh, .ref qv, .ref qm, .ref qb, .int bb, .long mx, .int ln, .int nn, .ref qr])), (qv, .inl (cA, 16, .inl vo419))] H1 := by rw [← ht]; exact hB.1
                have hD1 : va_D (va_A [(h0, .inr (2, [.int rd, .int op, .int dn, .ref qk, .ref qh, .ref qv, .ref qm, .ref qb, .int bb, .long mx, .int ln, .int nn, .ref qr])), (qv, .inl (cA, 16, .inl vo378))] H.size) [(h0, .inr (2, [.int rd, .int op, .int dn, .ref qk, .ref qh, .ref qv, .ref qm, .ref qb, .int bb, .long mx, .int ln, .int nn, .ref qr])), (qv, .inl (cA, 16, .inl vo419))] := hB.2.2
                obtain ⟨hP, hD⟩ := va_join (wr := [(qh, .inl (cA, 8, .inl hh)), (qm, .inl (cA, 16, .inl (kd_wd bl))), (qb, .inl (cA, 64, .inl bl)), (qr, .inl (cA, 160, .inl kd_PL))]) (w1 := [(h0, .inr (2, [.int rd, .int op, .int dn, .ref qk, .ref qh, .ref qv, .ref qm, .ref qb, .int bb, .long mx, .int ln, .int nn, .ref qr])), (qv, .inl (cA, 16, .inl vo419))]) hP hD [4, 5] [0, 1, 2, 3] rfl rfl (by decide) (by decide) hk1 hFc hP1 hD1
                clear hw hB hk1 hPc hDc hFc hP1 hD1 hvm hz1
                generalize H1 = H at hP hS ⊢
                have hP : va_P (dC, dI) vwCl [(qh, .inl (cA, 8, .inl hh)), (qm, .inl (cA, 16, .inl (kd_wd bl))), (qb, .inl (cA, 64, .inl bl)), (qr, .inl (cA, 160, .inl kd_PL)), (h0, .inr (2, [.int rd, .int op, .int dn, .ref qk, .ref qh, .ref qv, .ref qm, .ref qb, .int bb, .long mx, .int ln, .int nn, .ref qr])), (qv, .inl (cA, 16, .inl vo419))] H := hP
                have hD : va_D A [(qh, .inl (cA, 8, .inl hh)), (qm, .inl (cA, 16, .inl (kd_wd bl))), (qb, .inl (cA, 64, .inl bl)), (qr, .inl (cA, 160, .inl kd_PL)), (h0, .inr (2, [.int rd, .int op, .int dn, .ref qk, .ref qh, .ref qv, .ref qm, .ref qb, .int bb, .long mx, .int ln, .int nn, .ref qr])), (qv, .inl (cA, 16, .inl vo419))] := hD
                refine lv_aload_n hx hb dX2_mix_422 rfl (lv_at hl 1 rfl) ?_
                refine lv_iconst (v := 2) hx hb dX2_mix_423 (by decide) ?_
                refine lv_bipush (v := 7) hx hb dX2_mix_424 (by decide) ?_
                refine lv_bipush (v := 8) hx hb dX2_mix_426 (by decide) ?_
                refine lv_bipush (v := 13) hx hb dX2_mix_428 (by decide) ?_
                refine lv_aload_n hx hb dX2_mix_430 rfl (lv_at hl 1 rfl) ?_
                refine va_get (D := (dC, dI)) (ci := 2) (v := .ref qm) (C := RX2) (T := TX2) (N := 13) hx hb hts ki2 hown hK hP 4 rfl rfl 6 (by decide) k3 (fun _ h9 => h9) rfl dX2_mix_431 ?_
                refine lv_aload_n hx hb dX2_mix_434 rfl (lv_at hl 1 rfl) ?_
                refine va_get (D := (dC, dI)) (ci := 2) (v := .ref qr) (C := RX2) (T := TX2) (N := 13) hx hb hts ki2 hown hK hP 4 rfl rfl 12 (by decide) k4 (fun _ h9 => h9) rfl dX2_mix_435 ?_
                refine lv_iload hx hb dX2_mix_438 (lv_at hl 0 rfl) ?_
                refine lv_bipush (v := 12) hx hb dX2_mix_440 (by decide) ?_
                refine lv_iadd hx hb dX2_mix_442 ?_
                refine kd_ild (16 * n + 12) hx hb hK hP 3 0 rfl rfl (by rw [ey]; exact nI_add _ _) (by omega) (by decide) dX2_mix_443 ?_
                refine kd_ild (kd_pl (16 * n + 12)) hx hb hK hP 1 0 rfl rfl rfl (kd_pl_lt _ (by omega)) (by decide) dX2_mix_444 ?_
                refine lv_aload_n hx hb dX2_mix_445 rfl (lv_at hl 1 rfl) ?_
                refine va_get (D := (dC, dI)) (ci := 2) (v := .ref qm) (C := RX2) (T := TX2) (N := 13) hx hb hts ki2 hown hK hP 4 rfl rfl 6 (by decide) k3 (fun _ h9 => h9) rfl dX2_mix_446 ?_
                refine lv_aload_n hx hb dX2_mix_449 rfl (lv_at hl 1 rfl) ?_
                refine va_get (D := (dC, dI)) (ci := 2) (v := .ref qr) (C := RX2) (T := TX2) (N := 13) hx hb hts ki2 hown hK hP 4 rfl rfl 12 (by decide) k4 (fun _ h9 => h9) rfl dX2_mix_450 ?_
                refine lv_iload hx hb dX2_mix_453 (lv_at hl 0 rfl) ?_
                refine lv_bipush (v := 13) hx hb dX2_mix_455 (by decide) ?_
                refine lv_iadd hx hb dX2_mix_457 ?_
                refine kd_ild (16 * n + 13) hx hb hK hP 3 0 rfl rfl (by rw [ey]; exact nI_add _ _) (by omega) (by decide) dX2_mix_458 ?_
                refine kd_ild (kd_pl (16 * n + 13)) hx hb hK hP 1 0 rfl rfl rfl (kd_pl_lt _ (by omega)) (by decide) dX2_mix_459 ?_
                have hPc := hP.sub (ws' := [(h0, .inr (2, [.int rd, .int op, .int dn, .ref qk, .ref qh, .ref qv, .ref qm, .ref qb, .int bb, .long mx, .int ln, .int nn, .ref qr])), (qv, .inl (cA, 16, .inl vo419))]) [4, 5] rfl
                have hDc := hD.sub (ws' := [(h0, .inr (2, [.int rd, .int op, .int dn, .ref qk, .ref qh, .ref qv, .ref qm, .ref qb, .int bb, .long mx, .int ln, .int nn, .ref qr])), (qv, .inl (cA, 16, .inl vo419))]) [4, 5] (by decide) rfl
                have hFc := va_free (wc := [(h0, .inr (2, [.int rd, .int op, .int dn, .ref qk, .ref qh, .ref qv, .ref qm, .ref qb, .int bb, .long mx, .int ln, .int nn, .ref qr])), (qv, .inl (cA, 16, .inl vo419))]) hD hS hA [4, 5] rfl
                refine va_callv (va_runV (As := [.int 2, .int 7, .int 8, .int 13, .int ((kd_wd bl) (kd_pl (16 * n + 12))), .int ((kd_wd bl) (kd_pl (16 * n + 13)))]) (rest := []) ⟨hx, hb, hml, hown, hts⟩ (cX2_g_ok l dC dI cA tb H.size h0 qk qh qv qm qb qr rd op dn vo419 mx ln nn bb 2 7 8 13 ((kd_wd bl) (kd_pl (16 * n + 12))) ((kd_wd bl) (kd_pl (16 * n + 13))) (by decide) (by decide) (by decide) (by decide)) (cwV 6 hts gX2_mix_X2_g rfl rfl rfl (by decide +kernel) ⟨Nat.le_of_ble_eq_true rfl, Nat.le_of_ble_eq_true rfl⟩) ⟨fun a U g mk q => kd_calling rfl rfl q, va_recv hK hPc (ci := 2) (q0 := 0) rfl rfl, fun U hU hW => ⟨rfl, kd_pre hPc hK hDc hT hS hFc U hU hW⟩⟩ rfl rfl hl.1 rfl (lv_room (Nat.le_of_ble_eq_true rfl)) dX2_mix_460 ⟨Nat.le_of_ble_eq_true rfl, Nat.le_of_ble_eq_true rfl⟩) hS (fun q _ h => hFc q h) hFc (fun u t H1 locs ht hvm hw hB hz1 hk1 hS => ?_)
                obtain ⟨vo460, rfl⟩ : ∃ z, z = u := ⟨_, rfl⟩
                have hw460 : vo460 = kd_G 2 7 8 13 ((kd_wd bl) (kd_pl (16 * n + 12))) ((kd_wd bl) (kd_pl (16 * n + 13))) vo419 := hw
                have hP1 : va_P (dC, dI) vwCl [(h0, .inr (2, [.int rd, .int op, .int dn, .ref qk, .ref qh, .ref qv, .ref qm, .ref qb, .int bb, .long mx, .int ln, .int nn, .ref qr])), (qv, .inl (cA, 16, .inl vo460))] H1 := by rw [← ht]; exact hB.1
                have hD1 : va_D (va_A [(h0, .inr (2, [.int rd, .int op, .int dn, .ref qk, .ref qh, .ref qv, .ref qm, .ref qb, .int bb, .long mx, .int ln, .int nn, .ref qr])), (qv, .inl (cA, 16, .inl vo419))] H.size) [(h0, .inr (2, [.int rd, .int op, .int dn, .ref qk, .ref qh, .ref qv, .ref qm, .ref qb, .int bb, .long mx, .int ln, .int nn, .ref qr])), (qv, .inl (cA, 16, .inl vo460))] := hB.2.2
                obtain ⟨hP, hD⟩ := va_join (wr := [(qh, .inl (cA, 8, .inl hh)), (qm, .inl (cA, 16, .inl (kd_wd bl))), (qb, .inl (cA, 64, .inl bl)), (qr, .inl (cA, 160, .inl kd_PL))]) (w1 := [(h0, .inr (2, [.int rd, .int op, .int dn, .ref qk, .ref qh, .ref qv, .ref qm, .ref qb, .int bb, .long mx, .int ln, .int nn, .ref qr])), (qv, .inl (cA, 16, .inl vo460))]) hP hD [4, 5] [0, 1, 2, 3] rfl rfl (by decide) (by decide) hk1 hFc hP1 hD1
                clear hw hB hk1 hPc hDc hFc hP1 hD1 hvm hz1
                generalize H1 = H at hP hS ⊢
                have hP : va_P (dC, dI) vwCl [(qh, .inl (cA, 8, .inl hh)), (qm, .inl (cA, 16, .inl (kd_wd bl))), (qb, .inl (cA, 64, .inl bl)), (qr, .inl (cA, 160, .inl kd_PL)), (h0, .inr (2, [.int rd, .int op, .int dn, .ref qk, .ref qh, .ref qv, .ref qm, .ref qb, .int bb, .long mx, .int ln, .int nn, .ref qr])), (qv, .inl (cA, 16, .inl vo460))] H := hP
                have hD : va_D A [(qh, .inl (cA, 8, .inl hh)), (qm, .inl (cA, 16, .inl (kd_wd bl))), (qb, .inl (cA, 64, .inl bl)), (qr, .inl (cA, 160, .inl kd_PL)), (h0, .inr (2, [.int rd, .int op, .int dn, .ref qk, .ref qh, .ref qv, .ref qm, .ref qb, .int bb, .long mx, .int ln, .int nn, .ref qr])), (qv, .inl (cA, 16, .inl vo460))] := hD
                refine lv_aload_n hx hb dX2_mix_463 rfl (lv_at hl 1 rfl) ?_
                refine lv_iconst (v := 3) hx hb dX2_mix_464 (by decide) ?_
                refine lv_iconst (v := 4) hx hb dX2_mix_465 (by decide) ?_
                refine lv_bipush (v := 9) hx hb dX2_mix_466 (by decide) ?_
                refine lv_bipush (v := 14) hx hb dX2_mix_468 (by decide) ?_
                refine lv_aload_n hx hb dX2_mix_470 rfl (lv_at hl 1 rfl) ?_
                refine va_get (D := (dC, dI)) (ci := 2) (v := .ref qm) (C := RX2) (T := TX2) (N := 13) hx hb hts ki2 hown hK hP 4 rfl rfl 6 (by decide) k3 (fun _ h9 => h9) rfl dX2_mix_471 ?_
                refine lv_aload_n hx hb dX2_mix_474 rfl (lv_at hl 1 rfl) ?_
                refine va_get (D := (dC, dI)) (ci := 2) (v := .ref qr) (C := RX2) (T := TX2) (N := 13) hx hb hts ki2 hown hK hP 4 rfl rfl 12 (by decide) k4 (fun _ h9 => h9) rfl dX2_mix_475 ?_
                refine lv_iload hx hb dX2_mix_478 (lv_at hl 0 rfl) ?_
                refine lv_bipush (v := 14) hx hb dX2_mix_480 (by decide) ?_
                refine lv_iadd hx hb dX2_mix_482 ?_
                refine kd_ild (16 * n + 14) hx hb hK hP 3 0 rfl rfl (by rw [ey]; exact nI_add _ _) (by omega) (by decide) dX2_mix_483 ?_
                refine kd_ild (kd_pl (16 * n + 14)) hx hb hK hP 1 0 rfl rfl rfl (kd_pl_lt _ (by omega)) (by decide) dX2_mix_484 ?_
                refine lv_aload_n hx hb dX2_mix_485 rfl (lv_at hl 1 rfl) ?_
                refine va_get (D := (dC, dI)) (ci := 2) (v := .ref qm) (C := RX2) (T := TX2) (N := 13) hx hb hts ki2 hown hK hP 4 rfl rfl 6 (by decide) k3 (fun _ h9 => h9) rfl dX2_mix_486 ?_
                refine lv_aload_n hx hb dX2_mix_489 rfl (lv_at hl 1 rfl) ?_
                refine va_get (D := (dC, dI)) (ci := 2) (v := .ref qr) (C := RX2) (T := TX2) (N := 13) hx hb hts ki2 hown hK hP 4 rfl rfl 12 (by decide) k4 (fun _ h9 => h9) rfl dX2_mix_490 ?_
                refine lv_iload hx hb dX2_mix_493 (lv_at hl 0 rfl) ?_
                refine lv_bipush (v := 15) hx hb dX2_mix_495 (by decide) ?_
                refine lv_iadd hx hb dX2_mix_497 ?_
                refine kd_ild (16 * n + 15) hx hb hK hP 3 0 rfl rfl (by rw [ey]; exact nI_add _ _) (by omega) (by decide) dX2_mix_498 ?_
                refine kd_ild (kd_pl (16 * n + 15)) hx hb hK hP 1 0 rfl rfl rfl (kd_pl_lt _ (by omega)) (by decide) dX2_mix_499 ?_
                have hPc := hP.sub (ws' := [(h0, .inr (2, [.int rd, .int op, .int dn, .ref qk, .ref qh, .ref qv, .ref qm, .ref qb, .int bb, .long mx, .int ln, .int nn, .ref qr])), (qv, .inl (cA, 16, .inl vo460))]) [4, 5] rfl
                have hDc := hD.sub (ws' := [(h0, .inr (2, [.int rd, .int op, .int dn, .ref qk, .ref qh, .ref qv, .ref qm, .ref qb, .int bb, .long mx, .int ln, .int nn, .ref qr])), (qv, .inl (cA, 16, .inl vo460))]) [4, 5] (by decide) rfl
                have hFc := va_free (wc := [(h0, .inr (2, [.int rd, .int op, .int dn, .ref qk, .ref qh, .ref qv, .ref qm, .ref qb, .int bb, .long mx, .int ln, .int nn, .ref qr])), (qv, .inl (cA, 16, .inl vo460))]) hD hS hA [4, 5] rfl
                refine va_callv (va_runV (As := [.int 3, .int 4, .int 9, .int 14, .int ((kd_wd bl) (kd_pl (16 * n + 14))), .int ((kd_wd bl) (kd_pl (16 * n + 15)))]) (rest := []) ⟨hx, hb, hml, hown, hts⟩ (cX2_g_ok l dC dI cA tb H.size h0 qk qh qv qm qb qr rd op dn vo460 mx ln nn bb 3 4 9 14 ((kd_wd bl) (kd_pl (16 * n + 14))) ((kd_wd bl) (kd_pl (16 * n + 15))) (by decide) (by decide) (by decide) (by decide)) (cwV 6 hts gX2_mix_X2_g rfl rfl rfl (by decide +kernel) ⟨Nat.le_of_ble_eq_true rfl, Nat.le_of_ble_eq_true rfl⟩) ⟨fun a U g mk q => kd_calling rfl rfl q, va_recv hK hPc (ci := 2) (q0 := 0) rfl rfl, fun U hU hW => ⟨rfl, kd_pre hPc hK hDc hT hS hFc U hU hW⟩⟩ rfl rfl hl.1 rfl (lv_room (Nat.le_of_ble_eq_true rfl)) dX2_mix_500 ⟨Nat.le_of_ble_eq_true rfl, Nat.le_of_ble_eq_true rfl⟩) hS (fun q _ h => hFc q h) hFc (fun u t H1 locs ht hvm hw hB hz1 hk1 hS => ?_)
                obtain ⟨vo500, rfl⟩ : ∃ z, z = u := ⟨_, rfl⟩
                have hw500 : vo500 = kd_G 3 4 9 14 ((kd_wd bl) (kd_pl (16 * n + 14))) ((kd_wd bl) (kd_pl (16 * n + 15))) vo460 := hw
                have hP1 : va_P (dC, dI) vwCl [(h0, .inr (2, [.int rd, .int op, .int dn, .ref qk, .ref qh, .ref qv, .ref qm, .ref qb, .int bb, .long mx, .int ln, .int nn, .ref qr])), (qv, .inl (cA, 16, .inl vo500))] H1 := by rw [← ht]; exact hB.1
                have hD1 : va_D (va_A [(h0, .inr (2, [.int rd, .int op, .int dn, .ref qk, .ref qh, .ref qv, .ref qm, .ref qb, .int bb, .long mx, .int ln, .int nn, .ref qr])), (qv, .inl (cA, 16, .inl vo460))] H.size) [(h0, .inr (2, [.int rd, .int op, .int dn, .ref qk, .ref qh, .ref qv, .ref qm, .ref qb, .int bb, .long mx, .int ln, .int nn, .ref qr])), (qv, .inl (cA, 16, .inl vo500))] := hB.2.2
                obtain ⟨hP, hD⟩ := va_join (wr := [(qh, .inl (cA, 8, .inl hh)), (qm, .inl (cA, 16, .inl (kd_wd bl))), (qb, .inl (cA, 64, .inl bl)), (qr, .inl (cA, 160, .inl kd_PL))]) (w1 := [(h0, .inr (2, [.int rd, .int op, .int dn, .ref qk, .ref qh, .ref qv, .ref qm, .ref qb, .int bb, .long mx, .int ln, .int nn, .ref qr])), (qv, .inl (cA, 16, .inl vo500))]) hP hD [4, 5] [0, 1, 2, 3] rfl rfl (by decide) (by decide) hk1 hFc hP1 hD1
                clear hw hB hk1 hPc hDc hFc hP1 hD1 hvm hz1
                generalize H1 = H at hP hS ⊢
                have hP : va_P (dC, dI) vwCl [(qh, .inl (cA, 8, .inl hh)), (qm, .inl (cA, 16, .inl (kd_wd bl))), (qb, .inl (cA, 64, .inl bl)), (qr, .inl (cA, 160, .inl kd_PL)), (h0, .inr (2, [.int rd, .int op, .int dn, .ref qk, .ref qh, .ref qv, .ref qm, .ref qb, .int bb, .long mx, .int ln, .int nn, .ref qr])), (qv, .inl (cA, 16, .inl vo500))] H := hP
                have hD : va_D A [(qh, .inl (cA, 8, .inl hh)), (qm, .inl (cA, 16, .inl (kd_wd bl))), (qb, .inl (cA, 64, .inl bl)), (qr, .inl (cA, 160, .inl kd_PL)), (h0, .inr (2, [.int rd, .int op, .int dn, .ref qk, .ref qh, .ref qv, .ref qm, .ref qb, .int bb, .long mx, .int ln, .int nn, .ref qr])), (qv, .inl (cA, 16, .inl vo500))] := hD
                refine lv_iload hx hb dX2_mix_503 (lv_at hl 0 rfl) ?_
                refine lv_bipush (v := 16) hx hb dX2_mix_505 (by decide) ?_
                refine lv_iadd hx hb dX2_mix_507 ?_
                refine lv_topi (fun x508 ex508 => ?_)
                refine lv_istore (lv' := [(4, .int x508), (0, .ref h0), (1, .long mn), (3, .int la)]) hx hb dX2_mix_508 hl (by decide) rfl (fun ls hl => ?_)
                refine lv_goto (tgt := 179) hx hb dX2_mix_510 (by decide) ?_
                exact ih  (n + 1) x508 vo500 (by omega) (by omega) (by rw [ex508, ey, show 16 * (n + 1) = 16 * n + 16 by omega]; exact nI_add _ _) (by rw [hw500, hw460, hw419, hw378, hw338, hw297, hw258, hw220, hg]; rfl) _ _ ls (hP.sub [4, 0, 5, 1, 2, 3] rfl) (hD.sub [4, 0, 5, 1, 2, 3] (by decide) rfl) hS (lv_sub hl [0, 1, 2, 3] rfl)
          exact lp2 11 0 0 (kd_v0 hh mn (kd_lm la)) (by omega) (by omega) rfl rfl _ _ ls (hP.sub [0, 1, 2, 3, 4, 5] rfl) (hD.sub [0, 1, 2, 3, 4, 5] (by decide) rfl) hS (lv_sub hl [0, 1, 2, 3] rfl)
        · refine lv_aload_n hx hb dX2_mix_156 rfl (lv_at hl 1 rfl) ?_
          refine va_get (D := (dC, dI)) (ci := 2) (v := .ref qv) (C := RX2) (T := TX2) (N := 13) hx hb hts ki2 hown hK hP 0 rfl rfl 5 (by decide) k1 (fun _ h9 => h9) rfl dX2_mix_157 ?_
          refine lv_bipush (v := 14) hx hb dX2_mix_160 (by decide) ?_
          refine kd_ild 14 hx hb hK hP 2 0 rfl rfl rfl (by decide) (by decide) dX2_mix_162 ?_
          refine lv_iconst (v := (-1)) hx hb dX2_mix_163 (by decide) ?_
          refine lv_ixor hx hb dX2_mix_164 ?_
          refine lv_goto (tgt := 175) hx hb dX2_mix_165 (by decide) ?_
          refine lv_topi (fun x175 ex175 => ?_)
          refine kd_ist 14 hx hb hK hP hD hS 2 0 rfl rfl rfl (by decide) (by decide) dX2_mix_175 (fun f175 ef175 H locs hP hD hS => ?_)
          have hP : va_P (dC, dI) vwCl [(h0, .inr (2, [.int rd, .int op, .int dn, .ref qk, .ref qh, .ref qv, .ref qm, .ref qb, .int bb, .long mx, .int ln, .int nn, .ref qr])), (qh, .inl (cA, 8, .inl hh)), (qv, .inl (cA, 16, .inl f175)), (qm, .inl (cA, 16, .inl (kd_wd bl))), (qb, .inl (cA, 64, .inl bl)), (qr, .inl (cA, 160, .inl kd_PL))] H := hP
          have hD : va_D A [(h0, .inr (2, [.int rd, .int op, .int dn, .ref qk, .ref qh, .ref qv, .ref qm, .ref qb, .int bb, .long mx, .int ln, .int nn, .ref qr])), (qh, .inl (cA, 8, .inl hh)), (qv, .inl (cA, 16, .inl f175)), (qm, .inl (cA, 16, .inl (kd_wd bl))), (qb, .inl (cA, 64, .inl bl)), (qr, .inl (cA, 160, .inl kd_PL))] := hD
          obtain rfl : f175 = kd_v0 hh mn (kd_lm la) := by rw [ef175, ex175, ef145, ex145, ef125, ex125]; unfold kd_lm; rw [if_neg c153]; rfl
          have hP : va_P (dC, dI) vwCl [(h0, .inr (2, [.int rd, .int op, .int dn, .ref qk, .ref qh, .ref qv, .ref qm, .ref qb, .int bb, .long mx, .int ln, .int nn, .ref qr])), (qh, .inl (cA, 8, .inl hh)), (qv, .inl (cA, 16, .inl (kd_v0 hh mn (kd_lm la)))), (qm, .inl (cA, 16, .inl (kd_wd bl))), (qb, .inl (cA, 64, .inl bl)), (qr, .inl (cA, 160, .inl kd_PL))] H := hP
          have hD : va_D A [(h0, .inr (2, [.int rd, .int op, .int dn, .ref qk, .ref qh, .ref qv, .ref qm, .ref qb, .int bb, .long mx, .int ln, .int nn, .ref qr])), (qh, .inl (cA, 8, .inl hh)), (qv, .inl (cA, 16, .inl (kd_v0 hh mn (kd_lm la)))), (qm, .inl (cA, 16, .inl (kd_wd bl))), (qb, .inl (cA, 64, .inl bl)), (qr, .inl (cA, 160, .inl kd_PL))] := hD
          refine lv_iconst (v := 0) hx hb dX2_mix_176 (by decide) ?_
          refine lv_istore (lv' := [(4, .int 0), (0, .ref h0), (1, .long mn), (3, .int la)]) hx hb dX2_mix_177 hl (by decide) rfl (fun ls hl => ?_)
          have lp2 : ∀ (k : Nat) (n : Nat) (y : Int32) (g : Nat → Int32), (n ≤ 10) → (10 - n < k) → (y = nI (16 * n)) → (g = kd_rounds (kd_wd bl) n (kd_v0 hh mn (kd_lm la))) → ∀ (H : Heap) (locs : List Loc) (ls : Array Slot), va_P (dC, dI) vwCl [(h0, .inr (2, [.int rd, .int op, .int dn, .ref qk, .ref qh, .ref qv, .ref qm, .ref qb, .int bb, .long mx, .int ln, .int nn, .ref qr])), (qh, .inl (cA, 8, .inl hh)), (qv, .inl (cA, 16, .inl g)), (qm, .inl (cA, 16, .inl (kd_wd bl))), (qb, .inl (cA, 64, .inl bl)), (qr, .inl (cA, 160, .inl kd_PL))] H → va_D A [(h0, .inr (2, [.int rd, .int op, .int dn, .ref qk, .ref qh, .ref qv, .ref qm, .ref qb, .int bb, .long mx, .int ln, .int nn, .ref qr])), (qh, .inl (cA, 8, .inl hh)), (qv, .inl (cA, 16, .inl g)), (qm, .inl (cA, 16, .inl (kd_wd bl))), (qb, .inl (cA, 64, .inl bl)), (qr, .inl (cA, 160, .inl kd_PL))] → va_S A s.heap H locs → lv_has ls 5 [(4, .int y), (0, .ref h0), (1, .long mn), (3, .int la)] → W p l e (headSpec wsX2_mix { frames := 2, cells := 0, slots := 0, locals := 47 }).room s m ([.ref h0, .long mn, .int la]).toArray below meth c H locs 0 0 (MQ below (va_Qv (fun (u : (Nat → Int32)) => True) (fun u t => kd_O (dC, dI) cA A [(h0, .inr (2, [.int rd, .int op, .int dn, .ref qk, .ref qh, .ref qv, .ref qm, .ref qb, .int bb, .long mx, .int ln, .int nn, .ref qr])), (qh, .inl (cA, 8, .inl (kd_mix hh (kd_wd bl) mn (kd_lm la)))), (qv, .inl (cA, 16, .inl u)), (qm, .inl (cA, 16, .inl (kd_wd bl))), (qb, .inl (cA, 64, .inl bl)), (qr, .inl (cA, 160, .inl kd_PL))] t) A) ([.ref h0, .long mn, .int la]).toArray s 0 0 A) (F0 m 179 ls []) := by
            intro k
            induction k with
            | zero =>
              intro n y g hi hk ey hg
              omega
            | succ k ih =>
              intro n y g hi hk ey hg H locs ls hP hD hS hl
              refine lv_iload hx hb dX2_mix_179 (lv_at hl 0 rfl) ?_
              refine lv_sipush (v := 160) hx hb dX2_mix_181 (by decide) ?_
              refine lv_icmp_ge (tgt := 513) hx hb dX2_mix_184 (by decide) (fun c184 => ?_) (fun c184 => ?_)
              · have hge : 160 ≤ 16 * n := kd_ge (n := 160) ey (by omega) (by decide) c184
                obtain rfl : n = 10 := by omega
                subst hg
                refine lv_iconst (v := 0) hx hb dX2_mix_513 (by decide) ?_
                refine lv_istore (lv' := [(4, .int 0), (0, .ref h0), (1, .long mn), (3, .int la)]) hx hb dX2_mix_514 hl (by decide) rfl (fun ls hl => ?_)
                have lp3 : ∀ (k : Nat) (j : Nat) (z : Int32) (g3 : Nat → Int32), (j ≤ 8) → (8 - j < k) → (z = nI j) → (∀ q, g3 q = if q < j then kd_mix hh (kd_wd bl) mn (kd_lm la) q else hh q) → ∀ (H : Heap) (locs : List Loc) (ls : Array Slot), va_P (dC, dI) vwCl [(h0, .inr (2, [.int rd, .int op, .int dn, .ref qk, .ref qh, .ref qv, .ref qm, .ref qb, .int bb, .long mx, .int ln, .int nn, .ref qr])), (qh, .inl (cA, 8, .inl g3)), (qv, .inl (cA, 16, .inl (kd_rounds (kd_wd bl) 10 (kd_v0 hh mn (kd_lm la))))), (qm, .inl (cA, 16, .inl (kd_wd bl))), (qb, .inl (cA, 64, .inl bl)), (qr, .inl (cA, 160, .inl kd_PL))] H → va_D A [(h0, .inr (2, [.int rd, .int op, .int dn, .ref qk, .ref qh, .ref qv, .ref qm, .ref qb, .int bb, .long mx, .int ln, .int nn, .ref qr])), (qh, .inl (cA, 8, .inl g3)), (qv, .inl (cA, 16, .inl (kd_rounds (kd_wd bl) 10 (kd_v0 hh mn (kd_lm la))))), (qm, .inl (cA, 16, .inl (kd_wd bl))), (qb, .inl (cA, 64, .inl bl)), (qr, .inl (cA, 160, .inl kd_PL))] → va_S A s.heap H locs → lv_has ls 5 [(4, .int z), (0, .ref h0), (1, .long mn), (3, .int la)] → W p l e (headSpec wsX2_mix { frames := 2, cells := 0, slots := 0, locals := 47 }).room s m ([.ref h0, .long mn, .int la]).toArray below meth c H locs 0 0 (MQ below (va_Qv (fun (u : (Nat → Int32)) => True) (fun u t => kd_O (dC, dI) cA A [(h0, .inr (2, [.int rd, .int op, .int dn, .ref qk, .ref qh, .ref qv, .ref qm, .ref qb, .int bb, .long mx, .int ln, .int nn, .ref qr])), (qh, .inl (cA, 8, .inl (kd_mix hh (kd_wd bl) mn (kd_lm la)))), (qv, .inl (cA, 16, .inl u)), (qm, .inl (cA, 16, .inl (kd_wd bl))), (qb, .inl (cA, 64, .inl bl)), (qr, .inl (cA, 160, .inl kd_PL))] t) A) ([.ref h0, .long mn, .int la]).toArray s 0 0 A) (F0 m 516 ls []) := by
                  intro k
                  induction k with
                  | zero =>
                    intro j z g3 hi hk ez hg3
                    omega
                  | succ k ih =>
                    intro j z g3 hi hk ez hg3 H locs ls hP hD hS hl
                    refine lv_iload hx hb dX2_mix_516 (lv_at hl 0 rfl) ?_
                    refine lv_bipush (v := 8) hx hb dX2_mix_518 (by decide) ?_
                    refine lv_icmp_ge (tgt := 562) hx hb dX2_mix_520 (by decide) (fun c520 => ?_) (fun c520 => ?_)
                    · have hge : 8 ≤ j := kd_ge (n := 8) ez (by omega) (by decide) c520
                      have hP := kd_arrP hP hD 1 rfl (kd_mix hh (kd_wd bl) mn (kd_lm la)) (fun q hq => by rw [hg3 q, if_pos (by omega)])
                      have hD := hD.set (p := 1) (e := .inl (cA, 8, .inl (kd_mix hh (kd_wd bl) mn (kd_lm la)))) rfl
                      have hP : va_P (dC, dI) vwCl [(h0, .inr (2, [.int rd, .int op, .int dn, .ref qk, .ref qh, .ref qv, .ref qm, .ref qb, .int bb, .long mx, .int ln, .int nn, .ref qr])), (qh, .inl (cA, 8, .inl (kd_mix hh (kd_wd bl) mn (kd_lm la)))), (qv, .inl (cA, 16, .inl (kd_rounds (kd_wd bl) 10 (kd_v0 hh mn (kd_lm la))))), (qm, .inl (cA, 16, .inl (kd_wd bl))), (qb, .inl (cA, 64, .inl bl)), (qr, .inl (cA, 160, .inl kd_PL))] H := hP
                      have hD : va_D A [(h0, .inr (2, [.int rd, .int op, .int dn, .ref qk, .ref qh, .ref qv, .ref qm, .ref qb, .int bb, .long mx, .int ln, .int nn, .ref qr])), (qh, .inl (cA, 8, .inl (kd_mix hh (kd_wd bl) mn (kd_lm la)))), (qv, .inl (cA, 16, .inl (kd_rounds (kd_wd bl) 10 (kd_v0 hh mn (kd_lm la))))), (qm, .inl (cA, 16, .inl (kd_wd bl))), (qb, .inl (cA, 64, .inl bl)), (qr, .inl (cA, 160, .inl kd_PL))] := hD
                      have hP9 := hP.sub (ws' := [(h0, .inr (2, [.int rd, .int op, .int dn, .ref qk, .ref qh, .ref qv, .ref qm, .ref qb, .int bb, .long mx, .int ln, .int nn, .ref qr])), (qh, .inl (cA, 8, .inl (kd_mix hh (kd_wd bl) mn (kd_lm la)))), (qv, .inl (cA, 16, .inl (kd_rounds (kd_wd bl) 10 (kd_v0 hh mn (kd_lm la))))), (qm, .inl (cA, 16, .inl (kd_wd bl))), (qb, .inl (cA, 64, .inl bl)), (qr, .inl (cA, 160, .inl kd_PL))]) [0, 1, 2, 3, 4, 5] rfl
                      have hD9 := hD.sub (ws' := [(h0, .inr (2, [.int rd, .int op, .int dn, .ref qk, .ref qh, .ref qv, .ref qm, .ref qb, .int bb, .long mx, .int ln, .int nn, .ref qr])), (qh, .inl (cA, 8, .inl (kd_mix hh (kd_wd bl) mn (kd_lm la)))), (qv, .inl (cA, 16, .inl (kd_rounds (kd_wd bl) 10 (kd_v0 hh mn (kd_lm la))))), (qm, .inl (cA, 16, .inl (kd_wd bl))), (qb, .inl (cA, 64, .inl bl)), (qr, .inl (cA, 160, .inl kd_PL))]) [0, 1, 2, 3, 4, 5] (by decide) rfl
                      exact W.vret hx hb hr (fun t ht hW => ⟨⟨(kd_rounds (kd_wd bl) 10 (kd_v0 hh mn (kd_lm la))), rfl, trivial, by rw [ht]; exact hP9, va_K.moved hW.alike hK, hD9⟩, hS.F ht⟩) hS.2.2 dX2_mix_562
                    · have hlt : j < 8 := kd_lt (n := 8) ez (by omega) (by decide) c520
                      refine lv_aload_n hx hb dX2_mix_523 rfl (lv_at hl 1 rfl) ?_
                      refine va_get (D := (dC, dI)) (ci := 2) (v := .ref qh) (C := RX2) (T := TX2) (N := 13) hx hb hts ki2 hown hK hP 0 rfl rfl 4 (by decide) k2 (fun _ h9 => h9) rfl dX2_mix_524 ?_
                      refine lv_iload hx hb dX2_mix_527 (lv_at hl 0 rfl) ?_
                      refine lv_aload_n hx hb dX2_mix_529 rfl (lv_at hl 1 rfl) ?_
                      refine va_get (D := (dC, dI)) (ci := 2) (v := .ref qh) (C := RX2) (T := TX2) (N := 13) hx hb hts ki2 hown hK hP 0 rfl rfl 4 (by decide) k2 (fun _ h9 => h9) rfl dX2_mix_530 ?_
                      refine lv_iload hx hb dX2_mix_533 (lv_at hl 0 rfl) ?_
                      refine kd_ild j hx hb hK hP 1 0 rfl rfl ez hlt (by decide) dX2_mix_535 ?_
                      refine lv_aload_n hx hb dX2_mix_536 rfl (lv_at hl 1 rfl) ?_
                      refine va_get (D := (dC, dI)) (ci := 2) (v := .ref qv) (C := RX2) (T := TX2) (N := 13) hx hb hts ki2 hown hK hP 0 rfl rfl 5 (by decide) k1 (fun _ h9 => h9) rfl dX2_mix_537 ?_
                      refine lv_iload hx hb dX2_mix_540 (lv_at hl 0 rfl) ?_
                      refine kd_ild j hx hb hK hP 2 0 rfl rfl ez (by omega) (by decide) dX2_mix_542 ?_
                      refine lv_ixor hx hb dX2_mix_543 ?_
                      refine lv_aload_n hx hb dX2_mix_544 rfl (lv_at hl 1 rfl) ?_
                      refine va_get (D := (dC, dI)) (ci := 2) (v := .ref qv) (C := RX2) (T := TX2) (N := 13) hx hb hts ki2 hown hK hP 0 rfl rfl 5 (by decide) k1 (fun _ h9 => h9) rfl dX2_mix_545 ?_
                      refine lv_iload hx hb dX2_mix_548 (lv_at hl 0 rfl) ?_
                      refine lv_bipush (v := 8) hx hb dX2_mix_550 (by decide) ?_
                      refine lv_iadd hx hb dX2_mix_552 ?_
                      refine kd_ild (j + 8) hx hb hK hP 2 0 rfl rfl (by rw [ez]; exact nI_add _ _) (by omega) (by decide) dX2_mix_553 ?_
                      refine lv_ixor hx hb dX2_mix_554 ?_
                      refine lv_topi (fun x555 ex555 => ?_)
                      refine kd_ist j hx hb hK hP hD hS 1 0 rfl rfl ez hlt (by decide) dX2_mix_555 (fun f555 ef555 H locs hP hD hS => ?_)
                      have hP : va_P (dC, dI) vwCl [(h0, .inr (2, [.int rd, .int op, .int dn, .ref qk, .ref qh, .ref qv, .ref qm, .ref qb, .int bb, .long mx, .int ln, .int nn, .ref qr])), (qh, .inl (cA, 8, .inl f555)), (qv, .inl (cA, 16, .inl (kd_rounds (kd_wd bl) 10 (kd_v0 hh mn (kd_lm la))))), (qm, .inl (cA, 16, .inl (kd_wd bl))), (qb, .inl (cA, 64, .inl bl)), (qr, .inl (cA, 160, .inl kd_PL))] H := hP
                      have hD : va_D A [(h0, .inr (2, [.int rd, .int op, .int dn, .ref qk, .ref qh, .ref qv, .ref qm, .ref qb, .int bb, .long mx, .int ln, .int nn, .ref qr])), (qh, .inl (cA, 8, .inl f555)), (qv, .inl (cA, 16, .inl (kd_rounds (kd_wd bl) 10 (kd_v0 hh mn (kd_lm la))))), (qm, .inl (cA, 16, .inl (kd_wd bl))), (qb, .inl (cA, 64, .inl bl)), (qr, .inl (cA, 160, .inl kd_PL))] := hD
                      obtain ⟨x556, ex556⟩ : ∃ zz : Int32, zz = z + 1 := ⟨_, rfl⟩
                      refine lv_iinc (v := x556) (lv' := [(4, .int x556), (0, .ref h0), (1, .long mn), (3, .int la)]) hx hb dX2_mix_556 hl (k := 0) rfl (by rw [ex556]; rfl) (by decide) rfl (fun ls hl => ?_)
                      refine lv_goto (tgt := 516) hx hb dX2_mix_559 (by decide) ?_
                      exact ih  (j + 1) x556 f555 (by omega) (by omega) (by rw [ex556, ez]; exact nI_1 j) (by rw [ef555, ex555, Int32.xor_assoc]; exact kd_finStep hg3) _ _ ls (hP.sub [0, 1, 2, 3, 4, 5] rfl) (hD.sub [0, 1, 2, 3, 4, 5] (by decide) rfl) hS (lv_sub hl [0, 1, 2, 3] rfl)
                exact lp3 9 0 0 hh (by omega) (by omega) rfl (fun q => (if_neg (Nat.not_lt_zero q)).symm) _ _ ls (hP.sub [0, 1, 2, 3, 4, 5] rfl) (hD.sub [0, 1, 2, 3, 4, 5] (by decide) rfl) hS (lv_sub hl [0, 1, 2, 3] rfl)
              · have hlt : n < 10 := by have := kd_lt (n := 160) ey (by omega) (by decide) c184; omega
                refine lv_aload_n hx hb dX2_mix_187 rfl (lv_at hl 1 rfl) ?_
                refine lv_iconst (v := 0) hx hb dX2_mix_188 (by decide) ?_
                refine lv_iconst (v := 4) hx hb dX2_mix_189 (by decide) ?_
                refine lv_bipush (v := 8) hx hb dX2_mix_190 (by decide) ?_
                refine lv_bipush (v := 12) hx hb dX2_mix_192 (by decide) ?_
                refine lv_aload_n hx hb dX2_mix_194 rfl (lv_at hl 1 rfl) ?_
                refine va_get (D := (dC, dI)) (ci := 2) (v := .ref qm) (C := RX2) (T := TX2) (N := 13) hx hb hts ki2 hown hK hP 0 rfl rfl 6 (by decide) k3 (fun _ h9 => h9) rfl dX2_mix_195 ?_
                refine lv_aload_n hx hb dX2_mix_198 rfl (lv_at hl 1 rfl) ?_
                refine va_get (D := (dC, dI)) (ci := 2) (v := .ref qr) (C := RX2) (T := TX2) (N := 13) hx hb hts ki2 hown hK hP 0 rfl rfl 12 (by decide) k4 (fun _ h9 => h9) rfl dX2_mix_199 ?_
                refine lv_iload hx hb dX2_mix_202 (lv_at hl 0 rfl) ?_
                refine kd_ild (16 * n) hx hb hK hP 5 0 rfl rfl ey (by omega) (by decide) dX2_mix_204 ?_
                refine kd_ild (kd_pl (16 * n)) hx hb hK hP 3 0 rfl rfl rfl (kd_pl_lt _ (by omega)) (by decide) dX2_mix_205 ?_
                refine lv_aload_n hx hb dX2_mix_206 rfl (lv_at hl 1 rfl) ?_
                refine va_get (D := (dC, dI)) (ci := 2) (v := .ref qm) (C := RX2) (T := TX2) (N := 13) hx hb hts ki2 hown hK hP 0 rfl rfl 6 (by decide) k3 (fun _ h9 => h9) rfl dX2_mix_207 ?_
                refine lv_aload_n hx hb dX2_mix_210 rfl (lv_at hl 1 rfl) ?_
                refine va_get (D := (dC, dI)) (ci := 2) (v := .ref qr) (C := RX2) (T := TX2) (N := 13) hx hb hts ki2 hown hK hP 0 rfl rfl 12 (by decide) k4 (fun _ h9 => h9) rfl dX2_mix_211 ?_
                refine lv_iload hx hb dX2_mix_214 (lv_at hl 0 rfl) ?_
                refine lv_iconst (v := 1) hx hb dX2_mix_216 (by decide) ?_
                refine lv_iadd hx hb dX2_mix_217 ?_
                refine kd_ild (16 * n + 1) hx hb hK hP 5 0 rfl rfl (by rw [ey]; exact nI_add _ _) (by omega) (by decide) dX2_mix_218 ?_
                refine kd_ild (kd_pl (16 * n + 1)) hx hb hK hP 3 0 rfl rfl rfl (kd_pl_lt _ (by omega)) (by decide) dX2_mix_219 ?_
                have hPc := hP.sub (ws' := [(h0, .inr (2, [.int rd, .int op, .int dn, .ref qk, .ref qh, .ref qv, .ref qm, .ref qb, .int bb, .long mx, .int ln, .int nn, .ref qr])), (qv, .inl (cA, 16, .inl g))]) [0, 2] rfl
                have hDc := hD.sub (ws' := [(h0, .inr (2, [.int rd, .int op, .int dn, .ref qk, .ref qh, .ref qv, .ref qm, .ref qb, .int bb, .long mx, .int ln, .int nn, .ref qr])), (qv, .inl (cA, 16, .inl g))]) [0, 2] (by decide) rfl
                have hFc := va_free (wc := [(h0, .inr (2, [.int rd, .int op, .int dn, .ref qk, .ref qh, .ref qv, .ref qm, .ref qb, .int bb, .long mx, .int ln, .int nn, .ref qr])), (qv, .inl (cA, 16, .inl g))]) hD hS hA [0, 2] rfl
                refine va_callv (va_runV (As := [.int 0, .int 4, .int 8, .int 12, .int ((kd_wd bl) (kd_pl (16 * n))), .int ((kd_wd bl) (kd_pl (16 * n + 1)))]) (rest := []) ⟨hx, hb, hml, hown, hts⟩ (cX2_g_ok l dC dI cA tb H.size h0 qk qh qv qm qb qr rd op dn g mx ln nn bb 0 4 8 12 ((kd_wd bl) (kd_pl (16 * n))) ((kd_wd bl) (kd_pl (16 * n + 1))) (by decide) (by decide) (by decide) (by decide)) (cwV 6 hts gX2_mix_X2_g rfl rfl rfl (by decide +kernel) ⟨Nat.le_of_ble_eq_true rfl, Nat.le_of_ble_eq_true rfl⟩) ⟨fun a U g mk q => kd_calling rfl rfl q, va_recv hK hPc (ci := 2) (q0 := 0) rfl rfl, fun U hU hW => ⟨rfl, kd_pre hPc hK hDc hT hS hFc U hU hW⟩⟩ rfl rfl hl.1 rfl (lv_room (Nat.le_of_ble_eq_true rfl)) dX2_mix_220 ⟨Nat.le_of_ble_eq_true rfl, Nat.le_of_ble_eq_true rfl⟩) hS (fun q _ h => hFc q h) hFc (fun u t H1 locs ht hvm hw hB hz1 hk1 hS => ?_)
                obtain ⟨vo220, rfl⟩ : ∃ z, z = u := ⟨_, rfl⟩
                have hw220 : vo220 = kd_G 0 4 8 12 ((kd_wd bl) (kd_pl (16 * n))) ((kd_wd bl) (kd_pl (16 * n + 1))) g := hw
                have hP1 : va_P (dC, dI) vwCl [(h0, .inr (2, [.int rd, .int op, .int dn, .ref qk, .ref qh, .ref qv, .ref qm, .ref qb, .int bb, .long mx, .int ln, .int nn, .ref qr])), (qv, .inl (cA, 16, .inl vo220))] H1 := by rw [← ht]; exact hB.1
                have hD1 : va_D (va_A [(h0, .inr (2, [.int rd, .int op, .int dn, .ref qk, .ref qh, .ref qv, .ref qm, .ref qb, .int bb, .long mx, .int ln, .int nn, .ref qr])), (qv, .inl (cA, 16, .inl g))] H.size) [(h0, .inr (2, [.int rd, .int op, .int dn, .ref qk, .ref qh, .ref qv, .ref qm, .ref qb, .int bb, .long mx, .int ln, .int nn, .ref qr])), (qv, .inl (cA, 16, .inl vo220))] := hB.2.2
                obtain ⟨hP, hD⟩ := va_join (wr := [(qh, .inl (cA, 8, .inl hh)), (qm, .inl (cA, 16, .inl (kd_wd bl))), (qb, .inl (cA, 64, .inl bl)), (qr, .inl (cA, 160, .inl kd_PL))]) (w1 := [(h0, .inr (2, [.int rd, .int op, .int dn, .ref qk, .ref qh, .ref qv, .ref qm, .ref qb, .int bb, .long mx, .int ln, .int nn, .ref qr])), (qv, .inl (cA, 16, .inl vo220))]) hP hD [0, 2] [1, 3, 4, 5] rfl rfl (by decide) (by decide) hk1 hFc hP1 hD1
                clear hw hB hk1 hPc hDc hFc hP1 hD1 hvm hz1
                generalize H1 = H at hP hS ⊢
                have hP : va_P (dC, dI) vwCl [(qh, .inl (cA, 8, .inl hh)), (qm, .inl (cA, 16, .inl (kd_wd bl))), (qb, .inl (cA, 64, .inl bl)), (qr, .inl (cA, 160, .inl kd_PL)), (h0, .inr (2, [.int rd, .int op, .int dn, .ref qk, .ref qh, .ref qv, .ref qm, .ref qb, .int bb, .long mx, .int ln, .int nn, .ref qr])), (qv, .inl (cA, 16, .inl vo220))] H := hP
                have hD : va_D A [(qh, .inl (cA, 8, .inl hh)), (qm, .inl (cA, 16, .inl (kd_wd bl))), (qb, .inl (cA, 64, .inl bl)), (qr, .inl (cA, 160, .inl kd_PL)), (h0, .inr (2, [.int rd, .int op, .int dn, .ref qk, .ref qh, .ref qv, .ref qm, .ref qb, .int bb, .long mx, .int ln, .int nn, .ref qr])), (qv, .inl (cA, 16, .inl vo220))] := hD
                refine lv_aload_n hx hb dX2_mix_223 rfl (lv_at hl 1 rfl) ?_
                refine lv_iconst (v := 1) hx hb dX2_mix_224 (by decide) ?_
                refine lv_iconst (v := 5) hx hb dX2_mix_225 (by decide) ?_
                refine lv_bipush (v := 9) hx hb dX2_mix_226 (by decide) ?_
                refine lv_bipush (v := 13) hx hb dX2_mix_228 (by decide) ?_
                refine lv_aload_n hx hb dX2_mix_230 rfl (lv_at hl 1 rfl) ?_
                refine va_get (D := (dC, dI)) (ci := 2) (v := .ref qm) (C := RX2) (T := TX2) (N := 13) hx hb hts ki2 hown hK hP 4 rfl rfl 6 (by decide) k3 (fun _ h9 => h9) rfl dX2_mix_231 ?_
                refine lv_aload_n hx hb dX2_mix_234 rfl (lv_at hl 1 rfl) ?_
                refine va_get (D := (dC, dI)) (ci := 2) (v := .ref qr) (C := RX2) (T := TX2) (N := 13) hx hb hts ki2 hown hK hP 4 rfl rfl 12 (by decide) k4 (fun _ h9 => h9) rfl dX2_mix_235 ?_
                refine lv_iload hx hb dX2_mix_238 (lv_at hl 0 rfl) ?_
                refine lv_iconst (v := 2) hx hb dX2_mix_240 (by decide) ?_
                refine lv_iadd hx hb dX2_mix_241 ?_
                refine kd_ild (16 * n + 2) hx hb hK hP 3 0 rfl rfl (by rw [ey]; exact nI_add _ _) (by omega) (by decide) dX2_mix_242 ?_
                refine kd_ild (kd_pl (16 * n + 2)) hx hb hK hP 1 0 rfl rfl rfl (kd_pl_lt _ (by omega)) (by decide) dX2_mix_243 ?_
                refine lv_aload_n hx hb dX2_mix_244 rfl (lv_at hl 1 rfl) ?_
                refine va_get (D := (dC, dI)) (ci := 2) (v := .ref qm) (C := RX2) (T := TX2) (N := 13) hx hb hts ki2 hown hK hP 4 rfl rfl 6 (by decide) k3 (fun _ h9 => h9) rfl dX2_mix_245 ?_
                refine lv_aload_n hx hb dX2_mix_248 rfl (lv_at hl 1 rfl) ?_
                refine va_get (D := (dC, dI)) (ci := 2) (v := .ref qr) (C := RX2) (T := TX2) (N := 13) hx hb hts ki2 hown hK hP 4 rfl rfl 12 (by decide) k4 (fun _ h9 => h9) rfl dX2_mix_249 ?_
                refine lv_iload hx hb dX2_mix_252 (lv_at hl 0 rfl) ?_
                refine lv_iconst (v := 3) hx hb dX2_mix_254 (by decide) ?_
                refine lv_iadd hx hb dX2_mix_255 ?_
                refine kd_ild (16 * n + 3) hx hb hK hP 3 0 rfl rfl (by rw [ey]; exact nI_add _ _) (by omega) (by decide) dX2_mix_256 ?_
                refine kd_ild (kd_pl (16 * n + 3)) hx hb hK hP 1 0 rfl rfl rfl (kd_pl_lt _ (by omega)) (by decide) dX2_mix_257 ?_
                have hPc := hP.sub (ws' := [(h0, .inr (2, [.int rd, .int op, .int dn, .ref qk, .ref qh, .ref qv, .ref qm, .ref qb, .int bb, .long mx, .int ln, .int nn, .ref qr])), (qv, .inl (cA, 16, .inl vo220))]) [4, 5] rfl
                have hDc := hD.sub (ws' := [(h0, .inr (2, [.int rd, .int op, .int dn, .ref qk, .ref qh, .ref qv, .ref qm, .ref qb, .int bb, .long mx, .int ln, .int nn, .ref qr])), (qv, .inl (cA, 16, .inl vo220))]) [4, 5] (by decide) rfl
                have hFc := va_free (wc := [(h0, .inr (2, [.int rd, .int op, .int dn, .ref qk, .ref qh, .ref qv, .ref qm, .ref qb, .int bb, .long mx, .int ln, .int nn, .ref qr])), (qv, .inl (cA, 16, .inl vo220))]) hD hS hA [4, 5] rfl
                refine va_callv (va_runV (As := [.int 1, .int 5, .int 9, .int 13, .int ((kd_wd bl) (kd_pl (16 * n + 2))), .int ((kd_wd bl) (kd_pl (16 * n + 3)))]) (rest := []) ⟨hx, hb, hml, hown, hts⟩ (cX2_g_ok l dC dI cA tb H.size h0 qk qh qv qm qb qr rd op dn vo220 mx ln nn bb 1 5 9 13 ((kd_wd bl) (kd_pl (16 * n + 2))) ((kd_wd bl) (kd_pl (16 * n + 3))) (by decide) (by decide) (by decide) (by decide)) (cwV 6 hts gX2_mix_X2_g rfl rfl rfl (by decide +kernel) ⟨Nat.le_of_ble_eq_true rfl, Nat.le_of_ble_eq_true rfl⟩) ⟨fun a U g mk q => kd_calling rfl rfl q, va_recv hK hPc (ci := 2) (q0 := 0) rfl rfl, fun U hU hW => ⟨rfl, kd_pre hPc hK hDc hT hS hFc U hU hW⟩⟩ rfl rfl hl.1 rfl (lv_room (Nat.le_of_ble_eq_true rfl)) dX2_mix_258 ⟨Nat.le_of_ble_eq_true rfl, Nat.le_of_ble_eq_true rfl⟩) hS (fun q _ h => hFc q h) hFc (fun u t H1 locs ht hvm hw hB hz1 hk1 hS => ?_)
                obtain ⟨vo258, rfl⟩ : ∃ z, z = u := ⟨_, rfl⟩
                have hw258 : vo258 = kd_G 1 5 9 13 ((kd_wd bl) (kd_pl (16 * n + 2))) ((kd_wd bl) (kd_pl (16 * n + 3))) vo220 := hw
                have hP1 : va_P (dC, dI) vwCl [(h0, .inr (2, [.int rd, .int op, .int dn, .ref qk, .ref qh, .ref qv, .ref qm, .ref qb, .int bb, .long mx, .int ln, .int nn, .ref qr])), (qv, .inl (cA, 16, .inl vo258))] H1 := by rw [← ht]; exact hB.1
                have hD1 : va_D (va_A [(h0, .inr (2, [.int rd, .int op, .int dn, .ref qk, .ref qh, .ref qv, .ref qm, .ref qb, .int bb, .long mx, .int ln, .int nn, .ref qr])), (qv, .inl (cA, 16, .inl vo220))] H.size) [(h0, .inr (2, [.int rd, .int op, .int dn, .ref qk, .ref qh, .ref qv, .ref qm, .ref qb, .int bb, .long mx, .int ln, .int nn, .ref qr])), (qv, .inl (cA, 16, .inl vo258))] := hB.2.2
                obtain ⟨hP, hD⟩ := va_join (wr := [(qh, .inl (cA, 8, .inl hh)), (qm, .inl (cA, 16, .inl (kd_wd bl))), (qb, .inl (cA, 64, .inl bl)), (qr, .inl (cA, 160, .inl kd_PL))]) (w1 := [(h0, .inr (2, [.int rd, .int op, .int dn, .ref qk, .ref qh, .ref qv, .ref qm, .ref qb, .int bb, .long mx, .int ln, .int nn, .ref qr])), (qv, .inl (cA, 16, .inl vo258))]) hP hD [4, 5] [0, 1, 2, 3] rfl rfl (by decide) (by decide) hk1 hFc hP1 hD1
                clear hw hB hk1 hPc hDc hFc hP1 hD1 hvm hz1
                generalize H1 = H at hP hS ⊢
                have hP : va_P (dC, dI) vwCl [(qh, .inl (cA, 8, .inl hh)), (qm, .inl (cA, 16, .inl (kd_wd bl))), (qb, .inl (cA, 64, .inl bl)), (qr, .inl (cA, 160, .inl kd_PL)), (h0, .inr (2, [.int rd, .int op, .int dn, .ref qk, .ref qh, .ref qv, .ref qm, .ref qb, .int bb, .long mx, .int ln, .int nn, .ref qr])), (qv, .inl (cA, 16, .inl vo258))] H := hP
                have hD : va_D A [(qh, .inl (cA, 8, .inl hh)), (qm, .inl (cA, 16, .inl (kd_wd bl))), (qb, .inl (cA, 64, .inl bl)), (qr, .inl (cA, 160, .inl kd_PL)), (h0, .inr (2, [.int rd, .int op, .int dn, .ref qk, .ref qh, .ref qv, .ref qm, .ref qb, .int bb, .long mx, .int ln, .int nn, .ref qr])), (qv, .inl (cA, 16, .inl vo258))] := hD
                refine lv_aload_n hx hb dX2_mix_261 rfl (lv_at hl 1 rfl) ?_
                refine lv_iconst (v := 2) hx hb dX2_mix_262 (by decide) ?_
                refine lv_bipush (v := 6) hx hb dX2_mix_263 (by decide) ?_
                refine lv_bipush (v := 10) hx hb dX2_mix_265 (by decide) ?_
                refine lv_bipush (v := 14) hx hb dX2_mix_267 (by decide) ?_
                refine lv_aload_n hx hb dX2_mix_269 rfl (lv_at hl 1 rfl) ?_
                refine va_get (D := (dC, dI)) (ci := 2) (v := .ref qm) (C := RX2) (T := TX2) (N := 13) hx hb hts ki2 hown hK hP 4 rfl rfl 6 (by decide) k3 (fun _ h9 => h9) rfl dX2_mix_270 ?_
                refine lv_aload_n hx hb dX2_mix_273 rfl (lv_at hl 1 rfl) ?_
                refine va_get (D := (dC, dI)) (ci := 2) (v := .ref qr) (C := RX2) (T := TX2) (N := 13) hx hb hts ki2 hown hK hP 4 rfl rfl 12 (by decide) k4 (fun _ h9 => h9) rfl dX2_mix_274 ?_
                refine lv_iload hx hb dX2_mix_277 (lv_at hl 0 rfl) ?_
                refine lv_iconst (v := 4) hx hb dX2_mix_279 (by decide) ?_
                refine lv_iadd hx hb dX2_mix_280 ?_
                refine kd_ild (16 * n + 4) hx hb hK hP 3 0 rfl rfl (by rw [ey]; exact nI_add _ _) (by omega) (by decide) dX2_mix_281 ?_
                refine kd_ild (kd_pl (16 * n + 4)) hx hb hK hP 1 0 rfl rfl rfl (kd_pl_lt _ (by omega)) (by decide) dX2_mix_282 ?_
                refine lv_aload_n hx hb dX2_mix_283 rfl (lv_at hl 1 rfl) ?_
                refine va_get (D := (dC, dI)) (ci := 2) (v := .ref qm) (C := RX2) (T := TX2) (N := 13) hx hb hts ki2 hown hK hP 4 rfl rfl 6 (by decide) k3 (fun _ h9 => h9) rfl dX2_mix_284 ?_
                refine lv_aload_n hx hb dX2_mix_287 rfl (lv_at hl 1 rfl) ?_
                refine va_get (D := (dC, dI)) (ci := 2) (v := .ref qr) (C := RX2) (T := TX2) (N := 13) hx hb hts ki2 hown hK hP 4 rfl rfl 12 (by decide) k4 (fun _ h9 => h9) rfl dX2_mix_288 ?_
                refine lv_iload hx hb dX2_mix_291 (lv_at hl 0 rfl) ?_
                refine lv_iconst (v := 5) hx hb dX2_mix_293 (by decide) ?_
                refine lv_iadd hx hb dX2_mix_294 ?_
                refine kd_ild (16 * n + 5) hx hb hK hP 3 0 rfl rfl (by rw [ey]; exact nI_add _ _) (by omega) (by decide) dX2_mix_295 ?_
                refine kd_ild (kd_pl (16 * n + 5)) hx hb hK hP 1 0 rfl rfl rfl (kd_pl_lt _ (by omega)) (by decide) dX2_mix_296 ?_
                have hPc := hP.sub (ws' := [(h0, .inr (2, [.int rd, .int op, .int dn, .ref qk, .ref qh, .ref qv, .ref qm, .ref qb, .int bb, .long mx, .int ln, .int nn, .ref qr])), (qv, .inl (cA, 16, .inl vo258))]) [4, 5] rfl
                have hDc := hD.sub (ws' := [(h0, .inr (2, [.int rd, .int op, .int dn, .ref qk, .ref qh, .ref qv, .ref qm, .ref qb, .int bb, .long mx, .int ln, .int nn, .ref qr])), (qv, .inl (cA, 16, .inl vo258))]) [4, 5] (by decide) rfl
                have hFc := va_free (wc := [(h0, .inr (2, [.int rd, .int op, .int dn, .ref qk, .ref qh, .ref qv, .ref qm, .ref qb, .int bb, .long mx, .int ln, .int nn, .ref qr])), (qv, .inl (cA, 16, .inl vo258))]) hD hS hA [4, 5] rfl
                refine va_callv (va_runV (As := [.int 2, .int 6, .int 10, .int 14, .int ((kd_wd bl) (kd_pl (16 * n + 4))), .int ((kd_wd bl) (kd_pl (16 * n + 5)))]) (rest := []) ⟨hx, hb, hml, hown, hts⟩ (cX2_g_ok l dC dI cA tb H.size h0 qk qh qv qm qb qr rd op dn vo258 mx ln nn bb 2 6 10 14 ((kd_wd bl) (kd_pl (16 * n + 4))) ((kd_wd bl) (kd_pl (16 * n + 5))) (by decide) (by decide) (by decide) (by decide)) (cwV 6 hts gX2_mix_X2_g rfl rfl rfl (by decide +kernel) ⟨Nat.le_of_ble_eq_true rfl, Nat.le_of_ble_eq_true rfl⟩) ⟨fun a U g mk q => kd_calling rfl rfl q, va_recv hK hPc (ci := 2) (q0 := 0) rfl rfl, fun U hU hW => ⟨rfl, kd_pre hPc hK hDc hT hS hFc U hU hW⟩⟩ rfl rfl hl.1 rfl (lv_room (Nat.le_of_ble_eq_true rfl)) dX2_mix_297 ⟨Nat.le_of_ble_eq_true rfl, Nat.le_of_ble_eq_true rfl⟩) hS (fun q _ h => hFc q h) hFc (fun u t H1 locs ht hvm hw hB hz1 hk1 hS => ?_)
                obtain ⟨vo297, rfl⟩ : ∃ z, z = u := ⟨_, rfl⟩
                have hw297 : vo297 = kd_G 2 6 10 14 ((kd_wd bl) (kd_pl (16 * n + 4))) ((kd_wd bl) (kd_pl (16 * n + 5))) vo258 := hw
                have hP1 : va_P (dC, dI) vwCl [(h0, .inr (2, [.int rd, .int op, .int dn, .ref qk, .ref qh, .ref qv, .ref qm, .ref qb, .int bb, .long mx, .int ln, .int nn, .ref qr])), (qv, .inl (cA, 16, .inl vo297))] H1 := by rw [← ht]; exact hB.1
                have hD1 : va_D (va_A [(h0, .inr (2, [.int rd, .int op, .int dn, .ref qk, .ref qh, .ref qv, .ref qm, .ref qb, .int bb, .long mx, .int ln, .int nn, .ref qr])), (qv, .inl (cA, 16, .inl vo258))] H.size) [(h0, .inr (2, [.int rd, .int op, .int dn, .ref qk, .ref qh, .ref qv, .ref qm, .ref qb, .int bb, .long mx, .int ln, .int nn, .ref qr])), (qv, .inl (cA, 16, .inl vo297))] := hB.2.2
                obtain ⟨hP, hD⟩ := va_join (wr := [(qh, .inl (cA, 8, .inl hh)), (qm, .inl (cA, 16, .inl (kd_wd bl))), (qb, .inl (cA, 64, .inl bl)), (qr, .inl (cA, 160, .inl kd_PL))]) (w1 := [(h0, .inr (2, [.int rd, .int op, .int dn, .ref qk, .ref qh, .ref qv, .ref qm, .ref qb, .int bb, .long mx, .int ln, .int nn, .ref qr])), (qv, .inl (cA, 16, .inl vo297))]) hP hD [4, 5] [0, 1, 2, 3] rfl rfl (by decide) (by decide) hk1 hFc hP1 hD1
                clear hw hB hk1 hPc hDc hFc hP1 hD1 hvm hz1
                generalize H1 = H at hP hS ⊢
                have hP : va_P (dC, dI) vwCl [(qh, .inl (cA, 8, .inl hh)), (qm, .inl (cA, 16, .inl (kd_wd bl))), (qb, .inl (cA, 64, .inl bl)), (qr, .inl (cA, 160, .inl kd_PL)), (h0, .inr (2, [.int rd, .int op, .int dn, .ref qk, .ref qh, .ref qv, .ref qm, .ref qb, .int bb, .long mx, .int ln, .int nn, .ref qr])), (qv, .inl (cA, 16, .inl vo297))] H := hP
                have hD : va_D A [(qh, .inl (cA, 8, .inl hh)), (qm, .inl (cA, 16, .inl (kd_wd bl))), (qb, .inl (cA, 64, .inl bl)), (qr, .inl (cA, 160, .inl kd_PL)), (h0, .inr (2, [.int rd, .int op, .int dn, .ref qk, .ref qh, .ref qv, .ref qm, .ref qb, .int bb, .long mx, .int ln, .int nn, .ref qr])), (qv, .inl (cA, 16, .inl vo297))] := hD
                refine lv_aload_n hx hb dX2_mix_300 rfl (lv_at hl 1 rfl) ?_
                refine lv_iconst (v := 3) hx hb dX2_mix_301 (by decide) ?_
                refine lv_bipush (v := 7) hx hb dX2_mix_302 (by decide) ?_
                refine lv_bipush (v := 11) hx hb dX2_mix_304 (by decide) ?_
                refine lv_bipush (v := 15) hx hb dX2_mix_306 (by decide) ?_
                refine lv_aload_n hx hb dX2_mix_308 rfl (lv_at hl 1 rfl) ?_
                refine va_get (D := (dC, dI)) (ci := 2) (v := .ref qm) (C := RX2) (T := TX2) (N := 13) hx hb hts ki2 hown hK hP 4 rfl rfl 6 (by decide) k3 (fun _ h9 => h9) rfl dX2_mix_309 ?_
                refine lv_aload_n hx hb dX2_mix_312 rfl (lv_at hl 1 rfl) ?_
                refine va_get (D := (dC, dI)) (ci := 2) (v := .ref qr) (C := RX2) (T := TX2) (N := 13) hx hb hts ki2 hown hK hP 4 rfl rfl 12 (by decide) k4 (fun _ h9 => h9) rfl dX2_mix_313 ?_
                refine lv_iload hx hb dX2_mix_316 (lv_at hl 0 rfl) ?_
                refine lv_bipush (v := 6) hx hb dX2_mix_318 (by decide) ?_
                refine lv_iadd hx hb dX2_mix_320 ?_
                refine kd_ild (16 * n + 6) hx hb hK hP 3 0 rfl rfl (by rw [ey]; exact nI_add _ _) (by omega) (by decide) dX2_mix_321 ?_
                refine kd_ild (kd_pl (16 * n + 6)) hx hb hK hP 1 0 rfl rfl rfl (kd_pl_lt _ (by omega)) (by decide) dX2_mix_322 ?_
                refine lv_aload_n hx hb dX2_mix_323 rfl (lv_at hl 1 rfl) ?_
                refine va_get (D := (dC, dI)) (ci := 2) (v := .ref qm) (C := RX2) (T := TX2) (N := 13) hx hb hts ki2 hown hK hP 4 rfl rfl 6 (by decide) k3 (fun _ h9 => h9) rfl dX2_mix_324 ?_
                refine lv_aload_n hx hb dX2_mix_327 rfl (lv_at hl 1 rfl) ?_
                refine va_get (D := (dC, dI)) (ci := 2) (v := .ref qr) (C := RX2) (T := TX2) (N := 13) hx hb hts ki2 hown hK hP 4 rfl rfl 12 (by decide) k4 (fun _ h9 => h9) rfl dX2_mix_328 ?_
                refine lv_iload hx hb dX2_mix_331 (lv_at hl 0 rfl) ?_
                refine lv_bipush (v := 7) hx hb dX2_mix_333 (by decide) ?_
                refine lv_iadd hx hb dX2_mix_335 ?_
                refine kd_ild (16 * n + 7) hx hb hK hP 3 0 rfl rfl (by rw [ey]; exact nI_add _ _) (by omega) (by decide) dX2_mix_336 ?_
                refine kd_ild (kd_pl (16 * n + 7)) hx hb hK hP 1 0 rfl rfl rfl (kd_pl_lt _ (by omega)) (by decide) dX2_mix_337 ?_
                have hPc := hP.sub (ws' := [(h0, .inr (2, [.int rd, .int op, .int dn, .ref qk, .ref qh, .ref qv, .ref qm, .ref qb, .int bb, .long mx, .int ln, .int nn, .ref qr])), (qv, .inl (cA, 16, .inl vo297))]) [4, 5] rfl
                have hDc := hD.sub (ws' := [(h0, .inr (2, [.int rd, .int op, .int dn, .ref qk, .ref qh, .ref qv, .ref qm, .ref qb, .int bb, .long mx, .int ln, .int nn, .ref qr])), (qv, .inl (cA, 16, .inl vo297))]) [4, 5] (by decide) rfl
                have hFc := va_free (wc := [(h0, .inr (2, [.int rd, .int op, .int dn, .ref qk, .ref qh, .ref qv, .ref qm, .ref qb, .int bb, .long mx, .int ln, .int nn, .ref qr])), (qv, .inl (cA, 16, .inl vo297))]) hD hS hA [4, 5] rfl
                refine va_callv (va_runV (As := [.int 3, .int 7, .int 11, .int 15, .int ((kd_wd bl) (kd_pl (16 * n + 6))), .int ((kd_wd bl) (kd_pl (16 * n + 7)))]) (rest := []) ⟨hx, hb, hml, hown, hts⟩ (cX2_g_ok l dC dI cA tb H.size h0 qk qh qv qm qb qr rd op dn vo297 mx ln nn bb 3 7 11 15 ((kd_wd bl) (kd_pl (16 * n + 6))) ((kd_wd bl) (kd_pl (16 * n + 7))) (by decide) (by decide) (by decide) (by decide)) (cwV 6 hts gX2_mix_X2_g rfl rfl rfl (by decide +kernel) ⟨Nat.le_of_ble_eq_true rfl, Nat.le_of_ble_eq_true rfl⟩) ⟨fun a U g mk q => kd_calling rfl rfl q, va_recv hK hPc (ci := 2) (q0 := 0) rfl rfl, fun U hU hW => ⟨rfl, kd_pre hPc hK hDc hT hS hFc U hU hW⟩⟩ rfl rfl hl.1 rfl (lv_room (Nat.le_of_ble_eq_true rfl)) dX2_mix_338 ⟨Nat.le_of_ble_eq_true rfl, Nat.le_of_ble_eq_true rfl⟩) hS (fun q _ h => hFc q h) hFc (fun u t H1 locs ht hvm hw hB hz1 hk1 hS => ?_)
                obtain ⟨vo338, rfl⟩ : ∃ z, z = u := ⟨_, rfl⟩
                have hw338 : vo338 = kd_G 3 7 11 15 ((kd_wd bl) (kd_pl (16 * n + 6))) ((kd_wd bl) (kd_pl (16 * n + 7))) vo297 := hw
                have hP1 : va_P (dC, dI) vwCl [(h0, .inr (2, [.int rd, .int op, .int dn, .ref qk, .ref qh, .ref qv, .ref qm, .ref qb, .int bb, .long mx, .int ln, .int nn, .ref qr])), (qv, .inl (cA, 16, .inl vo338))] H1 := by rw [← ht]; exact hB.1
                have hD1 : va_D (va_A [(h0, .inr (2, [.int rd, .int op, .int dn, .ref qk, .ref qh, .ref qv, .ref qm, .ref qb, .int bb, .long mx, .int ln, .int nn, .ref qr])), (qv, .inl (cA, 16, .inl vo297))] H.size) [(h0, .inr (2, [.int rd, .int op, .int dn, .ref qk, .ref qh, .ref qv, .ref qm, .ref qb, .int bb, .long mx, .int ln, .int nn, .ref qr])), (qv, .inl (cA, 16, .inl vo338))] := hB.2.2
                obtain ⟨hP, hD⟩ := va_join (wr := [(qh, .inl (cA, 8, .inl hh)), (qm, .inl (cA, 16, .inl (kd_wd bl))), (qb, .inl (cA, 64, .inl bl)), (qr, .inl (cA, 160, .inl kd_PL))]) (w1 := [(h0, .inr (2, [.int rd, .int op, .int dn, .ref qk, .ref qh, .ref qv, .ref qm, .ref qb, .int bb, .long mx, .int ln, .int nn, .ref qr])), (qv, .inl (cA, 16, .inl vo338))]) hP hD [4, 5] [0, 1, 2, 3] rfl rfl (by decide) (by decide) hk1 hFc hP1 hD1
                clear hw hB hk1 hPc hDc hFc hP1 hD1 hvm hz1
                generalize H1 = H at hP hS ⊢
                have hP : va_P (dC, dI) vwCl [(qh, .inl (cA, 8, .inl hh)), (qm, .inl (cA, 16, .inl (kd_wd bl))), (qb, .inl (cA, 64, .inl bl)), (qr, .inl (cA, 160, .inl kd_PL)), (h0, .inr (2, [.int rd, .int op, .int dn, .ref qk, .ref qh, .ref qv, .ref qm, .ref qb, .int bb, .long mx, .int ln, .int nn, .ref qr])), (qv, .inl (cA, 16, .inl vo338))] H := hP
                have hD : va_D A [(qh, .inl (cA, 8, .inl hh)), (qm, .inl (cA, 16, .inl (kd_wd bl))), (qb, .inl (cA, 64, .inl bl)), (qr, .inl (cA, 160, .inl kd_PL)), (h0, .inr (2, [.int rd, .int op, .int dn, .ref qk, .ref qh, .ref qv, .ref qm, .ref qb, .int bb, .long mx, .int ln, .int nn, .ref qr])), (qv, .inl (cA, 16, .inl vo338))] := hD
                refine lv_aload_n hx hb dX2_mix_341 rfl (lv_at hl 1 rfl) ?_
                refine lv_iconst (v := 0) hx hb dX2_mix_342 (by decide) ?_
                refine lv_iconst (v := 5) hx hb dX2_mix_343 (by decide) ?_
                refine lv_bipush (v := 10) hx hb dX2_mix_344 (by decide) ?_
                refine lv_bipush (v := 15) hx hb dX2_mix_346 (by decide) ?_
                refine lv_aload_n hx hb dX2_mix_348 rfl (lv_at hl 1 rfl) ?_
                refine va_get (D := (dC, dI)) (ci := 2) (v := .ref qm) (C := RX2) (T := TX2) (N := 13) hx hb hts ki2 hown hK hP 4 rfl rfl 6 (by decide) k3 (fun _ h9 => h9) rfl dX2_mix_349 ?_
                refine lv_aload_n hx hb dX2_mix_352 rfl (lv_at hl 1 rfl) ?_
                refine va_get (D := (dC, dI)) (ci := 2) (v := .ref qr) (C := RX2) (T := TX2) (N := 13) hx hb hts ki2 hown hK hP 4 rfl rfl 12 (by decide) k4 (fun _ h9 => h9) rfl dX2_mix_353 ?_
                refine lv_iload hx hb dX2_mix_356 (lv_at hl 0 rfl) ?_
                refine lv_bipush (v := 8) hx hb dX2_mix_358 (by decide) ?_
                refine lv_iadd hx hb dX2_mix_360 ?_
                refine kd_ild (16 * n + 8) hx hb hK hP 3 0 rfl rfl (by rw [ey]; exact nI_add _ _) (by omega) (by decide) dX2_mix_361 ?_
                refine kd_ild (kd_pl (16 * n + 8)) hx hb hK hP 1 0 rfl rfl rfl (kd_pl_lt _ (by omega)) (by decide) dX2_mix_362 ?_
                refine lv_aload_n hx hb dX2_mix_363 rfl (lv_at hl 1 rfl) ?_
                refine va_get (D := (dC, dI)) (ci := 2) (v := .ref qm) (C := RX2) (T := TX2) (N := 13) hx hb hts ki2 hown hK hP 4 rfl rfl 6 (by decide) k3 (fun _ h9 => h9) rfl dX2_mix_364 ?_
                refine lv_aload_n hx hb dX2_mix_367 rfl (lv_at hl 1 rfl) ?_
                refine va_get (D := (dC, dI)) (ci := 2) (v := .ref qr) (C := RX2) (T := TX2) (N := 13) hx hb hts ki2 hown hK hP 4 rfl rfl 12 (by decide) k4 (fun _ h9 => h9) rfl dX2_mix_368 ?_
                refine lv_iload hx hb dX2_mix_371 (lv_at hl 0 rfl) ?_
                refine lv_bipush (v := 9) hx hb dX2_mix_373 (by decide) ?_
                refine lv_iadd hx hb dX2_mix_375 ?_
                refine kd_ild (16 * n + 9) hx hb hK hP 3 0 rfl rfl (by rw [ey]; exact nI_add _ _) (by omega) (by decide) dX2_mix_376 ?_
                refine kd_ild (kd_pl (16 * n + 9)) hx hb hK hP 1 0 rfl rfl rfl (kd_pl_lt _ (by omega)) (by decide) dX2_mix_377 ?_
                have hPc := hP.sub (ws' := [(h0, .inr (2, [.int rd, .int op, .int dn, .ref qk, .ref qh, .ref qv, .ref qm, .ref qb, .int bb, .long mx, .int ln, .int nn, .ref qr])), (qv, .inl (cA, 16, .inl vo338))]) [4, 5] rfl
                have hDc := hD.sub (ws' := [(h0, .inr (2, [.int rd, .int op, .int dn, .ref qk, .ref qh, .ref qv, .ref qm, .ref qb, .int bb, .long mx, .int ln, .int nn, .ref qr])), (qv, .inl (cA, 16, .inl vo338))]) [4, 5] (by decide) rfl
                have hFc := va_free (wc := [(h0, .inr (2, [.int rd, .int op, .int dn, .ref qk, .ref qh, .ref qv, .ref qm, .ref qb, .int bb, .long mx, .int ln, .int nn, .ref qr])), (qv, .inl (cA, 16, .inl vo338))]) hD hS hA [4, 5] rfl
                refine va_callv (va_runV (As := [.int 0, .int 5, .int 10, .int 15, .int ((kd_wd bl) (kd_pl (16 * n + 8))), .int ((kd_wd bl) (kd_pl (16 * n + 9)))]) (rest := []) ⟨hx, hb, hml, hown, hts⟩ (cX2_g_ok l dC dI cA tb H.size h0 qk qh qv qm qb qr rd op dn vo338 mx ln nn bb 0 5 10 15 ((kd_wd bl) (kd_pl (16 * n + 8))) ((kd_wd bl) (kd_pl (16 * n + 9))) (by decide) (by decide) (by decide) (by decide)) (cwV 6 hts gX2_mix_X2_g rfl rfl rfl (by decide +kernel) ⟨Nat.le_of_ble_eq_true rfl, Nat.le_of_ble_eq_true rfl⟩) ⟨fun a U g mk q => kd_calling rfl rfl q, va_recv hK hPc (ci := 2) (q0 := 0) rfl rfl, fun U hU hW => ⟨rfl, kd_pre hPc hK hDc hT hS hFc U hU hW⟩⟩ rfl rfl hl.1 rfl (lv_room (Nat.le_of_ble_eq_true rfl)) dX2_mix_378 ⟨Nat.le_of_ble_eq_true rfl, Nat.le_of_ble_eq_true rfl⟩) hS (fun q _ h => hFc q h) hFc (fun u t H1 locs ht hvm hw hB hz1 hk1 hS => ?_)
                obtain ⟨vo378, rfl⟩ : ∃ z, z = u := ⟨_, rfl⟩
                have hw378 : vo378 = kd_G 0 5 10 15 ((kd_wd bl) (kd_pl (16 * n + 8))) ((kd_wd bl) (kd_pl (16 * n + 9))) vo338 := hw
                have hP1 : va_P (dC, dI) vwCl [(h0, .inr (2, [.int rd, .int op, .int dn, .ref qk, .ref qh, .ref qv, .ref qm, .ref qb, .int bb, .long mx, .int ln, .int nn, .ref qr])), (qv, .inl (cA, 16, .inl vo378))] H1 := by rw [← ht]; exact hB.1
                have hD1 : va_D (va_A [(h0, .inr (2, [.int rd, .int op, .int dn, .ref qk, .ref qh, .ref qv, .ref qm, .ref qb, .int bb, .long mx, .int ln, .int nn, .ref qr])), (qv, .inl (cA, 16, .inl vo338))] H.size) [(h0, .inr (2, [.int rd, .int op, .int dn, .ref qk, .ref qh, .ref qv, .ref qm, .ref qb, .int bb, .long mx, .int ln, .int nn, .ref qr])), (qv, .inl (cA, 16, .inl vo378))] := hB.2.2
                obtain ⟨hP, hD⟩ := va_join (wr := [(qh, .inl (cA, 8, .inl hh)), (qm, .inl (cA, 16, .inl (kd_wd bl))), (qb, .inl (cA, 64, .inl bl)), (qr, .inl (cA, 160, .inl kd_PL))]) (w1 := [(h0, .inr (2, [.int rd, .int op, .int dn, .ref qk, .ref qh, .ref qv, .ref qm, .ref qb, .int bb, .long mx, .int ln, .int nn, .ref qr])), (qv, .inl (cA, 16, .inl vo378))]) hP hD [4, 5] [0, 1, 2, 3] rfl rfl (by decide) (by decide) hk1 hFc hP1 hD1
                clear hw hB hk1 hPc hDc hFc hP1 hD1 hvm hz1
                generalize H1 = H at hP hS ⊢
                have hP : va_P (dC, dI) vwCl [(qh, .inl (cA, 8, .inl hh)), (qm, .inl (cA, 16, .inl (kd_wd bl))), (qb, .inl (cA, 64, .inl bl)), (qr, .inl (cA, 160, .inl kd_PL)), (h0, .inr (2, [.int rd, .int op, .int dn, .ref qk, .ref qh, .ref qv, .ref qm, .ref qb, .int bb, .long mx, .int ln, .int nn, .ref qr])), (qv, .inl (cA, 16, .inl vo378))] H := hP
                have hD : va_D A [(qh, .inl (cA, 8, .inl hh)), (qm, .inl (cA, 16, .inl (kd_wd bl))), (qb, .inl (cA, 64, .inl bl)), (qr, .inl (cA, 160, .inl kd_PL)), (h0, .inr (2, [.int rd, .int op, .int dn, .ref qk, .ref qh, .ref qv, .ref qm, .ref qb, .int bb, .long mx, .int ln, .int nn, .ref qr])), (qv, .inl (cA, 16, .inl vo378))] := hD
                refine lv_aload_n hx hb dX2_mix_381 rfl (lv_at hl 1 rfl) ?_
                refine lv_iconst (v := 1) hx hb dX2_mix_382 (by decide) ?_
                refine lv_bipush (v := 6) hx hb dX2_mix_383 (by decide) ?_
                refine lv_bipush (v := 11) hx hb dX2_mix_385 (by decide) ?_
                refine lv_bipush (v := 12) hx hb dX2_mix_387 (by decide) ?_
                refine lv_aload_n hx hb dX2_mix_389 rfl (lv_at hl 1 rfl) ?_
                refine va_get (D := (dC, dI)) (ci := 2) (v := .ref qm) (C := RX2) (T := TX2) (N := 13) hx hb hts ki2 hown hK hP 4 rfl rfl 6 (by decide) k3 (fun _ h9 => h9) rfl dX2_mix_390 ?_
                refine lv_aload_n hx hb dX2_mix_393 rfl (lv_at hl 1 rfl) ?_
                refine va_get (D := (dC, dI)) (ci := 2) (v := .ref qr) (C := RX2) (T := TX2) (N := 13) hx hb hts ki2 hown hK hP 4 rfl rfl 12 (by decide) k4 (fun _ h9 => h9) rfl dX2_mix_394 ?_
                refine lv_iload hx hb dX2_mix_397 (lv_at hl 0 rfl) ?_
                refine lv_bipush (v := 10) hx hb dX2_mix_399 (by decide) ?_
                refine lv_iadd hx hb dX2_mix_401 ?_
                refine kd_ild (16 * n + 10) hx hb hK hP 3 0 rfl rfl (by rw [ey]; exact nI_add _ _) (by omega) (by decide) dX2_mix_402 ?_
                refine kd_ild (kd_pl (16 * n + 10)) hx hb hK hP 1 0 rfl rfl rfl (kd_pl_lt _ (by omega)) (by decide) dX2_mix_403 ?_
                refine lv_aload_n hx hb dX2_mix_404 rfl (lv_at hl 1 rfl) ?_
                refine va_get (D := (dC, dI)) (ci := 2) (v := .ref qm) (C := RX2) (T := TX2) (N := 13) hx hb hts ki2 hown hK hP 4 rfl rfl 6 (by decide) k3 (fun _ h9 => h9) rfl dX2_mix_405 ?_
                refine lv_aload_n hx hb dX2_mix_408 rfl (lv_at hl 1 rfl) ?_
                refine va_get (D := (dC, dI)) (ci := 2) (v := .ref qr) (C := RX2) (T := TX2) (N := 13) hx hb hts ki2 hown hK hP 4 rfl rfl 12 (by decide) k4 (fun _ h9 => h9) rfl dX2_mix_409 ?_
                refine lv_iload hx hb dX2_mix_412 (lv_at hl 0 rfl) ?_
                refine lv_bipush (v := 11) hx hb dX2_mix_414 (by decide) ?_
                refine lv_iadd hx hb dX2_mix_416 ?_
                refine kd_ild (16 * n + 11) hx hb hK hP 3 0 rfl rfl (by rw [ey]; exact nI_add _ _) (by omega) (by decide) dX2_mix_417 ?_
                refine kd_ild (kd_pl (16 * n + 11)) hx hb hK hP 1 0 rfl rfl rfl (kd_pl_lt _ (by omega)) (by decide) dX2_mix_418 ?_
                have hPc := hP.sub (ws' := [(h0, .inr (2, [.int rd, .int op, .int dn, .ref qk, .ref qh, .ref qv, .ref qm, .ref qb, .int bb, .long mx, .int ln, .int nn, .ref qr])), (qv, .inl (cA, 16, .inl vo378))]) [4, 5] rfl
                have hDc := hD.sub (ws' := [(h0, .inr (2, [.int rd, .int op, .int dn, .ref qk, .ref qh, .ref qv, .ref qm, .ref qb, .int bb, .long mx, .int ln, .int nn, .ref qr])), (qv, .inl (cA, 16, .inl vo378))]) [4, 5] (by decide) rfl
                have hFc := va_free (wc := [(h0, .inr (2, [.int rd, .int op, .int dn, .ref qk, .ref qh, .ref qv, .ref qm, .ref qb, .int bb, .long mx, .int ln, .int nn, .ref qr])), (qv, .inl (cA, 16, .inl vo378))]) hD hS hA [4, 5] rfl
                refine va_callv (va_runV (As := [.int 1, .int 6, .int 11, .int 12, .int ((kd_wd bl) (kd_pl (16 * n + 10))), .int ((kd_wd bl) (kd_pl (16 * n + 11)))]) (rest := []) ⟨hx, hb, hml, hown, hts⟩ (cX2_g_ok l dC dI cA tb H.size h0 qk qh qv qm qb qr rd op dn vo378 mx ln nn bb 1 6 11 12 ((kd_wd bl) (kd_pl (16 * n + 10))) ((kd_wd bl) (kd_pl (16 * n + 11))) (by decide) (by decide) (by decide) (by decide)) (cwV 6 hts gX2_mix_X2_g rfl rfl rfl (by decide +kernel) ⟨Nat.le_of_ble_eq_true rfl, Nat.le_of_ble_eq_true rfl⟩) ⟨fun a U g mk q => kd_calling rfl rfl q, va_recv hK hPc (ci := 2) (q0 := 0) rfl rfl, fun U hU hW => ⟨rfl, kd_pre hPc hK hDc hT hS hFc U hU hW⟩⟩ rfl rfl hl.1 rfl (lv_room (Nat.le_of_ble_eq_true rfl)) dX2_mix_419 ⟨Nat.le_of_ble_eq_true rfl, Nat.le_of_ble_eq_true rfl⟩) hS (fun q _ h => hFc q h) hFc (fun u t H1 locs ht hvm hw hB hz1 hk1 hS => ?_)
                obtain ⟨vo419, rfl⟩ : ∃ z, z = u := ⟨_, rfl⟩
                have hw419 : vo419 = kd_G 1 6 11 12 ((kd_wd bl) (kd_pl (16 * n + 10))) ((kd_wd bl) (kd_pl (16 * n + 11))) vo378 := hw
                have hP1 : va_P (dC, dI) vwCl [(h0, .inr (2, [.int rd, .int op, .int dn, .ref qk, .ref qh, .ref qv, .ref qm, .ref qb, .int bb, .long mx, .int ln, .int nn, .ref qr])), (qv, .inl (cA, 16, .inl vo419))] H1 := by rw [← ht]; exact hB.1
                have hD1 : va_D (va_A [(h0, .inr (2, [.int rd, .int op, .int dn, .ref qk, .ref qh, .ref qv, .ref qm, .ref qb, .int bb, .long mx, .int ln, .int nn, .ref qr])), (qv, .inl (cA, 16, .inl vo378))] H.size) [(h0, .inr (2, [.int rd, .int op, .int dn, .ref qk, .ref qh, .ref qv, .ref qm, .ref qb, .int bb, .long mx, .int ln, .int nn, .ref qr])), (qv, .inl (cA, 16, .inl vo419))] := hB.2.2
                obtain ⟨hP, hD⟩ := va_join (wr := [(qh, .inl (cA, 8, .inl hh)), (qm, .inl (cA, 16, .inl (kd_wd bl))), (qb, .inl (cA, 64, .inl bl)), (qr, .inl (cA, 160, .inl kd_PL))]) (w1 := [(h0, .inr (2, [.int rd, .int op, .int dn, .ref qk, .ref qh, .ref qv, .ref qm, .ref qb, .int bb, .long mx, .int ln, .int nn, .ref qr])), (qv, .inl (cA, 16, .inl vo419))]) hP hD [4, 5] [0, 1, 2, 3] rfl rfl (by decide) (by decide) hk1 hFc hP1 hD1
                clear hw hB hk1 hPc hDc hFc hP1 hD1 hvm hz1
                generalize H1 = H at hP hS ⊢
                have hP : va_P (dC, dI) vwCl [(qh, .inl (cA, 8, .inl hh)), (qm, .inl (cA, 16, .inl (kd_wd bl))), (qb, .inl (cA, 64, .inl bl)), (qr, .inl (cA, 160, .inl kd_PL)), (h0, .inr (2, [.int rd, .int op, .int dn, .ref qk, .ref qh, .ref qv, .ref qm, .ref qb, .int bb, .long mx, .int ln, .int nn, .ref qr])), (qv, .inl (cA, 16, .inl vo419))] H := hP
                have hD : va_D A [(qh, .inl (cA, 8, .inl hh)), (qm, .inl (cA, 16, .inl (kd_wd bl))), (qb, .inl (cA, 64, .inl bl)), (qr, .inl (cA, 160, .inl kd_PL)), (h0, .inr (2, [.int rd, .int op, .int dn, .ref qk, .ref qh, .ref qv, .ref qm, .ref qb, .int bb, .long mx, .int ln, .int nn, .ref qr])), (qv, .inl (cA, 16, .inl vo419))] := hD
                refine lv_aload_n hx hb dX2_mix_422 rfl (lv_at hl 1 rfl) ?_
                refine lv_iconst (v := 2) hx hb dX2_mix_423 (by decide) ?_
                refine lv_bipush (v := 7) hx hb dX2_mix_424 (by decide) ?_
                refine lv_bipush (v := 8) hx hb dX2_mix_426 (by decide) ?_
                refine lv_bipush (v := 13) hx hb dX2_mix_428 (by decide) ?_
                refine lv_aload_n hx hb dX2_mix_430 rfl (lv_at hl 1 rfl) ?_
                refine va_get (D := (dC, dI)) (ci := 2) (v := .ref qm) (C := RX2) (T := TX2) (N := 13) hx hb hts ki2 hown hK hP 4 rfl rfl 6 (by decide) k3 (fun _ h9 => h9) rfl dX2_mix_431 ?_
                refine lv_aload_n hx hb dX2_mix_434 rfl (lv_at hl 1 rfl) ?_
                refine va_get (D := (dC, dI)) (ci := 2) (v := .ref qr) (C := RX2) (T := TX2) (N := 13) hx hb hts ki2 hown hK hP 4 rfl rfl 12 (by decide) k4 (fun _ h9 => h9) rfl dX2_mix_435 ?_
                refine lv_iload hx hb dX2_mix_438 (lv_at hl 0 rfl) ?_
                refine lv_bipush (v := 12) hx hb dX2_mix_440 (by decide) ?_
                refine lv_iadd hx hb dX2_mix_442 ?_
                refine kd_ild (16 * n + 12) hx hb hK hP 3 0 rfl rfl (by rw [ey]; exact nI_add _ _) (by omega) (by decide) dX2_mix_443 ?_
                refine kd_ild (kd_pl (16 * n + 12)) hx hb hK hP 1 0 rfl rfl rfl (kd_pl_lt _ (by omega)) (by decide) dX2_mix_444 ?_
                refine lv_aload_n hx hb dX2_mix_445 rfl (lv_at hl 1 rfl) ?_
                refine va_get (D := (dC, dI)) (ci := 2) (v := .ref qm) (C := RX2) (T := TX2) (N := 13) hx hb hts ki2 hown hK hP 4 rfl rfl 6 (by decide) k3 (fun _ h9 => h9) rfl dX2_mix_446 ?_
                refine lv_aload_n hx hb dX2_mix_449 rfl (lv_at hl 1 rfl) ?_
                refine va_get (D := (dC, dI)) (ci := 2) (v := .ref qr) (C := RX2) (T := TX2) (N := 13) hx hb hts ki2 hown hK hP 4 rfl rfl 12 (by decide) k4 (fun _ h9 => h9) rfl dX2_mix_450 ?_
                refine lv_iload hx hb dX2_mix_453 (lv_at hl 0 rfl) ?_
                refine lv_bipush (v := 13) hx hb dX2_mix_455 (by decide) ?_
                refine lv_iadd hx hb dX2_mix_457 ?_
                refine kd_ild (16 * n + 13) hx hb hK hP 3 0 rfl rfl (by rw [ey]; exact nI_add _ _) (by omega) (by decide) dX2_mix_458 ?_
                refine kd_ild (kd_pl (16 * n + 13)) hx hb hK hP 1 0 rfl rfl rfl (kd_pl_lt _ (by omega)) (by decide) dX2_mix_459 ?_
                have hPc := hP.sub (ws' := [(h0, .inr (2, [.int rd, .int op, .int dn, .ref qk, .ref qh, .ref qv, .ref qm, .ref qb, .int bb, .long mx, .int ln, .int nn, .ref qr])), (qv, .inl (cA, 16, .inl vo419))]) [4, 5] rfl
                have hDc := hD.sub (ws' := [(h0, .inr (2, [.int rd, .int op, .int dn, .ref qk, .ref qh, .ref qv, .ref qm, .ref qb, .int bb, .long mx, .int ln, .int nn, .ref qr])), (qv, .inl (cA, 16, .inl vo419))]) [4, 5] (by decide) rfl
                have hFc := va_free (wc := [(h0, .inr (2, [.int rd, .int op, .int dn, .ref qk, .ref qh, .ref qv, .ref qm, .ref qb, .int bb, .long mx, .int ln, .int nn, .ref qr])), (qv, .inl (cA, 16, .inl vo419))]) hD hS hA [4, 5] rfl
                refine va_callv (va_runV (As := [.int 2, .int 7, .int 8, .int 13, .int ((kd_wd bl) (kd_pl (16 * n + 12))), .int ((kd_wd bl) (kd_pl (16 * n + 13)))]) (rest := []) ⟨hx, hb, hml, hown, hts⟩ (cX2_g_ok l dC dI cA tb H.size h0 qk qh qv qm qb qr rd op dn vo419 mx ln nn bb 2 7 8 13 ((kd_wd bl) (kd_pl (16 * n + 12))) ((kd_wd bl) (kd_pl (16 * n + 13))) (by decide) (by decide) (by decide) (by decide)) (cwV 6 hts gX2_mix_X2_g rfl rfl rfl (by decide +kernel) ⟨Nat.le_of_ble_eq_true rfl, Nat.le_of_ble_eq_true rfl⟩) ⟨fun a U g mk q => kd_calling rfl rfl q, va_recv hK hPc (ci := 2) (q0 := 0) rfl rfl, fun U hU hW => ⟨rfl, kd_pre hPc hK hDc hT hS hFc U hU hW⟩⟩ rfl rfl hl.1 rfl (lv_room (Nat.le_of_ble_eq_true rfl)) dX2_mix_460 ⟨Nat.le_of_ble_eq_true rfl, Nat.le_of_ble_eq_true rfl⟩) hS (fun q _ h => hFc q h) hFc (fun u t H1 locs ht hvm hw hB hz1 hk1 hS => ?_)
                obtain ⟨vo460, rfl⟩ : ∃ z, z = u := ⟨_, rfl⟩
                have hw460 : vo460 = kd_G 2 7 8 13 ((kd_wd bl) (kd_pl (16 * n + 12))) ((kd_wd bl) (kd_pl (16 * n + 13))) vo419 := hw
                have hP1 : va_P (dC, dI) vwCl [(h0, .inr (2, [.int rd, .int op, .int dn, .ref qk, .ref qh, .ref qv, .ref qm, .ref qb, .int bb, .long mx, .int ln, .int nn, .ref qr])), (qv, .inl (cA, 16, .inl vo460))] H1 := by rw [← ht]; exact hB.1
                have hD1 : va_D (va_A [(h0, .inr (2, [.int rd, .int op, .int dn, .ref qk, .ref qh, .ref qv, .ref qm, .ref qb, .int bb, .long mx, .int ln, .int nn, .ref qr])), (qv, .inl (cA, 16, .inl vo419))] H.size) [(h0, .inr (2, [.int rd, .int op, .int dn, .ref qk, .ref qh, .ref qv, .ref qm, .ref qb, .int bb, .long mx, .int ln, .int nn, .ref qr])), (qv, .inl (cA, 16, .inl vo460))] := hB.2.2
                obtain ⟨hP, hD⟩ := va_join (wr := [(qh, .inl (cA, 8, .inl hh)), (qm, .inl (cA, 16, .inl (kd_wd bl))), (qb, .inl (cA, 64, .inl bl)), (qr, .inl (cA, 160, .inl kd_PL))]) (w1 := [(h0, .inr (2, [.int rd, .int op, .int dn, .ref qk, .ref qh, .ref qv, .ref qm, .ref qb, .int bb, .long mx, .int ln, .int nn, .ref qr])), (qv, .inl (cA, 16, .inl vo460))]) hP hD [4, 5] [0, 1, 2, 3] rfl rfl (by decide) (by decide) hk1 hFc hP1 hD1
                clear hw hB hk1 hPc hDc hFc hP1 hD1 hvm hz1
                generalize H1 = H at hP hS ⊢
                have hP : va_P (dC, dI) vwCl [(qh, .inl (cA, 8, .inl hh)), (qm, .inl (cA, 16, .inl (kd_wd bl))), (qb, .inl (cA, 64, .inl bl)), (qr, .inl (cA, 160, .inl kd_PL)), (h0, .inr (2, [.int rd, .int op, .int dn, .ref qk, .ref qh, .ref qv, .ref qm, .ref qb, .int bb, .long mx, .int ln, .int nn, .ref qr])), (qv, .inl (cA, 16, .inl vo460))] H := hP
                have hD : va_D A [(qh, .inl (cA, 8, .inl hh)), (qm, .inl (cA, 16, .inl (kd_wd bl))), (qb, .inl (cA, 64, .inl bl)), (qr, .inl (cA, 160, .inl kd_PL)), (h0, .inr (2, [.int rd, .int op, .int dn, .ref qk, .ref qh, .ref qv, .ref qm, .ref qb, .int bb, .long mx, .int ln, .int nn, .ref qr])), (qv, .inl (cA, 16, .inl vo460))] := hD
                refine lv_aload_n hx hb dX2_mix_463 rfl (lv_at hl 1 rfl) ?_
                refine lv_iconst (v := 3) hx hb dX2_mix_464 (by decide) ?_
                refine lv_iconst (v := 4) hx hb dX2_mix_465 (by decide) ?_
                refine lv_bipush (v := 9) hx hb dX2_mix_466 (by decide) ?_
                refine lv_bipush (v := 14) hx hb dX2_mix_468 (by decide) ?_
                refine lv_aload_n hx hb dX2_mix_470 rfl (lv_at hl 1 rfl) ?_
                refine va_get (D := (dC, dI)) (ci := 2) (v := .ref qm) (C := RX2) (T := TX2) (N := 13) hx hb hts ki2 hown hK hP 4 rfl rfl 6 (by decide) k3 (fun _ h9 => h9) rfl dX2_mix_471 ?_
                refine lv_aload_n hx hb dX2_mix_474 rfl (lv_at hl 1 rfl) ?_
                refine va_get (D := (dC, dI)) (ci := 2) (v := .ref qr) (C := RX2) (T := TX2) (N := 13) hx hb hts ki2 hown hK hP 4 rfl rfl 12 (by decide) k4 (fun _ h9 => h9) rfl dX2_mix_475 ?_
                refine lv_iload hx hb dX2_mix_478 (lv_at hl 0 rfl) ?_
                refine lv_bipush (v := 14) hx hb dX2_mix_480 (by decide) ?_
                refine lv_iadd hx hb dX2_mix_482 ?_
                refine kd_ild (16 * n + 14) hx hb hK hP 3 0 rfl rfl (by rw [ey]; exact nI_add _ _) (by omega) (by decide) dX2_mix_483 ?_
                refine kd_ild (kd_pl (16 * n + 14)) hx hb hK hP 1 0 rfl rfl rfl (kd_pl_lt _ (by omega)) (by decide) dX2_mix_484 ?_
                refine lv_aload_n hx hb dX2_mix_485 rfl (lv_at hl 1 rfl) ?_
                refine va_get (D := (dC, dI)) (ci := 2) (v := .ref qm) (C := RX2) (T := TX2) (N := 13) hx hb hts ki2 hown hK hP 4 rfl rfl 6 (by decide) k3 (fun _ h9 => h9) rfl dX2_mix_486 ?_
                refine lv_aload_n hx hb dX2_mix_489 rfl (lv_at hl 1 rfl) ?_
                refine va_get (D := (dC, dI)) (ci := 2) (v := .ref qr) (C := RX2) (T := TX2) (N := 13) hx hb hts ki2 hown hK hP 4 rfl rfl 12 (by decide) k4 (fun _ h9 => h9) rfl dX2_mix_490 ?_
                refine lv_iload hx hb dX2_mix_493 (lv_at hl 0 rfl) ?_
                refine lv_bipush (v := 15) hx hb dX2_mix_495 (by decide) ?_
                refine lv_iadd hx hb dX2_mix_497 ?_
                refine kd_ild (16 * n + 15) hx hb hK hP 3 0 rfl rfl (by rw [ey]; exact nI_add _ _) (by omega) (by decide) dX2_mix_498 ?_
                refine kd_ild (kd_pl (16 * n + 15)) hx hb hK hP 1 0 rfl rfl rfl (kd_pl_lt _ (by omega)) (by decide) dX2_mix_499 ?_
                have hPc := hP.sub (ws' := [(h0, .inr (2, [.int rd, .int op, .int dn, .ref qk, .ref qh, .ref qv, .ref qm, .ref qb, .int bb, .long mx, .int ln, .int nn, .ref qr])), (qv, .inl (cA, 16, .inl vo460))]) [4, 5] rfl
                have hDc := hD.sub (ws' := [(h0, .inr (2, [.int rd, .int op, .int dn, .ref qk, .ref qh, .ref qv, .ref qm, .ref qb, .int bb, .long mx, .int ln, .int nn, .ref qr])), (qv, .inl (cA, 16, .inl vo460))]) [4, 5] (by decide) rfl
                have hFc := va_free (wc := [(h0, .inr (2, [.int rd, .int op, .int dn, .ref qk, .ref qh, .ref qv, .ref qm, .ref qb, .int bb, .long mx, .int ln, .int nn, .ref qr])), (qv, .inl (cA, 16, .inl vo460))]) hD hS hA [4, 5] rfl
                refine va_callv (va_runV (As := [.int 3, .int 4, .int 9, .int 14, .int ((kd_wd bl) (kd_pl (16 * n + 14))), .int ((kd_wd bl) (kd_pl (16 * n + 15)))]) (rest := []) ⟨hx, hb, hml, hown, hts⟩ (cX2_g_ok l dC dI cA tb H.size h0 qk qh qv qm qb qr rd op dn vo460 mx ln nn bb 3 4 9 14 ((kd_wd bl) (kd_pl (16 * n + 14))) ((kd_wd bl) (kd_pl (16 * n + 15))) (by decide) (by decide) (by decide) (by decide)) (cwV 6 hts gX2_mix_X2_g rfl rfl rfl (by decide +kernel) ⟨Nat.le_of_ble_eq_true rfl, Nat.le_of_ble_eq_true rfl⟩) ⟨fun a U g mk q => kd_calling rfl rfl q, va_recv hK hPc (ci := 2) (q0 := 0) rfl rfl, fun U hU hW => ⟨rfl, kd_pre hPc hK hDc hT hS hFc U hU hW⟩⟩ rfl rfl hl.1 rfl (lv_room (Nat.le_of_ble_eq_true rfl)) dX2_mix_500 ⟨Nat.le_of_ble_eq_true rfl, Nat.le_of_ble_eq_true rfl⟩) hS (fun q _ h => hFc q h) hFc (fun u t H1 locs ht hvm hw hB hz1 hk1 hS => ?_)
                obtain ⟨vo500, rfl⟩ : ∃ z, z = u := ⟨_, rfl⟩
                have hw500 : vo500 = kd_G 3 4 9 14 ((kd_wd bl) (kd_pl (16 * n + 14))) ((kd_wd bl) (kd_pl (16 * n + 15))) vo460 := hw
                have hP1 : va_P (dC, dI) vwCl [(h0, .inr (2, [.int rd, .int op, .int dn, .ref qk, .ref qh, .ref qv, .ref qm, .ref qb, .int bb, .long mx, .int ln, .int nn, .ref qr])), (qv, .inl (cA, 16, .inl vo500))] H1 := by rw [← ht]; exact hB.1
                have hD1 : va_D (va_A [(h0, .inr (2, [.int rd, .int op, .int dn, .ref qk, .ref qh, .ref qv, .ref qm, .ref qb, .int bb, .long mx, .int ln, .int nn, .ref qr])), (qv, .inl (cA, 16, .inl vo460))] H.size) [(h0, .inr (2, [.int rd, .int op, .int dn, .ref qk, .ref qh, .ref qv, .ref qm, .ref qb, .int bb, .long mx, .int ln, .int nn, .ref qr])), (qv, .inl (cA, 16, .inl vo500))] := hB.2.2
                obtain ⟨hP, hD⟩ := va_join (wr := [(qh, .inl (cA, 8, .inl hh)), (qm, .inl (cA, 16, .inl (kd_wd bl))), (qb, .inl (cA, 64, .inl bl)), (qr, .inl (cA, 160, .inl kd_PL))]) (w1 := [(h0, .inr (2, [.int rd, .int op, .int dn, .ref qk, .ref qh, .ref qv, .ref qm, .ref qb, .int bb, .long mx, .int ln, .int nn, .ref qr])), (qv, .inl (cA, 16, .inl vo500))]) hP hD [4, 5] [0, 1, 2, 3] rfl rfl (by decide) (by decide) hk1 hFc hP1 hD1
                clear hw hB hk1 hPc hDc hFc hP1 hD1 hvm hz1
                generalize H1 = H at hP hS ⊢
                have hP : va_P (dC, dI) vwCl [(qh, .inl (cA, 8, .inl hh)), (qm, .inl (cA, 16, .inl (kd_wd bl))), (qb, .inl (cA, 64, .inl bl)), (qr, .inl (cA, 160, .inl kd_PL)), (h0, .inr (2, [.int rd, .int op, .int dn, .ref qk, .ref qh, .ref qv, .ref qm, .ref qb, .int bb, .long mx, .int ln, .int nn, .ref qr])), (qv, .inl (cA, 16, .inl vo500))] H := hP
                have hD : va_D A [(qh, .inl (cA, 8, .inl hh)), (qm, .inl (cA, 16, .inl (kd_wd bl))), (qb, .inl (cA, 64, .inl bl)), (qr, .inl (cA, 160, .inl kd_PL)), (h0, .inr (2, [.int rd, .int op, .int dn, .ref qk, .ref qh, .ref qv, .ref qm, .ref qb, .int bb, .long mx, .int ln, .int nn, .ref qr])), (qv, .inl (cA, 16, .inl vo500))] := hD
                refine lv_iload hx hb dX2_mix_503 (lv_at hl 0 rfl) ?_
                refine lv_bipush (v := 16) hx hb dX2_mix_505 (by decide) ?_
                refine lv_iadd hx hb dX2_mix_507 ?_
                refine lv_topi (fun x508 ex508 => ?_)
                refine lv_istore (lv' := [(4, .int x508), (0, .ref h0), (1, .long mn), (3, .int la)]) hx hb dX2_mix_508 hl (by decide) rfl (fun ls hl => ?_)
                refine lv_goto (tgt := 179) hx hb dX2_mix_510 (by decide) ?_
                exact ih  (n + 1) x508 vo500 (by omega) (by omega) (by rw [ex508, ey, show 16 * (n + 1) = 16 * n + 16 by omega]; exact nI_add _ _) (by rw [hw500, hw460, hw419, hw378, hw338, hw297, hw258, hw220, hg]; rfl) _ _ ls (hP.sub [4, 0, 5, 1, 2, 3] rfl) (hD.sub [4, 0, 5, 1, 2, 3] (by decide) rfl) hS (lv_sub hl [0, 1, 2, 3] rfl)
          exact lp2 11 0 0 (kd_v0 hh mn (kd_lm la)) (by omega) (by omega) rfl rfl _ _ ls (hP.sub [0, 1, 2, 3, 4, 5] rfl) (hD.sub [0, 1, 2, 3, 4, 5] (by decide) rfl) hS (lv_sub hl [0, 1, 2, 3] rfl)
      · have hlt : i < 16 := kd_lt (n := 16) ex (by omega) (by decide) c7
        refine lv_aload_n hx hb dX2_mix_10 rfl (lv_at hl 1 rfl) ?_
        refine va_get (D := (dC, dI)) (ci := 2) (v := .ref qm) (C := RX2) (T := TX2) (N := 13) hx hb hts ki2 hown hK hP 0 rfl rfl 6 (by decide) k3 (fun _ h9 => h9) rfl dX2_mix_11 ?_
        refine lv_iload hx hb dX2_mix_14 (lv_at hl 0 rfl) ?_
        refine lv_aload_n hx hb dX2_mix_16 rfl (lv_at hl 1 rfl) ?_
        refine va_get (D := (dC, dI)) (ci := 2) (v := .ref qb) (C := RX2) (T := TX2) (N := 13) hx hb hts ki2 hown hK hP 0 rfl rfl 7 (by decide) k5 (fun _ h9 => h9) rfl dX2_mix_17 ?_
        refine lv_iconst (v := 4) hx hb dX2_mix_20 (by decide) ?_
        refine lv_iload hx hb dX2_mix_21 (lv_at hl 0 rfl) ?_
        refine lv_imul hx hb dX2_mix_23 ?_
        refine kd_ild (4 * i) hx hb hK hP 4 0 rfl rfl (by rw [ex]; exact pk_mul 4 i) (by omega) (by decide) dX2_mix_24 ?_
        refine lv_aload_n hx hb dX2_mix_25 rfl (lv_at hl 1 rfl) ?_
        refine va_get (D := (dC, dI)) (ci := 2) (v := .ref qb) (C := RX2) (T := TX2) (N := 13) hx hb hts ki2 hown hK hP 0 rfl rfl 7 (by decide) k5 (fun _ h9 => h9) rfl dX2_mix_26 ?_
        refine lv_iconst (v := 4) hx hb dX2_mix_29 (by decide) ?_
        refine lv_iload hx hb dX2_mix_30 (lv_at hl 0 rfl) ?_
        refine lv_imul hx hb dX2_mix_32 ?_
        refine lv_iconst (v := 1) hx hb dX2_mix_33 (by decide) ?_
        refine lv_iadd hx hb dX2_mix_34 ?_
        refine kd_ild (4 * i + 1) hx hb hK hP 4 0 rfl rfl (by rw [ex, show (4 : Int32) * nI i = nI (4 * i) from pk_mul 4 i]; exact nI_add _ _) (by omega) (by decide) dX2_mix_35 ?_
        refine lv_bipush (v := 8) hx hb dX2_mix_36 (by decide) ?_
        refine lv_ishl hx hb dX2_mix_38 ?_
        refine lv_ior hx hb dX2_mix_39 ?_
        refine lv_aload_n hx hb dX2_mix_40 rfl (lv_at hl 1 rfl) ?_
        refine va_get (D := (dC, dI)) (ci := 2) (v := .ref qb) (C := RX2) (T := TX2) (N := 13) hx hb hts ki2 hown hK hP 0 rfl rfl 7 (by decide) k5 (fun _ h9 => h9) rfl dX2_mix_41 ?_
        refine lv_iconst (v := 4) hx hb dX2_mix_44 (by decide) ?_
        refine lv_iload hx hb dX2_mix_45 (lv_at hl 0 rfl) ?_
        refine lv_imul hx hb dX2_mix_47 ?_
        refine lv_iconst (v := 2) hx hb dX2_mix_48 (by decide) ?_
        refine lv_iadd hx hb dX2_mix_49 ?_
        refine kd_ild (4 * i + 2) hx hb hK hP 4 0 rfl rfl (by rw [ex, show (4 : Int32) * nI i = nI (4 * i) from pk_mul 4 i]; exact nI_add _ _) (by omega) (by decide) dX2_mix_50 ?_
        refine lv_bipush (v := 16) hx hb dX2_mix_51 (by decide) ?_
        refine lv_ishl hx hb dX2_mix_53 ?_
        refine lv_ior hx hb dX2_mix_54 ?_
        refine lv_aload_n hx hb dX2_mix_55 rfl (lv_at hl 1 rfl) ?_
        refine va_get (D := (dC, dI)) (ci := 2) (v := .ref qb) (C := RX2) (T := TX2) (N := 13) hx hb hts ki2 hown hK hP 0 rfl rfl 7 (by decide) k5 (fun _ h9 => h9) rfl dX2_mix_56 ?_
        refine lv_iconst (v := 4) hx hb dX2_mix_59 (by decide) ?_
        refine lv_iload hx hb dX2_mix_60 (lv_at hl 0 rfl) ?_
        refine lv_imul hx hb dX2_mix_62 ?_
        refine lv_iconst (v := 3) hx hb dX2_mix_63 (by decide) ?_
        refine lv_iadd hx hb dX2_mix_64 ?_
        refine kd_ild (4 * i + 3) hx hb hK hP 4 0 rfl rfl (by rw [ex, show (4 : Int32) * nI i = nI (4 * i) from pk_mul 4 i]; exact nI_add _ _) (by omega) (by decide) dX2_mix_65 ?_
        refine lv_bipush (v := 24) hx hb dX2_mix_66 (by decide) ?_
        refine lv_ishl hx hb dX2_mix_68 ?_
        refine lv_ior hx hb dX2_mix_69 ?_
        refine lv_topi (fun x70 ex70 => ?_)
        refine kd_ist i hx hb hK hP hD hS 3 0 rfl rfl ex hlt (by decide) dX2_mix_70 (fun f70 ef70 H locs hP hD hS => ?_)
        have hP : va_P (dC, dI) vwCl [(h0, .inr (2, [.int rd, .int op, .int dn, .ref qk, .ref qh, .ref qv, .ref qm, .ref qb, .int bb, .long mx, .int ln, .int nn, .ref qr])), (qh, .inl (cA, 8, .inl hh)), (qv, .inl (cA, 16, .inl g)), (qm, .inl (cA, 16, .inl f70)), (qb, .inl (cA, 64, .inl bl)), (qr, .inl (cA, 160, .inl kd_PL))] H := hP
        have hD : va_D A [(h0, .inr (2, [.int rd, .int op, .int dn, .ref qk, .ref qh, .ref qv, .ref qm, .ref qb, .int bb, .long mx, .int ln, .int nn, .ref qr])), (qh, .inl (cA, 8, .inl hh)), (qv, .inl (cA, 16, .inl g)), (qm, .inl (cA, 16, .inl f70)), (qb, .inl (cA, 64, .inl bl)), (qr, .inl (cA, 160, .inl kd_PL))] := hD
        refine lv_aload_n hx hb dX2_mix_71 rfl (lv_at hl 1 rfl) ?_
        refine va_get (D := (dC, dI)) (ci := 2) (v := .ref qv) (C := RX2) (T := TX2) (N := 13) hx hb hts ki2 hown hK hP 0 rfl rfl 5 (by decide) k1 (fun _ h9 => h9) rfl dX2_mix_72 ?_
        refine lv_iload hx hb dX2_mix_75 (lv_at hl 0 rfl) ?_
        refine lv_iload hx hb dX2_mix_77 (lv_at hl 0 rfl) ?_
        refine lv_bipush (v := 8) hx hb dX2_mix_79 (by decide) ?_
        refine lv_icmp_ge (tgt := 94) hx hb dX2_mix_81 (by decide) (fun c81 => ?_) (fun c81 => ?_)
        · have hge8 : 8 ≤ i := kd_ge (n := 8) ex (by omega) (by decide) c81
          refine lv_iload hx hb dX2_mix_94 (lv_at hl 0 rfl) ?_
          refine lv_bipush (v := 8) hx hb dX2_mix_96 (by decide) ?_
          refine lv_isub hx hb dX2_mix_98 ?_
          refine lv_topi (fun x98 ex98 => ?_)
          obtain rfl : x98 = nI (i - 8) := by rw [ex98, ex]; exact pk_sub hge8
          have hPc := hP.sub (ws' := []) [] rfl
          have hDc := hD.sub (ws' := []) [] (by decide) rfl
          have hFc := va_free (wc := []) hD hS hA [] rfl
          refine va_calli (va_runS (As := [.int (nI (i - 8))]) (rest := [.int x, .ref qv]) ⟨hx, hb, hml, hown, hts⟩ (cX2_first_ok l dC dI cA tb H.size (i - 8) (by omega)) (va_cwS 1 hts gX2_mix_X2_first rfl rfl rfl (by decide +kernel) ⟨Nat.le_of_ble_eq_true rfl, Nat.le_of_ble_eq_true rfl⟩) ⟨fun a U g mk q => kd_calling rfl rfl q, fun U hU hW => ⟨rfl, kd_pre hPc hK hDc hT hS hFc U hU hW⟩⟩ rfl rfl hl.1 rfl (lv_room (Nat.le_of_ble_eq_true rfl)) dX2_mix_99 ⟨Nat.le_of_ble_eq_true rfl, Nat.le_of_ble_eq_true rfl⟩) hS (fun q _ h => hFc q h) hFc (fun r99 u t H1 locs ht hvm hw hB hz1 hk1 hS => ?_)
          have hw99 : r99 = kd_iv (i - 8) := hw
          have hP1 : va_P (dC, dI) vwCl [] H1 := by rw [← ht]; exact hB.1
          have hD1 : va_D (va_A [] H.size) [] := hB.2.2
          obtain ⟨hP, hD⟩ := va_join (wr := [(h0, .inr (2, [.int rd, .int op, .int dn, .ref qk, .ref qh, .ref qv, .ref qm, .ref qb, .int bb, .long mx, .int ln, .int nn, .ref qr])), (qh, .inl (cA, 8, .inl hh)), (qv, .inl (cA, 16, .inl g)), (qm, .inl (cA, 16, .inl f70)), (qb, .inl (cA, 64, .inl bl)), (qr, .inl (cA, 160, .inl kd_PL))]) (w1 := []) hP hD [] [0, 1, 2, 3, 4, 5] rfl rfl (by decide) (by decide) hk1 hFc hP1 hD1
          clear hw hB hk1 hPc hDc hFc hP1 hD1 hvm hz1
          generalize H1 = H at hP hS ⊢
          have hP : va_P (dC, dI) vwCl [(h0, .inr (2, [.int rd, .int op, .int dn, .ref qk, .ref qh, .ref qv, .ref qm, .ref qb, .int bb, .long mx, .int ln, .int nn, .ref qr])), (qh, .inl (cA, 8, .inl hh)), (qv, .inl (cA, 16, .inl g)), (qm, .inl (cA, 16, .inl f70)), (qb, .inl (cA, 64, .inl bl)), (qr, .inl (cA, 160, .inl kd_PL))] H := hP
          have hD : va_D A [(h0, .inr (2, [.int rd, .int op, .int dn, .ref qk, .ref qh, .ref qv, .ref qm, .ref qb, .int bb, .long mx, .int ln, .int nn, .ref qr])), (qh, .inl (cA, 8, .inl hh)), (qv, .inl (cA, 16, .inl g)), (qm, .inl (cA, 16, .inl f70)), (qb, .inl (cA, 64, .inl bl)), (qr, .inl (cA, 160, .inl kd_PL))] := hD
          refine kd_ist i hx hb hK hP hD hS 2 0 rfl rfl ex hlt (by decide) dX2_mix_102 (fun f102 ef102 H locs hP hD hS => ?_)
          have hP : va_P (dC, dI) vwCl [(h0, .inr (2, [.int rd, .int op, .int dn, .ref qk, .ref qh, .ref qv, .ref qm, .ref qb, .int bb, .long mx, .int ln, .int nn, .ref qr])), (qh, .inl (cA, 8, .inl hh)), (qv, .inl (cA, 16, .inl f102)), (qm, .inl (cA, 16, .inl f70)), (qb, .inl (cA, 64, .inl bl)), (qr, .inl (cA, 160, .inl kd_PL))] H := hP
          have hD : va_D A [(h0, .inr (2, [.int rd, .int op, .int dn, .ref qk, .ref qh, .ref qv, .ref qm, .ref qb, .int bb, .long mx, .int ln, .int nn, .ref qr])), (qh, .inl (cA, 8, .inl hh)), (qv, .inl (cA, 16, .inl f102)), (qm, .inl (cA, 16, .inl f70)), (qb, .inl (cA, 64, .inl bl)), (qr, .inl (cA, 160, .inl kd_PL))] := hD
          obtain ⟨x103, ex103⟩ : ∃ zz : Int32, zz = x + 1 := ⟨_, rfl⟩
          refine lv_iinc (v := x103) (lv' := [(4, .int x103), (0, .ref h0), (1, .long mn), (3, .int la)]) hx hb dX2_mix_103 hl (k := 0) rfl (by rw [ex103]; rfl) (by decide) rfl (fun ls hl => ?_)
          refine lv_goto (tgt := 3) hx hb dX2_mix_106 (by decide) ?_
          exact ih  (i + 1) x103 f70 f102 (by omega) (by omega) (by rw [ex103, ex]; exact nI_1 i) (by rw [ef70]; exact kd_stp hf (by rw [ex70]; exact kd_wd_of hlt)) (by rw [ef102]; exact kd_stp hg (hw99.trans (kd_v00_hi hge8))) _ _ ls (hP.sub [0, 1, 2, 3, 4, 5] rfl) (hD.sub [0, 1, 2, 3, 4, 5] (by decide) rfl) hS (lv_sub hl [0, 1, 2, 3] rfl)
        · have hlt8 : i < 8 := kd_lt (n := 8) ex (by omega) (by decide) c81
          refine lv_aload_n hx hb dX2_mix_84 rfl (lv_at hl 1 rfl) ?_
          refine va_get (D := (dC, dI)) (ci := 2) (v := .ref qh) (C := RX2) (T := TX2) (N := 13) hx hb hts ki2 hown hK hP 0 rfl rfl 4 (by decide) k2 (fun _ h9 => h9) rfl dX2_mix_85 ?_
          refine lv_iload hx hb dX2_mix_88 (lv_at hl 0 rfl) ?_
          refine kd_ild i hx hb hK hP 1 0 rfl rfl ex hlt8 (by decide) dX2_mix_90 ?_
          refine lv_goto (tgt := 102) hx hb dX2_mix_91 (by decide) ?_
          refine lv_topi (fun x102 ex102 => ?_)
          refine kd_ist i hx hb hK hP hD hS 2 0 rfl rfl ex hlt (by decide) dX2_mix_102 (fun f102 ef102 H locs hP hD hS => ?_)
          have hP : va_P (dC, dI) vwCl [(h0, .inr (2, [.int rd, .int op, .int dn, .ref qk, .ref qh, .ref qv, .ref qm, .ref qb, .int bb, .long mx, .int ln, .int nn, .ref qr])), (qh, .inl (cA, 8, .inl hh)), (qv, .inl (cA, 16, .inl f102)), (qm, .inl (cA, 16, .inl f70)), (qb, .inl (cA, 64, .inl bl)), (qr, .inl (cA, 160, .inl kd_PL))] H := hP
          have hD : va_D A [(h0, .inr (2, [.int rd, .int op, .int dn, .ref qk, .ref qh, .ref qv, .ref qm, .ref qb, .int bb, .long mx, .int ln, .int nn, .ref qr])), (qh, .inl (cA, 8, .inl hh)), (qv, .inl (cA, 16, .inl f102)), (qm, .inl (cA, 16, .inl f70)), (qb, .inl (cA, 64, .inl bl)), (qr, .inl (cA, 160, .inl kd_PL))] := hD
          obtain ⟨x103, ex103⟩ : ∃ zz : Int32, zz = x + 1 := ⟨_, rfl⟩
          refine lv_iinc (v := x103) (lv' := [(4, .int x103), (0, .ref h0), (1, .long mn), (3, .int la)]) hx hb dX2_mix_103 hl (k := 0) rfl (by rw [ex103]; rfl) (by decide) rfl (fun ls hl => ?_)
          refine lv_goto (tgt := 3) hx hb dX2_mix_106 (by decide) ?_
          exact ih  (i + 1) x103 f70 f102 (by omega) (by omega) (by rw [ex103, ex]; exact nI_1 i) (by rw [ef70]; exact kd_stp hf (by rw [ex70]; exact kd_wd_of hlt)) (by rw [ef102]; exact kd_stp hg (by rw [ex102]; exact kd_v00_lo hlt8)) _ _ ls (hP.sub [0, 1, 2, 3, 4, 5] rfl) (hD.sub [0, 1, 2, 3, 4, 5] (by decide) rfl) hS (lv_sub hl [0, 1, 2, 3] rfl)
  exact lp1 17 0 0 mm vv (by omega) (by omega) rfl (fun j hj => absurd hj (Nat.not_lt_zero j)) (fun j hj => absurd hj (Nat.not_lt_zero j)) _ _ ls (hP.sub [0, 1, 2, 3, 4, 5] rfl) (hD.sub [0, 1, 2, 3, 4, 5] (by decide) rfl) hS (lv_sub hl [0, 1, 2, 3] rfl)
