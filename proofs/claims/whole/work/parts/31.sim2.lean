section KDS2
variable {key keyR : Nat → Int32} {st nn ln rd op dn nR lR : Int32} {u : kd_C} {w : kd_M}
theorem kd_s_update (h : kd_rel key st nn ln u rd op dn keyR nR lR w) {b r1 r2 l1 l2 : Int32} {u1 : kd_C} {w1 : kd_M} (h1 : (r1, l1, u1) = if ¬ st = 2 ∨ kd_isB b = 0 then (0, ln, u) else (1, ln + 1, kd_add b u)) (h2 : (r2, l2, w1) = if op = 0 ∨ b < 0 ∨ 256 ≤ b then (0, lR, w) else (1, lR + 1, kd_take b w)) : r1 = r2 ∧ kd_rel key st nn l1 u1 rd op dn keyR nR l2 w1 :=
  kd_s_put h (by rw [kd_st2 h, kd_isB0, Decidable.not_not]) (fun q => Or.inl q) (fun _ => b) 1 h1 h2
theorem kd_s_updates (h : kd_rel key st nn ln u rd op dn keyR nR lR w) {n r1 r2 l1 l2 : Int32} {f : Nat → Int32} {u1 : kd_C} {w1 : kd_M} (h1 : (r1, l1, u1) = if ¬ st = 2 ∨ n < 1 ∨ 16 < n then (0, ln, u) else (1, ln + n, kd_adds f n.toNatClampNeg u)) (h2 : (r2, l2, w1) = if op = 0 ∨ n < 1 ∨ 16 < n then (0, lR, w) else (1, lR + n, kd_takes f n.toNatClampNeg w)) : r1 = r2 ∧ kd_rel key st nn l1 u1 rd op dn keyR nR l2 w1 :=
  kd_s_put h (by rw [kd_st2 h, Decidable.not_not]) (fun q => Or.inl q) f n.toNatClampNeg h1 h2
theorem kd_s_fill (h : kd_rel key st nn ln u rd op dn keyR nR lR w) {b n r1 r2 l1 l2 : Int32} {f : Nat → Int32} {u1 : kd_C} {w1 : kd_M} (h1 : (r1, l1, u1) = if ¬ st = 2 ∨ kd_isB b = 0 ∨ n < 0 ∨ 10000 < n then (0, ln, u) else (1, ln + n, kd_adds f n.toNatClampNeg u)) (h2 : (r2, l2, w1) = if op = 0 ∨ b < 0 ∨ 256 ≤ b ∨ n < 0 ∨ 10000 < n then (0, lR, w) else (1, lR + n, kd_takes f n.toNatClampNeg w)) : r1 = r2 ∧ kd_rel key st nn l1 u1 rd op dn keyR nR l2 w1 :=
  kd_s_put h (by rw [kd_st2 h, kd_isB0, Decidable.not_not, or_assoc]) (fun q => Or.inl q) f n.toNatClampNeg h1 h2
theorem kd_s_finish {hh mm bl hR h1 h2 bo : Nat → Int32} {kn kR : Nat} {ab mx xo : Int64} {r1 r2 s1 o2 d2 : Int32} (h : kd_rel key st nn ln (hh, mm, kn, ab) rd op dn keyR nR lR (hR, bl, kR, mx)) (e1 : (r1, s1, h1) = if st = 2 then (1, 3, kd_mix hh mm ab (-1)) else (0, st, hh)) (e2 : (r2, o2, d2, h2) = if op = 0 then (0, op, dn, hR) else (1, 0, 1, kd_mix hR (kd_words (kd_cut kR bl)) (mx + lN kR) (-1))) : r1 = r2 ∧ kd_rel key s1 nn ln (h1, mm, kn, ab) rd o2 d2 keyR nR lR (h2, bo, kR, xo) := by
  have hs := kd_st2 h
  by_cases ho : op = 0
  · rw [if_neg (fun q => hs.mp q ho)] at e1
    rw [if_pos ho] at e2
    cases e1; cases e2
    obtain ⟨g1, g2, g3, g4, g5, hc⟩ := h
    refine ⟨rfl, g1, g2, g3, g4, g5, ?_⟩
    rcases hc with c | c | ⟨-, -, c, -⟩ | c
    · exact Or.inl c
    · exact Or.inr (Or.inl c)
    · rw [ho] at c; exact absurd c (by decide)
    · exact Or.inr (Or.inr (Or.inr c))
  · rw [if_pos (hs.mpr ho)] at e1
    rw [if_neg ho] at e2
    cases e1; cases e2
    obtain ⟨g1, g2, g3, g4, g5, hc⟩ := h
    refine ⟨rfl, g1, g2, g3, g4, g5, ?_⟩
    rcases hc with ⟨-, -, c, -⟩ | ⟨-, -, c, -⟩ | ⟨-, c1, -, -, c2, c3, c4⟩ | ⟨-, -, c, -⟩
    · exact absurd c ho
    · exact absurd c ho
    · obtain ⟨q1, q2, q3, q4⟩ := c4
      dsimp only at q1 q2 q3 q4
      exact Or.inr (Or.inr (Or.inr ⟨rfl, c1, rfl, rfl, c2, c3, by show kd_mix hh mm ab (-1) = _; rw [q1, q3, q4]⟩))
    · exact absurd c ho
theorem kd_s_start {bl hR : Nat → Int32} {kR : Nat} {mx : Int64} {a kk r1 r2 s1 n1 l1 o2 d2 n2 l2 : Int32} {u1 : kd_C} {w1 : kd_M} (h : kd_rel key st nn ln u rd op dn keyR nR lR (hR, bl, kR, mx)) (e1 : (r1, s1, n1, l1, u1) = if st = 0 ∨ a < 1 ∨ 32 < a ∨ kk < 0 ∨ 32 < kk then (0, st, nn, ln, u) else (1, 2, a, 0, kd_open key a kk)) (e2 : (r2, o2, d2, n2, l2, w1) = if rd = 0 ∨ a < 1 ∨ 32 < a ∨ kk < 0 ∨ 32 < kk then (0, op, dn, nR, lR, (hR, bl, kR, mx)) else (1, 1, 0, a, 0, kd_openR keyR bl a kk)) : r1 = r2 ∧ kd_rel key s1 n1 l1 u1 rd o2 d2 keyR n2 l2 w1 := by
  have hs := kd_st0 h
  by_cases hb : rd = 0 ∨ a < 1 ∨ 32 < a ∨ kk < 0 ∨ 32 < kk
  · rw [if_pos (by rw [hs]; exact hb)] at e1
    rw [if_pos hb] at e2
    cases e1; cases e2
    exact ⟨rfl, h⟩
  · rw [if_neg (by rw [hs]; exact hb)] at e1
    rw [if_neg hb] at e2
    cases e1; cases e2
    obtain ⟨g1, g2, g3, g4, g5, hc⟩ := h
    have b1 : ¬ rd = 0 := fun q => hb (Or.inl q)
    have b2 : ¬ a < 1 := fun q => hb (Or.inr (Or.inl q))
    have b3 : ¬ 32 < a := fun q => hb (Or.inr (Or.inr (Or.inl q)))
    have b4 : ¬ kk < 0 := fun q => hb (Or.inr (Or.inr (Or.inr (Or.inl q))))
    have b5 : ¬ 32 < kk := fun q => hb (Or.inr (Or.inr (Or.inr (Or.inr q))))
    subst g1
    obtain ⟨s1, s2, s3⟩ := kd_sim_open (key := key) (bl := bl) b2 b3 b4 b5
    have hrd : rd = 1 := by
      rcases hc with ⟨-, c, -⟩ | ⟨-, c, -⟩ | ⟨-, c, -⟩ | ⟨-, c, -⟩
      · exact absurd c b1
      · exact c
      · exact c
      · exact c
    exact ⟨rfl, rfl, s2, s3, Int32.not_lt.mp b3, Int32.not_lt.mp b3, Or.inr (Or.inr (Or.inl ⟨rfl, hrd, rfl, rfl, rfl, rfl, s1⟩))⟩
theorem kd_s_length (h : kd_rel key st nn ln u rd op dn keyR nR lR w) {r1 r2 : Int32} (h1 : r1 = if kd_has st = 0 then -1 else ln) (h2 : r2 = if ¬ op = 0 ∨ ¬ dn = 0 then lR else -1) : r1 = r2 := by
  by_cases hb : op = 0 ∧ dn = 0
  · rw [h1, h2, if_pos ((kd_hasR h).mpr hb), if_neg (fun q => q.elim (fun q => q hb.1) (fun q => q hb.2))]
  · have hd : ¬ op = 0 ∨ ¬ dn = 0 := by
      by_cases ho : op = 0
      · exact Or.inr (fun q => hb ⟨ho, q⟩)
      · exact Or.inl ho
    rw [h1, h2, if_neg (fun q => hb ((kd_hasR h).mp q)), if_pos hd]
    exact (kd_hh h hb).2.1
theorem kd_s_word {hh mm bl hR : Nat → Int32} {kn kR : Nat} {ab mx : Int64} (h : kd_rel key st nn ln (hh, mm, kn, ab) rd op dn keyR nR lR (hR, bl, kR, mx)) {i r1 r2 : Int32} (h1 : r1 = if kd_has st = 0 ∨ i < 0 ∨ 8 ≤ i then 0 else hh i.toNatClampNeg) (h2 : r2 = if (op = 0 ∧ dn = 0) ∨ i < 0 ∨ 8 ≤ i then 0 else hR i.toNatClampNeg) : r1 = r2 := by
  by_cases hb : (op = 0 ∧ dn = 0) ∨ i < 0 ∨ 8 ≤ i
  · rw [h1, h2, if_pos hb, if_pos (by rw [kd_hasR h]; exact hb)]
  · rw [h1, h2, if_neg hb, if_neg (by rw [kd_hasR h]; exact hb)]
    have := (kd_hh h (fun q => hb (Or.inl q))).1
    dsimp only at this
    rw [this]
theorem kd_s_out {hh mm bl hR : Nat → Int32} {kn kR : Nat} {ab mx : Int64} (h : kd_rel key st nn ln (hh, mm, kn, ab) rd op dn keyR nR lR (hR, bl, kR, mx)) {i r1 r2 : Int32} (h1 : r1 = if ¬ st = 3 ∨ i < 0 ∨ nn ≤ i then -1 else kd_ushr (hh (i.toNatClampNeg / 4)) (8 * (i &&& 3)) &&& 255) (h2 : r2 = if dn = 0 ∨ i < 0 ∨ nR ≤ i then -1 else kd_ushr (hR (i.toNatClampNeg / 4)) (8 * nI (i.toNatClampNeg % 4)) &&& 255) : r1 = r2 := by
  have hs := kd_st3 h
  by_cases hd : dn = 0
  · rw [h1, h2, if_pos (Or.inl (fun q => hs.mp q hd)), if_pos (Or.inl hd)]
  · obtain ⟨e1, -, e2⟩ := kd_hh h (fun q => hd q.2)
    dsimp only at e1
    subst e1 e2
    have h3 : st = 3 := hs.mpr hd
    by_cases hi : i < 0 ∨ nn ≤ i
    · rw [h1, h2, if_pos (Or.inr hi), if_pos (Or.inr hi)]
    · rw [h1, h2, if_neg (fun q => q.elim (fun q => q h3) hi), if_neg (fun q => q.elim hd hi)]
      obtain ⟨j, hj, rfl⟩ := nI_of (x := i) (fun q => hi (Or.inl q))
      rw [nI_clamp hj, show nI j &&& 3 = nI (j % 4) from pk_andN (by omega) 2 (by decide)]
end KDS2
