/-! class and reference, step by step -/
def kd_sim (u : kd_C) (w : kd_M) : Prop := u.1 = w.1 ∧ u.2.2.1 = w.2.2.1 ∧ u.2.1 = kd_words (kd_cut w.2.2.1 w.2.1) ∧ u.2.2.2 = w.2.2.2 + lN w.2.2.1
theorem kd_cut_ne {k j : Nat} {f : Nat → Int32} {b : Int32} (h : j ≠ k) : kd_cut (k + 1) (upd f k b) j = kd_cut k f j := by
  unfold kd_cut upd
  rw [if_neg h]
  by_cases h1 : j < k
  · rw [if_pos h1, if_pos (by omega)]
  · rw [if_neg h1, if_neg (by omega)]
theorem kd_cut_eq {k : Nat} {f : Nat → Int32} {b : Int32} : kd_cut (k + 1) (upd f k b) k = b := by
  unfold kd_cut upd
  rw [if_pos (by omega), if_pos rfl]
theorem kd_cut_0 {k j : Nat} {f : Nat → Int32} (h : k ≤ j) : kd_cut k f j = 0 := by
  unfold kd_cut
  rw [if_neg (by omega)]
theorem kd_z8 : (0 : Int32) <<< ((8 : Int32) &&& 31) = 0 := by decide
theorem kd_z16 : (0 : Int32) <<< ((16 : Int32) &&& 31) = 0 := by decide
theorem kd_z24 : (0 : Int32) <<< ((24 : Int32) &&& 31) = 0 := by decide
/-- one byte more in the block -/
theorem kd_put_words {k : Nat} (hk : k < 64) (f : Nat → Int32) (b : Int32) : kd_put (kd_words (kd_cut k f)) k b = kd_words (kd_cut (k + 1) (upd f k b)) := by
  have ha : nI k &&& 3 = nI (k % 4) := pk_andN (by omega) 2 (by decide)
  funext w
  unfold kd_put
  by_cases hw : w = k / 4
  · subst hw
    unfold upd
    rw [if_pos rfl, ha]
    have hk4 : k = 4 * (k / 4) + k % 4 := by omega
    have ht : k % 4 = 0 ∨ k % 4 = 1 ∨ k % 4 = 2 ∨ k % 4 = 3 := by omega
    unfold kd_words
    rcases ht with ht | ht | ht | ht
    · have e0 : 4 * (k / 4) = k := by omega
      rw [ht, e0]
      have n1 := kd_cut_ne (f := f) (b := b) (show k + 1 ≠ k by omega)
      have n2 := kd_cut_ne (f := f) (b := b) (show k + 2 ≠ k by omega)
      have n3 := kd_cut_ne (f := f) (b := b) (show k + 3 ≠ k by omega)
      unfold upd at n1 n2 n3
      have n0 := kd_cut_eq (k := k) (f := f) (b := b)
      unfold upd at n0
      rw [n0, n1, n2, n3, kd_cut_0 (Nat.le_refl k), kd_cut_0 (show k ≤ k + 1 by omega), kd_cut_0 (show k ≤ k + 2 by omega), kd_cut_0 (show k ≤ k + 3 by omega), kd_z8, kd_z16, kd_z24, show ((8 * nI 0 : Int32) &&& 31) = (0 : Int32) &&& 31 by decide, sb_shl0]
      simp
    · have e1 : 4 * (k / 4) + 1 = k := by omega
      have e2 : 4 * (k / 4) + 2 = k + 1 := by omega
      have e3 : 4 * (k / 4) + 3 = k + 2 := by omega
      rw [ht, e1, e2, e3]
      have n1 := kd_cut_ne (f := f) (b := b) (show 4 * (k / 4) ≠ k by omega)
      have n2 := kd_cut_ne (f := f) (b := b) (show k + 1 ≠ k by omega)
      have n3 := kd_cut_ne (f := f) (b := b) (show k + 2 ≠ k by omega)
      unfold upd at n1 n2 n3
      have n0 := kd_cut_eq (k := k) (f := f) (b := b)
      unfold upd at n0
      rw [n0, n1, n2, n3, kd_cut_0 (Nat.le_refl k), kd_cut_0 (show k ≤ k + 1 by omega), kd_cut_0 (show k ≤ k + 2 by omega), kd_z8, kd_z16, kd_z24, show ((8 * nI 1 : Int32) &&& 31) = (8 : Int32) &&& 31 by decide]
      simp
    · have e2 : 4 * (k / 4) + 2 = k := by omega
      have e3 : 4 * (k / 4) + 3 = k + 1 := by omega
      rw [ht, e2, e3]
      have n1 := kd_cut_ne (f := f) (b := b) (show 4 * (k / 4) ≠ k by omega)
      have n2 := kd_cut_ne (f := f) (b := b) (show 4 * (k / 4) + 1 ≠ k by omega)
      have n3 := kd_cut_ne (f := f) (b := b) (show k + 1 ≠ k by omega)
      unfold upd at n1 n2 n3
      have n0 := kd_cut_eq (k := k) (f := f) (b := b)
      unfold upd at n0
      rw [n0, n1, n2, n3, kd_cut_0 (Nat.le_refl k), kd_cut_0 (show k ≤ k + 1 by omega), kd_z16, kd_z24, show ((8 * nI 2 : Int32) &&& 31) = (16 : Int32) &&& 31 by decide]
      simp
    · have e3 : 4 * (k / 4) + 3 = k := by omega
      rw [ht, e3]
      have n1 := kd_cut_ne (f := f) (b := b) (show 4 * (k / 4) ≠ k by omega)
      have n2 := kd_cut_ne (f := f) (b := b) (show 4 * (k / 4) + 1 ≠ k by omega)
      have n3 := kd_cut_ne (f := f) (b := b) (show 4 * (k / 4) + 2 ≠ k by omega)
      unfold upd at n1 n2 n3
      have n0 := kd_cut_eq (k := k) (f := f) (b := b)
      unfold upd at n0
      rw [n0, n1, n2, n3, kd_cut_0 (Nat.le_refl k), kd_z24, show ((8 * nI 3 : Int32) &&& 31) = (24 : Int32) &&& 31 by decide]
      simp
  · show (upd _ (k / 4) _) w = _
    rw [pk_un hw]
    unfold kd_words
    rw [kd_cut_ne (show 4 * w ≠ k by omega), kd_cut_ne (show 4 * w + 1 ≠ k by omega), kd_cut_ne (show 4 * w + 2 ≠ k by omega), kd_cut_ne (show 4 * w + 3 ≠ k by omega)]
theorem kd_words_0 (f : Nat → Int32) : kd_words (kd_cut 0 f) = kd_0 := by
  funext w
  unfold kd_words
  rw [kd_cut_0 (Nat.zero_le _), kd_cut_0 (Nat.zero_le _), kd_cut_0 (Nat.zero_le _), kd_cut_0 (Nat.zero_le _), kd_z8, kd_z16, kd_z24]
  show (0 ||| 0 ||| 0 ||| 0 : Int32) = 0
  decide
theorem kd_sim_add {u : kd_C} {w : kd_M} (b : Int32) (h : kd_sim u w) (hk : w.2.2.1 ≤ 64) : kd_sim (kd_add b u) (kd_take b w) := by
  obtain ⟨hh, mm, kn, ab⟩ := u
  obtain ⟨hR, bl, kR, mx⟩ := w
  obtain ⟨h1, h2, h3, h4⟩ := h
  dsimp only at h1 h2 h3 h4 hk
  subst h1 h2 h3 h4
  unfold kd_add kd_take
  dsimp only
  by_cases hf : kn = 64
  · subst hf
    rw [if_pos (Nat.le_refl 64), if_pos rfl]
    refine ⟨rfl, rfl, ?_, ?_⟩
    · show kd_put kd_0 0 b = kd_words (kd_cut 1 (upd bl 0 b))
      rw [← kd_words_0 bl]
      exact kd_put_words (by decide) bl b
    · show mx + lN 64 + 1 = mx + 64 + lN 1
      rfl
  · rw [if_neg (by omega), if_neg hf]
    refine ⟨rfl, rfl, kd_put_words (by omega) bl b, ?_⟩
    show mx + lN kn + 1 = mx + lN (kn + 1)
    rw [Int64.add_assoc, lN_1]
theorem kd_sim_adds {u : kd_C} {w : kd_M} (f : Nat → Int32) (h : kd_sim u w) (hk : w.2.2.1 ≤ 64) : ∀ n, kd_sim (kd_adds f n u) (kd_takes f n w)
  | 0 => h
  | n + 1 => kd_sim_add (f n) (kd_sim_adds f h hk n) (kd_takes_le hk n)
/-- the key's block, on both sides -/
theorem kd_adds_key (key h : Nat → Int32) : ∀ n, n ≤ 64 → kd_adds key n (h, kd_0, 0, 0) = (h, kd_words (kd_cut n key), n, lN n)
  | 0, _ => by rw [kd_words_0]; rfl
  | n + 1, hn => by
    show kd_add (key n) (kd_adds key n (h, kd_0, 0, 0)) = _
    rw [kd_adds_key key h n (by omega)]
    unfold kd_add
    dsimp only
    rw [if_neg (by omega), kd_put_words (by omega), lN_1, show upd key n (key n) = key from funext fun j => by unfold upd; split; (subst j; rfl); rfl]
def kd_fill (f g : Nat → Int32) (n : Nat) : Nat → Int32 := fun j => if j < n then f j else g j
theorem kd_takes_key (f h bl : Nat → Int32) : ∀ n, n ≤ 64 → kd_takes f n (h, bl, 0, 0) = (h, kd_fill f bl n, n, 0)
  | 0, _ => by
    show (h, bl, 0, 0) = _
    rw [show kd_fill f bl 0 = bl from funext fun j => if_neg (Nat.not_lt_zero j)]
  | n + 1, hn => by
    show kd_take (f n) (kd_takes f n (h, bl, 0, 0)) = _
    rw [kd_takes_key f h bl n (by omega)]
    unfold kd_take
    dsimp only
    rw [if_neg (by omega), show upd (kd_fill f bl n) n (f n) = kd_fill f bl (n + 1) from funext fun j => by
      unfold upd kd_fill
      by_cases h1 : j = n
      · rw [if_pos h1, if_pos (by omega), h1]
      · rw [if_neg h1]
        by_cases h2 : j < n
        · rw [if_pos h2, if_pos (by omega)]
        · rw [if_neg h2, if_neg (by omega)]]
theorem kd_h0_eq : ∀ k, k < 33 → ∀ n, n < 33 → kd_iv 0 ^^^ (16842752 + 256 * nI k + nI n) = ((kd_iv 0 ^^^ 16842752) ^^^ (nI k * 256)) ^^^ nI n := by decide +kernel
theorem kd_sim_open {key bl : Nat → Int32} {a k : Int32} (ha : ¬ a < 1) (ha2 : ¬ 32 < a) (hk : ¬ k < 0) (hk2 : ¬ 32 < k) : kd_sim (kd_open key a k) (kd_openR key bl a k) ∧ (kd_open key a k).2.2.1 ≤ 64 ∧ (kd_openR key bl a k).2.2.1 ≤ 64 := by
  obtain ⟨n, hn, rfl⟩ := nI_of2 (n := 32) (M := 32) (by decide) (kd_pos1 ha) (Int32.not_lt.mp ha2)
  obtain ⟨j, hj, rfl⟩ := nI_of2 (n := 32) (M := 32) (by decide) hk (Int32.not_lt.mp hk2)
  have hh : kd_h0 (nI n) (nI j) = kd_h0R (nI n) (nI j) := by
    unfold kd_h0 kd_h0R
    rw [kd_h0_eq j (by omega) n (by omega)]
  unfold kd_open kd_openR
  by_cases h0 : nI j ≤ 0
  · rw [if_pos h0, if_pos h0]
    refine ⟨⟨hh, rfl, (kd_words_0 bl).symm, (show (0 : Int64) = 0 + lN 0 by decide)⟩, Nat.zero_le 64, Nat.zero_le 64⟩
  · rw [if_neg h0, if_neg h0, nI_clamp (by omega), kd_adds_key key _ j (by omega), kd_takes_key _ _ bl 64 (Nat.le_refl 64)]
    refine ⟨⟨hh, rfl, ?_, (show (64 : Int64) = 0 + lN 64 by decide)⟩, Nat.le_refl 64, Nat.le_refl 64⟩
    show kd_words (kd_cut j key) = kd_words (kd_cut 64 (kd_fill (kd_keyR key j) bl 64))
    congr 1
    funext q
    unfold kd_cut kd_fill kd_keyR
    by_cases h1 : q < 64
    · rw [if_pos h1, if_pos h1]
    · rw [if_neg h1, if_neg (by omega)]
/-- the law's invariant: what class and reference hold beside each other -/
def kd_rel (key : Nat → Int32) (st nn ln : Int32) (u : kd_C) (rd op dn : Int32) (keyR : Nat → Int32) (nR lR : Int32) (w : kd_M) : Prop :=
  key = keyR ∧ u.2.2.1 ≤ 64 ∧ w.2.2.1 ≤ 64 ∧ nn ≤ 32 ∧ nR ≤ 32 ∧
  ((st = 0 ∧ rd = 0 ∧ op = 0 ∧ dn = 0) ∨ (st = 1 ∧ rd = 1 ∧ op = 0 ∧ dn = 0) ∨ (st = 2 ∧ rd = 1 ∧ op = 1 ∧ dn = 0 ∧ nn = nR ∧ ln = lR ∧ kd_sim u w) ∨ (st = 3 ∧ rd = 1 ∧ op = 0 ∧ dn = 1 ∧ nn = nR ∧ ln = lR ∧ u.1 = w.1))
theorem kd_ifc {α : Type} {A B : Prop} [Decidable A] [Decidable B] (h : A ↔ B) (x y : α) : (if A then x else y) = (if B then x else y) := by
  by_cases hB : B
  · rw [if_pos (h.mpr hB), if_pos hB]
  · rw [if_neg (fun a => hB (h.mp a)), if_neg hB]
theorem kd_255 (b : Int32) : 255 < b ↔ 256 ≤ b := by
  rw [Int32.lt_iff_toInt_lt, Int32.le_iff_toInt_le, show (255 : Int32).toInt = 255 by decide, show (256 : Int32).toInt = 256 by decide]
  omega
theorem kd_isB0 (b : Int32) : kd_isB b = 0 ↔ b < 0 ∨ 256 ≤ b := by
  unfold kd_isB
  rw [← kd_255]
  by_cases h : b < 0 ∨ 255 < b
  · rw [if_pos h]; exact ⟨fun _ => h, fun _ => rfl⟩
  · rw [if_neg h]; exact ⟨fun q => absurd q (by decide), fun q => absurd q h⟩
section KDS
variable {key keyR : Nat → Int32} {st nn ln rd op dn nR lR : Int32} {u : kd_C} {w : kd_M}
theorem kd_st2 (h : kd_rel key st nn ln u rd op dn keyR nR lR w) : st = 2 ↔ ¬ op = 0 := by
  obtain ⟨-, -, -, -, -, hc⟩ := h
  rcases hc with ⟨rfl, rfl, rfl, rfl⟩ | ⟨rfl, rfl, rfl, rfl⟩ | ⟨rfl, rfl, rfl, rfl, -⟩ | ⟨rfl, rfl, rfl, rfl, -⟩ <;> decide
theorem kd_st0 (h : kd_rel key st nn ln u rd op dn keyR nR lR w) : st = 0 ↔ rd = 0 := by
  obtain ⟨-, -, -, -, -, hc⟩ := h
  rcases hc with ⟨rfl, rfl, rfl, rfl⟩ | ⟨rfl, rfl, rfl, rfl⟩ | ⟨rfl, rfl, rfl, rfl, -⟩ | ⟨rfl, rfl, rfl, rfl, -⟩ <;> decide
theorem kd_st3 (h : kd_rel key st nn ln u rd op dn keyR nR lR w) : st = 3 ↔ ¬ dn = 0 := by
  obtain ⟨-, -, -, -, -, hc⟩ := h
  rcases hc with ⟨rfl, rfl, rfl, rfl⟩ | ⟨rfl, rfl, rfl, rfl⟩ | ⟨rfl, rfl, rfl, rfl, -⟩ | ⟨rfl, rfl, rfl, rfl, -⟩ <;> decide
theorem kd_hasR (h : kd_rel key st nn ln u rd op dn keyR nR lR w) : kd_has st = 0 ↔ (op = 0 ∧ dn = 0) := by
  obtain ⟨-, -, -, -, -, hc⟩ := h
  rcases hc with ⟨rfl, rfl, rfl, rfl⟩ | ⟨rfl, rfl, rfl, rfl⟩ | ⟨rfl, rfl, rfl, rfl, -⟩ | ⟨rfl, rfl, rfl, rfl, -⟩ <;> decide
theorem kd_hh (h : kd_rel key st nn ln u rd op dn keyR nR lR w) (hn : ¬ (op = 0 ∧ dn = 0)) : u.1 = w.1 ∧ ln = lR ∧ nn = nR := by
  obtain ⟨-, -, -, -, -, hc⟩ := h
  rcases hc with ⟨rfl, rfl, rfl, rfl⟩ | ⟨rfl, rfl, rfl, rfl⟩ | ⟨rfl, rfl, rfl, rfl, h1, h2, h3⟩ | ⟨rfl, rfl, rfl, rfl, h1, h2, h3⟩
  · exact absurd ⟨rfl, rfl⟩ hn
  · exact absurd ⟨rfl, rfl⟩ hn
  · exact ⟨h3.1, h2, h1⟩
  · exact ⟨h3, h2, h1⟩
theorem kd_s_init (h : kd_rel key st nn ln u rd op dn keyR nR lR w) : kd_rel kd_0 1 nn ln u 1 0 0 kd_0 nR lR w := ⟨rfl, h.2.1, h.2.2.1, h.2.2.2.1, h.2.2.2.2.1, Or.inr (Or.inl ⟨rfl, rfl, rfl, rfl⟩)⟩
theorem kd_s_set (h : kd_rel key st nn ln u rd op dn keyR nR lR w) {i b r1 r2 : Int32} {k1 k2 : Nat → Int32} (h1 : (r1, k1) = kd_set (i < 0 ∨ 32 ≤ i ∨ kd_isB b = 0 ∨ st = 2) key i b) (h2 : (r2, k2) = kd_set (i < 0 ∨ 32 ≤ i ∨ b < 0 ∨ 256 ≤ b ∨ ¬ op = 0) keyR i b) : r1 = r2 ∧ kd_rel k1 st nn ln u rd op dn k2 nR lR w := by
  have hb : (i < 0 ∨ 32 ≤ i ∨ kd_isB b = 0 ∨ st = 2) ↔ (i < 0 ∨ 32 ≤ i ∨ b < 0 ∨ 256 ≤ b ∨ ¬ op = 0) := by
    rw [kd_isB0, kd_st2 h, or_assoc]
  have hk := h.1
  have e : (r1, k1) = (r2, k2) := by
    rw [h1, h2]; unfold kd_set; rw [hk]; exact kd_ifc hb _ _
  exact ⟨congrArg Prod.fst e, congrArg Prod.snd e, h.2⟩
theorem kd_s_put (h : kd_rel key st nn ln u rd op dn keyR nR lR w) {A B : Prop} [Decidable A] [Decidable B] (hAB : A ↔ B) (hB : op = 0 → B) {r1 r2 l1 l2 d : Int32} {u1 : kd_C} {w1 : kd_M} (f : Nat → Int32) (n : Nat)
    (h1 : (r1, l1, u1) = if A then (0, ln, u) else (1, ln + d, kd_adds f n u)) (h2 : (r2, l2, w1) = if B then (0, lR, w) else (1, lR + d, kd_takes f n w)) : r1 = r2 ∧ kd_rel key st nn l1 u1 rd op dn keyR nR l2 w1 := by
  by_cases hb : B
  · rw [if_pos (hAB.mpr hb)] at h1
    rw [if_pos hb] at h2
    cases h1; cases h2
    exact ⟨rfl, h⟩
  · rw [if_neg (fun a => hb (hAB.mp a))] at h1
    rw [if_neg hb] at h2
    obtain ⟨g1, g2, g3, g4, g5, hc⟩ := h
    cases h1; cases h2
    refine ⟨rfl, g1, kd_adds_le g2 n, kd_takes_le g3 n, g4, g5, ?_⟩
    rcases hc with ⟨rfl, rfl, rfl, rfl⟩ | ⟨rfl, rfl, rfl, rfl⟩ | ⟨rfl, rfl, rfl, rfl, c1, c2, c3⟩ | ⟨rfl, rfl, rfl, rfl, -⟩
    · exact absurd (hB rfl) hb
    · exact absurd (hB rfl) hb
    · exact Or.inr (Or.inr (Or.inl ⟨rfl, rfl, rfl, rfl, c1, by rw [c2], kd_sim_adds f c3 g3 n⟩))
    · exact absurd (hB rfl) hb
end KDS
