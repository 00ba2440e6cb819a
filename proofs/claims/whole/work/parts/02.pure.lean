/-! what class and reference compute, as functions of their rows -/
def kd_ushr (x y : Int32) : Int32 := (x.toUInt32 >>> (y.toUInt32 &&& Int32.toUInt32 31)).toInt32
def kd_lushr (x : Int64) (y : Int32) : Int64 := (x.toUInt64 >>> (y.toInt64.toUInt64 &&& Int64.toUInt64 63)).toInt64
def kd_ivL : List Nat := [0x6A09E667, 0xBB67AE85, 0x3C6EF372, 0xA54FF53A, 0x510E527F, 0x9B05688C, 0x1F83D9AB, 0x5BE0CD19]
def kd_iv (j : Nat) : Int32 := nI (kd_ivL.getD j 0)
def kd_plL : List Nat := [
  0, 1, 2, 3, 4, 5, 6, 7, 8, 9, 10, 11, 12, 13, 14, 15,
  14, 10, 4, 8, 9, 15, 13, 6, 1, 12, 0, 2, 11, 7, 5, 3,
  11, 8, 12, 0, 5, 2, 15, 13, 10, 14, 3, 6, 7, 1, 9, 4,
  7, 9, 3, 1, 13, 12, 11, 14, 2, 6, 5, 10, 4, 0, 15, 8,
  9, 0, 5, 7, 2, 4, 10, 15, 14, 1, 11, 12, 6, 8, 3, 13,
  2, 12, 6, 10, 0, 11, 8, 3, 4, 13, 7, 5, 15, 14, 1, 9,
  12, 5, 1, 15, 14, 13, 4, 10, 0, 7, 6, 3, 9, 2, 8, 11,
  13, 11, 7, 14, 12, 1, 3, 9, 5, 0, 15, 4, 8, 6, 2, 10,
  6, 15, 14, 9, 11, 3, 0, 8, 12, 2, 13, 7, 1, 4, 10, 5,
  10, 2, 8, 4, 7, 6, 1, 5, 15, 11, 9, 14, 3, 12, 13, 0]
def kd_pl (j : Nat) : Nat := kd_plL.getD j 0
def kd_PL (j : Nat) : Int32 := nI (kd_pl j)
theorem kd_pl_lt : ∀ j, j < 160 → kd_pl j < 16 := by decide +kernel
/-- turned down -/
def kd_rot (w k : Int32) : Int32 := kd_ushr w k ||| (w <<< ((32 - k) &&& 31))
def kd_g1 (a b : Nat) (x : Int32) (v : Nat → Int32) : Nat → Int32 := upd v a (v a + v b + x)
def kd_g2 (d a : Nat) (k : Int32) (v : Nat → Int32) : Nat → Int32 := upd v d (kd_rot (v d ^^^ v a) k)
def kd_g3 (c d : Nat) (v : Nat → Int32) : Nat → Int32 := upd v c (v c + v d)
def kd_G (a b c d : Nat) (x y : Int32) (v : Nat → Int32) : Nat → Int32 :=
  kd_g2 b c 7 (kd_g3 c d (kd_g2 d a 8 (kd_g1 a b y (kd_g2 b c 12 (kd_g3 c d (kd_g2 d a 16 (kd_g1 a b x v)))))))
def kd_round (m : Nat → Int32) (r : Nat) (v : Nat → Int32) : Nat → Int32 :=
  kd_G 3 4 9 14 (m (kd_pl (16 * r + 14))) (m (kd_pl (16 * r + 15))) (kd_G 2 7 8 13 (m (kd_pl (16 * r + 12))) (m (kd_pl (16 * r + 13))) (kd_G 1 6 11 12 (m (kd_pl (16 * r + 10))) (m (kd_pl (16 * r + 11))) (kd_G 0 5 10 15 (m (kd_pl (16 * r + 8))) (m (kd_pl (16 * r + 9))) (kd_G 3 7 11 15 (m (kd_pl (16 * r + 6))) (m (kd_pl (16 * r + 7))) (kd_G 2 6 10 14 (m (kd_pl (16 * r + 4))) (m (kd_pl (16 * r + 5))) (kd_G 1 5 9 13 (m (kd_pl (16 * r + 2))) (m (kd_pl (16 * r + 3))) (kd_G 0 4 8 12 (m (kd_pl (16 * r))) (m (kd_pl (16 * r + 1))) v)))))))
def kd_rounds (m : Nat → Int32) : Nat → (Nat → Int32) → Nat → Int32
  | 0, v => v
  | r + 1, v => kd_round m r (kd_rounds m r v)
def kd_v00 (h : Nat → Int32) : Nat → Int32 := fun j => if j < 8 then h j else kd_iv (j - 8)
def kd_x (v : Nat → Int32) (k : Nat) (w : Int32) : Nat → Int32 := upd v k (v k ^^^ w)
/-- the sixteen words at a block's start: n bytes so far, last: 0 or -1 -/
def kd_v0 (h : Nat → Int32) (n : Int64) (last : Int32) : Nat → Int32 := kd_x (kd_x (kd_x (kd_v00 h) 12 n.toInt32) 13 (kd_lushr n 32).toInt32) 14 last
def kd_fin (h v : Nat → Int32) : Nat → Int32 := fun j => h j ^^^ (v j ^^^ v (j + 8))
def kd_mix (h m : Nat → Int32) (n : Int64) (last : Int32) : Nat → Int32 := kd_fin h (kd_rounds m 10 (kd_v0 h n last))
def kd_0 : Nat → Int32 := fun _ => 0
/-- h, the waiting block, its bytes, all bytes -/
abbrev kd_C : Type := (Nat → Int32) × (Nat → Int32) × Nat × Int64
def kd_put (m : Nat → Int32) (k : Nat) (b : Int32) : Nat → Int32 := upd m (k / 4) (m (k / 4) ||| b <<< ((8 * (nI k &&& 3)) &&& 31))
def kd_add (b : Int32) (u : kd_C) : kd_C :=
  if 64 ≤ u.2.2.1 then (kd_mix u.1 u.2.1 u.2.2.2 0, kd_put kd_0 0 b, 1, u.2.2.2 + 1)
  else (u.1, kd_put u.2.1 u.2.2.1 b, u.2.2.1 + 1, u.2.2.2 + 1)
def kd_adds (f : Nat → Int32) : Nat → kd_C → kd_C
  | 0, u => u
  | n + 1, u => kd_add (f n) (kd_adds f n u)
theorem kd_add_le {b : Int32} {u : kd_C} (h : u.2.2.1 ≤ 64) : (kd_add b u).2.2.1 ≤ 64 := by
  unfold kd_add
  split
  · exact (by decide : 1 ≤ 64)
  · show u.2.2.1 + 1 ≤ 64
    omega
theorem kd_adds_le {f : Nat → Int32} {u : kd_C} (h : u.2.2.1 ≤ 64) : ∀ n, (kd_adds f n u).2.2.1 ≤ 64
  | 0 => h
  | n + 1 => kd_add_le (kd_adds_le h n)
def kd_h0 (nn kk : Int32) : Nat → Int32 := upd kd_iv 0 (kd_iv 0 ^^^ (16842752 + 256 * kk + nn))
theorem kd_two {hh f : Nat → Int32} {i j : Nat} (hf : ∀ j, j < i → f j = hh j ∧ f (j + 8) = kd_iv j) (hj : j < i + 1) (hlt : i < 8) : upd (upd f i (hh i)) (i + 8) (kd_iv i) j = hh j ∧ upd (upd f i (hh i)) (i + 8) (kd_iv i) (j + 8) = kd_iv j := by
  unfold upd
  by_cases h : j = i
  · subst h
    rw [if_neg (by omega), if_pos rfl, if_pos rfl]
    exact ⟨rfl, rfl⟩
  · rw [if_neg (by omega), if_neg h, if_neg (by omega), if_neg (by omega)]
    exact hf j (by omega)
theorem kd_v00_of {hh f : Nat → Int32} {i : Nat} (hf : ∀ j, j < i → f j = hh j ∧ f (j + 8) = kd_iv j) (hge : 8 ≤ i) (j : Nat) (hj : j < 16) : f j = kd_v00 hh j := by
  unfold kd_v00
  by_cases h : j < 8
  · rw [if_pos h]; exact (hf j (by omega)).1
  · rw [if_neg h, ← (hf (j - 8) (by omega)).2, show j - 8 + 8 = j by omega]
theorem kd_finStep {hh mm g : Nat → Int32} {ab : Int64} {lm : Int32} {j : Nat} (hg : ∀ q, g q = if q < j then kd_mix hh mm ab lm q else hh q) : ∀ q, upd g j (g j ^^^ (kd_rounds mm 10 (kd_v0 hh ab lm) j ^^^ kd_rounds mm 10 (kd_v0 hh ab lm) (j + 8))) q = if q < j + 1 then kd_mix hh mm ab lm q else hh q := by
  intro q
  have h0 : g j = hh j := by rw [hg j, if_neg (Nat.lt_irrefl j)]
  unfold upd
  by_cases h : q = j
  · rw [if_pos h, if_pos (by omega), h0, h]
    rfl
  · rw [if_neg h, hg q]
    by_cases h1 : q < j
    · rw [if_pos h1, if_pos (by omega)]
    · rw [if_neg h1, if_neg (by omega)]
theorem kd_shr2 {n : Nat} (h : n < 2 ^ 31) : nI n >>> ((2 : Int32) &&& 31) = nI (n / 4) := pk_shrN h _ 2 (by decide)
