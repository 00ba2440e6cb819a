/-! what the reference computes -/
def kd_cut (k : Nat) (f : Nat → Int32) : Nat → Int32 := fun j => if j < k then f j else 0
def kd_words (f : Nat → Int32) : Nat → Int32 := fun w => ((f (4 * w) ||| f (4 * w + 1) <<< ((8 : Int32) &&& 31)) ||| f (4 * w + 2) <<< ((16 : Int32) &&& 31)) ||| f (4 * w + 3) <<< ((24 : Int32) &&& 31)
def kd_wd (bl : Nat → Int32) : Nat → Int32 := kd_words (kd_cut 64 bl)
def kd_lm (la : Int32) : Int32 := if la = 0 then 0 else -1
/-- h, the block, how many of it are filled, how many bytes were mixed in -/
abbrev kd_M : Type := (Nat → Int32) × (Nat → Int32) × Nat × Int64
def kd_take (b : Int32) (u : kd_M) : kd_M :=
  if u.2.2.1 = 64 then (kd_mix u.1 (kd_wd u.2.1) (u.2.2.2 + 64) (kd_lm 0), upd u.2.1 0 b, 1, u.2.2.2 + 64)
  else (u.1, upd u.2.1 u.2.2.1 b, u.2.2.1 + 1, u.2.2.2)
def kd_takes (f : Nat → Int32) : Nat → kd_M → kd_M
  | 0, u => u
  | n + 1, u => kd_take (f n) (kd_takes f n u)
theorem kd_take_le {b : Int32} {u : kd_M} (h : u.2.2.1 ≤ 64) : (kd_take b u).2.2.1 ≤ 64 := by
  unfold kd_take
  split
  · exact (by decide : 1 ≤ 64)
  · rename_i h1
    show u.2.2.1 + 1 ≤ 64
    omega
theorem kd_takes_le {f : Nat → Int32} {u : kd_M} (h : u.2.2.1 ≤ 64) : ∀ n, (kd_takes f n u).2.2.1 ≤ 64
  | 0 => h
  | n + 1 => kd_take_le (kd_takes_le h n)
def kd_h0R (a k : Int32) : Nat → Int32 := upd kd_iv 0 (((kd_iv 0 ^^^ 16842752) ^^^ (k * 256)) ^^^ a)
def kd_keyR (key : Nat → Int32) (k : Nat) : Nat → Int32 := fun j => if j < k then key j else 0
def kd_openR (key bl : Nat → Int32) (a k : Int32) : kd_M := if k ≤ 0 then (kd_h0R a k, bl, 0, 0) else kd_takes (kd_keyR key k.toNatClampNeg) 64 (kd_h0R a k, bl, 0, 0)
def kd_sar (w : Int32) (i : Nat) : Int32 := (w >>> ((24 - 8 * (nI i - nI i / 4 * 4)) &&& 31)) &&& 255
theorem kd_sarI : ∀ i, i < 16 → (24 - 8 * (nI i - nI i / 4 * 4) : Int32) = 24 - 8 * nI (i % 4) := by decide +kernel
theorem kd_sarB0 (w : Int32) : (w >>> ((24 - 8 * nI 0) &&& 31)) &&& 255 = kd_ushr w (24 - 8 * nI 0) &&& 255 := by
  rw [show (24 - 8 * nI 0 : Int32) = nI 24 by decide]
  exact kd_sarB 24 (by decide) w
theorem kd_sarB1 (w : Int32) : (w >>> ((24 - 8 * nI 1) &&& 31)) &&& 255 = kd_ushr w (24 - 8 * nI 1) &&& 255 := by
  rw [show (24 - 8 * nI 1 : Int32) = nI 16 by decide]
  exact kd_sarB 16 (by decide) w
theorem kd_sarB2 (w : Int32) : (w >>> ((24 - 8 * nI 2) &&& 31)) &&& 255 = kd_ushr w (24 - 8 * nI 2) &&& 255 := by
  rw [show (24 - 8 * nI 2 : Int32) = nI 8 by decide]
  exact kd_sarB 8 (by decide) w
theorem kd_sarB3 (w : Int32) : (w >>> ((24 - 8 * nI 3) &&& 31)) &&& 255 = kd_ushr w (24 - 8 * nI 3) &&& 255 := by
  rw [show (24 - 8 * nI 3 : Int32) = nI 0 by decide]
  exact kd_sarB 0 (by decide) w
theorem kd_sar_hi (w : Int32) {i : Nat} (hi : i < 16) : kd_sar w i = kd_hi w (i % 4) := by
  unfold kd_sar kd_hi
  rw [kd_sarI i hi]
  have h : i % 4 = 0 ∨ i % 4 = 1 ∨ i % 4 = 2 ∨ i % 4 = 3 := by omega
  rcases h with h | h | h | h <;> rw [h]
  · exact kd_sarB0 w
  · exact kd_sarB1 w
  · exact kd_sarB2 w
  · exact kd_sarB3 w
theorem kd_by0 (a b c d : Int32) {i : Nat} (h : i < 4) : kd_sar a i = kd_byte a b c d i := by
  rw [kd_sar_hi a (by omega)]; unfold kd_byte; rw [if_pos h]
theorem kd_by1 (a b c d : Int32) {i : Nat} (h : 4 ≤ i) (h2 : i < 8) : kd_sar b i = kd_byte a b c d i := by
  rw [kd_sar_hi b (by omega)]; unfold kd_byte; rw [if_neg (by omega), if_pos h2]
theorem kd_by2 (a b c d : Int32) {i : Nat} (h : 8 ≤ i) (h2 : i < 12) : kd_sar c i = kd_byte a b c d i := by
  rw [kd_sar_hi c (by omega)]; unfold kd_byte; rw [if_neg (by omega), if_neg (by omega), if_pos h2]
theorem kd_by3 (a b c d : Int32) {i : Nat} (h : 12 ≤ i) (h2 : i < 16) : kd_sar d i = kd_byte a b c d i := by
  rw [kd_sar_hi d h2]; unfold kd_byte; rw [if_neg (by omega), if_neg (by omega), if_neg (by omega)]
theorem kd_wd_of {bl : Nat → Int32} {i : Nat} (hi : i < 16) : ((bl (4 * i) ||| bl (4 * i + 1) <<< ((8 : Int32) &&& 31)) ||| bl (4 * i + 2) <<< ((16 : Int32) &&& 31)) ||| bl (4 * i + 3) <<< ((24 : Int32) &&& 31) = kd_wd bl i := by
  unfold kd_wd kd_words kd_cut
  rw [if_pos (by omega), if_pos (by omega), if_pos (by omega), if_pos (by omega)]
theorem kd_v00_lo {h : Nat → Int32} {i : Nat} (hi : i < 8) : h i = kd_v00 h i := by unfold kd_v00; rw [if_pos hi]
theorem kd_v00_hi {h : Nat → Int32} {i : Nat} (hi : 8 ≤ i) : kd_iv (i - 8) = kd_v00 h i := by unfold kd_v00; rw [if_neg (by omega)]
theorem kd_stp {f g : Nat → Int32} {i : Nat} {v : Int32} (hf : ∀ j, j < i → f j = g j) (hv : v = g i) : ∀ j, j < i + 1 → upd f i v j = g j := by
  intro j hj
  unfold upd
  by_cases h : j = i
  · rw [if_pos h, h]; exact hv
  · rw [if_neg h]; exact hf j (by omega)
theorem kd_x0 (v : Nat → Int32) (k : Nat) : upd v k (v k) = kd_x v k 0 := by unfold kd_x; rw [Int32.xor_zero]
/-- a block filled up with 0s -/
theorem kd_cutz {bl f : Nat → Int32} {k : Nat} (hk : k ≤ 64) (h1 : ∀ j, j < k → f j = bl j) (h2 : ∀ j, k ≤ j → j < 64 → f j = 0) : kd_wd f = kd_words (kd_cut k bl) := by
  unfold kd_wd
  congr 1
  funext j
  unfold kd_cut
  by_cases hj : j < k
  · rw [if_pos (by omega), if_pos hj]; exact h1 j hj
  · rw [if_neg hj]
    by_cases h : j < 64
    · rw [if_pos h]; exact h2 j (by omega) h
    · rw [if_neg h]
