def kd_isB (b : Int32) : Int32 := if b < 0 ∨ 255 < b then 0 else 1
def kd_has (st : Int32) : Int32 := if st = 2 ∨ st = 3 then 1 else 0
def kd_set (bad : Prop) [Decidable bad] (key : Nat → Int32) (i b : Int32) : Int32 × (Nat → Int32) := if bad then (0, key) else (1, upd key i.toNatClampNeg b)
theorem kd_ix {x : Int32} {n : Nat} (hn : n < 2 ^ 31) (h0 : ¬ x < 0) (h : ¬ nI n ≤ x) : ∃ j : Nat, j < n ∧ x = nI j := by
  rcases pk_ix x hn with h1 | h1 | h1
  · exact absurd h1 h0
  · exact absurd h1 h
  · exact h1
theorem kd_ln0 (a : Int32) : a = a + nI 0 := by
  rw [nI_0]; exact (Int32.add_zero a).symm
theorem kd_ln1 (a : Int32) (i : Nat) : a + nI i + 1 = a + nI (i + 1) := by
  rw [Int32.add_assoc, nI_1]
/-- byte i of a number, the highest first -/
def kd_hi (w : Int32) (i : Nat) : Int32 := kd_ushr w (24 - 8 * nI i) &&& 255
def kd_byte (a b c d : Int32) (k : Nat) : Int32 := kd_hi (if k < 4 then a else if k < 8 then b else if k < 12 then c else d) (k % 4)
theorem kd_pos1 {x : Int32} (h : ¬ x < 1) : ¬ x < 0 := fun h1 => h (Int32.lt_trans h1 (by decide))
theorem kd_min0 : ∀ n, n < 17 → ∀ i, i < 5 → ((if (4 : Int32) < nI n then 4 else nI n) ≤ nI i ↔ min n 4 ≤ i) := by decide +kernel
theorem kd_min4 : ∀ n, n < 17 → ∀ i, i < 5 → ((if (4 : Int32) < nI n - 4 then 4 else nI n - 4) ≤ nI i ↔ min (n - 4) 4 ≤ i) := by decide +kernel
theorem kd_min8 : ∀ n, n < 17 → ∀ i, i < 5 → ((if (4 : Int32) < nI n - 8 then 4 else nI n - 8) ≤ nI i ↔ min (n - 8) 4 ≤ i) := by decide +kernel
theorem kd_min12 : ∀ n, n < 17 → ∀ i, i < 5 → ((if (4 : Int32) < nI n - 12 then 4 else nI n - 12) ≤ nI i ↔ min (n - 12) 4 ≤ i) := by decide +kernel
theorem kd_le_of {f h m : Nat → Int32} {n k : Nat} {a : Int64} {u : kd_C} (hw : (h, m, k, a) = kd_adds f n u) (hu : u.2.2.1 ≤ 64) : k ≤ 64 := by
  have := kd_adds_le (f := f) hu n
  rw [← hw] at this
  exact this
theorem kd_adds_congr {f g : Nat → Int32} {u : kd_C} : ∀ n, (∀ i, i < n → f i = g i) → kd_adds f n u = kd_adds g n u
  | 0, _ => rfl
  | n + 1, h => by
    show kd_add (f n) (kd_adds f n u) = kd_add (g n) (kd_adds g n u)
    rw [h n (Nat.lt_succ_self n), kd_adds_congr n (fun i hi => h i (Nat.lt_succ_of_lt hi))]
theorem kd_adds_add {f : Nat → Int32} {u : kd_C} (m : Nat) : ∀ n, kd_adds f (m + n) u = kd_adds (fun i => f (m + i)) n (kd_adds f m u)
  | 0 => rfl
  | n + 1 => by
    show kd_add (f (m + n)) (kd_adds f (m + n) u) = kd_add (f (m + n)) _
    rw [kd_adds_add m n]
theorem kd_four (n : Nat) (hn : n ≤ 16) {a b c d : Int32} {u : kd_C} : kd_adds (kd_hi d) (min (n - 12) 4) (kd_adds (kd_hi c) (min (n - 8) 4) (kd_adds (kd_hi b) (min (n - 4) 4) (kd_adds (kd_hi a) (min n 4) u))) = kd_adds (kd_byte a b c d) n u := by
  have e1 : kd_adds (kd_hi a) (min n 4) u = kd_adds (kd_byte a b c d) (min n 4) u := kd_adds_congr _ (fun i hi => by unfold kd_byte; rw [if_pos (by omega), show i % 4 = i by omega])
  have e2 : ∀ v, kd_adds (kd_hi b) (min (n - 4) 4) v = kd_adds (fun i => kd_byte a b c d (4 + i)) (min (n - 4) 4) v := fun v => kd_adds_congr _ (fun i hi => by
    show kd_hi b i = kd_byte a b c d (4 + i)
    unfold kd_byte; rw [if_neg (by omega), if_pos (by omega), show (4 + i) % 4 = i by omega])
  have e3 : ∀ v, kd_adds (kd_hi c) (min (n - 8) 4) v = kd_adds (fun i => kd_byte a b c d (8 + i)) (min (n - 8) 4) v := fun v => kd_adds_congr _ (fun i hi => by
    show kd_hi c i = kd_byte a b c d (8 + i)
    unfold kd_byte; rw [if_neg (by omega), if_neg (by omega), if_pos (by omega), show (8 + i) % 4 = i by omega])
  have e4 : ∀ v, kd_adds (kd_hi d) (min (n - 12) 4) v = kd_adds (fun i => kd_byte a b c d (12 + i)) (min (n - 12) 4) v := fun v => kd_adds_congr _ (fun i hi => by
    show kd_hi d i = kd_byte a b c d (12 + i)
    unfold kd_byte; rw [if_neg (by omega), if_neg (by omega), if_neg (by omega), show (12 + i) % 4 = i by omega])
  rw [e1, e2, e3, e4]
  by_cases h4 : n ≤ 4
  · rw [show min n 4 = n by omega, show min (n - 4) 4 = 0 by omega, show min (n - 8) 4 = 0 by omega, show min (n - 12) 4 = 0 by omega]
    rfl
  · rw [show min n 4 = 4 by omega, ← kd_adds_add 4]
    by_cases h8 : n ≤ 8
    · rw [show 4 + min (n - 4) 4 = n by omega, show min (n - 8) 4 = 0 by omega, show min (n - 12) 4 = 0 by omega]
      rfl
    · rw [show 4 + min (n - 4) 4 = 8 by omega, ← kd_adds_add 8]
      by_cases h12 : n ≤ 12
      · rw [show 8 + min (n - 8) 4 = n by omega, show min (n - 12) 4 = 0 by omega]
        rfl
      · rw [show 8 + min (n - 8) 4 = 12 by omega, ← kd_adds_add 12, show 12 + min (n - 12) 4 = n by omega]
theorem kd_lens (a : Int32) (n : Nat) : n ≤ 16 → a + nI (min n 4) + nI (min (n - 4) 4) + nI (min (n - 8) 4) + nI (min (n - 12) 4) = a + nI n := fun h => by
  rw [Int32.add_assoc, Int32.add_assoc, Int32.add_assoc, nI_add, nI_add, nI_add, show min n 4 + (min (n - 4) 4 + (min (n - 8) 4 + min (n - 12) 4)) = n by omega]
/-- the class's block at a message's start -/
def kd_open (key : Nat → Int32) (a k : Int32) : kd_C := if k ≤ 0 then (kd_h0 a k, kd_0, 0, 0) else ((kd_adds key k.toNatClampNeg (kd_h0 a k, kd_0, 0, 0)).1, (kd_adds key k.toNatClampNeg (kd_h0 a k, kd_0, 0, 0)).2.1, 64, 64)
