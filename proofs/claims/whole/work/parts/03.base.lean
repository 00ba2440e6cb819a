/-! own rows over the kit: one world of int arrays and objects, the tables of the two classes -/
section KD1
variable {p : Program} {l : Launch} {e : Env} {R : Room} {s : State} {m : MethodId} {args : Array Value} {below : List Frame} {meth : Method} {c : Code} {H : Heap} {locs : List Loc} {cells slots : Nat} {Q : State → Prop}
variable {cc : ByteArray} {pc : Nat} {ls : Array Slot} {rest : List Value} {D : va_G} {cl : List vw_C} {A : Nat → Prop} {a : Nat} {tys : List (ClassId × FieldType)} {ws : va_W} {H0 : Heap}
theorem kd_ild (i : Nat) (hexec : p.tables.exec = Jvm.exec) (hb : c.code = cc) (hK : va_K D cl tys s) (hP : va_P D cl ws H) (q0 t0 : Nat) {cA : ClassId} {n : Nat} {f : Nat → Int32} (ha : ws[q0]? = some (a, .inl (cA, n, .inl f))) (ht : tys[t0]? = some (cA, .int)) {x : Int32} (ex : x = nI i) (hi : i < n) (hn : n < 2 ^ 31) (hdg : decode cc pc = .ok (.iaload, 1))
    (kk : W p l e R s m args below meth c H locs cells slots Q (F0 m (pc + 1) ls (.int (f i) :: rest))) : W p l e R s m args below meth c H locs cells slots Q (F0 m pc ls (.int x :: .ref a :: rest)) := by
  subst ex
  refine va_iald hexec hb hK hP q0 t0 ha ht (vp_in_nI hi hn) hdg ?_
  rw [nI_clamp (Nat.lt_trans hi hn)]
  exact kk
theorem kd_ist (i : Nat) (hexec : p.tables.exec = Jvm.exec) (hb : c.code = cc) (hK : va_K D cl tys s) (hP : va_P D cl ws H) (hD : va_D A ws) (hS : va_S A H0 H locs) (q0 t0 : Nat) {cA : ClassId} {n : Nat} {f : Nat → Int32} (ha : ws[q0]? = some (a, .inl (cA, n, .inl f))) (ht : tys[t0]? = some (cA, .int)) {x : Int32} {v : Int32} (ex : x = nI i) (hi : i < n) (hn : n < 2 ^ 31) (hdg : decode cc pc = .ok (.iastore, 1))
    (kk : ∀ (f1 : Nat → Int32), f1 = upd f i v → ∀ (H1 : Heap) (locs1 : List Loc), va_P D cl (ws.set q0 (a, .inl (cA, n, .inl f1))) H1 → va_D A (ws.set q0 (a, .inl (cA, n, .inl f1))) → va_S A H0 H1 locs1 → W p l e R s m args below meth c H1 locs1 cells slots Q (F0 m (pc + 1) ls rest)) : W p l e R s m args below meth c H locs cells slots Q (F0 m pc ls (.int v :: .int x :: .ref a :: rest)) := by
  subst ex
  refine va_iast hexec hb hK hP hD hS q0 t0 ha ht (vp_in_nI hi hn) hdg ?_
  rw [nI_clamp (Nat.lt_trans hi hn)]
  exact kk _ rfl
theorem kd_ti (i : Nat) (hexec : p.tables.exec = Jvm.exec) (hb : c.code = cc) {t N : Nat} {f : Nat → Int32} (hT : va_T .int t N (fun j => .int (f j)) A s s.heap) (hS : va_S A s.heap H locs) {x : Int32} (ex : x = nI i) (hi : i < N) (hn : N < 2 ^ 31) (hdg : decode cc pc = .ok (.iaload, 1))
    (kk : W p l e R s m args below meth c H locs cells slots Q (F0 m (pc + 1) ls (.int (f i) :: rest))) : W p l e R s m args below meth c H locs cells slots Q (F0 m pc ls (.int x :: .ref t :: rest)) := by
  subst ex
  refine va_ti hexec hb hT hS (vp_in_nI hi hn) (v := .int (f i)) ?_ hdg kk
  rw [nI_clamp (Nat.lt_trans hi hn)]
/-- an array's contents, said otherwise -/
theorem kd_arrP {cA : ClassId} {n : Nat} {f : Nat → Int32} (hP : va_P D cl ws H) (hD : va_D A ws) (k : Nat) (ha : ws[k]? = some (a, .inl (cA, n, .inl f))) (g : Nat → Int32) (h : ∀ j, j < n → f j = g j) : va_P D cl (ws.set k (a, .inl (cA, n, .inl g))) H := by
  refine hP.set hD ha ?_ (fun _ _ => rfl)
  have h1 := hP k _ ha
  show H[a]? = some (vp_cell cA (n, .inl g))
  have h3 : (fun j : Fin n => Value.int (g j.val)) = (fun j : Fin n => Value.int (f j.val)) := funext fun j => by rw [h j.val j.isLt]
  have h2 : vp_cell cA (n, .inl g) = vp_cell cA (n, .inl f) := congrArg (fun z : Fin n → Value => ({ cls := cA, slots := Array.ofFn z, vm := .none } : Cell)) h3
  rw [h2]; exact h1
theorem kd_newa {cA : ClassId} (hexec : p.tables.exec = Jvm.exec) (hb : c.code = cc) (harr : (Cond.arrayClass .int).before args s = true) (hK : va_K D cl [(cA, .int)] s) (hP : va_P D cl ws H) (hD : va_D A ws) (hS : va_S A H0 H locs) (hA : ∀ q, H0.size ≤ q → A q)
    {n : Int32} {N : Nat} (hn : ¬ n < 0) (hN : n.toNatClampNeg = N) (hbytes : N * componentBytes .int ≤ 536870912) (hcells : cells + 1 ≤ R.cells) (hslots : slots + N ≤ R.slots) (hdg : decode cc pc = .ok (.newarray .int, 2))
    (kk : ∀ (q : Nat) (H1 : Heap), va_P D cl (ws ++ [(q, .inl (cA, N, .inl (fun _ => 0)))]) H1 → va_D A (ws ++ [(q, .inl (cA, N, .inl (fun _ => 0)))]) → va_S A H0 H1 locs →
      W p l e R s m args below meth c H1 locs (cells + 1) (slots + N) Q (F0 m (pc + 2) ls (.ref q :: rest))) : W p l e R s m args below meth c H locs cells slots Q (F0 m pc ls (.int n :: rest)) := by
  refine va_newa (atype := .int) (ty := .int) (a0 := (N, .inl (fun _ => 0))) hexec hb harr rfl hK hP hD hS hA (fun _ => rfl) hn hN hbytes hcells hslots hdg ?_
  intro q cB H1 hK1 hP1 hD1 hS1
  have e1 := (hK1.2 0 (cA, .int) rfl).2
  have e2 := (hK1.2 1 (cB, .int) rfl).2
  have e3 : cB = cA := Option.some.inj (e2.symm.trans e1)
  subst e3
  exact kk q H1 hP1 hD1 hS1
end KD1
theorem kd_lt {x : Int32} {i n : Nat} (ex : x = nI i) (h1 : i < 2 ^ 31) (h2 : n < 2 ^ 31) (c : ¬ nI n ≤ x) : i < n := by
  subst ex
  exact Nat.not_le.mp fun h => c ((nI_leI h2 h1).mpr h)
theorem kd_ge {x : Int32} {i n : Nat} (ex : x = nI i) (h1 : i < 2 ^ 31) (h2 : n < 2 ^ 31) (c : nI n ≤ x) : n ≤ i := by
  subst ex
  exact (nI_leI h2 h1).mp c
/-- the tables: the class's two static rows -/
def kd_S (tb : Nat → Nat) (A : Nat → Prop) (U : State) (H : Heap) : Prop :=
  va_Z "KeyedDigest$Chain" "IV" "[I" (.ref (tb 0)) A U H ∧ va_T .int (tb 0) 8 (fun j => .int (kd_iv j)) A U H ∧ va_Z "KeyedDigest$Chain" "PLACES" "[I" (.ref (tb 1)) A U H ∧ va_T .int (tb 1) 160 (fun j => .int (kd_PL j)) A U H
theorem kd_S.moved {tb : Nat → Nat} {A : Nat → Prop} {u U : State} {H : Heap} (hvm : u.vm.Alike U.vm) (h : kd_S tb A u H) : kd_S tb A U H := ⟨h.1.moved hvm, h.2.1.moved hvm, h.2.2.1.moved hvm, h.2.2.2.moved hvm⟩
theorem kd_S.kept {tb : Nat → Nat} {A : Nat → Prop} {U : State} {H H1 : Heap} (h : kd_S tb A U H) (hq : ∀ a : Nat, a < H.size → ¬ A a → H1[a]? = H[a]?) : kd_S tb A U H1 := ⟨h.1.kept hq, h.2.1.kept hq, h.2.2.1.kept hq, h.2.2.2.kept hq⟩
theorem kd_S.narrow {tb : Nat → Nat} {A B : Nat → Prop} {U : State} {H : Heap} (h : kd_S tb A U H) (hAB : ∀ q, B q → A q) : kd_S tb B U H := ⟨h.1.narrow hAB, h.2.1.narrow hAB, h.2.2.1.narrow hAB, h.2.2.2.narrow hAB⟩
/-- a method's start, and its end -/
def kd_I (D : va_G) (cA : ClassId) (tb : Nat → Nat) (sz : Nat) (ws : va_W) (U : State) : Prop := U.heap.size = sz ∧ va_P D vwCl ws U.heap ∧ va_K D vwCl [(cA, .int)] U ∧ va_D (fun _ => True) ws ∧ kd_S tb (va_A ws sz) U U.heap
def kd_O (D : va_G) (cA : ClassId) (A : Nat → Prop) (ws : va_W) (t : State) : Prop := va_P D vwCl ws t.heap ∧ va_K D vwCl [(cA, .int)] t ∧ va_D A ws
theorem kd_calling {D : va_G} {cA : ClassId} {tb : Nat → Nat} {sz : Nat} {ws : va_W} {av : List Value} {a : Array Value} {U V : State} (hh : V.heap = U.heap) (hv : V.vm = U.vm) (q : va_Pc av (kd_I D cA tb sz ws) a U) : va_Pc av (kd_I D cA tb sz ws) a V := by
  have hk : U.vm.Alike V.vm := by rw [hv]; exact Vm.Alike.refl _
  exact ⟨q.1, by rw [hh]; exact q.2.1, by rw [hh]; exact q.2.2.1, va_K.moved hk q.2.2.2.1, q.2.2.2.2.1, by rw [hh]; exact q.2.2.2.2.2.moved hk⟩
theorem kd_pre {D : va_G} {cA : ClassId} {tb : Nat → Nat} {A : Nat → Prop} {s : State} {H : Heap} {locs : List Loc} {wc : va_W} (hP : va_P D vwCl wc H) (hK : va_K D vwCl [(cA, .int)] s) (hD : va_D A wc) (hT : kd_S tb A s s.heap) (hS : va_S A s.heap H locs) (hF : ∀ q, va_A wc H.size q → A q) (U : State) (hU : U.heap = H) (hW : s.WarmedH U.vm) : kd_I D cA tb H.size wc U := by
  subst hU
  exact ⟨rfl, hP, va_K.moved hW.alike hK, hD.weaken (fun _ _ _ _ => trivial), ((hT.kept (fun a h1 h2 => hS.2.1 a h1 h2)).moved hW.alike).narrow hF⟩
