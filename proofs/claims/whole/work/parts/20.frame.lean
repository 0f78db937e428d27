/-! Rows over natural numbers (every int of the class and of the reference that is computed with is an nI), forms of contracts, rows for calls. -/
section NW
variable {p : Program} {l : Launch} {e : Env} {R : Room} {s : State} {m : MethodId} {args : Array Value} {below : List Frame} {meth : Method} {c : Code} {H : Heap} {locs : List Loc} {cells slots : Nat} {Q : State → Prop}
variable {cc : ByteArray} {pc : Nat} {ls : Array Slot} {rest : List Value}
theorem nw_is {x y : Int32} (h : x = y) (k : W p l e R s m args below meth c H locs cells slots Q (F0 m pc ls (.int y :: rest))) : W p l e R s m args below meth c H locs cells slots Q (F0 m pc ls (.int x :: rest)) := by
  rw [h]; exact k
theorem nw_add (hx : p.tables.exec = Jvm.exec) (hb : c.code = cc) {a b : Nat} (d : decode cc pc = .ok (.iadd, 1)) (k : W p l e R s m args below meth c H locs cells slots Q (F0 m (pc + 1) ls (.int (nI (a + b)) :: rest))) : W p l e R s m args below meth c H locs cells slots Q (F0 m pc ls (.int (nI b) :: .int (nI a) :: rest)) :=
  lv_iadd hx hb d (nw_is (nI_add a b) k)
theorem nw_sub (hx : p.tables.exec = Jvm.exec) (hb : c.code = cc) {a b : Nat} (h : b ≤ a) (d : decode cc pc = .ok (.isub, 1)) (k : W p l e R s m args below meth c H locs cells slots Q (F0 m (pc + 1) ls (.int (nI (a - b)) :: rest))) : W p l e R s m args below meth c H locs cells slots Q (F0 m pc ls (.int (nI b) :: .int (nI a) :: rest)) :=
  lv_isub hx hb d (nw_is (pk_sub h) k)
theorem nw_mul (hx : p.tables.exec = Jvm.exec) (hb : c.code = cc) {a b : Nat} (d : decode cc pc = .ok (.imul, 1)) (k : W p l e R s m args below meth c H locs cells slots Q (F0 m (pc + 1) ls (.int (nI (a * b)) :: rest))) : W p l e R s m args below meth c H locs cells slots Q (F0 m pc ls (.int (nI b) :: .int (nI a) :: rest)) :=
  lv_imul hx hb d (nw_is (pk_mul a b) k)
theorem nw_div (hx : p.tables.exec = Jvm.exec) (hb : c.code = cc) {a b : Nat} (ha : a < 2 ^ 31) (h0 : 0 < b) (hd : b < 2 ^ 31) (d : decode cc pc = .ok (.idiv, 1)) (k : W p l e R s m args below meth c H locs cells slots Q (F0 m (pc + 1) ls (.int (nI (a / b)) :: rest))) : W p l e R s m args below meth c H locs cells slots Q (F0 m pc ls (.int (nI b) :: .int (nI a) :: rest)) :=
  lv_idiv hx hb d (nI_ne0 h0 hd) (nw_is (pk_div ha h0 hd) k)
theorem nw_rem (hx : p.tables.exec = Jvm.exec) (hb : c.code = cc) {a b : Nat} (ha : a < 2 ^ 31) (h0 : 0 < b) (hd : b < 2 ^ 31) (d : decode cc pc = .ok (.irem, 1)) (k : W p l e R s m args below meth c H locs cells slots Q (F0 m (pc + 1) ls (.int (nI (a % b)) :: rest))) : W p l e R s m args below meth c H locs cells slots Q (F0 m pc ls (.int (nI b) :: .int (nI a) :: rest)) :=
  lv_irem hx hb d (nI_ne0 h0 hd) (nw_is (pk_rem ha h0 hd) k)
theorem nw_eq (hx : p.tables.exec = Jvm.exec) (hb : c.code = cc) {a b : Nat} {off : Int} {tgt : Nat} (d : decode cc pc = .ok (.if_icmp .eq off, 3)) (ht : (pc : Int) + off = (tgt : Int)) (ha : a < 2 ^ 31) (hc : b < 2 ^ 31) (kt : a = b → W p l e R s m args below meth c H locs cells slots Q (F0 m tgt ls rest)) (kf : a ≠ b → W p l e R s m args below meth c H locs cells slots Q (F0 m (pc + 3) ls rest)) : W p l e R s m args below meth c H locs cells slots Q (F0 m pc ls (.int (nI b) :: .int (nI a) :: rest)) :=
  lv_icmp_eq hx hb d ht (fun h => kt ((nI_eq ha hc).mp h)) (fun h => kf (fun q => h ((nI_eq ha hc).mpr q)))
theorem nw_ne (hx : p.tables.exec = Jvm.exec) (hb : c.code = cc) {a b : Nat} {off : Int} {tgt : Nat} (d : decode cc pc = .ok (.if_icmp .ne off, 3)) (ht : (pc : Int) + off = (tgt : Int)) (ha : a < 2 ^ 31) (hc : b < 2 ^ 31) (kt : a ≠ b → W p l e R s m args below meth c H locs cells slots Q (F0 m tgt ls rest)) (kf : a = b → W p l e R s m args below meth c H locs cells slots Q (F0 m (pc + 3) ls rest)) : W p l e R s m args below meth c H locs cells slots Q (F0 m pc ls (.int (nI b) :: .int (nI a) :: rest)) :=
  lv_icmp_ne hx hb d ht (fun h => kt (fun q => h ((nI_eq ha hc).mpr q))) (fun h => kf ((nI_eq ha hc).mp h))
theorem nw_lt (hx : p.tables.exec = Jvm.exec) (hb : c.code = cc) {a b : Nat} {off : Int} {tgt : Nat} (d : decode cc pc = .ok (.if_icmp .lt off, 3)) (ht : (pc : Int) + off = (tgt : Int)) (ha : a < 2 ^ 31) (hc : b < 2 ^ 31) (kt : a < b → W p l e R s m args below meth c H locs cells slots Q (F0 m tgt ls rest)) (kf : b ≤ a → W p l e R s m args below meth c H locs cells slots Q (F0 m (pc + 3) ls rest)) : W p l e R s m args below meth c H locs cells slots Q (F0 m pc ls (.int (nI b) :: .int (nI a) :: rest)) :=
  lv_icmp_lt hx hb d ht (fun h => kt ((nI_ltI ha hc).mp h)) (fun h => kf (Nat.le_of_not_lt (fun q => h ((nI_ltI ha hc).mpr q))))
theorem nw_le (hx : p.tables.exec = Jvm.exec) (hb : c.code = cc) {a b : Nat} {off : Int} {tgt : Nat} (d : decode cc pc = .ok (.if_icmp .le off, 3)) (ht : (pc : Int) + off = (tgt : Int)) (ha : a < 2 ^ 31) (hc : b < 2 ^ 31) (kt : a ≤ b → W p l e R s m args below meth c H locs cells slots Q (F0 m tgt ls rest)) (kf : b < a → W p l e R s m args below meth c H locs cells slots Q (F0 m (pc + 3) ls rest)) : W p l e R s m args below meth c H locs cells slots Q (F0 m pc ls (.int (nI b) :: .int (nI a) :: rest)) :=
  lv_icmp_le hx hb d ht (fun h => kt ((nI_leI ha hc).mp h)) (fun h => kf (Nat.lt_of_not_le (fun q => h ((nI_leI ha hc).mpr q))))
theorem nw_ge (hx : p.tables.exec = Jvm.exec) (hb : c.code = cc) {a b : Nat} {off : Int} {tgt : Nat} (d : decode cc pc = .ok (.if_icmp .ge off, 3)) (ht : (pc : Int) + off = (tgt : Int)) (ha : a < 2 ^ 31) (hc : b < 2 ^ 31) (kt : b ≤ a → W p l e R s m args below meth c H locs cells slots Q (F0 m tgt ls rest)) (kf : a < b → W p l e R s m args below meth c H locs cells slots Q (F0 m (pc + 3) ls rest)) : W p l e R s m args below meth c H locs cells slots Q (F0 m pc ls (.int (nI b) :: .int (nI a) :: rest)) :=
  lv_icmp_ge hx hb d ht (fun h => kt ((nI_leI hc ha).mp h)) (fun h => kf (Nat.lt_of_not_le (fun q => h ((nI_leI hc ha).mpr q))))
theorem nw_gt (hx : p.tables.exec = Jvm.exec) (hb : c.code = cc) {a b : Nat} {off : Int} {tgt : Nat} (d : decode cc pc = .ok (.if_icmp .gt off, 3)) (ht : (pc : Int) + off = (tgt : Int)) (ha : a < 2 ^ 31) (hc : b < 2 ^ 31) (kt : b < a → W p l e R s m args below meth c H locs cells slots Q (F0 m tgt ls rest)) (kf : a ≤ b → W p l e R s m args below meth c H locs cells slots Q (F0 m (pc + 3) ls rest)) : W p l e R s m args below meth c H locs cells slots Q (F0 m pc ls (.int (nI b) :: .int (nI a) :: rest)) :=
  lv_icmp_gt hx hb d ht (fun h => kt ((nI_ltI hc ha).mp h)) (fun h => kf (Nat.le_of_not_lt (fun q => h ((nI_ltI hc ha).mpr q))))
/-- a compare with nothing -/
theorem nw_ifeq (hx : p.tables.exec = Jvm.exec) (hb : c.code = cc) {a : Nat} {off : Int} {tgt : Nat} (d : decode cc pc = .ok (.ifCond .eq off, 3)) (ht : (pc : Int) + off = (tgt : Int)) (ha : a < 2 ^ 31) (kt : a = 0 → W p l e R s m args below meth c H locs cells slots Q (F0 m tgt ls rest)) (kf : 0 < a → W p l e R s m args below meth c H locs cells slots Q (F0 m (pc + 3) ls rest)) : W p l e R s m args below meth c H locs cells slots Q (F0 m pc ls (.int (nI a) :: rest)) :=
  lv_if_eq hx hb d ht (fun h => kt ((nI_eq (b := 0) ha (by decide)).mp h)) (fun h => kf (Nat.pos_of_ne_zero (fun q => h ((nI_eq (b := 0) ha (by decide)).mpr q))))
theorem nw_ifne (hx : p.tables.exec = Jvm.exec) (hb : c.code = cc) {a : Nat} {off : Int} {tgt : Nat} (d : decode cc pc = .ok (.ifCond .ne off, 3)) (ht : (pc : Int) + off = (tgt : Int)) (ha : a < 2 ^ 31) (kt : 0 < a → W p l e R s m args below meth c H locs cells slots Q (F0 m tgt ls rest)) (kf : a = 0 → W p l e R s m args below meth c H locs cells slots Q (F0 m (pc + 3) ls rest)) : W p l e R s m args below meth c H locs cells slots Q (F0 m pc ls (.int (nI a) :: rest)) :=
  lv_if_ne hx hb d ht (fun h => kt (Nat.pos_of_ne_zero (fun q => h ((nI_eq (b := 0) ha (by decide)).mpr q)))) (fun h => kf ((nI_eq (b := 0) ha (by decide)).mp h))
theorem nw_ifle (hx : p.tables.exec = Jvm.exec) (hb : c.code = cc) {a : Nat} {off : Int} {tgt : Nat} (d : decode cc pc = .ok (.ifCond .le off, 3)) (ht : (pc : Int) + off = (tgt : Int)) (ha : a < 2 ^ 31) (kt : a = 0 → W p l e R s m args below meth c H locs cells slots Q (F0 m tgt ls rest)) (kf : 0 < a → W p l e R s m args below meth c H locs cells slots Q (F0 m (pc + 3) ls rest)) : W p l e R s m args below meth c H locs cells slots Q (F0 m pc ls (.int (nI a) :: rest)) :=
  lv_if_le hx hb d ht (fun h => kt (Nat.le_zero.mp ((nI_leI (b := 0) ha (by decide)).mp h))) (fun h => kf (Nat.lt_of_not_le (fun q => h ((nI_leI (b := 0) ha (by decide)).mpr q))))
theorem nw_iflt (hx : p.tables.exec = Jvm.exec) (hb : c.code = cc) {a : Nat} {off : Int} {tgt : Nat} (d : decode cc pc = .ok (.ifCond .lt off, 3)) (ht : (pc : Int) + off = (tgt : Int)) (ha : a < 2 ^ 31) (kf : W p l e R s m args below meth c H locs cells slots Q (F0 m (pc + 3) ls rest)) : W p l e R s m args below meth c H locs cells slots Q (F0 m pc ls (.int (nI a) :: rest)) :=
  lv_if_lt hx hb d ht (fun h => absurd h (nI_pos ha)) (fun _ => kf)
/-- nothing was made since the start: the counts are none -/
theorem nw_none {g : JFrame} (h : H.size = s.heap.size) (kk : W p l e R s m args below meth c H locs 0 0 Q g) : W p l e R s m args below meth c H locs cells slots Q g := by
  intro T hT X
  have hz : (T.setVm s.vm).heap.size = s.heap.size := by
    show T.heap.size = _
    rw [hT, h]
  have hd : (T.setVm s.vm).heap.toList.drop s.heap.size = [] := List.drop_eq_nil_of_le (by rw [Array.length_toList, hz]; exact Nat.le_refl _)
  obtain ⟨h1, h2, h3, h4, h5, h6⟩ := X.same
  exact kk T hT { X with same := ⟨h1, h2, by rw [hz]; exact Nat.le_refl _, h4, by rw [hd]; exact Nat.le_refl _, h6⟩ }
/-- the heap is no larger than at the start: by the counts -/
theorem nw_size {g : JFrame} (k : H.size = s.heap.size → W p l e R s m args below meth c H locs 0 0 Q g) : W p l e R s m args below meth c H locs 0 0 Q g := by
  intro T hT X
  have h1 : T.heap.size ≤ s.heap.size + 0 := X.same.2.2.1
  have h2 : s.heap.size ≤ T.heap.size := X.same.2.1
  exact k (by rw [← hT]; omega) T hT X
end NW
theorem upN (f : Nat → Nat) (k v : Nat) : upd (fun j => nI (f j)) k (nI v) = fun j => nI (va_up f k v j) := by
  funext j
  unfold upd va_up
  by_cases h : j = k
  · rw [if_pos h, if_pos h]
  · rw [if_neg h, if_neg h]
section NA
variable {p : Program} {l : Launch} {e : Env} {R : Room} {s : State} {m : MethodId} {args : Array Value} {below : List Frame} {meth : Method} {c : Code} {H : Heap} {locs : List Loc} {cells slots : Nat} {Q : State → Prop}
variable {cc : ByteArray} {pc : Nat} {ls : Array Slot} {rest : List Value} {D : va_G} {cl : List vw_C} {A : Nat → Prop} {a : Nat} {tys : List (ClassId × FieldType)} {ws : va_W} {H0 : Heap}
theorem nw_iald (hx : p.tables.exec = Jvm.exec) (hb : c.code = cc) (hK : va_K D cl tys s) (hP : va_P D cl ws H) (q0 t0 : Nat) {cA : ClassId} {n : Nat} {f : Nat → Nat} (ha : ws[q0]? = some (a, .inl (cA, n, .inl (fun j => nI (f j))))) (ht : tys[t0]? = some (cA, .int)) {k : Nat} (hk : k < n) (hn : n < 2 ^ 31) (d : decode cc pc = .ok (.iaload, 1))
    (kk : W p l e R s m args below meth c H locs cells slots Q (F0 m (pc + 1) ls (.int (nI (f k)) :: rest))) : W p l e R s m args below meth c H locs cells slots Q (F0 m pc ls (.int (nI k) :: .ref a :: rest)) :=
  va_iald hx hb hK hP q0 t0 ha ht (vp_in_nI hk hn) d (nw_is (by show nI (f (nI k).toNatClampNeg) = _; rw [nI_clamp (Nat.lt_trans hk hn)]) kk)
theorem nw_zald (hx : p.tables.exec = Jvm.exec) (hb : c.code = cc) (hK : va_K D cl tys s) (hP : va_P D cl ws H) (q0 t0 : Nat) {cA : ClassId} {n : Nat} {f : Nat → Nat} (ha : ws[q0]? = some (a, .inl (cA, n, .inl (fun j => nI (f j))))) (ht : tys[t0]? = some (cA, .boolean)) {k : Nat} (hk : k < n) (hn : n < 2 ^ 31) (d : decode cc pc = .ok (.baload, 1))
    (kk : W p l e R s m args below meth c H locs cells slots Q (F0 m (pc + 1) ls (.int (nI (f k)) :: rest))) : W p l e R s m args below meth c H locs cells slots Q (F0 m pc ls (.int (nI k) :: .ref a :: rest)) :=
  va_zald hx hb hK hP q0 t0 ha ht (vp_in_nI hk hn) d (nw_is (by show nI (f (nI k).toNatClampNeg) = _; rw [nI_clamp (Nat.lt_trans hk hn)]) kk)
theorem nw_iast (hx : p.tables.exec = Jvm.exec) (hb : c.code = cc) (hK : va_K D cl tys s) (hP : va_P D cl ws H) (hD : va_D A ws) (hS : va_S A H0 H locs) (q0 t0 : Nat) {cA : ClassId} {n : Nat} {f : Nat → Nat} (ha : ws[q0]? = some (a, .inl (cA, n, .inl (fun j => nI (f j))))) (ht : tys[t0]? = some (cA, .int)) {k x : Nat} (hk : k < n) (hn : n < 2 ^ 31) (d : decode cc pc = .ok (.iastore, 1))
    (kk : ∀ (H1 : Heap) (locs1 : List Loc), va_P D cl (ws.set q0 (a, .inl (cA, n, .inl (fun j => nI (va_up f k x j))))) H1 → va_D A (ws.set q0 (a, .inl (cA, n, .inl (fun j => nI (va_up f k x j))))) → va_S A H0 H1 locs1 → W p l e R s m args below meth c H1 locs1 cells slots Q (F0 m (pc + 1) ls rest)) : W p l e R s m args below meth c H locs cells slots Q (F0 m pc ls (.int (nI x) :: .int (nI k) :: .ref a :: rest)) := by
  refine va_iast hx hb hK hP hD hS q0 t0 ha ht (vp_in_nI hk hn) d fun H1 locs1 h1 h2 h3 => ?_
  rw [nI_clamp (Nat.lt_trans hk hn), upN] at h1 h2
  exact kk H1 locs1 h1 h2 h3
theorem nw_zast (hx : p.tables.exec = Jvm.exec) (hb : c.code = cc) (hK : va_K D cl tys s) (hP : va_P D cl ws H) (hD : va_D A ws) (hS : va_S A H0 H locs) (q0 t0 : Nat) {cA : ClassId} {n : Nat} {f : Nat → Nat} (ha : ws[q0]? = some (a, .inl (cA, n, .inl (fun j => nI (f j))))) (ht : tys[t0]? = some (cA, .boolean)) {k x : Nat} (hk : k < n) (hn : n < 2 ^ 31) (hv : vp_nar .boolean (nI x) = nI x) (d : decode cc pc = .ok (.bastore, 1))
    (kk : ∀ (H1 : Heap) (locs1 : List Loc), va_P D cl (ws.set q0 (a, .inl (cA, n, .inl (fun j => nI (va_up f k x j))))) H1 → va_D A (ws.set q0 (a, .inl (cA, n, .inl (fun j => nI (va_up f k x j))))) → va_S A H0 H1 locs1 → W p l e R s m args below meth c H1 locs1 cells slots Q (F0 m (pc + 1) ls rest)) : W p l e R s m args below meth c H locs cells slots Q (F0 m pc ls (.int (nI x) :: .int (nI k) :: .ref a :: rest)) := by
  refine va_zast hx hb hK hP hD hS q0 t0 ha ht (vp_in_nI hk hn) d fun H1 locs1 h1 h2 h3 => ?_
  rw [nI_clamp (Nat.lt_trans hk hn), hv, upN] at h1 h2
  exact kk H1 locs1 h1 h2 h3
end NA
/-! ### forms of contracts -/
/-- which exceptions are themselves -/
def cw5 : List Cond := [.castable "java/lang/IllegalArgumentException" "java/lang/IllegalArgumentException", .castable "java/util/NoSuchElementException" "java/util/NoSuchElementException", .castable "java/lang/IllegalStateException" "java/lang/IllegalStateException", .castable "java/lang/ArithmeticException" "java/lang/ArithmeticException", .castable "java/lang/UnsupportedOperationException" "java/lang/UnsupportedOperationException", .declares ⟨"java/lang/RuntimeException", "<init>", "()V"⟩, .declares ⟨"java/lang/Exception", "<init>", "()V"⟩, .declares ⟨"java/lang/Throwable", "<init>", "()V"⟩]
/-- what a throw needs beside the words: Throwable's two statics, outside A -/
def Ev (A : Nat → Prop) (U : State) : Prop := vx_Zq Bundle.tN "UNASSIGNED_STACK" Bundle.steD A U U.heap ∧ vx_Zq Bundle.tN "SUPPRESSED_SENTINEL" Bundle.listD A U U.heap ∧ ∀ w ∈ cw5, w.before #[] U = true
theorem cw5_on : ∀ w ∈ cw5, w.onTables = true := by decide +kernel
theorem cw5_moved {u U : State} (hvm : u.vm.Alike U.vm) : ∀ w ∈ cw5, w.before #[] u = true → w.before #[] U = true := by
  intro w hw h
  have hon := cw5_on w hw
  have e : w.before #[] (u.setVm U.vm) = w.before #[] (U.setVm U.vm) := Cond.onTables_vm (A := #[]) (A' := #[]) (U := u) (U' := U) U.vm w hon
  have hU : U.setVm U.vm = U := rfl
  rw [hU] at e
  rw [← e]
  simp only [cw5, List.mem_cons, List.not_mem_nil, or_false] at hw
  rcases hw with rfl | rfl | rfl | rfl | rfl | rfl | rfl | rfl <;> first | (rw [Cond.castable_setVm hvm]; exact h) | (rw [Cond.declares_setVm hvm]; exact h)
theorem Ev.to {A B : Nat → Prop} {u U : State} (h : Ev A u) (hvm : u.vm.Alike U.vm) (hh : ∀ a : Nat, a < u.heap.size → ¬ A a → U.heap[a]? = u.heap[a]?) (hAB : ∀ q, B q → A q) : Ev B U :=
  ⟨((h.1.kept hh).moved hvm).narrow hAB, ((h.2.1.kept hh).moved hvm).narrow hAB, fun w hw => cw5_moved hvm w hw (h.2.2 w hw)⟩
/-- a contract's start: the world W0, the arguments av -/
def PW (D : va_G) (tys : List (ClassId × FieldType)) (W0 : va_W) (sz : Nat) (av : List Value) : Array Value → State → Prop := va_Pc av (fun U => U.heap.size = sz ∧ va_P D cls2 W0 U.heap ∧ va_K D cls2 tys U ∧ va_D (fun _ => True) W0 ∧ Ev (va_A W0 sz) U)
theorem PW.blind {D : va_G} {tys : List (ClassId × FieldType)} {W0 : va_W} {sz : Nat} {av : List Value} : FrameBlind (PW D tys W0 sz av) := fun a U g mk q => by
  obtain ⟨q0, q1, qP, qK, qD, qE⟩ := q
  exact ⟨q0, q1, qP, va_K.moved (u := U) (U := U.calling g mk a) (Vm.Alike.refl U.vm) qK, qD, Ev.to (U := U.calling g mk a) qE (Vm.Alike.refl U.vm) (fun _ _ _ => rfl) (fun _ h => h)⟩
theorem va_all {A : Nat → Prop} {W0 : va_W} {H0 H : Heap} {locs : List Loc} (hD : va_D A W0) (hS : va_S A H0 H locs) (hA : ∀ q : Nat, H0.size ≤ q → A q) : ∀ q, va_A W0 H.size q → A q :=
  fun q h => h.elim (fun ⟨k, _, hk⟩ => hD.2 k _ hk) (fun h => hA q (Nat.le_trans hS.1 h))
theorem PW.pre {D : va_G} {tys : List (ClassId × FieldType)} {W0 : va_W} {av : List Value} {A : Nat → Prop} {s : State} {H : Heap} {locs : List Loc} (hP : va_P D cls2 W0 H) (hK : va_K D cls2 tys s) (hD : va_D A W0) (hS : va_S A s.heap H locs) (hA : ∀ q : Nat, s.heap.size ≤ q → A q) (hE : Ev A s) :
    ∀ U : State, U.heap = H → s.WarmedH U.vm → PW D tys W0 H.size av av.toArray U := fun U hU hW =>
  ⟨rfl, by rw [hU], by rw [hU]; exact hP, va_K.moved hW.alike hK, hD.weaken (fun _ _ _ _ => trivial), Ev.to hE hW.alike (fun a h1 h2 => by rw [hU]; exact hS.2.1 a h1 h2) (va_all hD hS hA)⟩
theorem va_P.nil {D : va_G} {cl : List vw_C} {H : Heap} : va_P D cl [] H := fun k q h => by simp at h
theorem va_D.nil {A : Nat → Prop} : va_D A [] := ⟨fun i j p q h => by simp at h, fun k q h => by simp at h⟩
/-- a reader: nothing in the heap changes -/
abbrev QR (v : Option Value) : Array Value → State → Outcome → State → Prop := fun _ st o t => o = .returned v ∧ t.heap = st.heap
/-- a reader that may throw: it returns v where er is none -/
abbrev QX (er : Option String) (v : Option Value) : Array Value → State → Outcome → State → Prop := fun _ st o t => er = none ∧ o = .returned v ∧ t.heap = st.heap
/-- .. and throws what er names; the old cells are as they were -/
abbrev XX (er : Option String) : String → State → State → Prop := fun E st t => er = some E ∧ va_F (fun _ => False) st t
/-- a writer: from W0 to W1, answering v -/
abbrev QW (D : va_G) (tys : List (ClassId × FieldType)) (W0 W1 : va_W) (sz : Nat) (v : Option Value) : Array Value → State → Outcome → State → Prop := fun _ st o t => (o = .returned v ∧ va_P D cls2 W1 t.heap ∧ va_D (va_A W0 sz) W1) ∧ va_F (va_A W0 sz) st t
/-- a writer that may throw -/
abbrev QXW (er : Option String) (D : va_G) (tys : List (ClassId × FieldType)) (W0 W1 : va_W) (sz : Nat) (v : Option Value) : Array Value → State → Outcome → State → Prop := fun _ st o t => er = none ∧ (o = .returned v ∧ va_P D cls2 W1 t.heap ∧ va_D (va_A W0 sz) W1) ∧ va_F (va_A W0 sz) st t
abbrev rmR (k : Nat) : Room := { frames := k, cells := 0, slots := 0, locals := 40 * k }
abbrev rmX (k : Nat) : Room := { frames := 6 + k, cells := 1, slots := 6, locals := 90 + 40 * k }
/-! ### calls -/
section CL
variable {p : Program} {l : Launch} {e : Env} {R : Room} {s : State} {m : MethodId} {args : Array Value} {below : List Frame} {meth : Method} {c : Code} {H : Heap} {locs : List Loc} {cells slots : Nat} {Q : State → Prop}
variable {pc : Nat} {ls : Array Slot} {st0 rest : List Value} {a : Array Value} {D : va_G} {tys : List (ClassId × FieldType)} {A : Nat → Prop} {W0 W1 : va_W} {v : Option Value}
/-- a reader is called -/
theorem cl_r (hr : CallRun p l e R s m args below meth c H locs cells slots 0 0 (F0 m pc ls st0) rest (QR v a) (fun _ => False)) (kk : W p l e R s m args below meth c H locs cells slots Q (F0 m (pc + 3) ls (v.toList ++ rest))) : W p l e R s m args below meth c H locs cells slots Q (F0 m pc ls st0) := by
  intro T hT X
  obtain ⟨v', st₀, t, T', L, h0, X', hL, e1, ⟨hv, hh⟩, st⟩ := hr T hT X
  cases hv
  obtain ⟨t2, a1, b1⟩ := kk T' (by rw [e1, hh, h0]) (Stand.forget X' (fun q h => (hL q h).elim))
  exact ⟨t2, st t2 a1, b1⟩
/-- a writer is called -/
theorem cl_w (hD : va_D A W0) (hS : va_S A s.heap H locs) (hA : ∀ q : Nat, s.heap.size ≤ q → A q) (hr : CallRun p l e R s m args below meth c H locs cells slots 0 0 (F0 m pc ls st0) rest (QW D tys W0 W1 H.size v a) (va_A W0 H.size))
    (kk : ∀ (H1 : Heap) (locs1 : List Loc), va_P D cls2 W1 H1 → va_D A W1 → va_S A s.heap H1 locs1 → W p l e R s m args below meth c H1 locs1 cells slots Q (F0 m (pc + 3) ls (v.toList ++ rest))) : W p l e R s m args below meth c H locs cells slots Q (F0 m pc ls st0) := by
  intro T hT X
  obtain ⟨v', st₀, t, T', L, h0, X', hL, e1, ⟨⟨hv, hP1, hD1⟩, hz, hk⟩, st⟩ := hr T hT X
  cases hv
  rw [h0] at hz hk
  have hF := va_all hD hS hA
  obtain ⟨t2, a1, b1⟩ := kk T'.heap (locs ++ L) (by rw [e1]; exact hP1) (hD1.weaken (fun _ _ _ h => hF _ h))
    ⟨Nat.le_trans hS.1 (by rw [e1]; exact hz), fun q h1 h2 => by rw [e1, hk q (Nat.lt_of_lt_of_le h1 hS.1) (fun z => h2 (hF q z))]; exact hS.2.1 q h1 h2, fun q hq => by
      rcases List.mem_append.mp hq with h | h
      · exact hS.2.2 q h
      · exact hF _ (hL q h)⟩ T' rfl X'
  exact ⟨t2, st t2 a1, b1⟩
/-- a reader that may throw is called, nothing being written yet, in a method without handlers: what it throws goes on -/
theorem cl_x {Qc : Array Value → State → Outcome → State → Prop} {free : Addr → Prop} {er er' : Option String} (hlocks : meth.locks = false) (hno : ∀ x ∈ c.exceptionTable.toList, False)
    (hr : vx_Run p l e R s m args below meth c s.heap [] 0 0 1 6 (F0 m pc ls st0) rest (QX er v a) (XX er) (fun _ => False))
    (kx : ∀ E, er = some E → er' = some E)
    (kk : er = none → W p l e R s m args below meth c s.heap [] 0 0 (vx_MQ below Qc (XX er') args s 1 6 free) (F0 m (pc + 3) ls (v.toList ++ rest))) : W p l e R s m args below meth c s.heap [] 0 0 (vx_MQ below Qc (XX er') args s 1 6 free) (F0 m pc ls st0) := by
  intro T hT X
  rcases hr T hT X with ⟨v', st₀, t, T', L, h0, X', hL, e1, e2, ⟨he, hv, hh⟩, st⟩ | ⟨q, st₀, t, T', L, E, ce, h0, X', hL, e1, e2, ⟨he, hz, hk⟩, hce, hcv, hcl, st⟩
  · cases hv
    have hT' : T'.heap = s.heap := by rw [e1, hh, h0]
    obtain ⟨t2, a1, b1⟩ := nw_none (cells := 0 + 1) (slots := 0 + 6) rfl (kk he) T' hT' (Stand.forget X' (fun q h => (hL q h).elim))
    exact ⟨t2, st t2 a1, b1⟩
  · rw [h0] at hz hk
    have hw : vx_W p l e R s m args below meth c T'.heap [] (0 + 1) (0 + 6) (vx_MQ below Qc (XX er') args s 1 6 free) (F0 m pc ls rest) q :=
      vx_out (fun x hx => (hno x hx).elim) hlocks (by rw [e1]; exact hce) hcv hcl (fun t9 ht9 _ => ⟨kx E he, by rw [ht9, e1]; exact hz, fun q9 h1 h2 => by rw [ht9, e1]; exact hk q9 h1 h2⟩) (fun z hz => nomatch hz) (Nat.le_refl _) (Nat.le_refl _)
    obtain ⟨t2, a1, b1⟩ := hw T' rfl (Stand.forget X' (fun q h => (hL q h).elim))
    exact ⟨t2, st.trans a1, b1⟩
end CL
/-! ### the reference's public methods -/
abbrev TP : Type := (Nat → Nat) → (Nat → Nat) → (Nat → Nat) → (Nat → Nat) → (Nat → Nat) → (Nat → Nat) → Nat → Nat → Nat → Nat → Prop
/-- its end: where er is none it answers v and goes to R1, else its mark is the exception's number and it stays at R0 -/
def PMo (er : Option String) (cd : String → Nat) (v v0 : Option Value) (R1 R0 : TP) (v' : Option Value) (yt : Nat) (hS hK hI hO hF hE : Nat → Nat) (yn ym yr yd : Nat) : Prop :=
  (er = none → yt = 0 ∧ v' = v ∧ R1 hS hK hI hO hF hE yn ym yr yd) ∧ ∀ E, er = some E → yt = cd E ∧ v' = v0 ∧ R0 hS hK hI hO hF hE yn ym yr yd
abbrev QM (D : va_G) (u : Nat → Nat) (cI cZ : ClassId) (W0 : va_W) (sz : Nat) (po : Option Value → Nat → TP) : Array Value → State → Outcome → State → Prop := fun _ st o t =>
  (∃ gS gK gI gO gF gE gQ : Nat → Nat, ∃ yt yn yr ym yd yk yb yc : Nat, ∃ v : Option Value, o = .returned v ∧ po v yt gS gK gI gO gF gE yn ym yr yd ∧ IM gS gK gI gO gF gE yn ym yr ∧ va_P D cls2 (wM u cI cZ gS gK gI gO gF gE gQ yt yn yr ym yd yk yb yc) t.heap ∧ va_D (va_A W0 sz) (wM u cI cZ gS gK gI gO gF gE gQ yt yn yr ym yd yk yb yc)) ∧ va_F (va_A W0 sz) st t
