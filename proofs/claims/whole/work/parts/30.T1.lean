set_option maxHeartbeats 4000000 in
set_option maxRecDepth 100000 in
/-- how many digits in base 5 -/
theorem c_T_sizeOf (l : Launch) (D : va_G) (x : Nat) (hx0 : x < 2 ^ 31) (sz : Nat) : Met l y_T_sizeOf w_T_sizeOf (rmR 0) (PW D [] ([]) sz [.int (nI x)]) (QR (some (.int (nI (szL 6 x))))) 0 0 (fun _ => False) := by
  refine Met.ofW (cc := b_T_sizeOf) (maxL := 4) (ret := (some .int)) (by decide) rfl ?_
  intro p e s m args below meth c s₁ B hml hv
  obtain ⟨rfl, hsz, hP, hK, hD0, hE⟩ := hv
  have hx := B.exec
  have hb := B.bytes
  have hrt := B.returns
  have hts := atoms_spec (ws := w_T_sizeOf) B.pre
  have hw : ∀ w ∈ bw, w.before ([.int (nI x)]).toArray s = true := fun w h => hts w (List.mem_cons_of_mem _ h)
  have hown : s.vm.findClass "TypeStack" = some m.cls := findClass_of_methodNamed B.named
  have hlocks := B.notSynchronized
  subst hsz
  have hD := hD0.self (sz := s.heap.size)
  have hA : ∀ q : Nat, s.heap.size ≤ q → va_A ([]) s.heap.size q := fun q h => Or.inr h
  have hS : va_S (va_A ([]) s.heap.size) s.heap s.heap [] := va_S.rf
  have hK0 := hK.sub (tys' := []) [] rfl
  have hl := lv_entry ([.int (nI x)]) (n := 4) (Nat.le_of_ble_eq_true rfl)
  rw [lg_entry_eq]
  generalize (lg_sl ([.int (nI x)]) ++ List.replicate (4 - (lg_sl ([.int (nI x)])).length) Slot.unset).toArray = ls at hl ⊢
  have hl : lv_has ls 4 [(0, .int (nI x))] := hl
  refine lv_iconst (v := nI 0) hx hb d_T_sizeOf_0 (by decide) ?_
  refine lv_istore_n (lv' := [(1, .int (nI 0)), (0, .int (nI x))]) hx hb d_T_sizeOf_1 rfl hl (by decide) rfl (fun ls hl => ?_)
  refine lv_iload_n hx hb d_T_sizeOf_2 rfl (lv_at hl 1 rfl) ?_
  refine lv_istore_n (lv' := [(2, .int (nI x)), (1, .int (nI 0)), (0, .int (nI x))]) hx hb d_T_sizeOf_3 rfl hl (by decide) rfl (fun ls hl => ?_)
  refine lv_iconst (v := nI 0) hx hb d_T_sizeOf_4 (by decide) ?_
  refine lv_istore_n (lv' := [(3, .int (nI 0)), (2, .int (nI x)), (1, .int (nI 0)), (0, .int (nI x))]) hx hb d_T_sizeOf_5 rfl hl (by decide) rfl (fun ls hl => ?_)
  have lo : ∀ (k a d : Nat), k ≤ 6 → d < 2 ^ 31 → ∀ ls : Array Slot, lv_has ls 4 [(3, .int (nI (6 - k))), (2, .int (nI d)), (1, .int (nI a)), (0, .int (nI x))] → a + szL k d = szL 6 x → W p l e (headSpec w_T_sizeOf (rmR 0)).room s m ([.int (nI x)] : List Value).toArray below meth c s.heap [] 0 0 (MQ below (QR (some (.int (nI (szL 6 x))))) ([.int (nI x)] : List Value).toArray s 0 0 (fun _ => False)) (F0 m 6 ls []) := by
    intro k
    induction k with
    | zero =>
      intro a d hk hd ls hl hq
      refine lv_iload_n hx hb d_T_sizeOf_6 rfl (lv_at hl 0 rfl) ?_
      refine lv_bipush (v := nI 6) hx hb d_T_sizeOf_7 (by decide) ?_
      refine nw_ge hx hb (tgt := 29) d_T_sizeOf_9 (by decide) (by omega) (by omega) (fun h9 => ?_) (fun h9 => ?_)
      · skip
        refine lv_iload_n hx hb d_T_sizeOf_29 rfl (lv_at hl 2 rfl) ?_
        refine nw_is (y := nI (szL 6 x)) (by rw [← hq]; simp [szL]) ?_
        exact W.iret hx hb hrt (fun t ht _ => ⟨rfl, ht⟩) (fun q h => nomatch h) d_T_sizeOf_30
      · skip
        exfalso; omega
    | succ k ih =>
      intro a d hk hd ls hl hq
      refine lv_iload_n hx hb d_T_sizeOf_6 rfl (lv_at hl 0 rfl) ?_
      refine lv_bipush (v := nI 6) hx hb d_T_sizeOf_7 (by decide) ?_
      refine nw_ge hx hb (tgt := 29) d_T_sizeOf_9 (by decide) (by omega) (by omega) (fun h9 => ?_) (fun h9 => ?_)
      · skip
        exfalso; omega
      · skip
        refine lv_iload_n hx hb d_T_sizeOf_12 rfl (lv_at hl 1 rfl) ?_
        refine nw_ifle hx hb (tgt := 29) d_T_sizeOf_13 (by decide) (by omega) (fun h13 => ?_) (fun h13 => ?_)
        · skip
          refine lv_iload_n hx hb d_T_sizeOf_29 rfl (lv_at hl 2 rfl) ?_
          refine nw_is (y := nI (szL 6 x)) (by rw [← hq, h13, szL_zero]; rfl) ?_
          exact W.iret hx hb hrt (fun t ht _ => ⟨rfl, ht⟩) (fun q h => nomatch h) d_T_sizeOf_30
        · skip
          refine lv_iload_n hx hb d_T_sizeOf_16 rfl (lv_at hl 1 rfl) ?_
          refine lv_iconst (v := nI 5) hx hb d_T_sizeOf_17 (by decide) ?_
          refine nw_div hx hb (by omega) (by omega) (by omega) d_T_sizeOf_18 ?_
          refine lv_istore_n (lv' := [(2, .int (nI (d / 5))), (3, .int (nI (6 - (k + 1)))), (1, .int (nI a)), (0, .int (nI x))]) hx hb d_T_sizeOf_19 rfl hl (by decide) rfl (fun ls hl => ?_)
          refine lv_iinc (k := 2) (v := nI (a + 1)) (lv' := [(1, .int (nI (a + 1))), (2, .int (nI (d / 5))), (3, .int (nI (6 - (k + 1)))), (0, .int (nI x))]) hx hb d_T_sizeOf_20 hl rfl (by rw [show Int32.ofInt 1 = nI 1 from rfl, nI_add]) (by decide) rfl (fun ls hl => ?_)
          refine lv_iinc (k := 2) (v := nI (6 - (k + 1) + 1)) (lv' := [(3, .int (nI (6 - (k + 1) + 1))), (1, .int (nI (a + 1))), (2, .int (nI (d / 5))), (0, .int (nI x))]) hx hb d_T_sizeOf_23 hl rfl (by rw [show Int32.ofInt 1 = nI 1 from rfl, nI_add]) (by decide) rfl (fun ls hl => ?_)
          refine lv_goto hx hb d_T_sizeOf_26 (tgt := 6) (by decide) ?_
          refine ih (a + 1) (d / 5) (by omega) (by omega) ls ?_ ?_
          · rw [show 6 - k = 6 - (k + 1) + 1 by omega]; exact lv_sub hl [0, 2, 1, 3] rfl
          · rw [← hq, szL_succ h13]; omega
  exact lo 6 0 x (Nat.le_refl _) (by omega) ls hl (Nat.zero_add _)

set_option maxHeartbeats 4000000 in
set_option maxRecDepth 100000 in
theorem c_T_typeToTake (l : Launch) (D : va_G) (z : Nat → Nat) (cI cZ : ClassId) (fT fK fA fB fF fE : Nat → Nat) (xh xg xr xn : Nat) (hi : IT fT fK fA fB fF fE xh xg xr) (a : Nat) (hr1 : 1 ≤ xr) (ha : a ≤ 300) (sz : Nat) : Met l y_T_typeToTake w_T_typeToTake (rmR 0) (PW D [(cI, .int), (cZ, .boolean)] (wT z cI cZ fT fK fA fB fF fE xh xg xr xn) sz [.ref (z 0), .int (nI a)]) (QR (some (.int (nI (tk1 (fF (xr - 1)) a fT))))) 0 0 (fun _ => False) := by
  refine Met.ofW (cc := b_T_typeToTake) (maxL := 2) (ret := (some .int)) (by decide) rfl ?_
  intro p e s m args below meth c s₁ B hml hv
  obtain ⟨rfl, hsz, hP, hK, hD0, hE⟩ := hv
  have hx := B.exec
  have hb := B.bytes
  have hrt := B.returns
  have hts := atoms_spec (ws := w_T_typeToTake) B.pre
  have hw : ∀ w ∈ bw, w.before ([.ref (z 0), .int (nI a)]).toArray s = true := fun w h => hts w (List.mem_cons_of_mem _ h)
  have hown : s.vm.findClass "TypeStack" = some m.cls := findClass_of_methodNamed B.named
  have hlocks := B.notSynchronized
  subst hsz
  have hD := hD0.self (sz := s.heap.size)
  have hA : ∀ q : Nat, s.heap.size ≤ q → va_A (wT z cI cZ fT fK fA fB fF fE xh xg xr xn) s.heap.size q := fun q h => Or.inr h
  have hS : va_S (va_A (wT z cI cZ fT fK fA fB fF fE xh xg xr xn) s.heap.size) s.heap s.heap [] := va_S.rf
  have hK0 := hK.sub (tys' := []) [] rfl
  have hl := lv_entry ([.ref (z 0), .int (nI a)]) (n := 2) (Nat.le_of_ble_eq_true rfl)
  rw [lg_entry_eq]
  generalize (lg_sl ([.ref (z 0), .int (nI a)]) ++ List.replicate (2 - (lg_sl ([.ref (z 0), .int (nI a)])).length) Slot.unset).toArray = ls at hl ⊢
  have hl : lv_has ls 2 [(0, .ref (z 0)), (1, .int (nI a))] := hl
  obtain ⟨hiT, hiK, hiA, hiB, hiF, hiE, hih, hig, hir⟩ := id hi
  refine lv_iload_n hx hb d_T_typeToTake_0 rfl (lv_at hl 1 rfl) ?_
  refine lv_aload_n hx hb d_T_typeToTake_1 rfl (lv_at hl 0 rfl) ?_
  refine va_get (D := D) (ci := 0) (C := RT) (T := FT) (N := 10) (v := .ref (z 5)) hx hb hw inT hown hK hP 0 rfl rfl 6 (by decide) (hw _ kF_T_22) (fun _ h9 => h9) rfl d_T_typeToTake_2 ?_
  refine lv_aload_n hx hb d_T_typeToTake_5 rfl (lv_at hl 0 rfl) ?_
  refine va_get (D := D) (ci := 0) (C := RT) (T := FT) (N := 10) (v := .int (nI xr)) hx hb hw inT hown hK hP 0 rfl rfl 8 (by decide) (hw _ kF_T_79) (fun _ h9 => h9) rfl d_T_typeToTake_6 ?_
  refine lv_iconst (v := nI 1) hx hb d_T_typeToTake_9 (by decide) ?_
  refine nw_sub hx hb (by omega) d_T_typeToTake_10 ?_
  refine nw_iald hx hb hK hP 5 0 rfl rfl (k := xr - 1) (by omega) (by decide) d_T_typeToTake_11 ?_
  have b11 := hiF (xr - 1)
  refine nw_le hx hb (tgt := 26) d_T_typeToTake_12 (by decide) (by omega) (by omega) (fun h12 => ?_) (fun h12 => ?_)
  · skip
    refine lv_iconst (v := nI 0) hx hb d_T_typeToTake_26 (by decide) ?_
    refine nw_is (y := nI (tk1 (fF (xr - 1)) a fT)) (by unfold tk1; (repeat' split) <;> first | rfl | (exfalso; omega)) ?_
    exact W.iret hx hb hrt (fun t ht _ => ⟨rfl, ht⟩) (fun q h => nomatch h) d_T_typeToTake_27
  · skip
    refine lv_aload_n hx hb d_T_typeToTake_15 rfl (lv_at hl 0 rfl) ?_
    refine va_get (D := D) (ci := 0) (C := RT) (T := FT) (N := 10) (v := .ref (z 1)) hx hb hw inT hown hK hP 0 rfl rfl 0 (by decide) (hw _ kF_T_9) (fun _ h9 => h9) rfl d_T_typeToTake_16 ?_
    refine lv_iload_n hx hb d_T_typeToTake_19 rfl (lv_at hl 1 rfl) ?_
    refine lv_iconst (v := nI 1) hx hb d_T_typeToTake_20 (by decide) ?_
    refine nw_sub hx hb (by omega) d_T_typeToTake_21 ?_
    refine nw_iald hx hb hK hP 1 0 rfl rfl (k := a - 1) (by omega) (by decide) d_T_typeToTake_22 ?_
    have b22 := hiT (a - 1)
    refine lv_goto hx hb d_T_typeToTake_23 (tgt := 27) (by decide) ?_
    refine nw_is (y := nI (tk1 (fF (xr - 1)) a fT)) (by unfold tk1; (repeat' split) <;> first | rfl | (exfalso; omega)) ?_
    exact W.iret hx hb hrt (fun t ht _ => ⟨rfl, ht⟩) (fun q h => nomatch h) d_T_typeToTake_27

set_option maxHeartbeats 4000000 in
set_option maxRecDepth 100000 in
theorem c_T_wantedBy (l : Launch) (D : va_G) (z : Nat → Nat) (cI cZ : ClassId) (fT fK fA fB fF fE : Nat → Nat) (xh xg xr xn : Nat) (hi : IT fT fK fA fB fF fE xh xg xr) (a : Nat) (ha : a < 40) (sz : Nat) : Met l y_T_wantedBy w_T_wantedBy (rmR 0) (PW D [(cI, .int), (cZ, .boolean)] (wT z cI cZ fT fK fA fB fF fE xh xg xr xn) sz [.ref (z 0), .int (nI a)]) (QR (some (.int (nI (wnt fK fA fB a))))) 0 0 (fun _ => False) := by
  refine Met.ofW (cc := b_T_wantedBy) (maxL := 2) (ret := (some .int)) (by decide) rfl ?_
  intro p e s m args below meth c s₁ B hml hv
  obtain ⟨rfl, hsz, hP, hK, hD0, hE⟩ := hv
  have hx := B.exec
  have hb := B.bytes
  have hrt := B.returns
  have hts := atoms_spec (ws := w_T_wantedBy) B.pre
  have hw : ∀ w ∈ bw, w.before ([.ref (z 0), .int (nI a)]).toArray s = true := fun w h => hts w (List.mem_cons_of_mem _ h)
  have hown : s.vm.findClass "TypeStack" = some m.cls := findClass_of_methodNamed B.named
  have hlocks := B.notSynchronized
  subst hsz
  have hD := hD0.self (sz := s.heap.size)
  have hA : ∀ q : Nat, s.heap.size ≤ q → va_A (wT z cI cZ fT fK fA fB fF fE xh xg xr xn) s.heap.size q := fun q h => Or.inr h
  have hS : va_S (va_A (wT z cI cZ fT fK fA fB fF fE xh xg xr xn) s.heap.size) s.heap s.heap [] := va_S.rf
  have hK0 := hK.sub (tys' := []) [] rfl
  have hl := lv_entry ([.ref (z 0), .int (nI a)]) (n := 2) (Nat.le_of_ble_eq_true rfl)
  rw [lg_entry_eq]
  generalize (lg_sl ([.ref (z 0), .int (nI a)]) ++ List.replicate (2 - (lg_sl ([.ref (z 0), .int (nI a)])).length) Slot.unset).toArray = ls at hl ⊢
  have hl : lv_has ls 2 [(0, .ref (z 0)), (1, .int (nI a))] := hl
  obtain ⟨hiT, hiK, hiA, hiB, hiF, hiE, hih, hig, hir⟩ := id hi
  refine lv_aload_n hx hb d_T_wantedBy_0 rfl (lv_at hl 0 rfl) ?_
  refine va_get (D := D) (ci := 0) (C := RT) (T := FT) (N := 10) (v := .ref (z 2)) hx hb hw inT hown hK hP 0 rfl rfl 3 (by decide) (hw _ kF_T_13) (fun _ h9 => h9) rfl d_T_wantedBy_1 ?_
  refine lv_iload_n hx hb d_T_wantedBy_4 rfl (lv_at hl 1 rfl) ?_
  refine nw_iald hx hb hK hP 2 0 rfl rfl (k := a) (by omega) (by decide) d_T_wantedBy_5 ?_
  have b5 := hiK a
  refine lv_iconst (v := nI 1) hx hb d_T_wantedBy_6 (by decide) ?_
  refine nw_ne hx hb (tgt := 19) d_T_wantedBy_7 (by decide) (by omega) (by omega) (fun h7 => ?_) (fun h7 => ?_)
  · skip
    refine lv_aload_n hx hb d_T_wantedBy_19 rfl (lv_at hl 0 rfl) ?_
    refine va_get (D := D) (ci := 0) (C := RT) (T := FT) (N := 10) (v := .ref (z 4)) hx hb hw inT hown hK hP 0 rfl rfl 5 (by decide) (hw _ kF_T_19) (fun _ h9 => h9) rfl d_T_wantedBy_20 ?_
    refine lv_iload_n hx hb d_T_wantedBy_23 rfl (lv_at hl 1 rfl) ?_
    refine nw_iald hx hb hK hP 4 0 rfl rfl (k := a) (by omega) (by decide) d_T_wantedBy_24 ?_
    have b24 := hiB a
    refine nw_is (y := nI (wnt fK fA fB a)) (by unfold wnt; (repeat' split) <;> first | rfl | (exfalso; omega)) ?_
    exact W.iret hx hb hrt (fun t ht _ => ⟨rfl, ht⟩) (fun q h => nomatch h) d_T_wantedBy_25
  · skip
    refine lv_aload_n hx hb d_T_wantedBy_10 rfl (lv_at hl 0 rfl) ?_
    refine va_get (D := D) (ci := 0) (C := RT) (T := FT) (N := 10) (v := .ref (z 3)) hx hb hw inT hown hK hP 0 rfl rfl 4 (by decide) (hw _ kF_T_16) (fun _ h9 => h9) rfl d_T_wantedBy_11 ?_
    refine lv_iload_n hx hb d_T_wantedBy_14 rfl (lv_at hl 1 rfl) ?_
    refine nw_iald hx hb hK hP 3 0 rfl rfl (k := a) (by omega) (by decide) d_T_wantedBy_15 ?_
    have b15 := hiA a
    refine lv_goto hx hb d_T_wantedBy_16 (tgt := 25) (by decide) ?_
    refine nw_is (y := nI (wnt fK fA fB a)) (by unfold wnt; (repeat' split) <;> first | rfl | (exfalso; omega)) ?_
    exact W.iret hx hb hrt (fun t ht _ => ⟨rfl, ht⟩) (fun q h => nomatch h) d_T_wantedBy_25

set_option maxHeartbeats 4000000 in
set_option maxRecDepth 100000 in
theorem c_T_heightBelowOne (l : Launch) (hl0 : l.stackTraces = false) (D : va_G) (z : Nat → Nat) (cI cZ : ClassId) (fT fK fA fB fF fE : Nat → Nat) (xh xg xr xn : Nat) (hi : IT fT fK fA fB fF fE xh xg xr) (a : Nat) (hr1 : 1 ≤ xr) (ha : a ≤ 300) (sz : Nat) : vx_Met l y_T_heightBelowOne w_T_heightBelowOne (rmX 0) (PW D [(cI, .int), (cZ, .boolean)] (wT z cI cZ fT fK fA fB fF fE xh xg xr xn) sz [.ref (z 0), .int (nI a)]) (QX (xo ISE (hb1 (fF (xr - 1)) (fE (xr - 1)) a)) (some (.int (nI ((hb1 (fF (xr - 1)) (fE (xr - 1)) a).getD 0))))) (XX (xo ISE (hb1 (fF (xr - 1)) (fE (xr - 1)) a))) 1 6 (fun _ => False) := by
  refine vx_ofW (cc := b_T_heightBelowOne) (maxL := 3) (ret := (some .int)) (by decide) rfl ?_
  intro p e s m args below meth c s₁ B hml hno hv
  obtain ⟨rfl, hsz, hP, hK, hD0, hE⟩ := hv
  have hx := B.exec
  have hb := B.bytes
  have hrt := B.returns
  have hts := atoms_spec (ws := w_T_heightBelowOne) B.pre
  have hw : ∀ w ∈ bw, w.before ([.ref (z 0), .int (nI a)]).toArray s = true := fun w h => hts w (List.mem_cons_of_mem _ h)
  have hown : s.vm.findClass "TypeStack" = some m.cls := findClass_of_methodNamed B.named
  have hlocks := B.notSynchronized
  subst hsz
  have hD := hD0.self (sz := s.heap.size)
  have hA : ∀ q : Nat, s.heap.size ≤ q → va_A (wT z cI cZ fT fK fA fB fF fE xh xg xr xn) s.heap.size q := fun q h => Or.inr h
  have hS : va_S (va_A (wT z cI cZ fT fK fA fB fF fE xh xg xr xn) s.heap.size) s.heap s.heap [] := va_S.rf
  have hK0 := hK.sub (tys' := []) [] rfl
  have hl := lv_entry ([.ref (z 0), .int (nI a)]) (n := 3) (Nat.le_of_ble_eq_true rfl)
  rw [lg_entry_eq]
  generalize (lg_sl ([.ref (z 0), .int (nI a)]) ++ List.replicate (3 - (lg_sl ([.ref (z 0), .int (nI a)])).length) Slot.unset).toArray = ls at hl ⊢
  have hl : lv_has ls 3 [(0, .ref (z 0)), (1, .int (nI a))] := hl
  obtain ⟨hiT, hiK, hiA, hiB, hiF, hiE, hih, hig, hir⟩ := id hi
  refine lv_aload_n hx hb d_T_heightBelowOne_0 rfl (lv_at hl 0 rfl) ?_
  refine va_get (D := D) (ci := 0) (C := RT) (T := FT) (N := 10) (v := .int (nI xr)) hx hb hw inT hown hK hP 0 rfl rfl 8 (by decide) (hw _ kF_T_79) (fun _ h9 => h9) rfl d_T_heightBelowOne_1 ?_
  refine lv_iconst (v := nI 1) hx hb d_T_heightBelowOne_4 (by decide) ?_
  refine nw_sub hx hb (by omega) d_T_heightBelowOne_5 ?_
  refine lv_istore_n (lv' := [(2, .int (nI (xr - 1))), (0, .ref (z 0)), (1, .int (nI a))]) hx hb d_T_heightBelowOne_6 rfl hl (by decide) rfl (fun ls hl => ?_)
  refine lv_iload_n hx hb d_T_heightBelowOne_7 rfl (lv_at hl 2 rfl) ?_
  refine lv_aload_n hx hb d_T_heightBelowOne_8 rfl (lv_at hl 1 rfl) ?_
  refine va_get (D := D) (ci := 0) (C := RT) (T := FT) (N := 10) (v := .ref (z 5)) hx hb hw inT hown hK hP 0 rfl rfl 6 (by decide) (hw _ kF_T_22) (fun _ h9 => h9) rfl d_T_heightBelowOne_9 ?_
  refine lv_iload_n hx hb d_T_heightBelowOne_12 rfl (lv_at hl 0 rfl) ?_
  refine nw_iald hx hb hK hP 5 0 rfl rfl (k := xr - 1) (by omega) (by decide) d_T_heightBelowOne_13 ?_
  have b13 := hiF (xr - 1)
  refine nw_le hx hb (tgt := 21) d_T_heightBelowOne_14 (by decide) (by omega) (by omega) (fun h14 => ?_) (fun h14 => ?_)
  · skip
    refine lv_aload_n hx hb d_T_heightBelowOne_21 rfl (lv_at hl 1 rfl) ?_
    refine va_get (D := D) (ci := 0) (C := RT) (T := FT) (N := 10) (v := .ref (z 6)) hx hb hw inT hown hK hP 0 rfl rfl 7 (by decide) (hw _ kF_T_25) (fun _ h9 => h9) rfl d_T_heightBelowOne_22 ?_
    refine lv_iload_n hx hb d_T_heightBelowOne_25 rfl (lv_at hl 0 rfl) ?_
    refine nw_zald hx hb hK hP 6 1 rfl rfl (k := xr - 1) (by omega) (by decide) d_T_heightBelowOne_26 ?_
    have b26 := hiE (xr - 1)
    refine nw_ifne hx hb (tgt := 38) d_T_heightBelowOne_27 (by decide) (by omega) (fun h27 => ?_) (fun h27 => ?_)
    · skip
      refine lv_iload_n hx hb d_T_heightBelowOne_38 rfl (lv_at hl 2 rfl) ?_
      refine nw_is (y := nI ((hb1 (fF (xr - 1)) (fE (xr - 1)) a).getD 0)) (by unfold hb1; (repeat' split) <;> first | rfl | (exfalso; omega)) ?_
      exact vx_ret (W.widen (k := 1) (n := 6) (by decide) (by decide) (W.iret hx hb hrt (fun t ht _ => ⟨by unfold hb1; (repeat' split) <;> first | rfl | (exfalso; omega), rfl, ht⟩) (fun q h => nomatch h) d_T_heightBelowOne_39))
    · skip
      exact thr_ISE hx hb hl0 hown hw hE (va_S.rf) (hl.1.trans hml.symm) d_T_heightBelowOne_30 d_T_heightBelowOne_33 d_T_heightBelowOne_34 d_T_heightBelowOne_37 hno (by decide) (by decide) (by decide) (by decide) hlocks (by unfold hb1; (repeat' split) <;> first | rfl | (exfalso; omega))
  · skip
    refine lv_iload_n hx hb d_T_heightBelowOne_17 rfl (lv_at hl 2 rfl) ?_
    refine lv_iconst (v := nI 1) hx hb d_T_heightBelowOne_18 (by decide) ?_
    refine nw_sub hx hb (by omega) d_T_heightBelowOne_19 ?_
    refine nw_is (y := nI ((hb1 (fF (xr - 1)) (fE (xr - 1)) a).getD 0)) (by unfold hb1; (repeat' split) <;> first | rfl | (exfalso; omega)) ?_
    exact vx_ret (W.widen (k := 1) (n := 6) (by decide) (by decide) (W.iret hx hb hrt (fun t ht _ => ⟨by unfold hb1; (repeat' split) <;> first | rfl | (exfalso; omega), rfl, ht⟩) (fun q h => nomatch h) d_T_heightBelowOne_20))

set_option maxHeartbeats 4000000 in
set_option maxRecDepth 100000 in
theorem c_T_heightBelowType (l : Launch) (hl0 : l.stackTraces = false) (D : va_G) (z : Nat → Nat) (cI cZ : ClassId) (fT fK fA fB fF fE : Nat → Nat) (xh xg xr xn : Nat) (hi : IT fT fK fA fB fF fE xh xg xr) (a b : Nat) (hr1 : 1 ≤ xr) (ha : a ≤ 300) (hb5 : b < 5) (sz : Nat) : vx_Met l y_T_heightBelowType w_T_heightBelowType (rmX 1) (PW D [(cI, .int), (cZ, .boolean)] (wT z cI cZ fT fK fA fB fF fE xh xg xr xn) sz [.ref (z 0), .int (nI a), .int (nI b)]) (QX (xo ISE (hbT (fF (xr - 1)) (fE (xr - 1)) fT a b)) (some (.int (nI ((hbT (fF (xr - 1)) (fE (xr - 1)) fT a b).getD 0))))) (XX (xo ISE (hbT (fF (xr - 1)) (fE (xr - 1)) fT a b))) 1 6 (fun _ => False) := by
  refine vx_ofW (cc := b_T_heightBelowType) (maxL := 4) (ret := (some .int)) (by decide) rfl ?_
  intro p e s m args below meth c s₁ B hml hno hv
  obtain ⟨rfl, hsz, hP, hK, hD0, hE⟩ := hv
  have hx := B.exec
  have hb := B.bytes
  have hrt := B.returns
  have hts := atoms_spec (ws := w_T_heightBelowType) B.pre
  have hw : ∀ w ∈ bw, w.before ([.ref (z 0), .int (nI a), .int (nI b)]).toArray s = true := fun w h => hts w (List.mem_cons_of_mem _ h)
  have hown : s.vm.findClass "TypeStack" = some m.cls := findClass_of_methodNamed B.named
  have hlocks := B.notSynchronized
  subst hsz
  have hD := hD0.self (sz := s.heap.size)
  have hA : ∀ q : Nat, s.heap.size ≤ q → va_A (wT z cI cZ fT fK fA fB fF fE xh xg xr xn) s.heap.size q := fun q h => Or.inr h
  have hS : va_S (va_A (wT z cI cZ fT fK fA fB fF fE xh xg xr xn) s.heap.size) s.heap s.heap [] := va_S.rf
  have hK0 := hK.sub (tys' := []) [] rfl
  have hl := lv_entry ([.ref (z 0), .int (nI a), .int (nI b)]) (n := 4) (Nat.le_of_ble_eq_true rfl)
  rw [lg_entry_eq]
  generalize (lg_sl ([.ref (z 0), .int (nI a), .int (nI b)]) ++ List.replicate (4 - (lg_sl ([.ref (z 0), .int (nI a), .int (nI b)])).length) Slot.unset).toArray = ls at hl ⊢
  have hl : lv_has ls 4 [(0, .ref (z 0)), (1, .int (nI a)), (2, .int (nI b))] := hl
  obtain ⟨hiT, hiK, hiA, hiB, hiF, hiE, hih, hig, hir⟩ := id hi
  have htk : tk1 (fF (xr - 1)) a fT < 5 := tk1_lt hiT
  refine lv_aload_n hx hb d_T_heightBelowType_0 rfl (lv_at hl 0 rfl) ?_
  refine lv_iload_n hx hb d_T_heightBelowType_1 rfl (lv_at hl 1 rfl) ?_
  refine cl_r (v := some (.int (nI (tk1 (fF (xr - 1)) a fT)))) (W.runV (b := z 0) (C := "TypeStack") (As := [.int (nI a)]) (rest := []) ⟨hx, hb, hml, hown, hw⟩ (c_T_typeToTake l D z cI cZ fT fK fA fB fF fE xh xg xr xn hi a (by omega) (by omega) s.heap.size) (cwV 1 hw g_T_64 rfl rfl rfl ⟨rfl, by decide, by decide, by decide +kernel⟩ ⟨by decide, by decide⟩) ⟨PW.blind, va_recv (q := (RT, FT, 10)) (ci := 0) (q0 := 0) hK hP rfl rfl, PW.pre hP hK hD hS hA hE⟩ rfl rfl hl.1 rfl (lv_room (Nat.le_of_ble_eq_true rfl)) d_T_heightBelowType_2 ⟨by decide, by decide⟩) ?_
  have ht2 : tk1 (fF (xr - 1)) a fT < 5 := tk1_lt hiT
  refine lv_istore_n (lv' := [(3, .int (nI (tk1 (fF (xr - 1)) a fT))), (0, .ref (z 0)), (1, .int (nI a)), (2, .int (nI b))]) hx hb d_T_heightBelowType_5 rfl hl (by decide) rfl (fun ls hl => ?_)
  refine lv_iload_n hx hb d_T_heightBelowType_6 rfl (lv_at hl 0 rfl) ?_
  refine lv_iload_n hx hb d_T_heightBelowType_7 rfl (lv_at hl 3 rfl) ?_
  refine nw_eq hx hb (tgt := 23) d_T_heightBelowType_8 (by decide) (by omega) (by omega) (fun h8 => ?_) (fun h8 => ?_)
  · skip
    refine lv_aload_n hx hb d_T_heightBelowType_23 rfl (lv_at hl 1 rfl) ?_
    refine lv_iload_n hx hb d_T_heightBelowType_24 rfl (lv_at hl 2 rfl) ?_
    refine cl_x (v := some (.int (nI ((hb1 (fF (xr - 1)) (fE (xr - 1)) a).getD 0)))) hlocks hno (vx_runV (b := z 0) (C := "TypeStack") (As := [.int (nI a)]) (rest := []) ⟨hx, hb, hml, hown, hw⟩ (c_T_heightBelowOne l hl0 D z cI cZ fT fK fA fB fF fE xh xg xr xn hi a (by omega) (by omega) s.heap.size) (cwV 1 hw g_T_61 rfl rfl rfl ⟨rfl, by decide, by decide, by decide +kernel⟩ ⟨by decide, by decide⟩) ⟨PW.blind, va_recv (q := (RT, FT, 10)) (ci := 0) (q0 := 0) hK hP rfl rfl, PW.pre hP hK hD hS hA hE⟩ rfl rfl hl.1 rfl (lv_room (Nat.le_of_ble_eq_true rfl)) d_T_heightBelowType_25 ⟨by decide, by decide⟩) (fun E h25 => by unfold hbT; split <;> first | exact h25 | (exfalso; omega)) (fun h25 => ?_)
    have hq25 := hb1_le (fF (xr - 1)) (fE (xr - 1)) a
    refine nw_is (y := nI ((hbT (fF (xr - 1)) (fE (xr - 1)) fT a b).getD 0)) (by unfold hbT; split <;> first | rfl | (exfalso; omega)) ?_
    exact vx_ret (W.widen (k := 1) (n := 6) (by decide) (by decide) (W.iret hx hb hrt (fun t ht _ => ⟨by unfold hbT; split <;> first | exact h25 | (exfalso; omega), rfl, ht⟩) (fun q h => nomatch h) d_T_heightBelowType_28))
  · skip
    refine lv_iload_n hx hb d_T_heightBelowType_11 rfl (lv_at hl 0 rfl) ?_
    refine nw_ifeq hx hb (tgt := 23) d_T_heightBelowType_12 (by decide) (by omega) (fun h12 => ?_) (fun h12 => ?_)
    · skip
      refine lv_aload_n hx hb d_T_heightBelowType_23 rfl (lv_at hl 1 rfl) ?_
      refine lv_iload_n hx hb d_T_heightBelowType_24 rfl (lv_at hl 2 rfl) ?_
      refine cl_x (v := some (.int (nI ((hb1 (fF (xr - 1)) (fE (xr - 1)) a).getD 0)))) hlocks hno (vx_runV (b := z 0) (C := "TypeStack") (As := [.int (nI a)]) (rest := []) ⟨hx, hb, hml, hown, hw⟩ (c_T_heightBelowOne l hl0 D z cI cZ fT fK fA fB fF fE xh xg xr xn hi a (by omega) (by omega) s.heap.size) (cwV 1 hw g_T_61 rfl rfl rfl ⟨rfl, by decide, by decide, by decide +kernel⟩ ⟨by decide, by decide⟩) ⟨PW.blind, va_recv (q := (RT, FT, 10)) (ci := 0) (q0 := 0) hK hP rfl rfl, PW.pre hP hK hD hS hA hE⟩ rfl rfl hl.1 rfl (lv_room (Nat.le_of_ble_eq_true rfl)) d_T_heightBelowType_25 ⟨by decide, by decide⟩) (fun E h25 => by unfold hbT; split <;> first | exact h25 | (exfalso; omega)) (fun h25 => ?_)
      have hq25 := hb1_le (fF (xr - 1)) (fE (xr - 1)) a
      refine nw_is (y := nI ((hbT (fF (xr - 1)) (fE (xr - 1)) fT a b).getD 0)) (by unfold hbT; split <;> first | rfl | (exfalso; omega)) ?_
      exact vx_ret (W.widen (k := 1) (n := 6) (by decide) (by decide) (W.iret hx hb hrt (fun t ht _ => ⟨by unfold hbT; split <;> first | exact h25 | (exfalso; omega), rfl, ht⟩) (fun q h => nomatch h) d_T_heightBelowType_28))
    · skip
      exact thr_ISE hx hb hl0 hown hw hE (va_S.rf) (hl.1.trans hml.symm) d_T_heightBelowType_15 d_T_heightBelowType_18 d_T_heightBelowType_19 d_T_heightBelowType_22 hno (by decide) (by decide) (by decide) (by decide) hlocks (by unfold hbT; (repeat' split) <;> first | rfl | (exfalso; omega))

set_option maxHeartbeats 4000000 in
set_option maxRecDepth 100000 in
theorem c_T_requireFrame (l : Launch) (hl0 : l.stackTraces = false) (D : va_G) (z : Nat → Nat) (cI cZ : ClassId) (fT fK fA fB fF fE : Nat → Nat) (xh xg xr xn : Nat) (hi : IT fT fK fA fB fF fE xh xg xr) (sz : Nat) : vx_Met l y_T_requireFrame w_T_requireFrame (rmX 0) (PW D [(cI, .int), (cZ, .boolean)] (wT z cI cZ fT fK fA fB fF fE xh xg xr xn) sz [.ref (z 0)]) (QX (nf xr) (none)) (XX (nf xr)) 1 6 (fun _ => False) := by
  refine vx_ofW (cc := b_T_requireFrame) (maxL := 1) (ret := none) (by decide) rfl ?_
  intro p e s m args below meth c s₁ B hml hno hv
  obtain ⟨rfl, hsz, hP, hK, hD0, hE⟩ := hv
  have hx := B.exec
  have hb := B.bytes
  have hrt := B.returns
  have hts := atoms_spec (ws := w_T_requireFrame) B.pre
  have hw : ∀ w ∈ bw, w.before ([.ref (z 0)]).toArray s = true := fun w h => hts w (List.mem_cons_of_mem _ h)
  have hown : s.vm.findClass "TypeStack" = some m.cls := findClass_of_methodNamed B.named
  have hlocks := B.notSynchronized
  subst hsz
  have hD := hD0.self (sz := s.heap.size)
  have hA : ∀ q : Nat, s.heap.size ≤ q → va_A (wT z cI cZ fT fK fA fB fF fE xh xg xr xn) s.heap.size q := fun q h => Or.inr h
  have hS : va_S (va_A (wT z cI cZ fT fK fA fB fF fE xh xg xr xn) s.heap.size) s.heap s.heap [] := va_S.rf
  have hK0 := hK.sub (tys' := []) [] rfl
  have hl := lv_entry ([.ref (z 0)]) (n := 1) (Nat.le_of_ble_eq_true rfl)
  rw [lg_entry_eq]
  generalize (lg_sl ([.ref (z 0)]) ++ List.replicate (1 - (lg_sl ([.ref (z 0)])).length) Slot.unset).toArray = ls at hl ⊢
  have hl : lv_has ls 1 [(0, .ref (z 0))] := hl
  obtain ⟨hiT, hiK, hiA, hiB, hiF, hiE, hih, hig, hir⟩ := id hi
  refine lv_aload_n hx hb d_T_requireFrame_0 rfl (lv_at hl 0 rfl) ?_
  refine va_get (D := D) (ci := 0) (C := RT) (T := FT) (N := 10) (v := .int (nI xr)) hx hb hw inT hown hK hP 0 rfl rfl 8 (by decide) (hw _ kF_T_79) (fun _ h9 => h9) rfl d_T_requireFrame_1 ?_
  refine nw_ifne hx hb (tgt := 15) d_T_requireFrame_4 (by decide) (by omega) (fun h4 => ?_) (fun h4 => ?_)
  · skip
    exact vx_ret (W.widen (k := 1) (n := 6) (by decide) (by decide) (W.vret hx hb hrt (fun t ht _ => ⟨if_neg (by omega), rfl, ht⟩) (fun q h => nomatch h) d_T_requireFrame_15))
  · skip
    exact thr_NSE hx hb hl0 hown hw hE (va_S.rf) (hl.1.trans hml.symm) d_T_requireFrame_7 d_T_requireFrame_10 d_T_requireFrame_11 d_T_requireFrame_14 hno (by decide) (by decide) (by decide) (by decide) hlocks (if_pos (by omega))

set_option maxHeartbeats 4000000 in
set_option maxRecDepth 100000 in
theorem c_T_requireRoom (l : Launch) (hl0 : l.stackTraces = false) (D : va_G) (a : Nat) (ha : a < 2 ^ 31) (sz : Nat) : vx_Met l y_T_requireRoom w_T_requireRoom (rmX 0) (PW D [] ([]) sz [.int (nI a)]) (QX (rmE a) (none)) (XX (rmE a)) 1 6 (fun _ => False) := by
  refine vx_ofW (cc := b_T_requireRoom) (maxL := 1) (ret := none) (by decide) rfl ?_
  intro p e s m args below meth c s₁ B hml hno hv
  obtain ⟨rfl, hsz, hP, hK, hD0, hE⟩ := hv
  have hx := B.exec
  have hb := B.bytes
  have hrt := B.returns
  have hts := atoms_spec (ws := w_T_requireRoom) B.pre
  have hw : ∀ w ∈ bw, w.before ([.int (nI a)]).toArray s = true := fun w h => hts w (List.mem_cons_of_mem _ h)
  have hown : s.vm.findClass "TypeStack" = some m.cls := findClass_of_methodNamed B.named
  have hlocks := B.notSynchronized
  subst hsz
  have hD := hD0.self (sz := s.heap.size)
  have hA : ∀ q : Nat, s.heap.size ≤ q → va_A ([]) s.heap.size q := fun q h => Or.inr h
  have hS : va_S (va_A ([]) s.heap.size) s.heap s.heap [] := va_S.rf
  have hK0 := hK.sub (tys' := []) [] rfl
  have hl := lv_entry ([.int (nI a)]) (n := 1) (Nat.le_of_ble_eq_true rfl)
  rw [lg_entry_eq]
  generalize (lg_sl ([.int (nI a)]) ++ List.replicate (1 - (lg_sl ([.int (nI a)])).length) Slot.unset).toArray = ls at hl ⊢
  have hl : lv_has ls 1 [(0, .int (nI a))] := hl
  refine lv_iload_n hx hb d_T_requireRoom_0 rfl (lv_at hl 0 rfl) ?_
  refine lv_sipush (v := nI 300) hx hb d_T_requireRoom_1 (by decide) ?_
  refine nw_le hx hb (tgt := 15) d_T_requireRoom_4 (by decide) (by omega) (by omega) (fun h4 => ?_) (fun h4 => ?_)
  · skip
    exact vx_ret (W.widen (k := 1) (n := 6) (by decide) (by decide) (W.vret hx hb hrt (fun t ht _ => ⟨if_neg (by omega), rfl, ht⟩) (fun q h => nomatch h) d_T_requireRoom_15))
  · skip
    exact thr_AE hx hb hl0 hown hw hE (va_S.rf) (hl.1.trans hml.symm) d_T_requireRoom_7 d_T_requireRoom_10 d_T_requireRoom_11 d_T_requireRoom_14 hno (by decide) (by decide) (by decide) (by decide) hlocks (if_pos (by omega))

set_option maxHeartbeats 4000000 in
set_option maxRecDepth 100000 in
theorem c_T_isList (l : Launch) (D : va_G) (x : Int32) (sz : Nat) : Met l y_T_isList w_T_isList (rmR 0) (PW D [] ([]) sz [.int x]) (QR (some (.int (nI (lok x).toNat)))) 0 0 (fun _ => False) := by
  refine Met.ofW (cc := b_T_isList) (maxL := 3) (ret := (some .boolean)) (by decide) rfl ?_
  intro p e s m args below meth c s₁ B hml hv
  obtain ⟨rfl, hsz, hP, hK, hD0, hE⟩ := hv
  have hx := B.exec
  have hb := B.bytes
  have hrt := B.returns
  have hts := atoms_spec (ws := w_T_isList) B.pre
  have hw : ∀ w ∈ bw, w.before ([.int x]).toArray s = true := fun w h => hts w (List.mem_cons_of_mem _ h)
  have hown : s.vm.findClass "TypeStack" = some m.cls := findClass_of_methodNamed B.named
  have hlocks := B.notSynchronized
  subst hsz
  have hD := hD0.self (sz := s.heap.size)
  have hA : ∀ q : Nat, s.heap.size ≤ q → va_A ([]) s.heap.size q := fun q h => Or.inr h
  have hS : va_S (va_A ([]) s.heap.size) s.heap s.heap [] := va_S.rf
  have hK0 := hK.sub (tys' := []) [] rfl
  have hl := lv_entry ([.int x]) (n := 3) (Nat.le_of_ble_eq_true rfl)
  rw [lg_entry_eq]
  generalize (lg_sl ([.int x]) ++ List.replicate (3 - (lg_sl ([.int x])).length) Slot.unset).toArray = ls at hl ⊢
  have hl : lv_has ls 3 [(0, .int x)] := hl
  refine lv_iload_n hx hb d_T_isList_0 rfl (lv_at hl 0 rfl) ?_
  refine lv_if_lt hx hb (tgt := 11) d_T_isList_1 (by decide) (fun h1 => ?_) (fun h1 => ?_)
  · skip
    refine lv_iconst (v := nI 0) hx hb d_T_isList_11 (by decide) ?_
    refine nw_is (y := nI (lok x).toNat) (by rw [lok_lo h1]; rfl) ?_
    exact W.zret hx hb hrt (zn _) (fun t ht _ => ⟨rfl, ht⟩) (fun q h => nomatch h) d_T_isList_12
  · skip
    refine lv_iload_n hx hb d_T_isList_4 rfl (lv_at hl 0 rfl) ?_
    refine lv_sipush (v := nI 15625) hx hb d_T_isList_5 (by decide) ?_
    refine lv_icmp_lt hx hb (tgt := 13) d_T_isList_8 (by decide) (fun h8 => ?_) (fun h8 => ?_)
    · skip
      obtain ⟨j, hj, hxj⟩ := ilt (n := 15625) (by decide) h1 h8
      refine lv_iload_n hx hb d_T_isList_13 rfl (lv_at hl 0 rfl) ?_
      refine nw_is (y := nI j) hxj ?_
      refine lv_istore_n (lv' := [(1, .int (nI j)), (0, .int x)]) hx hb d_T_isList_14 rfl hl (by decide) rfl (fun ls hl => ?_)
      refine lv_iconst (v := nI 0) hx hb d_T_isList_15 (by decide) ?_
      refine lv_istore_n (lv' := [(2, .int (nI 0)), (1, .int (nI j)), (0, .int x)]) hx hb d_T_isList_16 rfl hl (by decide) rfl (fun ls hl => ?_)
      have lo : ∀ (k : Nat) (d : Nat), k ≤ 6 → d < 2 ^ 31 → okL k d = lok x → ∀ ls : Array Slot, lv_has ls 3 [(2, .int (nI (6 - k))), (1, .int (nI d)), (0, .int x)] → W p l e (headSpec w_T_isList (rmR 0)).room s m ([.int x] : List Value).toArray below meth c s.heap [] 0 0 (MQ below (QR (some (.int (nI (lok x).toNat)))) ([.int x] : List Value).toArray s 0 0 (fun _ => False)) (F0 m 17 ls []) := by
        intro k
        induction k with
        | zero =>
          intro d hk hd hq ls hl
          refine lv_iload_n hx hb d_T_isList_17 rfl (lv_at hl 0 rfl) ?_
          refine lv_bipush (v := nI 6) hx hb d_T_isList_18 (by decide) ?_
          refine nw_ge hx hb (tgt := 45) d_T_isList_20 (by decide) (by omega) (by omega) (fun h20 => ?_) (fun h20 => ?_)
          · skip
            refine lv_iconst (v := nI 1) hx hb d_T_isList_45 (by decide) ?_
            refine nw_is (y := nI (lok x).toNat) (by rw [← hq]; rfl) ?_
            exact W.zret hx hb hrt (zn _) (fun t ht _ => ⟨rfl, ht⟩) (fun q h => nomatch h) d_T_isList_46
          · skip
            exfalso; omega
        | succ k ih =>
          intro d hk hd hq ls hl
          refine lv_iload_n hx hb d_T_isList_17 rfl (lv_at hl 0 rfl) ?_
          refine lv_bipush (v := nI 6) hx hb d_T_isList_18 (by decide) ?_
          refine nw_ge hx hb (tgt := 45) d_T_isList_20 (by decide) (by omega) (by omega) (fun h20 => ?_) (fun h20 => ?_)
          · skip
            exfalso; omega
          · skip
            refine lv_iload_n hx hb d_T_isList_23 rfl (lv_at hl 1 rfl) ?_
            refine nw_ifle hx hb (tgt := 45) d_T_isList_24 (by decide) (by omega) (fun h24 => ?_) (fun h24 => ?_)
            · skip
              refine lv_iconst (v := nI 1) hx hb d_T_isList_45 (by decide) ?_
              refine nw_is (y := nI (lok x).toNat) (by rw [← hq, h24, okL_zero]; rfl) ?_
              exact W.zret hx hb hrt (zn _) (fun t ht _ => ⟨rfl, ht⟩) (fun q h => nomatch h) d_T_isList_46
            · skip
              refine lv_iload_n hx hb d_T_isList_27 rfl (lv_at hl 1 rfl) ?_
              refine lv_iconst (v := nI 5) hx hb d_T_isList_28 (by decide) ?_
              refine nw_rem hx hb (by omega) (by omega) (by omega) d_T_isList_29 ?_
              refine nw_ifne hx hb (tgt := 35) d_T_isList_30 (by decide) (by omega) (fun h30 => ?_) (fun h30 => ?_)
              · skip
                refine lv_iload_n hx hb d_T_isList_35 rfl (lv_at hl 1 rfl) ?_
                refine lv_iconst (v := nI 5) hx hb d_T_isList_36 (by decide) ?_
                refine nw_div hx hb (by omega) (by omega) (by omega) d_T_isList_37 ?_
                refine lv_istore_n (lv' := [(1, .int (nI (d / 5))), (2, .int (nI (6 - (k + 1)))), (0, .int x)]) hx hb d_T_isList_38 rfl hl (by decide) rfl (fun ls hl => ?_)
                refine lv_iinc (k := 1) (v := nI (6 - (k + 1) + 1)) (lv' := [(2, .int (nI (6 - (k + 1) + 1))), (1, .int (nI (d / 5))), (0, .int x)]) hx hb d_T_isList_39 hl rfl (by rw [show Int32.ofInt 1 = nI 1 from rfl, nI_add]) (by decide) rfl (fun ls hl => ?_)
                refine lv_goto hx hb d_T_isList_42 (tgt := 17) (by decide) ?_
                refine ih (d / 5) (by omega) (by omega) ((okL_succ h24 h30).symm.trans hq) ls ?_
                rw [show 6 - k = 6 - (k + 1) + 1 by omega]; exact lv_sub hl [0, 1, 2] rfl
              · skip
                refine lv_iconst (v := nI 0) hx hb d_T_isList_33 (by decide) ?_
                refine nw_is (y := nI (lok x).toNat) (by rw [← hq, okL_no h24 h30]; rfl) ?_
                exact W.zret hx hb hrt (zn _) (fun t ht _ => ⟨rfl, ht⟩) (fun q h => nomatch h) d_T_isList_34
      exact lo 6 j (Nat.le_refl _) (by omega) (lok_in h1 h8 hj hxj).symm ls hl
    · skip
      refine lv_iconst (v := nI 0) hx hb d_T_isList_11 (by decide) ?_
      refine nw_is (y := nI (lok x).toNat) (by rw [lok_hi h8]; rfl) ?_
      exact W.zret hx hb hrt (zn _) (fun t ht _ => ⟨rfl, ht⟩) (fun q h => nomatch h) d_T_isList_12

set_option maxHeartbeats 4000000 in
set_option maxRecDepth 100000 in
theorem c_T_requireList (l : Launch) (hl0 : l.stackTraces = false) (D : va_G) (x : Int32) (sz : Nat) : vx_Met l y_T_requireList w_T_requireList (rmX 1) (PW D [] ([]) sz [.int x]) (QX (xl x) (none)) (XX (xl x)) 1 6 (fun _ => False) := by
  refine vx_ofW (cc := b_T_requireList) (maxL := 1) (ret := none) (by decide) rfl ?_
  intro p e s m args below meth c s₁ B hml hno hv
  obtain ⟨rfl, hsz, hP, hK, hD0, hE⟩ := hv
  have hx := B.exec
  have hb := B.bytes
  have hrt := B.returns
  have hts := atoms_spec (ws := w_T_requireList) B.pre
  have hw : ∀ w ∈ bw, w.before ([.int x]).toArray s = true := fun w h => hts w (List.mem_cons_of_mem _ h)
  have hown : s.vm.findClass "TypeStack" = some m.cls := findClass_of_methodNamed B.named
  have hlocks := B.notSynchronized
  subst hsz
  have hD := hD0.self (sz := s.heap.size)
  have hA : ∀ q : Nat, s.heap.size ≤ q → va_A ([]) s.heap.size q := fun q h => Or.inr h
  have hS : va_S (va_A ([]) s.heap.size) s.heap s.heap [] := va_S.rf
  have hK0 := hK.sub (tys' := []) [] rfl
  have hl := lv_entry ([.int x]) (n := 1) (Nat.le_of_ble_eq_true rfl)
  rw [lg_entry_eq]
  generalize (lg_sl ([.int x]) ++ List.replicate (1 - (lg_sl ([.int x])).length) Slot.unset).toArray = ls at hl ⊢
  have hl : lv_has ls 1 [(0, .int x)] := hl
  refine lv_iload_n hx hb d_T_requireList_0 rfl (lv_at hl 0 rfl) ?_
  refine cl_r (v := some (.int (nI ((lok x).toNat)))) (W.runS (As := [.int x]) (rest := []) ⟨hx, hb, hml, hown, hw⟩ (c_T_isList l D x s.heap.size) (va_cwS 1 hw g_T_107 rfl rfl rfl ⟨by decide, by decide, by decide +kernel⟩ ⟨by decide, by decide⟩) ⟨PW.blind, PW.pre va_P.nil hK0 va_D.nil hS hA hE⟩ rfl rfl hl.1 rfl (lv_room (Nat.le_of_ble_eq_true rfl)) d_T_requireList_1 ⟨by decide, by decide⟩) ?_
  have hq1 := tn_le (lok x)
  refine nw_ifne hx hb (tgt := 15) d_T_requireList_4 (by decide) (by omega) (fun h4 => ?_) (fun h4 => ?_)
  · skip
    exact vx_ret (W.widen (k := 1) (n := 6) (by decide) (by decide) (W.vret hx hb hrt (fun t ht _ => ⟨xl_ok h4, rfl, ht⟩) (fun q h => nomatch h) d_T_requireList_15))
  · skip
    exact thr_IAE hx hb hl0 hown hw hE (va_S.rf) (hl.1.trans hml.symm) d_T_requireList_7 d_T_requireList_10 d_T_requireList_11 d_T_requireList_14 hno (by decide) (by decide) (by decide) (by decide) hlocks (xl_no h4)

set_option maxHeartbeats 4000000 in
set_option maxRecDepth 100000 in
theorem c_T_frameOfLabel (l : Launch) (hl0 : l.stackTraces = false) (D : va_G) (z : Nat → Nat) (cI cZ : ClassId) (fT fK fA fB fF fE : Nat → Nat) (xh xg xr xn : Nat) (hi : IT fT fK fA fB fF fE xh xg xr) (x : Int32) (sz : Nat) : vx_Met l y_T_frameOfLabel w_T_frameOfLabel (rmX 0) (PW D [(cI, .int), (cZ, .boolean)] (wT z cI cZ fT fK fA fB fF fE xh xg xr xn) sz [.ref (z 0), .int x]) (QX (xf xr x) (some (.int (nI (xr - 1 - x.toNatClampNeg))))) (XX (xf xr x)) 1 6 (fun _ => False) := by
  refine vx_ofW (cc := b_T_frameOfLabel) (maxL := 2) (ret := (some .int)) (by decide) rfl ?_
  intro p e s m args below meth c s₁ B hml hno hv
  obtain ⟨rfl, hsz, hP, hK, hD0, hE⟩ := hv
  have hx := B.exec
  have hb := B.bytes
  have hrt := B.returns
  have hts := atoms_spec (ws := w_T_frameOfLabel) B.pre
  have hw : ∀ w ∈ bw, w.before ([.ref (z 0), .int x]).toArray s = true := fun w h => hts w (List.mem_cons_of_mem _ h)
  have hown : s.vm.findClass "TypeStack" = some m.cls := findClass_of_methodNamed B.named
  have hlocks := B.notSynchronized
  subst hsz
  have hD := hD0.self (sz := s.heap.size)
  have hA : ∀ q : Nat, s.heap.size ≤ q → va_A (wT z cI cZ fT fK fA fB fF fE xh xg xr xn) s.heap.size q := fun q h => Or.inr h
  have hS : va_S (va_A (wT z cI cZ fT fK fA fB fF fE xh xg xr xn) s.heap.size) s.heap s.heap [] := va_S.rf
  have hK0 := hK.sub (tys' := []) [] rfl
  have hl := lv_entry ([.ref (z 0), .int x]) (n := 2) (Nat.le_of_ble_eq_true rfl)
  rw [lg_entry_eq]
  generalize (lg_sl ([.ref (z 0), .int x]) ++ List.replicate (2 - (lg_sl ([.ref (z 0), .int x])).length) Slot.unset).toArray = ls at hl ⊢
  have hl : lv_has ls 2 [(0, .ref (z 0)), (1, .int x)] := hl
  obtain ⟨hiT, hiK, hiA, hiB, hiF, hiE, hih, hig, hir⟩ := id hi
  refine lv_iload_n hx hb d_T_frameOfLabel_0 rfl (lv_at hl 1 rfl) ?_
  refine lv_if_lt hx hb (tgt := 12) d_T_frameOfLabel_1 (by decide) (fun h1 => ?_) (fun h1 => ?_)
  · skip
    exact thr_NSE hx hb hl0 hown hw hE (va_S.rf) (hl.1.trans hml.symm) d_T_frameOfLabel_12 d_T_frameOfLabel_15 d_T_frameOfLabel_16 d_T_frameOfLabel_19 hno (by decide) (by decide) (by decide) (by decide) hlocks (xf_lo h1)
  · skip
    refine lv_iload_n hx hb d_T_frameOfLabel_4 rfl (lv_at hl 1 rfl) ?_
    refine lv_aload_n hx hb d_T_frameOfLabel_5 rfl (lv_at hl 0 rfl) ?_
    refine va_get (D := D) (ci := 0) (C := RT) (T := FT) (N := 10) (v := .int (nI xr)) hx hb hw inT hown hK hP 0 rfl rfl 8 (by decide) (hw _ kF_T_79) (fun _ h9 => h9) rfl d_T_frameOfLabel_6 ?_
    refine lv_icmp_lt hx hb (tgt := 20) d_T_frameOfLabel_9 (by decide) (fun h9 => ?_) (fun h9 => ?_)
    · skip
      obtain ⟨j, hj, hxj⟩ := ilt (n := xr) (by omega) h1 h9
      refine lv_aload_n hx hb d_T_frameOfLabel_20 rfl (lv_at hl 0 rfl) ?_
      refine va_get (D := D) (ci := 0) (C := RT) (T := FT) (N := 10) (v := .int (nI xr)) hx hb hw inT hown hK hP 0 rfl rfl 8 (by decide) (hw _ kF_T_79) (fun _ h9 => h9) rfl d_T_frameOfLabel_21 ?_
      refine lv_iconst (v := nI 1) hx hb d_T_frameOfLabel_24 (by decide) ?_
      refine nw_sub hx hb (by omega) d_T_frameOfLabel_25 ?_
      refine lv_iload_n hx hb d_T_frameOfLabel_26 rfl (lv_at hl 1 rfl) ?_
      refine nw_is (y := nI j) hxj ?_
      refine nw_sub hx hb (by omega) d_T_frameOfLabel_27 ?_
      refine nw_is (y := nI (xr - 1 - x.toNatClampNeg)) (by rw [hxj, nI_clamp (by omega)]) ?_
      exact vx_ret (W.widen (k := 1) (n := 6) (by decide) (by decide) (W.iret hx hb hrt (fun t ht _ => ⟨xf_ok h1 h9, rfl, ht⟩) (fun q h => nomatch h) d_T_frameOfLabel_28))
    · skip
      exact thr_NSE hx hb hl0 hown hw hE (va_S.rf) (hl.1.trans hml.symm) d_T_frameOfLabel_12 d_T_frameOfLabel_15 d_T_frameOfLabel_16 d_T_frameOfLabel_19 hno (by decide) (by decide) (by decide) (by decide) hlocks (xf_hi h9)

set_option maxHeartbeats 4000000 in
set_option maxRecDepth 100000 in
theorem c_T_commonType (l : Launch) (hl0 : l.stackTraces = false) (D : va_G) (a b : Nat) (ha : a < 5) (hb5 : b < 5) (sz : Nat) : vx_Met l y_T_commonType w_T_commonType (rmX 0) (PW D [] ([]) sz [.int (nI a), .int (nI b)]) (QX (xo UOE (cty a b)) (some (.int (nI ((cty a b).getD 0))))) (XX (xo UOE (cty a b))) 1 6 (fun _ => False) := by
  refine vx_ofW (cc := b_T_commonType) (maxL := 4) (ret := (some .int)) (by decide) rfl ?_
  intro p e s m args below meth c s₁ B hml hno hv
  obtain ⟨rfl, hsz, hP, hK, hD0, hE⟩ := hv
  have hx := B.exec
  have hb := B.bytes
  have hrt := B.returns
  have hts := atoms_spec (ws := w_T_commonType) B.pre
  have hw : ∀ w ∈ bw, w.before ([.int (nI a), .int (nI b)]).toArray s = true := fun w h => hts w (List.mem_cons_of_mem _ h)
  have hown : s.vm.findClass "TypeStack" = some m.cls := findClass_of_methodNamed B.named
  have hlocks := B.notSynchronized
  subst hsz
  have hD := hD0.self (sz := s.heap.size)
  have hA : ∀ q : Nat, s.heap.size ≤ q → va_A ([]) s.heap.size q := fun q h => Or.inr h
  have hS : va_S (va_A ([]) s.heap.size) s.heap s.heap [] := va_S.rf
  have hK0 := hK.sub (tys' := []) [] rfl
  have hl := lv_entry ([.int (nI a), .int (nI b)]) (n := 4) (Nat.le_of_ble_eq_true rfl)
  rw [lg_entry_eq]
  generalize (lg_sl ([.int (nI a), .int (nI b)]) ++ List.replicate (4 - (lg_sl ([.int (nI a), .int (nI b)])).length) Slot.unset).toArray = ls at hl ⊢
  have hl : lv_has ls 4 [(0, .int (nI a)), (1, .int (nI b))] := hl
  refine lv_iload_n hx hb d_T_commonType_0 rfl (lv_at hl 0 rfl) ?_
  refine nw_ifne hx hb (tgt := 8) d_T_commonType_1 (by decide) (by omega) (fun h1 => ?_) (fun h1 => ?_)
  · skip
    refine lv_iload_n hx hb d_T_commonType_8 rfl (lv_at hl 0 rfl) ?_
    refine lv_istore_n (lv' := [(2, .int (nI a)), (0, .int (nI a)), (1, .int (nI b))]) hx hb d_T_commonType_9 rfl hl (by decide) rfl (fun ls hl => ?_)
    refine lv_iload_n hx hb d_T_commonType_10 rfl (lv_at hl 2 rfl) ?_
    refine nw_ifeq hx hb (tgt := 19) d_T_commonType_11 (by decide) (by omega) (fun h11 => ?_) (fun h11 => ?_)
    · skip
      refine lv_iconst (v := nI 1) hx hb d_T_commonType_19 (by decide) ?_
      refine lv_goto hx hb d_T_commonType_20 (tgt := 24) (by decide) ?_
      refine lv_istore_n (lv' := [(3, .int (nI 1)), (2, .int (nI a)), (0, .int (nI a)), (1, .int (nI b))]) hx hb d_T_commonType_24 rfl hl (by decide) rfl (fun ls hl => ?_)
      refine lv_iload_n hx hb d_T_commonType_25 rfl (lv_at hl 0 rfl) ?_
      refine nw_ifeq hx hb (tgt := 34) d_T_commonType_26 (by decide) (by omega) (fun h26 => ?_) (fun h26 => ?_)
      · skip
        exfalso; omega
      · skip
        refine lv_iload_n hx hb d_T_commonType_29 rfl (lv_at hl 1 rfl) ?_
        refine lv_iconst (v := nI 4) hx hb d_T_commonType_30 (by decide) ?_
        refine nw_ne hx hb (tgt := 42) d_T_commonType_31 (by decide) (by omega) (by omega) (fun h31 => ?_) (fun h31 => ?_)
        · skip
          refine lv_iload_n hx hb d_T_commonType_42 rfl (lv_at hl 1 rfl) ?_
          refine nw_is (y := nI ((cty a b).getD 0)) (by unfold cty; (repeat' split) <;> first | rfl | (exfalso; omega)) ?_
          exact vx_ret (W.widen (k := 1) (n := 6) (by decide) (by decide) (W.iret hx hb hrt (fun t ht _ => ⟨by unfold cty; (repeat' split) <;> first | rfl | (exfalso; omega), rfl, ht⟩) (fun q h => nomatch h) d_T_commonType_43))
        · skip
          exact thr_UOE hx hb hl0 hown hw hE (va_S.rf) (hl.1.trans hml.symm) d_T_commonType_34 d_T_commonType_37 d_T_commonType_38 d_T_commonType_41 hno (by decide) (by decide) (by decide) (by decide) hlocks (by unfold cty; (repeat' split) <;> first | rfl | (exfalso; omega))
    · skip
      refine lv_iload_n hx hb d_T_commonType_14 rfl (lv_at hl 2 rfl) ?_
      refine lv_iload_n hx hb d_T_commonType_15 rfl (lv_at hl 0 rfl) ?_
      refine nw_ne hx hb (tgt := 23) d_T_commonType_16 (by decide) (by omega) (by omega) (fun h16 => ?_) (fun h16 => ?_)
      · skip
        refine lv_iconst (v := nI 0) hx hb d_T_commonType_23 (by decide) ?_
        refine lv_istore_n (lv' := [(3, .int (nI 0)), (2, .int (nI a)), (0, .int (nI a)), (1, .int (nI b))]) hx hb d_T_commonType_24 rfl hl (by decide) rfl (fun ls hl => ?_)
        refine lv_iload_n hx hb d_T_commonType_25 rfl (lv_at hl 0 rfl) ?_
        refine nw_ifeq hx hb (tgt := 34) d_T_commonType_26 (by decide) (by omega) (fun h26 => ?_) (fun h26 => ?_)
        · skip
          exact thr_UOE hx hb hl0 hown hw hE (va_S.rf) (hl.1.trans hml.symm) d_T_commonType_34 d_T_commonType_37 d_T_commonType_38 d_T_commonType_41 hno (by decide) (by decide) (by decide) (by decide) hlocks (by unfold cty; (repeat' split) <;> first | rfl | (exfalso; omega))
        · skip
          exfalso; omega
      · skip
        refine lv_iconst (v := nI 1) hx hb d_T_commonType_19 (by decide) ?_
        refine lv_goto hx hb d_T_commonType_20 (tgt := 24) (by decide) ?_
        refine lv_istore_n (lv' := [(3, .int (nI 1)), (2, .int (nI a)), (0, .int (nI a)), (1, .int (nI b))]) hx hb d_T_commonType_24 rfl hl (by decide) rfl (fun ls hl => ?_)
        refine lv_iload_n hx hb d_T_commonType_25 rfl (lv_at hl 0 rfl) ?_
        refine nw_ifeq hx hb (tgt := 34) d_T_commonType_26 (by decide) (by omega) (fun h26 => ?_) (fun h26 => ?_)
        · skip
          exfalso; omega
        · skip
          refine lv_iload_n hx hb d_T_commonType_29 rfl (lv_at hl 1 rfl) ?_
          refine lv_iconst (v := nI 4) hx hb d_T_commonType_30 (by decide) ?_
          refine nw_ne hx hb (tgt := 42) d_T_commonType_31 (by decide) (by omega) (by omega) (fun h31 => ?_) (fun h31 => ?_)
          · skip
            refine lv_iload_n hx hb d_T_commonType_42 rfl (lv_at hl 1 rfl) ?_
            refine nw_is (y := nI ((cty a b).getD 0)) (by unfold cty; (repeat' split) <;> first | rfl | (exfalso; omega)) ?_
            exact vx_ret (W.widen (k := 1) (n := 6) (by decide) (by decide) (W.iret hx hb hrt (fun t ht _ => ⟨by unfold cty; (repeat' split) <;> first | rfl | (exfalso; omega), rfl, ht⟩) (fun q h => nomatch h) d_T_commonType_43))
          · skip
            exact thr_UOE hx hb hl0 hown hw hE (va_S.rf) (hl.1.trans hml.symm) d_T_commonType_34 d_T_commonType_37 d_T_commonType_38 d_T_commonType_41 hno (by decide) (by decide) (by decide) (by decide) hlocks (by unfold cty; (repeat' split) <;> first | rfl | (exfalso; omega))
  · skip
    refine lv_iload_n hx hb d_T_commonType_4 rfl (lv_at hl 1 rfl) ?_
    refine lv_goto hx hb d_T_commonType_5 (tgt := 9) (by decide) ?_
    refine lv_istore_n (lv' := [(2, .int (nI b)), (0, .int (nI a)), (1, .int (nI b))]) hx hb d_T_commonType_9 rfl hl (by decide) rfl (fun ls hl => ?_)
    refine lv_iload_n hx hb d_T_commonType_10 rfl (lv_at hl 2 rfl) ?_
    refine nw_ifeq hx hb (tgt := 19) d_T_commonType_11 (by decide) (by omega) (fun h11 => ?_) (fun h11 => ?_)
    · skip
      refine lv_iconst (v := nI 1) hx hb d_T_commonType_19 (by decide) ?_
      refine lv_goto hx hb d_T_commonType_20 (tgt := 24) (by decide) ?_
      refine lv_istore_n (lv' := [(3, .int (nI 1)), (2, .int (nI b)), (0, .int (nI a)), (1, .int (nI b))]) hx hb d_T_commonType_24 rfl hl (by decide) rfl (fun ls hl => ?_)
      refine lv_iload_n hx hb d_T_commonType_25 rfl (lv_at hl 0 rfl) ?_
      refine nw_ifeq hx hb (tgt := 34) d_T_commonType_26 (by decide) (by omega) (fun h26 => ?_) (fun h26 => ?_)
      · skip
        exfalso; omega
      · skip
        refine lv_iload_n hx hb d_T_commonType_29 rfl (lv_at hl 1 rfl) ?_
        refine lv_iconst (v := nI 4) hx hb d_T_commonType_30 (by decide) ?_
        refine nw_ne hx hb (tgt := 42) d_T_commonType_31 (by decide) (by omega) (by omega) (fun h31 => ?_) (fun h31 => ?_)
        · skip
          refine lv_iload_n hx hb d_T_commonType_42 rfl (lv_at hl 1 rfl) ?_
          refine nw_is (y := nI ((cty a b).getD 0)) (by unfold cty; (repeat' split) <;> first | rfl | (exfalso; omega)) ?_
          exact vx_ret (W.widen (k := 1) (n := 6) (by decide) (by decide) (W.iret hx hb hrt (fun t ht _ => ⟨by unfold cty; (repeat' split) <;> first | rfl | (exfalso; omega), rfl, ht⟩) (fun q h => nomatch h) d_T_commonType_43))
        · skip
          exact thr_UOE hx hb hl0 hown hw hE (va_S.rf) (hl.1.trans hml.symm) d_T_commonType_34 d_T_commonType_37 d_T_commonType_38 d_T_commonType_41 hno (by decide) (by decide) (by decide) (by decide) hlocks (by unfold cty; (repeat' split) <;> first | rfl | (exfalso; omega))
    · skip
      refine lv_iload_n hx hb d_T_commonType_14 rfl (lv_at hl 2 rfl) ?_
      refine lv_iload_n hx hb d_T_commonType_15 rfl (lv_at hl 0 rfl) ?_
      refine nw_ne hx hb (tgt := 23) d_T_commonType_16 (by decide) (by omega) (by omega) (fun h16 => ?_) (fun h16 => ?_)
      · skip
        refine lv_iconst (v := nI 0) hx hb d_T_commonType_23 (by decide) ?_
        refine lv_istore_n (lv' := [(3, .int (nI 0)), (2, .int (nI b)), (0, .int (nI a)), (1, .int (nI b))]) hx hb d_T_commonType_24 rfl hl (by decide) rfl (fun ls hl => ?_)
        refine lv_iload_n hx hb d_T_commonType_25 rfl (lv_at hl 0 rfl) ?_
        refine nw_ifeq hx hb (tgt := 34) d_T_commonType_26 (by decide) (by omega) (fun h26 => ?_) (fun h26 => ?_)
        · skip
          exact thr_UOE hx hb hl0 hown hw hE (va_S.rf) (hl.1.trans hml.symm) d_T_commonType_34 d_T_commonType_37 d_T_commonType_38 d_T_commonType_41 hno (by decide) (by decide) (by decide) (by decide) hlocks (by unfold cty; (repeat' split) <;> first | rfl | (exfalso; omega))
        · skip
          exfalso; omega
      · skip
        refine lv_iconst (v := nI 1) hx hb d_T_commonType_19 (by decide) ?_
        refine lv_goto hx hb d_T_commonType_20 (tgt := 24) (by decide) ?_
        refine lv_istore_n (lv' := [(3, .int (nI 1)), (2, .int (nI b)), (0, .int (nI a)), (1, .int (nI b))]) hx hb d_T_commonType_24 rfl hl (by decide) rfl (fun ls hl => ?_)
        refine lv_iload_n hx hb d_T_commonType_25 rfl (lv_at hl 0 rfl) ?_
        refine nw_ifeq hx hb (tgt := 34) d_T_commonType_26 (by decide) (by omega) (fun h26 => ?_) (fun h26 => ?_)
        · skip
          exfalso; omega
        · skip
          refine lv_iload_n hx hb d_T_commonType_29 rfl (lv_at hl 1 rfl) ?_
          refine lv_iconst (v := nI 4) hx hb d_T_commonType_30 (by decide) ?_
          refine nw_ne hx hb (tgt := 42) d_T_commonType_31 (by decide) (by omega) (by omega) (fun h31 => ?_) (fun h31 => ?_)
          · skip
            refine lv_iload_n hx hb d_T_commonType_42 rfl (lv_at hl 1 rfl) ?_
            refine nw_is (y := nI ((cty a b).getD 0)) (by unfold cty; (repeat' split) <;> first | rfl | (exfalso; omega)) ?_
            exact vx_ret (W.widen (k := 1) (n := 6) (by decide) (by decide) (W.iret hx hb hrt (fun t ht _ => ⟨by unfold cty; (repeat' split) <;> first | rfl | (exfalso; omega), rfl, ht⟩) (fun q h => nomatch h) d_T_commonType_43))
          · skip
            exact thr_UOE hx hb hl0 hown hw hE (va_S.rf) (hl.1.trans hml.symm) d_T_commonType_34 d_T_commonType_37 d_T_commonType_38 d_T_commonType_41 hno (by decide) (by decide) (by decide) (by decide) hlocks (by unfold cty; (repeat' split) <;> first | rfl | (exfalso; omega))

set_option maxHeartbeats 4000000 in
set_option maxRecDepth 100000 in
theorem c_T_heightBelowList (l : Launch) (hl0 : l.stackTraces = false) (D : va_G) (z : Nat → Nat) (cI cZ : ClassId) (fT fK fA fB fF fE : Nat → Nat) (xh xg xr xn : Nat) (hi : IT fT fK fA fB fF fE xh xg xr) (a b : Nat) (hr1 : 1 ≤ xr) (ha : a ≤ 300) (hb5 : b < 15625) (sz : Nat) : vx_Met l y_T_heightBelowList w_T_heightBelowList (rmX 2) (PW D [(cI, .int), (cZ, .boolean)] (wT z cI cZ fT fK fA fB fF fE xh xg xr xn) sz [.ref (z 0), .int (nI a), .int (nI b)]) (QX (xo ISE (hbL (fF (xr - 1)) (fE (xr - 1)) fT 6 a b)) (some (.int (nI ((hbL (fF (xr - 1)) (fE (xr - 1)) fT 6 a b).getD 0))))) (XX (xo ISE (hbL (fF (xr - 1)) (fE (xr - 1)) fT 6 a b))) 1 6 (fun _ => False) := by
  refine vx_ofW (cc := b_T_heightBelowList) (maxL := 6) (ret := (some .int)) (by decide) rfl ?_
  intro p e s m args below meth c s₁ B hml hno hv
  obtain ⟨rfl, hsz, hP, hK, hD0, hE⟩ := hv
  have hx := B.exec
  have hb := B.bytes
  have hrt := B.returns
  have hts := atoms_spec (ws := w_T_heightBelowList) B.pre
  have hw : ∀ w ∈ bw, w.before ([.ref (z 0), .int (nI a), .int (nI b)]).toArray s = true := fun w h => hts w (List.mem_cons_of_mem _ h)
  have hown : s.vm.findClass "TypeStack" = some m.cls := findClass_of_methodNamed B.named
  have hlocks := B.notSynchronized
  subst hsz
  have hD := hD0.self (sz := s.heap.size)
  have hA : ∀ q : Nat, s.heap.size ≤ q → va_A (wT z cI cZ fT fK fA fB fF fE xh xg xr xn) s.heap.size q := fun q h => Or.inr h
  have hS : va_S (va_A (wT z cI cZ fT fK fA fB fF fE xh xg xr xn) s.heap.size) s.heap s.heap [] := va_S.rf
  have hK0 := hK.sub (tys' := []) [] rfl
  have hl := lv_entry ([.ref (z 0), .int (nI a), .int (nI b)]) (n := 6) (Nat.le_of_ble_eq_true rfl)
  rw [lg_entry_eq]
  generalize (lg_sl ([.ref (z 0), .int (nI a), .int (nI b)]) ++ List.replicate (6 - (lg_sl ([.ref (z 0), .int (nI a), .int (nI b)])).length) Slot.unset).toArray = ls at hl ⊢
  have hl : lv_has ls 6 [(0, .ref (z 0)), (1, .int (nI a)), (2, .int (nI b))] := hl
  obtain ⟨hiT, hiK, hiA, hiB, hiF, hiE, hih, hig, hir⟩ := id hi
  refine lv_iload_n hx hb d_T_heightBelowList_0 rfl (lv_at hl 1 rfl) ?_
  refine lv_istore_n (lv' := [(3, .int (nI a)), (0, .ref (z 0)), (1, .int (nI a)), (2, .int (nI b))]) hx hb d_T_heightBelowList_1 rfl hl (by decide) rfl (fun ls hl => ?_)
  refine lv_iload_n hx hb d_T_heightBelowList_2 rfl (lv_at hl 3 rfl) ?_
  refine lv_istore (lv' := [(4, .int (nI b)), (3, .int (nI a)), (0, .ref (z 0)), (1, .int (nI a)), (2, .int (nI b))]) hx hb d_T_heightBelowList_3 hl (by decide) rfl (fun ls hl => ?_)
  refine lv_iconst (v := nI 0) hx hb d_T_heightBelowList_5 (by decide) ?_
  refine lv_istore (lv' := [(5, .int (nI 0)), (4, .int (nI b)), (3, .int (nI a)), (0, .ref (z 0)), (1, .int (nI a)), (2, .int (nI b))]) hx hb d_T_heightBelowList_6 hl (by decide) rfl (fun ls hl => ?_)
  have lo : ∀ (k : Nat) (q d : Nat), k ≤ 6 → q ≤ 300 → d < 2 ^ 31 → hbL (fF (xr - 1)) (fE (xr - 1)) fT k q d = hbL (fF (xr - 1)) (fE (xr - 1)) fT 6 a b → ∀ ls : Array Slot, lv_has ls 6 [(5, .int (nI (6 - k))), (4, .int (nI d)), (3, .int (nI q)), (0, .ref (z 0)), (1, .int (nI a)), (2, .int (nI b))] → W p l e (headSpec w_T_heightBelowList (rmX 2)).room s m ([.ref (z 0), .int (nI a), .int (nI b)] : List Value).toArray below meth c s.heap [] 0 0 (vx_MQ below (QX (xo ISE (hbL (fF (xr - 1)) (fE (xr - 1)) fT 6 a b)) (some (.int (nI ((hbL (fF (xr - 1)) (fE (xr - 1)) fT 6 a b).getD 0))))) (XX (xo ISE (hbL (fF (xr - 1)) (fE (xr - 1)) fT 6 a b))) ([.ref (z 0), .int (nI a), .int (nI b)] : List Value).toArray s 1 6 (fun _ => False)) (F0 m 8 ls []) := by
    intro k
    induction k with
    | zero =>
      intro q d hk hq3 hd hq ls hl
      refine lv_iload hx hb d_T_heightBelowList_8 (lv_at hl 0 rfl) ?_
      refine lv_bipush (v := nI 6) hx hb d_T_heightBelowList_10 (by decide) ?_
      refine nw_ge hx hb (tgt := 42) d_T_heightBelowList_12 (by decide) (by omega) (by omega) (fun h12 => ?_) (fun h12 => ?_)
      · skip
        refine lv_iload_n hx hb d_T_heightBelowList_42 rfl (lv_at hl 2 rfl) ?_
        refine nw_is (y := nI ((hbL (fF (xr - 1)) (fE (xr - 1)) fT 6 a b).getD 0)) (by rw [← hq]; rfl) ?_
        exact vx_ret (W.widen (k := 1) (n := 6) (by decide) (by decide) (W.iret hx hb hrt (fun t ht _ => ⟨by rw [← hq]; rfl, rfl, ht⟩) (fun q h => nomatch h) d_T_heightBelowList_43))
      · skip
        exfalso; omega
    | succ k ih =>
      intro q d hk hq3 hd hq ls hl
      refine lv_iload hx hb d_T_heightBelowList_8 (lv_at hl 0 rfl) ?_
      refine lv_bipush (v := nI 6) hx hb d_T_heightBelowList_10 (by decide) ?_
      refine nw_ge hx hb (tgt := 42) d_T_heightBelowList_12 (by decide) (by omega) (by omega) (fun h12 => ?_) (fun h12 => ?_)
      · skip
        exfalso; omega
      · skip
        refine lv_iload hx hb d_T_heightBelowList_15 (lv_at hl 1 rfl) ?_
        refine nw_ifle hx hb (tgt := 42) d_T_heightBelowList_17 (by decide) (by omega) (fun h17 => ?_) (fun h17 => ?_)
        · skip
          refine lv_iload_n hx hb d_T_heightBelowList_42 rfl (lv_at hl 2 rfl) ?_
          refine nw_is (y := nI ((hbL (fF (xr - 1)) (fE (xr - 1)) fT 6 a b).getD 0)) (by rw [← hq, h17, hbL_zero]; rfl) ?_
          exact vx_ret (W.widen (k := 1) (n := 6) (by decide) (by decide) (W.iret hx hb hrt (fun t ht _ => ⟨by rw [← hq, h17, hbL_zero]; rfl, rfl, ht⟩) (fun q h => nomatch h) d_T_heightBelowList_43))
        · skip
          refine lv_aload_n hx hb d_T_heightBelowList_20 rfl (lv_at hl 3 rfl) ?_
          refine lv_iload_n hx hb d_T_heightBelowList_21 rfl (lv_at hl 2 rfl) ?_
          refine lv_iload hx hb d_T_heightBelowList_22 (lv_at hl 1 rfl) ?_
          refine lv_iconst (v := nI 5) hx hb d_T_heightBelowList_24 (by decide) ?_
          refine nw_rem hx hb (by omega) (by omega) (by omega) d_T_heightBelowList_25 ?_
          refine cl_x (v := some (.int (nI ((hbT (fF (xr - 1)) (fE (xr - 1)) fT q (d % 5)).getD 0)))) hlocks hno (vx_runV (b := z 0) (C := "TypeStack") (As := [.int (nI q), .int (nI (d % 5))]) (rest := []) ⟨hx, hb, hml, hown, hw⟩ (c_T_heightBelowType l hl0 D z cI cZ fT fK fA fB fF fE xh xg xr xn hi q (d % 5) (by omega) (by omega) (by omega) s.heap.size) (cwV 2 hw g_T_67 rfl rfl rfl ⟨rfl, by decide, by decide, by decide +kernel⟩ ⟨by decide, by decide⟩) ⟨PW.blind, va_recv (q := (RT, FT, 10)) (ci := 0) (q0 := 0) hK hP rfl rfl, PW.pre hP hK hD hS hA hE⟩ rfl rfl hl.1 rfl (lv_room (Nat.le_of_ble_eq_true rfl)) d_T_heightBelowList_26 ⟨by decide, by decide⟩) (fun E h26 => by rw [← hq]; exact hbL_fail h17 h26) (fun h26 => ?_)
          have hq26 := hbT_le (fF (xr - 1)) (fE (xr - 1)) fT q (d % 5)
          refine lv_istore_n (lv' := [(3, .int (nI ((hbT (fF (xr - 1)) (fE (xr - 1)) fT q (d % 5)).getD 0))), (5, .int (nI (6 - (k + 1)))), (4, .int (nI d)), (0, .ref (z 0)), (1, .int (nI a)), (2, .int (nI b))]) hx hb d_T_heightBelowList_29 rfl hl (by decide) rfl (fun ls hl => ?_)
          refine lv_iload hx hb d_T_heightBelowList_30 (lv_at hl 2 rfl) ?_
          refine lv_iconst (v := nI 5) hx hb d_T_heightBelowList_32 (by decide) ?_
          refine nw_div hx hb (by omega) (by omega) (by omega) d_T_heightBelowList_33 ?_
          refine lv_istore (lv' := [(4, .int (nI (d / 5))), (3, .int (nI ((hbT (fF (xr - 1)) (fE (xr - 1)) fT q (d % 5)).getD 0))), (5, .int (nI (6 - (k + 1)))), (0, .ref (z 0)), (1, .int (nI a)), (2, .int (nI b))]) hx hb d_T_heightBelowList_34 hl (by decide) rfl (fun ls hl => ?_)
          refine lv_iinc (k := 2) (v := nI (6 - (k + 1) + 1)) (lv' := [(5, .int (nI (6 - (k + 1) + 1))), (4, .int (nI (d / 5))), (3, .int (nI ((hbT (fF (xr - 1)) (fE (xr - 1)) fT q (d % 5)).getD 0))), (0, .ref (z 0)), (1, .int (nI a)), (2, .int (nI b))]) hx hb d_T_heightBelowList_36 hl rfl (by rw [show Int32.ofInt 1 = nI 1 from rfl, nI_add]) (by decide) rfl (fun ls hl => ?_)
          refine lv_goto hx hb d_T_heightBelowList_39 (tgt := 8) (by decide) ?_
          refine ih ((hbT (fF (xr - 1)) (fE (xr - 1)) fT q (d % 5)).getD 0) (d / 5) (by omega) (Nat.le_trans (hbT_le _ _ _ _ _) hq3) (by omega) ((hbL_step h17 h26).symm.trans hq) ls ?_
          rw [show 6 - k = 6 - (k + 1) + 1 by omega]; exact lv_sub hl [0, 1, 2, 3, 4, 5] rfl
  exact lo 6 a b (Nat.le_refl _) ha (by omega) rfl ls hl

set_option maxHeartbeats 4000000 in
set_option maxRecDepth 100000 in
theorem c_T_requireJustWhatIsLeft (l : Launch) (hl0 : l.stackTraces = false) (D : va_G) (z : Nat → Nat) (cI cZ : ClassId) (fT fK fA fB fF fE : Nat → Nat) (xh xg xr xn : Nat) (hi : IT fT fK fA fB fF fE xh xg xr) (hr1 : 1 ≤ xr) (sz : Nat) : vx_Met l y_T_requireJustWhatIsLeft w_T_requireJustWhatIsLeft (rmX 3) (PW D [(cI, .int), (cZ, .boolean)] (wT z cI cZ fT fK fA fB fF fE xh xg xr xn) sz [.ref (z 0)]) (QX (jw (fF (xr - 1)) (hbL (fF (xr - 1)) (fE (xr - 1)) fT 6 xh (fB (xr - 1)))) (none)) (XX (jw (fF (xr - 1)) (hbL (fF (xr - 1)) (fE (xr - 1)) fT 6 xh (fB (xr - 1))))) 1 6 (fun _ => False) := by
  refine vx_ofW (cc := b_T_requireJustWhatIsLeft) (maxL := 2) (ret := none) (by decide) rfl ?_
  intro p e s m args below meth c s₁ B hml hno hv
  obtain ⟨rfl, hsz, hP, hK, hD0, hE⟩ := hv
  have hx := B.exec
  have hb := B.bytes
  have hrt := B.returns
  have hts := atoms_spec (ws := w_T_requireJustWhatIsLeft) B.pre
  have hw : ∀ w ∈ bw, w.before ([.ref (z 0)]).toArray s = true := fun w h => hts w (List.mem_cons_of_mem _ h)
  have hown : s.vm.findClass "TypeStack" = some m.cls := findClass_of_methodNamed B.named
  have hlocks := B.notSynchronized
  subst hsz
  have hD := hD0.self (sz := s.heap.size)
  have hA : ∀ q : Nat, s.heap.size ≤ q → va_A (wT z cI cZ fT fK fA fB fF fE xh xg xr xn) s.heap.size q := fun q h => Or.inr h
  have hS : va_S (va_A (wT z cI cZ fT fK fA fB fF fE xh xg xr xn) s.heap.size) s.heap s.heap [] := va_S.rf
  have hK0 := hK.sub (tys' := []) [] rfl
  have hl := lv_entry ([.ref (z 0)]) (n := 2) (Nat.le_of_ble_eq_true rfl)
  rw [lg_entry_eq]
  generalize (lg_sl ([.ref (z 0)]) ++ List.replicate (2 - (lg_sl ([.ref (z 0)])).length) Slot.unset).toArray = ls at hl ⊢
  have hl : lv_has ls 2 [(0, .ref (z 0))] := hl
  obtain ⟨hiT, hiK, hiA, hiB, hiF, hiE, hih, hig, hir⟩ := id hi
  refine lv_aload_n hx hb d_T_requireJustWhatIsLeft_0 rfl (lv_at hl 0 rfl) ?_
  refine va_get (D := D) (ci := 0) (C := RT) (T := FT) (N := 10) (v := .int (nI xr)) hx hb hw inT hown hK hP 0 rfl rfl 8 (by decide) (hw _ kF_T_79) (fun _ h9 => h9) rfl d_T_requireJustWhatIsLeft_1 ?_
  refine lv_iconst (v := nI 1) hx hb d_T_requireJustWhatIsLeft_4 (by decide) ?_
  refine nw_sub hx hb (by omega) d_T_requireJustWhatIsLeft_5 ?_
  refine lv_istore_n (lv' := [(1, .int (nI (xr - 1))), (0, .ref (z 0))]) hx hb d_T_requireJustWhatIsLeft_6 rfl hl (by decide) rfl (fun ls hl => ?_)
  refine lv_aload_n hx hb d_T_requireJustWhatIsLeft_7 rfl (lv_at hl 1 rfl) ?_
  refine lv_aload_n hx hb d_T_requireJustWhatIsLeft_8 rfl (lv_at hl 1 rfl) ?_
  refine va_get (D := D) (ci := 0) (C := RT) (T := FT) (N := 10) (v := .int (nI xh)) hx hb hw inT hown hK hP 0 rfl rfl 1 (by decide) (hw _ kF_T_39) (fun _ h9 => h9) rfl d_T_requireJustWhatIsLeft_9 ?_
  refine lv_aload_n hx hb d_T_requireJustWhatIsLeft_12 rfl (lv_at hl 1 rfl) ?_
  refine va_get (D := D) (ci := 0) (C := RT) (T := FT) (N := 10) (v := .ref (z 4)) hx hb hw inT hown hK hP 0 rfl rfl 5 (by decide) (hw _ kF_T_19) (fun _ h9 => h9) rfl d_T_requireJustWhatIsLeft_13 ?_
  refine lv_iload_n hx hb d_T_requireJustWhatIsLeft_16 rfl (lv_at hl 0 rfl) ?_
  refine nw_iald hx hb hK hP 4 0 rfl rfl (k := xr - 1) (by omega) (by decide) d_T_requireJustWhatIsLeft_17 ?_
  have b17 := hiB (xr - 1)
  refine cl_x (v := some (.int (nI ((hbL (fF (xr - 1)) (fE (xr - 1)) fT 6 xh (fB (xr - 1))).getD 0)))) hlocks hno (vx_runV (b := z 0) (C := "TypeStack") (As := [.int (nI xh), .int (nI (fB (xr - 1)))]) (rest := []) ⟨hx, hb, hml, hown, hw⟩ (c_T_heightBelowList l hl0 D z cI cZ fT fK fA fB fF fE xh xg xr xn hi xh (fB (xr - 1)) (by omega) (by omega) (by omega) s.heap.size) (cwV 2 hw g_T_43 rfl rfl rfl ⟨rfl, by decide, by decide, by decide +kernel⟩ ⟨by decide, by decide⟩) ⟨PW.blind, va_recv (q := (RT, FT, 10)) (ci := 0) (q0 := 0) hK hP rfl rfl, PW.pre hP hK hD hS hA hE⟩ rfl rfl hl.1 rfl (lv_room (Nat.le_of_ble_eq_true rfl)) d_T_requireJustWhatIsLeft_18 ⟨by decide, by decide⟩) (fun E h18 => jw_thru h18) (fun h18 => ?_)
  have hq18 := hbL_le (fF (xr - 1)) (fE (xr - 1)) fT 6 xh (fB (xr - 1))
  refine lv_aload_n hx hb d_T_requireJustWhatIsLeft_21 rfl (lv_at hl 1 rfl) ?_
  refine va_get (D := D) (ci := 0) (C := RT) (T := FT) (N := 10) (v := .ref (z 5)) hx hb hw inT hown hK hP 0 rfl rfl 6 (by decide) (hw _ kF_T_22) (fun _ h9 => h9) rfl d_T_requireJustWhatIsLeft_22 ?_
  refine lv_iload_n hx hb d_T_requireJustWhatIsLeft_25 rfl (lv_at hl 0 rfl) ?_
  refine nw_iald hx hb hK hP 5 0 rfl rfl (k := xr - 1) (by omega) (by decide) d_T_requireJustWhatIsLeft_26 ?_
  have b26 := hiF (xr - 1)
  refine nw_le hx hb (tgt := 38) d_T_requireJustWhatIsLeft_27 (by decide) (by omega) (by omega) (fun h27 => ?_) (fun h27 => ?_)
  · skip
    exact vx_ret (W.widen (k := 1) (n := 6) (by decide) (by decide) (W.vret hx hb hrt (fun t ht _ => ⟨jw_ok h18 h27, rfl, ht⟩) (fun q h => nomatch h) d_T_requireJustWhatIsLeft_38))
  · skip
    exact thr_ISE hx hb hl0 hown hw hE (va_S.rf) (hl.1.trans hml.symm) d_T_requireJustWhatIsLeft_30 d_T_requireJustWhatIsLeft_33 d_T_requireJustWhatIsLeft_34 d_T_requireJustWhatIsLeft_37 hno (by decide) (by decide) (by decide) (by decide) hlocks (jw_no h18 h27)

set_option maxHeartbeats 4000000 in
set_option maxRecDepth 100000 in
theorem c_T_riseTo (l : Launch) (D : va_G) (z : Nat → Nat) (cI cZ : ClassId) (fT fK fA fB fF fE : Nat → Nat) (xh xg xr xn : Nat) (a : Nat) (ha : a < 2 ^ 31) (hg : xg < 2 ^ 31) (sz : Nat) : Met l y_T_riseTo w_T_riseTo (rmR 1) (PW D [(cI, .int), (cZ, .boolean)] (wT z cI cZ fT fK fA fB fF fE xh xg xr xn) sz [.ref (z 0), .int (nI a)]) (QW D [(cI, .int), (cZ, .boolean)] (wT z cI cZ fT fK fA fB fF fE xh xg xr xn) (wT z cI cZ fT fK fA fB fF fE a (max xg a) xr xn) sz (none)) 0 0 (va_A (wT z cI cZ fT fK fA fB fF fE xh xg xr xn) sz) := by
  refine Met.ofW (cc := b_T_riseTo) (maxL := 2) (ret := none) (by decide) rfl ?_
  intro p e s m args below meth c s₁ B hml hv
  obtain ⟨rfl, hsz, hP, hK, hD0, hE⟩ := hv
  have hx := B.exec
  have hb := B.bytes
  have hrt := B.returns
  have hts := atoms_spec (ws := w_T_riseTo) B.pre
  have hw : ∀ w ∈ bw, w.before ([.ref (z 0), .int (nI a)]).toArray s = true := fun w h => hts w (List.mem_cons_of_mem _ h)
  have hown : s.vm.findClass "TypeStack" = some m.cls := findClass_of_methodNamed B.named
  have hlocks := B.notSynchronized
  subst hsz
  have hD := hD0.self (sz := s.heap.size)
  have hA : ∀ q : Nat, s.heap.size ≤ q → va_A (wT z cI cZ fT fK fA fB fF fE xh xg xr xn) s.heap.size q := fun q h => Or.inr h
  have hS : va_S (va_A (wT z cI cZ fT fK fA fB fF fE xh xg xr xn) s.heap.size) s.heap s.heap [] := va_S.rf
  have hK0 := hK.sub (tys' := []) [] rfl
  skip
  have hl := lv_entry ([.ref (z 0), .int (nI a)]) (n := 2) (Nat.le_of_ble_eq_true rfl)
  rw [lg_entry_eq]
  generalize (lg_sl ([.ref (z 0), .int (nI a)]) ++ List.replicate (2 - (lg_sl ([.ref (z 0), .int (nI a)])).length) Slot.unset).toArray = ls at hl ⊢
  have hl : lv_has ls 2 [(0, .ref (z 0)), (1, .int (nI a))] := hl
  refine lv_aload_n hx hb d_T_riseTo_0 rfl (lv_at hl 0 rfl) ?_
  refine lv_iload_n hx hb d_T_riseTo_1 rfl (lv_at hl 1 rfl) ?_
  refine va_put (D := D) (ci := 0) (C := RT) (T := FT) (N := 10) (v := .int (nI a)) (ty := .int) hx hb hw inT tT tT_ok nT hown hK hP hD hS 0 rfl rfl 1 (by decide) (hw _ kF_T_39) (fun _ h9 => h9) rfl (by decide +kernel) rfl rfl (Nat.le_of_ble_eq_true rfl) d_T_riseTo_2 (fun H locs hP hD hS => ?_)
  have hP : va_P D cls2 (wT z cI cZ fT fK fA fB fF fE a xg xr xn) H := hP
  have hD : va_D (va_A (wT z cI cZ fT fK fA fB fF fE xh xg xr xn) s.heap.size) (wT z cI cZ fT fK fA fB fF fE a xg xr xn) := hD
  refine lv_aload_n hx hb d_T_riseTo_5 rfl (lv_at hl 0 rfl) ?_
  refine lv_aload_n hx hb d_T_riseTo_6 rfl (lv_at hl 0 rfl) ?_
  refine va_get (D := D) (ci := 0) (C := RT) (T := FT) (N := 10) (v := .int (nI xg)) hx hb hw inT hown hK hP 0 rfl rfl 2 (by decide) (hw _ kF_T_104) (fun _ h9 => h9) rfl d_T_riseTo_7 ?_
  refine lv_iload_n hx hb d_T_riseTo_10 rfl (lv_at hl 1 rfl) ?_
  refine va_mmax hx hb (hml.trans hl.1.symm) hown (hw _ kL_T_117) (hw _ kS_max) (hw _ kN_Math) (hw _ kW_max) (by first | decide | exact Nat.le_of_ble_eq_true rfl) (by first | decide | exact Nat.le_of_ble_eq_true rfl) (by first | decide | exact Nat.le_of_ble_eq_true rfl) (by first | decide | exact Nat.le_of_ble_eq_true rfl) d_T_riseTo_11 ?_
  refine nw_is (y := nI (max xg a)) (nmax (by omega) (by omega)) ?_
  refine va_put (D := D) (ci := 0) (C := RT) (T := FT) (N := 10) (v := .int (nI (max xg a))) (ty := .int) hx hb hw inT tT tT_ok nT hown hK hP hD hS 0 rfl rfl 2 (by decide) (hw _ kF_T_104) (fun _ h9 => h9) rfl (by decide +kernel) rfl rfl (Nat.le_of_ble_eq_true rfl) d_T_riseTo_14 (fun H locs hP hD hS => ?_)
  have hP : va_P D cls2 (wT z cI cZ fT fK fA fB fF fE a (max xg a) xr xn) H := hP
  have hD : va_D (va_A (wT z cI cZ fT fK fA fB fF fE xh xg xr xn) s.heap.size) (wT z cI cZ fT fK fA fB fF fE a (max xg a) xr xn) := hD
  have hP : va_P D cls2 (wT z cI cZ fT fK fA fB fF fE a (max xg a) xr xn) H := by exact hP
  have hD : va_D (va_A (wT z cI cZ fT fK fA fB fF fE xh xg xr xn) s.heap.size) (wT z cI cZ fT fK fA fB fF fE a (max xg a) xr xn) := by exact hD
  exact W.vret hx hb hrt (fun t ht _ => ⟨⟨rfl, by rw [ht]; exact hP, hD⟩, hS.F ht⟩) hS.2.2 d_T_riseTo_17

set_option maxHeartbeats 4000000 in
set_option maxRecDepth 100000 in
theorem c_T_die (l : Launch) (D : va_G) (z : Nat → Nat) (cI cZ : ClassId) (fT fK fA fB fF fE : Nat → Nat) (xh xg xr xn : Nat) (hr1 : 1 ≤ xr) (hr2 : xr ≤ 40) (sz : Nat) : Met l y_T_die w_T_die (rmR 0) (PW D [(cI, .int), (cZ, .boolean)] (wT z cI cZ fT fK fA fB fF fE xh xg xr xn) sz [.ref (z 0)]) (QW D [(cI, .int), (cZ, .boolean)] (wT z cI cZ fT fK fA fB fF fE xh xg xr xn) (wT z cI cZ fT fK fA fB fF (va_up fE (xr - 1) 1) (fF (xr - 1)) xg xr xn) sz (none)) 0 0 (va_A (wT z cI cZ fT fK fA fB fF fE xh xg xr xn) sz) := by
  refine Met.ofW (cc := b_T_die) (maxL := 2) (ret := none) (by decide) rfl ?_
  intro p e s m args below meth c s₁ B hml hv
  obtain ⟨rfl, hsz, hP, hK, hD0, hE⟩ := hv
  have hx := B.exec
  have hb := B.bytes
  have hrt := B.returns
  have hts := atoms_spec (ws := w_T_die) B.pre
  have hw : ∀ w ∈ bw, w.before ([.ref (z 0)]).toArray s = true := fun w h => hts w (List.mem_cons_of_mem _ h)
  have hown : s.vm.findClass "TypeStack" = some m.cls := findClass_of_methodNamed B.named
  have hlocks := B.notSynchronized
  subst hsz
  have hD := hD0.self (sz := s.heap.size)
  have hA : ∀ q : Nat, s.heap.size ≤ q → va_A (wT z cI cZ fT fK fA fB fF fE xh xg xr xn) s.heap.size q := fun q h => Or.inr h
  have hS : va_S (va_A (wT z cI cZ fT fK fA fB fF fE xh xg xr xn) s.heap.size) s.heap s.heap [] := va_S.rf
  have hK0 := hK.sub (tys' := []) [] rfl
  skip
  have hl := lv_entry ([.ref (z 0)]) (n := 2) (Nat.le_of_ble_eq_true rfl)
  rw [lg_entry_eq]
  generalize (lg_sl ([.ref (z 0)]) ++ List.replicate (2 - (lg_sl ([.ref (z 0)])).length) Slot.unset).toArray = ls at hl ⊢
  have hl : lv_has ls 2 [(0, .ref (z 0))] := hl
  refine lv_aload_n hx hb d_T_die_0 rfl (lv_at hl 0 rfl) ?_
  refine va_get (D := D) (ci := 0) (C := RT) (T := FT) (N := 10) (v := .int (nI xr)) hx hb hw inT hown hK hP 0 rfl rfl 8 (by decide) (hw _ kF_T_79) (fun _ h9 => h9) rfl d_T_die_1 ?_
  refine lv_iconst (v := nI 1) hx hb d_T_die_4 (by decide) ?_
  refine nw_sub hx hb (by omega) d_T_die_5 ?_
  refine lv_istore_n (lv' := [(1, .int (nI (xr - 1))), (0, .ref (z 0))]) hx hb d_T_die_6 rfl hl (by decide) rfl (fun ls hl => ?_)
  refine lv_aload_n hx hb d_T_die_7 rfl (lv_at hl 1 rfl) ?_
  refine lv_aload_n hx hb d_T_die_8 rfl (lv_at hl 1 rfl) ?_
  refine va_get (D := D) (ci := 0) (C := RT) (T := FT) (N := 10) (v := .ref (z 5)) hx hb hw inT hown hK hP 0 rfl rfl 6 (by decide) (hw _ kF_T_22) (fun _ h9 => h9) rfl d_T_die_9 ?_
  refine lv_iload_n hx hb d_T_die_12 rfl (lv_at hl 0 rfl) ?_
  refine nw_iald hx hb hK hP 5 0 rfl rfl (k := xr - 1) (by omega) (by decide) d_T_die_13 ?_
  refine va_put (D := D) (ci := 0) (C := RT) (T := FT) (N := 10) (v := .int (nI (fF (xr - 1)))) (ty := .int) hx hb hw inT tT tT_ok nT hown hK hP hD hS 0 rfl rfl 1 (by decide) (hw _ kF_T_39) (fun _ h9 => h9) rfl (by decide +kernel) rfl rfl (Nat.le_of_ble_eq_true rfl) d_T_die_14 (fun H locs hP hD hS => ?_)
  have hP : va_P D cls2 (wT z cI cZ fT fK fA fB fF fE (fF (xr - 1)) xg xr xn) H := hP
  have hD : va_D (va_A (wT z cI cZ fT fK fA fB fF fE xh xg xr xn) s.heap.size) (wT z cI cZ fT fK fA fB fF fE (fF (xr - 1)) xg xr xn) := hD
  refine lv_aload_n hx hb d_T_die_17 rfl (lv_at hl 1 rfl) ?_
  refine va_get (D := D) (ci := 0) (C := RT) (T := FT) (N := 10) (v := .ref (z 6)) hx hb hw inT hown hK hP 0 rfl rfl 7 (by decide) (hw _ kF_T_25) (fun _ h9 => h9) rfl d_T_die_18 ?_
  refine lv_iload_n hx hb d_T_die_21 rfl (lv_at hl 0 rfl) ?_
  refine lv_iconst (v := nI 1) hx hb d_T_die_22 (by decide) ?_
  refine nw_zast hx hb hK hP hD hS 6 1 rfl rfl (k := xr - 1) (x := 1) (by omega) (by decide) (by decide) d_T_die_23 (fun H locs hP hD hS => ?_)
  have hP : va_P D cls2 (wT z cI cZ fT fK fA fB fF (va_up fE (xr - 1) 1) (fF (xr - 1)) xg xr xn) H := hP
  have hD : va_D (va_A (wT z cI cZ fT fK fA fB fF fE xh xg xr xn) s.heap.size) (wT z cI cZ fT fK fA fB fF (va_up fE (xr - 1) 1) (fF (xr - 1)) xg xr xn) := hD
  have hP : va_P D cls2 (wT z cI cZ fT fK fA fB fF (va_up fE (xr - 1) 1) (fF (xr - 1)) xg xr xn) H := by exact hP
  have hD : va_D (va_A (wT z cI cZ fT fK fA fB fF fE xh xg xr xn) s.heap.size) (wT z cI cZ fT fK fA fB fF (va_up fE (xr - 1) 1) (fF (xr - 1)) xg xr xn) := by exact hD
  exact W.vret hx hb hrt (fun t ht _ => ⟨⟨rfl, by rw [ht]; exact hP, hD⟩, hS.F ht⟩) hS.2.2 d_T_die_24

set_option maxHeartbeats 4000000 in
set_option maxRecDepth 100000 in
theorem c_T_addFrame (l : Launch) (D : va_G) (z : Nat → Nat) (cI cZ : ClassId) (fT fK fA fB fF fE : Nat → Nat) (xh xg xr xn : Nat) (kk a b d : Nat) (hr2 : xr < 40) (sz : Nat) : Met l y_T_addFrame w_T_addFrame (rmR 0) (PW D [(cI, .int), (cZ, .boolean)] (wT z cI cZ fT fK fA fB fF fE xh xg xr xn) sz [.ref (z 0), .int (nI kk), .int (nI a), .int (nI b), .int (nI d)]) (QW D [(cI, .int), (cZ, .boolean)] (wT z cI cZ fT fK fA fB fF fE xh xg xr xn) (wT z cI cZ fT (va_up fK xr kk) (va_up fA xr a) (va_up fB xr b) (va_up fF xr d) (va_up fE xr 0) xh xg (xr + 1) xn) sz (none)) 0 0 (va_A (wT z cI cZ fT fK fA fB fF fE xh xg xr xn) sz) := by
  refine Met.ofW (cc := b_T_addFrame) (maxL := 5) (ret := none) (by decide) rfl ?_
  intro p e s m args below meth c s₁ B hml hv
  obtain ⟨rfl, hsz, hP, hK, hD0, hE⟩ := hv
  have hx := B.exec
  have hb := B.bytes
  have hrt := B.returns
  have hts := atoms_spec (ws := w_T_addFrame) B.pre
  have hw : ∀ w ∈ bw, w.before ([.ref (z 0), .int (nI kk), .int (nI a), .int (nI b), .int (nI d)]).toArray s = true := fun w h => hts w (List.mem_cons_of_mem _ h)
  have hown : s.vm.findClass "TypeStack" = some m.cls := findClass_of_methodNamed B.named
  have hlocks := B.notSynchronized
  subst hsz
  have hD := hD0.self (sz := s.heap.size)
  have hA : ∀ q : Nat, s.heap.size ≤ q → va_A (wT z cI cZ fT fK fA fB fF fE xh xg xr xn) s.heap.size q := fun q h => Or.inr h
  have hS : va_S (va_A (wT z cI cZ fT fK fA fB fF fE xh xg xr xn) s.heap.size) s.heap s.heap [] := va_S.rf
  have hK0 := hK.sub (tys' := []) [] rfl
  skip
  have hl := lv_entry ([.ref (z 0), .int (nI kk), .int (nI a), .int (nI b), .int (nI d)]) (n := 5) (Nat.le_of_ble_eq_true rfl)
  rw [lg_entry_eq]
  generalize (lg_sl ([.ref (z 0), .int (nI kk), .int (nI a), .int (nI b), .int (nI d)]) ++ List.replicate (5 - (lg_sl ([.ref (z 0), .int (nI kk), .int (nI a), .int (nI b), .int (nI d)])).length) Slot.unset).toArray = ls at hl ⊢
  have hl : lv_has ls 5 [(0, .ref (z 0)), (1, .int (nI kk)), (2, .int (nI a)), (3, .int (nI b)), (4, .int (nI d))] := hl
  refine lv_aload_n hx hb d_T_addFrame_0 rfl (lv_at hl 0 rfl) ?_
  refine va_get (D := D) (ci := 0) (C := RT) (T := FT) (N := 10) (v := .ref (z 2)) hx hb hw inT hown hK hP 0 rfl rfl 3 (by decide) (hw _ kF_T_13) (fun _ h9 => h9) rfl d_T_addFrame_1 ?_
  refine lv_aload_n hx hb d_T_addFrame_4 rfl (lv_at hl 0 rfl) ?_
  refine va_get (D := D) (ci := 0) (C := RT) (T := FT) (N := 10) (v := .int (nI xr)) hx hb hw inT hown hK hP 0 rfl rfl 8 (by decide) (hw _ kF_T_79) (fun _ h9 => h9) rfl d_T_addFrame_5 ?_
  refine lv_iload_n hx hb d_T_addFrame_8 rfl (lv_at hl 1 rfl) ?_
  refine nw_iast hx hb hK hP hD hS 2 0 rfl rfl (k := xr) (x := kk) (by omega) (by decide) d_T_addFrame_9 (fun H locs hP hD hS => ?_)
  have hP : va_P D cls2 (wT z cI cZ fT (va_up fK xr kk) fA fB fF fE xh xg xr xn) H := hP
  have hD : va_D (va_A (wT z cI cZ fT fK fA fB fF fE xh xg xr xn) s.heap.size) (wT z cI cZ fT (va_up fK xr kk) fA fB fF fE xh xg xr xn) := hD
  refine lv_aload_n hx hb d_T_addFrame_10 rfl (lv_at hl 0 rfl) ?_
  refine va_get (D := D) (ci := 0) (C := RT) (T := FT) (N := 10) (v := .ref (z 3)) hx hb hw inT hown hK hP 0 rfl rfl 4 (by decide) (hw _ kF_T_16) (fun _ h9 => h9) rfl d_T_addFrame_11 ?_
  refine lv_aload_n hx hb d_T_addFrame_14 rfl (lv_at hl 0 rfl) ?_
  refine va_get (D := D) (ci := 0) (C := RT) (T := FT) (N := 10) (v := .int (nI xr)) hx hb hw inT hown hK hP 0 rfl rfl 8 (by decide) (hw _ kF_T_79) (fun _ h9 => h9) rfl d_T_addFrame_15 ?_
  refine lv_iload_n hx hb d_T_addFrame_18 rfl (lv_at hl 2 rfl) ?_
  refine nw_iast hx hb hK hP hD hS 3 0 rfl rfl (k := xr) (x := a) (by omega) (by decide) d_T_addFrame_19 (fun H locs hP hD hS => ?_)
  have hP : va_P D cls2 (wT z cI cZ fT (va_up fK xr kk) (va_up fA xr a) fB fF fE xh xg xr xn) H := hP
  have hD : va_D (va_A (wT z cI cZ fT fK fA fB fF fE xh xg xr xn) s.heap.size) (wT z cI cZ fT (va_up fK xr kk) (va_up fA xr a) fB fF fE xh xg xr xn) := hD
  refine lv_aload_n hx hb d_T_addFrame_20 rfl (lv_at hl 0 rfl) ?_
  refine va_get (D := D) (ci := 0) (C := RT) (T := FT) (N := 10) (v := .ref (z 4)) hx hb hw inT hown hK hP 0 rfl rfl 5 (by decide) (hw _ kF_T_19) (fun _ h9 => h9) rfl d_T_addFrame_21 ?_
  refine lv_aload_n hx hb d_T_addFrame_24 rfl (lv_at hl 0 rfl) ?_
  refine va_get (D := D) (ci := 0) (C := RT) (T := FT) (N := 10) (v := .int (nI xr)) hx hb hw inT hown hK hP 0 rfl rfl 8 (by decide) (hw _ kF_T_79) (fun _ h9 => h9) rfl d_T_addFrame_25 ?_
  refine lv_iload_n hx hb d_T_addFrame_28 rfl (lv_at hl 3 rfl) ?_
  refine nw_iast hx hb hK hP hD hS 4 0 rfl rfl (k := xr) (x := b) (by omega) (by decide) d_T_addFrame_29 (fun H locs hP hD hS => ?_)
  have hP : va_P D cls2 (wT z cI cZ fT (va_up fK xr kk) (va_up fA xr a) (va_up fB xr b) fF fE xh xg xr xn) H := hP
  have hD : va_D (va_A (wT z cI cZ fT fK fA fB fF fE xh xg xr xn) s.heap.size) (wT z cI cZ fT (va_up fK xr kk) (va_up fA xr a) (va_up fB xr b) fF fE xh xg xr xn) := hD
  refine lv_aload_n hx hb d_T_addFrame_30 rfl (lv_at hl 0 rfl) ?_
  refine va_get (D := D) (ci := 0) (C := RT) (T := FT) (N := 10) (v := .ref (z 5)) hx hb hw inT hown hK hP 0 rfl rfl 6 (by decide) (hw _ kF_T_22) (fun _ h9 => h9) rfl d_T_addFrame_31 ?_
  refine lv_aload_n hx hb d_T_addFrame_34 rfl (lv_at hl 0 rfl) ?_
  refine va_get (D := D) (ci := 0) (C := RT) (T := FT) (N := 10) (v := .int (nI xr)) hx hb hw inT hown hK hP 0 rfl rfl 8 (by decide) (hw _ kF_T_79) (fun _ h9 => h9) rfl d_T_addFrame_35 ?_
  refine lv_iload hx hb d_T_addFrame_38 (lv_at hl 4 rfl) ?_
  refine nw_iast hx hb hK hP hD hS 5 0 rfl rfl (k := xr) (x := d) (by omega) (by decide) d_T_addFrame_40 (fun H locs hP hD hS => ?_)
  have hP : va_P D cls2 (wT z cI cZ fT (va_up fK xr kk) (va_up fA xr a) (va_up fB xr b) (va_up fF xr d) fE xh xg xr xn) H := hP
  have hD : va_D (va_A (wT z cI cZ fT fK fA fB fF fE xh xg xr xn) s.heap.size) (wT z cI cZ fT (va_up fK xr kk) (va_up fA xr a) (va_up fB xr b) (va_up fF xr d) fE xh xg xr xn) := hD
  refine lv_aload_n hx hb d_T_addFrame_41 rfl (lv_at hl 0 rfl) ?_
  refine va_get (D := D) (ci := 0) (C := RT) (T := FT) (N := 10) (v := .ref (z 6)) hx hb hw inT hown hK hP 0 rfl rfl 7 (by decide) (hw _ kF_T_25) (fun _ h9 => h9) rfl d_T_addFrame_42 ?_
  refine lv_aload_n hx hb d_T_addFrame_45 rfl (lv_at hl 0 rfl) ?_
  refine va_get (D := D) (ci := 0) (C := RT) (T := FT) (N := 10) (v := .int (nI xr)) hx hb hw inT hown hK hP 0 rfl rfl 8 (by decide) (hw _ kF_T_79) (fun _ h9 => h9) rfl d_T_addFrame_46 ?_
  refine lv_iconst (v := nI 0) hx hb d_T_addFrame_49 (by decide) ?_
  refine nw_zast hx hb hK hP hD hS 6 1 rfl rfl (k := xr) (x := 0) (by omega) (by decide) (by decide) d_T_addFrame_50 (fun H locs hP hD hS => ?_)
  have hP : va_P D cls2 (wT z cI cZ fT (va_up fK xr kk) (va_up fA xr a) (va_up fB xr b) (va_up fF xr d) (va_up fE xr 0) xh xg xr xn) H := hP
  have hD : va_D (va_A (wT z cI cZ fT fK fA fB fF fE xh xg xr xn) s.heap.size) (wT z cI cZ fT (va_up fK xr kk) (va_up fA xr a) (va_up fB xr b) (va_up fF xr d) (va_up fE xr 0) xh xg xr xn) := hD
  refine lv_aload_n hx hb d_T_addFrame_51 rfl (lv_at hl 0 rfl) ?_
  refine lv_dup hx hb d_T_addFrame_52 rfl ?_
  refine va_get (D := D) (ci := 0) (C := RT) (T := FT) (N := 10) (v := .int (nI xr)) hx hb hw inT hown hK hP 0 rfl rfl 8 (by decide) (hw _ kF_T_79) (fun _ h9 => h9) rfl d_T_addFrame_53 ?_
  refine lv_iconst (v := nI 1) hx hb d_T_addFrame_56 (by decide) ?_
  refine nw_add hx hb d_T_addFrame_57 ?_
  refine va_put (D := D) (ci := 0) (C := RT) (T := FT) (N := 10) (v := .int (nI (xr + 1))) (ty := .int) hx hb hw inT tT tT_ok nT hown hK hP hD hS 0 rfl rfl 8 (by decide) (hw _ kF_T_79) (fun _ h9 => h9) rfl (by decide +kernel) rfl rfl (Nat.le_of_ble_eq_true rfl) d_T_addFrame_58 (fun H locs hP hD hS => ?_)
  have hP : va_P D cls2 (wT z cI cZ fT (va_up fK xr kk) (va_up fA xr a) (va_up fB xr b) (va_up fF xr d) (va_up fE xr 0) xh xg (xr + 1) xn) H := hP
  have hD : va_D (va_A (wT z cI cZ fT fK fA fB fF fE xh xg xr xn) s.heap.size) (wT z cI cZ fT (va_up fK xr kk) (va_up fA xr a) (va_up fB xr b) (va_up fF xr d) (va_up fE xr 0) xh xg (xr + 1) xn) := hD
  have hP : va_P D cls2 (wT z cI cZ fT (va_up fK xr kk) (va_up fA xr a) (va_up fB xr b) (va_up fF xr d) (va_up fE xr 0) xh xg (xr + 1) xn) H := by exact hP
  have hD : va_D (va_A (wT z cI cZ fT fK fA fB fF fE xh xg xr xn) s.heap.size) (wT z cI cZ fT (va_up fK xr kk) (va_up fA xr a) (va_up fB xr b) (va_up fF xr d) (va_up fE xr 0) xh xg (xr + 1) xn) := by exact hD
  exact W.vret hx hb hrt (fun t ht _ => ⟨⟨rfl, by rw [ht]; exact hP, hD⟩, hS.F ht⟩) hS.2.2 d_T_addFrame_61

set_option maxHeartbeats 4000000 in
set_option maxRecDepth 100000 in
theorem c_T_startAnew (l : Launch) (D : va_G) (z : Nat → Nat) (cI cZ : ClassId) (fT fK fA fB fF fE : Nat → Nat) (xh xg xr xn : Nat) (a : Nat) (sz : Nat) : Met l y_T_startAnew w_T_startAnew (rmR 1) (PW D [(cI, .int), (cZ, .boolean)] (wT z cI cZ fT fK fA fB fF fE xh xg xr xn) sz [.ref (z 0), .int (nI a)]) (QW D [(cI, .int), (cZ, .boolean)] (wT z cI cZ fT fK fA fB fF fE xh xg xr xn) (wT z cI cZ fT (va_up fK 0 0) (va_up fA 0 0) (va_up fB 0 a) (va_up fF 0 0) (va_up fE 0 0) 0 0 (0 + 1) 0) sz (none)) 0 0 (va_A (wT z cI cZ fT fK fA fB fF fE xh xg xr xn) sz) := by
  refine Met.ofW (cc := b_T_startAnew) (maxL := 2) (ret := none) (by decide) rfl ?_
  intro p e s m args below meth c s₁ B hml hv
  obtain ⟨rfl, hsz, hP, hK, hD0, hE⟩ := hv
  have hx := B.exec
  have hb := B.bytes
  have hrt := B.returns
  have hts := atoms_spec (ws := w_T_startAnew) B.pre
  have hw : ∀ w ∈ bw, w.before ([.ref (z 0), .int (nI a)]).toArray s = true := fun w h => hts w (List.mem_cons_of_mem _ h)
  have hown : s.vm.findClass "TypeStack" = some m.cls := findClass_of_methodNamed B.named
  have hlocks := B.notSynchronized
  subst hsz
  have hD := hD0.self (sz := s.heap.size)
  have hA : ∀ q : Nat, s.heap.size ≤ q → va_A (wT z cI cZ fT fK fA fB fF fE xh xg xr xn) s.heap.size q := fun q h => Or.inr h
  have hS : va_S (va_A (wT z cI cZ fT fK fA fB fF fE xh xg xr xn) s.heap.size) s.heap s.heap [] := va_S.rf
  have hK0 := hK.sub (tys' := []) [] rfl
  skip
  have hl := lv_entry ([.ref (z 0), .int (nI a)]) (n := 2) (Nat.le_of_ble_eq_true rfl)
  rw [lg_entry_eq]
  generalize (lg_sl ([.ref (z 0), .int (nI a)]) ++ List.replicate (2 - (lg_sl ([.ref (z 0), .int (nI a)])).length) Slot.unset).toArray = ls at hl ⊢
  have hl : lv_has ls 2 [(0, .ref (z 0)), (1, .int (nI a))] := hl
  refine lv_aload_n hx hb d_T_startAnew_0 rfl (lv_at hl 0 rfl) ?_
  refine lv_iconst (v := nI 0) hx hb d_T_startAnew_1 (by decide) ?_
  refine va_put (D := D) (ci := 0) (C := RT) (T := FT) (N := 10) (v := .int (nI 0)) (ty := .int) hx hb hw inT tT tT_ok nT hown hK hP hD hS 0 rfl rfl 1 (by decide) (hw _ kF_T_39) (fun _ h9 => h9) rfl (by decide +kernel) rfl rfl (Nat.le_of_ble_eq_true rfl) d_T_startAnew_2 (fun H locs hP hD hS => ?_)
  have hP : va_P D cls2 (wT z cI cZ fT fK fA fB fF fE 0 xg xr xn) H := hP
  have hD : va_D (va_A (wT z cI cZ fT fK fA fB fF fE xh xg xr xn) s.heap.size) (wT z cI cZ fT fK fA fB fF fE 0 xg xr xn) := hD
  refine lv_aload_n hx hb d_T_startAnew_5 rfl (lv_at hl 0 rfl) ?_
  refine lv_iconst (v := nI 0) hx hb d_T_startAnew_6 (by decide) ?_
  refine va_put (D := D) (ci := 0) (C := RT) (T := FT) (N := 10) (v := .int (nI 0)) (ty := .int) hx hb hw inT tT tT_ok nT hown hK hP hD hS 0 rfl rfl 2 (by decide) (hw _ kF_T_104) (fun _ h9 => h9) rfl (by decide +kernel) rfl rfl (Nat.le_of_ble_eq_true rfl) d_T_startAnew_7 (fun H locs hP hD hS => ?_)
  have hP : va_P D cls2 (wT z cI cZ fT fK fA fB fF fE 0 0 xr xn) H := hP
  have hD : va_D (va_A (wT z cI cZ fT fK fA fB fF fE xh xg xr xn) s.heap.size) (wT z cI cZ fT fK fA fB fF fE 0 0 xr xn) := hD
  refine lv_aload_n hx hb d_T_startAnew_10 rfl (lv_at hl 0 rfl) ?_
  refine lv_iconst (v := nI 0) hx hb d_T_startAnew_11 (by decide) ?_
  refine va_put (D := D) (ci := 0) (C := RT) (T := FT) (N := 10) (v := .int (nI 0)) (ty := .int) hx hb hw inT tT tT_ok nT hown hK hP hD hS 0 rfl rfl 8 (by decide) (hw _ kF_T_79) (fun _ h9 => h9) rfl (by decide +kernel) rfl rfl (Nat.le_of_ble_eq_true rfl) d_T_startAnew_12 (fun H locs hP hD hS => ?_)
  have hP : va_P D cls2 (wT z cI cZ fT fK fA fB fF fE 0 0 0 xn) H := hP
  have hD : va_D (va_A (wT z cI cZ fT fK fA fB fF fE xh xg xr xn) s.heap.size) (wT z cI cZ fT fK fA fB fF fE 0 0 0 xn) := hD
  refine lv_aload_n hx hb d_T_startAnew_15 rfl (lv_at hl 0 rfl) ?_
  refine lv_iconst (v := nI 0) hx hb d_T_startAnew_16 (by decide) ?_
  refine va_put (D := D) (ci := 0) (C := RT) (T := FT) (N := 10) (v := .int (nI 0)) (ty := .int) hx hb hw inT tT tT_ok nT hown hK hP hD hS 0 rfl rfl 9 (by decide) (hw _ kF_T_58) (fun _ h9 => h9) rfl (by decide +kernel) rfl rfl (Nat.le_of_ble_eq_true rfl) d_T_startAnew_17 (fun H locs hP hD hS => ?_)
  have hP : va_P D cls2 (wT z cI cZ fT fK fA fB fF fE 0 0 0 0) H := hP
  have hD : va_D (va_A (wT z cI cZ fT fK fA fB fF fE xh xg xr xn) s.heap.size) (wT z cI cZ fT fK fA fB fF fE 0 0 0 0) := hD
  refine lv_aload_n hx hb d_T_startAnew_20 rfl (lv_at hl 0 rfl) ?_
  refine lv_iconst (v := nI 0) hx hb d_T_startAnew_21 (by decide) ?_
  refine lv_iconst (v := nI 0) hx hb d_T_startAnew_22 (by decide) ?_
  refine lv_iload_n hx hb d_T_startAnew_23 rfl (lv_at hl 1 rfl) ?_
  refine lv_iconst (v := nI 0) hx hb d_T_startAnew_24 (by decide) ?_
  refine cl_w (v := none) hD hS hA (W.runV (b := z 0) (C := "TypeStack") (As := [.int (nI 0), .int (nI 0), .int (nI a), .int (nI 0)]) (rest := []) ⟨hx, hb, hml, hown, hw⟩ (c_T_addFrame l D z cI cZ fT fK fA fB fF fE 0 0 0 0 0 0 a 0 (by omega) H.size) (cwV 4 hw g_T_85 rfl rfl rfl ⟨rfl, by decide, by decide, by decide +kernel⟩ ⟨by decide, by decide⟩) ⟨PW.blind, va_recv (q := (RT, FT, 10)) (ci := 0) (q0 := 0) hK hP rfl rfl, PW.pre hP hK hD hS hA hE⟩ rfl rfl hl.1 rfl (lv_room (Nat.le_of_ble_eq_true rfl)) d_T_startAnew_25 ⟨by decide, by decide⟩) (fun H locs hP hD hS => ?_)
  have hP : va_P D cls2 (wT z cI cZ fT (va_up fK 0 0) (va_up fA 0 0) (va_up fB 0 a) (va_up fF 0 0) (va_up fE 0 0) 0 0 (0 + 1) 0) H := hP
  have hD : va_D (va_A (wT z cI cZ fT fK fA fB fF fE xh xg xr xn) s.heap.size) (wT z cI cZ fT (va_up fK 0 0) (va_up fA 0 0) (va_up fB 0 a) (va_up fF 0 0) (va_up fE 0 0) 0 0 (0 + 1) 0) := hD
  have hP : va_P D cls2 (wT z cI cZ fT (va_up fK 0 0) (va_up fA 0 0) (va_up fB 0 a) (va_up fF 0 0) (va_up fE 0 0) 0 0 (0 + 1) 0) H := by exact hP
  have hD : va_D (va_A (wT z cI cZ fT fK fA fB fF fE xh xg xr xn) s.heap.size) (wT z cI cZ fT (va_up fK 0 0) (va_up fA 0 0) (va_up fB 0 a) (va_up fF 0 0) (va_up fE 0 0) 0 0 (0 + 1) 0) := by exact hD
  exact W.vret hx hb hrt (fun t ht _ => ⟨⟨rfl, by rw [ht]; exact hP, hD⟩, hS.F ht⟩) hS.2.2 d_T_startAnew_28

set_option maxHeartbeats 4000000 in
set_option maxRecDepth 100000 in
theorem c_T_putList (l : Launch) (D : va_G) (z : Nat → Nat) (cI cZ : ClassId) (fT fK fA fB fF fE : Nat → Nat) (xh xg xr xn : Nat) (a b : Nat) (hb5 : b < 15625) (hab : a + szL 6 b ≤ 300) (hg : xg ≤ 300) (sz : Nat) : Met l y_T_putList w_T_putList (rmR 2) (PW D [(cI, .int), (cZ, .boolean)] (wT z cI cZ fT fK fA fB fF fE xh xg xr xn) sz [.ref (z 0), .int (nI a), .int (nI b)]) (QW D [(cI, .int), (cZ, .boolean)] (wT z cI cZ fT fK fA fB fF fE xh xg xr xn) (wT z cI cZ (pl fT a (szL 6 b) b) fK fA fB fF fE (a + szL 6 b) (max xg (a + szL 6 b)) xr xn) sz (none)) 0 0 (va_A (wT z cI cZ fT fK fA fB fF fE xh xg xr xn) sz) := by
  refine Met.ofW (cc := b_T_putList) (maxL := 6) (ret := none) (by decide) rfl ?_
  intro p e s m args below meth c s₁ B hml hv
  obtain ⟨rfl, hsz, hP, hK, hD0, hE⟩ := hv
  have hx := B.exec
  have hb := B.bytes
  have hrt := B.returns
  have hts := atoms_spec (ws := w_T_putList) B.pre
  have hw : ∀ w ∈ bw, w.before ([.ref (z 0), .int (nI a), .int (nI b)]).toArray s = true := fun w h => hts w (List.mem_cons_of_mem _ h)
  have hown : s.vm.findClass "TypeStack" = some m.cls := findClass_of_methodNamed B.named
  have hlocks := B.notSynchronized
  subst hsz
  have hD := hD0.self (sz := s.heap.size)
  have hA : ∀ q : Nat, s.heap.size ≤ q → va_A (wT z cI cZ fT fK fA fB fF fE xh xg xr xn) s.heap.size q := fun q h => Or.inr h
  have hS : va_S (va_A (wT z cI cZ fT fK fA fB fF fE xh xg xr xn) s.heap.size) s.heap s.heap [] := va_S.rf
  have hK0 := hK.sub (tys' := []) [] rfl
  skip
  have hl := lv_entry ([.ref (z 0), .int (nI a), .int (nI b)]) (n := 6) (Nat.le_of_ble_eq_true rfl)
  rw [lg_entry_eq]
  generalize (lg_sl ([.ref (z 0), .int (nI a), .int (nI b)]) ++ List.replicate (6 - (lg_sl ([.ref (z 0), .int (nI a), .int (nI b)])).length) Slot.unset).toArray = ls at hl ⊢
  have hl : lv_has ls 6 [(0, .ref (z 0)), (1, .int (nI a)), (2, .int (nI b))] := hl
  refine lv_iload_n hx hb d_T_putList_0 rfl (lv_at hl 2 rfl) ?_
  refine cl_r (v := some (.int (nI (szL 6 b)))) (W.runS (As := [.int (nI b)]) (rest := []) ⟨hx, hb, hml, hown, hw⟩ (c_T_sizeOf l D b (by omega) s.heap.size) (va_cwS 1 hw g_T_47 rfl rfl rfl ⟨by decide, by decide, by decide +kernel⟩ ⟨by decide, by decide⟩) ⟨PW.blind, PW.pre va_P.nil hK0 va_D.nil hS hA hE⟩ rfl rfl hl.1 rfl (lv_room (Nat.le_of_ble_eq_true rfl)) d_T_putList_1 ⟨by decide, by decide⟩) ?_
  have hs1 := szL_le 6 b
  refine lv_istore_n (lv' := [(3, .int (nI (szL 6 b))), (0, .ref (z 0)), (1, .int (nI a)), (2, .int (nI b))]) hx hb d_T_putList_4 rfl hl (by decide) rfl (fun ls hl => ?_)
  refine lv_iload_n hx hb d_T_putList_5 rfl (lv_at hl 3 rfl) ?_
  refine lv_istore (lv' := [(4, .int (nI b)), (3, .int (nI (szL 6 b))), (0, .ref (z 0)), (1, .int (nI a)), (2, .int (nI b))]) hx hb d_T_putList_6 hl (by decide) rfl (fun ls hl => ?_)
  refine lv_iload_n hx hb d_T_putList_8 rfl (lv_at hl 1 rfl) ?_
  refine lv_iconst (v := nI 1) hx hb d_T_putList_9 (by decide) ?_
  refine lv_isub hx hb d_T_putList_10 ?_
  refine lv_istore (lv' := [(5, .int (nI (szL 6 b) - nI 1)), (4, .int (nI b)), (3, .int (nI (szL 6 b))), (0, .ref (z 0)), (1, .int (nI a)), (2, .int (nI b))]) hx hb d_T_putList_11 hl (by decide) rfl (fun ls hl => ?_)
  have lo : ∀ (k : Nat) (d : Nat) (f : Nat → Nat) (H : Heap) (locs : List Loc), a + k ≤ 300 → d < 2 ^ 31 → pl f a k d = pl fT a (szL 6 b) b → va_P D cls2 (wT z cI cZ f fK fA fB fF fE xh xg xr xn) H → va_D (va_A (wT z cI cZ fT fK fA fB fF fE xh xg xr xn) s.heap.size) (wT z cI cZ f fK fA fB fF fE xh xg xr xn) → va_S (va_A (wT z cI cZ fT fK fA fB fF fE xh xg xr xn) s.heap.size) s.heap H locs → ∀ ls : Array Slot, lv_has ls 6 [(5, .int (nI k - nI 1)), (4, .int (nI d)), (3, .int (nI (szL 6 b))), (0, .ref (z 0)), (1, .int (nI a)), (2, .int (nI b))] → W p l e (headSpec w_T_putList (rmR 2)).room s m ([.ref (z 0), .int (nI a), .int (nI b)] : List Value).toArray below meth c H locs 0 0 (MQ below (QW D [(cI, .int), (cZ, .boolean)] (wT z cI cZ fT fK fA fB fF fE xh xg xr xn) (wT z cI cZ (pl fT a (szL 6 b) b) fK fA fB fF fE (a + szL 6 b) (max xg (a + szL 6 b)) xr xn) s.heap.size (none)) ([.ref (z 0), .int (nI a), .int (nI b)] : List Value).toArray s 0 0 (va_A (wT z cI cZ fT fK fA fB fF fE xh xg xr xn) s.heap.size)) (F0 m 13 ls []) := by
    intro k
    induction k with
    | zero =>
      intro d f H locs hk hd hq hP hD hS ls hl
      refine lv_iload hx hb d_T_putList_13 (lv_at hl 0 rfl) ?_
      refine lv_if_lt hx hb (tgt := 43) d_T_putList_15 (by decide) (fun h15 => ?_) (fun h15 => ?_)
      · skip
        refine lv_aload_n hx hb d_T_putList_43 rfl (lv_at hl 3 rfl) ?_
        refine lv_iload_n hx hb d_T_putList_44 rfl (lv_at hl 4 rfl) ?_
        refine lv_iload_n hx hb d_T_putList_45 rfl (lv_at hl 2 rfl) ?_
        refine nw_add hx hb d_T_putList_46 ?_
        refine cl_w (v := none) hD hS hA (W.runV (b := z 0) (C := "TypeStack") (As := [.int (nI (a + (szL 6 b)))]) (rest := []) ⟨hx, hb, hml, hown, hw⟩ (c_T_riseTo l D z cI cZ f fK fA fB fF fE xh xg xr xn (a + (szL 6 b)) (by omega) (by omega) H.size) (cwV 1 hw g_T_73 rfl rfl rfl ⟨rfl, by decide, by decide, by decide +kernel⟩ ⟨by decide, by decide⟩) ⟨PW.blind, va_recv (q := (RT, FT, 10)) (ci := 0) (q0 := 0) hK hP rfl rfl, PW.pre hP hK hD hS hA hE⟩ rfl rfl hl.1 rfl (lv_room (Nat.le_of_ble_eq_true rfl)) d_T_putList_47 ⟨by decide, by decide⟩) (fun H locs hP hD hS => ?_)
        have hP : va_P D cls2 (wT z cI cZ f fK fA fB fF fE (a + (szL 6 b)) (max xg (a + (szL 6 b))) xr xn) H := hP
        have hD : va_D (va_A (wT z cI cZ fT fK fA fB fF fE xh xg xr xn) s.heap.size) (wT z cI cZ f fK fA fB fF fE (a + (szL 6 b)) (max xg (a + (szL 6 b))) xr xn) := hD
        have hP : va_P D cls2 (wT z cI cZ (pl fT a (szL 6 b) b) fK fA fB fF fE (a + szL 6 b) (max xg (a + szL 6 b)) xr xn) H := by rw [← hq]; exact hP
        have hD : va_D (va_A (wT z cI cZ fT fK fA fB fF fE xh xg xr xn) s.heap.size) (wT z cI cZ (pl fT a (szL 6 b) b) fK fA fB fF fE (a + szL 6 b) (max xg (a + szL 6 b)) xr xn) := by rw [← hq]; exact hD
        exact W.vret hx hb hrt (fun t ht _ => ⟨⟨rfl, by rw [ht]; exact hP, hD⟩, hS.F ht⟩) hS.2.2 d_T_putList_50
      · skip
        exact absurd nneg h15
    | succ k ih =>
      intro d f H locs hk hd hq hP hD hS ls hl
      refine lv_iload hx hb d_T_putList_13 (lv_at hl 0 rfl) ?_
      refine lv_if_lt hx hb (tgt := 43) d_T_putList_15 (by decide) (fun h15 => ?_) (fun h15 => ?_)
      · skip
        exact absurd h15 (npos (k := k) (by omega))
      · skip
        refine lv_aload_n hx hb d_T_putList_18 rfl (lv_at hl 3 rfl) ?_
        refine va_get (D := D) (ci := 0) (C := RT) (T := FT) (N := 10) (v := .ref (z 1)) hx hb hw inT hown hK hP 0 rfl rfl 0 (by decide) (hw _ kF_T_9) (fun _ h9 => h9) rfl d_T_putList_19 ?_
        refine lv_iload_n hx hb d_T_putList_22 rfl (lv_at hl 4 rfl) ?_
        refine lv_iload hx hb d_T_putList_23 (lv_at hl 0 rfl) ?_
        refine nw_is (y := nI k) (npred k) ?_
        refine nw_add hx hb d_T_putList_25 ?_
        refine lv_iload hx hb d_T_putList_26 (lv_at hl 1 rfl) ?_
        refine lv_iconst (v := nI 5) hx hb d_T_putList_28 (by decide) ?_
        refine nw_rem hx hb (by omega) (by omega) (by omega) d_T_putList_29 ?_
        refine nw_iast hx hb hK hP hD hS 1 0 rfl rfl (k := a + k) (x := d % 5) (by omega) (by decide) d_T_putList_30 (fun H locs hP hD hS => ?_)
        have hP : va_P D cls2 (wT z cI cZ (va_up f (a + k) (d % 5)) fK fA fB fF fE xh xg xr xn) H := hP
        have hD : va_D (va_A (wT z cI cZ fT fK fA fB fF fE xh xg xr xn) s.heap.size) (wT z cI cZ (va_up f (a + k) (d % 5)) fK fA fB fF fE xh xg xr xn) := hD
        refine lv_iload hx hb d_T_putList_31 (lv_at hl 1 rfl) ?_
        refine lv_iconst (v := nI 5) hx hb d_T_putList_33 (by decide) ?_
        refine nw_div hx hb (by omega) (by omega) (by omega) d_T_putList_34 ?_
        refine lv_istore (lv' := [(4, .int (nI (d / 5))), (5, .int (nI (k + 1) - nI 1)), (3, .int (nI (szL 6 b))), (0, .ref (z 0)), (1, .int (nI a)), (2, .int (nI b))]) hx hb d_T_putList_35 hl (by decide) rfl (fun ls hl => ?_)
        refine lv_iinc (k := 1) (v := nI k - nI 1) (lv' := [(5, .int (nI k - nI 1)), (4, .int (nI (d / 5))), (3, .int (nI (szL 6 b))), (0, .ref (z 0)), (1, .int (nI a)), (2, .int (nI b))]) hx hb d_T_putList_37 hl rfl (ndec k) (by decide) rfl (fun ls hl => ?_)
        refine lv_goto hx hb d_T_putList_40 (tgt := 13) (by decide) ?_
        refine ih (d / 5) (va_up f (a + k) (d % 5)) H locs (by omega) (by omega) hq hP hD hS ls ?_
        exact lv_sub hl [0, 1, 2, 3, 4, 5] rfl
  exact lo (szL 6 b) b fT s.heap [] hab (by omega) rfl hP hD hS ls hl

