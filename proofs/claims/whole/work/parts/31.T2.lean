set_option maxHeartbeats 4000000 in
set_option maxRecDepth 100000 in
theorem c_T_begin (l : Launch) (hl0 : l.stackTraces = false) (D : va_G) (z : Nat → Nat) (cI cZ : ClassId) (fT fK fA fB fF fE : Nat → Nat) (xh xg xr xn : Nat) (hi : IT fT fK fA fB fF fE xh xg xr) (x : Int32) (sz : Nat) : vx_Met l y_T_begin w_T_begin (rmX 4) (PW D [(cI, .int), (cZ, .boolean)] (wT z cI cZ fT fK fA fB fF fE xh xg xr xn) sz [.ref (z 0), .int x]) (QXW (xl x) D [(cI, .int), (cZ, .boolean)] (wT z cI cZ fT fK fA fB fF fE xh xg xr xn) (wT z cI cZ fT (va_up fK 0 0) (va_up fA 0 0) (va_up fB 0 x.toNatClampNeg) (va_up fF 0 0) (va_up fE 0 0) 0 0 (0 + 1) 0) sz (none)) (XX (xl x)) 1 6 (va_A (wT z cI cZ fT fK fA fB fF fE xh xg xr xn) sz) := by
  refine vx_ofW (cc := b_T_begin) (maxL := 2) (ret := none) (by decide) rfl ?_
  intro p e s m args below meth c s₁ B hml hno hv
  obtain ⟨rfl, hsz, hP, hK, hD0, hE⟩ := hv
  have hx := B.exec
  have hb := B.bytes
  have hrt := B.returns
  have hts := atoms_spec (ws := w_T_begin) B.pre
  have hw : ∀ w ∈ bw, w.before ([.ref (z 0), .int x]).toArray s = true := fun w h => hts w (List.mem_cons_of_mem _ h)
  have hown : s.vm.findClass "TypeStack" = some m.cls := findClass_of_methodNamed B.named
  have hlocks := B.notSynchronized
  subst hsz
  have hD := hD0.self (sz := s.heap.size)
  have hA : ∀ q : Nat, s.heap.size ≤ q → va_A (wT z cI cZ fT fK fA fB fF fE xh xg xr xn) s.heap.size q := fun q h => Or.inr h
  have hS : va_S (va_A (wT z cI cZ fT fK fA fB fF fE xh xg xr xn) s.heap.size) s.heap s.heap [] := va_S.rf
  have hK0 := hK.sub (tys' := []) [] rfl
  skip
  have hl := lv_entry ([.ref (z 0), .int x]) (n := 2) (Nat.le_of_ble_eq_true rfl)
  rw [lg_entry_eq]
  generalize (lg_sl ([.ref (z 0), .int x]) ++ List.replicate (2 - (lg_sl ([.ref (z 0), .int x])).length) Slot.unset).toArray = ls at hl ⊢
  have hl : lv_has ls 2 [(0, .ref (z 0)), (1, .int x)] := hl
  obtain ⟨hiT, hiK, hiA, hiB, hiF, hiE, hih, hig, hir⟩ := id hi
  refine lv_iload_n hx hb d_T_begin_0 rfl (lv_at hl 1 rfl) ?_
  refine cl_x (v := none) hlocks hno (vx_runS (As := [.int x]) (rest := []) ⟨hx, hb, hml, hown, hw⟩ (c_T_requireList l hl0 D x s.heap.size) (va_cwS 1 hw g_T_33 rfl rfl rfl ⟨by decide, by decide, by decide +kernel⟩ ⟨by decide, by decide⟩) ⟨PW.blind, PW.pre va_P.nil hK0 va_D.nil hS hA hE⟩ rfl rfl hl.1 rfl (lv_room (Nat.le_of_ble_eq_true rfl)) d_T_begin_1 ⟨by decide, by decide⟩) (fun E h1 => h1) (fun h1 => ?_)
  refine lv_aload_n hx hb d_T_begin_4 rfl (lv_at hl 0 rfl) ?_
  refine lv_iload_n hx hb d_T_begin_5 rfl (lv_at hl 1 rfl) ?_
  refine nw_is (y := nI x.toNatClampNeg) (xl_eq h1) ?_
  refine cl_w (v := none) hD hS hA (W.runV (b := z 0) (C := "TypeStack") (As := [.int (nI x.toNatClampNeg)]) (rest := []) ⟨hx, hb, hml, hown, hw⟩ (c_T_startAnew l D z cI cZ fT fK fA fB fF fE xh xg xr xn x.toNatClampNeg s.heap.size) (cwV 1 hw g_T_29 rfl rfl rfl ⟨rfl, by decide, by decide, by decide +kernel⟩ ⟨by decide, by decide⟩) ⟨PW.blind, va_recv (q := (RT, FT, 10)) (ci := 0) (q0 := 0) hK hP rfl rfl, PW.pre hP hK hD hS hA hE⟩ rfl rfl hl.1 rfl (lv_room (Nat.le_of_ble_eq_true rfl)) d_T_begin_6 ⟨by decide, by decide⟩) (fun H locs hP hD hS => ?_)
  have hP : va_P D cls2 (wT z cI cZ fT (va_up fK 0 0) (va_up fA 0 0) (va_up fB 0 x.toNatClampNeg) (va_up fF 0 0) (va_up fE 0 0) 0 0 (0 + 1) 0) H := hP
  have hD : va_D (va_A (wT z cI cZ fT fK fA fB fF fE xh xg xr xn) s.heap.size) (wT z cI cZ fT (va_up fK 0 0) (va_up fA 0 0) (va_up fB 0 x.toNatClampNeg) (va_up fF 0 0) (va_up fE 0 0) 0 0 (0 + 1) 0) := hD
  have hP : va_P D cls2 (wT z cI cZ fT (va_up fK 0 0) (va_up fA 0 0) (va_up fB 0 x.toNatClampNeg) (va_up fF 0 0) (va_up fE 0 0) 0 0 (0 + 1) 0) H := by exact hP
  have hD : va_D (va_A (wT z cI cZ fT fK fA fB fF fE xh xg xr xn) s.heap.size) (wT z cI cZ fT (va_up fK 0 0) (va_up fA 0 0) (va_up fB 0 x.toNatClampNeg) (va_up fF 0 0) (va_up fE 0 0) 0 0 (0 + 1) 0) := by exact hD
  exact vx_ret (W.widen (k := 1) (n := 6) (by decide) (by decide) (W.vret hx hb hrt (fun t ht _ => ⟨h1, ⟨rfl, by rw [ht]; exact hP, hD⟩, hS.F ht⟩) hS.2.2 d_T_begin_9))

set_option maxHeartbeats 4000000 in
set_option maxRecDepth 100000 in
theorem c_T_apply (l : Launch) (hl0 : l.stackTraces = false) (D : va_G) (z : Nat → Nat) (cI cZ : ClassId) (fT fK fA fB fF fE : Nat → Nat) (xh xg xr xn : Nat) (hi : IT fT fK fA fB fF fE xh xg xr) (x y : Int32) (sz : Nat) : vx_Met l y_T_apply w_T_apply (rmX 4) (PW D [(cI, .int), (cZ, .boolean)] (wT z cI cZ fT fK fA fB fF fE xh xg xr xn) sz [.ref (z 0), .int x, .int y]) (QXW (orE (xl x) (orE (xl y) (orE (nf xr) (orE (xo ISE (hbL (fF (xr - 1)) (fE (xr - 1)) fT 6 xh x.toNatClampNeg)) (rmE ((hbL (fF (xr - 1)) (fE (xr - 1)) fT 6 xh x.toNatClampNeg).getD 0 + szL 6 y.toNatClampNeg)))))) D [(cI, .int), (cZ, .boolean)] (wT z cI cZ fT fK fA fB fF fE xh xg xr xn) (wT z cI cZ (pl fT ((hbL (fF (xr - 1)) (fE (xr - 1)) fT 6 xh x.toNatClampNeg).getD 0) (szL 6 y.toNatClampNeg) y.toNatClampNeg) fK fA fB fF fE (((hbL (fF (xr - 1)) (fE (xr - 1)) fT 6 xh x.toNatClampNeg).getD 0) + szL 6 y.toNatClampNeg) (max xg (((hbL (fF (xr - 1)) (fE (xr - 1)) fT 6 xh x.toNatClampNeg).getD 0) + szL 6 y.toNatClampNeg)) xr (xn + 1)) sz (some (.int (nI ((hbL (fF (xr - 1)) (fE (xr - 1)) fT 6 xh x.toNatClampNeg).getD 0 + szL 6 y.toNatClampNeg))))) (XX (orE (xl x) (orE (xl y) (orE (nf xr) (orE (xo ISE (hbL (fF (xr - 1)) (fE (xr - 1)) fT 6 xh x.toNatClampNeg)) (rmE ((hbL (fF (xr - 1)) (fE (xr - 1)) fT 6 xh x.toNatClampNeg).getD 0 + szL 6 y.toNatClampNeg))))))) 1 6 (va_A (wT z cI cZ fT fK fA fB fF fE xh xg xr xn) sz) := by
  refine vx_ofW (cc := b_T_apply) (maxL := 4) (ret := (some .int)) (by decide) rfl ?_
  intro p e s m args below meth c s₁ B hml hno hv
  obtain ⟨rfl, hsz, hP, hK, hD0, hE⟩ := hv
  have hx := B.exec
  have hb := B.bytes
  have hrt := B.returns
  have hts := atoms_spec (ws := w_T_apply) B.pre
  have hw : ∀ w ∈ bw, w.before ([.ref (z 0), .int x, .int y]).toArray s = true := fun w h => hts w (List.mem_cons_of_mem _ h)
  have hown : s.vm.findClass "TypeStack" = some m.cls := findClass_of_methodNamed B.named
  have hlocks := B.notSynchronized
  subst hsz
  have hD := hD0.self (sz := s.heap.size)
  have hA : ∀ q : Nat, s.heap.size ≤ q → va_A (wT z cI cZ fT fK fA fB fF fE xh xg xr xn) s.heap.size q := fun q h => Or.inr h
  have hS : va_S (va_A (wT z cI cZ fT fK fA fB fF fE xh xg xr xn) s.heap.size) s.heap s.heap [] := va_S.rf
  have hK0 := hK.sub (tys' := []) [] rfl
  skip
  have hl := lv_entry ([.ref (z 0), .int x, .int y]) (n := 4) (Nat.le_of_ble_eq_true rfl)
  rw [lg_entry_eq]
  generalize (lg_sl ([.ref (z 0), .int x, .int y]) ++ List.replicate (4 - (lg_sl ([.ref (z 0), .int x, .int y])).length) Slot.unset).toArray = ls at hl ⊢
  have hl : lv_has ls 4 [(0, .ref (z 0)), (1, .int x), (2, .int y)] := hl
  obtain ⟨hiT, hiK, hiA, hiB, hiF, hiE, hih, hig, hir⟩ := id hi
  refine lv_iload_n hx hb d_T_apply_0 rfl (lv_at hl 1 rfl) ?_
  refine cl_x (v := none) hlocks hno (vx_runS (As := [.int x]) (rest := []) ⟨hx, hb, hml, hown, hw⟩ (c_T_requireList l hl0 D x s.heap.size) (va_cwS 1 hw g_T_33 rfl rfl rfl ⟨by decide, by decide, by decide +kernel⟩ ⟨by decide, by decide⟩) ⟨PW.blind, PW.pre va_P.nil hK0 va_D.nil hS hA hE⟩ rfl rfl hl.1 rfl (lv_room (Nat.le_of_ble_eq_true rfl)) d_T_apply_1 ⟨by decide, by decide⟩) (fun E h1 => by simp only [orE, h1]) (fun h1 => ?_)
  have hj1 := xl_lt h1
  refine lv_iload_n hx hb d_T_apply_4 rfl (lv_at hl 2 rfl) ?_
  refine cl_x (v := none) hlocks hno (vx_runS (As := [.int y]) (rest := []) ⟨hx, hb, hml, hown, hw⟩ (c_T_requireList l hl0 D y s.heap.size) (va_cwS 1 hw g_T_33 rfl rfl rfl ⟨by decide, by decide, by decide +kernel⟩ ⟨by decide, by decide⟩) ⟨PW.blind, PW.pre va_P.nil hK0 va_D.nil hS hA hE⟩ rfl rfl hl.1 rfl (lv_room (Nat.le_of_ble_eq_true rfl)) d_T_apply_5 ⟨by decide, by decide⟩) (fun E h5 => by simp only [orE, h1, h5]) (fun h5 => ?_)
  have hj5 := xl_lt h5
  refine lv_aload_n hx hb d_T_apply_8 rfl (lv_at hl 0 rfl) ?_
  refine cl_x (v := none) hlocks hno (vx_runV (b := z 0) (C := "TypeStack") (As := []) (rest := []) ⟨hx, hb, hml, hown, hw⟩ (c_T_requireFrame l hl0 D z cI cZ fT fK fA fB fF fE xh xg xr xn hi s.heap.size) (cwV 0 hw g_T_36 rfl rfl rfl ⟨rfl, by decide, by decide, by decide +kernel⟩ ⟨by decide, by decide⟩) ⟨PW.blind, va_recv (q := (RT, FT, 10)) (ci := 0) (q0 := 0) hK hP rfl rfl, PW.pre hP hK hD hS hA hE⟩ rfl rfl hl.1 rfl (lv_room (Nat.le_of_ble_eq_true rfl)) d_T_apply_9 ⟨by decide, by decide⟩) (fun E h9 => by simp only [orE, h1, h5, h9]) (fun h9 => ?_)
  have hr9 := nf_pos h9
  refine lv_aload_n hx hb d_T_apply_12 rfl (lv_at hl 0 rfl) ?_
  refine lv_aload_n hx hb d_T_apply_13 rfl (lv_at hl 0 rfl) ?_
  refine va_get (D := D) (ci := 0) (C := RT) (T := FT) (N := 10) (v := .int (nI xh)) hx hb hw inT hown hK hP 0 rfl rfl 1 (by decide) (hw _ kF_T_39) (fun _ h9 => h9) rfl d_T_apply_14 ?_
  refine lv_iload_n hx hb d_T_apply_17 rfl (lv_at hl 1 rfl) ?_
  refine nw_is (y := nI x.toNatClampNeg) (xl_eq h1) ?_
  refine cl_x (v := some (.int (nI ((hbL (fF (xr - 1)) (fE (xr - 1)) fT 6 xh x.toNatClampNeg).getD 0)))) hlocks hno (vx_runV (b := z 0) (C := "TypeStack") (As := [.int (nI xh), .int (nI x.toNatClampNeg)]) (rest := []) ⟨hx, hb, hml, hown, hw⟩ (c_T_heightBelowList l hl0 D z cI cZ fT fK fA fB fF fE xh xg xr xn hi xh x.toNatClampNeg (by omega) (by omega) (by omega) s.heap.size) (cwV 2 hw g_T_43 rfl rfl rfl ⟨rfl, by decide, by decide, by decide +kernel⟩ ⟨by decide, by decide⟩) ⟨PW.blind, va_recv (q := (RT, FT, 10)) (ci := 0) (q0 := 0) hK hP rfl rfl, PW.pre hP hK hD hS hA hE⟩ rfl rfl hl.1 rfl (lv_room (Nat.le_of_ble_eq_true rfl)) d_T_apply_18 ⟨by decide, by decide⟩) (fun E h18 => by simp only [orE, h1, h5, h9, h18]) (fun h18 => ?_)
  have hq18 := hbL_le (fF (xr - 1)) (fE (xr - 1)) fT 6 xh x.toNatClampNeg
  refine lv_istore_n (lv' := [(3, .int (nI ((hbL (fF (xr - 1)) (fE (xr - 1)) fT 6 xh x.toNatClampNeg).getD 0))), (0, .ref (z 0)), (1, .int x), (2, .int y)]) hx hb d_T_apply_21 rfl hl (by decide) rfl (fun ls hl => ?_)
  refine lv_iload_n hx hb d_T_apply_22 rfl (lv_at hl 0 rfl) ?_
  refine lv_iload_n hx hb d_T_apply_23 rfl (lv_at hl 3 rfl) ?_
  refine nw_is (y := nI y.toNatClampNeg) (xl_eq h5) ?_
  refine cl_r (v := some (.int (nI (szL 6 y.toNatClampNeg)))) (W.runS (As := [.int (nI y.toNatClampNeg)]) (rest := [.int (nI ((hbL (fF (xr - 1)) (fE (xr - 1)) fT 6 xh x.toNatClampNeg).getD 0))]) ⟨hx, hb, hml, hown, hw⟩ (c_T_sizeOf l D y.toNatClampNeg (by omega) s.heap.size) (va_cwS 1 hw g_T_47 rfl rfl rfl ⟨by decide, by decide, by decide +kernel⟩ ⟨by decide, by decide⟩) ⟨PW.blind, PW.pre va_P.nil hK0 va_D.nil hS hA hE⟩ rfl rfl hl.1 rfl (lv_room (Nat.le_of_ble_eq_true rfl)) d_T_apply_24 ⟨by decide, by decide⟩) ?_
  have hs24 := szL_le 6 y.toNatClampNeg
  refine nw_add hx hb d_T_apply_27 ?_
  refine cl_x (v := none) hlocks hno (vx_runS (As := [.int (nI (((hbL (fF (xr - 1)) (fE (xr - 1)) fT 6 xh x.toNatClampNeg).getD 0) + (szL 6 y.toNatClampNeg)))]) (rest := []) ⟨hx, hb, hml, hown, hw⟩ (c_T_requireRoom l hl0 D (((hbL (fF (xr - 1)) (fE (xr - 1)) fT 6 xh x.toNatClampNeg).getD 0) + (szL 6 y.toNatClampNeg)) (by omega) s.heap.size) (va_cwS 1 hw g_T_51 rfl rfl rfl ⟨by decide, by decide, by decide +kernel⟩ ⟨by decide, by decide⟩) ⟨PW.blind, PW.pre va_P.nil hK0 va_D.nil hS hA hE⟩ rfl rfl hl.1 rfl (lv_room (Nat.le_of_ble_eq_true rfl)) d_T_apply_28 ⟨by decide, by decide⟩) (fun E h28 => by simp only [orE, h1, h5, h9, h18, h28]) (fun h28 => ?_)
  have hr28 := rm_le h28
  refine lv_aload_n hx hb d_T_apply_31 rfl (lv_at hl 1 rfl) ?_
  refine lv_iload_n hx hb d_T_apply_32 rfl (lv_at hl 0 rfl) ?_
  refine lv_iload_n hx hb d_T_apply_33 rfl (lv_at hl 3 rfl) ?_
  refine nw_is (y := nI y.toNatClampNeg) (xl_eq h5) ?_
  refine cl_w (v := none) hD hS hA (W.runV (b := z 0) (C := "TypeStack") (As := [.int (nI ((hbL (fF (xr - 1)) (fE (xr - 1)) fT 6 xh x.toNatClampNeg).getD 0)), .int (nI y.toNatClampNeg)]) (rest := []) ⟨hx, hb, hml, hown, hw⟩ (c_T_putList l D z cI cZ fT fK fA fB fF fE xh xg xr xn ((hbL (fF (xr - 1)) (fE (xr - 1)) fT 6 xh x.toNatClampNeg).getD 0) y.toNatClampNeg (by omega) (by omega) (by omega) s.heap.size) (cwV 2 hw g_T_54 rfl rfl rfl ⟨rfl, by decide, by decide, by decide +kernel⟩ ⟨by decide, by decide⟩) ⟨PW.blind, va_recv (q := (RT, FT, 10)) (ci := 0) (q0 := 0) hK hP rfl rfl, PW.pre hP hK hD hS hA hE⟩ rfl rfl hl.1 rfl (lv_room (Nat.le_of_ble_eq_true rfl)) d_T_apply_34 ⟨by decide, by decide⟩) (fun H locs hP hD hS => ?_)
  have hP : va_P D cls2 (wT z cI cZ (pl fT ((hbL (fF (xr - 1)) (fE (xr - 1)) fT 6 xh x.toNatClampNeg).getD 0) (szL 6 y.toNatClampNeg) y.toNatClampNeg) fK fA fB fF fE (((hbL (fF (xr - 1)) (fE (xr - 1)) fT 6 xh x.toNatClampNeg).getD 0) + szL 6 y.toNatClampNeg) (max xg (((hbL (fF (xr - 1)) (fE (xr - 1)) fT 6 xh x.toNatClampNeg).getD 0) + szL 6 y.toNatClampNeg)) xr xn) H := hP
  have hD : va_D (va_A (wT z cI cZ fT fK fA fB fF fE xh xg xr xn) s.heap.size) (wT z cI cZ (pl fT ((hbL (fF (xr - 1)) (fE (xr - 1)) fT 6 xh x.toNatClampNeg).getD 0) (szL 6 y.toNatClampNeg) y.toNatClampNeg) fK fA fB fF fE (((hbL (fF (xr - 1)) (fE (xr - 1)) fT 6 xh x.toNatClampNeg).getD 0) + szL 6 y.toNatClampNeg) (max xg (((hbL (fF (xr - 1)) (fE (xr - 1)) fT 6 xh x.toNatClampNeg).getD 0) + szL 6 y.toNatClampNeg)) xr xn) := hD
  refine lv_aload_n hx hb d_T_apply_37 rfl (lv_at hl 1 rfl) ?_
  refine lv_dup hx hb d_T_apply_38 rfl ?_
  refine va_get (D := D) (ci := 0) (C := RT) (T := FT) (N := 10) (v := .int (nI xn)) hx hb hw inT hown hK hP 0 rfl rfl 9 (by decide) (hw _ kF_T_58) (fun _ h9 => h9) rfl d_T_apply_39 ?_
  refine lv_iconst (v := nI 1) hx hb d_T_apply_42 (by decide) ?_
  refine nw_add hx hb d_T_apply_43 ?_
  refine va_put (D := D) (ci := 0) (C := RT) (T := FT) (N := 10) (v := .int (nI (xn + 1))) (ty := .int) hx hb hw inT tT tT_ok nT hown hK hP hD hS 0 rfl rfl 9 (by decide) (hw _ kF_T_58) (fun _ h9 => h9) rfl (by decide +kernel) rfl rfl (Nat.le_of_ble_eq_true rfl) d_T_apply_44 (fun H locs hP hD hS => ?_)
  have hP : va_P D cls2 (wT z cI cZ (pl fT ((hbL (fF (xr - 1)) (fE (xr - 1)) fT 6 xh x.toNatClampNeg).getD 0) (szL 6 y.toNatClampNeg) y.toNatClampNeg) fK fA fB fF fE (((hbL (fF (xr - 1)) (fE (xr - 1)) fT 6 xh x.toNatClampNeg).getD 0) + szL 6 y.toNatClampNeg) (max xg (((hbL (fF (xr - 1)) (fE (xr - 1)) fT 6 xh x.toNatClampNeg).getD 0) + szL 6 y.toNatClampNeg)) xr (xn + 1)) H := hP
  have hD : va_D (va_A (wT z cI cZ fT fK fA fB fF fE xh xg xr xn) s.heap.size) (wT z cI cZ (pl fT ((hbL (fF (xr - 1)) (fE (xr - 1)) fT 6 xh x.toNatClampNeg).getD 0) (szL 6 y.toNatClampNeg) y.toNatClampNeg) fK fA fB fF fE (((hbL (fF (xr - 1)) (fE (xr - 1)) fT 6 xh x.toNatClampNeg).getD 0) + szL 6 y.toNatClampNeg) (max xg (((hbL (fF (xr - 1)) (fE (xr - 1)) fT 6 xh x.toNatClampNeg).getD 0) + szL 6 y.toNatClampNeg)) xr (xn + 1)) := hD
  refine lv_aload_n hx hb d_T_apply_47 rfl (lv_at hl 1 rfl) ?_
  refine va_get (D := D) (ci := 0) (C := RT) (T := FT) (N := 10) (v := .int (nI (((hbL (fF (xr - 1)) (fE (xr - 1)) fT 6 xh x.toNatClampNeg).getD 0) + szL 6 y.toNatClampNeg))) hx hb hw inT hown hK hP 0 rfl rfl 1 (by decide) (hw _ kF_T_39) (fun _ h9 => h9) rfl d_T_apply_48 ?_
  refine nw_is (y := nI ((hbL (fF (xr - 1)) (fE (xr - 1)) fT 6 xh x.toNatClampNeg).getD 0 + szL 6 y.toNatClampNeg)) (rfl) ?_
  have hP : va_P D cls2 (wT z cI cZ (pl fT ((hbL (fF (xr - 1)) (fE (xr - 1)) fT 6 xh x.toNatClampNeg).getD 0) (szL 6 y.toNatClampNeg) y.toNatClampNeg) fK fA fB fF fE (((hbL (fF (xr - 1)) (fE (xr - 1)) fT 6 xh x.toNatClampNeg).getD 0) + szL 6 y.toNatClampNeg) (max xg (((hbL (fF (xr - 1)) (fE (xr - 1)) fT 6 xh x.toNatClampNeg).getD 0) + szL 6 y.toNatClampNeg)) xr (xn + 1)) H := by exact hP
  have hD : va_D (va_A (wT z cI cZ fT fK fA fB fF fE xh xg xr xn) s.heap.size) (wT z cI cZ (pl fT ((hbL (fF (xr - 1)) (fE (xr - 1)) fT 6 xh x.toNatClampNeg).getD 0) (szL 6 y.toNatClampNeg) y.toNatClampNeg) fK fA fB fF fE (((hbL (fF (xr - 1)) (fE (xr - 1)) fT 6 xh x.toNatClampNeg).getD 0) + szL 6 y.toNatClampNeg) (max xg (((hbL (fF (xr - 1)) (fE (xr - 1)) fT 6 xh x.toNatClampNeg).getD 0) + szL 6 y.toNatClampNeg)) xr (xn + 1)) := by exact hD
  exact vx_ret (W.widen (k := 1) (n := 6) (by decide) (by decide) (W.iret hx hb hrt (fun t ht _ => ⟨by simp only [orE, h1, h5, h9, h18, h28], ⟨rfl, by rw [ht]; exact hP, hD⟩, hS.F ht⟩) hS.2.2 d_T_apply_51))

set_option maxHeartbeats 4000000 in
set_option maxRecDepth 100000 in
theorem c_T_drop (l : Launch) (hl0 : l.stackTraces = false) (D : va_G) (z : Nat → Nat) (cI cZ : ClassId) (fT fK fA fB fF fE : Nat → Nat) (xh xg xr xn : Nat) (hi : IT fT fK fA fB fF fE xh xg xr) (sz : Nat) : vx_Met l y_T_drop w_T_drop (rmX 4) (PW D [(cI, .int), (cZ, .boolean)] (wT z cI cZ fT fK fA fB fF fE xh xg xr xn) sz [.ref (z 0)]) (QXW (orE (nf xr) (xo ISE (hb1 (fF (xr - 1)) (fE (xr - 1)) xh))) D [(cI, .int), (cZ, .boolean)] (wT z cI cZ fT fK fA fB fF fE xh xg xr xn) (wT z cI cZ fT fK fA fB fF fE ((hb1 (fF (xr - 1)) (fE (xr - 1)) xh).getD 0) xg xr (xn + 1)) sz (some (.int (nI (tk1 (fF (xr - 1)) xh fT))))) (XX (orE (nf xr) (xo ISE (hb1 (fF (xr - 1)) (fE (xr - 1)) xh)))) 1 6 (va_A (wT z cI cZ fT fK fA fB fF fE xh xg xr xn) sz) := by
  refine vx_ofW (cc := b_T_drop) (maxL := 3) (ret := (some .int)) (by decide) rfl ?_
  intro p e s m args below meth c s₁ B hml hno hv
  obtain ⟨rfl, hsz, hP, hK, hD0, hE⟩ := hv
  have hx := B.exec
  have hb := B.bytes
  have hrt := B.returns
  have hts := atoms_spec (ws := w_T_drop) B.pre
  have hw : ∀ w ∈ bw, w.before ([.ref (z 0)]).toArray s = true := fun w h => hts w (List.mem_cons_of_mem _ h)
  have hown : s.vm.findClass "TypeStack" = some m.cls := findClass_of_methodNamed B.named
  have hlocks := B.notSynchronized
  subst hsz
  have hD := hD0.self (sz := s.heap.size)
  have hA : ∀ q : Nat, s.heap.size ≤ q → va_A (wT z cI cZ fT fK fA fB fF fE xh xg xr xn) s.heap.size q := fun q h => Or.inr h
  have hS : va_S (va_A (wT z cI cZ fT fK fA fB fF fE xh xg xr xn) s.heap.size) s.heap s.heap [] := va_S.rf
  have hK0 := hK.sub (tys' := []) [] rfl
  skip
  have hl := lv_entry ([.ref (z 0)]) (n := 3) (Nat.le_of_ble_eq_true rfl)
  rw [lg_entry_eq]
  generalize (lg_sl ([.ref (z 0)]) ++ List.replicate (3 - (lg_sl ([.ref (z 0)])).length) Slot.unset).toArray = ls at hl ⊢
  have hl : lv_has ls 3 [(0, .ref (z 0))] := hl
  obtain ⟨hiT, hiK, hiA, hiB, hiF, hiE, hih, hig, hir⟩ := id hi
  refine lv_aload_n hx hb d_T_drop_0 rfl (lv_at hl 0 rfl) ?_
  refine cl_x (v := none) hlocks hno (vx_runV (b := z 0) (C := "TypeStack") (As := []) (rest := []) ⟨hx, hb, hml, hown, hw⟩ (c_T_requireFrame l hl0 D z cI cZ fT fK fA fB fF fE xh xg xr xn hi s.heap.size) (cwV 0 hw g_T_36 rfl rfl rfl ⟨rfl, by decide, by decide, by decide +kernel⟩ ⟨by decide, by decide⟩) ⟨PW.blind, va_recv (q := (RT, FT, 10)) (ci := 0) (q0 := 0) hK hP rfl rfl, PW.pre hP hK hD hS hA hE⟩ rfl rfl hl.1 rfl (lv_room (Nat.le_of_ble_eq_true rfl)) d_T_drop_1 ⟨by decide, by decide⟩) (fun E h1 => by simp only [orE, h1]) (fun h1 => ?_)
  have hr1 := nf_pos h1
  refine lv_aload_n hx hb d_T_drop_4 rfl (lv_at hl 0 rfl) ?_
  refine lv_aload_n hx hb d_T_drop_5 rfl (lv_at hl 0 rfl) ?_
  refine va_get (D := D) (ci := 0) (C := RT) (T := FT) (N := 10) (v := .int (nI xh)) hx hb hw inT hown hK hP 0 rfl rfl 1 (by decide) (hw _ kF_T_39) (fun _ h9 => h9) rfl d_T_drop_6 ?_
  refine cl_x (v := some (.int (nI ((hb1 (fF (xr - 1)) (fE (xr - 1)) xh).getD 0)))) hlocks hno (vx_runV (b := z 0) (C := "TypeStack") (As := [.int (nI xh)]) (rest := []) ⟨hx, hb, hml, hown, hw⟩ (c_T_heightBelowOne l hl0 D z cI cZ fT fK fA fB fF fE xh xg xr xn hi xh (by omega) (by omega) s.heap.size) (cwV 1 hw g_T_61 rfl rfl rfl ⟨rfl, by decide, by decide, by decide +kernel⟩ ⟨by decide, by decide⟩) ⟨PW.blind, va_recv (q := (RT, FT, 10)) (ci := 0) (q0 := 0) hK hP rfl rfl, PW.pre hP hK hD hS hA hE⟩ rfl rfl hl.1 rfl (lv_room (Nat.le_of_ble_eq_true rfl)) d_T_drop_9 ⟨by decide, by decide⟩) (fun E h9 => by simp only [orE, h1, h9]) (fun h9 => ?_)
  have hq9 := hb1_le (fF (xr - 1)) (fE (xr - 1)) xh
  refine lv_istore_n (lv' := [(1, .int (nI ((hb1 (fF (xr - 1)) (fE (xr - 1)) xh).getD 0))), (0, .ref (z 0))]) hx hb d_T_drop_12 rfl hl (by decide) rfl (fun ls hl => ?_)
  refine lv_aload_n hx hb d_T_drop_13 rfl (lv_at hl 1 rfl) ?_
  refine lv_aload_n hx hb d_T_drop_14 rfl (lv_at hl 1 rfl) ?_
  refine va_get (D := D) (ci := 0) (C := RT) (T := FT) (N := 10) (v := .int (nI xh)) hx hb hw inT hown hK hP 0 rfl rfl 1 (by decide) (hw _ kF_T_39) (fun _ h9 => h9) rfl d_T_drop_15 ?_
  refine cl_r (v := some (.int (nI (tk1 (fF (xr - 1)) xh fT)))) (W.runV (b := z 0) (C := "TypeStack") (As := [.int (nI xh)]) (rest := []) ⟨hx, hb, hml, hown, hw⟩ (c_T_typeToTake l D z cI cZ fT fK fA fB fF fE xh xg xr xn hi xh (by omega) (by omega) s.heap.size) (cwV 1 hw g_T_64 rfl rfl rfl ⟨rfl, by decide, by decide, by decide +kernel⟩ ⟨by decide, by decide⟩) ⟨PW.blind, va_recv (q := (RT, FT, 10)) (ci := 0) (q0 := 0) hK hP rfl rfl, PW.pre hP hK hD hS hA hE⟩ rfl rfl hl.1 rfl (lv_room (Nat.le_of_ble_eq_true rfl)) d_T_drop_18 ⟨by decide, by decide⟩) ?_
  have ht18 : tk1 (fF (xr - 1)) xh fT < 5 := tk1_lt hiT
  refine lv_istore_n (lv' := [(2, .int (nI (tk1 (fF (xr - 1)) xh fT))), (1, .int (nI ((hb1 (fF (xr - 1)) (fE (xr - 1)) xh).getD 0))), (0, .ref (z 0))]) hx hb d_T_drop_21 rfl hl (by decide) rfl (fun ls hl => ?_)
  refine lv_aload_n hx hb d_T_drop_22 rfl (lv_at hl 2 rfl) ?_
  refine lv_iload_n hx hb d_T_drop_23 rfl (lv_at hl 1 rfl) ?_
  refine va_put (D := D) (ci := 0) (C := RT) (T := FT) (N := 10) (v := .int (nI ((hb1 (fF (xr - 1)) (fE (xr - 1)) xh).getD 0))) (ty := .int) hx hb hw inT tT tT_ok nT hown hK hP hD hS 0 rfl rfl 1 (by decide) (hw _ kF_T_39) (fun _ h9 => h9) rfl (by decide +kernel) rfl rfl (Nat.le_of_ble_eq_true rfl) d_T_drop_24 (fun H locs hP hD hS => ?_)
  have hP : va_P D cls2 (wT z cI cZ fT fK fA fB fF fE ((hb1 (fF (xr - 1)) (fE (xr - 1)) xh).getD 0) xg xr xn) H := hP
  have hD : va_D (va_A (wT z cI cZ fT fK fA fB fF fE xh xg xr xn) s.heap.size) (wT z cI cZ fT fK fA fB fF fE ((hb1 (fF (xr - 1)) (fE (xr - 1)) xh).getD 0) xg xr xn) := hD
  refine lv_aload_n hx hb d_T_drop_27 rfl (lv_at hl 2 rfl) ?_
  refine lv_dup hx hb d_T_drop_28 rfl ?_
  refine va_get (D := D) (ci := 0) (C := RT) (T := FT) (N := 10) (v := .int (nI xn)) hx hb hw inT hown hK hP 0 rfl rfl 9 (by decide) (hw _ kF_T_58) (fun _ h9 => h9) rfl d_T_drop_29 ?_
  refine lv_iconst (v := nI 1) hx hb d_T_drop_32 (by decide) ?_
  refine nw_add hx hb d_T_drop_33 ?_
  refine va_put (D := D) (ci := 0) (C := RT) (T := FT) (N := 10) (v := .int (nI (xn + 1))) (ty := .int) hx hb hw inT tT tT_ok nT hown hK hP hD hS 0 rfl rfl 9 (by decide) (hw _ kF_T_58) (fun _ h9 => h9) rfl (by decide +kernel) rfl rfl (Nat.le_of_ble_eq_true rfl) d_T_drop_34 (fun H locs hP hD hS => ?_)
  have hP : va_P D cls2 (wT z cI cZ fT fK fA fB fF fE ((hb1 (fF (xr - 1)) (fE (xr - 1)) xh).getD 0) xg xr (xn + 1)) H := hP
  have hD : va_D (va_A (wT z cI cZ fT fK fA fB fF fE xh xg xr xn) s.heap.size) (wT z cI cZ fT fK fA fB fF fE ((hb1 (fF (xr - 1)) (fE (xr - 1)) xh).getD 0) xg xr (xn + 1)) := hD
  refine lv_iload_n hx hb d_T_drop_37 rfl (lv_at hl 0 rfl) ?_
  have hP : va_P D cls2 (wT z cI cZ fT fK fA fB fF fE ((hb1 (fF (xr - 1)) (fE (xr - 1)) xh).getD 0) xg xr (xn + 1)) H := by exact hP
  have hD : va_D (va_A (wT z cI cZ fT fK fA fB fF fE xh xg xr xn) s.heap.size) (wT z cI cZ fT fK fA fB fF fE ((hb1 (fF (xr - 1)) (fE (xr - 1)) xh).getD 0) xg xr (xn + 1)) := by exact hD
  exact vx_ret (W.widen (k := 1) (n := 6) (by decide) (by decide) (W.iret hx hb hrt (fun t ht _ => ⟨by simp only [orE, h1, h9], ⟨rfl, by rw [ht]; exact hP, hD⟩, hS.F ht⟩) hS.2.2 d_T_drop_38))

set_option maxHeartbeats 4000000 in
set_option maxRecDepth 100000 in
theorem c_T_select (l : Launch) (hl0 : l.stackTraces = false) (D : va_G) (z : Nat → Nat) (cI cZ : ClassId) (fT fK fA fB fF fE : Nat → Nat) (xh xg xr xn : Nat) (hi : IT fT fK fA fB fF fE xh xg xr) (sz : Nat) : vx_Met l y_T_select w_T_select (rmX 4) (PW D [(cI, .int), (cZ, .boolean)] (wT z cI cZ fT fK fA fB fF fE xh xg xr xn) sz [.ref (z 0)]) (QXW (orE (nf xr) (orE (xo ISE (hbT (fF (xr - 1)) (fE (xr - 1)) fT xh 1)) (orE (xo ISE (hb1 (fF (xr - 1)) (fE (xr - 1)) ((hbT (fF (xr - 1)) (fE (xr - 1)) fT xh 1).getD 0))) (orE (xo ISE (hb1 (fF (xr - 1)) (fE (xr - 1)) ((hb1 (fF (xr - 1)) (fE (xr - 1)) ((hbT (fF (xr - 1)) (fE (xr - 1)) fT xh 1).getD 0)).getD 0))) (orE (xo UOE (cty (tk1 (fF (xr - 1)) ((hbT (fF (xr - 1)) (fE (xr - 1)) fT xh 1).getD 0) fT) (tk1 (fF (xr - 1)) ((hb1 (fF (xr - 1)) (fE (xr - 1)) ((hbT (fF (xr - 1)) (fE (xr - 1)) fT xh 1).getD 0)).getD 0) fT))) (rmE ((hb1 (fF (xr - 1)) (fE (xr - 1)) ((hb1 (fF (xr - 1)) (fE (xr - 1)) ((hbT (fF (xr - 1)) (fE (xr - 1)) fT xh 1).getD 0)).getD 0)).getD 0 + 1))))))) D [(cI, .int), (cZ, .boolean)] (wT z cI cZ fT fK fA fB fF fE xh xg xr xn) (wT z cI cZ (va_up fT ((hb1 (fF (xr - 1)) (fE (xr - 1)) ((hb1 (fF (xr - 1)) (fE (xr - 1)) ((hbT (fF (xr - 1)) (fE (xr - 1)) fT xh 1).getD 0)).getD 0)).getD 0) ((cty (tk1 (fF (xr - 1)) ((hbT (fF (xr - 1)) (fE (xr - 1)) fT xh 1).getD 0) fT) (tk1 (fF (xr - 1)) ((hb1 (fF (xr - 1)) (fE (xr - 1)) ((hbT (fF (xr - 1)) (fE (xr - 1)) fT xh 1).getD 0)).getD 0) fT)).getD 0)) fK fA fB fF fE ((hb1 (fF (xr - 1)) (fE (xr - 1)) ((hb1 (fF (xr - 1)) (fE (xr - 1)) ((hbT (fF (xr - 1)) (fE (xr - 1)) fT xh 1).getD 0)).getD 0)).getD 0 + 1) (max xg ((hb1 (fF (xr - 1)) (fE (xr - 1)) ((hb1 (fF (xr - 1)) (fE (xr - 1)) ((hbT (fF (xr - 1)) (fE (xr - 1)) fT xh 1).getD 0)).getD 0)).getD 0 + 1)) xr (xn + 1)) sz (some (.int (nI ((cty (tk1 (fF (xr - 1)) ((hbT (fF (xr - 1)) (fE (xr - 1)) fT xh 1).getD 0) fT) (tk1 (fF (xr - 1)) ((hb1 (fF (xr - 1)) (fE (xr - 1)) ((hbT (fF (xr - 1)) (fE (xr - 1)) fT xh 1).getD 0)).getD 0) fT)).getD 0))))) (XX (orE (nf xr) (orE (xo ISE (hbT (fF (xr - 1)) (fE (xr - 1)) fT xh 1)) (orE (xo ISE (hb1 (fF (xr - 1)) (fE (xr - 1)) ((hbT (fF (xr - 1)) (fE (xr - 1)) fT xh 1).getD 0))) (orE (xo ISE (hb1 (fF (xr - 1)) (fE (xr - 1)) ((hb1 (fF (xr - 1)) (fE (xr - 1)) ((hbT (fF (xr - 1)) (fE (xr - 1)) fT xh 1).getD 0)).getD 0))) (orE (xo UOE (cty (tk1 (fF (xr - 1)) ((hbT (fF (xr - 1)) (fE (xr - 1)) fT xh 1).getD 0) fT) (tk1 (fF (xr - 1)) ((hb1 (fF (xr - 1)) (fE (xr - 1)) ((hbT (fF (xr - 1)) (fE (xr - 1)) fT xh 1).getD 0)).getD 0) fT))) (rmE ((hb1 (fF (xr - 1)) (fE (xr - 1)) ((hb1 (fF (xr - 1)) (fE (xr - 1)) ((hbT (fF (xr - 1)) (fE (xr - 1)) fT xh 1).getD 0)).getD 0)).getD 0 + 1)))))))) 1 6 (va_A (wT z cI cZ fT fK fA fB fF fE xh xg xr xn) sz) := by
  refine vx_ofW (cc := b_T_select) (maxL := 5) (ret := (some .int)) (by decide) rfl ?_
  intro p e s m args below meth c s₁ B hml hno hv
  obtain ⟨rfl, hsz, hP, hK, hD0, hE⟩ := hv
  have hx := B.exec
  have hb := B.bytes
  have hrt := B.returns
  have hts := atoms_spec (ws := w_T_select) B.pre
  have hw : ∀ w ∈ bw, w.before ([.ref (z 0)]).toArray s = true := fun w h => hts w (List.mem_cons_of_mem _ h)
  have hown : s.vm.findClass "TypeStack" = some m.cls := findClass_of_methodNamed B.named
  have hlocks := B.notSynchronized
  subst hsz
  have hD := hD0.self (sz := s.heap.size)
  have hA : ∀ q : Nat, s.heap.size ≤ q → va_A (wT z cI cZ fT fK fA fB fF fE xh xg xr xn) s.heap.size q := fun q h => Or.inr h
  have hS : va_S (va_A (wT z cI cZ fT fK fA fB fF fE xh xg xr xn) s.heap.size) s.heap s.heap [] := va_S.rf
  have hK0 := hK.sub (tys' := []) [] rfl
  skip
  have hl := lv_entry ([.ref (z 0)]) (n := 5) (Nat.le_of_ble_eq_true rfl)
  rw [lg_entry_eq]
  generalize (lg_sl ([.ref (z 0)]) ++ List.replicate (5 - (lg_sl ([.ref (z 0)])).length) Slot.unset).toArray = ls at hl ⊢
  have hl : lv_has ls 5 [(0, .ref (z 0))] := hl
  obtain ⟨hiT, hiK, hiA, hiB, hiF, hiE, hih, hig, hir⟩ := id hi
  refine lv_aload_n hx hb d_T_select_0 rfl (lv_at hl 0 rfl) ?_
  refine cl_x (v := none) hlocks hno (vx_runV (b := z 0) (C := "TypeStack") (As := []) (rest := []) ⟨hx, hb, hml, hown, hw⟩ (c_T_requireFrame l hl0 D z cI cZ fT fK fA fB fF fE xh xg xr xn hi s.heap.size) (cwV 0 hw g_T_36 rfl rfl rfl ⟨rfl, by decide, by decide, by decide +kernel⟩ ⟨by decide, by decide⟩) ⟨PW.blind, va_recv (q := (RT, FT, 10)) (ci := 0) (q0 := 0) hK hP rfl rfl, PW.pre hP hK hD hS hA hE⟩ rfl rfl hl.1 rfl (lv_room (Nat.le_of_ble_eq_true rfl)) d_T_select_1 ⟨by decide, by decide⟩) (fun E h1 => by simp only [orE, h1]) (fun h1 => ?_)
  have hr1 := nf_pos h1
  refine lv_aload_n hx hb d_T_select_4 rfl (lv_at hl 0 rfl) ?_
  refine lv_aload_n hx hb d_T_select_5 rfl (lv_at hl 0 rfl) ?_
  refine va_get (D := D) (ci := 0) (C := RT) (T := FT) (N := 10) (v := .int (nI xh)) hx hb hw inT hown hK hP 0 rfl rfl 1 (by decide) (hw _ kF_T_39) (fun _ h9 => h9) rfl d_T_select_6 ?_
  refine lv_iconst (v := nI 1) hx hb d_T_select_9 (by decide) ?_
  refine cl_x (v := some (.int (nI ((hbT (fF (xr - 1)) (fE (xr - 1)) fT xh 1).getD 0)))) hlocks hno (vx_runV (b := z 0) (C := "TypeStack") (As := [.int (nI xh), .int (nI 1)]) (rest := []) ⟨hx, hb, hml, hown, hw⟩ (c_T_heightBelowType l hl0 D z cI cZ fT fK fA fB fF fE xh xg xr xn hi xh 1 (by omega) (by omega) (by omega) s.heap.size) (cwV 2 hw g_T_67 rfl rfl rfl ⟨rfl, by decide, by decide, by decide +kernel⟩ ⟨by decide, by decide⟩) ⟨PW.blind, va_recv (q := (RT, FT, 10)) (ci := 0) (q0 := 0) hK hP rfl rfl, PW.pre hP hK hD hS hA hE⟩ rfl rfl hl.1 rfl (lv_room (Nat.le_of_ble_eq_true rfl)) d_T_select_10 ⟨by decide, by decide⟩) (fun E h10 => by simp only [orE, h1, h10]) (fun h10 => ?_)
  have hq10 := hbT_le (fF (xr - 1)) (fE (xr - 1)) fT xh 1
  refine lv_istore_n (lv' := [(1, .int (nI ((hbT (fF (xr - 1)) (fE (xr - 1)) fT xh 1).getD 0))), (0, .ref (z 0))]) hx hb d_T_select_13 rfl hl (by decide) rfl (fun ls hl => ?_)
  refine lv_aload_n hx hb d_T_select_14 rfl (lv_at hl 1 rfl) ?_
  refine lv_iload_n hx hb d_T_select_15 rfl (lv_at hl 0 rfl) ?_
  refine cl_x (v := some (.int (nI ((hb1 (fF (xr - 1)) (fE (xr - 1)) ((hbT (fF (xr - 1)) (fE (xr - 1)) fT xh 1).getD 0)).getD 0)))) hlocks hno (vx_runV (b := z 0) (C := "TypeStack") (As := [.int (nI ((hbT (fF (xr - 1)) (fE (xr - 1)) fT xh 1).getD 0))]) (rest := []) ⟨hx, hb, hml, hown, hw⟩ (c_T_heightBelowOne l hl0 D z cI cZ fT fK fA fB fF fE xh xg xr xn hi ((hbT (fF (xr - 1)) (fE (xr - 1)) fT xh 1).getD 0) (by omega) (by omega) s.heap.size) (cwV 1 hw g_T_61 rfl rfl rfl ⟨rfl, by decide, by decide, by decide +kernel⟩ ⟨by decide, by decide⟩) ⟨PW.blind, va_recv (q := (RT, FT, 10)) (ci := 0) (q0 := 0) hK hP rfl rfl, PW.pre hP hK hD hS hA hE⟩ rfl rfl hl.1 rfl (lv_room (Nat.le_of_ble_eq_true rfl)) d_T_select_16 ⟨by decide, by decide⟩) (fun E h16 => by simp only [orE, h1, h10, h16]) (fun h16 => ?_)
  have hq16 := hb1_le (fF (xr - 1)) (fE (xr - 1)) ((hbT (fF (xr - 1)) (fE (xr - 1)) fT xh 1).getD 0)
  refine lv_istore_n (lv' := [(2, .int (nI ((hb1 (fF (xr - 1)) (fE (xr - 1)) ((hbT (fF (xr - 1)) (fE (xr - 1)) fT xh 1).getD 0)).getD 0))), (1, .int (nI ((hbT (fF (xr - 1)) (fE (xr - 1)) fT xh 1).getD 0))), (0, .ref (z 0))]) hx hb d_T_select_19 rfl hl (by decide) rfl (fun ls hl => ?_)
  refine lv_aload_n hx hb d_T_select_20 rfl (lv_at hl 2 rfl) ?_
  refine lv_iload_n hx hb d_T_select_21 rfl (lv_at hl 0 rfl) ?_
  refine cl_x (v := some (.int (nI ((hb1 (fF (xr - 1)) (fE (xr - 1)) ((hb1 (fF (xr - 1)) (fE (xr - 1)) ((hbT (fF (xr - 1)) (fE (xr - 1)) fT xh 1).getD 0)).getD 0)).getD 0)))) hlocks hno (vx_runV (b := z 0) (C := "TypeStack") (As := [.int (nI ((hb1 (fF (xr - 1)) (fE (xr - 1)) ((hbT (fF (xr - 1)) (fE (xr - 1)) fT xh 1).getD 0)).getD 0))]) (rest := []) ⟨hx, hb, hml, hown, hw⟩ (c_T_heightBelowOne l hl0 D z cI cZ fT fK fA fB fF fE xh xg xr xn hi ((hb1 (fF (xr - 1)) (fE (xr - 1)) ((hbT (fF (xr - 1)) (fE (xr - 1)) fT xh 1).getD 0)).getD 0) (by omega) (by omega) s.heap.size) (cwV 1 hw g_T_61 rfl rfl rfl ⟨rfl, by decide, by decide, by decide +kernel⟩ ⟨by decide, by decide⟩) ⟨PW.blind, va_recv (q := (RT, FT, 10)) (ci := 0) (q0 := 0) hK hP rfl rfl, PW.pre hP hK hD hS hA hE⟩ rfl rfl hl.1 rfl (lv_room (Nat.le_of_ble_eq_true rfl)) d_T_select_22 ⟨by decide, by decide⟩) (fun E h22 => by simp only [orE, h1, h10, h16, h22]) (fun h22 => ?_)
  have hq22 := hb1_le (fF (xr - 1)) (fE (xr - 1)) ((hb1 (fF (xr - 1)) (fE (xr - 1)) ((hbT (fF (xr - 1)) (fE (xr - 1)) fT xh 1).getD 0)).getD 0)
  refine lv_istore_n (lv' := [(3, .int (nI ((hb1 (fF (xr - 1)) (fE (xr - 1)) ((hb1 (fF (xr - 1)) (fE (xr - 1)) ((hbT (fF (xr - 1)) (fE (xr - 1)) fT xh 1).getD 0)).getD 0)).getD 0))), (2, .int (nI ((hb1 (fF (xr - 1)) (fE (xr - 1)) ((hbT (fF (xr - 1)) (fE (xr - 1)) fT xh 1).getD 0)).getD 0))), (1, .int (nI ((hbT (fF (xr - 1)) (fE (xr - 1)) fT xh 1).getD 0))), (0, .ref (z 0))]) hx hb d_T_select_25 rfl hl (by decide) rfl (fun ls hl => ?_)
  refine lv_aload_n hx hb d_T_select_26 rfl (lv_at hl 3 rfl) ?_
  refine lv_iload_n hx hb d_T_select_27 rfl (lv_at hl 2 rfl) ?_
  refine cl_r (v := some (.int (nI (tk1 (fF (xr - 1)) ((hbT (fF (xr - 1)) (fE (xr - 1)) fT xh 1).getD 0) fT)))) (W.runV (b := z 0) (C := "TypeStack") (As := [.int (nI ((hbT (fF (xr - 1)) (fE (xr - 1)) fT xh 1).getD 0))]) (rest := []) ⟨hx, hb, hml, hown, hw⟩ (c_T_typeToTake l D z cI cZ fT fK fA fB fF fE xh xg xr xn hi ((hbT (fF (xr - 1)) (fE (xr - 1)) fT xh 1).getD 0) (by omega) (by omega) s.heap.size) (cwV 1 hw g_T_64 rfl rfl rfl ⟨rfl, by decide, by decide, by decide +kernel⟩ ⟨by decide, by decide⟩) ⟨PW.blind, va_recv (q := (RT, FT, 10)) (ci := 0) (q0 := 0) hK hP rfl rfl, PW.pre hP hK hD hS hA hE⟩ rfl rfl hl.1 rfl (lv_room (Nat.le_of_ble_eq_true rfl)) d_T_select_28 ⟨by decide, by decide⟩) ?_
  have ht28 : tk1 (fF (xr - 1)) ((hbT (fF (xr - 1)) (fE (xr - 1)) fT xh 1).getD 0) fT < 5 := tk1_lt hiT
  refine lv_aload_n hx hb d_T_select_31 rfl (lv_at hl 3 rfl) ?_
  refine lv_iload_n hx hb d_T_select_32 rfl (lv_at hl 1 rfl) ?_
  refine cl_r (v := some (.int (nI (tk1 (fF (xr - 1)) ((hb1 (fF (xr - 1)) (fE (xr - 1)) ((hbT (fF (xr - 1)) (fE (xr - 1)) fT xh 1).getD 0)).getD 0) fT)))) (W.runV (b := z 0) (C := "TypeStack") (As := [.int (nI ((hb1 (fF (xr - 1)) (fE (xr - 1)) ((hbT (fF (xr - 1)) (fE (xr - 1)) fT xh 1).getD 0)).getD 0))]) (rest := [.int (nI (tk1 (fF (xr - 1)) ((hbT (fF (xr - 1)) (fE (xr - 1)) fT xh 1).getD 0) fT))]) ⟨hx, hb, hml, hown, hw⟩ (c_T_typeToTake l D z cI cZ fT fK fA fB fF fE xh xg xr xn hi ((hb1 (fF (xr - 1)) (fE (xr - 1)) ((hbT (fF (xr - 1)) (fE (xr - 1)) fT xh 1).getD 0)).getD 0) (by omega) (by omega) s.heap.size) (cwV 1 hw g_T_64 rfl rfl rfl ⟨rfl, by decide, by decide, by decide +kernel⟩ ⟨by decide, by decide⟩) ⟨PW.blind, va_recv (q := (RT, FT, 10)) (ci := 0) (q0 := 0) hK hP rfl rfl, PW.pre hP hK hD hS hA hE⟩ rfl rfl hl.1 rfl (lv_room (Nat.le_of_ble_eq_true rfl)) d_T_select_33 ⟨by decide, by decide⟩) ?_
  have ht33 : tk1 (fF (xr - 1)) ((hb1 (fF (xr - 1)) (fE (xr - 1)) ((hbT (fF (xr - 1)) (fE (xr - 1)) fT xh 1).getD 0)).getD 0) fT < 5 := tk1_lt hiT
  refine cl_x (v := some (.int (nI ((cty (tk1 (fF (xr - 1)) ((hbT (fF (xr - 1)) (fE (xr - 1)) fT xh 1).getD 0) fT) (tk1 (fF (xr - 1)) ((hb1 (fF (xr - 1)) (fE (xr - 1)) ((hbT (fF (xr - 1)) (fE (xr - 1)) fT xh 1).getD 0)).getD 0) fT)).getD 0)))) hlocks hno (vx_runS (As := [.int (nI (tk1 (fF (xr - 1)) ((hbT (fF (xr - 1)) (fE (xr - 1)) fT xh 1).getD 0) fT)), .int (nI (tk1 (fF (xr - 1)) ((hb1 (fF (xr - 1)) (fE (xr - 1)) ((hbT (fF (xr - 1)) (fE (xr - 1)) fT xh 1).getD 0)).getD 0) fT))]) (rest := []) ⟨hx, hb, hml, hown, hw⟩ (c_T_commonType l hl0 D (tk1 (fF (xr - 1)) ((hbT (fF (xr - 1)) (fE (xr - 1)) fT xh 1).getD 0) fT) (tk1 (fF (xr - 1)) ((hb1 (fF (xr - 1)) (fE (xr - 1)) ((hbT (fF (xr - 1)) (fE (xr - 1)) fT xh 1).getD 0)).getD 0) fT) (by omega) (by omega) s.heap.size) (va_cwS 2 hw g_T_70 rfl rfl rfl ⟨by decide, by decide, by decide +kernel⟩ ⟨by decide, by decide⟩) ⟨PW.blind, PW.pre va_P.nil hK0 va_D.nil hS hA hE⟩ rfl rfl hl.1 rfl (lv_room (Nat.le_of_ble_eq_true rfl)) d_T_select_36 ⟨by decide, by decide⟩) (fun E h36 => by simp only [orE, h1, h10, h16, h22, h36]) (fun h36 => ?_)
  refine lv_istore (lv' := [(4, .int (nI ((cty (tk1 (fF (xr - 1)) ((hbT (fF (xr - 1)) (fE (xr - 1)) fT xh 1).getD 0) fT) (tk1 (fF (xr - 1)) ((hb1 (fF (xr - 1)) (fE (xr - 1)) ((hbT (fF (xr - 1)) (fE (xr - 1)) fT xh 1).getD 0)).getD 0) fT)).getD 0))), (3, .int (nI ((hb1 (fF (xr - 1)) (fE (xr - 1)) ((hb1 (fF (xr - 1)) (fE (xr - 1)) ((hbT (fF (xr - 1)) (fE (xr - 1)) fT xh 1).getD 0)).getD 0)).getD 0))), (2, .int (nI ((hb1 (fF (xr - 1)) (fE (xr - 1)) ((hbT (fF (xr - 1)) (fE (xr - 1)) fT xh 1).getD 0)).getD 0))), (1, .int (nI ((hbT (fF (xr - 1)) (fE (xr - 1)) fT xh 1).getD 0))), (0, .ref (z 0))]) hx hb d_T_select_39 hl (by decide) rfl (fun ls hl => ?_)
  refine lv_iload_n hx hb d_T_select_41 rfl (lv_at hl 1 rfl) ?_
  refine lv_iconst (v := nI 1) hx hb d_T_select_42 (by decide) ?_
  refine nw_add hx hb d_T_select_43 ?_
  refine cl_x (v := none) hlocks hno (vx_runS (As := [.int (nI (((hb1 (fF (xr - 1)) (fE (xr - 1)) ((hb1 (fF (xr - 1)) (fE (xr - 1)) ((hbT (fF (xr - 1)) (fE (xr - 1)) fT xh 1).getD 0)).getD 0)).getD 0) + 1))]) (rest := []) ⟨hx, hb, hml, hown, hw⟩ (c_T_requireRoom l hl0 D (((hb1 (fF (xr - 1)) (fE (xr - 1)) ((hb1 (fF (xr - 1)) (fE (xr - 1)) ((hbT (fF (xr - 1)) (fE (xr - 1)) fT xh 1).getD 0)).getD 0)).getD 0) + 1) (by omega) s.heap.size) (va_cwS 1 hw g_T_51 rfl rfl rfl ⟨by decide, by decide, by decide +kernel⟩ ⟨by decide, by decide⟩) ⟨PW.blind, PW.pre va_P.nil hK0 va_D.nil hS hA hE⟩ rfl rfl hl.1 rfl (lv_room (Nat.le_of_ble_eq_true rfl)) d_T_select_44 ⟨by decide, by decide⟩) (fun E h44 => by simp only [orE, h1, h10, h16, h22, h36, h44]) (fun h44 => ?_)
  have hr44 := rm_le h44
  refine lv_aload_n hx hb d_T_select_47 rfl (lv_at hl 4 rfl) ?_
  refine va_get (D := D) (ci := 0) (C := RT) (T := FT) (N := 10) (v := .ref (z 1)) hx hb hw inT hown hK hP 0 rfl rfl 0 (by decide) (hw _ kF_T_9) (fun _ h9 => h9) rfl d_T_select_48 ?_
  refine lv_iload_n hx hb d_T_select_51 rfl (lv_at hl 1 rfl) ?_
  refine lv_iload hx hb d_T_select_52 (lv_at hl 0 rfl) ?_
  refine nw_iast hx hb hK hP hD hS 1 0 rfl rfl (k := (hb1 (fF (xr - 1)) (fE (xr - 1)) ((hb1 (fF (xr - 1)) (fE (xr - 1)) ((hbT (fF (xr - 1)) (fE (xr - 1)) fT xh 1).getD 0)).getD 0)).getD 0) (x := (cty (tk1 (fF (xr - 1)) ((hbT (fF (xr - 1)) (fE (xr - 1)) fT xh 1).getD 0) fT) (tk1 (fF (xr - 1)) ((hb1 (fF (xr - 1)) (fE (xr - 1)) ((hbT (fF (xr - 1)) (fE (xr - 1)) fT xh 1).getD 0)).getD 0) fT)).getD 0) (by omega) (by decide) d_T_select_54 (fun H locs hP hD hS => ?_)
  have hP : va_P D cls2 (wT z cI cZ (va_up fT ((hb1 (fF (xr - 1)) (fE (xr - 1)) ((hb1 (fF (xr - 1)) (fE (xr - 1)) ((hbT (fF (xr - 1)) (fE (xr - 1)) fT xh 1).getD 0)).getD 0)).getD 0) ((cty (tk1 (fF (xr - 1)) ((hbT (fF (xr - 1)) (fE (xr - 1)) fT xh 1).getD 0) fT) (tk1 (fF (xr - 1)) ((hb1 (fF (xr - 1)) (fE (xr - 1)) ((hbT (fF (xr - 1)) (fE (xr - 1)) fT xh 1).getD 0)).getD 0) fT)).getD 0)) fK fA fB fF fE xh xg xr xn) H := hP
  have hD : va_D (va_A (wT z cI cZ fT fK fA fB fF fE xh xg xr xn) s.heap.size) (wT z cI cZ (va_up fT ((hb1 (fF (xr - 1)) (fE (xr - 1)) ((hb1 (fF (xr - 1)) (fE (xr - 1)) ((hbT (fF (xr - 1)) (fE (xr - 1)) fT xh 1).getD 0)).getD 0)).getD 0) ((cty (tk1 (fF (xr - 1)) ((hbT (fF (xr - 1)) (fE (xr - 1)) fT xh 1).getD 0) fT) (tk1 (fF (xr - 1)) ((hb1 (fF (xr - 1)) (fE (xr - 1)) ((hbT (fF (xr - 1)) (fE (xr - 1)) fT xh 1).getD 0)).getD 0) fT)).getD 0)) fK fA fB fF fE xh xg xr xn) := hD
  refine lv_aload_n hx hb d_T_select_55 rfl (lv_at hl 4 rfl) ?_
  refine lv_iload_n hx hb d_T_select_56 rfl (lv_at hl 1 rfl) ?_
  refine lv_iconst (v := nI 1) hx hb d_T_select_57 (by decide) ?_
  refine nw_add hx hb d_T_select_58 ?_
  refine cl_w (v := none) hD hS hA (W.runV (b := z 0) (C := "TypeStack") (As := [.int (nI (((hb1 (fF (xr - 1)) (fE (xr - 1)) ((hb1 (fF (xr - 1)) (fE (xr - 1)) ((hbT (fF (xr - 1)) (fE (xr - 1)) fT xh 1).getD 0)).getD 0)).getD 0) + 1))]) (rest := []) ⟨hx, hb, hml, hown, hw⟩ (c_T_riseTo l D z cI cZ (va_up fT ((hb1 (fF (xr - 1)) (fE (xr - 1)) ((hb1 (fF (xr - 1)) (fE (xr - 1)) ((hbT (fF (xr - 1)) (fE (xr - 1)) fT xh 1).getD 0)).getD 0)).getD 0) ((cty (tk1 (fF (xr - 1)) ((hbT (fF (xr - 1)) (fE (xr - 1)) fT xh 1).getD 0) fT) (tk1 (fF (xr - 1)) ((hb1 (fF (xr - 1)) (fE (xr - 1)) ((hbT (fF (xr - 1)) (fE (xr - 1)) fT xh 1).getD 0)).getD 0) fT)).getD 0)) fK fA fB fF fE xh xg xr xn (((hb1 (fF (xr - 1)) (fE (xr - 1)) ((hb1 (fF (xr - 1)) (fE (xr - 1)) ((hbT (fF (xr - 1)) (fE (xr - 1)) fT xh 1).getD 0)).getD 0)).getD 0) + 1) (by omega) (by omega) H.size) (cwV 1 hw g_T_73 rfl rfl rfl ⟨rfl, by decide, by decide, by decide +kernel⟩ ⟨by decide, by decide⟩) ⟨PW.blind, va_recv (q := (RT, FT, 10)) (ci := 0) (q0 := 0) hK hP rfl rfl, PW.pre hP hK hD hS hA hE⟩ rfl rfl hl.1 rfl (lv_room (Nat.le_of_ble_eq_true rfl)) d_T_select_59 ⟨by decide, by decide⟩) (fun H locs hP hD hS => ?_)
  have hP : va_P D cls2 (wT z cI cZ (va_up fT ((hb1 (fF (xr - 1)) (fE (xr - 1)) ((hb1 (fF (xr - 1)) (fE (xr - 1)) ((hbT (fF (xr - 1)) (fE (xr - 1)) fT xh 1).getD 0)).getD 0)).getD 0) ((cty (tk1 (fF (xr - 1)) ((hbT (fF (xr - 1)) (fE (xr - 1)) fT xh 1).getD 0) fT) (tk1 (fF (xr - 1)) ((hb1 (fF (xr - 1)) (fE (xr - 1)) ((hbT (fF (xr - 1)) (fE (xr - 1)) fT xh 1).getD 0)).getD 0) fT)).getD 0)) fK fA fB fF fE (((hb1 (fF (xr - 1)) (fE (xr - 1)) ((hb1 (fF (xr - 1)) (fE (xr - 1)) ((hbT (fF (xr - 1)) (fE (xr - 1)) fT xh 1).getD 0)).getD 0)).getD 0) + 1) (max xg (((hb1 (fF (xr - 1)) (fE (xr - 1)) ((hb1 (fF (xr - 1)) (fE (xr - 1)) ((hbT (fF (xr - 1)) (fE (xr - 1)) fT xh 1).getD 0)).getD 0)).getD 0) + 1)) xr xn) H := hP
  have hD : va_D (va_A (wT z cI cZ fT fK fA fB fF fE xh xg xr xn) s.heap.size) (wT z cI cZ (va_up fT ((hb1 (fF (xr - 1)) (fE (xr - 1)) ((hb1 (fF (xr - 1)) (fE (xr - 1)) ((hbT (fF (xr - 1)) (fE (xr - 1)) fT xh 1).getD 0)).getD 0)).getD 0) ((cty (tk1 (fF (xr - 1)) ((hbT (fF (xr - 1)) (fE (xr - 1)) fT xh 1).getD 0) fT) (tk1 (fF (xr - 1)) ((hb1 (fF (xr - 1)) (fE (xr - 1)) ((hbT (fF (xr - 1)) (fE (xr - 1)) fT xh 1).getD 0)).getD 0) fT)).getD 0)) fK fA fB fF fE (((hb1 (fF (xr - 1)) (fE (xr - 1)) ((hb1 (fF (xr - 1)) (fE (xr - 1)) ((hbT (fF (xr - 1)) (fE (xr - 1)) fT xh 1).getD 0)).getD 0)).getD 0) + 1) (max xg (((hb1 (fF (xr - 1)) (fE (xr - 1)) ((hb1 (fF (xr - 1)) (fE (xr - 1)) ((hbT (fF (xr - 1)) (fE (xr - 1)) fT xh 1).getD 0)).getD 0)).getD 0) + 1)) xr xn) := hD
  refine lv_aload_n hx hb d_T_select_62 rfl (lv_at hl 4 rfl) ?_
  refine lv_dup hx hb d_T_select_63 rfl ?_
  refine va_get (D := D) (ci := 0) (C := RT) (T := FT) (N := 10) (v := .int (nI xn)) hx hb hw inT hown hK hP 0 rfl rfl 9 (by decide) (hw _ kF_T_58) (fun _ h9 => h9) rfl d_T_select_64 ?_
  refine lv_iconst (v := nI 1) hx hb d_T_select_67 (by decide) ?_
  refine nw_add hx hb d_T_select_68 ?_
  refine va_put (D := D) (ci := 0) (C := RT) (T := FT) (N := 10) (v := .int (nI (xn + 1))) (ty := .int) hx hb hw inT tT tT_ok nT hown hK hP hD hS 0 rfl rfl 9 (by decide) (hw _ kF_T_58) (fun _ h9 => h9) rfl (by decide +kernel) rfl rfl (Nat.le_of_ble_eq_true rfl) d_T_select_69 (fun H locs hP hD hS => ?_)
  have hP : va_P D cls2 (wT z cI cZ (va_up fT ((hb1 (fF (xr - 1)) (fE (xr - 1)) ((hb1 (fF (xr - 1)) (fE (xr - 1)) ((hbT (fF (xr - 1)) (fE (xr - 1)) fT xh 1).getD 0)).getD 0)).getD 0) ((cty (tk1 (fF (xr - 1)) ((hbT (fF (xr - 1)) (fE (xr - 1)) fT xh 1).getD 0) fT) (tk1 (fF (xr - 1)) ((hb1 (fF (xr - 1)) (fE (xr - 1)) ((hbT (fF (xr - 1)) (fE (xr - 1)) fT xh 1).getD 0)).getD 0) fT)).getD 0)) fK fA fB fF fE (((hb1 (fF (xr - 1)) (fE (xr - 1)) ((hb1 (fF (xr - 1)) (fE (xr - 1)) ((hbT (fF (xr - 1)) (fE (xr - 1)) fT xh 1).getD 0)).getD 0)).getD 0) + 1) (max xg (((hb1 (fF (xr - 1)) (fE (xr - 1)) ((hb1 (fF (xr - 1)) (fE (xr - 1)) ((hbT (fF (xr - 1)) (fE (xr - 1)) fT xh 1).getD 0)).getD 0)).getD 0) + 1)) xr (xn + 1)) H := hP
  have hD : va_D (va_A (wT z cI cZ fT fK fA fB fF fE xh xg xr xn) s.heap.size) (wT z cI cZ (va_up fT ((hb1 (fF (xr - 1)) (fE (xr - 1)) ((hb1 (fF (xr - 1)) (fE (xr - 1)) ((hbT (fF (xr - 1)) (fE (xr - 1)) fT xh 1).getD 0)).getD 0)).getD 0) ((cty (tk1 (fF (xr - 1)) ((hbT (fF (xr - 1)) (fE (xr - 1)) fT xh 1).getD 0) fT) (tk1 (fF (xr - 1)) ((hb1 (fF (xr - 1)) (fE (xr - 1)) ((hbT (fF (xr - 1)) (fE (xr - 1)) fT xh 1).getD 0)).getD 0) fT)).getD 0)) fK fA fB fF fE (((hb1 (fF (xr - 1)) (fE (xr - 1)) ((hb1 (fF (xr - 1)) (fE (xr - 1)) ((hbT (fF (xr - 1)) (fE (xr - 1)) fT xh 1).getD 0)).getD 0)).getD 0) + 1) (max xg (((hb1 (fF (xr - 1)) (fE (xr - 1)) ((hb1 (fF (xr - 1)) (fE (xr - 1)) ((hbT (fF (xr - 1)) (fE (xr - 1)) fT xh 1).getD 0)).getD 0)).getD 0) + 1)) xr (xn + 1)) := hD
  refine lv_iload hx hb d_T_select_72 (lv_at hl 0 rfl) ?_
  have hP : va_P D cls2 (wT z cI cZ (va_up fT ((hb1 (fF (xr - 1)) (fE (xr - 1)) ((hb1 (fF (xr - 1)) (fE (xr - 1)) ((hbT (fF (xr - 1)) (fE (xr - 1)) fT xh 1).getD 0)).getD 0)).getD 0) ((cty (tk1 (fF (xr - 1)) ((hbT (fF (xr - 1)) (fE (xr - 1)) fT xh 1).getD 0) fT) (tk1 (fF (xr - 1)) ((hb1 (fF (xr - 1)) (fE (xr - 1)) ((hbT (fF (xr - 1)) (fE (xr - 1)) fT xh 1).getD 0)).getD 0) fT)).getD 0)) fK fA fB fF fE ((hb1 (fF (xr - 1)) (fE (xr - 1)) ((hb1 (fF (xr - 1)) (fE (xr - 1)) ((hbT (fF (xr - 1)) (fE (xr - 1)) fT xh 1).getD 0)).getD 0)).getD 0 + 1) (max xg ((hb1 (fF (xr - 1)) (fE (xr - 1)) ((hb1 (fF (xr - 1)) (fE (xr - 1)) ((hbT (fF (xr - 1)) (fE (xr - 1)) fT xh 1).getD 0)).getD 0)).getD 0 + 1)) xr (xn + 1)) H := by exact hP
  have hD : va_D (va_A (wT z cI cZ fT fK fA fB fF fE xh xg xr xn) s.heap.size) (wT z cI cZ (va_up fT ((hb1 (fF (xr - 1)) (fE (xr - 1)) ((hb1 (fF (xr - 1)) (fE (xr - 1)) ((hbT (fF (xr - 1)) (fE (xr - 1)) fT xh 1).getD 0)).getD 0)).getD 0) ((cty (tk1 (fF (xr - 1)) ((hbT (fF (xr - 1)) (fE (xr - 1)) fT xh 1).getD 0) fT) (tk1 (fF (xr - 1)) ((hb1 (fF (xr - 1)) (fE (xr - 1)) ((hbT (fF (xr - 1)) (fE (xr - 1)) fT xh 1).getD 0)).getD 0) fT)).getD 0)) fK fA fB fF fE ((hb1 (fF (xr - 1)) (fE (xr - 1)) ((hb1 (fF (xr - 1)) (fE (xr - 1)) ((hbT (fF (xr - 1)) (fE (xr - 1)) fT xh 1).getD 0)).getD 0)).getD 0 + 1) (max xg ((hb1 (fF (xr - 1)) (fE (xr - 1)) ((hb1 (fF (xr - 1)) (fE (xr - 1)) ((hbT (fF (xr - 1)) (fE (xr - 1)) fT xh 1).getD 0)).getD 0)).getD 0 + 1)) xr (xn + 1)) := by exact hD
  exact vx_ret (W.widen (k := 1) (n := 6) (by decide) (by decide) (W.iret hx hb hrt (fun t ht _ => ⟨by simp only [orE, h1, h10, h16, h22, h36, h44], ⟨rfl, by rw [ht]; exact hP, hD⟩, hS.F ht⟩) hS.2.2 d_T_select_74))

set_option maxHeartbeats 4000000 in
set_option maxRecDepth 100000 in
theorem c_T_block (l : Launch) (hl0 : l.stackTraces = false) (D : va_G) (z : Nat → Nat) (cI cZ : ClassId) (fT fK fA fB fF fE : Nat → Nat) (xh xg xr xn : Nat) (hi : IT fT fK fA fB fF fE xh xg xr) (x y v : Int32) (sz : Nat) : vx_Met l y_T_block w_T_block (rmX 4) (PW D [(cI, .int), (cZ, .boolean)] (wT z cI cZ fT fK fA fB fF fE xh xg xr xn) sz [.ref (z 0), .int x, .int y, .int v]) (QXW (orE (xk x) (orE (xl y) (orE (xl v) (orE (nf xr) (orE (xo ISE (bel x (fF (xr - 1)) (fE (xr - 1)) fT xh)) (orE (xo ISE (hbL (fF (xr - 1)) (fE (xr - 1)) fT 6 (bl x (fF (xr - 1)) (fE (xr - 1)) fT xh) y.toNatClampNeg)) (orE (rmE ((hbL (fF (xr - 1)) (fE (xr - 1)) fT 6 (bl x (fF (xr - 1)) (fE (xr - 1)) fT xh) y.toNatClampNeg).getD 0 + szL 6 y.toNatClampNeg)) (f40 xr)))))))) D [(cI, .int), (cZ, .boolean)] (wT z cI cZ fT fK fA fB fF fE xh xg xr xn) (wT z cI cZ (pl fT ((hbL (fF (xr - 1)) (fE (xr - 1)) fT 6 (bl x (fF (xr - 1)) (fE (xr - 1)) fT xh) y.toNatClampNeg).getD 0) (szL 6 y.toNatClampNeg) y.toNatClampNeg) (va_up fK xr x.toNatClampNeg) (va_up fA xr y.toNatClampNeg) (va_up fB xr v.toNatClampNeg) (va_up fF xr ((hbL (fF (xr - 1)) (fE (xr - 1)) fT 6 (bl x (fF (xr - 1)) (fE (xr - 1)) fT xh) y.toNatClampNeg).getD 0)) (va_up fE xr 0) (((hbL (fF (xr - 1)) (fE (xr - 1)) fT 6 (bl x (fF (xr - 1)) (fE (xr - 1)) fT xh) y.toNatClampNeg).getD 0) + szL 6 y.toNatClampNeg) (max xg (((hbL (fF (xr - 1)) (fE (xr - 1)) fT 6 (bl x (fF (xr - 1)) (fE (xr - 1)) fT xh) y.toNatClampNeg).getD 0) + szL 6 y.toNatClampNeg)) (xr + 1) (xn + 1)) sz (some (.int (nI (xr + 1))))) (XX (orE (xk x) (orE (xl y) (orE (xl v) (orE (nf xr) (orE (xo ISE (bel x (fF (xr - 1)) (fE (xr - 1)) fT xh)) (orE (xo ISE (hbL (fF (xr - 1)) (fE (xr - 1)) fT 6 (bl x (fF (xr - 1)) (fE (xr - 1)) fT xh) y.toNatClampNeg)) (orE (rmE ((hbL (fF (xr - 1)) (fE (xr - 1)) fT 6 (bl x (fF (xr - 1)) (fE (xr - 1)) fT xh) y.toNatClampNeg).getD 0 + szL 6 y.toNatClampNeg)) (f40 xr))))))))) 1 6 (va_A (wT z cI cZ fT fK fA fB fF fE xh xg xr xn) sz) := by
  refine vx_ofW (cc := b_T_block) (maxL := 6) (ret := (some .int)) (by decide) rfl ?_
  intro p e s m args below meth c s₁ B hml hno hv
  obtain ⟨rfl, hsz, hP, hK, hD0, hE⟩ := hv
  have hx := B.exec
  have hb := B.bytes
  have hrt := B.returns
  have hts := atoms_spec (ws := w_T_block) B.pre
  have hw : ∀ w ∈ bw, w.before ([.ref (z 0), .int x, .int y, .int v]).toArray s = true := fun w h => hts w (List.mem_cons_of_mem _ h)
  have hown : s.vm.findClass "TypeStack" = some m.cls := findClass_of_methodNamed B.named
  have hlocks := B.notSynchronized
  subst hsz
  have hD := hD0.self (sz := s.heap.size)
  have hA : ∀ q : Nat, s.heap.size ≤ q → va_A (wT z cI cZ fT fK fA fB fF fE xh xg xr xn) s.heap.size q := fun q h => Or.inr h
  have hS : va_S (va_A (wT z cI cZ fT fK fA fB fF fE xh xg xr xn) s.heap.size) s.heap s.heap [] := va_S.rf
  have hK0 := hK.sub (tys' := []) [] rfl
  skip
  have hl := lv_entry ([.ref (z 0), .int x, .int y, .int v]) (n := 6) (Nat.le_of_ble_eq_true rfl)
  rw [lg_entry_eq]
  generalize (lg_sl ([.ref (z 0), .int x, .int y, .int v]) ++ List.replicate (6 - (lg_sl ([.ref (z 0), .int x, .int y, .int v])).length) Slot.unset).toArray = ls at hl ⊢
  have hl : lv_has ls 6 [(0, .ref (z 0)), (1, .int x), (2, .int y), (3, .int v)] := hl
  obtain ⟨hiT, hiK, hiA, hiB, hiF, hiE, hih, hig, hir⟩ := id hi
  refine lv_iload_n hx hb d_T_block_0 rfl (lv_at hl 1 rfl) ?_
  refine lv_if_eq hx hb (tgt := 22) d_T_block_1 (by decide) (fun h1 => ?_) (fun h1 => ?_)
  · skip
    have hkd : x = 0 ∨ x = nI 1 ∨ x = nI 2 := Or.inl h1
    have hk1 : xk x = none := if_pos hkd
    refine lv_iload_n hx hb d_T_block_22 rfl (lv_at hl 2 rfl) ?_
    refine cl_x (v := none) hlocks hno (vx_runS (As := [.int y]) (rest := []) ⟨hx, hb, hml, hown, hw⟩ (c_T_requireList l hl0 D y s.heap.size) (va_cwS 1 hw g_T_33 rfl rfl rfl ⟨by decide, by decide, by decide +kernel⟩ ⟨by decide, by decide⟩) ⟨PW.blind, PW.pre va_P.nil hK0 va_D.nil hS hA hE⟩ rfl rfl hl.1 rfl (lv_room (Nat.le_of_ble_eq_true rfl)) d_T_block_23 ⟨by decide, by decide⟩) (fun E h23 => by simp only [orE, hk1, h23]) (fun h23 => ?_)
    have hj23 := xl_lt h23
    refine lv_iload_n hx hb d_T_block_26 rfl (lv_at hl 3 rfl) ?_
    refine cl_x (v := none) hlocks hno (vx_runS (As := [.int v]) (rest := []) ⟨hx, hb, hml, hown, hw⟩ (c_T_requireList l hl0 D v s.heap.size) (va_cwS 1 hw g_T_33 rfl rfl rfl ⟨by decide, by decide, by decide +kernel⟩ ⟨by decide, by decide⟩) ⟨PW.blind, PW.pre va_P.nil hK0 va_D.nil hS hA hE⟩ rfl rfl hl.1 rfl (lv_room (Nat.le_of_ble_eq_true rfl)) d_T_block_27 ⟨by decide, by decide⟩) (fun E h27 => by simp only [orE, hk1, h23, h27]) (fun h27 => ?_)
    have hj27 := xl_lt h27
    refine lv_aload_n hx hb d_T_block_30 rfl (lv_at hl 0 rfl) ?_
    refine cl_x (v := none) hlocks hno (vx_runV (b := z 0) (C := "TypeStack") (As := []) (rest := []) ⟨hx, hb, hml, hown, hw⟩ (c_T_requireFrame l hl0 D z cI cZ fT fK fA fB fF fE xh xg xr xn hi s.heap.size) (cwV 0 hw g_T_36 rfl rfl rfl ⟨rfl, by decide, by decide, by decide +kernel⟩ ⟨by decide, by decide⟩) ⟨PW.blind, va_recv (q := (RT, FT, 10)) (ci := 0) (q0 := 0) hK hP rfl rfl, PW.pre hP hK hD hS hA hE⟩ rfl rfl hl.1 rfl (lv_room (Nat.le_of_ble_eq_true rfl)) d_T_block_31 ⟨by decide, by decide⟩) (fun E h31 => by simp only [orE, hk1, h23, h27, h31]) (fun h31 => ?_)
    have hr31 := nf_pos h31
    refine lv_iload_n hx hb d_T_block_34 rfl (lv_at hl 1 rfl) ?_
    refine lv_iconst (v := nI 2) hx hb d_T_block_35 (by decide) ?_
    refine lv_icmp_ne hx hb (tgt := 51) d_T_block_36 (by decide) (fun h36 => ?_) (fun h36 => ?_)
    · skip
      refine lv_aload_n hx hb d_T_block_51 rfl (lv_at hl 0 rfl) ?_
      refine va_get (D := D) (ci := 0) (C := RT) (T := FT) (N := 10) (v := .int (nI xh)) hx hb hw inT hown hK hP 0 rfl rfl 1 (by decide) (hw _ kF_T_39) (fun _ h9 => h9) rfl d_T_block_52 ?_
      have hbel : xo ISE (bel x (fF (xr - 1)) (fE (xr - 1)) fT xh) = none := by rw [bel_ne h36]; rfl
      have hbl1 : bl x (fF (xr - 1)) (fE (xr - 1)) fT xh ≤ xh := by rw [bl_ne h36]; exact Nat.le_refl _
      refine nw_is (y := nI (bl x (fF (xr - 1)) (fE (xr - 1)) fT xh)) (by rw [bl_ne h36]) ?_
      refine lv_istore (lv' := [(4, .int (nI (bl x (fF (xr - 1)) (fE (xr - 1)) fT xh))), (0, .ref (z 0)), (1, .int x), (2, .int y), (3, .int v)]) hx hb d_T_block_55 hl (by decide) rfl (fun ls hl => ?_)
      refine lv_aload_n hx hb d_T_block_57 rfl (lv_at hl 1 rfl) ?_
      refine lv_iload hx hb d_T_block_58 (lv_at hl 0 rfl) ?_
      refine lv_iload_n hx hb d_T_block_60 rfl (lv_at hl 3 rfl) ?_
      refine nw_is (y := nI y.toNatClampNeg) (xl_eq h23) ?_
      refine cl_x (v := some (.int (nI ((hbL (fF (xr - 1)) (fE (xr - 1)) fT 6 (bl x (fF (xr - 1)) (fE (xr - 1)) fT xh) y.toNatClampNeg).getD 0)))) hlocks hno (vx_runV (b := z 0) (C := "TypeStack") (As := [.int (nI (bl x (fF (xr - 1)) (fE (xr - 1)) fT xh)), .int (nI y.toNatClampNeg)]) (rest := []) ⟨hx, hb, hml, hown, hw⟩ (c_T_heightBelowList l hl0 D z cI cZ fT fK fA fB fF fE xh xg xr xn hi (bl x (fF (xr - 1)) (fE (xr - 1)) fT xh) y.toNatClampNeg (by omega) (by omega) (by omega) s.heap.size) (cwV 2 hw g_T_43 rfl rfl rfl ⟨rfl, by decide, by decide, by decide +kernel⟩ ⟨by decide, by decide⟩) ⟨PW.blind, va_recv (q := (RT, FT, 10)) (ci := 0) (q0 := 0) hK hP rfl rfl, PW.pre hP hK hD hS hA hE⟩ rfl rfl hl.1 rfl (lv_room (Nat.le_of_ble_eq_true rfl)) d_T_block_61 ⟨by decide, by decide⟩) (fun E h61 => by simp only [orE, hk1, h23, h27, h31, hbel, h61]) (fun h61 => ?_)
      have hq61 := hbL_le (fF (xr - 1)) (fE (xr - 1)) fT 6 (bl x (fF (xr - 1)) (fE (xr - 1)) fT xh) y.toNatClampNeg
      refine lv_istore (lv' := [(5, .int (nI ((hbL (fF (xr - 1)) (fE (xr - 1)) fT 6 (bl x (fF (xr - 1)) (fE (xr - 1)) fT xh) y.toNatClampNeg).getD 0))), (4, .int (nI (bl x (fF (xr - 1)) (fE (xr - 1)) fT xh))), (0, .ref (z 0)), (1, .int x), (2, .int y), (3, .int v)]) hx hb d_T_block_64 hl (by decide) rfl (fun ls hl => ?_)
      refine lv_iload hx hb d_T_block_66 (lv_at hl 0 rfl) ?_
      refine lv_iload_n hx hb d_T_block_68 rfl (lv_at hl 4 rfl) ?_
      refine nw_is (y := nI y.toNatClampNeg) (xl_eq h23) ?_
      refine cl_r (v := some (.int (nI (szL 6 y.toNatClampNeg)))) (W.runS (As := [.int (nI y.toNatClampNeg)]) (rest := [.int (nI ((hbL (fF (xr - 1)) (fE (xr - 1)) fT 6 (bl x (fF (xr - 1)) (fE (xr - 1)) fT xh) y.toNatClampNeg).getD 0))]) ⟨hx, hb, hml, hown, hw⟩ (c_T_sizeOf l D y.toNatClampNeg (by omega) s.heap.size) (va_cwS 1 hw g_T_47 rfl rfl rfl ⟨by decide, by decide, by decide +kernel⟩ ⟨by decide, by decide⟩) ⟨PW.blind, PW.pre va_P.nil hK0 va_D.nil hS hA hE⟩ rfl rfl hl.1 rfl (lv_room (Nat.le_of_ble_eq_true rfl)) d_T_block_69 ⟨by decide, by decide⟩) ?_
      have hs69 := szL_le 6 y.toNatClampNeg
      refine nw_add hx hb d_T_block_72 ?_
      refine cl_x (v := none) hlocks hno (vx_runS (As := [.int (nI (((hbL (fF (xr - 1)) (fE (xr - 1)) fT 6 (bl x (fF (xr - 1)) (fE (xr - 1)) fT xh) y.toNatClampNeg).getD 0) + (szL 6 y.toNatClampNeg)))]) (rest := []) ⟨hx, hb, hml, hown, hw⟩ (c_T_requireRoom l hl0 D (((hbL (fF (xr - 1)) (fE (xr - 1)) fT 6 (bl x (fF (xr - 1)) (fE (xr - 1)) fT xh) y.toNatClampNeg).getD 0) + (szL 6 y.toNatClampNeg)) (by omega) s.heap.size) (va_cwS 1 hw g_T_51 rfl rfl rfl ⟨by decide, by decide, by decide +kernel⟩ ⟨by decide, by decide⟩) ⟨PW.blind, PW.pre va_P.nil hK0 va_D.nil hS hA hE⟩ rfl rfl hl.1 rfl (lv_room (Nat.le_of_ble_eq_true rfl)) d_T_block_73 ⟨by decide, by decide⟩) (fun E h73 => by simp only [orE, hk1, h23, h27, h31, hbel, h61, h73]) (fun h73 => ?_)
      have hr73 := rm_le h73
      refine lv_aload_n hx hb d_T_block_76 rfl (lv_at hl 2 rfl) ?_
      refine va_get (D := D) (ci := 0) (C := RT) (T := FT) (N := 10) (v := .int (nI xr)) hx hb hw inT hown hK hP 0 rfl rfl 8 (by decide) (hw _ kF_T_79) (fun _ h9 => h9) rfl d_T_block_77 ?_
      refine lv_bipush (v := nI 40) hx hb d_T_block_80 (by decide) ?_
      refine nw_lt hx hb (tgt := 93) d_T_block_82 (by decide) (by omega) (by omega) (fun h82 => ?_) (fun h82 => ?_)
      · skip
        have h82e : f40 xr = none := if_pos h82
        refine lv_aload_n hx hb d_T_block_93 rfl (lv_at hl 2 rfl) ?_
        refine lv_iload_n hx hb d_T_block_94 rfl (lv_at hl 3 rfl) ?_
        refine nw_is (y := nI x.toNatClampNeg) (kd_eq hkd) ?_
        refine lv_iload_n hx hb d_T_block_95 rfl (lv_at hl 4 rfl) ?_
        refine nw_is (y := nI y.toNatClampNeg) (xl_eq h23) ?_
        refine lv_iload_n hx hb d_T_block_96 rfl (lv_at hl 5 rfl) ?_
        refine nw_is (y := nI v.toNatClampNeg) (xl_eq h27) ?_
        refine lv_iload hx hb d_T_block_97 (lv_at hl 0 rfl) ?_
        refine cl_w (v := none) hD hS hA (W.runV (b := z 0) (C := "TypeStack") (As := [.int (nI x.toNatClampNeg), .int (nI y.toNatClampNeg), .int (nI v.toNatClampNeg), .int (nI ((hbL (fF (xr - 1)) (fE (xr - 1)) fT 6 (bl x (fF (xr - 1)) (fE (xr - 1)) fT xh) y.toNatClampNeg).getD 0))]) (rest := []) ⟨hx, hb, hml, hown, hw⟩ (c_T_addFrame l D z cI cZ fT fK fA fB fF fE xh xg xr xn x.toNatClampNeg y.toNatClampNeg v.toNatClampNeg ((hbL (fF (xr - 1)) (fE (xr - 1)) fT 6 (bl x (fF (xr - 1)) (fE (xr - 1)) fT xh) y.toNatClampNeg).getD 0) (by omega) s.heap.size) (cwV 4 hw g_T_85 rfl rfl rfl ⟨rfl, by decide, by decide, by decide +kernel⟩ ⟨by decide, by decide⟩) ⟨PW.blind, va_recv (q := (RT, FT, 10)) (ci := 0) (q0 := 0) hK hP rfl rfl, PW.pre hP hK hD hS hA hE⟩ rfl rfl hl.1 rfl (lv_room (Nat.le_of_ble_eq_true rfl)) d_T_block_99 ⟨by decide, by decide⟩) (fun H locs hP hD hS => ?_)
        have hP : va_P D cls2 (wT z cI cZ fT (va_up fK xr x.toNatClampNeg) (va_up fA xr y.toNatClampNeg) (va_up fB xr v.toNatClampNeg) (va_up fF xr ((hbL (fF (xr - 1)) (fE (xr - 1)) fT 6 (bl x (fF (xr - 1)) (fE (xr - 1)) fT xh) y.toNatClampNeg).getD 0)) (va_up fE xr 0) xh xg (xr + 1) xn) H := hP
        have hD : va_D (va_A (wT z cI cZ fT fK fA fB fF fE xh xg xr xn) s.heap.size) (wT z cI cZ fT (va_up fK xr x.toNatClampNeg) (va_up fA xr y.toNatClampNeg) (va_up fB xr v.toNatClampNeg) (va_up fF xr ((hbL (fF (xr - 1)) (fE (xr - 1)) fT 6 (bl x (fF (xr - 1)) (fE (xr - 1)) fT xh) y.toNatClampNeg).getD 0)) (va_up fE xr 0) xh xg (xr + 1) xn) := hD
        refine lv_aload_n hx hb d_T_block_102 rfl (lv_at hl 2 rfl) ?_
        refine lv_iload hx hb d_T_block_103 (lv_at hl 0 rfl) ?_
        refine lv_iload_n hx hb d_T_block_105 rfl (lv_at hl 4 rfl) ?_
        refine nw_is (y := nI y.toNatClampNeg) (xl_eq h23) ?_
        refine cl_w (v := none) hD hS hA (W.runV (b := z 0) (C := "TypeStack") (As := [.int (nI ((hbL (fF (xr - 1)) (fE (xr - 1)) fT 6 (bl x (fF (xr - 1)) (fE (xr - 1)) fT xh) y.toNatClampNeg).getD 0)), .int (nI y.toNatClampNeg)]) (rest := []) ⟨hx, hb, hml, hown, hw⟩ (c_T_putList l D z cI cZ fT (va_up fK xr x.toNatClampNeg) (va_up fA xr y.toNatClampNeg) (va_up fB xr v.toNatClampNeg) (va_up fF xr ((hbL (fF (xr - 1)) (fE (xr - 1)) fT 6 (bl x (fF (xr - 1)) (fE (xr - 1)) fT xh) y.toNatClampNeg).getD 0)) (va_up fE xr 0) xh xg (xr + 1) xn ((hbL (fF (xr - 1)) (fE (xr - 1)) fT 6 (bl x (fF (xr - 1)) (fE (xr - 1)) fT xh) y.toNatClampNeg).getD 0) y.toNatClampNeg (by omega) (by omega) (by omega) H.size) (cwV 2 hw g_T_54 rfl rfl rfl ⟨rfl, by decide, by decide, by decide +kernel⟩ ⟨by decide, by decide⟩) ⟨PW.blind, va_recv (q := (RT, FT, 10)) (ci := 0) (q0 := 0) hK hP rfl rfl, PW.pre hP hK hD hS hA hE⟩ rfl rfl hl.1 rfl (lv_room (Nat.le_of_ble_eq_true rfl)) d_T_block_106 ⟨by decide, by decide⟩) (fun H locs hP hD hS => ?_)
        have hP : va_P D cls2 (wT z cI cZ (pl fT ((hbL (fF (xr - 1)) (fE (xr - 1)) fT 6 (bl x (fF (xr - 1)) (fE (xr - 1)) fT xh) y.toNatClampNeg).getD 0) (szL 6 y.toNatClampNeg) y.toNatClampNeg) (va_up fK xr x.toNatClampNeg) (va_up fA xr y.toNatClampNeg) (va_up fB xr v.toNatClampNeg) (va_up fF xr ((hbL (fF (xr - 1)) (fE (xr - 1)) fT 6 (bl x (fF (xr - 1)) (fE (xr - 1)) fT xh) y.toNatClampNeg).getD 0)) (va_up fE xr 0) (((hbL (fF (xr - 1)) (fE (xr - 1)) fT 6 (bl x (fF (xr - 1)) (fE (xr - 1)) fT xh) y.toNatClampNeg).getD 0) + szL 6 y.toNatClampNeg) (max xg (((hbL (fF (xr - 1)) (fE (xr - 1)) fT 6 (bl x (fF (xr - 1)) (fE (xr - 1)) fT xh) y.toNatClampNeg).getD 0) + szL 6 y.toNatClampNeg)) (xr + 1) xn) H := hP
        have hD : va_D (va_A (wT z cI cZ fT fK fA fB fF fE xh xg xr xn) s.heap.size) (wT z cI cZ (pl fT ((hbL (fF (xr - 1)) (fE (xr - 1)) fT 6 (bl x (fF (xr - 1)) (fE (xr - 1)) fT xh) y.toNatClampNeg).getD 0) (szL 6 y.toNatClampNeg) y.toNatClampNeg) (va_up fK xr x.toNatClampNeg) (va_up fA xr y.toNatClampNeg) (va_up fB xr v.toNatClampNeg) (va_up fF xr ((hbL (fF (xr - 1)) (fE (xr - 1)) fT 6 (bl x (fF (xr - 1)) (fE (xr - 1)) fT xh) y.toNatClampNeg).getD 0)) (va_up fE xr 0) (((hbL (fF (xr - 1)) (fE (xr - 1)) fT 6 (bl x (fF (xr - 1)) (fE (xr - 1)) fT xh) y.toNatClampNeg).getD 0) + szL 6 y.toNatClampNeg) (max xg (((hbL (fF (xr - 1)) (fE (xr - 1)) fT 6 (bl x (fF (xr - 1)) (fE (xr - 1)) fT xh) y.toNatClampNeg).getD 0) + szL 6 y.toNatClampNeg)) (xr + 1) xn) := hD
        refine lv_aload_n hx hb d_T_block_109 rfl (lv_at hl 2 rfl) ?_
        refine lv_dup hx hb d_T_block_110 rfl ?_
        refine va_get (D := D) (ci := 0) (C := RT) (T := FT) (N := 10) (v := .int (nI xn)) hx hb hw inT hown hK hP 0 rfl rfl 9 (by decide) (hw _ kF_T_58) (fun _ h9 => h9) rfl d_T_block_111 ?_
        refine lv_iconst (v := nI 1) hx hb d_T_block_114 (by decide) ?_
        refine nw_add hx hb d_T_block_115 ?_
        refine va_put (D := D) (ci := 0) (C := RT) (T := FT) (N := 10) (v := .int (nI (xn + 1))) (ty := .int) hx hb hw inT tT tT_ok nT hown hK hP hD hS 0 rfl rfl 9 (by decide) (hw _ kF_T_58) (fun _ h9 => h9) rfl (by decide +kernel) rfl rfl (Nat.le_of_ble_eq_true rfl) d_T_block_116 (fun H locs hP hD hS => ?_)
        have hP : va_P D cls2 (wT z cI cZ (pl fT ((hbL (fF (xr - 1)) (fE (xr - 1)) fT 6 (bl x (fF (xr - 1)) (fE (xr - 1)) fT xh) y.toNatClampNeg).getD 0) (szL 6 y.toNatClampNeg) y.toNatClampNeg) (va_up fK xr x.toNatClampNeg) (va_up fA xr y.toNatClampNeg) (va_up fB xr v.toNatClampNeg) (va_up fF xr ((hbL (fF (xr - 1)) (fE (xr - 1)) fT 6 (bl x (fF (xr - 1)) (fE (xr - 1)) fT xh) y.toNatClampNeg).getD 0)) (va_up fE xr 0) (((hbL (fF (xr - 1)) (fE (xr - 1)) fT 6 (bl x (fF (xr - 1)) (fE (xr - 1)) fT xh) y.toNatClampNeg).getD 0) + szL 6 y.toNatClampNeg) (max xg (((hbL (fF (xr - 1)) (fE (xr - 1)) fT 6 (bl x (fF (xr - 1)) (fE (xr - 1)) fT xh) y.toNatClampNeg).getD 0) + szL 6 y.toNatClampNeg)) (xr + 1) (xn + 1)) H := hP
        have hD : va_D (va_A (wT z cI cZ fT fK fA fB fF fE xh xg xr xn) s.heap.size) (wT z cI cZ (pl fT ((hbL (fF (xr - 1)) (fE (xr - 1)) fT 6 (bl x (fF (xr - 1)) (fE (xr - 1)) fT xh) y.toNatClampNeg).getD 0) (szL 6 y.toNatClampNeg) y.toNatClampNeg) (va_up fK xr x.toNatClampNeg) (va_up fA xr y.toNatClampNeg) (va_up fB xr v.toNatClampNeg) (va_up fF xr ((hbL (fF (xr - 1)) (fE (xr - 1)) fT 6 (bl x (fF (xr - 1)) (fE (xr - 1)) fT xh) y.toNatClampNeg).getD 0)) (va_up fE xr 0) (((hbL (fF (xr - 1)) (fE (xr - 1)) fT 6 (bl x (fF (xr - 1)) (fE (xr - 1)) fT xh) y.toNatClampNeg).getD 0) + szL 6 y.toNatClampNeg) (max xg (((hbL (fF (xr - 1)) (fE (xr - 1)) fT 6 (bl x (fF (xr - 1)) (fE (xr - 1)) fT xh) y.toNatClampNeg).getD 0) + szL 6 y.toNatClampNeg)) (xr + 1) (xn + 1)) := hD
        refine lv_aload_n hx hb d_T_block_119 rfl (lv_at hl 2 rfl) ?_
        refine va_get (D := D) (ci := 0) (C := RT) (T := FT) (N := 10) (v := .int (nI (xr + 1))) hx hb hw inT hown hK hP 0 rfl rfl 8 (by decide) (hw _ kF_T_79) (fun _ h9 => h9) rfl d_T_block_120 ?_
        have hP : va_P D cls2 (wT z cI cZ (pl fT ((hbL (fF (xr - 1)) (fE (xr - 1)) fT 6 (bl x (fF (xr - 1)) (fE (xr - 1)) fT xh) y.toNatClampNeg).getD 0) (szL 6 y.toNatClampNeg) y.toNatClampNeg) (va_up fK xr x.toNatClampNeg) (va_up fA xr y.toNatClampNeg) (va_up fB xr v.toNatClampNeg) (va_up fF xr ((hbL (fF (xr - 1)) (fE (xr - 1)) fT 6 (bl x (fF (xr - 1)) (fE (xr - 1)) fT xh) y.toNatClampNeg).getD 0)) (va_up fE xr 0) (((hbL (fF (xr - 1)) (fE (xr - 1)) fT 6 (bl x (fF (xr - 1)) (fE (xr - 1)) fT xh) y.toNatClampNeg).getD 0) + szL 6 y.toNatClampNeg) (max xg (((hbL (fF (xr - 1)) (fE (xr - 1)) fT 6 (bl x (fF (xr - 1)) (fE (xr - 1)) fT xh) y.toNatClampNeg).getD 0) + szL 6 y.toNatClampNeg)) (xr + 1) (xn + 1)) H := by exact hP
        have hD : va_D (va_A (wT z cI cZ fT fK fA fB fF fE xh xg xr xn) s.heap.size) (wT z cI cZ (pl fT ((hbL (fF (xr - 1)) (fE (xr - 1)) fT 6 (bl x (fF (xr - 1)) (fE (xr - 1)) fT xh) y.toNatClampNeg).getD 0) (szL 6 y.toNatClampNeg) y.toNatClampNeg) (va_up fK xr x.toNatClampNeg) (va_up fA xr y.toNatClampNeg) (va_up fB xr v.toNatClampNeg) (va_up fF xr ((hbL (fF (xr - 1)) (fE (xr - 1)) fT 6 (bl x (fF (xr - 1)) (fE (xr - 1)) fT xh) y.toNatClampNeg).getD 0)) (va_up fE xr 0) (((hbL (fF (xr - 1)) (fE (xr - 1)) fT 6 (bl x (fF (xr - 1)) (fE (xr - 1)) fT xh) y.toNatClampNeg).getD 0) + szL 6 y.toNatClampNeg) (max xg (((hbL (fF (xr - 1)) (fE (xr - 1)) fT 6 (bl x (fF (xr - 1)) (fE (xr - 1)) fT xh) y.toNatClampNeg).getD 0) + szL 6 y.toNatClampNeg)) (xr + 1) (xn + 1)) := by exact hD
        exact vx_ret (W.widen (k := 1) (n := 6) (by decide) (by decide) (W.iret hx hb hrt (fun t ht _ => ⟨by simp only [orE, hk1, h23, h27, h31, hbel, h61, h73, h82e], ⟨rfl, by rw [ht]; exact hP, hD⟩, hS.F ht⟩) hS.2.2 d_T_block_123))
      · skip
        exact thr_AE hx hb hl0 hown hw hE (va_S.rf) (hl.1.trans hml.symm) d_T_block_85 d_T_block_88 d_T_block_89 d_T_block_92 hno (by decide) (by decide) (by decide) (by decide) hlocks (by simp only [orE, hk1, h23, h27, h31, hbel, h61, h73, f40, if_neg (Nat.not_lt.mpr h82)])
    · skip
      exact absurd (h1.symm.trans h36) (by decide)
  · skip
    refine lv_iload_n hx hb d_T_block_4 rfl (lv_at hl 1 rfl) ?_
    refine lv_iconst (v := nI 1) hx hb d_T_block_5 (by decide) ?_
    refine lv_icmp_eq hx hb (tgt := 22) d_T_block_6 (by decide) (fun h6 => ?_) (fun h6 => ?_)
    · skip
      have hkd : x = 0 ∨ x = nI 1 ∨ x = nI 2 := Or.inr (Or.inl h6)
      have hk1 : xk x = none := if_pos hkd
      refine lv_iload_n hx hb d_T_block_22 rfl (lv_at hl 2 rfl) ?_
      refine cl_x (v := none) hlocks hno (vx_runS (As := [.int y]) (rest := []) ⟨hx, hb, hml, hown, hw⟩ (c_T_requireList l hl0 D y s.heap.size) (va_cwS 1 hw g_T_33 rfl rfl rfl ⟨by decide, by decide, by decide +kernel⟩ ⟨by decide, by decide⟩) ⟨PW.blind, PW.pre va_P.nil hK0 va_D.nil hS hA hE⟩ rfl rfl hl.1 rfl (lv_room (Nat.le_of_ble_eq_true rfl)) d_T_block_23 ⟨by decide, by decide⟩) (fun E h23 => by simp only [orE, hk1, h23]) (fun h23 => ?_)
      have hj23 := xl_lt h23
      refine lv_iload_n hx hb d_T_block_26 rfl (lv_at hl 3 rfl) ?_
      refine cl_x (v := none) hlocks hno (vx_runS (As := [.int v]) (rest := []) ⟨hx, hb, hml, hown, hw⟩ (c_T_requireList l hl0 D v s.heap.size) (va_cwS 1 hw g_T_33 rfl rfl rfl ⟨by decide, by decide, by decide +kernel⟩ ⟨by decide, by decide⟩) ⟨PW.blind, PW.pre va_P.nil hK0 va_D.nil hS hA hE⟩ rfl rfl hl.1 rfl (lv_room (Nat.le_of_ble_eq_true rfl)) d_T_block_27 ⟨by decide, by decide⟩) (fun E h27 => by simp only [orE, hk1, h23, h27]) (fun h27 => ?_)
      have hj27 := xl_lt h27
      refine lv_aload_n hx hb d_T_block_30 rfl (lv_at hl 0 rfl) ?_
      refine cl_x (v := none) hlocks hno (vx_runV (b := z 0) (C := "TypeStack") (As := []) (rest := []) ⟨hx, hb, hml, hown, hw⟩ (c_T_requireFrame l hl0 D z cI cZ fT fK fA fB fF fE xh xg xr xn hi s.heap.size) (cwV 0 hw g_T_36 rfl rfl rfl ⟨rfl, by decide, by decide, by decide +kernel⟩ ⟨by decide, by decide⟩) ⟨PW.blind, va_recv (q := (RT, FT, 10)) (ci := 0) (q0 := 0) hK hP rfl rfl, PW.pre hP hK hD hS hA hE⟩ rfl rfl hl.1 rfl (lv_room (Nat.le_of_ble_eq_true rfl)) d_T_block_31 ⟨by decide, by decide⟩) (fun E h31 => by simp only [orE, hk1, h23, h27, h31]) (fun h31 => ?_)
      have hr31 := nf_pos h31
      refine lv_iload_n hx hb d_T_block_34 rfl (lv_at hl 1 rfl) ?_
      refine lv_iconst (v := nI 2) hx hb d_T_block_35 (by decide) ?_
      refine lv_icmp_ne hx hb (tgt := 51) d_T_block_36 (by decide) (fun h36 => ?_) (fun h36 => ?_)
      · skip
        refine lv_aload_n hx hb d_T_block_51 rfl (lv_at hl 0 rfl) ?_
        refine va_get (D := D) (ci := 0) (C := RT) (T := FT) (N := 10) (v := .int (nI xh)) hx hb hw inT hown hK hP 0 rfl rfl 1 (by decide) (hw _ kF_T_39) (fun _ h9 => h9) rfl d_T_block_52 ?_
        have hbel : xo ISE (bel x (fF (xr - 1)) (fE (xr - 1)) fT xh) = none := by rw [bel_ne h36]; rfl
        have hbl1 : bl x (fF (xr - 1)) (fE (xr - 1)) fT xh ≤ xh := by rw [bl_ne h36]; exact Nat.le_refl _
        refine nw_is (y := nI (bl x (fF (xr - 1)) (fE (xr - 1)) fT xh)) (by rw [bl_ne h36]) ?_
        refine lv_istore (lv' := [(4, .int (nI (bl x (fF (xr - 1)) (fE (xr - 1)) fT xh))), (0, .ref (z 0)), (1, .int x), (2, .int y), (3, .int v)]) hx hb d_T_block_55 hl (by decide) rfl (fun ls hl => ?_)
        refine lv_aload_n hx hb d_T_block_57 rfl (lv_at hl 1 rfl) ?_
        refine lv_iload hx hb d_T_block_58 (lv_at hl 0 rfl) ?_
        refine lv_iload_n hx hb d_T_block_60 rfl (lv_at hl 3 rfl) ?_
        refine nw_is (y := nI y.toNatClampNeg) (xl_eq h23) ?_
        refine cl_x (v := some (.int (nI ((hbL (fF (xr - 1)) (fE (xr - 1)) fT 6 (bl x (fF (xr - 1)) (fE (xr - 1)) fT xh) y.toNatClampNeg).getD 0)))) hlocks hno (vx_runV (b := z 0) (C := "TypeStack") (As := [.int (nI (bl x (fF (xr - 1)) (fE (xr - 1)) fT xh)), .int (nI y.toNatClampNeg)]) (rest := []) ⟨hx, hb, hml, hown, hw⟩ (c_T_heightBelowList l hl0 D z cI cZ fT fK fA fB fF fE xh xg xr xn hi (bl x (fF (xr - 1)) (fE (xr - 1)) fT xh) y.toNatClampNeg (by omega) (by omega) (by omega) s.heap.size) (cwV 2 hw g_T_43 rfl rfl rfl ⟨rfl, by decide, by decide, by decide +kernel⟩ ⟨by decide, by decide⟩) ⟨PW.blind, va_recv (q := (RT, FT, 10)) (ci := 0) (q0 := 0) hK hP rfl rfl, PW.pre hP hK hD hS hA hE⟩ rfl rfl hl.1 rfl (lv_room (Nat.le_of_ble_eq_true rfl)) d_T_block_61 ⟨by decide, by decide⟩) (fun E h61 => by simp only [orE, hk1, h23, h27, h31, hbel, h61]) (fun h61 => ?_)
        have hq61 := hbL_le (fF (xr - 1)) (fE (xr - 1)) fT 6 (bl x (fF (xr - 1)) (fE (xr - 1)) fT xh) y.toNatClampNeg
        refine lv_istore (lv' := [(5, .int (nI ((hbL (fF (xr - 1)) (fE (xr - 1)) fT 6 (bl x (fF (xr - 1)) (fE (xr - 1)) fT xh) y.toNatClampNeg).getD 0))), (4, .int (nI (bl x (fF (xr - 1)) (fE (xr - 1)) fT xh))), (0, .ref (z 0)), (1, .int x), (2, .int y), (3, .int v)]) hx hb d_T_block_64 hl (by decide) rfl (fun ls hl => ?_)
        refine lv_iload hx hb d_T_block_66 (lv_at hl 0 rfl) ?_
        refine lv_iload_n hx hb d_T_block_68 rfl (lv_at hl 4 rfl) ?_
        refine nw_is (y := nI y.toNatClampNeg) (xl_eq h23) ?_
        refine cl_r (v := some (.int (nI (szL 6 y.toNatClampNeg)))) (W.runS (As := [.int (nI y.toNatClampNeg)]) (rest := [.int (nI ((hbL (fF (xr - 1)) (fE (xr - 1)) fT 6 (bl x (fF (xr - 1)) (fE (xr - 1)) fT xh) y.toNatClampNeg).getD 0))]) ⟨hx, hb, hml, hown, hw⟩ (c_T_sizeOf l D y.toNatClampNeg (by omega) s.heap.size) (va_cwS 1 hw g_T_47 rfl rfl rfl ⟨by decide, by decide, by decide +kernel⟩ ⟨by decide, by decide⟩) ⟨PW.blind, PW.pre va_P.nil hK0 va_D.nil hS hA hE⟩ rfl rfl hl.1 rfl (lv_room (Nat.le_of_ble_eq_true rfl)) d_T_block_69 ⟨by decide, by decide⟩) ?_
        have hs69 := szL_le 6 y.toNatClampNeg
        refine nw_add hx hb d_T_block_72 ?_
        refine cl_x (v := none) hlocks hno (vx_runS (As := [.int (nI (((hbL (fF (xr - 1)) (fE (xr - 1)) fT 6 (bl x (fF (xr - 1)) (fE (xr - 1)) fT xh) y.toNatClampNeg).getD 0) + (szL 6 y.toNatClampNeg)))]) (rest := []) ⟨hx, hb, hml, hown, hw⟩ (c_T_requireRoom l hl0 D (((hbL (fF (xr - 1)) (fE (xr - 1)) fT 6 (bl x (fF (xr - 1)) (fE (xr - 1)) fT xh) y.toNatClampNeg).getD 0) + (szL 6 y.toNatClampNeg)) (by omega) s.heap.size) (va_cwS 1 hw g_T_51 rfl rfl rfl ⟨by decide, by decide, by decide +kernel⟩ ⟨by decide, by decide⟩) ⟨PW.blind, PW.pre va_P.nil hK0 va_D.nil hS hA hE⟩ rfl rfl hl.1 rfl (lv_room (Nat.le_of_ble_eq_true rfl)) d_T_block_73 ⟨by decide, by decide⟩) (fun E h73 => by simp only [orE, hk1, h23, h27, h31, hbel, h61, h73]) (fun h73 => ?_)
        have hr73 := rm_le h73
        refine lv_aload_n hx hb d_T_block_76 rfl (lv_at hl 2 rfl) ?_
        refine va_get (D := D) (ci := 0) (C := RT) (T := FT) (N := 10) (v := .int (nI xr)) hx hb hw inT hown hK hP 0 rfl rfl 8 (by decide) (hw _ kF_T_79) (fun _ h9 => h9) rfl d_T_block_77 ?_
        refine lv_bipush (v := nI 40) hx hb d_T_block_80 (by decide) ?_
        refine nw_lt hx hb (tgt := 93) d_T_block_82 (by decide) (by omega) (by omega) (fun h82 => ?_) (fun h82 => ?_)
        · skip
          have h82e : f40 xr = none := if_pos h82
          refine lv_aload_n hx hb d_T_block_93 rfl (lv_at hl 2 rfl) ?_
          refine lv_iload_n hx hb d_T_block_94 rfl (lv_at hl 3 rfl) ?_
          refine nw_is (y := nI x.toNatClampNeg) (kd_eq hkd) ?_
          refine lv_iload_n hx hb d_T_block_95 rfl (lv_at hl 4 rfl) ?_
          refine nw_is (y := nI y.toNatClampNeg) (xl_eq h23) ?_
          refine lv_iload_n hx hb d_T_block_96 rfl (lv_at hl 5 rfl) ?_
          refine nw_is (y := nI v.toNatClampNeg) (xl_eq h27) ?_
          refine lv_iload hx hb d_T_block_97 (lv_at hl 0 rfl) ?_
          refine cl_w (v := none) hD hS hA (W.runV (b := z 0) (C := "TypeStack") (As := [.int (nI x.toNatClampNeg), .int (nI y.toNatClampNeg), .int (nI v.toNatClampNeg), .int (nI ((hbL (fF (xr - 1)) (fE (xr - 1)) fT 6 (bl x (fF (xr - 1)) (fE (xr - 1)) fT xh) y.toNatClampNeg).getD 0))]) (rest := []) ⟨hx, hb, hml, hown, hw⟩ (c_T_addFrame l D z cI cZ fT fK fA fB fF fE xh xg xr xn x.toNatClampNeg y.toNatClampNeg v.toNatClampNeg ((hbL (fF (xr - 1)) (fE (xr - 1)) fT 6 (bl x (fF (xr - 1)) (fE (xr - 1)) fT xh) y.toNatClampNeg).getD 0) (by omega) s.heap.size) (cwV 4 hw g_T_85 rfl rfl rfl ⟨rfl, by decide, by decide, by decide +kernel⟩ ⟨by decide, by decide⟩) ⟨PW.blind, va_recv (q := (RT, FT, 10)) (ci := 0) (q0 := 0) hK hP rfl rfl, PW.pre hP hK hD hS hA hE⟩ rfl rfl hl.1 rfl (lv_room (Nat.le_of_ble_eq_true rfl)) d_T_block_99 ⟨by decide, by decide⟩) (fun H locs hP hD hS => ?_)
          have hP : va_P D cls2 (wT z cI cZ fT (va_up fK xr x.toNatClampNeg) (va_up fA xr y.toNatClampNeg) (va_up fB xr v.toNatClampNeg) (va_up fF xr ((hbL (fF (xr - 1)) (fE (xr - 1)) fT 6 (bl x (fF (xr - 1)) (fE (xr - 1)) fT xh) y.toNatClampNeg).getD 0)) (va_up fE xr 0) xh xg (xr + 1) xn) H := hP
          have hD : va_D (va_A (wT z cI cZ fT fK fA fB fF fE xh xg xr xn) s.heap.size) (wT z cI cZ fT (va_up fK xr x.toNatClampNeg) (va_up fA xr y.toNatClampNeg) (va_up fB xr v.toNatClampNeg) (va_up fF xr ((hbL (fF (xr - 1)) (fE (xr - 1)) fT 6 (bl x (fF (xr - 1)) (fE (xr - 1)) fT xh) y.toNatClampNeg).getD 0)) (va_up fE xr 0) xh xg (xr + 1) xn) := hD
          refine lv_aload_n hx hb d_T_block_102 rfl (lv_at hl 2 rfl) ?_
          refine lv_iload hx hb d_T_block_103 (lv_at hl 0 rfl) ?_
          refine lv_iload_n hx hb d_T_block_105 rfl (lv_at hl 4 rfl) ?_
          refine nw_is (y := nI y.toNatClampNeg) (xl_eq h23) ?_
          refine cl_w (v := none) hD hS hA (W.runV (b := z 0) (C := "TypeStack") (As := [.int (nI ((hbL (fF (xr - 1)) (fE (xr - 1)) fT 6 (bl x (fF (xr - 1)) (fE (xr - 1)) fT xh) y.toNatClampNeg).getD 0)), .int (nI y.toNatClampNeg)]) (rest := []) ⟨hx, hb, hml, hown, hw⟩ (c_T_putList l D z cI cZ fT (va_up fK xr x.toNatClampNeg) (va_up fA xr y.toNatClampNeg) (va_up fB xr v.toNatClampNeg) (va_up fF xr ((hbL (fF (xr - 1)) (fE (xr - 1)) fT 6 (bl x (fF (xr - 1)) (fE (xr - 1)) fT xh) y.toNatClampNeg).getD 0)) (va_up fE xr 0) xh xg (xr + 1) xn ((hbL (fF (xr - 1)) (fE (xr - 1)) fT 6 (bl x (fF (xr - 1)) (fE (xr - 1)) fT xh) y.toNatClampNeg).getD 0) y.toNatClampNeg (by omega) (by omega) (by omega) H.size) (cwV 2 hw g_T_54 rfl rfl rfl ⟨rfl, by decide, by decide, by decide +kernel⟩ ⟨by decide, by decide⟩) ⟨PW.blind, va_recv (q := (RT, FT, 10)) (ci := 0) (q0 := 0) hK hP rfl rfl, PW.pre hP hK hD hS hA hE⟩ rfl rfl hl.1 rfl (lv_room (Nat.le_of_ble_eq_true rfl)) d_T_block_106 ⟨by decide, by decide⟩) (fun H locs hP hD hS => ?_)
          have hP : va_P D cls2 (wT z cI cZ (pl fT ((hbL (fF (xr - 1)) (fE (xr - 1)) fT 6 (bl x (fF (xr - 1)) (fE (xr - 1)) fT xh) y.toNatClampNeg).getD 0) (szL 6 y.toNatClampNeg) y.toNatClampNeg) (va_up fK xr x.toNatClampNeg) (va_up fA xr y.toNatClampNeg) (va_up fB xr v.toNatClampNeg) (va_up fF xr ((hbL (fF (xr - 1)) (fE (xr - 1)) fT 6 (bl x (fF (xr - 1)) (fE (xr - 1)) fT xh) y.toNatClampNeg).getD 0)) (va_up fE xr 0) (((hbL (fF (xr - 1)) (fE (xr - 1)) fT 6 (bl x (fF (xr - 1)) (fE (xr - 1)) fT xh) y.toNatClampNeg).getD 0) + szL 6 y.toNatClampNeg) (max xg (((hbL (fF (xr - 1)) (fE (xr - 1)) fT 6 (bl x (fF (xr - 1)) (fE (xr - 1)) fT xh) y.toNatClampNeg).getD 0) + szL 6 y.toNatClampNeg)) (xr + 1) xn) H := hP
          have hD : va_D (va_A (wT z cI cZ fT fK fA fB fF fE xh xg xr xn) s.heap.size) (wT z cI cZ (pl fT ((hbL (fF (xr - 1)) (fE (xr - 1)) fT 6 (bl x (fF (xr - 1)) (fE (xr - 1)) fT xh) y.toNatClampNeg).getD 0) (szL 6 y.toNatClampNeg) y.toNatClampNeg) (va_up fK xr x.toNatClampNeg) (va_up fA xr y.toNatClampNeg) (va_up fB xr v.toNatClampNeg) (va_up fF xr ((hbL (fF (xr - 1)) (fE (xr - 1)) fT 6 (bl x (fF (xr - 1)) (fE (xr - 1)) fT xh) y.toNatClampNeg).getD 0)) (va_up fE xr 0) (((hbL (fF (xr - 1)) (fE (xr - 1)) fT 6 (bl x (fF (xr - 1)) (fE (xr - 1)) fT xh) y.toNatClampNeg).getD 0) + szL 6 y.toNatClampNeg) (max xg (((hbL (fF (xr - 1)) (fE (xr - 1)) fT 6 (bl x (fF (xr - 1)) (fE (xr - 1)) fT xh) y.toNatClampNeg).getD 0) + szL 6 y.toNatClampNeg)) (xr + 1) xn) := hD
          refine lv_aload_n hx hb d_T_block_109 rfl (lv_at hl 2 rfl) ?_
          refine lv_dup hx hb d_T_block_110 rfl ?_
          refine va_get (D := D) (ci := 0) (C := RT) (T := FT) (N := 10) (v := .int (nI xn)) hx hb hw inT hown hK hP 0 rfl rfl 9 (by decide) (hw _ kF_T_58) (fun _ h9 => h9) rfl d_T_block_111 ?_
          refine lv_iconst (v := nI 1) hx hb d_T_block_114 (by decide) ?_
          refine nw_add hx hb d_T_block_115 ?_
          refine va_put (D := D) (ci := 0) (C := RT) (T := FT) (N := 10) (v := .int (nI (xn + 1))) (ty := .int) hx hb hw inT tT tT_ok nT hown hK hP hD hS 0 rfl rfl 9 (by decide) (hw _ kF_T_58) (fun _ h9 => h9) rfl (by decide +kernel) rfl rfl (Nat.le_of_ble_eq_true rfl) d_T_block_116 (fun H locs hP hD hS => ?_)
          have hP : va_P D cls2 (wT z cI cZ (pl fT ((hbL (fF (xr - 1)) (fE (xr - 1)) fT 6 (bl x (fF (xr - 1)) (fE (xr - 1)) fT xh) y.toNatClampNeg).getD 0) (szL 6 y.toNatClampNeg) y.toNatClampNeg) (va_up fK xr x.toNatClampNeg) (va_up fA xr y.toNatClampNeg) (va_up fB xr v.toNatClampNeg) (va_up fF xr ((hbL (fF (xr - 1)) (fE (xr - 1)) fT 6 (bl x (fF (xr - 1)) (fE (xr - 1)) fT xh) y.toNatClampNeg).getD 0)) (va_up fE xr 0) (((hbL (fF (xr - 1)) (fE (xr - 1)) fT 6 (bl x (fF (xr - 1)) (fE (xr - 1)) fT xh) y.toNatClampNeg).getD 0) + szL 6 y.toNatClampNeg) (max xg (((hbL (fF (xr - 1)) (fE (xr - 1)) fT 6 (bl x (fF (xr - 1)) (fE (xr - 1)) fT xh) y.toNatClampNeg).getD 0) + szL 6 y.toNatClampNeg)) (xr + 1) (xn + 1)) H := hP
          have hD : va_D (va_A (wT z cI cZ fT fK fA fB fF fE xh xg xr xn) s.heap.size) (wT z cI cZ (pl fT ((hbL (fF (xr - 1)) (fE (xr - 1)) fT 6 (bl x (fF (xr - 1)) (fE (xr - 1)) fT xh) y.toNatClampNeg).getD 0) (szL 6 y.toNatClampNeg) y.toNatClampNeg) (va_up fK xr x.toNatClampNeg) (va_up fA xr y.toNatClampNeg) (va_up fB xr v.toNatClampNeg) (va_up fF xr ((hbL (fF (xr - 1)) (fE (xr - 1)) fT 6 (bl x (fF (xr - 1)) (fE (xr - 1)) fT xh) y.toNatClampNeg).getD 0)) (va_up fE xr 0) (((hbL (fF (xr - 1)) (fE (xr - 1)) fT 6 (bl x (fF (xr - 1)) (fE (xr - 1)) fT xh) y.toNatClampNeg).getD 0) + szL 6 y.toNatClampNeg) (max xg (((hbL (fF (xr - 1)) (fE (xr - 1)) fT 6 (bl x (fF (xr - 1)) (fE (xr - 1)) fT xh) y.toNatClampNeg).getD 0) + szL 6 y.toNatClampNeg)) (xr + 1) (xn + 1)) := hD
          refine lv_aload_n hx hb d_T_block_119 rfl (lv_at hl 2 rfl) ?_
          refine va_get (D := D) (ci := 0) (C := RT) (T := FT) (N := 10) (v := .int (nI (xr + 1))) hx hb hw inT hown hK hP 0 rfl rfl 8 (by decide) (hw _ kF_T_79) (fun _ h9 => h9) rfl d_T_block_120 ?_
          have hP : va_P D cls2 (wT z cI cZ (pl fT ((hbL (fF (xr - 1)) (fE (xr - 1)) fT 6 (bl x (fF (xr - 1)) (fE (xr - 1)) fT xh) y.toNatClampNeg).getD 0) (szL 6 y.toNatClampNeg) y.toNatClampNeg) (va_up fK xr x.toNatClampNeg) (va_up fA xr y.toNatClampNeg) (va_up fB xr v.toNatClampNeg) (va_up fF xr ((hbL (fF (xr - 1)) (fE (xr - 1)) fT 6 (bl x (fF (xr - 1)) (fE (xr - 1)) fT xh) y.toNatClampNeg).getD 0)) (va_up fE xr 0) (((hbL (fF (xr - 1)) (fE (xr - 1)) fT 6 (bl x (fF (xr - 1)) (fE (xr - 1)) fT xh) y.toNatClampNeg).getD 0) + szL 6 y.toNatClampNeg) (max xg (((hbL (fF (xr - 1)) (fE (xr - 1)) fT 6 (bl x (fF (xr - 1)) (fE (xr - 1)) fT xh) y.toNatClampNeg).getD 0) + szL 6 y.toNatClampNeg)) (xr + 1) (xn + 1)) H := by exact hP
          have hD : va_D (va_A (wT z cI cZ fT fK fA fB fF fE xh xg xr xn) s.heap.size) (wT z cI cZ (pl fT ((hbL (fF (xr - 1)) (fE (xr - 1)) fT 6 (bl x (fF (xr - 1)) (fE (xr - 1)) fT xh) y.toNatClampNeg).getD 0) (szL 6 y.toNatClampNeg) y.toNatClampNeg) (va_up fK xr x.toNatClampNeg) (va_up fA xr y.toNatClampNeg) (va_up fB xr v.toNatClampNeg) (va_up fF xr ((hbL (fF (xr - 1)) (fE (xr - 1)) fT 6 (bl x (fF (xr - 1)) (fE (xr - 1)) fT xh) y.toNatClampNeg).getD 0)) (va_up fE xr 0) (((hbL (fF (xr - 1)) (fE (xr - 1)) fT 6 (bl x (fF (xr - 1)) (fE (xr - 1)) fT xh) y.toNatClampNeg).getD 0) + szL 6 y.toNatClampNeg) (max xg (((hbL (fF (xr - 1)) (fE (xr - 1)) fT 6 (bl x (fF (xr - 1)) (fE (xr - 1)) fT xh) y.toNatClampNeg).getD 0) + szL 6 y.toNatClampNeg)) (xr + 1) (xn + 1)) := by exact hD
          exact vx_ret (W.widen (k := 1) (n := 6) (by decide) (by decide) (W.iret hx hb hrt (fun t ht _ => ⟨by simp only [orE, hk1, h23, h27, h31, hbel, h61, h73, h82e], ⟨rfl, by rw [ht]; exact hP, hD⟩, hS.F ht⟩) hS.2.2 d_T_block_123))
        · skip
          exact thr_AE hx hb hl0 hown hw hE (va_S.rf) (hl.1.trans hml.symm) d_T_block_85 d_T_block_88 d_T_block_89 d_T_block_92 hno (by decide) (by decide) (by decide) (by decide) hlocks (by simp only [orE, hk1, h23, h27, h31, hbel, h61, h73, f40, if_neg (Nat.not_lt.mpr h82)])
      · skip
        exact absurd (h6.symm.trans h36) (by decide)
    · skip
      refine lv_iload_n hx hb d_T_block_9 rfl (lv_at hl 1 rfl) ?_
      refine lv_iconst (v := nI 2) hx hb d_T_block_10 (by decide) ?_
      refine lv_icmp_eq hx hb (tgt := 22) d_T_block_11 (by decide) (fun h11 => ?_) (fun h11 => ?_)
      · skip
        have hkd : x = 0 ∨ x = nI 1 ∨ x = nI 2 := Or.inr (Or.inr h11)
        have hk1 : xk x = none := if_pos hkd
        refine lv_iload_n hx hb d_T_block_22 rfl (lv_at hl 2 rfl) ?_
        refine cl_x (v := none) hlocks hno (vx_runS (As := [.int y]) (rest := []) ⟨hx, hb, hml, hown, hw⟩ (c_T_requireList l hl0 D y s.heap.size) (va_cwS 1 hw g_T_33 rfl rfl rfl ⟨by decide, by decide, by decide +kernel⟩ ⟨by decide, by decide⟩) ⟨PW.blind, PW.pre va_P.nil hK0 va_D.nil hS hA hE⟩ rfl rfl hl.1 rfl (lv_room (Nat.le_of_ble_eq_true rfl)) d_T_block_23 ⟨by decide, by decide⟩) (fun E h23 => by simp only [orE, hk1, h23]) (fun h23 => ?_)
        have hj23 := xl_lt h23
        refine lv_iload_n hx hb d_T_block_26 rfl (lv_at hl 3 rfl) ?_
        refine cl_x (v := none) hlocks hno (vx_runS (As := [.int v]) (rest := []) ⟨hx, hb, hml, hown, hw⟩ (c_T_requireList l hl0 D v s.heap.size) (va_cwS 1 hw g_T_33 rfl rfl rfl ⟨by decide, by decide, by decide +kernel⟩ ⟨by decide, by decide⟩) ⟨PW.blind, PW.pre va_P.nil hK0 va_D.nil hS hA hE⟩ rfl rfl hl.1 rfl (lv_room (Nat.le_of_ble_eq_true rfl)) d_T_block_27 ⟨by decide, by decide⟩) (fun E h27 => by simp only [orE, hk1, h23, h27]) (fun h27 => ?_)
        have hj27 := xl_lt h27
        refine lv_aload_n hx hb d_T_block_30 rfl (lv_at hl 0 rfl) ?_
        refine cl_x (v := none) hlocks hno (vx_runV (b := z 0) (C := "TypeStack") (As := []) (rest := []) ⟨hx, hb, hml, hown, hw⟩ (c_T_requireFrame l hl0 D z cI cZ fT fK fA fB fF fE xh xg xr xn hi s.heap.size) (cwV 0 hw g_T_36 rfl rfl rfl ⟨rfl, by decide, by decide, by decide +kernel⟩ ⟨by decide, by decide⟩) ⟨PW.blind, va_recv (q := (RT, FT, 10)) (ci := 0) (q0 := 0) hK hP rfl rfl, PW.pre hP hK hD hS hA hE⟩ rfl rfl hl.1 rfl (lv_room (Nat.le_of_ble_eq_true rfl)) d_T_block_31 ⟨by decide, by decide⟩) (fun E h31 => by simp only [orE, hk1, h23, h27, h31]) (fun h31 => ?_)
        have hr31 := nf_pos h31
        refine lv_iload_n hx hb d_T_block_34 rfl (lv_at hl 1 rfl) ?_
        refine lv_iconst (v := nI 2) hx hb d_T_block_35 (by decide) ?_
        refine lv_icmp_ne hx hb (tgt := 51) d_T_block_36 (by decide) (fun h36 => ?_) (fun h36 => ?_)
        · skip
          exact absurd h11 h36
        · skip
          refine lv_aload_n hx hb d_T_block_39 rfl (lv_at hl 0 rfl) ?_
          refine lv_aload_n hx hb d_T_block_40 rfl (lv_at hl 0 rfl) ?_
          refine va_get (D := D) (ci := 0) (C := RT) (T := FT) (N := 10) (v := .int (nI xh)) hx hb hw inT hown hK hP 0 rfl rfl 1 (by decide) (hw _ kF_T_39) (fun _ h9 => h9) rfl d_T_block_41 ?_
          refine lv_iconst (v := nI 1) hx hb d_T_block_44 (by decide) ?_
          refine cl_x (v := some (.int (nI ((hbT (fF (xr - 1)) (fE (xr - 1)) fT xh 1).getD 0)))) hlocks hno (vx_runV (b := z 0) (C := "TypeStack") (As := [.int (nI xh), .int (nI 1)]) (rest := []) ⟨hx, hb, hml, hown, hw⟩ (c_T_heightBelowType l hl0 D z cI cZ fT fK fA fB fF fE xh xg xr xn hi xh 1 (by omega) (by omega) (by omega) s.heap.size) (cwV 2 hw g_T_67 rfl rfl rfl ⟨rfl, by decide, by decide, by decide +kernel⟩ ⟨by decide, by decide⟩) ⟨PW.blind, va_recv (q := (RT, FT, 10)) (ci := 0) (q0 := 0) hK hP rfl rfl, PW.pre hP hK hD hS hA hE⟩ rfl rfl hl.1 rfl (lv_room (Nat.le_of_ble_eq_true rfl)) d_T_block_45 ⟨by decide, by decide⟩) (fun E h45 => by simp only [orE, hk1, h23, h27, h31, bel_eq h36, h45]) (fun h45 => ?_)
          have hq45 := hbT_le (fF (xr - 1)) (fE (xr - 1)) fT xh 1
          refine lv_goto hx hb d_T_block_48 (tgt := 55) (by decide) ?_
          have hbel : xo ISE (bel x (fF (xr - 1)) (fE (xr - 1)) fT xh) = none := by rw [bel_eq h36]; exact h45
          have hbl1 : bl x (fF (xr - 1)) (fE (xr - 1)) fT xh ≤ xh := by rw [bl_eq h36]; exact hq45
          refine nw_is (y := nI (bl x (fF (xr - 1)) (fE (xr - 1)) fT xh)) (by rw [bl_eq h36]) ?_
          refine lv_istore (lv' := [(4, .int (nI (bl x (fF (xr - 1)) (fE (xr - 1)) fT xh))), (0, .ref (z 0)), (1, .int x), (2, .int y), (3, .int v)]) hx hb d_T_block_55 hl (by decide) rfl (fun ls hl => ?_)
          refine lv_aload_n hx hb d_T_block_57 rfl (lv_at hl 1 rfl) ?_
          refine lv_iload hx hb d_T_block_58 (lv_at hl 0 rfl) ?_
          refine lv_iload_n hx hb d_T_block_60 rfl (lv_at hl 3 rfl) ?_
          refine nw_is (y := nI y.toNatClampNeg) (xl_eq h23) ?_
          refine cl_x (v := some (.int (nI ((hbL (fF (xr - 1)) (fE (xr - 1)) fT 6 (bl x (fF (xr - 1)) (fE (xr - 1)) fT xh) y.toNatClampNeg).getD 0)))) hlocks hno (vx_runV (b := z 0) (C := "TypeStack") (As := [.int (nI (bl x (fF (xr - 1)) (fE (xr - 1)) fT xh)), .int (nI y.toNatClampNeg)]) (rest := []) ⟨hx, hb, hml, hown, hw⟩ (c_T_heightBelowList l hl0 D z cI cZ fT fK fA fB fF fE xh xg xr xn hi (bl x (fF (xr - 1)) (fE (xr - 1)) fT xh) y.toNatClampNeg (by omega) (by omega) (by omega) s.heap.size) (cwV 2 hw g_T_43 rfl rfl rfl ⟨rfl, by decide, by decide, by decide +kernel⟩ ⟨by decide, by decide⟩) ⟨PW.blind, va_recv (q := (RT, FT, 10)) (ci := 0) (q0 := 0) hK hP rfl rfl, PW.pre hP hK hD hS hA hE⟩ rfl rfl hl.1 rfl (lv_room (Nat.le_of_ble_eq_true rfl)) d_T_block_61 ⟨by decide, by decide⟩) (fun E h61 => by simp only [orE, hk1, h23, h27, h31, hbel, h61]) (fun h61 => ?_)
          have hq61 := hbL_le (fF (xr - 1)) (fE (xr - 1)) fT 6 (bl x (fF (xr - 1)) (fE (xr - 1)) fT xh) y.toNatClampNeg
          refine lv_istore (lv' := [(5, .int (nI ((hbL (fF (xr - 1)) (fE (xr - 1)) fT 6 (bl x (fF (xr - 1)) (fE (xr - 1)) fT xh) y.toNatClampNeg).getD 0))), (4, .int (nI (bl x (fF (xr - 1)) (fE (xr - 1)) fT xh))), (0, .ref (z 0)), (1, .int x), (2, .int y), (3, .int v)]) hx hb d_T_block_64 hl (by decide) rfl (fun ls hl => ?_)
          refine lv_iload hx hb d_T_block_66 (lv_at hl 0 rfl) ?_
          refine lv_iload_n hx hb d_T_block_68 rfl (lv_at hl 4 rfl) ?_
          refine nw_is (y := nI y.toNatClampNeg) (xl_eq h23) ?_
          refine cl_r (v := some (.int (nI (szL 6 y.toNatClampNeg)))) (W.runS (As := [.int (nI y.toNatClampNeg)]) (rest := [.int (nI ((hbL (fF (xr - 1)) (fE (xr - 1)) fT 6 (bl x (fF (xr - 1)) (fE (xr - 1)) fT xh) y.toNatClampNeg).getD 0))]) ⟨hx, hb, hml, hown, hw⟩ (c_T_sizeOf l D y.toNatClampNeg (by omega) s.heap.size) (va_cwS 1 hw g_T_47 rfl rfl rfl ⟨by decide, by decide, by decide +kernel⟩ ⟨by decide, by decide⟩) ⟨PW.blind, PW.pre va_P.nil hK0 va_D.nil hS hA hE⟩ rfl rfl hl.1 rfl (lv_room (Nat.le_of_ble_eq_true rfl)) d_T_block_69 ⟨by decide, by decide⟩) ?_
          have hs69 := szL_le 6 y.toNatClampNeg
          refine nw_add hx hb d_T_block_72 ?_
          refine cl_x (v := none) hlocks hno (vx_runS (As := [.int (nI (((hbL (fF (xr - 1)) (fE (xr - 1)) fT 6 (bl x (fF (xr - 1)) (fE (xr - 1)) fT xh) y.toNatClampNeg).getD 0) + (szL 6 y.toNatClampNeg)))]) (rest := []) ⟨hx, hb, hml, hown, hw⟩ (c_T_requireRoom l hl0 D (((hbL (fF (xr - 1)) (fE (xr - 1)) fT 6 (bl x (fF (xr - 1)) (fE (xr - 1)) fT xh) y.toNatClampNeg).getD 0) + (szL 6 y.toNatClampNeg)) (by omega) s.heap.size) (va_cwS 1 hw g_T_51 rfl rfl rfl ⟨by decide, by decide, by decide +kernel⟩ ⟨by decide, by decide⟩) ⟨PW.blind, PW.pre va_P.nil hK0 va_D.nil hS hA hE⟩ rfl rfl hl.1 rfl (lv_room (Nat.le_of_ble_eq_true rfl)) d_T_block_73 ⟨by decide, by decide⟩) (fun E h73 => by simp only [orE, hk1, h23, h27, h31, hbel, h61, h73]) (fun h73 => ?_)
          have hr73 := rm_le h73
          refine lv_aload_n hx hb d_T_block_76 rfl (lv_at hl 2 rfl) ?_
          refine va_get (D := D) (ci := 0) (C := RT) (T := FT) (N := 10) (v := .int (nI xr)) hx hb hw inT hown hK hP 0 rfl rfl 8 (by decide) (hw _ kF_T_79) (fun _ h9 => h9) rfl d_T_block_77 ?_
          refine lv_bipush (v := nI 40) hx hb d_T_block_80 (by decide) ?_
          refine nw_lt hx hb (tgt := 93) d_T_block_82 (by decide) (by omega) (by omega) (fun h82 => ?_) (fun h82 => ?_)
          · skip
            have h82e : f40 xr = none := if_pos h82
            refine lv_aload_n hx hb d_T_block_93 rfl (lv_at hl 2 rfl) ?_
            refine lv_iload_n hx hb d_T_block_94 rfl (lv_at hl 3 rfl) ?_
            refine nw_is (y := nI x.toNatClampNeg) (kd_eq hkd) ?_
            refine lv_iload_n hx hb d_T_block_95 rfl (lv_at hl 4 rfl) ?_
            refine nw_is (y := nI y.toNatClampNeg) (xl_eq h23) ?_
            refine lv_iload_n hx hb d_T_block_96 rfl (lv_at hl 5 rfl) ?_
            refine nw_is (y := nI v.toNatClampNeg) (xl_eq h27) ?_
            refine lv_iload hx hb d_T_block_97 (lv_at hl 0 rfl) ?_
            refine cl_w (v := none) hD hS hA (W.runV (b := z 0) (C := "TypeStack") (As := [.int (nI x.toNatClampNeg), .int (nI y.toNatClampNeg), .int (nI v.toNatClampNeg), .int (nI ((hbL (fF (xr - 1)) (fE (xr - 1)) fT 6 (bl x (fF (xr - 1)) (fE (xr - 1)) fT xh) y.toNatClampNeg).getD 0))]) (rest := []) ⟨hx, hb, hml, hown, hw⟩ (c_T_addFrame l D z cI cZ fT fK fA fB fF fE xh xg xr xn x.toNatClampNeg y.toNatClampNeg v.toNatClampNeg ((hbL (fF (xr - 1)) (fE (xr - 1)) fT 6 (bl x (fF (xr - 1)) (fE (xr - 1)) fT xh) y.toNatClampNeg).getD 0) (by omega) s.heap.size) (cwV 4 hw g_T_85 rfl rfl rfl ⟨rfl, by decide, by decide, by decide +kernel⟩ ⟨by decide, by decide⟩) ⟨PW.blind, va_recv (q := (RT, FT, 10)) (ci := 0) (q0 := 0) hK hP rfl rfl, PW.pre hP hK hD hS hA hE⟩ rfl rfl hl.1 rfl (lv_room (Nat.le_of_ble_eq_true rfl)) d_T_block_99 ⟨by decide, by decide⟩) (fun H locs hP hD hS => ?_)
            have hP : va_P D cls2 (wT z cI cZ fT (va_up fK xr x.toNatClampNeg) (va_up fA xr y.toNatClampNeg) (va_up fB xr v.toNatClampNeg) (va_up fF xr ((hbL (fF (xr - 1)) (fE (xr - 1)) fT 6 (bl x (fF (xr - 1)) (fE (xr - 1)) fT xh) y.toNatClampNeg).getD 0)) (va_up fE xr 0) xh xg (xr + 1) xn) H := hP
            have hD : va_D (va_A (wT z cI cZ fT fK fA fB fF fE xh xg xr xn) s.heap.size) (wT z cI cZ fT (va_up fK xr x.toNatClampNeg) (va_up fA xr y.toNatClampNeg) (va_up fB xr v.toNatClampNeg) (va_up fF xr ((hbL (fF (xr - 1)) (fE (xr - 1)) fT 6 (bl x (fF (xr - 1)) (fE (xr - 1)) fT xh) y.toNatClampNeg).getD 0)) (va_up fE xr 0) xh xg (xr + 1) xn) := hD
            refine lv_aload_n hx hb d_T_block_102 rfl (lv_at hl 2 rfl) ?_
            refine lv_iload hx hb d_T_block_103 (lv_at hl 0 rfl) ?_
            refine lv_iload_n hx hb d_T_block_105 rfl (lv_at hl 4 rfl) ?_
            refine nw_is (y := nI y.toNatClampNeg) (xl_eq h23) ?_
            refine cl_w (v := none) hD hS hA (W.runV (b := z 0) (C := "TypeStack") (As := [.int (nI ((hbL (fF (xr - 1)) (fE (xr - 1)) fT 6 (bl x (fF (xr - 1)) (fE (xr - 1)) fT xh) y.toNatClampNeg).getD 0)), .int (nI y.toNatClampNeg)]) (rest := []) ⟨hx, hb, hml, hown, hw⟩ (c_T_putList l D z cI cZ fT (va_up fK xr x.toNatClampNeg) (va_up fA xr y.toNatClampNeg) (va_up fB xr v.toNatClampNeg) (va_up fF xr ((hbL (fF (xr - 1)) (fE (xr - 1)) fT 6 (bl x (fF (xr - 1)) (fE (xr - 1)) fT xh) y.toNatClampNeg).getD 0)) (va_up fE xr 0) xh xg (xr + 1) xn ((hbL (fF (xr - 1)) (fE (xr - 1)) fT 6 (bl x (fF (xr - 1)) (fE (xr - 1)) fT xh) y.toNatClampNeg).getD 0) y.toNatClampNeg (by omega) (by omega) (by omega) H.size) (cwV 2 hw g_T_54 rfl rfl rfl ⟨rfl, by decide, by decide, by decide +kernel⟩ ⟨by decide, by decide⟩) ⟨PW.blind, va_recv (q := (RT, FT, 10)) (ci := 0) (q0 := 0) hK hP rfl rfl, PW.pre hP hK hD hS hA hE⟩ rfl rfl hl.1 rfl (lv_room (Nat.le_of_ble_eq_true rfl)) d_T_block_106 ⟨by decide, by decide⟩) (fun H locs hP hD hS => ?_)
            have hP : va_P D cls2 (wT z cI cZ (pl fT ((hbL (fF (xr - 1)) (fE (xr - 1)) fT 6 (bl x (fF (xr - 1)) (fE (xr - 1)) fT xh) y.toNatClampNeg).getD 0) (szL 6 y.toNatClampNeg) y.toNatClampNeg) (va_up fK xr x.toNatClampNeg) (va_up fA xr y.toNatClampNeg) (va_up fB xr v.toNatClampNeg) (va_up fF xr ((hbL (fF (xr - 1)) (fE (xr - 1)) fT 6 (bl x (fF (xr - 1)) (fE (xr - 1)) fT xh) y.toNatClampNeg).getD 0)) (va_up fE xr 0) (((hbL (fF (xr - 1)) (fE (xr - 1)) fT 6 (bl x (fF (xr - 1)) (fE (xr - 1)) fT xh) y.toNatClampNeg).getD 0) + szL 6 y.toNatClampNeg) (max xg (((hbL (fF (xr - 1)) (fE (xr - 1)) fT 6 (bl x (fF (xr - 1)) (fE (xr - 1)) fT xh) y.toNatClampNeg).getD 0) + szL 6 y.toNatClampNeg)) (xr + 1) xn) H := hP
            have hD : va_D (va_A (wT z cI cZ fT fK fA fB fF fE xh xg xr xn) s.heap.size) (wT z cI cZ (pl fT ((hbL (fF (xr - 1)) (fE (xr - 1)) fT 6 (bl x (fF (xr - 1)) (fE (xr - 1)) fT xh) y.toNatClampNeg).getD 0) (szL 6 y.toNatClampNeg) y.toNatClampNeg) (va_up fK xr x.toNatClampNeg) (va_up fA xr y.toNatClampNeg) (va_up fB xr v.toNatClampNeg) (va_up fF xr ((hbL (fF (xr - 1)) (fE (xr - 1)) fT 6 (bl x (fF (xr - 1)) (fE (xr - 1)) fT xh) y.toNatClampNeg).getD 0)) (va_up fE xr 0) (((hbL (fF (xr - 1)) (fE (xr - 1)) fT 6 (bl x (fF (xr - 1)) (fE (xr - 1)) fT xh) y.toNatClampNeg).getD 0) + szL 6 y.toNatClampNeg) (max xg (((hbL (fF (xr - 1)) (fE (xr - 1)) fT 6 (bl x (fF (xr - 1)) (fE (xr - 1)) fT xh) y.toNatClampNeg).getD 0) + szL 6 y.toNatClampNeg)) (xr + 1) xn) := hD
            refine lv_aload_n hx hb d_T_block_109 rfl (lv_at hl 2 rfl) ?_
            refine lv_dup hx hb d_T_block_110 rfl ?_
            refine va_get (D := D) (ci := 0) (C := RT) (T := FT) (N := 10) (v := .int (nI xn)) hx hb hw inT hown hK hP 0 rfl rfl 9 (by decide) (hw _ kF_T_58) (fun _ h9 => h9) rfl d_T_block_111 ?_
            refine lv_iconst (v := nI 1) hx hb d_T_block_114 (by decide) ?_
            refine nw_add hx hb d_T_block_115 ?_
            refine va_put (D := D) (ci := 0) (C := RT) (T := FT) (N := 10) (v := .int (nI (xn + 1))) (ty := .int) hx hb hw inT tT tT_ok nT hown hK hP hD hS 0 rfl rfl 9 (by decide) (hw _ kF_T_58) (fun _ h9 => h9) rfl (by decide +kernel) rfl rfl (Nat.le_of_ble_eq_true rfl) d_T_block_116 (fun H locs hP hD hS => ?_)
            have hP : va_P D cls2 (wT z cI cZ (pl fT ((hbL (fF (xr - 1)) (fE (xr - 1)) fT 6 (bl x (fF (xr - 1)) (fE (xr - 1)) fT xh) y.toNatClampNeg).getD 0) (szL 6 y.toNatClampNeg) y.toNatClampNeg) (va_up fK xr x.toNatClampNeg) (va_up fA xr y.toNatClampNeg) (va_up fB xr v.toNatClampNeg) (va_up fF xr ((hbL (fF (xr - 1)) (fE (xr - 1)) fT 6 (bl x (fF (xr - 1)) (fE (xr - 1)) fT xh) y.toNatClampNeg).getD 0)) (va_up fE xr 0) (((hbL (fF (xr - 1)) (fE (xr - 1)) fT 6 (bl x (fF (xr - 1)) (fE (xr - 1)) fT xh) y.toNatClampNeg).getD 0) + szL 6 y.toNatClampNeg) (max xg (((hbL (fF (xr - 1)) (fE (xr - 1)) fT 6 (bl x (fF (xr - 1)) (fE (xr - 1)) fT xh) y.toNatClampNeg).getD 0) + szL 6 y.toNatClampNeg)) (xr + 1) (xn + 1)) H := hP
            have hD : va_D (va_A (wT z cI cZ fT fK fA fB fF fE xh xg xr xn) s.heap.size) (wT z cI cZ (pl fT ((hbL (fF (xr - 1)) (fE (xr - 1)) fT 6 (bl x (fF (xr - 1)) (fE (xr - 1)) fT xh) y.toNatClampNeg).getD 0) (szL 6 y.toNatClampNeg) y.toNatClampNeg) (va_up fK xr x.toNatClampNeg) (va_up fA xr y.toNatClampNeg) (va_up fB xr v.toNatClampNeg) (va_up fF xr ((hbL (fF (xr - 1)) (fE (xr - 1)) fT 6 (bl x (fF (xr - 1)) (fE (xr - 1)) fT xh) y.toNatClampNeg).getD 0)) (va_up fE xr 0) (((hbL (fF (xr - 1)) (fE (xr - 1)) fT 6 (bl x (fF (xr - 1)) (fE (xr - 1)) fT xh) y.toNatClampNeg).getD 0) + szL 6 y.toNatClampNeg) (max xg (((hbL (fF (xr - 1)) (fE (xr - 1)) fT 6 (bl x (fF (xr - 1)) (fE (xr - 1)) fT xh) y.toNatClampNeg).getD 0) + szL 6 y.toNatClampNeg)) (xr + 1) (xn + 1)) := hD
            refine lv_aload_n hx hb d_T_block_119 rfl (lv_at hl 2 rfl) ?_
            refine va_get (D := D) (ci := 0) (C := RT) (T := FT) (N := 10) (v := .int (nI (xr + 1))) hx hb hw inT hown hK hP 0 rfl rfl 8 (by decide) (hw _ kF_T_79) (fun _ h9 => h9) rfl d_T_block_120 ?_
            have hP : va_P D cls2 (wT z cI cZ (pl fT ((hbL (fF (xr - 1)) (fE (xr - 1)) fT 6 (bl x (fF (xr - 1)) (fE (xr - 1)) fT xh) y.toNatClampNeg).getD 0) (szL 6 y.toNatClampNeg) y.toNatClampNeg) (va_up fK xr x.toNatClampNeg) (va_up fA xr y.toNatClampNeg) (va_up fB xr v.toNatClampNeg) (va_up fF xr ((hbL (fF (xr - 1)) (fE (xr - 1)) fT 6 (bl x (fF (xr - 1)) (fE (xr - 1)) fT xh) y.toNatClampNeg).getD 0)) (va_up fE xr 0) (((hbL (fF (xr - 1)) (fE (xr - 1)) fT 6 (bl x (fF (xr - 1)) (fE (xr - 1)) fT xh) y.toNatClampNeg).getD 0) + szL 6 y.toNatClampNeg) (max xg (((hbL (fF (xr - 1)) (fE (xr - 1)) fT 6 (bl x (fF (xr - 1)) (fE (xr - 1)) fT xh) y.toNatClampNeg).getD 0) + szL 6 y.toNatClampNeg)) (xr + 1) (xn + 1)) H := by exact hP
            have hD : va_D (va_A (wT z cI cZ fT fK fA fB fF fE xh xg xr xn) s.heap.size) (wT z cI cZ (pl fT ((hbL (fF (xr - 1)) (fE (xr - 1)) fT 6 (bl x (fF (xr - 1)) (fE (xr - 1)) fT xh) y.toNatClampNeg).getD 0) (szL 6 y.toNatClampNeg) y.toNatClampNeg) (va_up fK xr x.toNatClampNeg) (va_up fA xr y.toNatClampNeg) (va_up fB xr v.toNatClampNeg) (va_up fF xr ((hbL (fF (xr - 1)) (fE (xr - 1)) fT 6 (bl x (fF (xr - 1)) (fE (xr - 1)) fT xh) y.toNatClampNeg).getD 0)) (va_up fE xr 0) (((hbL (fF (xr - 1)) (fE (xr - 1)) fT 6 (bl x (fF (xr - 1)) (fE (xr - 1)) fT xh) y.toNatClampNeg).getD 0) + szL 6 y.toNatClampNeg) (max xg (((hbL (fF (xr - 1)) (fE (xr - 1)) fT 6 (bl x (fF (xr - 1)) (fE (xr - 1)) fT xh) y.toNatClampNeg).getD 0) + szL 6 y.toNatClampNeg)) (xr + 1) (xn + 1)) := by exact hD
            exact vx_ret (W.widen (k := 1) (n := 6) (by decide) (by decide) (W.iret hx hb hrt (fun t ht _ => ⟨by simp only [orE, hk1, h23, h27, h31, hbel, h61, h73, h82e], ⟨rfl, by rw [ht]; exact hP, hD⟩, hS.F ht⟩) hS.2.2 d_T_block_123))
          · skip
            exact thr_AE hx hb hl0 hown hw hE (va_S.rf) (hl.1.trans hml.symm) d_T_block_85 d_T_block_88 d_T_block_89 d_T_block_92 hno (by decide) (by decide) (by decide) (by decide) hlocks (by simp only [orE, hk1, h23, h27, h31, hbel, h61, h73, f40, if_neg (Nat.not_lt.mpr h82)])
      · skip
        exact thr_IAE hx hb hl0 hown hw hE (va_S.rf) (hl.1.trans hml.symm) d_T_block_14 d_T_block_17 d_T_block_18 d_T_block_21 hno (by decide) (by decide) (by decide) (by decide) hlocks (by simp only [orE, xk_no h1 h6 h11])

set_option maxHeartbeats 4000000 in
set_option maxRecDepth 100000 in
theorem c_T_otherwise (l : Launch) (hl0 : l.stackTraces = false) (D : va_G) (z : Nat → Nat) (cI cZ : ClassId) (fT fK fA fB fF fE : Nat → Nat) (xh xg xr xn : Nat) (hi : IT fT fK fA fB fF fE xh xg xr) (hro : ∀ j, j < xr → fF j + szL 6 (fA j) ≤ 300) (sz : Nat) : vx_Met l y_T_otherwise w_T_otherwise (rmX 4) (PW D [(cI, .int), (cZ, .boolean)] (wT z cI cZ fT fK fA fB fF fE xh xg xr xn) sz [.ref (z 0)]) (QXW (orE (nf xr) (orE (ifE (fK (xr - 1))) (jw (fF (xr - 1)) (hbL (fF (xr - 1)) (fE (xr - 1)) fT 6 xh (fB (xr - 1)))))) D [(cI, .int), (cZ, .boolean)] (wT z cI cZ fT fK fA fB fF fE xh xg xr xn) (wT z cI cZ (pl fT (fF (xr - 1)) (szL 6 (fA (xr - 1))) (fA (xr - 1))) (va_up fK (xr - 1) 3) fA fB fF (va_up fE (xr - 1) 0) ((fF (xr - 1)) + szL 6 (fA (xr - 1))) (max xg ((fF (xr - 1)) + szL 6 (fA (xr - 1)))) xr (xn + 1)) sz (none)) (XX (orE (nf xr) (orE (ifE (fK (xr - 1))) (jw (fF (xr - 1)) (hbL (fF (xr - 1)) (fE (xr - 1)) fT 6 xh (fB (xr - 1))))))) 1 6 (va_A (wT z cI cZ fT fK fA fB fF fE xh xg xr xn) sz) := by
  refine vx_ofW (cc := b_T_otherwise) (maxL := 2) (ret := none) (by decide) rfl ?_
  intro p e s m args below meth c s₁ B hml hno hv
  obtain ⟨rfl, hsz, hP, hK, hD0, hE⟩ := hv
  have hx := B.exec
  have hb := B.bytes
  have hrt := B.returns
  have hts := atoms_spec (ws := w_T_otherwise) B.pre
  have hw : ∀ w ∈ bw, w.before ([.ref (z 0)]).toArray s = true := fun w h => hts w (List.mem_cons_of_mem _ h)
  have hown : s.vm.findClass "TypeStack" = some m.cls := findClass_of_methodNamed B.named
  have hlocks := B.notSynchronized
  subst hsz
  have hD := hD0.self (sz := s.heap.size)
  have hA : ∀ q : Nat, s.heap.size ≤ q → va_A (wT z cI cZ fT fK fA fB fF fE xh xg xr xn) s.heap.size q := fun q h => Or.inr h
  have hS : va_S (va_A (wT z cI cZ fT fK fA fB fF fE xh xg xr xn) s.heap.size) s.heap s.heap [] := va_S.rf
  have hK0 := hK.sub (tys' := []) [] rfl
  skip
  have hl := lv_entry ([.ref (z 0)]) (n := 2) (Nat.le_of_ble_eq_true rfl)
  rw [lg_entry_eq]
  generalize (lg_sl ([.ref (z 0)]) ++ List.replicate (2 - (lg_sl ([.ref (z 0)])).length) Slot.unset).toArray = ls at hl ⊢
  have hl : lv_has ls 2 [(0, .ref (z 0))] := hl
  obtain ⟨hiT, hiK, hiA, hiB, hiF, hiE, hih, hig, hir⟩ := id hi
  refine lv_aload_n hx hb d_T_otherwise_0 rfl (lv_at hl 0 rfl) ?_
  refine cl_x (v := none) hlocks hno (vx_runV (b := z 0) (C := "TypeStack") (As := []) (rest := []) ⟨hx, hb, hml, hown, hw⟩ (c_T_requireFrame l hl0 D z cI cZ fT fK fA fB fF fE xh xg xr xn hi s.heap.size) (cwV 0 hw g_T_36 rfl rfl rfl ⟨rfl, by decide, by decide, by decide +kernel⟩ ⟨by decide, by decide⟩) ⟨PW.blind, va_recv (q := (RT, FT, 10)) (ci := 0) (q0 := 0) hK hP rfl rfl, PW.pre hP hK hD hS hA hE⟩ rfl rfl hl.1 rfl (lv_room (Nat.le_of_ble_eq_true rfl)) d_T_otherwise_1 ⟨by decide, by decide⟩) (fun E h1 => by simp only [orE, h1]) (fun h1 => ?_)
  have hr1 := nf_pos h1
  refine lv_aload_n hx hb d_T_otherwise_4 rfl (lv_at hl 0 rfl) ?_
  refine va_get (D := D) (ci := 0) (C := RT) (T := FT) (N := 10) (v := .int (nI xr)) hx hb hw inT hown hK hP 0 rfl rfl 8 (by decide) (hw _ kF_T_79) (fun _ h9 => h9) rfl d_T_otherwise_5 ?_
  refine lv_iconst (v := nI 1) hx hb d_T_otherwise_8 (by decide) ?_
  refine nw_sub hx hb (by omega) d_T_otherwise_9 ?_
  refine lv_istore_n (lv' := [(1, .int (nI (xr - 1))), (0, .ref (z 0))]) hx hb d_T_otherwise_10 rfl hl (by decide) rfl (fun ls hl => ?_)
  refine lv_aload_n hx hb d_T_otherwise_11 rfl (lv_at hl 1 rfl) ?_
  refine va_get (D := D) (ci := 0) (C := RT) (T := FT) (N := 10) (v := .ref (z 2)) hx hb hw inT hown hK hP 0 rfl rfl 3 (by decide) (hw _ kF_T_13) (fun _ h9 => h9) rfl d_T_otherwise_12 ?_
  refine lv_iload_n hx hb d_T_otherwise_15 rfl (lv_at hl 0 rfl) ?_
  refine nw_iald hx hb hK hP 2 0 rfl rfl (k := xr - 1) (by omega) (by decide) d_T_otherwise_16 ?_
  have b16 := hiK (xr - 1)
  refine lv_iconst (v := nI 2) hx hb d_T_otherwise_17 (by decide) ?_
  refine nw_eq hx hb (tgt := 29) d_T_otherwise_18 (by decide) (by omega) (by omega) (fun h18 => ?_) (fun h18 => ?_)
  · skip
    have hif : ifE (fK (xr - 1)) = none := if_pos h18
    refine lv_aload_n hx hb d_T_otherwise_29 rfl (lv_at hl 1 rfl) ?_
    refine cl_x (v := none) hlocks hno (vx_runV (b := z 0) (C := "TypeStack") (As := []) (rest := []) ⟨hx, hb, hml, hown, hw⟩ (c_T_requireJustWhatIsLeft l hl0 D z cI cZ fT fK fA fB fF fE xh xg xr xn hi (by omega) s.heap.size) (cwV 0 hw g_T_92 rfl rfl rfl ⟨rfl, by decide, by decide, by decide +kernel⟩ ⟨by decide, by decide⟩) ⟨PW.blind, va_recv (q := (RT, FT, 10)) (ci := 0) (q0 := 0) hK hP rfl rfl, PW.pre hP hK hD hS hA hE⟩ rfl rfl hl.1 rfl (lv_room (Nat.le_of_ble_eq_true rfl)) d_T_otherwise_30 ⟨by decide, by decide⟩) (fun E h30 => by simp only [orE, h1, hif, h30]) (fun h30 => ?_)
    refine lv_aload_n hx hb d_T_otherwise_33 rfl (lv_at hl 1 rfl) ?_
    refine va_get (D := D) (ci := 0) (C := RT) (T := FT) (N := 10) (v := .ref (z 2)) hx hb hw inT hown hK hP 0 rfl rfl 3 (by decide) (hw _ kF_T_13) (fun _ h9 => h9) rfl d_T_otherwise_34 ?_
    refine lv_iload_n hx hb d_T_otherwise_37 rfl (lv_at hl 0 rfl) ?_
    refine lv_iconst (v := nI 3) hx hb d_T_otherwise_38 (by decide) ?_
    refine nw_iast hx hb hK hP hD hS 2 0 rfl rfl (k := xr - 1) (x := 3) (by omega) (by decide) d_T_otherwise_39 (fun H locs hP hD hS => ?_)
    have hP : va_P D cls2 (wT z cI cZ fT (va_up fK (xr - 1) 3) fA fB fF fE xh xg xr xn) H := hP
    have hD : va_D (va_A (wT z cI cZ fT fK fA fB fF fE xh xg xr xn) s.heap.size) (wT z cI cZ fT (va_up fK (xr - 1) 3) fA fB fF fE xh xg xr xn) := hD
    refine lv_aload_n hx hb d_T_otherwise_40 rfl (lv_at hl 1 rfl) ?_
    refine va_get (D := D) (ci := 0) (C := RT) (T := FT) (N := 10) (v := .ref (z 6)) hx hb hw inT hown hK hP 0 rfl rfl 7 (by decide) (hw _ kF_T_25) (fun _ h9 => h9) rfl d_T_otherwise_41 ?_
    refine lv_iload_n hx hb d_T_otherwise_44 rfl (lv_at hl 0 rfl) ?_
    refine lv_iconst (v := nI 0) hx hb d_T_otherwise_45 (by decide) ?_
    refine nw_zast hx hb hK hP hD hS 6 1 rfl rfl (k := xr - 1) (x := 0) (by omega) (by decide) (by decide) d_T_otherwise_46 (fun H locs hP hD hS => ?_)
    have hP : va_P D cls2 (wT z cI cZ fT (va_up fK (xr - 1) 3) fA fB fF (va_up fE (xr - 1) 0) xh xg xr xn) H := hP
    have hD : va_D (va_A (wT z cI cZ fT fK fA fB fF fE xh xg xr xn) s.heap.size) (wT z cI cZ fT (va_up fK (xr - 1) 3) fA fB fF (va_up fE (xr - 1) 0) xh xg xr xn) := hD
    refine lv_aload_n hx hb d_T_otherwise_47 rfl (lv_at hl 1 rfl) ?_
    refine lv_aload_n hx hb d_T_otherwise_48 rfl (lv_at hl 1 rfl) ?_
    refine va_get (D := D) (ci := 0) (C := RT) (T := FT) (N := 10) (v := .ref (z 5)) hx hb hw inT hown hK hP 0 rfl rfl 6 (by decide) (hw _ kF_T_22) (fun _ h9 => h9) rfl d_T_otherwise_49 ?_
    refine lv_iload_n hx hb d_T_otherwise_52 rfl (lv_at hl 0 rfl) ?_
    refine nw_iald hx hb hK hP 5 0 rfl rfl (k := xr - 1) (by omega) (by decide) d_T_otherwise_53 ?_
    have b53 := hiF (xr - 1)
    refine lv_aload_n hx hb d_T_otherwise_54 rfl (lv_at hl 1 rfl) ?_
    refine va_get (D := D) (ci := 0) (C := RT) (T := FT) (N := 10) (v := .ref (z 3)) hx hb hw inT hown hK hP 0 rfl rfl 4 (by decide) (hw _ kF_T_16) (fun _ h9 => h9) rfl d_T_otherwise_55 ?_
    refine lv_iload_n hx hb d_T_otherwise_58 rfl (lv_at hl 0 rfl) ?_
    refine nw_iald hx hb hK hP 3 0 rfl rfl (k := xr - 1) (by omega) (by decide) d_T_otherwise_59 ?_
    have b59 := hiA (xr - 1)
    have hro1 := hro (xr - 1) (by omega)
    have hfa := hiA (xr - 1)
    refine cl_w (v := none) hD hS hA (W.runV (b := z 0) (C := "TypeStack") (As := [.int (nI (fF (xr - 1))), .int (nI (fA (xr - 1)))]) (rest := []) ⟨hx, hb, hml, hown, hw⟩ (c_T_putList l D z cI cZ fT (va_up fK (xr - 1) 3) fA fB fF (va_up fE (xr - 1) 0) xh xg xr xn (fF (xr - 1)) (fA (xr - 1)) (by omega) (by omega) (by omega) H.size) (cwV 2 hw g_T_54 rfl rfl rfl ⟨rfl, by decide, by decide, by decide +kernel⟩ ⟨by decide, by decide⟩) ⟨PW.blind, va_recv (q := (RT, FT, 10)) (ci := 0) (q0 := 0) hK hP rfl rfl, PW.pre hP hK hD hS hA hE⟩ rfl rfl hl.1 rfl (lv_room (Nat.le_of_ble_eq_true rfl)) d_T_otherwise_60 ⟨by decide, by decide⟩) (fun H locs hP hD hS => ?_)
    have hP : va_P D cls2 (wT z cI cZ (pl fT (fF (xr - 1)) (szL 6 (fA (xr - 1))) (fA (xr - 1))) (va_up fK (xr - 1) 3) fA fB fF (va_up fE (xr - 1) 0) ((fF (xr - 1)) + szL 6 (fA (xr - 1))) (max xg ((fF (xr - 1)) + szL 6 (fA (xr - 1)))) xr xn) H := hP
    have hD : va_D (va_A (wT z cI cZ fT fK fA fB fF fE xh xg xr xn) s.heap.size) (wT z cI cZ (pl fT (fF (xr - 1)) (szL 6 (fA (xr - 1))) (fA (xr - 1))) (va_up fK (xr - 1) 3) fA fB fF (va_up fE (xr - 1) 0) ((fF (xr - 1)) + szL 6 (fA (xr - 1))) (max xg ((fF (xr - 1)) + szL 6 (fA (xr - 1)))) xr xn) := hD
    refine lv_aload_n hx hb d_T_otherwise_63 rfl (lv_at hl 1 rfl) ?_
    refine lv_dup hx hb d_T_otherwise_64 rfl ?_
    refine va_get (D := D) (ci := 0) (C := RT) (T := FT) (N := 10) (v := .int (nI xn)) hx hb hw inT hown hK hP 0 rfl rfl 9 (by decide) (hw _ kF_T_58) (fun _ h9 => h9) rfl d_T_otherwise_65 ?_
    refine lv_iconst (v := nI 1) hx hb d_T_otherwise_68 (by decide) ?_
    refine nw_add hx hb d_T_otherwise_69 ?_
    refine va_put (D := D) (ci := 0) (C := RT) (T := FT) (N := 10) (v := .int (nI (xn + 1))) (ty := .int) hx hb hw inT tT tT_ok nT hown hK hP hD hS 0 rfl rfl 9 (by decide) (hw _ kF_T_58) (fun _ h9 => h9) rfl (by decide +kernel) rfl rfl (Nat.le_of_ble_eq_true rfl) d_T_otherwise_70 (fun H locs hP hD hS => ?_)
    have hP : va_P D cls2 (wT z cI cZ (pl fT (fF (xr - 1)) (szL 6 (fA (xr - 1))) (fA (xr - 1))) (va_up fK (xr - 1) 3) fA fB fF (va_up fE (xr - 1) 0) ((fF (xr - 1)) + szL 6 (fA (xr - 1))) (max xg ((fF (xr - 1)) + szL 6 (fA (xr - 1)))) xr (xn + 1)) H := hP
    have hD : va_D (va_A (wT z cI cZ fT fK fA fB fF fE xh xg xr xn) s.heap.size) (wT z cI cZ (pl fT (fF (xr - 1)) (szL 6 (fA (xr - 1))) (fA (xr - 1))) (va_up fK (xr - 1) 3) fA fB fF (va_up fE (xr - 1) 0) ((fF (xr - 1)) + szL 6 (fA (xr - 1))) (max xg ((fF (xr - 1)) + szL 6 (fA (xr - 1)))) xr (xn + 1)) := hD
    have hP : va_P D cls2 (wT z cI cZ (pl fT (fF (xr - 1)) (szL 6 (fA (xr - 1))) (fA (xr - 1))) (va_up fK (xr - 1) 3) fA fB fF (va_up fE (xr - 1) 0) ((fF (xr - 1)) + szL 6 (fA (xr - 1))) (max xg ((fF (xr - 1)) + szL 6 (fA (xr - 1)))) xr (xn + 1)) H := by exact hP
    have hD : va_D (va_A (wT z cI cZ fT fK fA fB fF fE xh xg xr xn) s.heap.size) (wT z cI cZ (pl fT (fF (xr - 1)) (szL 6 (fA (xr - 1))) (fA (xr - 1))) (va_up fK (xr - 1) 3) fA fB fF (va_up fE (xr - 1) 0) ((fF (xr - 1)) + szL 6 (fA (xr - 1))) (max xg ((fF (xr - 1)) + szL 6 (fA (xr - 1)))) xr (xn + 1)) := by exact hD
    exact vx_ret (W.widen (k := 1) (n := 6) (by decide) (by decide) (W.vret hx hb hrt (fun t ht _ => ⟨by simp only [orE, h1, hif, h30], ⟨rfl, by rw [ht]; exact hP, hD⟩, hS.F ht⟩) hS.2.2 d_T_otherwise_73))
  · skip
    exact thr_UOE hx hb hl0 hown hw hE (va_S.rf) (hl.1.trans hml.symm) d_T_otherwise_21 d_T_otherwise_24 d_T_otherwise_25 d_T_otherwise_28 hno (by decide) (by decide) (by decide) (by decide) hlocks (by simp only [orE, h1, ifE, if_neg h18])

set_option maxHeartbeats 4000000 in
set_option maxRecDepth 100000 in
theorem c_T_end (l : Launch) (hl0 : l.stackTraces = false) (D : va_G) (z : Nat → Nat) (cI cZ : ClassId) (fT fK fA fB fF fE : Nat → Nat) (xh xg xr xn : Nat) (hi : IT fT fK fA fB fF fE xh xg xr) (sz : Nat) : vx_Met l y_T_end w_T_end (rmX 4) (PW D [(cI, .int), (cZ, .boolean)] (wT z cI cZ fT fK fA fB fF fE xh xg xr xn) sz [.ref (z 0)]) (QXW (orE (nf xr) (orE (ifL (fK (xr - 1)) (fA (xr - 1)) (fB (xr - 1))) (orE (jw (fF (xr - 1)) (hbL (fF (xr - 1)) (fE (xr - 1)) fT 6 xh (fB (xr - 1)))) (rmE (fF (xr - 1) + szL 6 (fB (xr - 1))))))) D [(cI, .int), (cZ, .boolean)] (wT z cI cZ fT fK fA fB fF fE xh xg xr xn) (wT z cI cZ (pl fT (fF (xr - 1)) (szL 6 (fB (xr - 1))) (fB (xr - 1))) fK fA fB fF fE ((fF (xr - 1)) + szL 6 (fB (xr - 1))) (max xg ((fF (xr - 1)) + szL 6 (fB (xr - 1)))) (xr - 1) (xn + 1)) sz (some (.int (nI (xr - 1))))) (XX (orE (nf xr) (orE (ifL (fK (xr - 1)) (fA (xr - 1)) (fB (xr - 1))) (orE (jw (fF (xr - 1)) (hbL (fF (xr - 1)) (fE (xr - 1)) fT 6 xh (fB (xr - 1)))) (rmE (fF (xr - 1) + szL 6 (fB (xr - 1)))))))) 1 6 (va_A (wT z cI cZ fT fK fA fB fF fE xh xg xr xn) sz) := by
  refine vx_ofW (cc := b_T_end) (maxL := 2) (ret := (some .int)) (by decide) rfl ?_
  intro p e s m args below meth c s₁ B hml hno hv
  obtain ⟨rfl, hsz, hP, hK, hD0, hE⟩ := hv
  have hx := B.exec
  have hb := B.bytes
  have hrt := B.returns
  have hts := atoms_spec (ws := w_T_end) B.pre
  have hw : ∀ w ∈ bw, w.before ([.ref (z 0)]).toArray s = true := fun w h => hts w (List.mem_cons_of_mem _ h)
  have hown : s.vm.findClass "TypeStack" = some m.cls := findClass_of_methodNamed B.named
  have hlocks := B.notSynchronized
  subst hsz
  have hD := hD0.self (sz := s.heap.size)
  have hA : ∀ q : Nat, s.heap.size ≤ q → va_A (wT z cI cZ fT fK fA fB fF fE xh xg xr xn) s.heap.size q := fun q h => Or.inr h
  have hS : va_S (va_A (wT z cI cZ fT fK fA fB fF fE xh xg xr xn) s.heap.size) s.heap s.heap [] := va_S.rf
  have hK0 := hK.sub (tys' := []) [] rfl
  skip
  have hl := lv_entry ([.ref (z 0)]) (n := 2) (Nat.le_of_ble_eq_true rfl)
  rw [lg_entry_eq]
  generalize (lg_sl ([.ref (z 0)]) ++ List.replicate (2 - (lg_sl ([.ref (z 0)])).length) Slot.unset).toArray = ls at hl ⊢
  have hl : lv_has ls 2 [(0, .ref (z 0))] := hl
  obtain ⟨hiT, hiK, hiA, hiB, hiF, hiE, hih, hig, hir⟩ := id hi
  refine lv_aload_n hx hb d_T_end_0 rfl (lv_at hl 0 rfl) ?_
  refine cl_x (v := none) hlocks hno (vx_runV (b := z 0) (C := "TypeStack") (As := []) (rest := []) ⟨hx, hb, hml, hown, hw⟩ (c_T_requireFrame l hl0 D z cI cZ fT fK fA fB fF fE xh xg xr xn hi s.heap.size) (cwV 0 hw g_T_36 rfl rfl rfl ⟨rfl, by decide, by decide, by decide +kernel⟩ ⟨by decide, by decide⟩) ⟨PW.blind, va_recv (q := (RT, FT, 10)) (ci := 0) (q0 := 0) hK hP rfl rfl, PW.pre hP hK hD hS hA hE⟩ rfl rfl hl.1 rfl (lv_room (Nat.le_of_ble_eq_true rfl)) d_T_end_1 ⟨by decide, by decide⟩) (fun E h1 => by simp only [orE, h1]) (fun h1 => ?_)
  have hr1 := nf_pos h1
  refine lv_aload_n hx hb d_T_end_4 rfl (lv_at hl 0 rfl) ?_
  refine va_get (D := D) (ci := 0) (C := RT) (T := FT) (N := 10) (v := .int (nI xr)) hx hb hw inT hown hK hP 0 rfl rfl 8 (by decide) (hw _ kF_T_79) (fun _ h9 => h9) rfl d_T_end_5 ?_
  refine lv_iconst (v := nI 1) hx hb d_T_end_8 (by decide) ?_
  refine nw_sub hx hb (by omega) d_T_end_9 ?_
  refine lv_istore_n (lv' := [(1, .int (nI (xr - 1))), (0, .ref (z 0))]) hx hb d_T_end_10 rfl hl (by decide) rfl (fun ls hl => ?_)
  refine lv_aload_n hx hb d_T_end_11 rfl (lv_at hl 1 rfl) ?_
  refine va_get (D := D) (ci := 0) (C := RT) (T := FT) (N := 10) (v := .ref (z 2)) hx hb hw inT hown hK hP 0 rfl rfl 3 (by decide) (hw _ kF_T_13) (fun _ h9 => h9) rfl d_T_end_12 ?_
  refine lv_iload_n hx hb d_T_end_15 rfl (lv_at hl 0 rfl) ?_
  refine nw_iald hx hb hK hP 2 0 rfl rfl (k := xr - 1) (by omega) (by decide) d_T_end_16 ?_
  have b16 := hiK (xr - 1)
  refine lv_iconst (v := nI 2) hx hb d_T_end_17 (by decide) ?_
  refine nw_ne hx hb (tgt := 44) d_T_end_18 (by decide) (by omega) (by omega) (fun h18 => ?_) (fun h18 => ?_)
  · skip
    have hil : ifL (fK (xr - 1)) (fA (xr - 1)) (fB (xr - 1)) = none := if_neg (fun q => h18 q.1)
    refine lv_aload_n hx hb d_T_end_44 rfl (lv_at hl 1 rfl) ?_
    refine cl_x (v := none) hlocks hno (vx_runV (b := z 0) (C := "TypeStack") (As := []) (rest := []) ⟨hx, hb, hml, hown, hw⟩ (c_T_requireJustWhatIsLeft l hl0 D z cI cZ fT fK fA fB fF fE xh xg xr xn hi (by omega) s.heap.size) (cwV 0 hw g_T_92 rfl rfl rfl ⟨rfl, by decide, by decide, by decide +kernel⟩ ⟨by decide, by decide⟩) ⟨PW.blind, va_recv (q := (RT, FT, 10)) (ci := 0) (q0 := 0) hK hP rfl rfl, PW.pre hP hK hD hS hA hE⟩ rfl rfl hl.1 rfl (lv_room (Nat.le_of_ble_eq_true rfl)) d_T_end_45 ⟨by decide, by decide⟩) (fun E h45 => by simp only [orE, h1, hil, h45]) (fun h45 => ?_)
    refine lv_aload_n hx hb d_T_end_48 rfl (lv_at hl 1 rfl) ?_
    refine va_get (D := D) (ci := 0) (C := RT) (T := FT) (N := 10) (v := .ref (z 5)) hx hb hw inT hown hK hP 0 rfl rfl 6 (by decide) (hw _ kF_T_22) (fun _ h9 => h9) rfl d_T_end_49 ?_
    refine lv_iload_n hx hb d_T_end_52 rfl (lv_at hl 0 rfl) ?_
    refine nw_iald hx hb hK hP 5 0 rfl rfl (k := xr - 1) (by omega) (by decide) d_T_end_53 ?_
    have b53 := hiF (xr - 1)
    refine lv_aload_n hx hb d_T_end_54 rfl (lv_at hl 1 rfl) ?_
    refine va_get (D := D) (ci := 0) (C := RT) (T := FT) (N := 10) (v := .ref (z 4)) hx hb hw inT hown hK hP 0 rfl rfl 5 (by decide) (hw _ kF_T_19) (fun _ h9 => h9) rfl d_T_end_55 ?_
    refine lv_iload_n hx hb d_T_end_58 rfl (lv_at hl 0 rfl) ?_
    refine nw_iald hx hb hK hP 4 0 rfl rfl (k := xr - 1) (by omega) (by decide) d_T_end_59 ?_
    have b59 := hiB (xr - 1)
    refine cl_r (v := some (.int (nI (szL 6 (fB (xr - 1)))))) (W.runS (As := [.int (nI (fB (xr - 1)))]) (rest := [.int (nI (fF (xr - 1)))]) ⟨hx, hb, hml, hown, hw⟩ (c_T_sizeOf l D (fB (xr - 1)) (by omega) s.heap.size) (va_cwS 1 hw g_T_47 rfl rfl rfl ⟨by decide, by decide, by decide +kernel⟩ ⟨by decide, by decide⟩) ⟨PW.blind, PW.pre va_P.nil hK0 va_D.nil hS hA hE⟩ rfl rfl hl.1 rfl (lv_room (Nat.le_of_ble_eq_true rfl)) d_T_end_60 ⟨by decide, by decide⟩) ?_
    have hs60 := szL_le 6 (fB (xr - 1))
    refine nw_add hx hb d_T_end_63 ?_
    refine cl_x (v := none) hlocks hno (vx_runS (As := [.int (nI ((fF (xr - 1)) + (szL 6 (fB (xr - 1)))))]) (rest := []) ⟨hx, hb, hml, hown, hw⟩ (c_T_requireRoom l hl0 D ((fF (xr - 1)) + (szL 6 (fB (xr - 1)))) (by omega) s.heap.size) (va_cwS 1 hw g_T_51 rfl rfl rfl ⟨by decide, by decide, by decide +kernel⟩ ⟨by decide, by decide⟩) ⟨PW.blind, PW.pre va_P.nil hK0 va_D.nil hS hA hE⟩ rfl rfl hl.1 rfl (lv_room (Nat.le_of_ble_eq_true rfl)) d_T_end_64 ⟨by decide, by decide⟩) (fun E h64 => by simp only [orE, h1, hil, h45, h64]) (fun h64 => ?_)
    have hr64 := rm_le h64
    refine lv_aload_n hx hb d_T_end_67 rfl (lv_at hl 1 rfl) ?_
    refine lv_aload_n hx hb d_T_end_68 rfl (lv_at hl 1 rfl) ?_
    refine va_get (D := D) (ci := 0) (C := RT) (T := FT) (N := 10) (v := .ref (z 5)) hx hb hw inT hown hK hP 0 rfl rfl 6 (by decide) (hw _ kF_T_22) (fun _ h9 => h9) rfl d_T_end_69 ?_
    refine lv_iload_n hx hb d_T_end_72 rfl (lv_at hl 0 rfl) ?_
    refine nw_iald hx hb hK hP 5 0 rfl rfl (k := xr - 1) (by omega) (by decide) d_T_end_73 ?_
    have b73 := hiF (xr - 1)
    refine lv_aload_n hx hb d_T_end_74 rfl (lv_at hl 1 rfl) ?_
    refine va_get (D := D) (ci := 0) (C := RT) (T := FT) (N := 10) (v := .ref (z 4)) hx hb hw inT hown hK hP 0 rfl rfl 5 (by decide) (hw _ kF_T_19) (fun _ h9 => h9) rfl d_T_end_75 ?_
    refine lv_iload_n hx hb d_T_end_78 rfl (lv_at hl 0 rfl) ?_
    refine nw_iald hx hb hK hP 4 0 rfl rfl (k := xr - 1) (by omega) (by decide) d_T_end_79 ?_
    have b79 := hiB (xr - 1)
    refine cl_w (v := none) hD hS hA (W.runV (b := z 0) (C := "TypeStack") (As := [.int (nI (fF (xr - 1))), .int (nI (fB (xr - 1)))]) (rest := []) ⟨hx, hb, hml, hown, hw⟩ (c_T_putList l D z cI cZ fT fK fA fB fF fE xh xg xr xn (fF (xr - 1)) (fB (xr - 1)) (by omega) (by omega) (by omega) s.heap.size) (cwV 2 hw g_T_54 rfl rfl rfl ⟨rfl, by decide, by decide, by decide +kernel⟩ ⟨by decide, by decide⟩) ⟨PW.blind, va_recv (q := (RT, FT, 10)) (ci := 0) (q0 := 0) hK hP rfl rfl, PW.pre hP hK hD hS hA hE⟩ rfl rfl hl.1 rfl (lv_room (Nat.le_of_ble_eq_true rfl)) d_T_end_80 ⟨by decide, by decide⟩) (fun H locs hP hD hS => ?_)
    have hP : va_P D cls2 (wT z cI cZ (pl fT (fF (xr - 1)) (szL 6 (fB (xr - 1))) (fB (xr - 1))) fK fA fB fF fE ((fF (xr - 1)) + szL 6 (fB (xr - 1))) (max xg ((fF (xr - 1)) + szL 6 (fB (xr - 1)))) xr xn) H := hP
    have hD : va_D (va_A (wT z cI cZ fT fK fA fB fF fE xh xg xr xn) s.heap.size) (wT z cI cZ (pl fT (fF (xr - 1)) (szL 6 (fB (xr - 1))) (fB (xr - 1))) fK fA fB fF fE ((fF (xr - 1)) + szL 6 (fB (xr - 1))) (max xg ((fF (xr - 1)) + szL 6 (fB (xr - 1)))) xr xn) := hD
    refine lv_aload_n hx hb d_T_end_83 rfl (lv_at hl 1 rfl) ?_
    refine lv_iload_n hx hb d_T_end_84 rfl (lv_at hl 0 rfl) ?_
    refine va_put (D := D) (ci := 0) (C := RT) (T := FT) (N := 10) (v := .int (nI (xr - 1))) (ty := .int) hx hb hw inT tT tT_ok nT hown hK hP hD hS 0 rfl rfl 8 (by decide) (hw _ kF_T_79) (fun _ h9 => h9) rfl (by decide +kernel) rfl rfl (Nat.le_of_ble_eq_true rfl) d_T_end_85 (fun H locs hP hD hS => ?_)
    have hP : va_P D cls2 (wT z cI cZ (pl fT (fF (xr - 1)) (szL 6 (fB (xr - 1))) (fB (xr - 1))) fK fA fB fF fE ((fF (xr - 1)) + szL 6 (fB (xr - 1))) (max xg ((fF (xr - 1)) + szL 6 (fB (xr - 1)))) (xr - 1) xn) H := hP
    have hD : va_D (va_A (wT z cI cZ fT fK fA fB fF fE xh xg xr xn) s.heap.size) (wT z cI cZ (pl fT (fF (xr - 1)) (szL 6 (fB (xr - 1))) (fB (xr - 1))) fK fA fB fF fE ((fF (xr - 1)) + szL 6 (fB (xr - 1))) (max xg ((fF (xr - 1)) + szL 6 (fB (xr - 1)))) (xr - 1) xn) := hD
    refine lv_aload_n hx hb d_T_end_88 rfl (lv_at hl 1 rfl) ?_
    refine lv_dup hx hb d_T_end_89 rfl ?_
    refine va_get (D := D) (ci := 0) (C := RT) (T := FT) (N := 10) (v := .int (nI xn)) hx hb hw inT hown hK hP 0 rfl rfl 9 (by decide) (hw _ kF_T_58) (fun _ h9 => h9) rfl d_T_end_90 ?_
    refine lv_iconst (v := nI 1) hx hb d_T_end_93 (by decide) ?_
    refine nw_add hx hb d_T_end_94 ?_
    refine va_put (D := D) (ci := 0) (C := RT) (T := FT) (N := 10) (v := .int (nI (xn + 1))) (ty := .int) hx hb hw inT tT tT_ok nT hown hK hP hD hS 0 rfl rfl 9 (by decide) (hw _ kF_T_58) (fun _ h9 => h9) rfl (by decide +kernel) rfl rfl (Nat.le_of_ble_eq_true rfl) d_T_end_95 (fun H locs hP hD hS => ?_)
    have hP : va_P D cls2 (wT z cI cZ (pl fT (fF (xr - 1)) (szL 6 (fB (xr - 1))) (fB (xr - 1))) fK fA fB fF fE ((fF (xr - 1)) + szL 6 (fB (xr - 1))) (max xg ((fF (xr - 1)) + szL 6 (fB (xr - 1)))) (xr - 1) (xn + 1)) H := hP
    have hD : va_D (va_A (wT z cI cZ fT fK fA fB fF fE xh xg xr xn) s.heap.size) (wT z cI cZ (pl fT (fF (xr - 1)) (szL 6 (fB (xr - 1))) (fB (xr - 1))) fK fA fB fF fE ((fF (xr - 1)) + szL 6 (fB (xr - 1))) (max xg ((fF (xr - 1)) + szL 6 (fB (xr - 1)))) (xr - 1) (xn + 1)) := hD
    refine lv_aload_n hx hb d_T_end_98 rfl (lv_at hl 1 rfl) ?_
    refine va_get (D := D) (ci := 0) (C := RT) (T := FT) (N := 10) (v := .int (nI (xr - 1))) hx hb hw inT hown hK hP 0 rfl rfl 8 (by decide) (hw _ kF_T_79) (fun _ h9 => h9) rfl d_T_end_99 ?_
    have hP : va_P D cls2 (wT z cI cZ (pl fT (fF (xr - 1)) (szL 6 (fB (xr - 1))) (fB (xr - 1))) fK fA fB fF fE ((fF (xr - 1)) + szL 6 (fB (xr - 1))) (max xg ((fF (xr - 1)) + szL 6 (fB (xr - 1)))) (xr - 1) (xn + 1)) H := by exact hP
    have hD : va_D (va_A (wT z cI cZ fT fK fA fB fF fE xh xg xr xn) s.heap.size) (wT z cI cZ (pl fT (fF (xr - 1)) (szL 6 (fB (xr - 1))) (fB (xr - 1))) fK fA fB fF fE ((fF (xr - 1)) + szL 6 (fB (xr - 1))) (max xg ((fF (xr - 1)) + szL 6 (fB (xr - 1)))) (xr - 1) (xn + 1)) := by exact hD
    exact vx_ret (W.widen (k := 1) (n := 6) (by decide) (by decide) (W.iret hx hb hrt (fun t ht _ => ⟨by simp only [orE, h1, hil, h45, h64], ⟨rfl, by rw [ht]; exact hP, hD⟩, hS.F ht⟩) hS.2.2 d_T_end_102))
  · skip
    refine lv_aload_n hx hb d_T_end_21 rfl (lv_at hl 1 rfl) ?_
    refine va_get (D := D) (ci := 0) (C := RT) (T := FT) (N := 10) (v := .ref (z 3)) hx hb hw inT hown hK hP 0 rfl rfl 4 (by decide) (hw _ kF_T_16) (fun _ h9 => h9) rfl d_T_end_22 ?_
    refine lv_iload_n hx hb d_T_end_25 rfl (lv_at hl 0 rfl) ?_
    refine nw_iald hx hb hK hP 3 0 rfl rfl (k := xr - 1) (by omega) (by decide) d_T_end_26 ?_
    have b26 := hiA (xr - 1)
    refine lv_aload_n hx hb d_T_end_27 rfl (lv_at hl 1 rfl) ?_
    refine va_get (D := D) (ci := 0) (C := RT) (T := FT) (N := 10) (v := .ref (z 4)) hx hb hw inT hown hK hP 0 rfl rfl 5 (by decide) (hw _ kF_T_19) (fun _ h9 => h9) rfl d_T_end_28 ?_
    refine lv_iload_n hx hb d_T_end_31 rfl (lv_at hl 0 rfl) ?_
    refine nw_iald hx hb hK hP 4 0 rfl rfl (k := xr - 1) (by omega) (by decide) d_T_end_32 ?_
    have b32 := hiB (xr - 1)
    refine nw_eq hx hb (tgt := 44) d_T_end_33 (by decide) (by omega) (by omega) (fun h33 => ?_) (fun h33 => ?_)
    · skip
      have hil : ifL (fK (xr - 1)) (fA (xr - 1)) (fB (xr - 1)) = none := if_neg (fun q => q.2 h33)
      refine lv_aload_n hx hb d_T_end_44 rfl (lv_at hl 1 rfl) ?_
      refine cl_x (v := none) hlocks hno (vx_runV (b := z 0) (C := "TypeStack") (As := []) (rest := []) ⟨hx, hb, hml, hown, hw⟩ (c_T_requireJustWhatIsLeft l hl0 D z cI cZ fT fK fA fB fF fE xh xg xr xn hi (by omega) s.heap.size) (cwV 0 hw g_T_92 rfl rfl rfl ⟨rfl, by decide, by decide, by decide +kernel⟩ ⟨by decide, by decide⟩) ⟨PW.blind, va_recv (q := (RT, FT, 10)) (ci := 0) (q0 := 0) hK hP rfl rfl, PW.pre hP hK hD hS hA hE⟩ rfl rfl hl.1 rfl (lv_room (Nat.le_of_ble_eq_true rfl)) d_T_end_45 ⟨by decide, by decide⟩) (fun E h45 => by simp only [orE, h1, hil, h45]) (fun h45 => ?_)
      refine lv_aload_n hx hb d_T_end_48 rfl (lv_at hl 1 rfl) ?_
      refine va_get (D := D) (ci := 0) (C := RT) (T := FT) (N := 10) (v := .ref (z 5)) hx hb hw inT hown hK hP 0 rfl rfl 6 (by decide) (hw _ kF_T_22) (fun _ h9 => h9) rfl d_T_end_49 ?_
      refine lv_iload_n hx hb d_T_end_52 rfl (lv_at hl 0 rfl) ?_
      refine nw_iald hx hb hK hP 5 0 rfl rfl (k := xr - 1) (by omega) (by decide) d_T_end_53 ?_
      have b53 := hiF (xr - 1)
      refine lv_aload_n hx hb d_T_end_54 rfl (lv_at hl 1 rfl) ?_
      refine va_get (D := D) (ci := 0) (C := RT) (T := FT) (N := 10) (v := .ref (z 4)) hx hb hw inT hown hK hP 0 rfl rfl 5 (by decide) (hw _ kF_T_19) (fun _ h9 => h9) rfl d_T_end_55 ?_
      refine lv_iload_n hx hb d_T_end_58 rfl (lv_at hl 0 rfl) ?_
      refine nw_iald hx hb hK hP 4 0 rfl rfl (k := xr - 1) (by omega) (by decide) d_T_end_59 ?_
      have b59 := hiB (xr - 1)
      refine cl_r (v := some (.int (nI (szL 6 (fB (xr - 1)))))) (W.runS (As := [.int (nI (fB (xr - 1)))]) (rest := [.int (nI (fF (xr - 1)))]) ⟨hx, hb, hml, hown, hw⟩ (c_T_sizeOf l D (fB (xr - 1)) (by omega) s.heap.size) (va_cwS 1 hw g_T_47 rfl rfl rfl ⟨by decide, by decide, by decide +kernel⟩ ⟨by decide, by decide⟩) ⟨PW.blind, PW.pre va_P.nil hK0 va_D.nil hS hA hE⟩ rfl rfl hl.1 rfl (lv_room (Nat.le_of_ble_eq_true rfl)) d_T_end_60 ⟨by decide, by decide⟩) ?_
      have hs60 := szL_le 6 (fB (xr - 1))
      refine nw_add hx hb d_T_end_63 ?_
      refine cl_x (v := none) hlocks hno (vx_runS (As := [.int (nI ((fF (xr - 1)) + (szL 6 (fB (xr - 1)))))]) (rest := []) ⟨hx, hb, hml, hown, hw⟩ (c_T_requireRoom l hl0 D ((fF (xr - 1)) + (szL 6 (fB (xr - 1)))) (by omega) s.heap.size) (va_cwS 1 hw g_T_51 rfl rfl rfl ⟨by decide, by decide, by decide +kernel⟩ ⟨by decide, by decide⟩) ⟨PW.blind, PW.pre va_P.nil hK0 va_D.nil hS hA hE⟩ rfl rfl hl.1 rfl (lv_room (Nat.le_of_ble_eq_true rfl)) d_T_end_64 ⟨by decide, by decide⟩) (fun E h64 => by simp only [orE, h1, hil, h45, h64]) (fun h64 => ?_)
      have hr64 := rm_le h64
      refine lv_aload_n hx hb d_T_end_67 rfl (lv_at hl 1 rfl) ?_
      refine lv_aload_n hx hb d_T_end_68 rfl (lv_at hl 1 rfl) ?_
      refine va_get (D := D) (ci := 0) (C := RT) (T := FT) (N := 10) (v := .ref (z 5)) hx hb hw inT hown hK hP 0 rfl rfl 6 (by decide) (hw _ kF_T_22) (fun _ h9 => h9) rfl d_T_end_69 ?_
      refine lv_iload_n hx hb d_T_end_72 rfl (lv_at hl 0 rfl) ?_
      refine nw_iald hx hb hK hP 5 0 rfl rfl (k := xr - 1) (by omega) (by decide) d_T_end_73 ?_
      have b73 := hiF (xr - 1)
      refine lv_aload_n hx hb d_T_end_74 rfl (lv_at hl 1 rfl) ?_
      refine va_get (D := D) (ci := 0) (C := RT) (T := FT) (N := 10) (v := .ref (z 4)) hx hb hw inT hown hK hP 0 rfl rfl 5 (by decide) (hw _ kF_T_19) (fun _ h9 => h9) rfl d_T_end_75 ?_
      refine lv_iload_n hx hb d_T_end_78 rfl (lv_at hl 0 rfl) ?_
      refine nw_iald hx hb hK hP 4 0 rfl rfl (k := xr - 1) (by omega) (by decide) d_T_end_79 ?_
      have b79 := hiB (xr - 1)
      refine cl_w (v := none) hD hS hA (W.runV (b := z 0) (C := "TypeStack") (As := [.int (nI (fF (xr - 1))), .int (nI (fB (xr - 1)))]) (rest := []) ⟨hx, hb, hml, hown, hw⟩ (c_T_putList l D z cI cZ fT fK fA fB fF fE xh xg xr xn (fF (xr - 1)) (fB (xr - 1)) (by omega) (by omega) (by omega) s.heap.size) (cwV 2 hw g_T_54 rfl rfl rfl ⟨rfl, by decide, by decide, by decide +kernel⟩ ⟨by decide, by decide⟩) ⟨PW.blind, va_recv (q := (RT, FT, 10)) (ci := 0) (q0 := 0) hK hP rfl rfl, PW.pre hP hK hD hS hA hE⟩ rfl rfl hl.1 rfl (lv_room (Nat.le_of_ble_eq_true rfl)) d_T_end_80 ⟨by decide, by decide⟩) (fun H locs hP hD hS => ?_)
      have hP : va_P D cls2 (wT z cI cZ (pl fT (fF (xr - 1)) (szL 6 (fB (xr - 1))) (fB (xr - 1))) fK fA fB fF fE ((fF (xr - 1)) + szL 6 (fB (xr - 1))) (max xg ((fF (xr - 1)) + szL 6 (fB (xr - 1)))) xr xn) H := hP
      have hD : va_D (va_A (wT z cI cZ fT fK fA fB fF fE xh xg xr xn) s.heap.size) (wT z cI cZ (pl fT (fF (xr - 1)) (szL 6 (fB (xr - 1))) (fB (xr - 1))) fK fA fB fF fE ((fF (xr - 1)) + szL 6 (fB (xr - 1))) (max xg ((fF (xr - 1)) + szL 6 (fB (xr - 1)))) xr xn) := hD
      refine lv_aload_n hx hb d_T_end_83 rfl (lv_at hl 1 rfl) ?_
      refine lv_iload_n hx hb d_T_end_84 rfl (lv_at hl 0 rfl) ?_
      refine va_put (D := D) (ci := 0) (C := RT) (T := FT) (N := 10) (v := .int (nI (xr - 1))) (ty := .int) hx hb hw inT tT tT_ok nT hown hK hP hD hS 0 rfl rfl 8 (by decide) (hw _ kF_T_79) (fun _ h9 => h9) rfl (by decide +kernel) rfl rfl (Nat.le_of_ble_eq_true rfl) d_T_end_85 (fun H locs hP hD hS => ?_)
      have hP : va_P D cls2 (wT z cI cZ (pl fT (fF (xr - 1)) (szL 6 (fB (xr - 1))) (fB (xr - 1))) fK fA fB fF fE ((fF (xr - 1)) + szL 6 (fB (xr - 1))) (max xg ((fF (xr - 1)) + szL 6 (fB (xr - 1)))) (xr - 1) xn) H := hP
      have hD : va_D (va_A (wT z cI cZ fT fK fA fB fF fE xh xg xr xn) s.heap.size) (wT z cI cZ (pl fT (fF (xr - 1)) (szL 6 (fB (xr - 1))) (fB (xr - 1))) fK fA fB fF fE ((fF (xr - 1)) + szL 6 (fB (xr - 1))) (max xg ((fF (xr - 1)) + szL 6 (fB (xr - 1)))) (xr - 1) xn) := hD
      refine lv_aload_n hx hb d_T_end_88 rfl (lv_at hl 1 rfl) ?_
      refine lv_dup hx hb d_T_end_89 rfl ?_
      refine va_get (D := D) (ci := 0) (C := RT) (T := FT) (N := 10) (v := .int (nI xn)) hx hb hw inT hown hK hP 0 rfl rfl 9 (by decide) (hw _ kF_T_58) (fun _ h9 => h9) rfl d_T_end_90 ?_
      refine lv_iconst (v := nI 1) hx hb d_T_end_93 (by decide) ?_
      refine nw_add hx hb d_T_end_94 ?_
      refine va_put (D := D) (ci := 0) (C := RT) (T := FT) (N := 10) (v := .int (nI (xn + 1))) (ty := .int) hx hb hw inT tT tT_ok nT hown hK hP hD hS 0 rfl rfl 9 (by decide) (hw _ kF_T_58) (fun _ h9 => h9) rfl (by decide +kernel) rfl rfl (Nat.le_of_ble_eq_true rfl) d_T_end_95 (fun H locs hP hD hS => ?_)
      have hP : va_P D cls2 (wT z cI cZ (pl fT (fF (xr - 1)) (szL 6 (fB (xr - 1))) (fB (xr - 1))) fK fA fB fF fE ((fF (xr - 1)) + szL 6 (fB (xr - 1))) (max xg ((fF (xr - 1)) + szL 6 (fB (xr - 1)))) (xr - 1) (xn + 1)) H := hP
      have hD : va_D (va_A (wT z cI cZ fT fK fA fB fF fE xh xg xr xn) s.heap.size) (wT z cI cZ (pl fT (fF (xr - 1)) (szL 6 (fB (xr - 1))) (fB (xr - 1))) fK fA fB fF fE ((fF (xr - 1)) + szL 6 (fB (xr - 1))) (max xg ((fF (xr - 1)) + szL 6 (fB (xr - 1)))) (xr - 1) (xn + 1)) := hD
      refine lv_aload_n hx hb d_T_end_98 rfl (lv_at hl 1 rfl) ?_
      refine va_get (D := D) (ci := 0) (C := RT) (T := FT) (N := 10) (v := .int (nI (xr - 1))) hx hb hw inT hown hK hP 0 rfl rfl 8 (by decide) (hw _ kF_T_79) (fun _ h9 => h9) rfl d_T_end_99 ?_
      have hP : va_P D cls2 (wT z cI cZ (pl fT (fF (xr - 1)) (szL 6 (fB (xr - 1))) (fB (xr - 1))) fK fA fB fF fE ((fF (xr - 1)) + szL 6 (fB (xr - 1))) (max xg ((fF (xr - 1)) + szL 6 (fB (xr - 1)))) (xr - 1) (xn + 1)) H := by exact hP
      have hD : va_D (va_A (wT z cI cZ fT fK fA fB fF fE xh xg xr xn) s.heap.size) (wT z cI cZ (pl fT (fF (xr - 1)) (szL 6 (fB (xr - 1))) (fB (xr - 1))) fK fA fB fF fE ((fF (xr - 1)) + szL 6 (fB (xr - 1))) (max xg ((fF (xr - 1)) + szL 6 (fB (xr - 1)))) (xr - 1) (xn + 1)) := by exact hD
      exact vx_ret (W.widen (k := 1) (n := 6) (by decide) (by decide) (W.iret hx hb hrt (fun t ht _ => ⟨by simp only [orE, h1, hil, h45, h64], ⟨rfl, by rw [ht]; exact hP, hD⟩, hS.F ht⟩) hS.2.2 d_T_end_102))
    · skip
      exact thr_UOE hx hb hl0 hown hw hE (va_S.rf) (hl.1.trans hml.symm) d_T_end_36 d_T_end_39 d_T_end_40 d_T_end_43 hno (by decide) (by decide) (by decide) (by decide) hlocks (by simp only [orE, h1, ifL, if_pos (And.intro h18 h33)])

set_option maxHeartbeats 4000000 in
set_option maxRecDepth 100000 in
theorem c_T_leap (l : Launch) (hl0 : l.stackTraces = false) (D : va_G) (z : Nat → Nat) (cI cZ : ClassId) (fT fK fA fB fF fE : Nat → Nat) (xh xg xr xn : Nat) (hi : IT fT fK fA fB fF fE xh xg xr) (x : Int32) (sz : Nat) : vx_Met l y_T_leap w_T_leap (rmX 4) (PW D [(cI, .int), (cZ, .boolean)] (wT z cI cZ fT fK fA fB fF fE xh xg xr xn) sz [.ref (z 0), .int x]) (QXW (orE (xf xr x) (xo ISE (hbL (fF (xr - 1)) (fE (xr - 1)) fT 6 xh (wnt fK fA fB (xr - 1 - x.toNatClampNeg))))) D [(cI, .int), (cZ, .boolean)] (wT z cI cZ fT fK fA fB fF fE xh xg xr xn) (wT z cI cZ fT fK fA fB fF (va_up fE (xr - 1) 1) (fF (xr - 1)) xg xr (xn + 1)) sz (none)) (XX (orE (xf xr x) (xo ISE (hbL (fF (xr - 1)) (fE (xr - 1)) fT 6 xh (wnt fK fA fB (xr - 1 - x.toNatClampNeg)))))) 1 6 (va_A (wT z cI cZ fT fK fA fB fF fE xh xg xr xn) sz) := by
  refine vx_ofW (cc := b_T_leap) (maxL := 3) (ret := none) (by decide) rfl ?_
  intro p e s m args below meth c s₁ B hml hno hv
  obtain ⟨rfl, hsz, hP, hK, hD0, hE⟩ := hv
  have hx := B.exec
  have hb := B.bytes
  have hrt := B.returns
  have hts := atoms_spec (ws := w_T_leap) B.pre
  have hw : ∀ w ∈ bw, w.before ([.ref (z 0), .int x]).toArray s = true := fun w h => hts w (List.mem_cons_of_mem _ h)
  have hown : s.vm.findClass "TypeStack" = some m.cls := findClass_of_methodNamed B.named
  have hlocks := B.notSynchronized
  subst hsz
  have hD := hD0.self (sz := s.heap.size)
  have hA : ∀ q : Nat, s.heap.size ≤ q → va_A (wT z cI cZ fT fK fA fB fF fE xh xg xr xn) s.heap.size q := fun q h => Or.inr h
  have hS : va_S (va_A (wT z cI cZ fT fK fA fB fF fE xh xg xr xn) s.heap.size) s.heap s.heap [] := va_S.rf
  have hK0 := hK.sub (tys' := []) [] rfl
  skip
  have hl := lv_entry ([.ref (z 0), .int x]) (n := 3) (Nat.le_of_ble_eq_true rfl)
  rw [lg_entry_eq]
  generalize (lg_sl ([.ref (z 0), .int x]) ++ List.replicate (3 - (lg_sl ([.ref (z 0), .int x])).length) Slot.unset).toArray = ls at hl ⊢
  have hl : lv_has ls 3 [(0, .ref (z 0)), (1, .int x)] := hl
  obtain ⟨hiT, hiK, hiA, hiB, hiF, hiE, hih, hig, hir⟩ := id hi
  refine lv_aload_n hx hb d_T_leap_0 rfl (lv_at hl 0 rfl) ?_
  refine lv_aload_n hx hb d_T_leap_1 rfl (lv_at hl 0 rfl) ?_
  refine lv_iload_n hx hb d_T_leap_2 rfl (lv_at hl 1 rfl) ?_
  refine cl_x (v := some (.int (nI (xr - 1 - x.toNatClampNeg)))) hlocks hno (vx_runV (b := z 0) (C := "TypeStack") (As := [.int x]) (rest := [.ref (z 0)]) ⟨hx, hb, hml, hown, hw⟩ (c_T_frameOfLabel l hl0 D z cI cZ fT fK fA fB fF fE xh xg xr xn hi x s.heap.size) (cwV 1 hw g_T_95 rfl rfl rfl ⟨rfl, by decide, by decide, by decide +kernel⟩ ⟨by decide, by decide⟩) ⟨PW.blind, va_recv (q := (RT, FT, 10)) (ci := 0) (q0 := 0) hK hP rfl rfl, PW.pre hP hK hD hS hA hE⟩ rfl rfl hl.1 rfl (lv_room (Nat.le_of_ble_eq_true rfl)) d_T_leap_3 ⟨by decide, by decide⟩) (fun E h3 => by simp only [orE, h3]) (fun h3 => ?_)
  have hr3 := xf_pos h3
  refine cl_r (v := some (.int (nI (wnt fK fA fB (xr - 1 - x.toNatClampNeg))))) (W.runV (b := z 0) (C := "TypeStack") (As := [.int (nI (xr - 1 - x.toNatClampNeg))]) (rest := []) ⟨hx, hb, hml, hown, hw⟩ (c_T_wantedBy l D z cI cZ fT fK fA fB fF fE xh xg xr xn hi (xr - 1 - x.toNatClampNeg) (by omega) s.heap.size) (cwV 1 hw g_T_98 rfl rfl rfl ⟨rfl, by decide, by decide, by decide +kernel⟩ ⟨by decide, by decide⟩) ⟨PW.blind, va_recv (q := (RT, FT, 10)) (ci := 0) (q0 := 0) hK hP rfl rfl, PW.pre hP hK hD hS hA hE⟩ rfl rfl hl.1 rfl (lv_room (Nat.le_of_ble_eq_true rfl)) d_T_leap_6 ⟨by decide, by decide⟩) ?_
  have hw6 := wnt_lt fK hiA hiB (xr - 1 - x.toNatClampNeg)
  refine lv_istore_n (lv' := [(2, .int (nI (wnt fK fA fB (xr - 1 - x.toNatClampNeg)))), (0, .ref (z 0)), (1, .int x)]) hx hb d_T_leap_9 rfl hl (by decide) rfl (fun ls hl => ?_)
  refine lv_aload_n hx hb d_T_leap_10 rfl (lv_at hl 1 rfl) ?_
  refine lv_aload_n hx hb d_T_leap_11 rfl (lv_at hl 1 rfl) ?_
  refine va_get (D := D) (ci := 0) (C := RT) (T := FT) (N := 10) (v := .int (nI xh)) hx hb hw inT hown hK hP 0 rfl rfl 1 (by decide) (hw _ kF_T_39) (fun _ h9 => h9) rfl d_T_leap_12 ?_
  refine lv_iload_n hx hb d_T_leap_15 rfl (lv_at hl 0 rfl) ?_
  refine cl_x (v := some (.int (nI ((hbL (fF (xr - 1)) (fE (xr - 1)) fT 6 xh (wnt fK fA fB (xr - 1 - x.toNatClampNeg))).getD 0)))) hlocks hno (vx_runV (b := z 0) (C := "TypeStack") (As := [.int (nI xh), .int (nI (wnt fK fA fB (xr - 1 - x.toNatClampNeg)))]) (rest := []) ⟨hx, hb, hml, hown, hw⟩ (c_T_heightBelowList l hl0 D z cI cZ fT fK fA fB fF fE xh xg xr xn hi xh (wnt fK fA fB (xr - 1 - x.toNatClampNeg)) (by omega) (by omega) (by omega) s.heap.size) (cwV 2 hw g_T_43 rfl rfl rfl ⟨rfl, by decide, by decide, by decide +kernel⟩ ⟨by decide, by decide⟩) ⟨PW.blind, va_recv (q := (RT, FT, 10)) (ci := 0) (q0 := 0) hK hP rfl rfl, PW.pre hP hK hD hS hA hE⟩ rfl rfl hl.1 rfl (lv_room (Nat.le_of_ble_eq_true rfl)) d_T_leap_16 ⟨by decide, by decide⟩) (fun E h16 => by simp only [orE, h3, h16]) (fun h16 => ?_)
  have hq16 := hbL_le (fF (xr - 1)) (fE (xr - 1)) fT 6 xh (wnt fK fA fB (xr - 1 - x.toNatClampNeg))
  refine lv_pop hx hb d_T_leap_19 rfl ?_
  refine lv_aload_n hx hb d_T_leap_20 rfl (lv_at hl 1 rfl) ?_
  refine cl_w (v := none) hD hS hA (W.runV (b := z 0) (C := "TypeStack") (As := []) (rest := []) ⟨hx, hb, hml, hown, hw⟩ (c_T_die l D z cI cZ fT fK fA fB fF fE xh xg xr xn (by omega) (by omega) s.heap.size) (cwV 0 hw g_T_101 rfl rfl rfl ⟨rfl, by decide, by decide, by decide +kernel⟩ ⟨by decide, by decide⟩) ⟨PW.blind, va_recv (q := (RT, FT, 10)) (ci := 0) (q0 := 0) hK hP rfl rfl, PW.pre hP hK hD hS hA hE⟩ rfl rfl hl.1 rfl (lv_room (Nat.le_of_ble_eq_true rfl)) d_T_leap_21 ⟨by decide, by decide⟩) (fun H locs hP hD hS => ?_)
  have hP : va_P D cls2 (wT z cI cZ fT fK fA fB fF (va_up fE (xr - 1) 1) (fF (xr - 1)) xg xr xn) H := hP
  have hD : va_D (va_A (wT z cI cZ fT fK fA fB fF fE xh xg xr xn) s.heap.size) (wT z cI cZ fT fK fA fB fF (va_up fE (xr - 1) 1) (fF (xr - 1)) xg xr xn) := hD
  refine lv_aload_n hx hb d_T_leap_24 rfl (lv_at hl 1 rfl) ?_
  refine lv_dup hx hb d_T_leap_25 rfl ?_
  refine va_get (D := D) (ci := 0) (C := RT) (T := FT) (N := 10) (v := .int (nI xn)) hx hb hw inT hown hK hP 0 rfl rfl 9 (by decide) (hw _ kF_T_58) (fun _ h9 => h9) rfl d_T_leap_26 ?_
  refine lv_iconst (v := nI 1) hx hb d_T_leap_29 (by decide) ?_
  refine nw_add hx hb d_T_leap_30 ?_
  refine va_put (D := D) (ci := 0) (C := RT) (T := FT) (N := 10) (v := .int (nI (xn + 1))) (ty := .int) hx hb hw inT tT tT_ok nT hown hK hP hD hS 0 rfl rfl 9 (by decide) (hw _ kF_T_58) (fun _ h9 => h9) rfl (by decide +kernel) rfl rfl (Nat.le_of_ble_eq_true rfl) d_T_leap_31 (fun H locs hP hD hS => ?_)
  have hP : va_P D cls2 (wT z cI cZ fT fK fA fB fF (va_up fE (xr - 1) 1) (fF (xr - 1)) xg xr (xn + 1)) H := hP
  have hD : va_D (va_A (wT z cI cZ fT fK fA fB fF fE xh xg xr xn) s.heap.size) (wT z cI cZ fT fK fA fB fF (va_up fE (xr - 1) 1) (fF (xr - 1)) xg xr (xn + 1)) := hD
  have hP : va_P D cls2 (wT z cI cZ fT fK fA fB fF (va_up fE (xr - 1) 1) (fF (xr - 1)) xg xr (xn + 1)) H := by exact hP
  have hD : va_D (va_A (wT z cI cZ fT fK fA fB fF fE xh xg xr xn) s.heap.size) (wT z cI cZ fT fK fA fB fF (va_up fE (xr - 1) 1) (fF (xr - 1)) xg xr (xn + 1)) := by exact hD
  exact vx_ret (W.widen (k := 1) (n := 6) (by decide) (by decide) (W.vret hx hb hrt (fun t ht _ => ⟨by simp only [orE, h3, h16], ⟨rfl, by rw [ht]; exact hP, hD⟩, hS.F ht⟩) hS.2.2 d_T_leap_34))

set_option maxHeartbeats 4000000 in
set_option maxRecDepth 100000 in
theorem c_T_leapIf (l : Launch) (hl0 : l.stackTraces = false) (D : va_G) (z : Nat → Nat) (cI cZ : ClassId) (fT fK fA fB fF fE : Nat → Nat) (xh xg xr xn : Nat) (hi : IT fT fK fA fB fF fE xh xg xr) (x : Int32) (sz : Nat) : vx_Met l y_T_leapIf w_T_leapIf (rmX 4) (PW D [(cI, .int), (cZ, .boolean)] (wT z cI cZ fT fK fA fB fF fE xh xg xr xn) sz [.ref (z 0), .int x]) (QXW (orE (xf xr x) (orE (xo ISE (hbT (fF (xr - 1)) (fE (xr - 1)) fT xh 1)) (orE (xo ISE (hbL (fF (xr - 1)) (fE (xr - 1)) fT 6 ((hbT (fF (xr - 1)) (fE (xr - 1)) fT xh 1).getD 0) (wnt fK fA fB (xr - 1 - x.toNatClampNeg)))) (rmE ((hbL (fF (xr - 1)) (fE (xr - 1)) fT 6 ((hbT (fF (xr - 1)) (fE (xr - 1)) fT xh 1).getD 0) (wnt fK fA fB (xr - 1 - x.toNatClampNeg))).getD 0 + szL 6 (wnt fK fA fB (xr - 1 - x.toNatClampNeg))))))) D [(cI, .int), (cZ, .boolean)] (wT z cI cZ fT fK fA fB fF fE xh xg xr xn) (wT z cI cZ (pl fT ((hbL (fF (xr - 1)) (fE (xr - 1)) fT 6 ((hbT (fF (xr - 1)) (fE (xr - 1)) fT xh 1).getD 0) (wnt fK fA fB (xr - 1 - x.toNatClampNeg))).getD 0) (szL 6 (wnt fK fA fB (xr - 1 - x.toNatClampNeg))) (wnt fK fA fB (xr - 1 - x.toNatClampNeg))) fK fA fB fF fE (((hbL (fF (xr - 1)) (fE (xr - 1)) fT 6 ((hbT (fF (xr - 1)) (fE (xr - 1)) fT xh 1).getD 0) (wnt fK fA fB (xr - 1 - x.toNatClampNeg))).getD 0) + szL 6 (wnt fK fA fB (xr - 1 - x.toNatClampNeg))) (max xg (((hbL (fF (xr - 1)) (fE (xr - 1)) fT 6 ((hbT (fF (xr - 1)) (fE (xr - 1)) fT xh 1).getD 0) (wnt fK fA fB (xr - 1 - x.toNatClampNeg))).getD 0) + szL 6 (wnt fK fA fB (xr - 1 - x.toNatClampNeg)))) xr (xn + 1)) sz (some (.int (nI ((hbL (fF (xr - 1)) (fE (xr - 1)) fT 6 ((hbT (fF (xr - 1)) (fE (xr - 1)) fT xh 1).getD 0) (wnt fK fA fB (xr - 1 - x.toNatClampNeg))).getD 0 + szL 6 (wnt fK fA fB (xr - 1 - x.toNatClampNeg))))))) (XX (orE (xf xr x) (orE (xo ISE (hbT (fF (xr - 1)) (fE (xr - 1)) fT xh 1)) (orE (xo ISE (hbL (fF (xr - 1)) (fE (xr - 1)) fT 6 ((hbT (fF (xr - 1)) (fE (xr - 1)) fT xh 1).getD 0) (wnt fK fA fB (xr - 1 - x.toNatClampNeg)))) (rmE ((hbL (fF (xr - 1)) (fE (xr - 1)) fT 6 ((hbT (fF (xr - 1)) (fE (xr - 1)) fT xh 1).getD 0) (wnt fK fA fB (xr - 1 - x.toNatClampNeg))).getD 0 + szL 6 (wnt fK fA fB (xr - 1 - x.toNatClampNeg)))))))) 1 6 (va_A (wT z cI cZ fT fK fA fB fF fE xh xg xr xn) sz) := by
  refine vx_ofW (cc := b_T_leapIf) (maxL := 4) (ret := (some .int)) (by decide) rfl ?_
  intro p e s m args below meth c s₁ B hml hno hv
  obtain ⟨rfl, hsz, hP, hK, hD0, hE⟩ := hv
  have hx := B.exec
  have hb := B.bytes
  have hrt := B.returns
  have hts := atoms_spec (ws := w_T_leapIf) B.pre
  have hw : ∀ w ∈ bw, w.before ([.ref (z 0), .int x]).toArray s = true := fun w h => hts w (List.mem_cons_of_mem _ h)
  have hown : s.vm.findClass "TypeStack" = some m.cls := findClass_of_methodNamed B.named
  have hlocks := B.notSynchronized
  subst hsz
  have hD := hD0.self (sz := s.heap.size)
  have hA : ∀ q : Nat, s.heap.size ≤ q → va_A (wT z cI cZ fT fK fA fB fF fE xh xg xr xn) s.heap.size q := fun q h => Or.inr h
  have hS : va_S (va_A (wT z cI cZ fT fK fA fB fF fE xh xg xr xn) s.heap.size) s.heap s.heap [] := va_S.rf
  have hK0 := hK.sub (tys' := []) [] rfl
  skip
  have hl := lv_entry ([.ref (z 0), .int x]) (n := 4) (Nat.le_of_ble_eq_true rfl)
  rw [lg_entry_eq]
  generalize (lg_sl ([.ref (z 0), .int x]) ++ List.replicate (4 - (lg_sl ([.ref (z 0), .int x])).length) Slot.unset).toArray = ls at hl ⊢
  have hl : lv_has ls 4 [(0, .ref (z 0)), (1, .int x)] := hl
  obtain ⟨hiT, hiK, hiA, hiB, hiF, hiE, hih, hig, hir⟩ := id hi
  refine lv_aload_n hx hb d_T_leapIf_0 rfl (lv_at hl 0 rfl) ?_
  refine lv_aload_n hx hb d_T_leapIf_1 rfl (lv_at hl 0 rfl) ?_
  refine lv_iload_n hx hb d_T_leapIf_2 rfl (lv_at hl 1 rfl) ?_
  refine cl_x (v := some (.int (nI (xr - 1 - x.toNatClampNeg)))) hlocks hno (vx_runV (b := z 0) (C := "TypeStack") (As := [.int x]) (rest := [.ref (z 0)]) ⟨hx, hb, hml, hown, hw⟩ (c_T_frameOfLabel l hl0 D z cI cZ fT fK fA fB fF fE xh xg xr xn hi x s.heap.size) (cwV 1 hw g_T_95 rfl rfl rfl ⟨rfl, by decide, by decide, by decide +kernel⟩ ⟨by decide, by decide⟩) ⟨PW.blind, va_recv (q := (RT, FT, 10)) (ci := 0) (q0 := 0) hK hP rfl rfl, PW.pre hP hK hD hS hA hE⟩ rfl rfl hl.1 rfl (lv_room (Nat.le_of_ble_eq_true rfl)) d_T_leapIf_3 ⟨by decide, by decide⟩) (fun E h3 => by simp only [orE, h3]) (fun h3 => ?_)
  have hr3 := xf_pos h3
  refine cl_r (v := some (.int (nI (wnt fK fA fB (xr - 1 - x.toNatClampNeg))))) (W.runV (b := z 0) (C := "TypeStack") (As := [.int (nI (xr - 1 - x.toNatClampNeg))]) (rest := []) ⟨hx, hb, hml, hown, hw⟩ (c_T_wantedBy l D z cI cZ fT fK fA fB fF fE xh xg xr xn hi (xr - 1 - x.toNatClampNeg) (by omega) s.heap.size) (cwV 1 hw g_T_98 rfl rfl rfl ⟨rfl, by decide, by decide, by decide +kernel⟩ ⟨by decide, by decide⟩) ⟨PW.blind, va_recv (q := (RT, FT, 10)) (ci := 0) (q0 := 0) hK hP rfl rfl, PW.pre hP hK hD hS hA hE⟩ rfl rfl hl.1 rfl (lv_room (Nat.le_of_ble_eq_true rfl)) d_T_leapIf_6 ⟨by decide, by decide⟩) ?_
  have hw6 := wnt_lt fK hiA hiB (xr - 1 - x.toNatClampNeg)
  refine lv_istore_n (lv' := [(2, .int (nI (wnt fK fA fB (xr - 1 - x.toNatClampNeg)))), (0, .ref (z 0)), (1, .int x)]) hx hb d_T_leapIf_9 rfl hl (by decide) rfl (fun ls hl => ?_)
  refine lv_aload_n hx hb d_T_leapIf_10 rfl (lv_at hl 1 rfl) ?_
  refine lv_aload_n hx hb d_T_leapIf_11 rfl (lv_at hl 1 rfl) ?_
  refine lv_aload_n hx hb d_T_leapIf_12 rfl (lv_at hl 1 rfl) ?_
  refine va_get (D := D) (ci := 0) (C := RT) (T := FT) (N := 10) (v := .int (nI xh)) hx hb hw inT hown hK hP 0 rfl rfl 1 (by decide) (hw _ kF_T_39) (fun _ h9 => h9) rfl d_T_leapIf_13 ?_
  refine lv_iconst (v := nI 1) hx hb d_T_leapIf_16 (by decide) ?_
  refine cl_x (v := some (.int (nI ((hbT (fF (xr - 1)) (fE (xr - 1)) fT xh 1).getD 0)))) hlocks hno (vx_runV (b := z 0) (C := "TypeStack") (As := [.int (nI xh), .int (nI 1)]) (rest := [.ref (z 0)]) ⟨hx, hb, hml, hown, hw⟩ (c_T_heightBelowType l hl0 D z cI cZ fT fK fA fB fF fE xh xg xr xn hi xh 1 (by omega) (by omega) (by omega) s.heap.size) (cwV 2 hw g_T_67 rfl rfl rfl ⟨rfl, by decide, by decide, by decide +kernel⟩ ⟨by decide, by decide⟩) ⟨PW.blind, va_recv (q := (RT, FT, 10)) (ci := 0) (q0 := 0) hK hP rfl rfl, PW.pre hP hK hD hS hA hE⟩ rfl rfl hl.1 rfl (lv_room (Nat.le_of_ble_eq_true rfl)) d_T_leapIf_17 ⟨by decide, by decide⟩) (fun E h17 => by simp only [orE, h3, h17]) (fun h17 => ?_)
  have hq17 := hbT_le (fF (xr - 1)) (fE (xr - 1)) fT xh 1
  refine lv_iload_n hx hb d_T_leapIf_20 rfl (lv_at hl 0 rfl) ?_
  refine cl_x (v := some (.int (nI ((hbL (fF (xr - 1)) (fE (xr - 1)) fT 6 ((hbT (fF (xr - 1)) (fE (xr - 1)) fT xh 1).getD 0) (wnt fK fA fB (xr - 1 - x.toNatClampNeg))).getD 0)))) hlocks hno (vx_runV (b := z 0) (C := "TypeStack") (As := [.int (nI ((hbT (fF (xr - 1)) (fE (xr - 1)) fT xh 1).getD 0)), .int (nI (wnt fK fA fB (xr - 1 - x.toNatClampNeg)))]) (rest := []) ⟨hx, hb, hml, hown, hw⟩ (c_T_heightBelowList l hl0 D z cI cZ fT fK fA fB fF fE xh xg xr xn hi ((hbT (fF (xr - 1)) (fE (xr - 1)) fT xh 1).getD 0) (wnt fK fA fB (xr - 1 - x.toNatClampNeg)) (by omega) (by omega) (by omega) s.heap.size) (cwV 2 hw g_T_43 rfl rfl rfl ⟨rfl, by decide, by decide, by decide +kernel⟩ ⟨by decide, by decide⟩) ⟨PW.blind, va_recv (q := (RT, FT, 10)) (ci := 0) (q0 := 0) hK hP rfl rfl, PW.pre hP hK hD hS hA hE⟩ rfl rfl hl.1 rfl (lv_room (Nat.le_of_ble_eq_true rfl)) d_T_leapIf_21 ⟨by decide, by decide⟩) (fun E h21 => by simp only [orE, h3, h17, h21]) (fun h21 => ?_)
  have hq21 := hbL_le (fF (xr - 1)) (fE (xr - 1)) fT 6 ((hbT (fF (xr - 1)) (fE (xr - 1)) fT xh 1).getD 0) (wnt fK fA fB (xr - 1 - x.toNatClampNeg))
  refine lv_istore_n (lv' := [(3, .int (nI ((hbL (fF (xr - 1)) (fE (xr - 1)) fT 6 ((hbT (fF (xr - 1)) (fE (xr - 1)) fT xh 1).getD 0) (wnt fK fA fB (xr - 1 - x.toNatClampNeg))).getD 0))), (2, .int (nI (wnt fK fA fB (xr - 1 - x.toNatClampNeg)))), (0, .ref (z 0)), (1, .int x)]) hx hb d_T_leapIf_24 rfl hl (by decide) rfl (fun ls hl => ?_)
  refine lv_iload_n hx hb d_T_leapIf_25 rfl (lv_at hl 0 rfl) ?_
  refine lv_iload_n hx hb d_T_leapIf_26 rfl (lv_at hl 1 rfl) ?_
  refine cl_r (v := some (.int (nI (szL 6 (wnt fK fA fB (xr - 1 - x.toNatClampNeg)))))) (W.runS (As := [.int (nI (wnt fK fA fB (xr - 1 - x.toNatClampNeg)))]) (rest := [.int (nI ((hbL (fF (xr - 1)) (fE (xr - 1)) fT 6 ((hbT (fF (xr - 1)) (fE (xr - 1)) fT xh 1).getD 0) (wnt fK fA fB (xr - 1 - x.toNatClampNeg))).getD 0))]) ⟨hx, hb, hml, hown, hw⟩ (c_T_sizeOf l D (wnt fK fA fB (xr - 1 - x.toNatClampNeg)) (by omega) s.heap.size) (va_cwS 1 hw g_T_47 rfl rfl rfl ⟨by decide, by decide, by decide +kernel⟩ ⟨by decide, by decide⟩) ⟨PW.blind, PW.pre va_P.nil hK0 va_D.nil hS hA hE⟩ rfl rfl hl.1 rfl (lv_room (Nat.le_of_ble_eq_true rfl)) d_T_leapIf_27 ⟨by decide, by decide⟩) ?_
  have hs27 := szL_le 6 (wnt fK fA fB (xr - 1 - x.toNatClampNeg))
  refine nw_add hx hb d_T_leapIf_30 ?_
  refine cl_x (v := none) hlocks hno (vx_runS (As := [.int (nI (((hbL (fF (xr - 1)) (fE (xr - 1)) fT 6 ((hbT (fF (xr - 1)) (fE (xr - 1)) fT xh 1).getD 0) (wnt fK fA fB (xr - 1 - x.toNatClampNeg))).getD 0) + (szL 6 (wnt fK fA fB (xr - 1 - x.toNatClampNeg)))))]) (rest := []) ⟨hx, hb, hml, hown, hw⟩ (c_T_requireRoom l hl0 D (((hbL (fF (xr - 1)) (fE (xr - 1)) fT 6 ((hbT (fF (xr - 1)) (fE (xr - 1)) fT xh 1).getD 0) (wnt fK fA fB (xr - 1 - x.toNatClampNeg))).getD 0) + (szL 6 (wnt fK fA fB (xr - 1 - x.toNatClampNeg)))) (by omega) s.heap.size) (va_cwS 1 hw g_T_51 rfl rfl rfl ⟨by decide, by decide, by decide +kernel⟩ ⟨by decide, by decide⟩) ⟨PW.blind, PW.pre va_P.nil hK0 va_D.nil hS hA hE⟩ rfl rfl hl.1 rfl (lv_room (Nat.le_of_ble_eq_true rfl)) d_T_leapIf_31 ⟨by decide, by decide⟩) (fun E h31 => by simp only [orE, h3, h17, h21, h31]) (fun h31 => ?_)
  have hr31 := rm_le h31
  refine lv_aload_n hx hb d_T_leapIf_34 rfl (lv_at hl 2 rfl) ?_
  refine lv_iload_n hx hb d_T_leapIf_35 rfl (lv_at hl 0 rfl) ?_
  refine lv_iload_n hx hb d_T_leapIf_36 rfl (lv_at hl 1 rfl) ?_
  refine cl_w (v := none) hD hS hA (W.runV (b := z 0) (C := "TypeStack") (As := [.int (nI ((hbL (fF (xr - 1)) (fE (xr - 1)) fT 6 ((hbT (fF (xr - 1)) (fE (xr - 1)) fT xh 1).getD 0) (wnt fK fA fB (xr - 1 - x.toNatClampNeg))).getD 0)), .int (nI (wnt fK fA fB (xr - 1 - x.toNatClampNeg)))]) (rest := []) ⟨hx, hb, hml, hown, hw⟩ (c_T_putList l D z cI cZ fT fK fA fB fF fE xh xg xr xn ((hbL (fF (xr - 1)) (fE (xr - 1)) fT 6 ((hbT (fF (xr - 1)) (fE (xr - 1)) fT xh 1).getD 0) (wnt fK fA fB (xr - 1 - x.toNatClampNeg))).getD 0) (wnt fK fA fB (xr - 1 - x.toNatClampNeg)) (by omega) (by omega) (by omega) s.heap.size) (cwV 2 hw g_T_54 rfl rfl rfl ⟨rfl, by decide, by decide, by decide +kernel⟩ ⟨by decide, by decide⟩) ⟨PW.blind, va_recv (q := (RT, FT, 10)) (ci := 0) (q0 := 0) hK hP rfl rfl, PW.pre hP hK hD hS hA hE⟩ rfl rfl hl.1 rfl (lv_room (Nat.le_of_ble_eq_true rfl)) d_T_leapIf_37 ⟨by decide, by decide⟩) (fun H locs hP hD hS => ?_)
  have hP : va_P D cls2 (wT z cI cZ (pl fT ((hbL (fF (xr - 1)) (fE (xr - 1)) fT 6 ((hbT (fF (xr - 1)) (fE (xr - 1)) fT xh 1).getD 0) (wnt fK fA fB (xr - 1 - x.toNatClampNeg))).getD 0) (szL 6 (wnt fK fA fB (xr - 1 - x.toNatClampNeg))) (wnt fK fA fB (xr - 1 - x.toNatClampNeg))) fK fA fB fF fE (((hbL (fF (xr - 1)) (fE (xr - 1)) fT 6 ((hbT (fF (xr - 1)) (fE (xr - 1)) fT xh 1).getD 0) (wnt fK fA fB (xr - 1 - x.toNatClampNeg))).getD 0) + szL 6 (wnt fK fA fB (xr - 1 - x.toNatClampNeg))) (max xg (((hbL (fF (xr - 1)) (fE (xr - 1)) fT 6 ((hbT (fF (xr - 1)) (fE (xr - 1)) fT xh 1).getD 0) (wnt fK fA fB (xr - 1 - x.toNatClampNeg))).getD 0) + szL 6 (wnt fK fA fB (xr - 1 - x.toNatClampNeg)))) xr xn) H := hP
  have hD : va_D (va_A (wT z cI cZ fT fK fA fB fF fE xh xg xr xn) s.heap.size) (wT z cI cZ (pl fT ((hbL (fF (xr - 1)) (fE (xr - 1)) fT 6 ((hbT (fF (xr - 1)) (fE (xr - 1)) fT xh 1).getD 0) (wnt fK fA fB (xr - 1 - x.toNatClampNeg))).getD 0) (szL 6 (wnt fK fA fB (xr - 1 - x.toNatClampNeg))) (wnt fK fA fB (xr - 1 - x.toNatClampNeg))) fK fA fB fF fE (((hbL (fF (xr - 1)) (fE (xr - 1)) fT 6 ((hbT (fF (xr - 1)) (fE (xr - 1)) fT xh 1).getD 0) (wnt fK fA fB (xr - 1 - x.toNatClampNeg))).getD 0) + szL 6 (wnt fK fA fB (xr - 1 - x.toNatClampNeg))) (max xg (((hbL (fF (xr - 1)) (fE (xr - 1)) fT 6 ((hbT (fF (xr - 1)) (fE (xr - 1)) fT xh 1).getD 0) (wnt fK fA fB (xr - 1 - x.toNatClampNeg))).getD 0) + szL 6 (wnt fK fA fB (xr - 1 - x.toNatClampNeg)))) xr xn) := hD
  refine lv_aload_n hx hb d_T_leapIf_40 rfl (lv_at hl 2 rfl) ?_
  refine lv_dup hx hb d_T_leapIf_41 rfl ?_
  refine va_get (D := D) (ci := 0) (C := RT) (T := FT) (N := 10) (v := .int (nI xn)) hx hb hw inT hown hK hP 0 rfl rfl 9 (by decide) (hw _ kF_T_58) (fun _ h9 => h9) rfl d_T_leapIf_42 ?_
  refine lv_iconst (v := nI 1) hx hb d_T_leapIf_45 (by decide) ?_
  refine nw_add hx hb d_T_leapIf_46 ?_
  refine va_put (D := D) (ci := 0) (C := RT) (T := FT) (N := 10) (v := .int (nI (xn + 1))) (ty := .int) hx hb hw inT tT tT_ok nT hown hK hP hD hS 0 rfl rfl 9 (by decide) (hw _ kF_T_58) (fun _ h9 => h9) rfl (by decide +kernel) rfl rfl (Nat.le_of_ble_eq_true rfl) d_T_leapIf_47 (fun H locs hP hD hS => ?_)
  have hP : va_P D cls2 (wT z cI cZ (pl fT ((hbL (fF (xr - 1)) (fE (xr - 1)) fT 6 ((hbT (fF (xr - 1)) (fE (xr - 1)) fT xh 1).getD 0) (wnt fK fA fB (xr - 1 - x.toNatClampNeg))).getD 0) (szL 6 (wnt fK fA fB (xr - 1 - x.toNatClampNeg))) (wnt fK fA fB (xr - 1 - x.toNatClampNeg))) fK fA fB fF fE (((hbL (fF (xr - 1)) (fE (xr - 1)) fT 6 ((hbT (fF (xr - 1)) (fE (xr - 1)) fT xh 1).getD 0) (wnt fK fA fB (xr - 1 - x.toNatClampNeg))).getD 0) + szL 6 (wnt fK fA fB (xr - 1 - x.toNatClampNeg))) (max xg (((hbL (fF (xr - 1)) (fE (xr - 1)) fT 6 ((hbT (fF (xr - 1)) (fE (xr - 1)) fT xh 1).getD 0) (wnt fK fA fB (xr - 1 - x.toNatClampNeg))).getD 0) + szL 6 (wnt fK fA fB (xr - 1 - x.toNatClampNeg)))) xr (xn + 1)) H := hP
  have hD : va_D (va_A (wT z cI cZ fT fK fA fB fF fE xh xg xr xn) s.heap.size) (wT z cI cZ (pl fT ((hbL (fF (xr - 1)) (fE (xr - 1)) fT 6 ((hbT (fF (xr - 1)) (fE (xr - 1)) fT xh 1).getD 0) (wnt fK fA fB (xr - 1 - x.toNatClampNeg))).getD 0) (szL 6 (wnt fK fA fB (xr - 1 - x.toNatClampNeg))) (wnt fK fA fB (xr - 1 - x.toNatClampNeg))) fK fA fB fF fE (((hbL (fF (xr - 1)) (fE (xr - 1)) fT 6 ((hbT (fF (xr - 1)) (fE (xr - 1)) fT xh 1).getD 0) (wnt fK fA fB (xr - 1 - x.toNatClampNeg))).getD 0) + szL 6 (wnt fK fA fB (xr - 1 - x.toNatClampNeg))) (max xg (((hbL (fF (xr - 1)) (fE (xr - 1)) fT 6 ((hbT (fF (xr - 1)) (fE (xr - 1)) fT xh 1).getD 0) (wnt fK fA fB (xr - 1 - x.toNatClampNeg))).getD 0) + szL 6 (wnt fK fA fB (xr - 1 - x.toNatClampNeg)))) xr (xn + 1)) := hD
  refine lv_aload_n hx hb d_T_leapIf_50 rfl (lv_at hl 2 rfl) ?_
  refine va_get (D := D) (ci := 0) (C := RT) (T := FT) (N := 10) (v := .int (nI (((hbL (fF (xr - 1)) (fE (xr - 1)) fT 6 ((hbT (fF (xr - 1)) (fE (xr - 1)) fT xh 1).getD 0) (wnt fK fA fB (xr - 1 - x.toNatClampNeg))).getD 0) + szL 6 (wnt fK fA fB (xr - 1 - x.toNatClampNeg))))) hx hb hw inT hown hK hP 0 rfl rfl 1 (by decide) (hw _ kF_T_39) (fun _ h9 => h9) rfl d_T_leapIf_51 ?_
  refine nw_is (y := nI ((hbL (fF (xr - 1)) (fE (xr - 1)) fT 6 ((hbT (fF (xr - 1)) (fE (xr - 1)) fT xh 1).getD 0) (wnt fK fA fB (xr - 1 - x.toNatClampNeg))).getD 0 + szL 6 (wnt fK fA fB (xr - 1 - x.toNatClampNeg)))) (rfl) ?_
  have hP : va_P D cls2 (wT z cI cZ (pl fT ((hbL (fF (xr - 1)) (fE (xr - 1)) fT 6 ((hbT (fF (xr - 1)) (fE (xr - 1)) fT xh 1).getD 0) (wnt fK fA fB (xr - 1 - x.toNatClampNeg))).getD 0) (szL 6 (wnt fK fA fB (xr - 1 - x.toNatClampNeg))) (wnt fK fA fB (xr - 1 - x.toNatClampNeg))) fK fA fB fF fE (((hbL (fF (xr - 1)) (fE (xr - 1)) fT 6 ((hbT (fF (xr - 1)) (fE (xr - 1)) fT xh 1).getD 0) (wnt fK fA fB (xr - 1 - x.toNatClampNeg))).getD 0) + szL 6 (wnt fK fA fB (xr - 1 - x.toNatClampNeg))) (max xg (((hbL (fF (xr - 1)) (fE (xr - 1)) fT 6 ((hbT (fF (xr - 1)) (fE (xr - 1)) fT xh 1).getD 0) (wnt fK fA fB (xr - 1 - x.toNatClampNeg))).getD 0) + szL 6 (wnt fK fA fB (xr - 1 - x.toNatClampNeg)))) xr (xn + 1)) H := by exact hP
  have hD : va_D (va_A (wT z cI cZ fT fK fA fB fF fE xh xg xr xn) s.heap.size) (wT z cI cZ (pl fT ((hbL (fF (xr - 1)) (fE (xr - 1)) fT 6 ((hbT (fF (xr - 1)) (fE (xr - 1)) fT xh 1).getD 0) (wnt fK fA fB (xr - 1 - x.toNatClampNeg))).getD 0) (szL 6 (wnt fK fA fB (xr - 1 - x.toNatClampNeg))) (wnt fK fA fB (xr - 1 - x.toNatClampNeg))) fK fA fB fF fE (((hbL (fF (xr - 1)) (fE (xr - 1)) fT 6 ((hbT (fF (xr - 1)) (fE (xr - 1)) fT xh 1).getD 0) (wnt fK fA fB (xr - 1 - x.toNatClampNeg))).getD 0) + szL 6 (wnt fK fA fB (xr - 1 - x.toNatClampNeg))) (max xg (((hbL (fF (xr - 1)) (fE (xr - 1)) fT 6 ((hbT (fF (xr - 1)) (fE (xr - 1)) fT xh 1).getD 0) (wnt fK fA fB (xr - 1 - x.toNatClampNeg))).getD 0) + szL 6 (wnt fK fA fB (xr - 1 - x.toNatClampNeg)))) xr (xn + 1)) := by exact hD
  exact vx_ret (W.widen (k := 1) (n := 6) (by decide) (by decide) (W.iret hx hb hrt (fun t ht _ => ⟨by simp only [orE, h3, h17, h21, h31], ⟨rfl, by rw [ht]; exact hP, hD⟩, hS.F ht⟩) hS.2.2 d_T_leapIf_54))

set_option maxHeartbeats 4000000 in
set_option maxRecDepth 100000 in
theorem c_T_table (l : Launch) (hl0 : l.stackTraces = false) (D : va_G) (z : Nat → Nat) (cI cZ : ClassId) (fT fK fA fB fF fE : Nat → Nat) (xh xg xr xn : Nat) (hi : IT fT fK fA fB fF fE xh xg xr) (x y : Int32) (sz : Nat) : vx_Met l y_T_table w_T_table (rmX 4) (PW D [(cI, .int), (cZ, .boolean)] (wT z cI cZ fT fK fA fB fF fE xh xg xr xn) sz [.ref (z 0), .int x, .int y]) (QXW (orE (xf xr x) (orE (xf xr y) (orE (szE (wnt fK fA fB (xr - 1 - x.toNatClampNeg)) (wnt fK fA fB (xr - 1 - y.toNatClampNeg))) (orE (xo ISE (hbT (fF (xr - 1)) (fE (xr - 1)) fT xh 1)) (orE (xo ISE (hbL (fF (xr - 1)) (fE (xr - 1)) fT 6 ((hbT (fF (xr - 1)) (fE (xr - 1)) fT xh 1).getD 0) (wnt fK fA fB (xr - 1 - x.toNatClampNeg)))) (xo ISE (hbL (fF (xr - 1)) (fE (xr - 1)) fT 6 ((hbT (fF (xr - 1)) (fE (xr - 1)) fT xh 1).getD 0) (wnt fK fA fB (xr - 1 - y.toNatClampNeg))))))))) D [(cI, .int), (cZ, .boolean)] (wT z cI cZ fT fK fA fB fF fE xh xg xr xn) (wT z cI cZ fT fK fA fB fF (va_up fE (xr - 1) 1) (fF (xr - 1)) xg xr (xn + 1)) sz (none)) (XX (orE (xf xr x) (orE (xf xr y) (orE (szE (wnt fK fA fB (xr - 1 - x.toNatClampNeg)) (wnt fK fA fB (xr - 1 - y.toNatClampNeg))) (orE (xo ISE (hbT (fF (xr - 1)) (fE (xr - 1)) fT xh 1)) (orE (xo ISE (hbL (fF (xr - 1)) (fE (xr - 1)) fT 6 ((hbT (fF (xr - 1)) (fE (xr - 1)) fT xh 1).getD 0) (wnt fK fA fB (xr - 1 - x.toNatClampNeg)))) (xo ISE (hbL (fF (xr - 1)) (fE (xr - 1)) fT 6 ((hbT (fF (xr - 1)) (fE (xr - 1)) fT xh 1).getD 0) (wnt fK fA fB (xr - 1 - y.toNatClampNeg)))))))))) 1 6 (va_A (wT z cI cZ fT fK fA fB fF fE xh xg xr xn) sz) := by
  refine vx_ofW (cc := b_T_table) (maxL := 6) (ret := none) (by decide) rfl ?_
  intro p e s m args below meth c s₁ B hml hno hv
  obtain ⟨rfl, hsz, hP, hK, hD0, hE⟩ := hv
  have hx := B.exec
  have hb := B.bytes
  have hrt := B.returns
  have hts := atoms_spec (ws := w_T_table) B.pre
  have hw : ∀ w ∈ bw, w.before ([.ref (z 0), .int x, .int y]).toArray s = true := fun w h => hts w (List.mem_cons_of_mem _ h)
  have hown : s.vm.findClass "TypeStack" = some m.cls := findClass_of_methodNamed B.named
  have hlocks := B.notSynchronized
  subst hsz
  have hD := hD0.self (sz := s.heap.size)
  have hA : ∀ q : Nat, s.heap.size ≤ q → va_A (wT z cI cZ fT fK fA fB fF fE xh xg xr xn) s.heap.size q := fun q h => Or.inr h
  have hS : va_S (va_A (wT z cI cZ fT fK fA fB fF fE xh xg xr xn) s.heap.size) s.heap s.heap [] := va_S.rf
  have hK0 := hK.sub (tys' := []) [] rfl
  skip
  have hl := lv_entry ([.ref (z 0), .int x, .int y]) (n := 6) (Nat.le_of_ble_eq_true rfl)
  rw [lg_entry_eq]
  generalize (lg_sl ([.ref (z 0), .int x, .int y]) ++ List.replicate (6 - (lg_sl ([.ref (z 0), .int x, .int y])).length) Slot.unset).toArray = ls at hl ⊢
  have hl : lv_has ls 6 [(0, .ref (z 0)), (1, .int x), (2, .int y)] := hl
  obtain ⟨hiT, hiK, hiA, hiB, hiF, hiE, hih, hig, hir⟩ := id hi
  refine lv_aload_n hx hb d_T_table_0 rfl (lv_at hl 0 rfl) ?_
  refine lv_aload_n hx hb d_T_table_1 rfl (lv_at hl 0 rfl) ?_
  refine lv_iload_n hx hb d_T_table_2 rfl (lv_at hl 1 rfl) ?_
  refine cl_x (v := some (.int (nI (xr - 1 - x.toNatClampNeg)))) hlocks hno (vx_runV (b := z 0) (C := "TypeStack") (As := [.int x]) (rest := [.ref (z 0)]) ⟨hx, hb, hml, hown, hw⟩ (c_T_frameOfLabel l hl0 D z cI cZ fT fK fA fB fF fE xh xg xr xn hi x s.heap.size) (cwV 1 hw g_T_95 rfl rfl rfl ⟨rfl, by decide, by decide, by decide +kernel⟩ ⟨by decide, by decide⟩) ⟨PW.blind, va_recv (q := (RT, FT, 10)) (ci := 0) (q0 := 0) hK hP rfl rfl, PW.pre hP hK hD hS hA hE⟩ rfl rfl hl.1 rfl (lv_room (Nat.le_of_ble_eq_true rfl)) d_T_table_3 ⟨by decide, by decide⟩) (fun E h3 => by simp only [orE, h3]) (fun h3 => ?_)
  have hr3 := xf_pos h3
  refine cl_r (v := some (.int (nI (wnt fK fA fB (xr - 1 - x.toNatClampNeg))))) (W.runV (b := z 0) (C := "TypeStack") (As := [.int (nI (xr - 1 - x.toNatClampNeg))]) (rest := []) ⟨hx, hb, hml, hown, hw⟩ (c_T_wantedBy l D z cI cZ fT fK fA fB fF fE xh xg xr xn hi (xr - 1 - x.toNatClampNeg) (by omega) s.heap.size) (cwV 1 hw g_T_98 rfl rfl rfl ⟨rfl, by decide, by decide, by decide +kernel⟩ ⟨by decide, by decide⟩) ⟨PW.blind, va_recv (q := (RT, FT, 10)) (ci := 0) (q0 := 0) hK hP rfl rfl, PW.pre hP hK hD hS hA hE⟩ rfl rfl hl.1 rfl (lv_room (Nat.le_of_ble_eq_true rfl)) d_T_table_6 ⟨by decide, by decide⟩) ?_
  have hw6 := wnt_lt fK hiA hiB (xr - 1 - x.toNatClampNeg)
  refine lv_istore_n (lv' := [(3, .int (nI (wnt fK fA fB (xr - 1 - x.toNatClampNeg)))), (0, .ref (z 0)), (1, .int x), (2, .int y)]) hx hb d_T_table_9 rfl hl (by decide) rfl (fun ls hl => ?_)
  refine lv_aload_n hx hb d_T_table_10 rfl (lv_at hl 1 rfl) ?_
  refine lv_aload_n hx hb d_T_table_11 rfl (lv_at hl 1 rfl) ?_
  refine lv_iload_n hx hb d_T_table_12 rfl (lv_at hl 3 rfl) ?_
  refine cl_x (v := some (.int (nI (xr - 1 - y.toNatClampNeg)))) hlocks hno (vx_runV (b := z 0) (C := "TypeStack") (As := [.int y]) (rest := [.ref (z 0)]) ⟨hx, hb, hml, hown, hw⟩ (c_T_frameOfLabel l hl0 D z cI cZ fT fK fA fB fF fE xh xg xr xn hi y s.heap.size) (cwV 1 hw g_T_95 rfl rfl rfl ⟨rfl, by decide, by decide, by decide +kernel⟩ ⟨by decide, by decide⟩) ⟨PW.blind, va_recv (q := (RT, FT, 10)) (ci := 0) (q0 := 0) hK hP rfl rfl, PW.pre hP hK hD hS hA hE⟩ rfl rfl hl.1 rfl (lv_room (Nat.le_of_ble_eq_true rfl)) d_T_table_13 ⟨by decide, by decide⟩) (fun E h13 => by simp only [orE, h3, h13]) (fun h13 => ?_)
  have hr13 := xf_pos h13
  refine cl_r (v := some (.int (nI (wnt fK fA fB (xr - 1 - y.toNatClampNeg))))) (W.runV (b := z 0) (C := "TypeStack") (As := [.int (nI (xr - 1 - y.toNatClampNeg))]) (rest := []) ⟨hx, hb, hml, hown, hw⟩ (c_T_wantedBy l D z cI cZ fT fK fA fB fF fE xh xg xr xn hi (xr - 1 - y.toNatClampNeg) (by omega) s.heap.size) (cwV 1 hw g_T_98 rfl rfl rfl ⟨rfl, by decide, by decide, by decide +kernel⟩ ⟨by decide, by decide⟩) ⟨PW.blind, va_recv (q := (RT, FT, 10)) (ci := 0) (q0 := 0) hK hP rfl rfl, PW.pre hP hK hD hS hA hE⟩ rfl rfl hl.1 rfl (lv_room (Nat.le_of_ble_eq_true rfl)) d_T_table_16 ⟨by decide, by decide⟩) ?_
  have hw16 := wnt_lt fK hiA hiB (xr - 1 - y.toNatClampNeg)
  refine lv_istore (lv' := [(4, .int (nI (wnt fK fA fB (xr - 1 - y.toNatClampNeg)))), (3, .int (nI (wnt fK fA fB (xr - 1 - x.toNatClampNeg)))), (0, .ref (z 0)), (1, .int x), (2, .int y)]) hx hb d_T_table_19 hl (by decide) rfl (fun ls hl => ?_)
  refine lv_iload_n hx hb d_T_table_21 rfl (lv_at hl 1 rfl) ?_
  refine cl_r (v := some (.int (nI (szL 6 (wnt fK fA fB (xr - 1 - x.toNatClampNeg)))))) (W.runS (As := [.int (nI (wnt fK fA fB (xr - 1 - x.toNatClampNeg)))]) (rest := []) ⟨hx, hb, hml, hown, hw⟩ (c_T_sizeOf l D (wnt fK fA fB (xr - 1 - x.toNatClampNeg)) (by omega) s.heap.size) (va_cwS 1 hw g_T_47 rfl rfl rfl ⟨by decide, by decide, by decide +kernel⟩ ⟨by decide, by decide⟩) ⟨PW.blind, PW.pre va_P.nil hK0 va_D.nil hS hA hE⟩ rfl rfl hl.1 rfl (lv_room (Nat.le_of_ble_eq_true rfl)) d_T_table_22 ⟨by decide, by decide⟩) ?_
  have hs22 := szL_le 6 (wnt fK fA fB (xr - 1 - x.toNatClampNeg))
  refine lv_iload hx hb d_T_table_25 (lv_at hl 0 rfl) ?_
  refine cl_r (v := some (.int (nI (szL 6 (wnt fK fA fB (xr - 1 - y.toNatClampNeg)))))) (W.runS (As := [.int (nI (wnt fK fA fB (xr - 1 - y.toNatClampNeg)))]) (rest := [.int (nI (szL 6 (wnt fK fA fB (xr - 1 - x.toNatClampNeg))))]) ⟨hx, hb, hml, hown, hw⟩ (c_T_sizeOf l D (wnt fK fA fB (xr - 1 - y.toNatClampNeg)) (by omega) s.heap.size) (va_cwS 1 hw g_T_47 rfl rfl rfl ⟨by decide, by decide, by decide +kernel⟩ ⟨by decide, by decide⟩) ⟨PW.blind, PW.pre va_P.nil hK0 va_D.nil hS hA hE⟩ rfl rfl hl.1 rfl (lv_room (Nat.le_of_ble_eq_true rfl)) d_T_table_27 ⟨by decide, by decide⟩) ?_
  have hs27 := szL_le 6 (wnt fK fA fB (xr - 1 - y.toNatClampNeg))
  refine nw_eq hx hb (tgt := 41) d_T_table_30 (by decide) (by omega) (by omega) (fun h30 => ?_) (fun h30 => ?_)
  · skip
    have hsz0 : szE (wnt fK fA fB (xr - 1 - x.toNatClampNeg)) (wnt fK fA fB (xr - 1 - y.toNatClampNeg)) = none := if_pos h30
    refine lv_aload_n hx hb d_T_table_41 rfl (lv_at hl 2 rfl) ?_
    refine lv_aload_n hx hb d_T_table_42 rfl (lv_at hl 2 rfl) ?_
    refine va_get (D := D) (ci := 0) (C := RT) (T := FT) (N := 10) (v := .int (nI xh)) hx hb hw inT hown hK hP 0 rfl rfl 1 (by decide) (hw _ kF_T_39) (fun _ h9 => h9) rfl d_T_table_43 ?_
    refine lv_iconst (v := nI 1) hx hb d_T_table_46 (by decide) ?_
    refine cl_x (v := some (.int (nI ((hbT (fF (xr - 1)) (fE (xr - 1)) fT xh 1).getD 0)))) hlocks hno (vx_runV (b := z 0) (C := "TypeStack") (As := [.int (nI xh), .int (nI 1)]) (rest := []) ⟨hx, hb, hml, hown, hw⟩ (c_T_heightBelowType l hl0 D z cI cZ fT fK fA fB fF fE xh xg xr xn hi xh 1 (by omega) (by omega) (by omega) s.heap.size) (cwV 2 hw g_T_67 rfl rfl rfl ⟨rfl, by decide, by decide, by decide +kernel⟩ ⟨by decide, by decide⟩) ⟨PW.blind, va_recv (q := (RT, FT, 10)) (ci := 0) (q0 := 0) hK hP rfl rfl, PW.pre hP hK hD hS hA hE⟩ rfl rfl hl.1 rfl (lv_room (Nat.le_of_ble_eq_true rfl)) d_T_table_47 ⟨by decide, by decide⟩) (fun E h47 => by simp only [orE, h3, h13, hsz0, h47]) (fun h47 => ?_)
    have hq47 := hbT_le (fF (xr - 1)) (fE (xr - 1)) fT xh 1
    refine lv_istore (lv' := [(5, .int (nI ((hbT (fF (xr - 1)) (fE (xr - 1)) fT xh 1).getD 0))), (4, .int (nI (wnt fK fA fB (xr - 1 - y.toNatClampNeg)))), (3, .int (nI (wnt fK fA fB (xr - 1 - x.toNatClampNeg)))), (0, .ref (z 0)), (1, .int x), (2, .int y)]) hx hb d_T_table_50 hl (by decide) rfl (fun ls hl => ?_)
    refine lv_aload_n hx hb d_T_table_52 rfl (lv_at hl 3 rfl) ?_
    refine lv_iload hx hb d_T_table_53 (lv_at hl 0 rfl) ?_
    refine lv_iload_n hx hb d_T_table_55 rfl (lv_at hl 2 rfl) ?_
    refine cl_x (v := some (.int (nI ((hbL (fF (xr - 1)) (fE (xr - 1)) fT 6 ((hbT (fF (xr - 1)) (fE (xr - 1)) fT xh 1).getD 0) (wnt fK fA fB (xr - 1 - x.toNatClampNeg))).getD 0)))) hlocks hno (vx_runV (b := z 0) (C := "TypeStack") (As := [.int (nI ((hbT (fF (xr - 1)) (fE (xr - 1)) fT xh 1).getD 0)), .int (nI (wnt fK fA fB (xr - 1 - x.toNatClampNeg)))]) (rest := []) ⟨hx, hb, hml, hown, hw⟩ (c_T_heightBelowList l hl0 D z cI cZ fT fK fA fB fF fE xh xg xr xn hi ((hbT (fF (xr - 1)) (fE (xr - 1)) fT xh 1).getD 0) (wnt fK fA fB (xr - 1 - x.toNatClampNeg)) (by omega) (by omega) (by omega) s.heap.size) (cwV 2 hw g_T_43 rfl rfl rfl ⟨rfl, by decide, by decide, by decide +kernel⟩ ⟨by decide, by decide⟩) ⟨PW.blind, va_recv (q := (RT, FT, 10)) (ci := 0) (q0 := 0) hK hP rfl rfl, PW.pre hP hK hD hS hA hE⟩ rfl rfl hl.1 rfl (lv_room (Nat.le_of_ble_eq_true rfl)) d_T_table_56 ⟨by decide, by decide⟩) (fun E h56 => by simp only [orE, h3, h13, hsz0, h47, h56]) (fun h56 => ?_)
    have hq56 := hbL_le (fF (xr - 1)) (fE (xr - 1)) fT 6 ((hbT (fF (xr - 1)) (fE (xr - 1)) fT xh 1).getD 0) (wnt fK fA fB (xr - 1 - x.toNatClampNeg))
    refine lv_pop hx hb d_T_table_59 rfl ?_
    refine lv_aload_n hx hb d_T_table_60 rfl (lv_at hl 3 rfl) ?_
    refine lv_iload hx hb d_T_table_61 (lv_at hl 0 rfl) ?_
    refine lv_iload hx hb d_T_table_63 (lv_at hl 1 rfl) ?_
    refine cl_x (v := some (.int (nI ((hbL (fF (xr - 1)) (fE (xr - 1)) fT 6 ((hbT (fF (xr - 1)) (fE (xr - 1)) fT xh 1).getD 0) (wnt fK fA fB (xr - 1 - y.toNatClampNeg))).getD 0)))) hlocks hno (vx_runV (b := z 0) (C := "TypeStack") (As := [.int (nI ((hbT (fF (xr - 1)) (fE (xr - 1)) fT xh 1).getD 0)), .int (nI (wnt fK fA fB (xr - 1 - y.toNatClampNeg)))]) (rest := []) ⟨hx, hb, hml, hown, hw⟩ (c_T_heightBelowList l hl0 D z cI cZ fT fK fA fB fF fE xh xg xr xn hi ((hbT (fF (xr - 1)) (fE (xr - 1)) fT xh 1).getD 0) (wnt fK fA fB (xr - 1 - y.toNatClampNeg)) (by omega) (by omega) (by omega) s.heap.size) (cwV 2 hw g_T_43 rfl rfl rfl ⟨rfl, by decide, by decide, by decide +kernel⟩ ⟨by decide, by decide⟩) ⟨PW.blind, va_recv (q := (RT, FT, 10)) (ci := 0) (q0 := 0) hK hP rfl rfl, PW.pre hP hK hD hS hA hE⟩ rfl rfl hl.1 rfl (lv_room (Nat.le_of_ble_eq_true rfl)) d_T_table_65 ⟨by decide, by decide⟩) (fun E h65 => by simp only [orE, h3, h13, hsz0, h47, h56, h65]) (fun h65 => ?_)
    have hq65 := hbL_le (fF (xr - 1)) (fE (xr - 1)) fT 6 ((hbT (fF (xr - 1)) (fE (xr - 1)) fT xh 1).getD 0) (wnt fK fA fB (xr - 1 - y.toNatClampNeg))
    refine lv_pop hx hb d_T_table_68 rfl ?_
    refine lv_aload_n hx hb d_T_table_69 rfl (lv_at hl 3 rfl) ?_
    refine cl_w (v := none) hD hS hA (W.runV (b := z 0) (C := "TypeStack") (As := []) (rest := []) ⟨hx, hb, hml, hown, hw⟩ (c_T_die l D z cI cZ fT fK fA fB fF fE xh xg xr xn (by omega) (by omega) s.heap.size) (cwV 0 hw g_T_101 rfl rfl rfl ⟨rfl, by decide, by decide, by decide +kernel⟩ ⟨by decide, by decide⟩) ⟨PW.blind, va_recv (q := (RT, FT, 10)) (ci := 0) (q0 := 0) hK hP rfl rfl, PW.pre hP hK hD hS hA hE⟩ rfl rfl hl.1 rfl (lv_room (Nat.le_of_ble_eq_true rfl)) d_T_table_70 ⟨by decide, by decide⟩) (fun H locs hP hD hS => ?_)
    have hP : va_P D cls2 (wT z cI cZ fT fK fA fB fF (va_up fE (xr - 1) 1) (fF (xr - 1)) xg xr xn) H := hP
    have hD : va_D (va_A (wT z cI cZ fT fK fA fB fF fE xh xg xr xn) s.heap.size) (wT z cI cZ fT fK fA fB fF (va_up fE (xr - 1) 1) (fF (xr - 1)) xg xr xn) := hD
    refine lv_aload_n hx hb d_T_table_73 rfl (lv_at hl 3 rfl) ?_
    refine lv_dup hx hb d_T_table_74 rfl ?_
    refine va_get (D := D) (ci := 0) (C := RT) (T := FT) (N := 10) (v := .int (nI xn)) hx hb hw inT hown hK hP 0 rfl rfl 9 (by decide) (hw _ kF_T_58) (fun _ h9 => h9) rfl d_T_table_75 ?_
    refine lv_iconst (v := nI 1) hx hb d_T_table_78 (by decide) ?_
    refine nw_add hx hb d_T_table_79 ?_
    refine va_put (D := D) (ci := 0) (C := RT) (T := FT) (N := 10) (v := .int (nI (xn + 1))) (ty := .int) hx hb hw inT tT tT_ok nT hown hK hP hD hS 0 rfl rfl 9 (by decide) (hw _ kF_T_58) (fun _ h9 => h9) rfl (by decide +kernel) rfl rfl (Nat.le_of_ble_eq_true rfl) d_T_table_80 (fun H locs hP hD hS => ?_)
    have hP : va_P D cls2 (wT z cI cZ fT fK fA fB fF (va_up fE (xr - 1) 1) (fF (xr - 1)) xg xr (xn + 1)) H := hP
    have hD : va_D (va_A (wT z cI cZ fT fK fA fB fF fE xh xg xr xn) s.heap.size) (wT z cI cZ fT fK fA fB fF (va_up fE (xr - 1) 1) (fF (xr - 1)) xg xr (xn + 1)) := hD
    have hP : va_P D cls2 (wT z cI cZ fT fK fA fB fF (va_up fE (xr - 1) 1) (fF (xr - 1)) xg xr (xn + 1)) H := by exact hP
    have hD : va_D (va_A (wT z cI cZ fT fK fA fB fF fE xh xg xr xn) s.heap.size) (wT z cI cZ fT fK fA fB fF (va_up fE (xr - 1) 1) (fF (xr - 1)) xg xr (xn + 1)) := by exact hD
    exact vx_ret (W.widen (k := 1) (n := 6) (by decide) (by decide) (W.vret hx hb hrt (fun t ht _ => ⟨by simp only [orE, h3, h13, hsz0, h47, h56, h65], ⟨rfl, by rw [ht]; exact hP, hD⟩, hS.F ht⟩) hS.2.2 d_T_table_83))
  · skip
    exact thr_UOE hx hb hl0 hown hw hE (va_S.rf) (hl.1.trans hml.symm) d_T_table_33 d_T_table_36 d_T_table_37 d_T_table_40 hno (by decide) (by decide) (by decide) (by decide) hlocks (by simp only [orE, h3, h13, szE, if_neg h30])

set_option maxHeartbeats 4000000 in
set_option maxRecDepth 100000 in
theorem c_T_back (l : Launch) (hl0 : l.stackTraces = false) (D : va_G) (z : Nat → Nat) (cI cZ : ClassId) (fT fK fA fB fF fE : Nat → Nat) (xh xg xr xn : Nat) (hi : IT fT fK fA fB fF fE xh xg xr) (sz : Nat) : vx_Met l y_T_back w_T_back (rmX 4) (PW D [(cI, .int), (cZ, .boolean)] (wT z cI cZ fT fK fA fB fF fE xh xg xr xn) sz [.ref (z 0)]) (QXW (orE (nf xr) (xo ISE (hbL (fF (xr - 1)) (fE (xr - 1)) fT 6 xh (fB 0)))) D [(cI, .int), (cZ, .boolean)] (wT z cI cZ fT fK fA fB fF fE xh xg xr xn) (wT z cI cZ fT fK fA fB fF (va_up fE (xr - 1) 1) (fF (xr - 1)) xg xr (xn + 1)) sz (none)) (XX (orE (nf xr) (xo ISE (hbL (fF (xr - 1)) (fE (xr - 1)) fT 6 xh (fB 0))))) 1 6 (va_A (wT z cI cZ fT fK fA fB fF fE xh xg xr xn) sz) := by
  refine vx_ofW (cc := b_T_back) (maxL := 1) (ret := none) (by decide) rfl ?_
  intro p e s m args below meth c s₁ B hml hno hv
  obtain ⟨rfl, hsz, hP, hK, hD0, hE⟩ := hv
  have hx := B.exec
  have hb := B.bytes
  have hrt := B.returns
  have hts := atoms_spec (ws := w_T_back) B.pre
  have hw : ∀ w ∈ bw, w.before ([.ref (z 0)]).toArray s = true := fun w h => hts w (List.mem_cons_of_mem _ h)
  have hown : s.vm.findClass "TypeStack" = some m.cls := findClass_of_methodNamed B.named
  have hlocks := B.notSynchronized
  subst hsz
  have hD := hD0.self (sz := s.heap.size)
  have hA : ∀ q : Nat, s.heap.size ≤ q → va_A (wT z cI cZ fT fK fA fB fF fE xh xg xr xn) s.heap.size q := fun q h => Or.inr h
  have hS : va_S (va_A (wT z cI cZ fT fK fA fB fF fE xh xg xr xn) s.heap.size) s.heap s.heap [] := va_S.rf
  have hK0 := hK.sub (tys' := []) [] rfl
  skip
  have hl := lv_entry ([.ref (z 0)]) (n := 1) (Nat.le_of_ble_eq_true rfl)
  rw [lg_entry_eq]
  generalize (lg_sl ([.ref (z 0)]) ++ List.replicate (1 - (lg_sl ([.ref (z 0)])).length) Slot.unset).toArray = ls at hl ⊢
  have hl : lv_has ls 1 [(0, .ref (z 0))] := hl
  obtain ⟨hiT, hiK, hiA, hiB, hiF, hiE, hih, hig, hir⟩ := id hi
  refine lv_aload_n hx hb d_T_back_0 rfl (lv_at hl 0 rfl) ?_
  refine cl_x (v := none) hlocks hno (vx_runV (b := z 0) (C := "TypeStack") (As := []) (rest := []) ⟨hx, hb, hml, hown, hw⟩ (c_T_requireFrame l hl0 D z cI cZ fT fK fA fB fF fE xh xg xr xn hi s.heap.size) (cwV 0 hw g_T_36 rfl rfl rfl ⟨rfl, by decide, by decide, by decide +kernel⟩ ⟨by decide, by decide⟩) ⟨PW.blind, va_recv (q := (RT, FT, 10)) (ci := 0) (q0 := 0) hK hP rfl rfl, PW.pre hP hK hD hS hA hE⟩ rfl rfl hl.1 rfl (lv_room (Nat.le_of_ble_eq_true rfl)) d_T_back_1 ⟨by decide, by decide⟩) (fun E h1 => by simp only [orE, h1]) (fun h1 => ?_)
  have hr1 := nf_pos h1
  refine lv_aload_n hx hb d_T_back_4 rfl (lv_at hl 0 rfl) ?_
  refine lv_aload_n hx hb d_T_back_5 rfl (lv_at hl 0 rfl) ?_
  refine va_get (D := D) (ci := 0) (C := RT) (T := FT) (N := 10) (v := .int (nI xh)) hx hb hw inT hown hK hP 0 rfl rfl 1 (by decide) (hw _ kF_T_39) (fun _ h9 => h9) rfl d_T_back_6 ?_
  refine lv_aload_n hx hb d_T_back_9 rfl (lv_at hl 0 rfl) ?_
  refine va_get (D := D) (ci := 0) (C := RT) (T := FT) (N := 10) (v := .ref (z 4)) hx hb hw inT hown hK hP 0 rfl rfl 5 (by decide) (hw _ kF_T_19) (fun _ h9 => h9) rfl d_T_back_10 ?_
  refine lv_iconst (v := nI 0) hx hb d_T_back_13 (by decide) ?_
  refine nw_iald hx hb hK hP 4 0 rfl rfl (k := 0) (by omega) (by decide) d_T_back_14 ?_
  have b14 := hiB 0
  refine cl_x (v := some (.int (nI ((hbL (fF (xr - 1)) (fE (xr - 1)) fT 6 xh (fB 0)).getD 0)))) hlocks hno (vx_runV (b := z 0) (C := "TypeStack") (As := [.int (nI xh), .int (nI (fB 0))]) (rest := []) ⟨hx, hb, hml, hown, hw⟩ (c_T_heightBelowList l hl0 D z cI cZ fT fK fA fB fF fE xh xg xr xn hi xh (fB 0) (by omega) (by omega) (by omega) s.heap.size) (cwV 2 hw g_T_43 rfl rfl rfl ⟨rfl, by decide, by decide, by decide +kernel⟩ ⟨by decide, by decide⟩) ⟨PW.blind, va_recv (q := (RT, FT, 10)) (ci := 0) (q0 := 0) hK hP rfl rfl, PW.pre hP hK hD hS hA hE⟩ rfl rfl hl.1 rfl (lv_room (Nat.le_of_ble_eq_true rfl)) d_T_back_15 ⟨by decide, by decide⟩) (fun E h15 => by simp only [orE, h1, h15]) (fun h15 => ?_)
  have hq15 := hbL_le (fF (xr - 1)) (fE (xr - 1)) fT 6 xh (fB 0)
  refine lv_pop hx hb d_T_back_18 rfl ?_
  refine lv_aload_n hx hb d_T_back_19 rfl (lv_at hl 0 rfl) ?_
  refine cl_w (v := none) hD hS hA (W.runV (b := z 0) (C := "TypeStack") (As := []) (rest := []) ⟨hx, hb, hml, hown, hw⟩ (c_T_die l D z cI cZ fT fK fA fB fF fE xh xg xr xn (by omega) (by omega) s.heap.size) (cwV 0 hw g_T_101 rfl rfl rfl ⟨rfl, by decide, by decide, by decide +kernel⟩ ⟨by decide, by decide⟩) ⟨PW.blind, va_recv (q := (RT, FT, 10)) (ci := 0) (q0 := 0) hK hP rfl rfl, PW.pre hP hK hD hS hA hE⟩ rfl rfl hl.1 rfl (lv_room (Nat.le_of_ble_eq_true rfl)) d_T_back_20 ⟨by decide, by decide⟩) (fun H locs hP hD hS => ?_)
  have hP : va_P D cls2 (wT z cI cZ fT fK fA fB fF (va_up fE (xr - 1) 1) (fF (xr - 1)) xg xr xn) H := hP
  have hD : va_D (va_A (wT z cI cZ fT fK fA fB fF fE xh xg xr xn) s.heap.size) (wT z cI cZ fT fK fA fB fF (va_up fE (xr - 1) 1) (fF (xr - 1)) xg xr xn) := hD
  refine lv_aload_n hx hb d_T_back_23 rfl (lv_at hl 0 rfl) ?_
  refine lv_dup hx hb d_T_back_24 rfl ?_
  refine va_get (D := D) (ci := 0) (C := RT) (T := FT) (N := 10) (v := .int (nI xn)) hx hb hw inT hown hK hP 0 rfl rfl 9 (by decide) (hw _ kF_T_58) (fun _ h9 => h9) rfl d_T_back_25 ?_
  refine lv_iconst (v := nI 1) hx hb d_T_back_28 (by decide) ?_
  refine nw_add hx hb d_T_back_29 ?_
  refine va_put (D := D) (ci := 0) (C := RT) (T := FT) (N := 10) (v := .int (nI (xn + 1))) (ty := .int) hx hb hw inT tT tT_ok nT hown hK hP hD hS 0 rfl rfl 9 (by decide) (hw _ kF_T_58) (fun _ h9 => h9) rfl (by decide +kernel) rfl rfl (Nat.le_of_ble_eq_true rfl) d_T_back_30 (fun H locs hP hD hS => ?_)
  have hP : va_P D cls2 (wT z cI cZ fT fK fA fB fF (va_up fE (xr - 1) 1) (fF (xr - 1)) xg xr (xn + 1)) H := hP
  have hD : va_D (va_A (wT z cI cZ fT fK fA fB fF fE xh xg xr xn) s.heap.size) (wT z cI cZ fT fK fA fB fF (va_up fE (xr - 1) 1) (fF (xr - 1)) xg xr (xn + 1)) := hD
  have hP : va_P D cls2 (wT z cI cZ fT fK fA fB fF (va_up fE (xr - 1) 1) (fF (xr - 1)) xg xr (xn + 1)) H := by exact hP
  have hD : va_D (va_A (wT z cI cZ fT fK fA fB fF fE xh xg xr xn) s.heap.size) (wT z cI cZ fT fK fA fB fF (va_up fE (xr - 1) 1) (fF (xr - 1)) xg xr (xn + 1)) := by exact hD
  exact vx_ret (W.widen (k := 1) (n := 6) (by decide) (by decide) (W.vret hx hb hrt (fun t ht _ => ⟨by simp only [orE, h1, h15], ⟨rfl, by rw [ht]; exact hP, hD⟩, hS.F ht⟩) hS.2.2 d_T_back_33))

set_option maxHeartbeats 4000000 in
set_option maxRecDepth 100000 in
theorem c_T_never (l : Launch) (hl0 : l.stackTraces = false) (D : va_G) (z : Nat → Nat) (cI cZ : ClassId) (fT fK fA fB fF fE : Nat → Nat) (xh xg xr xn : Nat) (hi : IT fT fK fA fB fF fE xh xg xr) (sz : Nat) : vx_Met l y_T_never w_T_never (rmX 4) (PW D [(cI, .int), (cZ, .boolean)] (wT z cI cZ fT fK fA fB fF fE xh xg xr xn) sz [.ref (z 0)]) (QXW (nf xr) D [(cI, .int), (cZ, .boolean)] (wT z cI cZ fT fK fA fB fF fE xh xg xr xn) (wT z cI cZ fT fK fA fB fF (va_up fE (xr - 1) 1) (fF (xr - 1)) xg xr (xn + 1)) sz (none)) (XX (nf xr)) 1 6 (va_A (wT z cI cZ fT fK fA fB fF fE xh xg xr xn) sz) := by
  refine vx_ofW (cc := b_T_never) (maxL := 1) (ret := none) (by decide) rfl ?_
  intro p e s m args below meth c s₁ B hml hno hv
  obtain ⟨rfl, hsz, hP, hK, hD0, hE⟩ := hv
  have hx := B.exec
  have hb := B.bytes
  have hrt := B.returns
  have hts := atoms_spec (ws := w_T_never) B.pre
  have hw : ∀ w ∈ bw, w.before ([.ref (z 0)]).toArray s = true := fun w h => hts w (List.mem_cons_of_mem _ h)
  have hown : s.vm.findClass "TypeStack" = some m.cls := findClass_of_methodNamed B.named
  have hlocks := B.notSynchronized
  subst hsz
  have hD := hD0.self (sz := s.heap.size)
  have hA : ∀ q : Nat, s.heap.size ≤ q → va_A (wT z cI cZ fT fK fA fB fF fE xh xg xr xn) s.heap.size q := fun q h => Or.inr h
  have hS : va_S (va_A (wT z cI cZ fT fK fA fB fF fE xh xg xr xn) s.heap.size) s.heap s.heap [] := va_S.rf
  have hK0 := hK.sub (tys' := []) [] rfl
  skip
  have hl := lv_entry ([.ref (z 0)]) (n := 1) (Nat.le_of_ble_eq_true rfl)
  rw [lg_entry_eq]
  generalize (lg_sl ([.ref (z 0)]) ++ List.replicate (1 - (lg_sl ([.ref (z 0)])).length) Slot.unset).toArray = ls at hl ⊢
  have hl : lv_has ls 1 [(0, .ref (z 0))] := hl
  obtain ⟨hiT, hiK, hiA, hiB, hiF, hiE, hih, hig, hir⟩ := id hi
  refine lv_aload_n hx hb d_T_never_0 rfl (lv_at hl 0 rfl) ?_
  refine cl_x (v := none) hlocks hno (vx_runV (b := z 0) (C := "TypeStack") (As := []) (rest := []) ⟨hx, hb, hml, hown, hw⟩ (c_T_requireFrame l hl0 D z cI cZ fT fK fA fB fF fE xh xg xr xn hi s.heap.size) (cwV 0 hw g_T_36 rfl rfl rfl ⟨rfl, by decide, by decide, by decide +kernel⟩ ⟨by decide, by decide⟩) ⟨PW.blind, va_recv (q := (RT, FT, 10)) (ci := 0) (q0 := 0) hK hP rfl rfl, PW.pre hP hK hD hS hA hE⟩ rfl rfl hl.1 rfl (lv_room (Nat.le_of_ble_eq_true rfl)) d_T_never_1 ⟨by decide, by decide⟩) (fun E h1 => h1) (fun h1 => ?_)
  have hr1 := nf_pos h1
  refine lv_aload_n hx hb d_T_never_4 rfl (lv_at hl 0 rfl) ?_
  refine cl_w (v := none) hD hS hA (W.runV (b := z 0) (C := "TypeStack") (As := []) (rest := []) ⟨hx, hb, hml, hown, hw⟩ (c_T_die l D z cI cZ fT fK fA fB fF fE xh xg xr xn (by omega) (by omega) s.heap.size) (cwV 0 hw g_T_101 rfl rfl rfl ⟨rfl, by decide, by decide, by decide +kernel⟩ ⟨by decide, by decide⟩) ⟨PW.blind, va_recv (q := (RT, FT, 10)) (ci := 0) (q0 := 0) hK hP rfl rfl, PW.pre hP hK hD hS hA hE⟩ rfl rfl hl.1 rfl (lv_room (Nat.le_of_ble_eq_true rfl)) d_T_never_5 ⟨by decide, by decide⟩) (fun H locs hP hD hS => ?_)
  have hP : va_P D cls2 (wT z cI cZ fT fK fA fB fF (va_up fE (xr - 1) 1) (fF (xr - 1)) xg xr xn) H := hP
  have hD : va_D (va_A (wT z cI cZ fT fK fA fB fF fE xh xg xr xn) s.heap.size) (wT z cI cZ fT fK fA fB fF (va_up fE (xr - 1) 1) (fF (xr - 1)) xg xr xn) := hD
  refine lv_aload_n hx hb d_T_never_8 rfl (lv_at hl 0 rfl) ?_
  refine lv_dup hx hb d_T_never_9 rfl ?_
  refine va_get (D := D) (ci := 0) (C := RT) (T := FT) (N := 10) (v := .int (nI xn)) hx hb hw inT hown hK hP 0 rfl rfl 9 (by decide) (hw _ kF_T_58) (fun _ h9 => h9) rfl d_T_never_10 ?_
  refine lv_iconst (v := nI 1) hx hb d_T_never_13 (by decide) ?_
  refine nw_add hx hb d_T_never_14 ?_
  refine va_put (D := D) (ci := 0) (C := RT) (T := FT) (N := 10) (v := .int (nI (xn + 1))) (ty := .int) hx hb hw inT tT tT_ok nT hown hK hP hD hS 0 rfl rfl 9 (by decide) (hw _ kF_T_58) (fun _ h9 => h9) rfl (by decide +kernel) rfl rfl (Nat.le_of_ble_eq_true rfl) d_T_never_15 (fun H locs hP hD hS => ?_)
  have hP : va_P D cls2 (wT z cI cZ fT fK fA fB fF (va_up fE (xr - 1) 1) (fF (xr - 1)) xg xr (xn + 1)) H := hP
  have hD : va_D (va_A (wT z cI cZ fT fK fA fB fF fE xh xg xr xn) s.heap.size) (wT z cI cZ fT fK fA fB fF (va_up fE (xr - 1) 1) (fF (xr - 1)) xg xr (xn + 1)) := hD
  have hP : va_P D cls2 (wT z cI cZ fT fK fA fB fF (va_up fE (xr - 1) 1) (fF (xr - 1)) xg xr (xn + 1)) H := by exact hP
  have hD : va_D (va_A (wT z cI cZ fT fK fA fB fF fE xh xg xr xn) s.heap.size) (wT z cI cZ fT fK fA fB fF (va_up fE (xr - 1) 1) (fF (xr - 1)) xg xr (xn + 1)) := by exact hD
  exact vx_ret (W.widen (k := 1) (n := 6) (by decide) (by decide) (W.vret hx hb hrt (fun t ht _ => ⟨h1, ⟨rfl, by rw [ht]; exact hP, hD⟩, hS.F ht⟩) hS.2.2 d_T_never_18))

set_option maxHeartbeats 4000000 in
set_option maxRecDepth 100000 in
theorem c_T_top (l : Launch) (D : va_G) (z : Nat → Nat) (cI cZ : ClassId) (fT fK fA fB fF fE : Nat → Nat) (xh xg xr xn : Nat) (hi : IT fT fK fA fB fF fE xh xg xr) (x : Int32) (sz : Nat) : Met l y_T_top w_T_top (rmR 0) (PW D [(cI, .int), (cZ, .boolean)] (wT z cI cZ fT fK fA fB fF fE xh xg xr xn) sz [.ref (z 0), .int x]) (QR (some (.int (tpv xh fT x)))) 0 0 (fun _ => False) := by
  refine Met.ofW (cc := b_T_top) (maxL := 2) (ret := (some .int)) (by decide) rfl ?_
  intro p e s m args below meth c s₁ B hml hv
  obtain ⟨rfl, hsz, hP, hK, hD0, hE⟩ := hv
  have hx := B.exec
  have hb := B.bytes
  have hrt := B.returns
  have hts := atoms_spec (ws := w_T_top) B.pre
  have hw : ∀ w ∈ bw, w.before ([.ref (z 0), .int x]).toArray s = true := fun w h => hts w (List.mem_cons_of_mem _ h)
  have hown : s.vm.findClass "TypeStack" = some m.cls := findClass_of_methodNamed B.named
  have hlocks := B.notSynchronized
  subst hsz
  have hD := hD0.self (sz := s.heap.size)
  have hA : ∀ q : Nat, s.heap.size ≤ q → va_A (wT z cI cZ fT fK fA fB fF fE xh xg xr xn) s.heap.size q := fun q h => Or.inr h
  have hS : va_S (va_A (wT z cI cZ fT fK fA fB fF fE xh xg xr xn) s.heap.size) s.heap s.heap [] := va_S.rf
  have hK0 := hK.sub (tys' := []) [] rfl
  have hl := lv_entry ([.ref (z 0), .int x]) (n := 2) (Nat.le_of_ble_eq_true rfl)
  rw [lg_entry_eq]
  generalize (lg_sl ([.ref (z 0), .int x]) ++ List.replicate (2 - (lg_sl ([.ref (z 0), .int x])).length) Slot.unset).toArray = ls at hl ⊢
  have hl : lv_has ls 2 [(0, .ref (z 0)), (1, .int x)] := hl
  obtain ⟨hiT, hiK, hiA, hiB, hiF, hiE, hih, hig, hir⟩ := id hi
  refine lv_iload_n hx hb d_T_top_0 rfl (lv_at hl 1 rfl) ?_
  refine lv_if_lt hx hb (tgt := 12) d_T_top_1 (by decide) (fun h1 => ?_) (fun h1 => ?_)
  · skip
    refine lv_iconst (v := -1) hx hb d_T_top_12 (by decide) ?_
    refine nw_is (y := tpv xh fT x) ((tpv_lo h1).symm) ?_
    exact W.iret hx hb hrt (fun t ht _ => ⟨rfl, ht⟩) (fun q h => nomatch h) d_T_top_13
  · skip
    refine lv_iload_n hx hb d_T_top_4 rfl (lv_at hl 1 rfl) ?_
    refine lv_aload_n hx hb d_T_top_5 rfl (lv_at hl 0 rfl) ?_
    refine va_get (D := D) (ci := 0) (C := RT) (T := FT) (N := 10) (v := .int (nI xh)) hx hb hw inT hown hK hP 0 rfl rfl 1 (by decide) (hw _ kF_T_39) (fun _ h9 => h9) rfl d_T_top_6 ?_
    refine lv_icmp_lt hx hb (tgt := 14) d_T_top_9 (by decide) (fun h9 => ?_) (fun h9 => ?_)
    · skip
      obtain ⟨j, hj, hxj⟩ := ilt (n := xh) (by omega) h1 h9
      refine lv_aload_n hx hb d_T_top_14 rfl (lv_at hl 0 rfl) ?_
      refine va_get (D := D) (ci := 0) (C := RT) (T := FT) (N := 10) (v := .ref (z 1)) hx hb hw inT hown hK hP 0 rfl rfl 0 (by decide) (hw _ kF_T_9) (fun _ h9 => h9) rfl d_T_top_15 ?_
      refine lv_aload_n hx hb d_T_top_18 rfl (lv_at hl 0 rfl) ?_
      refine va_get (D := D) (ci := 0) (C := RT) (T := FT) (N := 10) (v := .int (nI xh)) hx hb hw inT hown hK hP 0 rfl rfl 1 (by decide) (hw _ kF_T_39) (fun _ h9 => h9) rfl d_T_top_19 ?_
      refine lv_iconst (v := nI 1) hx hb d_T_top_22 (by decide) ?_
      refine nw_sub hx hb (by omega) d_T_top_23 ?_
      refine lv_iload_n hx hb d_T_top_24 rfl (lv_at hl 1 rfl) ?_
      refine nw_is (y := nI j) hxj ?_
      refine nw_sub hx hb (by omega) d_T_top_25 ?_
      refine nw_iald hx hb hK hP 1 0 rfl rfl (k := (xh - 1) - j) (by omega) (by decide) d_T_top_26 ?_
      have b26 := hiT ((xh - 1) - j)
      refine nw_is (y := tpv xh fT x) (by rw [tpv_in h1 h9, hxj, nI_clamp (by omega)]) ?_
      exact W.iret hx hb hrt (fun t ht _ => ⟨rfl, ht⟩) (fun q h => nomatch h) d_T_top_27
    · skip
      refine lv_iconst (v := -1) hx hb d_T_top_12 (by decide) ?_
      refine nw_is (y := tpv xh fT x) ((tpv_hi h9).symm) ?_
      exact W.iret hx hb hrt (fun t ht _ => ⟨rfl, ht⟩) (fun q h => nomatch h) d_T_top_13

set_option maxHeartbeats 4000000 in
set_option maxRecDepth 100000 in
theorem c_T_count (l : Launch) (D : va_G) (z : Nat → Nat) (cI cZ : ClassId) (fT fK fA fB fF fE : Nat → Nat) (xh xg xr xn : Nat) (hi : IT fT fK fA fB fF fE xh xg xr) (x : Int32) (sz : Nat) : Met l y_T_count w_T_count (rmR 0) (PW D [(cI, .int), (cZ, .boolean)] (wT z cI cZ fT fK fA fB fF fE xh xg xr xn) sz [.ref (z 0), .int x]) (QR (some (.int (cnv x xh xr xg xn)))) 0 0 (fun _ => False) := by
  refine Met.ofW (cc := b_T_count) (maxL := 2) (ret := (some .int)) (by decide) rfl ?_
  intro p e s m args below meth c s₁ B hml hv
  obtain ⟨rfl, hsz, hP, hK, hD0, hE⟩ := hv
  have hx := B.exec
  have hb := B.bytes
  have hrt := B.returns
  have hts := atoms_spec (ws := w_T_count) B.pre
  have hw : ∀ w ∈ bw, w.before ([.ref (z 0), .int x]).toArray s = true := fun w h => hts w (List.mem_cons_of_mem _ h)
  have hown : s.vm.findClass "TypeStack" = some m.cls := findClass_of_methodNamed B.named
  have hlocks := B.notSynchronized
  subst hsz
  have hD := hD0.self (sz := s.heap.size)
  have hA : ∀ q : Nat, s.heap.size ≤ q → va_A (wT z cI cZ fT fK fA fB fF fE xh xg xr xn) s.heap.size q := fun q h => Or.inr h
  have hS : va_S (va_A (wT z cI cZ fT fK fA fB fF fE xh xg xr xn) s.heap.size) s.heap s.heap [] := va_S.rf
  have hK0 := hK.sub (tys' := []) [] rfl
  have hl := lv_entry ([.ref (z 0), .int x]) (n := 2) (Nat.le_of_ble_eq_true rfl)
  rw [lg_entry_eq]
  generalize (lg_sl ([.ref (z 0), .int x]) ++ List.replicate (2 - (lg_sl ([.ref (z 0), .int x])).length) Slot.unset).toArray = ls at hl ⊢
  have hl : lv_has ls 2 [(0, .ref (z 0)), (1, .int x)] := hl
  refine lv_iload_n hx hb d_T_count_0 rfl (lv_at hl 1 rfl) ?_
  rcases sw3 x with hv | hv | hv | hv | hv
  · skip
    refine nw_is (y := nI 0) hv ?_
    refine lv_tableIn hx hb (off := 31) (tgt := 32) d_T_count_1 (by decide) (by decide) (by decide) (by decide) ?_
    refine lv_aload_n hx hb d_T_count_32 rfl (lv_at hl 0 rfl) ?_
    refine va_get (D := D) (ci := 0) (C := RT) (T := FT) (N := 10) (v := .int (nI xh)) hx hb hw inT hown hK hP 0 rfl rfl 1 (by decide) (hw _ kF_T_39) (fun _ h9 => h9) rfl d_T_count_33 ?_
    refine nw_is (y := cnv x xh xr xg xn) ((cnv_0 hv _ _ _ _).symm) ?_
    exact W.iret hx hb hrt (fun t ht _ => ⟨rfl, ht⟩) (fun q h => nomatch h) d_T_count_36
  · skip
    refine nw_is (y := nI 1) hv ?_
    refine lv_tableIn hx hb (off := 36) (tgt := 37) d_T_count_1 (by decide) (by decide) (by decide) (by decide) ?_
    refine lv_aload_n hx hb d_T_count_37 rfl (lv_at hl 0 rfl) ?_
    refine va_get (D := D) (ci := 0) (C := RT) (T := FT) (N := 10) (v := .int (nI xr)) hx hb hw inT hown hK hP 0 rfl rfl 8 (by decide) (hw _ kF_T_79) (fun _ h9 => h9) rfl d_T_count_38 ?_
    refine nw_is (y := cnv x xh xr xg xn) ((cnv_1 hv _ _ _ _).symm) ?_
    exact W.iret hx hb hrt (fun t ht _ => ⟨rfl, ht⟩) (fun q h => nomatch h) d_T_count_41
  · skip
    refine nw_is (y := nI 2) hv ?_
    refine lv_tableIn hx hb (off := 41) (tgt := 42) d_T_count_1 (by decide) (by decide) (by decide) (by decide) ?_
    refine lv_aload_n hx hb d_T_count_42 rfl (lv_at hl 0 rfl) ?_
    refine va_get (D := D) (ci := 0) (C := RT) (T := FT) (N := 10) (v := .int (nI xg)) hx hb hw inT hown hK hP 0 rfl rfl 2 (by decide) (hw _ kF_T_104) (fun _ h9 => h9) rfl d_T_count_43 ?_
    refine nw_is (y := cnv x xh xr xg xn) ((cnv_2 hv _ _ _ _).symm) ?_
    exact W.iret hx hb hrt (fun t ht _ => ⟨rfl, ht⟩) (fun q h => nomatch h) d_T_count_46
  · skip
    refine nw_is (y := nI 3) hv ?_
    refine lv_tableIn hx hb (off := 46) (tgt := 47) d_T_count_1 (by decide) (by decide) (by decide) (by decide) ?_
    refine lv_aload_n hx hb d_T_count_47 rfl (lv_at hl 0 rfl) ?_
    refine va_get (D := D) (ci := 0) (C := RT) (T := FT) (N := 10) (v := .int (nI xn)) hx hb hw inT hown hK hP 0 rfl rfl 9 (by decide) (hw _ kF_T_58) (fun _ h9 => h9) rfl d_T_count_48 ?_
    refine nw_is (y := cnv x xh xr xg xn) ((cnv_3 hv _ _ _ _).symm) ?_
    exact W.iret hx hb hrt (fun t ht _ => ⟨rfl, ht⟩) (fun q h => nomatch h) d_T_count_51
  · skip
    refine lv_tableOut hx hb (tgt := 52) d_T_count_1 hv (by decide) ?_
    refine lv_iconst (v := -1) hx hb d_T_count_52 (by decide) ?_
    refine nw_is (y := cnv x xh xr xg xn) ((cnv_o hv _ _ _ _).symm) ?_
    exact W.iret hx hb hrt (fun t ht _ => ⟨rfl, ht⟩) (fun q h => nomatch h) d_T_count_53

set_option maxHeartbeats 4000000 in
set_option maxRecDepth 100000 in
theorem c_T_frame (l : Launch) (hl0 : l.stackTraces = false) (D : va_G) (z : Nat → Nat) (cI cZ : ClassId) (fT fK fA fB fF fE : Nat → Nat) (xh xg xr xn : Nat) (hi : IT fT fK fA fB fF fE xh xg xr) (x y : Int32) (sz : Nat) : vx_Met l y_T_frame w_T_frame (rmX 4) (PW D [(cI, .int), (cZ, .boolean)] (wT z cI cZ fT fK fA fB fF fE xh xg xr xn) sz [.ref (z 0), .int x, .int y]) (QXW (orE (xf xr x) (x6 y)) D [(cI, .int), (cZ, .boolean)] (wT z cI cZ fT fK fA fB fF fE xh xg xr xn) (wT z cI cZ fT fK fA fB fF fE xh xg xr xn) sz (some (.int (nI (frv y fK fA fB fF fE (xr - 1 - x.toNatClampNeg)))))) (XX (orE (xf xr x) (x6 y))) 1 6 (va_A (wT z cI cZ fT fK fA fB fF fE xh xg xr xn) sz) := by
  refine vx_ofW (cc := b_T_frame) (maxL := 4) (ret := (some .int)) (by decide) rfl ?_
  intro p e s m args below meth c s₁ B hml hno hv
  obtain ⟨rfl, hsz, hP, hK, hD0, hE⟩ := hv
  have hx := B.exec
  have hb := B.bytes
  have hrt := B.returns
  have hts := atoms_spec (ws := w_T_frame) B.pre
  have hw : ∀ w ∈ bw, w.before ([.ref (z 0), .int x, .int y]).toArray s = true := fun w h => hts w (List.mem_cons_of_mem _ h)
  have hown : s.vm.findClass "TypeStack" = some m.cls := findClass_of_methodNamed B.named
  have hlocks := B.notSynchronized
  subst hsz
  have hD := hD0.self (sz := s.heap.size)
  have hA : ∀ q : Nat, s.heap.size ≤ q → va_A (wT z cI cZ fT fK fA fB fF fE xh xg xr xn) s.heap.size q := fun q h => Or.inr h
  have hS : va_S (va_A (wT z cI cZ fT fK fA fB fF fE xh xg xr xn) s.heap.size) s.heap s.heap [] := va_S.rf
  have hK0 := hK.sub (tys' := []) [] rfl
  skip
  have hl := lv_entry ([.ref (z 0), .int x, .int y]) (n := 4) (Nat.le_of_ble_eq_true rfl)
  rw [lg_entry_eq]
  generalize (lg_sl ([.ref (z 0), .int x, .int y]) ++ List.replicate (4 - (lg_sl ([.ref (z 0), .int x, .int y])).length) Slot.unset).toArray = ls at hl ⊢
  have hl : lv_has ls 4 [(0, .ref (z 0)), (1, .int x), (2, .int y)] := hl
  obtain ⟨hiT, hiK, hiA, hiB, hiF, hiE, hih, hig, hir⟩ := id hi
  refine lv_aload_n hx hb d_T_frame_0 rfl (lv_at hl 0 rfl) ?_
  refine lv_iload_n hx hb d_T_frame_1 rfl (lv_at hl 1 rfl) ?_
  refine cl_x (v := some (.int (nI (xr - 1 - x.toNatClampNeg)))) hlocks hno (vx_runV (b := z 0) (C := "TypeStack") (As := [.int x]) (rest := []) ⟨hx, hb, hml, hown, hw⟩ (c_T_frameOfLabel l hl0 D z cI cZ fT fK fA fB fF fE xh xg xr xn hi x s.heap.size) (cwV 1 hw g_T_95 rfl rfl rfl ⟨rfl, by decide, by decide, by decide +kernel⟩ ⟨by decide, by decide⟩) ⟨PW.blind, va_recv (q := (RT, FT, 10)) (ci := 0) (q0 := 0) hK hP rfl rfl, PW.pre hP hK hD hS hA hE⟩ rfl rfl hl.1 rfl (lv_room (Nat.le_of_ble_eq_true rfl)) d_T_frame_2 ⟨by decide, by decide⟩) (fun E h2 => by simp only [orE, h2]) (fun h2 => ?_)
  have hr2 := xf_pos h2
  have hi3 : xr - 1 - x.toNatClampNeg < 40 := by omega
  refine lv_istore_n (lv' := [(3, .int (nI (xr - 1 - x.toNatClampNeg))), (0, .ref (z 0)), (1, .int x), (2, .int y)]) hx hb d_T_frame_5 rfl hl (by decide) rfl (fun ls hl => ?_)
  refine lv_iload_n hx hb d_T_frame_6 rfl (lv_at hl 3 rfl) ?_
  rcases sw5 y with hv | hv | hv | hv | hv | hv | hv
  · skip
    refine nw_is (y := nI 0) hv ?_
    refine lv_tableIn hx hb (off := 37) (tgt := 44) d_T_frame_7 (by decide) (by decide) (by decide) (by decide) ?_
    refine lv_aload_n hx hb d_T_frame_44 rfl (lv_at hl 1 rfl) ?_
    refine va_get (D := D) (ci := 0) (C := RT) (T := FT) (N := 10) (v := .ref (z 2)) hx hb hw inT hown hK hP 0 rfl rfl 3 (by decide) (hw _ kF_T_13) (fun _ h9 => h9) rfl d_T_frame_45 ?_
    refine lv_iload_n hx hb d_T_frame_48 rfl (lv_at hl 0 rfl) ?_
    refine nw_iald hx hb hK hP 2 0 rfl rfl (k := xr - 1 - x.toNatClampNeg) (by omega) (by decide) d_T_frame_49 ?_
    have b49 := hiK (xr - 1 - x.toNatClampNeg)
    refine nw_is (y := nI (frv y fK fA fB fF fE (xr - 1 - x.toNatClampNeg))) (by rw [frv_0 hv]) ?_
    have hP : va_P D cls2 (wT z cI cZ fT fK fA fB fF fE xh xg xr xn) s.heap := by exact hP
    have hD : va_D (va_A (wT z cI cZ fT fK fA fB fF fE xh xg xr xn) s.heap.size) (wT z cI cZ fT fK fA fB fF fE xh xg xr xn) := by exact hD
    exact vx_ret (W.widen (k := 1) (n := 6) (by decide) (by decide) (W.iret hx hb hrt (fun t ht _ => ⟨by simp only [orE, h2, x6_0 hv], ⟨rfl, by rw [ht]; exact hP, hD⟩, hS.F ht⟩) hS.2.2 d_T_frame_50))
  · skip
    refine nw_is (y := nI 1) hv ?_
    refine lv_tableIn hx hb (off := 44) (tgt := 51) d_T_frame_7 (by decide) (by decide) (by decide) (by decide) ?_
    refine lv_aload_n hx hb d_T_frame_51 rfl (lv_at hl 1 rfl) ?_
    refine va_get (D := D) (ci := 0) (C := RT) (T := FT) (N := 10) (v := .ref (z 3)) hx hb hw inT hown hK hP 0 rfl rfl 4 (by decide) (hw _ kF_T_16) (fun _ h9 => h9) rfl d_T_frame_52 ?_
    refine lv_iload_n hx hb d_T_frame_55 rfl (lv_at hl 0 rfl) ?_
    refine nw_iald hx hb hK hP 3 0 rfl rfl (k := xr - 1 - x.toNatClampNeg) (by omega) (by decide) d_T_frame_56 ?_
    have b56 := hiA (xr - 1 - x.toNatClampNeg)
    refine nw_is (y := nI (frv y fK fA fB fF fE (xr - 1 - x.toNatClampNeg))) (by rw [frv_1 hv]) ?_
    have hP : va_P D cls2 (wT z cI cZ fT fK fA fB fF fE xh xg xr xn) s.heap := by exact hP
    have hD : va_D (va_A (wT z cI cZ fT fK fA fB fF fE xh xg xr xn) s.heap.size) (wT z cI cZ fT fK fA fB fF fE xh xg xr xn) := by exact hD
    exact vx_ret (W.widen (k := 1) (n := 6) (by decide) (by decide) (W.iret hx hb hrt (fun t ht _ => ⟨by simp only [orE, h2, x6_1 hv], ⟨rfl, by rw [ht]; exact hP, hD⟩, hS.F ht⟩) hS.2.2 d_T_frame_57))
  · skip
    refine nw_is (y := nI 2) hv ?_
    refine lv_tableIn hx hb (off := 51) (tgt := 58) d_T_frame_7 (by decide) (by decide) (by decide) (by decide) ?_
    refine lv_aload_n hx hb d_T_frame_58 rfl (lv_at hl 1 rfl) ?_
    refine va_get (D := D) (ci := 0) (C := RT) (T := FT) (N := 10) (v := .ref (z 4)) hx hb hw inT hown hK hP 0 rfl rfl 5 (by decide) (hw _ kF_T_19) (fun _ h9 => h9) rfl d_T_frame_59 ?_
    refine lv_iload_n hx hb d_T_frame_62 rfl (lv_at hl 0 rfl) ?_
    refine nw_iald hx hb hK hP 4 0 rfl rfl (k := xr - 1 - x.toNatClampNeg) (by omega) (by decide) d_T_frame_63 ?_
    have b63 := hiB (xr - 1 - x.toNatClampNeg)
    refine nw_is (y := nI (frv y fK fA fB fF fE (xr - 1 - x.toNatClampNeg))) (by rw [frv_2 hv]) ?_
    have hP : va_P D cls2 (wT z cI cZ fT fK fA fB fF fE xh xg xr xn) s.heap := by exact hP
    have hD : va_D (va_A (wT z cI cZ fT fK fA fB fF fE xh xg xr xn) s.heap.size) (wT z cI cZ fT fK fA fB fF fE xh xg xr xn) := by exact hD
    exact vx_ret (W.widen (k := 1) (n := 6) (by decide) (by decide) (W.iret hx hb hrt (fun t ht _ => ⟨by simp only [orE, h2, x6_2 hv], ⟨rfl, by rw [ht]; exact hP, hD⟩, hS.F ht⟩) hS.2.2 d_T_frame_64))
  · skip
    refine nw_is (y := nI 3) hv ?_
    refine lv_tableIn hx hb (off := 58) (tgt := 65) d_T_frame_7 (by decide) (by decide) (by decide) (by decide) ?_
    refine lv_aload_n hx hb d_T_frame_65 rfl (lv_at hl 1 rfl) ?_
    refine va_get (D := D) (ci := 0) (C := RT) (T := FT) (N := 10) (v := .ref (z 5)) hx hb hw inT hown hK hP 0 rfl rfl 6 (by decide) (hw _ kF_T_22) (fun _ h9 => h9) rfl d_T_frame_66 ?_
    refine lv_iload_n hx hb d_T_frame_69 rfl (lv_at hl 0 rfl) ?_
    refine nw_iald hx hb hK hP 5 0 rfl rfl (k := xr - 1 - x.toNatClampNeg) (by omega) (by decide) d_T_frame_70 ?_
    have b70 := hiF (xr - 1 - x.toNatClampNeg)
    refine nw_is (y := nI (frv y fK fA fB fF fE (xr - 1 - x.toNatClampNeg))) (by rw [frv_3 hv]) ?_
    have hP : va_P D cls2 (wT z cI cZ fT fK fA fB fF fE xh xg xr xn) s.heap := by exact hP
    have hD : va_D (va_A (wT z cI cZ fT fK fA fB fF fE xh xg xr xn) s.heap.size) (wT z cI cZ fT fK fA fB fF fE xh xg xr xn) := by exact hD
    exact vx_ret (W.widen (k := 1) (n := 6) (by decide) (by decide) (W.iret hx hb hrt (fun t ht _ => ⟨by simp only [orE, h2, x6_3 hv], ⟨rfl, by rw [ht]; exact hP, hD⟩, hS.F ht⟩) hS.2.2 d_T_frame_71))
  · skip
    refine nw_is (y := nI 4) hv ?_
    refine lv_tableIn hx hb (off := 65) (tgt := 72) d_T_frame_7 (by decide) (by decide) (by decide) (by decide) ?_
    refine lv_aload_n hx hb d_T_frame_72 rfl (lv_at hl 1 rfl) ?_
    refine va_get (D := D) (ci := 0) (C := RT) (T := FT) (N := 10) (v := .ref (z 6)) hx hb hw inT hown hK hP 0 rfl rfl 7 (by decide) (hw _ kF_T_25) (fun _ h9 => h9) rfl d_T_frame_73 ?_
    refine lv_iload_n hx hb d_T_frame_76 rfl (lv_at hl 0 rfl) ?_
    refine nw_zald hx hb hK hP 6 1 rfl rfl (k := xr - 1 - x.toNatClampNeg) (by omega) (by decide) d_T_frame_77 ?_
    have b77 := hiE (xr - 1 - x.toNatClampNeg)
    refine nw_ifeq hx hb (tgt := 85) d_T_frame_78 (by decide) (by omega) (fun h78 => ?_) (fun h78 => ?_)
    · skip
      refine lv_iconst (v := nI 0) hx hb d_T_frame_85 (by decide) ?_
      refine nw_is (y := nI (frv y fK fA fB fF fE (xr - 1 - x.toNatClampNeg))) (by rw [frv_4 hv]; have := hiE (xr - 1 - x.toNatClampNeg); congr 1; omega) ?_
      have hP : va_P D cls2 (wT z cI cZ fT fK fA fB fF fE xh xg xr xn) s.heap := by exact hP
      have hD : va_D (va_A (wT z cI cZ fT fK fA fB fF fE xh xg xr xn) s.heap.size) (wT z cI cZ fT fK fA fB fF fE xh xg xr xn) := by exact hD
      exact vx_ret (W.widen (k := 1) (n := 6) (by decide) (by decide) (W.iret hx hb hrt (fun t ht _ => ⟨by simp only [orE, h2, x6_4 hv], ⟨rfl, by rw [ht]; exact hP, hD⟩, hS.F ht⟩) hS.2.2 d_T_frame_86))
    · skip
      refine lv_iconst (v := nI 1) hx hb d_T_frame_81 (by decide) ?_
      refine lv_goto hx hb d_T_frame_82 (tgt := 86) (by decide) ?_
      refine nw_is (y := nI (frv y fK fA fB fF fE (xr - 1 - x.toNatClampNeg))) (by rw [frv_4 hv]; have := hiE (xr - 1 - x.toNatClampNeg); congr 1; omega) ?_
      have hP : va_P D cls2 (wT z cI cZ fT fK fA fB fF fE xh xg xr xn) s.heap := by exact hP
      have hD : va_D (va_A (wT z cI cZ fT fK fA fB fF fE xh xg xr xn) s.heap.size) (wT z cI cZ fT fK fA fB fF fE xh xg xr xn) := by exact hD
      exact vx_ret (W.widen (k := 1) (n := 6) (by decide) (by decide) (W.iret hx hb hrt (fun t ht _ => ⟨by simp only [orE, h2, x6_4 hv], ⟨rfl, by rw [ht]; exact hP, hD⟩, hS.F ht⟩) hS.2.2 d_T_frame_86))
  · skip
    refine nw_is (y := nI 5) hv ?_
    refine lv_tableIn hx hb (off := 80) (tgt := 87) d_T_frame_7 (by decide) (by decide) (by decide) (by decide) ?_
    refine lv_aload_n hx hb d_T_frame_87 rfl (lv_at hl 1 rfl) ?_
    refine lv_iload_n hx hb d_T_frame_88 rfl (lv_at hl 0 rfl) ?_
    refine cl_r (v := some (.int (nI (wnt fK fA fB (xr - 1 - x.toNatClampNeg))))) (W.runV (b := z 0) (C := "TypeStack") (As := [.int (nI (xr - 1 - x.toNatClampNeg))]) (rest := []) ⟨hx, hb, hml, hown, hw⟩ (c_T_wantedBy l D z cI cZ fT fK fA fB fF fE xh xg xr xn hi (xr - 1 - x.toNatClampNeg) (by omega) s.heap.size) (cwV 1 hw g_T_98 rfl rfl rfl ⟨rfl, by decide, by decide, by decide +kernel⟩ ⟨by decide, by decide⟩) ⟨PW.blind, va_recv (q := (RT, FT, 10)) (ci := 0) (q0 := 0) hK hP rfl rfl, PW.pre hP hK hD hS hA hE⟩ rfl rfl hl.1 rfl (lv_room (Nat.le_of_ble_eq_true rfl)) d_T_frame_89 ⟨by decide, by decide⟩) ?_
    have hw89 := wnt_lt fK hiA hiB (xr - 1 - x.toNatClampNeg)
    refine nw_is (y := nI (frv y fK fA fB fF fE (xr - 1 - x.toNatClampNeg))) (by rw [frv_5 hv]) ?_
    have hP : va_P D cls2 (wT z cI cZ fT fK fA fB fF fE xh xg xr xn) s.heap := by exact hP
    have hD : va_D (va_A (wT z cI cZ fT fK fA fB fF fE xh xg xr xn) s.heap.size) (wT z cI cZ fT fK fA fB fF fE xh xg xr xn) := by exact hD
    exact vx_ret (W.widen (k := 1) (n := 6) (by decide) (by decide) (W.iret hx hb hrt (fun t ht _ => ⟨by simp only [orE, h2, x6_5 hv], ⟨rfl, by rw [ht]; exact hP, hD⟩, hS.F ht⟩) hS.2.2 d_T_frame_92))
  · skip
    refine lv_tableOut hx hb (tgt := 93) d_T_frame_7 hv (by decide) ?_
    exact thr_IAE hx hb hl0 hown hw hE (va_S.rf) (hl.1.trans hml.symm) d_T_frame_93 d_T_frame_96 d_T_frame_97 d_T_frame_100 hno (by decide) (by decide) (by decide) (by decide) hlocks (by simp only [orE, h2, x6_o hv])
