theorem va_Dnil {A : Nat → Prop} : va_D A [] := va_D.nil
/-- both classes, as the tables have them -/
theorem law_K {s : State} {args : Array Value} (hw : ∀ w ∈ bw, w.before args s = true) : ∃ D : va_G, va_K D cls2 [] s := by
  obtain ⟨cT, iT, kT⟩ := u_known hw inT (hw _ kO_T)
  obtain ⟨cM, iM, kM⟩ := u_known hw inM (hw _ kO_M)
  refine ⟨(fun k => match k with | 0 => cT | _ => cM, fun k => match k with | 0 => iT | _ => iM), fun c q hq => ?_, fun k q h => by simp at h⟩
  match c, hq with
  | 0, hq => obtain rfl := Option.some.inj hq; exact kT
  | 1, hq => obtain rfl := Option.some.inj hq; exact kM
  | n + 2, hq => simp [cls2] at hq

set_option maxHeartbeats 4000000 in
set_option maxRecDepth 100000 in
/-- from the entry to the loop's end -/
theorem law_start {p : Program} {l : Launch} {e : Env} {s : State} {m : MethodId} {below : List Frame} {meth : Method} {c : Code} {Q : State → Prop} {b L : Nat} {xs : Nat → Int32} (hl0 : l.stackTraces = false) (hx : p.tables.exec = Jvm.exec) (hb : c.code = code) (hml : c.maxLocals = 7) (hown : s.vm.findClass "TypeStackLaw" = some m.cls) (hw : ∀ w ∈ bw, w.before #[Value.ref b] s = true) (hX : va_X b L xs s s.heap) (hbl : b < s.heap.size) (hE : Ev (fun q => s.heap.size ≤ q) s) (hN : Nc s) (hL : L ≤ 2048)
    (kx : ∀ (cells slots : Nat) (H : Heap) (locs : List Loc) (ls : Array Slot), cells ≤ 528 → slots ≤ 4603 → (∀ q ∈ locs, s.heap.size ≤ q.base) → W p l e room_1 s m #[Value.ref b] below meth c H locs cells slots Q (F0 m 764 ls [])) :
    W p l e room_1 s m #[Value.ref b] below meth c s.heap [] 0 0 Q (entryFrame m ([Value.ref b] : List Value).toArray 7) := by
  obtain ⟨D, hK⟩ := law_K hw
  have hA : ∀ q : Nat, s.heap.size ≤ q → (fun q => s.heap.size ≤ q) q := fun q h => h
  have hP : va_P D cls2 [] s.heap := va_P.nil
  have hD : va_D (fun q => s.heap.size ≤ q) [] := va_D.nil
  have hS : va_S (fun q => s.heap.size ≤ q) s.heap s.heap [] := va_S.rf
  have hl := lv_entry ([.ref b]) (n := 7) (Nat.le_of_ble_eq_true rfl)
  rw [lg_entry_eq]
  generalize (lg_sl ([.ref b]) ++ List.replicate (7 - (lg_sl ([.ref b])).length) Slot.unset).toArray = ls at hl ⊢
  have hl : lv_has ls 7 [(0, .ref b)] := hl
  refine va_new (ci := 0) (fs := [.null, .int (nI 0), .int (nI 0), .null, .null, .null, .null, .null, .int (nI 0), .int (nI 0)]) (C := RT) (T := FT) (N := 10) hx hb hw inT tT tT_ok hown (hw _ kC_L_8) (hw _ kO_T) (hw _ kN_T) hK hP hD hS hA rfl (fun j hj => by rcases (show j = 0 ∨ j = 1 ∨ j = 2 ∨ j = 3 ∨ j = 4 ∨ j = 5 ∨ j = 6 ∨ j = 7 ∨ j = 8 ∨ j = 9 by omega) with rfl | rfl | rfl | rfl | rfl | rfl | rfl | rfl | rfl | rfl <;> rfl) (Nat.le_of_ble_eq_true rfl) (Nat.le_of_ble_eq_true rfl) d_L_law_0 (fun h0 H hP hD hS => ?_)
  have hP : va_P D cls2 [(h0, .inr (0, [.null, .int (nI 0), .int (nI 0), .null, .null, .null, .null, .null, .int (nI 0), .int (nI 0)]))] H := hP
  have hD : va_D (fun q => s.heap.size ≤ q) [(h0, .inr (0, [.null, .int (nI 0), .int (nI 0), .null, .null, .null, .null, .null, .int (nI 0), .int (nI 0)]))] := hD
  refine lv_dup hx hb d_L_law_3 rfl ?_
  have hPc := hP
  have hDc := hD
  have hKc := hK
  refine cl_j (Wc := [(h0, .inr (0, [.null, .int (nI 0), .int (nI 0), .null, .null, .null, .null, .null, .int (nI 0), .int (nI 0)]))]) (Wr := []) hP hD hS hA [0] [] rfl rfl (by decide) (by decide) (va_runI (b := h0) (As := []) (rest := [.ref h0]) ⟨hx, hb, hml, hown, hw⟩ (c_T_init l D h0 H.size) (cwI 0 hw (bw_in kW_T_init) rfl rfl rfl (hw _ kN_T) (hw _ kL_L_64) (hw _ kI_T_init) rfl (by decide +kernel) ⟨Nat.le_of_ble_eq_true rfl, Nat.le_of_ble_eq_true rfl⟩) ⟨PW.blind, PW.pre hPc hKc hDc hS hA hE⟩ rfl rfl hl.1 rfl (lv_room (Nat.le_of_ble_eq_true rfl)) d_L_law_4 ⟨Nat.le_of_ble_eq_true rfl, Nat.le_of_ble_eq_true rfl⟩) (fun _ _ _ h => h.2) (fun v1 st1 t1 H locs hq ht hJ hS hvm => ?_)
  obtain ⟨⟨z, cI, cZ, hz, hr1, hP1, hK1, hD1⟩, -⟩ := hq
  cases hr1
  subst hz
  rw [ht] at hP1
  obtain ⟨hP, hD⟩ := hJ _ hP1 hD1
  have hK : va_K D cls2 [(cI, .int), (cZ, .boolean)] s := va_K.moved hvm.symm hK1
  have hP : va_P D cls2 (wT z cI cZ (fun _ => 0) (va_up (fun _ => 0) 0 0) (va_up (fun _ => 0) 0 0) (va_up (fun _ => 0) 0 0) (va_up (fun _ => 0) 0 0) (va_up (fun _ => 0) 0 0) 0 0 (0 + 1) 0) H := hP
  have hD : va_D (fun q => s.heap.size ≤ q) (wT z cI cZ (fun _ => 0) (va_up (fun _ => 0) 0 0) (va_up (fun _ => 0) 0 0) (va_up (fun _ => 0) 0 0) (va_up (fun _ => 0) 0 0) (va_up (fun _ => 0) 0 0) 0 0 (0 + 1) 0) := hD
  refine lv_astore_n (lv' := [(1, .ref (z 0)), (0, .ref b)]) hx hb d_L_law_7 rfl hl (by decide) rfl (fun ls hl => ?_)
  refine va_new (ci := 1) (fs := [.int (nI 0), .null, .null, .null, .null, .null, .null, .int (nI 0), .int (nI 0), .int (nI 0), .int (nI 0), .null, .int (nI 0), .int (nI 0), .int (nI 0)]) (C := RM) (T := FM) (N := 15) hx hb hw inM tM tM_ok hown (hw _ kC_L_65) (hw _ kO_M) (hw _ kN_M) hK hP hD hS hA rfl (fun j hj => by rcases (show j = 0 ∨ j = 1 ∨ j = 2 ∨ j = 3 ∨ j = 4 ∨ j = 5 ∨ j = 6 ∨ j = 7 ∨ j = 8 ∨ j = 9 ∨ j = 10 ∨ j = 11 ∨ j = 12 ∨ j = 13 ∨ j = 14 by omega) with rfl | rfl | rfl | rfl | rfl | rfl | rfl | rfl | rfl | rfl | rfl | rfl | rfl | rfl | rfl <;> rfl) (Nat.le_of_ble_eq_true rfl) (Nat.le_of_ble_eq_true rfl) d_L_law_8 (fun h1 H hP hD hS => ?_)
  have hP : va_P D cls2 (wT z cI cZ (fun _ => 0) (va_up (fun _ => 0) 0 0) (va_up (fun _ => 0) 0 0) (va_up (fun _ => 0) 0 0) (va_up (fun _ => 0) 0 0) (va_up (fun _ => 0) 0 0) 0 0 (0 + 1) 0 ++ [(h1, .inr (1, [.int (nI 0), .null, .null, .null, .null, .null, .null, .int (nI 0), .int (nI 0), .int (nI 0), .int (nI 0), .null, .int (nI 0), .int (nI 0), .int (nI 0)]))]) H := hP
  have hD : va_D (fun q => s.heap.size ≤ q) (wT z cI cZ (fun _ => 0) (va_up (fun _ => 0) 0 0) (va_up (fun _ => 0) 0 0) (va_up (fun _ => 0) 0 0) (va_up (fun _ => 0) 0 0) (va_up (fun _ => 0) 0 0) 0 0 (0 + 1) 0 ++ [(h1, .inr (1, [.int (nI 0), .null, .null, .null, .null, .null, .null, .int (nI 0), .int (nI 0), .int (nI 0), .int (nI 0), .null, .int (nI 0), .int (nI 0), .int (nI 0)]))]) := hD
  refine lv_dup hx hb d_L_law_11 rfl ?_
  have hPc := hP.sub (ws' := [(h1, .inr (1, [.int (nI 0), .null, .null, .null, .null, .null, .null, .int (nI 0), .int (nI 0), .int (nI 0), .int (nI 0), .null, .int (nI 0), .int (nI 0), .int (nI 0)]))]) [7] rfl
  have hDc := hD.sub (ws' := [(h1, .inr (1, [.int (nI 0), .null, .null, .null, .null, .null, .null, .int (nI 0), .int (nI 0), .int (nI 0), .int (nI 0), .null, .int (nI 0), .int (nI 0), .int (nI 0)]))]) [7] (by decide) rfl
  have hKc := hK
  refine cl_j (Wc := [(h1, .inr (1, [.int (nI 0), .null, .null, .null, .null, .null, .null, .int (nI 0), .int (nI 0), .int (nI 0), .int (nI 0), .null, .int (nI 0), .int (nI 0), .int (nI 0)]))]) (Wr := (wT z cI cZ (fun _ => 0) (va_up (fun _ => 0) 0 0) (va_up (fun _ => 0) 0 0) (va_up (fun _ => 0) 0 0) (va_up (fun _ => 0) 0 0) (va_up (fun _ => 0) 0 0) 0 0 (0 + 1) 0)) hP hD hS hA [7] [0, 1, 2, 3, 4, 5, 6] rfl rfl (by decide) (by decide) (va_runI (b := h1) (As := []) (rest := [.ref h1]) ⟨hx, hb, hml, hown, hw⟩ (c_M_init l D cI cZ h1 H.size) (cwI 0 hw (bw_in kW_M_init) rfl rfl rfl (hw _ kN_M) (hw _ kL_L_67) (hw _ kI_M_init) rfl (by decide +kernel) ⟨Nat.le_of_ble_eq_true rfl, Nat.le_of_ble_eq_true rfl⟩) ⟨PW.blind, PW.pre hPc hKc hDc hS hA hE⟩ rfl rfl hl.1 rfl (lv_room (Nat.le_of_ble_eq_true rfl)) d_L_law_12 ⟨Nat.le_of_ble_eq_true rfl, Nat.le_of_ble_eq_true rfl⟩) (fun _ _ _ h => h.2) (fun v1 st1 t1 H locs hq ht hJ hS hvm => ?_)
  obtain ⟨⟨u, hz, hr1, hP1, hD1⟩, -⟩ := hq
  cases hr1
  subst hz
  rw [ht] at hP1
  obtain ⟨hP, hD⟩ := hJ _ hP1 hD1
  have hP : va_P D cls2 (wT z cI cZ (fun _ => 0) (va_up (fun _ => 0) 0 0) (va_up (fun _ => 0) 0 0) (va_up (fun _ => 0) 0 0) (va_up (fun _ => 0) 0 0) (va_up (fun _ => 0) 0 0) 0 0 (0 + 1) 0 ++ wM u cI cZ (fun _ => 0) (va_up (fun _ => 0) 0 0) (va_up (fun _ => 0) 0 0) (va_up (fun _ => 0) 0 0) (va_up (fun _ => 0) 0 0) (va_up (fun _ => 0) 0 0) (fun _ => 0) 0 0 1 0 0 0 0 0) H := hP
  have hD : va_D (fun q => s.heap.size ≤ q) (wT z cI cZ (fun _ => 0) (va_up (fun _ => 0) 0 0) (va_up (fun _ => 0) 0 0) (va_up (fun _ => 0) 0 0) (va_up (fun _ => 0) 0 0) (va_up (fun _ => 0) 0 0) 0 0 (0 + 1) 0 ++ wM u cI cZ (fun _ => 0) (va_up (fun _ => 0) 0 0) (va_up (fun _ => 0) 0 0) (va_up (fun _ => 0) 0 0) (va_up (fun _ => 0) 0 0) (va_up (fun _ => 0) 0 0) (fun _ => 0) 0 0 1 0 0 0 0 0) := hD
  refine lv_astore_n (lv' := [(2, .ref (u 0)), (1, .ref (z 0)), (0, .ref b)]) hx hb d_L_law_15 rfl hl (by decide) rfl (fun ls hl => ?_)
  refine lv_iconst (v := nI 1) hx hb d_L_law_16 (by decide) ?_
  refine va_newa (atype := .long) (n := nI 1) (N' := 1) (a0 := (1, .inr (.inl (fun _ => 0)))) hx hb (hw _ kA_long) rfl hK hP hD hS hA (fun cA => nz_long cA 1) (by decide) (by decide) (by decide) (by decide) (by decide) d_L_law_17 (fun o cL H hK hP hD hS => ?_)
  have hK : va_K D cls2 [(cI, .int), (cZ, .boolean), (cL, .long)] s := hK
  have hP := hP.sub (ws' := ((o, .inl (cL, 1, .inr (.inl (fun _ => 0)))) :: (wM u cI cZ (fun _ => 0) (va_up (fun _ => 0) 0 0) (va_up (fun _ => 0) 0 0) (va_up (fun _ => 0) 0 0) (va_up (fun _ => 0) 0 0) (va_up (fun _ => 0) 0 0) (fun _ => 0) 0 0 1 0 0 0 0 0 ++ wT z cI cZ (fun _ => 0) (va_up (fun _ => 0) 0 0) (va_up (fun _ => 0) 0 0) (va_up (fun _ => 0) 0 0) (va_up (fun _ => 0) 0 0) (va_up (fun _ => 0) 0 0) 0 0 (0 + 1) 0))) [15, 7, 8, 9, 10, 11, 12, 13, 14, 0, 1, 2, 3, 4, 5, 6] rfl
  have hD := hD.sub (ws' := ((o, .inl (cL, 1, .inr (.inl (fun _ => 0)))) :: (wM u cI cZ (fun _ => 0) (va_up (fun _ => 0) 0 0) (va_up (fun _ => 0) 0 0) (va_up (fun _ => 0) 0 0) (va_up (fun _ => 0) 0 0) (va_up (fun _ => 0) 0 0) (fun _ => 0) 0 0 1 0 0 0 0 0 ++ wT z cI cZ (fun _ => 0) (va_up (fun _ => 0) 0 0) (va_up (fun _ => 0) 0 0) (va_up (fun _ => 0) 0 0) (va_up (fun _ => 0) 0 0) (va_up (fun _ => 0) 0 0) 0 0 (0 + 1) 0))) [15, 7, 8, 9, 10, 11, 12, 13, 14, 0, 1, 2, 3, 4, 5, 6] (by decide) rfl
  refine lv_astore_n (lv' := [(3, .ref o), (2, .ref (u 0)), (1, .ref (z 0)), (0, .ref b)]) hx hb d_L_law_19 rfl hl (by decide) rfl (fun ls hl => ?_)
  refine lv_iconst (v := nI 0) hx hb d_L_law_20 (by decide) ?_
  refine lv_istore (lv' := [(4, .int (nI 0)), (3, .ref o), (2, .ref (u 0)), (1, .ref (z 0)), (0, .ref b)]) hx hb d_L_law_21 hl (by decide) rfl (fun ls hl => ?_)
  have i0 : ∀ j : Nat, (fun _ : Nat => 0) j < 5 := fun _ => (by decide : 0 < 5)
  have i1 : ∀ j : Nat, (fun _ : Nat => 0) j < 4 := fun _ => (by decide : 0 < 4)
  have i2 : ∀ j : Nat, (fun _ : Nat => 0) j < 15625 := fun _ => (by decide : 0 < 15625)
  have i3 : ∀ j : Nat, (fun _ : Nat => 0) j ≤ 300 := fun _ => (by decide : 0 ≤ 300)
  have i4 : ∀ j : Nat, (fun _ : Nat => 0) j ≤ 1 := fun _ => (by decide : 0 ≤ 1)
  refine W.widen (k := 16 + 0) (n := 1531 + 6 * 0) (Nat.le_of_ble_eq_true rfl) (Nat.le_of_ble_eq_true rfl) ?_
  refine law_loop (z := z) (u := u) (o := o) ⟨hl0, hx, hb, hml, hown, hw, hX, hbl, hE, hN, hK⟩ hL kx (L / 4) 0 H _ ls (Nat.zero_add _) ?_ hl
  refine ⟨(fun _ => 0), (va_up (fun _ => 0) 0 0), (va_up (fun _ => 0) 0 0), (va_up (fun _ => 0) 0 0), (va_up (fun _ => 0) 0 0), (va_up (fun _ => 0) 0 0), 0, 0, (0 + 1), 0, (fun _ => 0), (va_up (fun _ => 0) 0 0), (va_up (fun _ => 0) 0 0), (va_up (fun _ => 0) 0 0), (va_up (fun _ => 0) 0 0), (va_up (fun _ => 0) 0 0), (fun _ => 0), 0, 0, 1, 0, 0, 0, 0, 0, (fun _ => 0), ?_, ?_, ?_, ?_, hP, hD, hS⟩
  · exact ⟨i0, im_upl i1 (by decide), im_upl i2 (by decide), im_upl i2 (by decide), im_up i3 (by decide), im_up i4 (by decide), by decide, by decide, by decide⟩
  · exact ⟨fun j h => by omega, fun _ => Nat.le_refl 0, fun j h => by rw [show j = 0 by omega]; exact (by decide : 0 + szL 6 0 ≤ 300), Nat.le_refl 0⟩
  · exact ⟨i0, im_upl i1 (by decide), im_upl i2 (by decide), im_upl i2 (by decide), im_up i3 (by decide), im_up i4 (by decide), by decide, by decide, by decide⟩
  · exact ⟨rfl, rfl, rfl, rfl, fun j h => absurd h (Nat.not_lt_zero j), fun j h => by rw [show j = 0 by omega]; exact ⟨rfl, rfl, rfl, rfl, rfl⟩⟩
