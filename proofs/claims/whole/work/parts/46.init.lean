theorem nz_int (cA : ClassId) (N : Nat) : vp_cell cA (N, .inl (fun _ => nI 0)) = arrV cA N (fun _ => defaultValue .int) := rfl
theorem nz_boolean (cA : ClassId) (N : Nat) : vp_cell cA (N, .inl (fun _ => nI 0)) = arrV cA N (fun _ => defaultValue .boolean) := rfl
theorem nz_long (cA : ClassId) (N : Nat) : vp_cell cA (N, .inr (.inl (fun _ => 0))) = arrV cA N (fun _ => defaultValue .long) := rfl
/-- the addresses by number -/
def zfT (a b c d e f g : Nat) (k : Nat) : Nat := match k with
  | 0 => a
  | 1 => b
  | 2 => c
  | 3 => d
  | 4 => e
  | 5 => f
  | _ => g
def zfM (a b c d e f g h : Nat) (k : Nat) : Nat := match k with
  | 0 => a
  | 1 => b
  | 2 => c
  | 3 => d
  | 4 => e
  | 5 => f
  | 6 => g
  | _ => h
set_option maxHeartbeats 600000 in
set_option maxRecDepth 100000 in
theorem c_T_init (l : Launch) (D : va_G) (h sz : Nat) : Met l y_T_init w_T_init ({ frames := 3, cells := 6, slots := 500, locals := 120 }) (PW D [] [(h, .inr (0, [.null, .int (nI 0), .int (nI 0), .null, .null, .null, .null, .null, .int (nI 0), .int (nI 0)]))] sz [.ref h]) (fun _ st o t => (∃ z : Nat → Nat, ∃ cI cZ : ClassId, z 0 = h ∧ o = .returned none ∧ va_P D cls2 (wT z cI cZ (fun _ => 0) (va_up (fun _ => 0) 0 0) (va_up (fun _ => 0) 0 0) (va_up (fun _ => 0) 0 0) (va_up (fun _ => 0) 0 0) (va_up (fun _ => 0) 0 0) 0 0 (0 + 1) 0) t.heap ∧ va_K D cls2 [(cI, .int), (cZ, .boolean)] t ∧ va_D (va_A [(h, .inr (0, [.null, .int (nI 0), .int (nI 0), .null, .null, .null, .null, .null, .int (nI 0), .int (nI 0)]))] sz) (wT z cI cZ (fun _ => 0) (va_up (fun _ => 0) 0 0) (va_up (fun _ => 0) 0 0) (va_up (fun _ => 0) 0 0) (va_up (fun _ => 0) 0 0) (va_up (fun _ => 0) 0 0) 0 0 (0 + 1) 0)) ∧ va_F (va_A [(h, .inr (0, [.null, .int (nI 0), .int (nI 0), .null, .null, .null, .null, .null, .int (nI 0), .int (nI 0)]))] sz) st t) 6 500 (va_A [(h, .inr (0, [.null, .int (nI 0), .int (nI 0), .null, .null, .null, .null, .null, .int (nI 0), .int (nI 0)]))] sz) := by
  refine Met.ofW (cc := b_T_init) (maxL := 1) (ret := none) (by decide) rfl ?_
  intro p e s m args below meth c s₁ B hml hv
  obtain ⟨rfl, hsz, hP, hK, hD0, hE⟩ := hv
  have hx := B.exec
  have hb := B.bytes
  have hrt := B.returns
  have hts := atoms_spec (ws := w_T_init) B.pre
  have hw : ∀ w ∈ bw, w.before ([.ref h] : List Value).toArray s = true := fun w h => hts w (List.mem_cons_of_mem _ h)
  have hown : s.vm.findClass "TypeStack" = some m.cls := findClass_of_methodNamed B.named
  have hlocks := B.notSynchronized
  have hin : meth.name = "<init>" := (name_of_methodNamed B.named B.method).1
  subst hsz
  have hD := hD0.self (sz := s.heap.size)
  have hA : ∀ q : Nat, s.heap.size ≤ q → va_A [(h, .inr (0, [.null, .int (nI 0), .int (nI 0), .null, .null, .null, .null, .null, .int (nI 0), .int (nI 0)]))] s.heap.size q := fun q h => Or.inr h
  have hS : va_S (va_A [(h, .inr (0, [.null, .int (nI 0), .int (nI 0), .null, .null, .null, .null, .null, .int (nI 0), .int (nI 0)]))] s.heap.size) s.heap s.heap [] := va_S.rf
  have hl := lv_entry ([.ref h]) (n := 1) (Nat.le_of_ble_eq_true rfl)
  rw [lg_entry_eq]
  generalize (lg_sl ([.ref h]) ++ List.replicate (1 - (lg_sl ([.ref h])).length) Slot.unset).toArray = ls at hl ⊢
  have hl : lv_has ls 1 [(0, .ref h)] := hl
  refine lv_aload_n hx hb d_T_init_0 rfl (lv_at hl 0 rfl) ?_
  refine W.objInit hx hb hown (hw _ kL_T_1) (hw _ kI_obj) (hw _ kW_obj) rfl (by rw [hml]; exact hl.1) rfl d_T_init_1 (Nat.le_of_ble_eq_true rfl) (Nat.le_of_ble_eq_true rfl) ?_
  refine W.eq (g2 := F0 m 4 ls []) rfl ?_
  refine lv_aload_n hx hb d_T_init_4 rfl (lv_at hl 0 rfl) ?_
  refine lv_sipush (v := nI 300) hx hb d_T_init_5 (by decide) ?_
  refine va_newa (atype := .int) (n := nI 300) (N' := 300) (a0 := (300, .inl (fun _ => nI 0))) hx hb (hw _ kA_int) rfl hK hP hD hS hA (fun cA => nz_int cA 300) (by decide) (by decide) (by decide) (by decide) (by decide) d_T_init_8 (fun q8 c8 H hK hP hD hS => ?_)
  have hP : va_P D cls2 [(h, .inr (0, [.null, .int (nI 0), .int (nI 0), .null, .null, .null, .null, .null, .int (nI 0), .int (nI 0)])), (q8, .inl (c8, 300, .inl (fun _ => nI 0)))] H := hP
  have hD : va_D (va_A [(h, .inr (0, [.null, .int (nI 0), .int (nI 0), .null, .null, .null, .null, .null, .int (nI 0), .int (nI 0)]))] s.heap.size) [(h, .inr (0, [.null, .int (nI 0), .int (nI 0), .null, .null, .null, .null, .null, .int (nI 0), .int (nI 0)])), (q8, .inl (c8, 300, .inl (fun _ => nI 0)))] := hD
  have hK : va_K D cls2 [(c8, .int)] s := hK
  refine va_putF (D := D) (ci := 0) (v := .ref q8) (ty := .array .int) (C := RT) (T := FT) (N := 10) hx hb hw inT tT tT_ok nT hown hK hP hD hS 0 rfl rfl 0 (by decide) (hw _ kF_T_9) (fun _ h9 => h9) rfl hin rfl (by decide +kernel) rfl rfl (Nat.le_of_ble_eq_true rfl) d_T_init_10 (fun H locs hP hD hS => ?_)
  have hP : va_P D cls2 [(h, .inr (0, [.ref q8, .int (nI 0), .int (nI 0), .null, .null, .null, .null, .null, .int (nI 0), .int (nI 0)])), (q8, .inl (c8, 300, .inl (fun _ => nI 0)))] H := hP
  have hD : va_D (va_A [(h, .inr (0, [.null, .int (nI 0), .int (nI 0), .null, .null, .null, .null, .null, .int (nI 0), .int (nI 0)]))] s.heap.size) [(h, .inr (0, [.ref q8, .int (nI 0), .int (nI 0), .null, .null, .null, .null, .null, .int (nI 0), .int (nI 0)])), (q8, .inl (c8, 300, .inl (fun _ => nI 0)))] := hD
  refine lv_aload_n hx hb d_T_init_13 rfl (lv_at hl 0 rfl) ?_
  refine lv_bipush (v := nI 40) hx hb d_T_init_14 (by decide) ?_
  refine va_newa (atype := .int) (n := nI 40) (N' := 40) (a0 := (40, .inl (fun _ => nI 0))) hx hb (hw _ kA_int) rfl hK hP hD hS hA (fun cA => nz_int cA 40) (by decide) (by decide) (by decide) (by decide) (by decide) d_T_init_16 (fun q16 c16 H hK hP hD hS => ?_)
  have hc16 : c8 = c16 := va_same hK 0 1 rfl rfl
  subst hc16
  have hK : va_K D cls2 [(c8, .int)] s := hK.sub [0] rfl
  have hP : va_P D cls2 [(h, .inr (0, [.ref q8, .int (nI 0), .int (nI 0), .null, .null, .null, .null, .null, .int (nI 0), .int (nI 0)])), (q8, .inl (c8, 300, .inl (fun _ => nI 0))), (q16, .inl (c8, 40, .inl (fun _ => nI 0)))] H := hP
  have hD : va_D (va_A [(h, .inr (0, [.null, .int (nI 0), .int (nI 0), .null, .null, .null, .null, .null, .int (nI 0), .int (nI 0)]))] s.heap.size) [(h, .inr (0, [.ref q8, .int (nI 0), .int (nI 0), .null, .null, .null, .null, .null, .int (nI 0), .int (nI 0)])), (q8, .inl (c8, 300, .inl (fun _ => nI 0))), (q16, .inl (c8, 40, .inl (fun _ => nI 0)))] := hD
  have hK : va_K D cls2 [(c8, .int)] s := hK
  refine va_putF (D := D) (ci := 0) (v := .ref q16) (ty := .array .int) (C := RT) (T := FT) (N := 10) hx hb hw inT tT tT_ok nT hown hK hP hD hS 0 rfl rfl 3 (by decide) (hw _ kF_T_13) (fun _ h9 => h9) rfl hin rfl (by decide +kernel) rfl rfl (Nat.le_of_ble_eq_true rfl) d_T_init_18 (fun H locs hP hD hS => ?_)
  have hP : va_P D cls2 [(h, .inr (0, [.ref q8, .int (nI 0), .int (nI 0), .ref q16, .null, .null, .null, .null, .int (nI 0), .int (nI 0)])), (q8, .inl (c8, 300, .inl (fun _ => nI 0))), (q16, .inl (c8, 40, .inl (fun _ => nI 0)))] H := hP
  have hD : va_D (va_A [(h, .inr (0, [.null, .int (nI 0), .int (nI 0), .null, .null, .null, .null, .null, .int (nI 0), .int (nI 0)]))] s.heap.size) [(h, .inr (0, [.ref q8, .int (nI 0), .int (nI 0), .ref q16, .null, .null, .null, .null, .int (nI 0), .int (nI 0)])), (q8, .inl (c8, 300, .inl (fun _ => nI 0))), (q16, .inl (c8, 40, .inl (fun _ => nI 0)))] := hD
  refine lv_aload_n hx hb d_T_init_21 rfl (lv_at hl 0 rfl) ?_
  refine lv_bipush (v := nI 40) hx hb d_T_init_22 (by decide) ?_
  refine va_newa (atype := .int) (n := nI 40) (N' := 40) (a0 := (40, .inl (fun _ => nI 0))) hx hb (hw _ kA_int) rfl hK hP hD hS hA (fun cA => nz_int cA 40) (by decide) (by decide) (by decide) (by decide) (by decide) d_T_init_24 (fun q24 c24 H hK hP hD hS => ?_)
  have hc24 : c8 = c24 := va_same hK 0 1 rfl rfl
  subst hc24
  have hK : va_K D cls2 [(c8, .int)] s := hK.sub [0] rfl
  have hP : va_P D cls2 [(h, .inr (0, [.ref q8, .int (nI 0), .int (nI 0), .ref q16, .null, .null, .null, .null, .int (nI 0), .int (nI 0)])), (q8, .inl (c8, 300, .inl (fun _ => nI 0))), (q16, .inl (c8, 40, .inl (fun _ => nI 0))), (q24, .inl (c8, 40, .inl (fun _ => nI 0)))] H := hP
  have hD : va_D (va_A [(h, .inr (0, [.null, .int (nI 0), .int (nI 0), .null, .null, .null, .null, .null, .int (nI 0), .int (nI 0)]))] s.heap.size) [(h, .inr (0, [.ref q8, .int (nI 0), .int (nI 0), .ref q16, .null, .null, .null, .null, .int (nI 0), .int (nI 0)])), (q8, .inl (c8, 300, .inl (fun _ => nI 0))), (q16, .inl (c8, 40, .inl (fun _ => nI 0))), (q24, .inl (c8, 40, .inl (fun _ => nI 0)))] := hD
  have hK : va_K D cls2 [(c8, .int)] s := hK
  refine va_putF (D := D) (ci := 0) (v := .ref q24) (ty := .array .int) (C := RT) (T := FT) (N := 10) hx hb hw inT tT tT_ok nT hown hK hP hD hS 0 rfl rfl 4 (by decide) (hw _ kF_T_16) (fun _ h9 => h9) rfl hin rfl (by decide +kernel) rfl rfl (Nat.le_of_ble_eq_true rfl) d_T_init_26 (fun H locs hP hD hS => ?_)
  have hP : va_P D cls2 [(h, .inr (0, [.ref q8, .int (nI 0), .int (nI 0), .ref q16, .ref q24, .null, .null, .null, .int (nI 0), .int (nI 0)])), (q8, .inl (c8, 300, .inl (fun _ => nI 0))), (q16, .inl (c8, 40, .inl (fun _ => nI 0))), (q24, .inl (c8, 40, .inl (fun _ => nI 0)))] H := hP
  have hD : va_D (va_A [(h, .inr (0, [.null, .int (nI 0), .int (nI 0), .null, .null, .null, .null, .null, .int (nI 0), .int (nI 0)]))] s.heap.size) [(h, .inr (0, [.ref q8, .int (nI 0), .int (nI 0), .ref q16, .ref q24, .null, .null, .null, .int (nI 0), .int (nI 0)])), (q8, .inl (c8, 300, .inl (fun _ => nI 0))), (q16, .inl (c8, 40, .inl (fun _ => nI 0))), (q24, .inl (c8, 40, .inl (fun _ => nI 0)))] := hD
  refine lv_aload_n hx hb d_T_init_29 rfl (lv_at hl 0 rfl) ?_
  refine lv_bipush (v := nI 40) hx hb d_T_init_30 (by decide) ?_
  refine va_newa (atype := .int) (n := nI 40) (N' := 40) (a0 := (40, .inl (fun _ => nI 0))) hx hb (hw _ kA_int) rfl hK hP hD hS hA (fun cA => nz_int cA 40) (by decide) (by decide) (by decide) (by decide) (by decide) d_T_init_32 (fun q32 c32 H hK hP hD hS => ?_)
  have hc32 : c8 = c32 := va_same hK 0 1 rfl rfl
  subst hc32
  have hK : va_K D cls2 [(c8, .int)] s := hK.sub [0] rfl
  have hP : va_P D cls2 [(h, .inr (0, [.ref q8, .int (nI 0), .int (nI 0), .ref q16, .ref q24, .null, .null, .null, .int (nI 0), .int (nI 0)])), (q8, .inl (c8, 300, .inl (fun _ => nI 0))), (q16, .inl (c8, 40, .inl (fun _ => nI 0))), (q24, .inl (c8, 40, .inl (fun _ => nI 0))), (q32, .inl (c8, 40, .inl (fun _ => nI 0)))] H := hP
  have hD : va_D (va_A [(h, .inr (0, [.null, .int (nI 0), .int (nI 0), .null, .null, .null, .null, .null, .int (nI 0), .int (nI 0)]))] s.heap.size) [(h, .inr (0, [.ref q8, .int (nI 0), .int (nI 0), .ref q16, .ref q24, .null, .null, .null, .int (nI 0), .int (nI 0)])), (q8, .inl (c8, 300, .inl (fun _ => nI 0))), (q16, .inl (c8, 40, .inl (fun _ => nI 0))), (q24, .inl (c8, 40, .inl (fun _ => nI 0))), (q32, .inl (c8, 40, .inl (fun _ => nI 0)))] := hD
  have hK : va_K D cls2 [(c8, .int)] s := hK
  refine va_putF (D := D) (ci := 0) (v := .ref q32) (ty := .array .int) (C := RT) (T := FT) (N := 10) hx hb hw inT tT tT_ok nT hown hK hP hD hS 0 rfl rfl 5 (by decide) (hw _ kF_T_19) (fun _ h9 => h9) rfl hin rfl (by decide +kernel) rfl rfl (Nat.le_of_ble_eq_true rfl) d_T_init_34 (fun H locs hP hD hS => ?_)
  have hP : va_P D cls2 [(h, .inr (0, [.ref q8, .int (nI 0), .int (nI 0), .ref q16, .ref q24, .ref q32, .null, .null, .int (nI 0), .int (nI 0)])), (q8, .inl (c8, 300, .inl (fun _ => nI 0))), (q16, .inl (c8, 40, .inl (fun _ => nI 0))), (q24, .inl (c8, 40, .inl (fun _ => nI 0))), (q32, .inl (c8, 40, .inl (fun _ => nI 0)))] H := hP
  have hD : va_D (va_A [(h, .inr (0, [.null, .int (nI 0), .int (nI 0), .null, .null, .null, .null, .null, .int (nI 0), .int (nI 0)]))] s.heap.size) [(h, .inr (0, [.ref q8, .int (nI 0), .int (nI 0), .ref q16, .ref q24, .ref q32, .null, .null, .int (nI 0), .int (nI 0)])), (q8, .inl (c8, 300, .inl (fun _ => nI 0))), (q16, .inl (c8, 40, .inl (fun _ => nI 0))), (q24, .inl (c8, 40, .inl (fun _ => nI 0))), (q32, .inl (c8, 40, .inl (fun _ => nI 0)))] := hD
  refine lv_aload_n hx hb d_T_init_37 rfl (lv_at hl 0 rfl) ?_
  refine lv_bipush (v := nI 40) hx hb d_T_init_38 (by decide) ?_
  refine va_newa (atype := .int) (n := nI 40) (N' := 40) (a0 := (40, .inl (fun _ => nI 0))) hx hb (hw _ kA_int) rfl hK hP hD hS hA (fun cA => nz_int cA 40) (by decide) (by decide) (by decide) (by decide) (by decide) d_T_init_40 (fun q40 c40 H hK hP hD hS => ?_)
  have hc40 : c8 = c40 := va_same hK 0 1 rfl rfl
  subst hc40
  have hK : va_K D cls2 [(c8, .int)] s := hK.sub [0] rfl
  have hP : va_P D cls2 [(h, .inr (0, [.ref q8, .int (nI 0), .int (nI 0), .ref q16, .ref q24, .ref q32, .null, .null, .int (nI 0), .int (nI 0)])), (q8, .inl (c8, 300, .inl (fun _ => nI 0))), (q16, .inl (c8, 40, .inl (fun _ => nI 0))), (q24, .inl (c8, 40, .inl (fun _ => nI 0))), (q32, .inl (c8, 40, .inl (fun _ => nI 0))), (q40, .inl (c8, 40, .inl (fun _ => nI 0)))] H := hP
  have hD : va_D (va_A [(h, .inr (0, [.null, .int (nI 0), .int (nI 0), .null, .null, .null, .null, .null, .int (nI 0), .int (nI 0)]))] s.heap.size) [(h, .inr (0, [.ref q8, .int (nI 0), .int (nI 0), .ref q16, .ref q24, .ref q32, .null, .null, .int (nI 0), .int (nI 0)])), (q8, .inl (c8, 300, .inl (fun _ => nI 0))), (q16, .inl (c8, 40, .inl (fun _ => nI 0))), (q24, .inl (c8, 40, .inl (fun _ => nI 0))), (q32, .inl (c8, 40, .inl (fun _ => nI 0))), (q40, .inl (c8, 40, .inl (fun _ => nI 0)))] := hD
  have hK : va_K D cls2 [(c8, .int)] s := hK
  refine va_putF (D := D) (ci := 0) (v := .ref q40) (ty := .array .int) (C := RT) (T := FT) (N := 10) hx hb hw inT tT tT_ok nT hown hK hP hD hS 0 rfl rfl 6 (by decide) (hw _ kF_T_22) (fun _ h9 => h9) rfl hin rfl (by decide +kernel) rfl rfl (Nat.le_of_ble_eq_true rfl) d_T_init_42 (fun H locs hP hD hS => ?_)
  have hP : va_P D cls2 [(h, .inr (0, [.ref q8, .int (nI 0), .int (nI 0), .ref q16, .ref q24, .ref q32, .ref q40, .null, .int (nI 0), .int (nI 0)])), (q8, .inl (c8, 300, .inl (fun _ => nI 0))), (q16, .inl (c8, 40, .inl (fun _ => nI 0))), (q24, .inl (c8, 40, .inl (fun _ => nI 0))), (q32, .inl (c8, 40, .inl (fun _ => nI 0))), (q40, .inl (c8, 40, .inl (fun _ => nI 0)))] H := hP
  have hD : va_D (va_A [(h, .inr (0, [.null, .int (nI 0), .int (nI 0), .null, .null, .null, .null, .null, .int (nI 0), .int (nI 0)]))] s.heap.size) [(h, .inr (0, [.ref q8, .int (nI 0), .int (nI 0), .ref q16, .ref q24, .ref q32, .ref q40, .null, .int (nI 0), .int (nI 0)])), (q8, .inl (c8, 300, .inl (fun _ => nI 0))), (q16, .inl (c8, 40, .inl (fun _ => nI 0))), (q24, .inl (c8, 40, .inl (fun _ => nI 0))), (q32, .inl (c8, 40, .inl (fun _ => nI 0))), (q40, .inl (c8, 40, .inl (fun _ => nI 0)))] := hD
  refine lv_aload_n hx hb d_T_init_45 rfl (lv_at hl 0 rfl) ?_
  refine lv_bipush (v := nI 40) hx hb d_T_init_46 (by decide) ?_
  refine va_newa (atype := .boolean) (n := nI 40) (N' := 40) (a0 := (40, .inl (fun _ => nI 0))) hx hb (hw _ kA_boolean) rfl hK hP hD hS hA (fun cA => nz_boolean cA 40) (by decide) (by decide) (by decide) (by decide) (by decide) d_T_init_48 (fun q48 c48 H hK hP hD hS => ?_)
  have hP : va_P D cls2 [(h, .inr (0, [.ref q8, .int (nI 0), .int (nI 0), .ref q16, .ref q24, .ref q32, .ref q40, .null, .int (nI 0), .int (nI 0)])), (q8, .inl (c8, 300, .inl (fun _ => nI 0))), (q16, .inl (c8, 40, .inl (fun _ => nI 0))), (q24, .inl (c8, 40, .inl (fun _ => nI 0))), (q32, .inl (c8, 40, .inl (fun _ => nI 0))), (q40, .inl (c8, 40, .inl (fun _ => nI 0))), (q48, .inl (c48, 40, .inl (fun _ => nI 0)))] H := hP
  have hD : va_D (va_A [(h, .inr (0, [.null, .int (nI 0), .int (nI 0), .null, .null, .null, .null, .null, .int (nI 0), .int (nI 0)]))] s.heap.size) [(h, .inr (0, [.ref q8, .int (nI 0), .int (nI 0), .ref q16, .ref q24, .ref q32, .ref q40, .null, .int (nI 0), .int (nI 0)])), (q8, .inl (c8, 300, .inl (fun _ => nI 0))), (q16, .inl (c8, 40, .inl (fun _ => nI 0))), (q24, .inl (c8, 40, .inl (fun _ => nI 0))), (q32, .inl (c8, 40, .inl (fun _ => nI 0))), (q40, .inl (c8, 40, .inl (fun _ => nI 0))), (q48, .inl (c48, 40, .inl (fun _ => nI 0)))] := hD
  have hK : va_K D cls2 [(c8, .int), (c48, .boolean)] s := hK
  refine va_putF (D := D) (ci := 0) (v := .ref q48) (ty := .array .boolean) (C := RT) (T := FT) (N := 10) hx hb hw inT tT tT_ok nT hown hK hP hD hS 0 rfl rfl 7 (by decide) (hw _ kF_T_25) (fun _ h9 => h9) rfl hin rfl (by decide +kernel) rfl rfl (Nat.le_of_ble_eq_true rfl) d_T_init_50 (fun H locs hP hD hS => ?_)
  have hP : va_P D cls2 [(h, .inr (0, [.ref q8, .int (nI 0), .int (nI 0), .ref q16, .ref q24, .ref q32, .ref q40, .ref q48, .int (nI 0), .int (nI 0)])), (q8, .inl (c8, 300, .inl (fun _ => nI 0))), (q16, .inl (c8, 40, .inl (fun _ => nI 0))), (q24, .inl (c8, 40, .inl (fun _ => nI 0))), (q32, .inl (c8, 40, .inl (fun _ => nI 0))), (q40, .inl (c8, 40, .inl (fun _ => nI 0))), (q48, .inl (c48, 40, .inl (fun _ => nI 0)))] H := hP
  have hD : va_D (va_A [(h, .inr (0, [.null, .int (nI 0), .int (nI 0), .null, .null, .null, .null, .null, .int (nI 0), .int (nI 0)]))] s.heap.size) [(h, .inr (0, [.ref q8, .int (nI 0), .int (nI 0), .ref q16, .ref q24, .ref q32, .ref q40, .ref q48, .int (nI 0), .int (nI 0)])), (q8, .inl (c8, 300, .inl (fun _ => nI 0))), (q16, .inl (c8, 40, .inl (fun _ => nI 0))), (q24, .inl (c8, 40, .inl (fun _ => nI 0))), (q32, .inl (c8, 40, .inl (fun _ => nI 0))), (q40, .inl (c8, 40, .inl (fun _ => nI 0))), (q48, .inl (c48, 40, .inl (fun _ => nI 0)))] := hD
  have hP : va_P D cls2 (wT (zfT h q8 q16 q24 q32 q40 q48) c8 c48 (fun _ => 0) (fun _ => 0) (fun _ => 0) (fun _ => 0) (fun _ => 0) (fun _ => 0) 0 0 0 0) H := hP
  have hD : va_D (va_A [(h, .inr (0, [.null, .int (nI 0), .int (nI 0), .null, .null, .null, .null, .null, .int (nI 0), .int (nI 0)]))] s.heap.size) (wT (zfT h q8 q16 q24 q32 q40 q48) c8 c48 (fun _ => 0) (fun _ => 0) (fun _ => 0) (fun _ => 0) (fun _ => 0) (fun _ => 0) 0 0 0 0) := hD
  refine lv_aload_n hx hb d_T_init_53 rfl (lv_at hl 0 rfl) ?_
  refine lv_iconst (v := nI 0) hx hb d_T_init_54 (by decide) ?_
  refine cl_w (v := none) hD hS hA (W.runV (b := h) (C := "TypeStack") (As := [.int (nI 0)]) (rest := []) ⟨hx, hb, hml, hown, hw⟩ (c_T_startAnew l D (zfT h q8 q16 q24 q32 q40 q48) c8 c48 (fun _ => 0) (fun _ => 0) (fun _ => 0) (fun _ => 0) (fun _ => 0) (fun _ => 0) 0 0 0 0 0 H.size) (cwV 1 hw g_T_29 rfl rfl rfl ⟨rfl, by decide, by decide, by decide +kernel⟩ ⟨by decide, by decide⟩) ⟨PW.blind, va_recv (q := (RT, FT, 10)) (ci := 0) (q0 := 0) hK hP rfl rfl, PW.pre hP hK hD hS hA hE⟩ rfl rfl hl.1 rfl (lv_room (Nat.le_of_ble_eq_true rfl)) d_T_init_55 ⟨Nat.le_of_ble_eq_true rfl, Nat.le_of_ble_eq_true rfl⟩) (fun H locs hP hD hS => ?_)
  refine W.widen (k := 6) (n := 500) (Nat.le_of_ble_eq_true rfl) (Nat.le_of_ble_eq_true rfl) ?_
  exact W.vret hx hb hrt (fun t ht hW => ⟨⟨(zfT h q8 q16 q24 q32 q40 q48), c8, c48, rfl, rfl, by rw [ht]; exact hP, va_K.moved hW.alike hK, hD⟩, hS.F ht⟩) hS.2.2 d_T_init_58
set_option maxHeartbeats 600000 in
set_option maxRecDepth 100000 in
theorem c_M_init (l : Launch) (D : va_G) (cI cZ : ClassId) (h sz : Nat) : Met l y_M_init w_M_init ({ frames := 3, cells := 7, slots := 1005, locals := 120 }) (PW D [(cI, .int), (cZ, .boolean)] [(h, .inr (1, [.int (nI 0), .null, .null, .null, .null, .null, .null, .int (nI 0), .int (nI 0), .int (nI 0), .int (nI 0), .null, .int (nI 0), .int (nI 0), .int (nI 0)]))] sz [.ref h]) (fun _ st o t => (∃ z : Nat → Nat, z 0 = h ∧ o = .returned none ∧ va_P D cls2 (wM z cI cZ (fun _ => 0) (va_up (fun _ => 0) 0 0) (va_up (fun _ => 0) 0 0) (va_up (fun _ => 0) 0 0) (va_up (fun _ => 0) 0 0) (va_up (fun _ => 0) 0 0) (fun _ => 0) 0 0 1 0 0 0 0 0) t.heap ∧ va_D (va_A [(h, .inr (1, [.int (nI 0), .null, .null, .null, .null, .null, .null, .int (nI 0), .int (nI 0), .int (nI 0), .int (nI 0), .null, .int (nI 0), .int (nI 0), .int (nI 0)]))] sz) (wM z cI cZ (fun _ => 0) (va_up (fun _ => 0) 0 0) (va_up (fun _ => 0) 0 0) (va_up (fun _ => 0) 0 0) (va_up (fun _ => 0) 0 0) (va_up (fun _ => 0) 0 0) (fun _ => 0) 0 0 1 0 0 0 0 0)) ∧ va_F (va_A [(h, .inr (1, [.int (nI 0), .null, .null, .null, .null, .null, .null, .int (nI 0), .int (nI 0), .int (nI 0), .int (nI 0), .null, .int (nI 0), .int (nI 0), .int (nI 0)]))] sz) st t) 7 1005 (va_A [(h, .inr (1, [.int (nI 0), .null, .null, .null, .null, .null, .null, .int (nI 0), .int (nI 0), .int (nI 0), .int (nI 0), .null, .int (nI 0), .int (nI 0), .int (nI 0)]))] sz) := by
  refine Met.ofW (cc := b_M_init) (maxL := 1) (ret := none) (by decide) rfl ?_
  intro p e s m args below meth c s₁ B hml hv
  obtain ⟨rfl, hsz, hP, hK, hD0, hE⟩ := hv
  have hx := B.exec
  have hb := B.bytes
  have hrt := B.returns
  have hts := atoms_spec (ws := w_M_init) B.pre
  have hw : ∀ w ∈ bw, w.before ([.ref h] : List Value).toArray s = true := fun w h => hts w (List.mem_cons_of_mem _ h)
  have hown : s.vm.findClass "TypeStackModel" = some m.cls := findClass_of_methodNamed B.named
  have hlocks := B.notSynchronized
  have hin : meth.name = "<init>" := (name_of_methodNamed B.named B.method).1
  subst hsz
  have hD := hD0.self (sz := s.heap.size)
  have hA : ∀ q : Nat, s.heap.size ≤ q → va_A [(h, .inr (1, [.int (nI 0), .null, .null, .null, .null, .null, .null, .int (nI 0), .int (nI 0), .int (nI 0), .int (nI 0), .null, .int (nI 0), .int (nI 0), .int (nI 0)]))] s.heap.size q := fun q h => Or.inr h
  have hS : va_S (va_A [(h, .inr (1, [.int (nI 0), .null, .null, .null, .null, .null, .null, .int (nI 0), .int (nI 0), .int (nI 0), .int (nI 0), .null, .int (nI 0), .int (nI 0), .int (nI 0)]))] s.heap.size) s.heap s.heap [] := va_S.rf
  have hl := lv_entry ([.ref h]) (n := 1) (Nat.le_of_ble_eq_true rfl)
  rw [lg_entry_eq]
  generalize (lg_sl ([.ref h]) ++ List.replicate (1 - (lg_sl ([.ref h])).length) Slot.unset).toArray = ls at hl ⊢
  have hl : lv_has ls 1 [(0, .ref h)] := hl
  refine lv_aload_n hx hb d_M_init_0 rfl (lv_at hl 0 rfl) ?_
  refine W.objInit hx hb hown (hw _ kL_M_1) (hw _ kI_obj) (hw _ kW_obj) rfl (by rw [hml]; exact hl.1) rfl d_M_init_1 (Nat.le_of_ble_eq_true rfl) (Nat.le_of_ble_eq_true rfl) ?_
  refine W.eq (g2 := F0 m 4 ls []) rfl ?_
  refine lv_aload_n hx hb d_M_init_4 rfl (lv_at hl 0 rfl) ?_
  refine lv_sipush (v := nI 400) hx hb d_M_init_5 (by decide) ?_
  refine va_newa (atype := .int) (n := nI 400) (N' := 400) (a0 := (400, .inl (fun _ => nI 0))) hx hb (hw _ kA_int) rfl hK hP hD hS hA (fun cA => nz_int cA 400) (by decide) (by decide) (by decide) (by decide) (by decide) d_M_init_8 (fun q8 c8 H hK hP hD hS => ?_)
  have hc8 : cI = c8 := va_same hK 0 2 rfl rfl
  subst hc8
  have hK : va_K D cls2 [(cI, .int), (cZ, .boolean)] s := hK.sub [0, 1] rfl
  have hP : va_P D cls2 [(h, .inr (1, [.int (nI 0), .null, .null, .null, .null, .null, .null, .int (nI 0), .int (nI 0), .int (nI 0), .int (nI 0), .null, .int (nI 0), .int (nI 0), .int (nI 0)])), (q8, .inl (cI, 400, .inl (fun _ => nI 0)))] H := hP
  have hD : va_D (va_A [(h, .inr (1, [.int (nI 0), .null, .null, .null, .null, .null, .null, .int (nI 0), .int (nI 0), .int (nI 0), .int (nI 0), .null, .int (nI 0), .int (nI 0), .int (nI 0)]))] s.heap.size) [(h, .inr (1, [.int (nI 0), .null, .null, .null, .null, .null, .null, .int (nI 0), .int (nI 0), .int (nI 0), .int (nI 0), .null, .int (nI 0), .int (nI 0), .int (nI 0)])), (q8, .inl (cI, 400, .inl (fun _ => nI 0)))] := hD
  have hK : va_K D cls2 [(cI, .int), (cZ, .boolean)] s := hK
  refine va_putF (D := D) (ci := 1) (v := .ref q8) (ty := .array .int) (C := RM) (T := FM) (N := 15) hx hb hw inM tM tM_ok nM hown hK hP hD hS 0 rfl rfl 1 (by decide) (hw _ kF_M_9) (fun _ h9 => h9) rfl hin rfl (by decide +kernel) rfl rfl (Nat.le_of_ble_eq_true rfl) d_M_init_10 (fun H locs hP hD hS => ?_)
  have hP : va_P D cls2 [(h, .inr (1, [.int (nI 0), .ref q8, .null, .null, .null, .null, .null, .int (nI 0), .int (nI 0), .int (nI 0), .int (nI 0), .null, .int (nI 0), .int (nI 0), .int (nI 0)])), (q8, .inl (cI, 400, .inl (fun _ => nI 0)))] H := hP
  have hD : va_D (va_A [(h, .inr (1, [.int (nI 0), .null, .null, .null, .null, .null, .null, .int (nI 0), .int (nI 0), .int (nI 0), .int (nI 0), .null, .int (nI 0), .int (nI 0), .int (nI 0)]))] s.heap.size) [(h, .inr (1, [.int (nI 0), .ref q8, .null, .null, .null, .null, .null, .int (nI 0), .int (nI 0), .int (nI 0), .int (nI 0), .null, .int (nI 0), .int (nI 0), .int (nI 0)])), (q8, .inl (cI, 400, .inl (fun _ => nI 0)))] := hD
  refine lv_aload_n hx hb d_M_init_13 rfl (lv_at hl 0 rfl) ?_
  refine lv_bipush (v := nI 41) hx hb d_M_init_14 (by decide) ?_
  refine va_newa (atype := .int) (n := nI 41) (N' := 41) (a0 := (41, .inl (fun _ => nI 0))) hx hb (hw _ kA_int) rfl hK hP hD hS hA (fun cA => nz_int cA 41) (by decide) (by decide) (by decide) (by decide) (by decide) d_M_init_16 (fun q16 c16 H hK hP hD hS => ?_)
  have hc16 : cI = c16 := va_same hK 0 2 rfl rfl
  subst hc16
  have hK : va_K D cls2 [(cI, .int), (cZ, .boolean)] s := hK.sub [0, 1] rfl
  have hP : va_P D cls2 [(h, .inr (1, [.int (nI 0), .ref q8, .null, .null, .null, .null, .null, .int (nI 0), .int (nI 0), .int (nI 0), .int (nI 0), .null, .int (nI 0), .int (nI 0), .int (nI 0)])), (q8, .inl (cI, 400, .inl (fun _ => nI 0))), (q16, .inl (cI, 41, .inl (fun _ => nI 0)))] H := hP
  have hD : va_D (va_A [(h, .inr (1, [.int (nI 0), .null, .null, .null, .null, .null, .null, .int (nI 0), .int (nI 0), .int (nI 0), .int (nI 0), .null, .int (nI 0), .int (nI 0), .int (nI 0)]))] s.heap.size) [(h, .inr (1, [.int (nI 0), .ref q8, .null, .null, .null, .null, .null, .int (nI 0), .int (nI 0), .int (nI 0), .int (nI 0), .null, .int (nI 0), .int (nI 0), .int (nI 0)])), (q8, .inl (cI, 400, .inl (fun _ => nI 0))), (q16, .inl (cI, 41, .inl (fun _ => nI 0)))] := hD
  have hK : va_K D cls2 [(cI, .int), (cZ, .boolean)] s := hK
  refine va_putF (D := D) (ci := 1) (v := .ref q16) (ty := .array .int) (C := RM) (T := FM) (N := 15) hx hb hw inM tM tM_ok nM hown hK hP hD hS 0 rfl rfl 2 (by decide) (hw _ kF_M_13) (fun _ h9 => h9) rfl hin rfl (by decide +kernel) rfl rfl (Nat.le_of_ble_eq_true rfl) d_M_init_18 (fun H locs hP hD hS => ?_)
  have hP : va_P D cls2 [(h, .inr (1, [.int (nI 0), .ref q8, .ref q16, .null, .null, .null, .null, .int (nI 0), .int (nI 0), .int (nI 0), .int (nI 0), .null, .int (nI 0), .int (nI 0), .int (nI 0)])), (q8, .inl (cI, 400, .inl (fun _ => nI 0))), (q16, .inl (cI, 41, .inl (fun _ => nI 0)))] H := hP
  have hD : va_D (va_A [(h, .inr (1, [.int (nI 0), .null, .null, .null, .null, .null, .null, .int (nI 0), .int (nI 0), .int (nI 0), .int (nI 0), .null, .int (nI 0), .int (nI 0), .int (nI 0)]))] s.heap.size) [(h, .inr (1, [.int (nI 0), .ref q8, .ref q16, .null, .null, .null, .null, .int (nI 0), .int (nI 0), .int (nI 0), .int (nI 0), .null, .int (nI 0), .int (nI 0), .int (nI 0)])), (q8, .inl (cI, 400, .inl (fun _ => nI 0))), (q16, .inl (cI, 41, .inl (fun _ => nI 0)))] := hD
  refine lv_aload_n hx hb d_M_init_21 rfl (lv_at hl 0 rfl) ?_
  refine lv_bipush (v := nI 41) hx hb d_M_init_22 (by decide) ?_
  refine va_newa (atype := .int) (n := nI 41) (N' := 41) (a0 := (41, .inl (fun _ => nI 0))) hx hb (hw _ kA_int) rfl hK hP hD hS hA (fun cA => nz_int cA 41) (by decide) (by decide) (by decide) (by decide) (by decide) d_M_init_24 (fun q24 c24 H hK hP hD hS => ?_)
  have hc24 : cI = c24 := va_same hK 0 2 rfl rfl
  subst hc24
  have hK : va_K D cls2 [(cI, .int), (cZ, .boolean)] s := hK.sub [0, 1] rfl
  have hP : va_P D cls2 [(h, .inr (1, [.int (nI 0), .ref q8, .ref q16, .null, .null, .null, .null, .int (nI 0), .int (nI 0), .int (nI 0), .int (nI 0), .null, .int (nI 0), .int (nI 0), .int (nI 0)])), (q8, .inl (cI, 400, .inl (fun _ => nI 0))), (q16, .inl (cI, 41, .inl (fun _ => nI 0))), (q24, .inl (cI, 41, .inl (fun _ => nI 0)))] H := hP
  have hD : va_D (va_A [(h, .inr (1, [.int (nI 0), .null, .null, .null, .null, .null, .null, .int (nI 0), .int (nI 0), .int (nI 0), .int (nI 0), .null, .int (nI 0), .int (nI 0), .int (nI 0)]))] s.heap.size) [(h, .inr (1, [.int (nI 0), .ref q8, .ref q16, .null, .null, .null, .null, .int (nI 0), .int (nI 0), .int (nI 0), .int (nI 0), .null, .int (nI 0), .int (nI 0), .int (nI 0)])), (q8, .inl (cI, 400, .inl (fun _ => nI 0))), (q16, .inl (cI, 41, .inl (fun _ => nI 0))), (q24, .inl (cI, 41, .inl (fun _ => nI 0)))] := hD
  have hK : va_K D cls2 [(cI, .int), (cZ, .boolean)] s := hK
  refine va_putF (D := D) (ci := 1) (v := .ref q24) (ty := .array .int) (C := RM) (T := FM) (N := 15) hx hb hw inM tM tM_ok nM hown hK hP hD hS 0 rfl rfl 3 (by decide) (hw _ kF_M_16) (fun _ h9 => h9) rfl hin rfl (by decide +kernel) rfl rfl (Nat.le_of_ble_eq_true rfl) d_M_init_26 (fun H locs hP hD hS => ?_)
  have hP : va_P D cls2 [(h, .inr (1, [.int (nI 0), .ref q8, .ref q16, .ref q24, .null, .null, .null, .int (nI 0), .int (nI 0), .int (nI 0), .int (nI 0), .null, .int (nI 0), .int (nI 0), .int (nI 0)])), (q8, .inl (cI, 400, .inl (fun _ => nI 0))), (q16, .inl (cI, 41, .inl (fun _ => nI 0))), (q24, .inl (cI, 41, .inl (fun _ => nI 0)))] H := hP
  have hD : va_D (va_A [(h, .inr (1, [.int (nI 0), .null, .null, .null, .null, .null, .null, .int (nI 0), .int (nI 0), .int (nI 0), .int (nI 0), .null, .int (nI 0), .int (nI 0), .int (nI 0)]))] s.heap.size) [(h, .inr (1, [.int (nI 0), .ref q8, .ref q16, .ref q24, .null, .null, .null, .int (nI 0), .int (nI 0), .int (nI 0), .int (nI 0), .null, .int (nI 0), .int (nI 0), .int (nI 0)])), (q8, .inl (cI, 400, .inl (fun _ => nI 0))), (q16, .inl (cI, 41, .inl (fun _ => nI 0))), (q24, .inl (cI, 41, .inl (fun _ => nI 0)))] := hD
  refine lv_aload_n hx hb d_M_init_29 rfl (lv_at hl 0 rfl) ?_
  refine lv_bipush (v := nI 41) hx hb d_M_init_30 (by decide) ?_
  refine va_newa (atype := .int) (n := nI 41) (N' := 41) (a0 := (41, .inl (fun _ => nI 0))) hx hb (hw _ kA_int) rfl hK hP hD hS hA (fun cA => nz_int cA 41) (by decide) (by decide) (by decide) (by decide) (by decide) d_M_init_32 (fun q32 c32 H hK hP hD hS => ?_)
  have hc32 : cI = c32 := va_same hK 0 2 rfl rfl
  subst hc32
  have hK : va_K D cls2 [(cI, .int), (cZ, .boolean)] s := hK.sub [0, 1] rfl
  have hP : va_P D cls2 [(h, .inr (1, [.int (nI 0), .ref q8, .ref q16, .ref q24, .null, .null, .null, .int (nI 0), .int (nI 0), .int (nI 0), .int (nI 0), .null, .int (nI 0), .int (nI 0), .int (nI 0)])), (q8, .inl (cI, 400, .inl (fun _ => nI 0))), (q16, .inl (cI, 41, .inl (fun _ => nI 0))), (q24, .inl (cI, 41, .inl (fun _ => nI 0))), (q32, .inl (cI, 41, .inl (fun _ => nI 0)))] H := hP
  have hD : va_D (va_A [(h, .inr (1, [.int (nI 0), .null, .null, .null, .null, .null, .null, .int (nI 0), .int (nI 0), .int (nI 0), .int (nI 0), .null, .int (nI 0), .int (nI 0), .int (nI 0)]))] s.heap.size) [(h, .inr (1, [.int (nI 0), .ref q8, .ref q16, .ref q24, .null, .null, .null, .int (nI 0), .int (nI 0), .int (nI 0), .int (nI 0), .null, .int (nI 0), .int (nI 0), .int (nI 0)])), (q8, .inl (cI, 400, .inl (fun _ => nI 0))), (q16, .inl (cI, 41, .inl (fun _ => nI 0))), (q24, .inl (cI, 41, .inl (fun _ => nI 0))), (q32, .inl (cI, 41, .inl (fun _ => nI 0)))] := hD
  have hK : va_K D cls2 [(cI, .int), (cZ, .boolean)] s := hK
  refine va_putF (D := D) (ci := 1) (v := .ref q32) (ty := .array .int) (C := RM) (T := FM) (N := 15) hx hb hw inM tM tM_ok nM hown hK hP hD hS 0 rfl rfl 4 (by decide) (hw _ kF_M_19) (fun _ h9 => h9) rfl hin rfl (by decide +kernel) rfl rfl (Nat.le_of_ble_eq_true rfl) d_M_init_34 (fun H locs hP hD hS => ?_)
  have hP : va_P D cls2 [(h, .inr (1, [.int (nI 0), .ref q8, .ref q16, .ref q24, .ref q32, .null, .null, .int (nI 0), .int (nI 0), .int (nI 0), .int (nI 0), .null, .int (nI 0), .int (nI 0), .int (nI 0)])), (q8, .inl (cI, 400, .inl (fun _ => nI 0))), (q16, .inl (cI, 41, .inl (fun _ => nI 0))), (q24, .inl (cI, 41, .inl (fun _ => nI 0))), (q32, .inl (cI, 41, .inl (fun _ => nI 0)))] H := hP
  have hD : va_D (va_A [(h, .inr (1, [.int (nI 0), .null, .null, .null, .null, .null, .null, .int (nI 0), .int (nI 0), .int (nI 0), .int (nI 0), .null, .int (nI 0), .int (nI 0), .int (nI 0)]))] s.heap.size) [(h, .inr (1, [.int (nI 0), .ref q8, .ref q16, .ref q24, .ref q32, .null, .null, .int (nI 0), .int (nI 0), .int (nI 0), .int (nI 0), .null, .int (nI 0), .int (nI 0), .int (nI 0)])), (q8, .inl (cI, 400, .inl (fun _ => nI 0))), (q16, .inl (cI, 41, .inl (fun _ => nI 0))), (q24, .inl (cI, 41, .inl (fun _ => nI 0))), (q32, .inl (cI, 41, .inl (fun _ => nI 0)))] := hD
  refine lv_aload_n hx hb d_M_init_37 rfl (lv_at hl 0 rfl) ?_
  refine lv_bipush (v := nI 41) hx hb d_M_init_38 (by decide) ?_
  refine va_newa (atype := .int) (n := nI 41) (N' := 41) (a0 := (41, .inl (fun _ => nI 0))) hx hb (hw _ kA_int) rfl hK hP hD hS hA (fun cA => nz_int cA 41) (by decide) (by decide) (by decide) (by decide) (by decide) d_M_init_40 (fun q40 c40 H hK hP hD hS => ?_)
  have hc40 : cI = c40 := va_same hK 0 2 rfl rfl
  subst hc40
  have hK : va_K D cls2 [(cI, .int), (cZ, .boolean)] s := hK.sub [0, 1] rfl
  have hP : va_P D cls2 [(h, .inr (1, [.int (nI 0), .ref q8, .ref q16, .ref q24, .ref q32, .null, .null, .int (nI 0), .int (nI 0), .int (nI 0), .int (nI 0), .null, .int (nI 0), .int (nI 0), .int (nI 0)])), (q8, .inl (cI, 400, .inl (fun _ => nI 0))), (q16, .inl (cI, 41, .inl (fun _ => nI 0))), (q24, .inl (cI, 41, .inl (fun _ => nI 0))), (q32, .inl (cI, 41, .inl (fun _ => nI 0))), (q40, .inl (cI, 41, .inl (fun _ => nI 0)))] H := hP
  have hD : va_D (va_A [(h, .inr (1, [.int (nI 0), .null, .null, .null, .null, .null, .null, .int (nI 0), .int (nI 0), .int (nI 0), .int (nI 0), .null, .int (nI 0), .int (nI 0), .int (nI 0)]))] s.heap.size) [(h, .inr (1, [.int (nI 0), .ref q8, .ref q16, .ref q24, .ref q32, .null, .null, .int (nI 0), .int (nI 0), .int (nI 0), .int (nI 0), .null, .int (nI 0), .int (nI 0), .int (nI 0)])), (q8, .inl (cI, 400, .inl (fun _ => nI 0))), (q16, .inl (cI, 41, .inl (fun _ => nI 0))), (q24, .inl (cI, 41, .inl (fun _ => nI 0))), (q32, .inl (cI, 41, .inl (fun _ => nI 0))), (q40, .inl (cI, 41, .inl (fun _ => nI 0)))] := hD
  have hK : va_K D cls2 [(cI, .int), (cZ, .boolean)] s := hK
  refine va_putF (D := D) (ci := 1) (v := .ref q40) (ty := .array .int) (C := RM) (T := FM) (N := 15) hx hb hw inM tM tM_ok nM hown hK hP hD hS 0 rfl rfl 5 (by decide) (hw _ kF_M_22) (fun _ h9 => h9) rfl hin rfl (by decide +kernel) rfl rfl (Nat.le_of_ble_eq_true rfl) d_M_init_42 (fun H locs hP hD hS => ?_)
  have hP : va_P D cls2 [(h, .inr (1, [.int (nI 0), .ref q8, .ref q16, .ref q24, .ref q32, .ref q40, .null, .int (nI 0), .int (nI 0), .int (nI 0), .int (nI 0), .null, .int (nI 0), .int (nI 0), .int (nI 0)])), (q8, .inl (cI, 400, .inl (fun _ => nI 0))), (q16, .inl (cI, 41, .inl (fun _ => nI 0))), (q24, .inl (cI, 41, .inl (fun _ => nI 0))), (q32, .inl (cI, 41, .inl (fun _ => nI 0))), (q40, .inl (cI, 41, .inl (fun _ => nI 0)))] H := hP
  have hD : va_D (va_A [(h, .inr (1, [.int (nI 0), .null, .null, .null, .null, .null, .null, .int (nI 0), .int (nI 0), .int (nI 0), .int (nI 0), .null, .int (nI 0), .int (nI 0), .int (nI 0)]))] s.heap.size) [(h, .inr (1, [.int (nI 0), .ref q8, .ref q16, .ref q24, .ref q32, .ref q40, .null, .int (nI 0), .int (nI 0), .int (nI 0), .int (nI 0), .null, .int (nI 0), .int (nI 0), .int (nI 0)])), (q8, .inl (cI, 400, .inl (fun _ => nI 0))), (q16, .inl (cI, 41, .inl (fun _ => nI 0))), (q24, .inl (cI, 41, .inl (fun _ => nI 0))), (q32, .inl (cI, 41, .inl (fun _ => nI 0))), (q40, .inl (cI, 41, .inl (fun _ => nI 0)))] := hD
  refine lv_aload_n hx hb d_M_init_45 rfl (lv_at hl 0 rfl) ?_
  refine lv_bipush (v := nI 41) hx hb d_M_init_46 (by decide) ?_
  refine va_newa (atype := .boolean) (n := nI 41) (N' := 41) (a0 := (41, .inl (fun _ => nI 0))) hx hb (hw _ kA_boolean) rfl hK hP hD hS hA (fun cA => nz_boolean cA 41) (by decide) (by decide) (by decide) (by decide) (by decide) d_M_init_48 (fun q48 c48 H hK hP hD hS => ?_)
  have hc48 : cZ = c48 := Option.some.inj ((hK.2 1 _ rfl).2.symm.trans (hK.2 2 _ rfl).2)
  subst hc48
  have hK : va_K D cls2 [(cI, .int), (cZ, .boolean)] s := hK.sub [0, 1] rfl
  have hP : va_P D cls2 [(h, .inr (1, [.int (nI 0), .ref q8, .ref q16, .ref q24, .ref q32, .ref q40, .null, .int (nI 0), .int (nI 0), .int (nI 0), .int (nI 0), .null, .int (nI 0), .int (nI 0), .int (nI 0)])), (q8, .inl (cI, 400, .inl (fun _ => nI 0))), (q16, .inl (cI, 41, .inl (fun _ => nI 0))), (q24, .inl (cI, 41, .inl (fun _ => nI 0))), (q32, .inl (cI, 41, .inl (fun _ => nI 0))), (q40, .inl (cI, 41, .inl (fun _ => nI 0))), (q48, .inl (cZ, 41, .inl (fun _ => nI 0)))] H := hP
  have hD : va_D (va_A [(h, .inr (1, [.int (nI 0), .null, .null, .null, .null, .null, .null, .int (nI 0), .int (nI 0), .int (nI 0), .int (nI 0), .null, .int (nI 0), .int (nI 0), .int (nI 0)]))] s.heap.size) [(h, .inr (1, [.int (nI 0), .ref q8, .ref q16, .ref q24, .ref q32, .ref q40, .null, .int (nI 0), .int (nI 0), .int (nI 0), .int (nI 0), .null, .int (nI 0), .int (nI 0), .int (nI 0)])), (q8, .inl (cI, 400, .inl (fun _ => nI 0))), (q16, .inl (cI, 41, .inl (fun _ => nI 0))), (q24, .inl (cI, 41, .inl (fun _ => nI 0))), (q32, .inl (cI, 41, .inl (fun _ => nI 0))), (q40, .inl (cI, 41, .inl (fun _ => nI 0))), (q48, .inl (cZ, 41, .inl (fun _ => nI 0)))] := hD
  have hK : va_K D cls2 [(cI, .int), (cZ, .boolean)] s := hK
  refine va_putF (D := D) (ci := 1) (v := .ref q48) (ty := .array .boolean) (C := RM) (T := FM) (N := 15) hx hb hw inM tM tM_ok nM hown hK hP hD hS 0 rfl rfl 6 (by decide) (hw _ kF_M_25) (fun _ h9 => h9) rfl hin rfl (by decide +kernel) rfl rfl (Nat.le_of_ble_eq_true rfl) d_M_init_50 (fun H locs hP hD hS => ?_)
  have hP : va_P D cls2 [(h, .inr (1, [.int (nI 0), .ref q8, .ref q16, .ref q24, .ref q32, .ref q40, .ref q48, .int (nI 0), .int (nI 0), .int (nI 0), .int (nI 0), .null, .int (nI 0), .int (nI 0), .int (nI 0)])), (q8, .inl (cI, 400, .inl (fun _ => nI 0))), (q16, .inl (cI, 41, .inl (fun _ => nI 0))), (q24, .inl (cI, 41, .inl (fun _ => nI 0))), (q32, .inl (cI, 41, .inl (fun _ => nI 0))), (q40, .inl (cI, 41, .inl (fun _ => nI 0))), (q48, .inl (cZ, 41, .inl (fun _ => nI 0)))] H := hP
  have hD : va_D (va_A [(h, .inr (1, [.int (nI 0), .null, .null, .null, .null, .null, .null, .int (nI 0), .int (nI 0), .int (nI 0), .int (nI 0), .null, .int (nI 0), .int (nI 0), .int (nI 0)]))] s.heap.size) [(h, .inr (1, [.int (nI 0), .ref q8, .ref q16, .ref q24, .ref q32, .ref q40, .ref q48, .int (nI 0), .int (nI 0), .int (nI 0), .int (nI 0), .null, .int (nI 0), .int (nI 0), .int (nI 0)])), (q8, .inl (cI, 400, .inl (fun _ => nI 0))), (q16, .inl (cI, 41, .inl (fun _ => nI 0))), (q24, .inl (cI, 41, .inl (fun _ => nI 0))), (q32, .inl (cI, 41, .inl (fun _ => nI 0))), (q40, .inl (cI, 41, .inl (fun _ => nI 0))), (q48, .inl (cZ, 41, .inl (fun _ => nI 0)))] := hD
  refine lv_aload_n hx hb d_M_init_53 rfl (lv_at hl 0 rfl) ?_
  refine lv_sipush (v := nI 400) hx hb d_M_init_54 (by decide) ?_
  refine va_newa (atype := .int) (n := nI 400) (N' := 400) (a0 := (400, .inl (fun _ => nI 0))) hx hb (hw _ kA_int) rfl hK hP hD hS hA (fun cA => nz_int cA 400) (by decide) (by decide) (by decide) (by decide) (by decide) d_M_init_57 (fun q57 c57 H hK hP hD hS => ?_)
  have hc57 : cI = c57 := va_same hK 0 2 rfl rfl
  subst hc57
  have hK : va_K D cls2 [(cI, .int), (cZ, .boolean)] s := hK.sub [0, 1] rfl
  have hP : va_P D cls2 [(h, .inr (1, [.int (nI 0), .ref q8, .ref q16, .ref q24, .ref q32, .ref q40, .ref q48, .int (nI 0), .int (nI 0), .int (nI 0), .int (nI 0), .null, .int (nI 0), .int (nI 0), .int (nI 0)])), (q8, .inl (cI, 400, .inl (fun _ => nI 0))), (q16, .inl (cI, 41, .inl (fun _ => nI 0))), (q24, .inl (cI, 41, .inl (fun _ => nI 0))), (q32, .inl (cI, 41, .inl (fun _ => nI 0))), (q40, .inl (cI, 41, .inl (fun _ => nI 0))), (q48, .inl (cZ, 41, .inl (fun _ => nI 0))), (q57, .inl (cI, 400, .inl (fun _ => nI 0)))] H := hP
  have hD : va_D (va_A [(h, .inr (1, [.int (nI 0), .null, .null, .null, .null, .null, .null, .int (nI 0), .int (nI 0), .int (nI 0), .int (nI 0), .null, .int (nI 0), .int (nI 0), .int (nI 0)]))] s.heap.size) [(h, .inr (1, [.int (nI 0), .ref q8, .ref q16, .ref q24, .ref q32, .ref q40, .ref q48, .int (nI 0), .int (nI 0), .int (nI 0), .int (nI 0), .null, .int (nI 0), .int (nI 0), .int (nI 0)])), (q8, .inl (cI, 400, .inl (fun _ => nI 0))), (q16, .inl (cI, 41, .inl (fun _ => nI 0))), (q24, .inl (cI, 41, .inl (fun _ => nI 0))), (q32, .inl (cI, 41, .inl (fun _ => nI 0))), (q40, .inl (cI, 41, .inl (fun _ => nI 0))), (q48, .inl (cZ, 41, .inl (fun _ => nI 0))), (q57, .inl (cI, 400, .inl (fun _ => nI 0)))] := hD
  have hK : va_K D cls2 [(cI, .int), (cZ, .boolean)] s := hK
  refine va_putF (D := D) (ci := 1) (v := .ref q57) (ty := .array .int) (C := RM) (T := FM) (N := 15) hx hb hw inM tM tM_ok nM hown hK hP hD hS 0 rfl rfl 11 (by decide) (hw _ kF_M_29) (fun _ h9 => h9) rfl hin rfl (by decide +kernel) rfl rfl (Nat.le_of_ble_eq_true rfl) d_M_init_59 (fun H locs hP hD hS => ?_)
  have hP : va_P D cls2 [(h, .inr (1, [.int (nI 0), .ref q8, .ref q16, .ref q24, .ref q32, .ref q40, .ref q48, .int (nI 0), .int (nI 0), .int (nI 0), .int (nI 0), .ref q57, .int (nI 0), .int (nI 0), .int (nI 0)])), (q8, .inl (cI, 400, .inl (fun _ => nI 0))), (q16, .inl (cI, 41, .inl (fun _ => nI 0))), (q24, .inl (cI, 41, .inl (fun _ => nI 0))), (q32, .inl (cI, 41, .inl (fun _ => nI 0))), (q40, .inl (cI, 41, .inl (fun _ => nI 0))), (q48, .inl (cZ, 41, .inl (fun _ => nI 0))), (q57, .inl (cI, 400, .inl (fun _ => nI 0)))] H := hP
  have hD : va_D (va_A [(h, .inr (1, [.int (nI 0), .null, .null, .null, .null, .null, .null, .int (nI 0), .int (nI 0), .int (nI 0), .int (nI 0), .null, .int (nI 0), .int (nI 0), .int (nI 0)]))] s.heap.size) [(h, .inr (1, [.int (nI 0), .ref q8, .ref q16, .ref q24, .ref q32, .ref q40, .ref q48, .int (nI 0), .int (nI 0), .int (nI 0), .int (nI 0), .ref q57, .int (nI 0), .int (nI 0), .int (nI 0)])), (q8, .inl (cI, 400, .inl (fun _ => nI 0))), (q16, .inl (cI, 41, .inl (fun _ => nI 0))), (q24, .inl (cI, 41, .inl (fun _ => nI 0))), (q32, .inl (cI, 41, .inl (fun _ => nI 0))), (q40, .inl (cI, 41, .inl (fun _ => nI 0))), (q48, .inl (cZ, 41, .inl (fun _ => nI 0))), (q57, .inl (cI, 400, .inl (fun _ => nI 0)))] := hD
  have hP : va_P D cls2 (wM (zfM h q8 q16 q24 q32 q40 q48 q57) cI cZ (fun _ => 0) (fun _ => 0) (fun _ => 0) (fun _ => 0) (fun _ => 0) (fun _ => 0) (fun _ => 0) 0 0 0 0 0 0 0 0) H := hP
  have hD : va_D (va_A [(h, .inr (1, [.int (nI 0), .null, .null, .null, .null, .null, .null, .int (nI 0), .int (nI 0), .int (nI 0), .int (nI 0), .null, .int (nI 0), .int (nI 0), .int (nI 0)]))] s.heap.size) (wM (zfM h q8 q16 q24 q32 q40 q48 q57) cI cZ (fun _ => 0) (fun _ => 0) (fun _ => 0) (fun _ => 0) (fun _ => 0) (fun _ => 0) (fun _ => 0) 0 0 0 0 0 0 0 0) := hD
  refine lv_aload_n hx hb d_M_init_62 rfl (lv_at hl 0 rfl) ?_
  refine lv_iconst (v := nI 0) hx hb d_M_init_63 (by decide) ?_
  refine cl_w (v := none) hD hS hA (W.runV (b := h) (C := "TypeStackModel") (As := [.int (nI 0)]) (rest := []) ⟨hx, hb, hml, hown, hw⟩ (c_M_start l D (zfM h q8 q16 q24 q32 q40 q48 q57) cI cZ (fun _ => 0) (fun _ => 0) (fun _ => 0) (fun _ => 0) (fun _ => 0) (fun _ => 0) (fun _ => 0) 0 0 0 0 0 0 0 0 0 H.size) (cwV 1 hw g_M_32 rfl rfl rfl ⟨rfl, by decide, by decide, by decide +kernel⟩ ⟨by decide, by decide⟩) ⟨PW.blind, va_recv (q := (RM, FM, 15)) (ci := 1) (q0 := 0) hK hP rfl rfl, PW.pre hP hK hD hS hA hE⟩ rfl rfl hl.1 rfl (lv_room (Nat.le_of_ble_eq_true rfl)) d_M_init_64 ⟨Nat.le_of_ble_eq_true rfl, Nat.le_of_ble_eq_true rfl⟩) (fun H locs hP hD hS => ?_)
  refine W.widen (k := 7) (n := 1005) (Nat.le_of_ble_eq_true rfl) (Nat.le_of_ble_eq_true rfl) ?_
  exact W.vret hx hb hrt (fun t ht hW => ⟨⟨(zfM h q8 q16 q24 q32 q40 q48 q57), rfl, rfl, by rw [ht]; exact hP, hD⟩, hS.F ht⟩) hS.2.2 d_M_init_67
