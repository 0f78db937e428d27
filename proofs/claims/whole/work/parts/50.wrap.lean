/-- rows of a table that don't take it -/
theorem pass1 {args : Array Value} {s : State} {pc : Nat} {own E : String} {x1 : ExceptionTableEntry} {n1 : String} (a1 : x1.catchType ≠ 0) (b1 : (Cond.classLink own x1.catchType n1).before args s = true) (c1 : va_Nc E n1 s) :
    ∀ z ∈ [x1], covers z pc = false ∨ (z.catchType ≠ 0 ∧ ∃ nm : String, (Cond.classLink own z.catchType nm).before args s = true ∧ va_Nc E nm s) := fun z hz => by
  rcases List.mem_singleton.mp hz with rfl
  exact Or.inr ⟨a1, n1, b1, c1⟩
theorem pass2 {args : Array Value} {s : State} {pc : Nat} {own E : String} {x1 x2 : ExceptionTableEntry} {n1 n2 : String} (a1 : x1.catchType ≠ 0) (b1 : (Cond.classLink own x1.catchType n1).before args s = true) (c1 : va_Nc E n1 s) (a2 : x2.catchType ≠ 0) (b2 : (Cond.classLink own x2.catchType n2).before args s = true) (c2 : va_Nc E n2 s) :
    ∀ z ∈ [x1, x2], covers z pc = false ∨ (z.catchType ≠ 0 ∧ ∃ nm : String, (Cond.classLink own z.catchType nm).before args s = true ∧ va_Nc E nm s) := fun z hz => by
  rcases List.mem_cons.mp hz with rfl | hz
  · exact Or.inr ⟨a1, n1, b1, c1⟩
  · exact pass1 a2 b2 c2 z hz
theorem pass3 {args : Array Value} {s : State} {pc : Nat} {own E : String} {x1 x2 x3 : ExceptionTableEntry} {n1 n2 n3 : String} (a1 : x1.catchType ≠ 0) (b1 : (Cond.classLink own x1.catchType n1).before args s = true) (c1 : va_Nc E n1 s) (a2 : x2.catchType ≠ 0) (b2 : (Cond.classLink own x2.catchType n2).before args s = true) (c2 : va_Nc E n2 s) (a3 : x3.catchType ≠ 0) (b3 : (Cond.classLink own x3.catchType n3).before args s = true) (c3 : va_Nc E n3 s) :
    ∀ z ∈ [x1, x2, x3], covers z pc = false ∨ (z.catchType ≠ 0 ∧ ∃ nm : String, (Cond.classLink own z.catchType nm).before args s = true ∧ va_Nc E nm s) := fun z hz => by
  rcases List.mem_cons.mp hz with rfl | hz
  · exact Or.inr ⟨a1, n1, b1, c1⟩
  · exact pass2 a2 b2 c2 a3 b3 c3 z hz
set_option maxHeartbeats 1000000 in
set_option maxRecDepth 100000 in
theorem c_L_begin (l : Launch) (hl0 : l.stackTraces = false) (D : va_G) (z : Nat → Nat) (cI cZ : ClassId) (fT fK fA fB fF fE : Nat → Nat) (xh xg xr xn : Nat) (hi : IT fT fK fA fB fF fE xh xg xr) (x : Int32) (cL : ClassId) (sz : Nat) : Met l y_L_begin w_L_begin rmL (PL D [(cI, .int), (cZ, .boolean), (cL, .long)] (wT z cI cZ fT fK fA fB fF fE xh xg xr xn) sz [.ref (z 0), .int x]) (QL (xl x) (cdl [IAE]) D (wT z cI cZ fT fK fA fB fF fE xh xg xr xn) (wT z cI cZ fT (va_up fK 0 0) (va_up fA 0 0) (va_up fB 0 x.toNatClampNeg) (va_up fF 0 0) (va_up fE 0 0) 0 0 (0 + 1) 0) sz) 1 6 (va_A (wT z cI cZ fT fK fA fB fF fE xh xg xr xn) sz) := by
  refine va_MetW (cc := b_L_begin) (maxL := 3) (ret := (some .int)) (hh := [(0, 5, 8, 13)]) (by decide) rfl ?_
  intro p e s m args below meth c s₁ B hml hv
  obtain ⟨rfl, hsz, hP, hK, hD0, hE, hN⟩ := hv
  have hx := B.exec
  have hb := B.bytes
  have hrt := B.returns
  have hts := atoms_spec (ws := w_L_begin) B.pre
  have hw : ∀ w ∈ bw, w.before ([.ref (z 0), .int x] : List Value).toArray s = true := fun w h => hts w (List.mem_cons_of_mem _ h)
  have hown : s.vm.findClass "TypeStackLaw" = some m.cls := findClass_of_methodNamed B.named
  have htb := vx_table (x := y_L_begin) B (hts _ List.mem_cons_self)
  subst hsz
  have hD := hD0.self (sz := s.heap.size)
  have hA : ∀ q : Nat, s.heap.size ≤ q → va_A (wT z cI cZ fT fK fA fB fF fE xh xg xr xn) s.heap.size q := fun q h => Or.inr h
  have hS : va_S (va_A (wT z cI cZ fT fK fA fB fF fE xh xg xr xn) s.heap.size) s.heap s.heap [] := va_S.rf
  have hl := lv_entry ([.ref (z 0), .int x]) (n := 3) (Nat.le_of_ble_eq_true rfl)
  rw [lg_entry_eq]
  generalize (lg_sl ([.ref (z 0), .int x]) ++ List.replicate (3 - (lg_sl ([.ref (z 0), .int x])).length) Slot.unset).toArray = ls at hl ⊢
  have hl : lv_has ls 3 [(0, .ref (z 0)), (1, .int x)] := hl
  refine lv_aload_n hx hb d_L_begin_0 rfl (lv_at hl 0 rfl) ?_
  refine lv_iload_n hx hb d_L_begin_1 rfl (lv_at hl 1 rfl) ?_
  have hPc := hP.sub (ws' := wT z cI cZ fT fK fA fB fF fE xh xg xr xn) [0, 1, 2, 3, 4, 5, 6] rfl
  have hDc := hD.sub (ws' := wT z cI cZ fT fK fA fB fF fE xh xg xr xn) [0, 1, 2, 3, 4, 5, 6] (by decide) rfl
  have hKc := hK.sub (tys' := [(cI, .int), (cZ, .boolean)]) [0, 1] rfl
  refine cl_xj (v := none) (Wc := wT z cI cZ fT fK fA fB fF fE xh xg xr xn) (Wr := []) hP hD hS hA [0, 1, 2, 3, 4, 5, 6] [] rfl rfl (by decide) (by decide) (vx_runV (b := z 0) (C := "TypeStack") (As := [.int x]) (rest := []) ⟨hx, hb, hml, hown, hw⟩ (c_T_begin l hl0 D z cI cZ fT fK fA fB fF fE xh xg xr xn hi x s.heap.size) (cwV 1 hw g_L_7 rfl rfl rfl ⟨rfl, by decide, by decide, by decide +kernel⟩ ⟨by decide, by decide⟩) ⟨PW.blind, va_recv (q := (RT, FT, 10)) (ci := 0) (q0 := 0) hKc hPc rfl rfl, PW.pre hPc hKc hDc hS hA hE⟩ rfl rfl hl.1 rfl (lv_room (Nat.le_of_ble_eq_true rfl)) d_L_begin_2 ⟨by decide, by decide⟩) (fun E ce q H locs he hP hS hce hcv hcl => ?_) (fun he H locs hP hD hS => ?_)
  · skip
    have hcd := he
    have hor : E = IAE := by
      have h9 := xl_e hcd; exact h9
    subst hor
    refine vx_catch (own := "TypeStackLaw") (name := IAE) hown (tableOf []) ⟨0, 5, 8, 13⟩ (tableOf []) (htb.trans rfl) (fun z hz => by cases hz) (by decide) (by decide) (hw _ kC_L_13) (va_any (cw5_on _ (by decide +kernel)) (hE.2.2 (.castable IAE IAE) (by decide +kernel))) hce hcv hcl ?_
    refine lv_astore_n (lv' := [(2, .ref q), (0, .ref (z 0)), (1, .int x)]) hx hb d_L_begin_8 rfl hl (by decide) rfl (fun ls hl => ?_)
    refine lv_iconst (v := nI 1) hx hb d_L_begin_9 (by decide) ?_
    exact W.iret hx hb hrt (fun t ht _ => ⟨⟨fun h8 => (by rw [he] at h8; cases h8), fun E8 h8 => (by rw [he] at h8; cases h8; exact ⟨by rw [show cdl [IAE] IAE = 1 by decide +kernel], by rw [ht]; exact hP, hD⟩)⟩, hS.F ht⟩) hS.2.2 d_L_begin_10
  · skip
    have hP : va_P D cls2 (wT z cI cZ fT (va_up fK 0 0) (va_up fA 0 0) (va_up fB 0 x.toNatClampNeg) (va_up fF 0 0) (va_up fE 0 0) 0 0 (0 + 1) 0) H := hP
    have hD : va_D (va_A (wT z cI cZ fT fK fA fB fF fE xh xg xr xn) s.heap.size) (wT z cI cZ fT (va_up fK 0 0) (va_up fA 0 0) (va_up fB 0 x.toNatClampNeg) (va_up fF 0 0) (va_up fE 0 0) 0 0 (0 + 1) 0) := hD
    refine lv_goto hx hb d_L_begin_5 (tgt := 11) (by decide) ?_
    refine lv_iconst (v := nI 0) hx hb d_L_begin_11 (by decide) ?_
    exact W.iret hx hb hrt (fun t ht _ => ⟨⟨fun _ => ⟨rfl, by rw [ht]; exact hP, hD⟩, fun E8 h8 => (by rw [he] at h8; cases h8)⟩, hS.F ht⟩) hS.2.2 d_L_begin_12

set_option maxHeartbeats 1000000 in
set_option maxRecDepth 100000 in
theorem c_L_apply (l : Launch) (hl0 : l.stackTraces = false) (D : va_G) (z : Nat → Nat) (cI cZ : ClassId) (fT fK fA fB fF fE : Nat → Nat) (xh xg xr xn : Nat) (hi : IT fT fK fA fB fF fE xh xg xr) (x y : Int32) (cL : ClassId) (o : Nat) (g : Nat → Int64) (sz : Nat) : Met l y_L_apply w_L_apply rmL (PL D [(cI, .int), (cZ, .boolean), (cL, .long)] ((o, .inl (cL, 1, .inr (.inl g))) :: wT z cI cZ fT fK fA fB fF fE xh xg xr xn) sz [.ref (z 0), .int x, .int y, .ref o]) (QL (orE (xl x) (orE (xl y) (orE (nf xr) (orE (xo ISE (hbL (fF (xr - 1)) (fE (xr - 1)) fT 6 xh x.toNatClampNeg)) (rmE ((hbL (fF (xr - 1)) (fE (xr - 1)) fT 6 xh x.toNatClampNeg).getD 0 + szL 6 y.toNatClampNeg)))))) (cdl [IAE, NSE, ISE, AE]) D ((o, .inl (cL, 1, .inr (.inl g))) :: wT z cI cZ fT fK fA fB fF fE xh xg xr xn) ((o, .inl (cL, 1, .inr (.inl (vp_updL g 0 (nI ((hbL (fF (xr - 1)) (fE (xr - 1)) fT 6 xh x.toNatClampNeg).getD 0 + szL 6 y.toNatClampNeg)).toInt64)))) :: wT z cI cZ (pl fT ((hbL (fF (xr - 1)) (fE (xr - 1)) fT 6 xh x.toNatClampNeg).getD 0) (szL 6 y.toNatClampNeg) y.toNatClampNeg) fK fA fB fF fE (((hbL (fF (xr - 1)) (fE (xr - 1)) fT 6 xh x.toNatClampNeg).getD 0) + szL 6 y.toNatClampNeg) (max xg (((hbL (fF (xr - 1)) (fE (xr - 1)) fT 6 xh x.toNatClampNeg).getD 0) + szL 6 y.toNatClampNeg)) xr (xn + 1)) sz) 1 6 (va_A ((o, .inl (cL, 1, .inr (.inl g))) :: wT z cI cZ fT fK fA fB fF fE xh xg xr xn) sz) := by
  refine va_MetW (cc := b_L_apply) (maxL := 5) (ret := (some .int)) (hh := [(0, 10, 13, 13), (0, 10, 17, 19), (0, 10, 21, 21), (0, 10, 25, 23)]) (by decide) rfl ?_
  intro p e s m args below meth c s₁ B hml hv
  obtain ⟨rfl, hsz, hP, hK, hD0, hE, hN⟩ := hv
  have hx := B.exec
  have hb := B.bytes
  have hrt := B.returns
  have hts := atoms_spec (ws := w_L_apply) B.pre
  have hw : ∀ w ∈ bw, w.before ([.ref (z 0), .int x, .int y, .ref o] : List Value).toArray s = true := fun w h => hts w (List.mem_cons_of_mem _ h)
  have hown : s.vm.findClass "TypeStackLaw" = some m.cls := findClass_of_methodNamed B.named
  have htb := vx_table (x := y_L_apply) B (hts _ List.mem_cons_self)
  subst hsz
  have hD := hD0.self (sz := s.heap.size)
  have hA : ∀ q : Nat, s.heap.size ≤ q → va_A ((o, .inl (cL, 1, .inr (.inl g))) :: wT z cI cZ fT fK fA fB fF fE xh xg xr xn) s.heap.size q := fun q h => Or.inr h
  have hS : va_S (va_A ((o, .inl (cL, 1, .inr (.inl g))) :: wT z cI cZ fT fK fA fB fF fE xh xg xr xn) s.heap.size) s.heap s.heap [] := va_S.rf
  have hl := lv_entry ([.ref (z 0), .int x, .int y, .ref o]) (n := 5) (Nat.le_of_ble_eq_true rfl)
  rw [lg_entry_eq]
  generalize (lg_sl ([.ref (z 0), .int x, .int y, .ref o]) ++ List.replicate (5 - (lg_sl ([.ref (z 0), .int x, .int y, .ref o])).length) Slot.unset).toArray = ls at hl ⊢
  have hl : lv_has ls 5 [(0, .ref (z 0)), (1, .int x), (2, .int y), (3, .ref o)] := hl
  refine lv_aload_n hx hb d_L_apply_0 rfl (lv_at hl 3 rfl) ?_
  refine lv_iconst (v := nI 0) hx hb d_L_apply_1 (by decide) ?_
  refine lv_aload_n hx hb d_L_apply_2 rfl (lv_at hl 0 rfl) ?_
  refine lv_iload_n hx hb d_L_apply_3 rfl (lv_at hl 1 rfl) ?_
  refine lv_iload_n hx hb d_L_apply_4 rfl (lv_at hl 2 rfl) ?_
  have hPc := hP.sub (ws' := wT z cI cZ fT fK fA fB fF fE xh xg xr xn) [1, 2, 3, 4, 5, 6, 7] rfl
  have hDc := hD.sub (ws' := wT z cI cZ fT fK fA fB fF fE xh xg xr xn) [1, 2, 3, 4, 5, 6, 7] (by decide) rfl
  have hKc := hK.sub (tys' := [(cI, .int), (cZ, .boolean)]) [0, 1] rfl
  refine cl_xj (v := some (.int (nI ((hbL (fF (xr - 1)) (fE (xr - 1)) fT 6 xh x.toNatClampNeg).getD 0 + szL 6 y.toNatClampNeg)))) (Wc := wT z cI cZ fT fK fA fB fF fE xh xg xr xn) (Wr := [(o, .inl (cL, 1, .inr (.inl g)))]) hP hD hS hA [1, 2, 3, 4, 5, 6, 7] [0] rfl rfl (by decide) (by decide) (vx_runV (b := z 0) (C := "TypeStack") (As := [.int x, .int y]) (rest := [.int (nI 0), .ref o]) ⟨hx, hb, hml, hown, hw⟩ (c_T_apply l hl0 D z cI cZ fT fK fA fB fF fE xh xg xr xn hi x y s.heap.size) (cwV 2 hw g_L_15 rfl rfl rfl ⟨rfl, by decide, by decide, by decide +kernel⟩ ⟨by decide, by decide⟩) ⟨PW.blind, va_recv (q := (RT, FT, 10)) (ci := 0) (q0 := 0) hKc hPc rfl rfl, PW.pre hPc hKc hDc hS hA hE⟩ rfl rfl hl.1 rfl (lv_room (Nat.le_of_ble_eq_true rfl)) d_L_apply_5 ⟨by decide, by decide⟩) (fun E ce q H locs he hP hS hce hcv hcl => ?_) (fun he H locs hP hD hS => ?_)
  · skip
    have hcd := he
    have hor : E = IAE ∨ E = NSE ∨ E = ISE ∨ E = AE := by
      rcases orE_e hcd with hcd | hcd
      · have h9 := xl_e hcd; exact Or.inl h9
      rcases orE_e hcd with hcd | hcd
      · have h9 := xl_e hcd; exact Or.inl h9
      rcases orE_e hcd with hcd | hcd
      · have h9 := nf_e hcd; exact Or.inr (Or.inl h9)
      rcases orE_e hcd with hcd | hcd
      · have h9 := xo_e hcd; exact Or.inr (Or.inr (Or.inl h9))
      have h9 := rm_e hcd; exact Or.inr (Or.inr (Or.inr (h9)))
    rcases hor with rfl | rfl | rfl | rfl
    · skip
      refine vx_catch (own := "TypeStackLaw") (name := IAE) hown (tableOf []) ⟨0, 10, 13, 13⟩ (tableOf [(0, 10, 17, 19), (0, 10, 21, 21), (0, 10, 25, 23)]) (htb.trans rfl) (fun z hz => by cases hz) (by decide) (by decide) (hw _ kC_L_13) (va_any (cw5_on _ (by decide +kernel)) (hE.2.2 (.castable IAE IAE) (by decide +kernel))) hce hcv hcl ?_
      refine lv_astore (lv' := [(4, .ref q), (0, .ref (z 0)), (1, .int x), (2, .int y), (3, .ref o)]) hx hb d_L_apply_13 hl (by decide) rfl (fun ls hl => ?_)
      refine lv_iconst (v := nI 1) hx hb d_L_apply_15 (by decide) ?_
      exact W.iret hx hb hrt (fun t ht _ => ⟨⟨fun h8 => (by rw [he] at h8; cases h8), fun E8 h8 => (by rw [he] at h8; cases h8; exact ⟨by rw [show cdl [IAE, NSE, ISE, AE] IAE = 1 by decide +kernel], by rw [ht]; exact hP, hD⟩)⟩, hS.F ht⟩) hS.2.2 d_L_apply_16
    · skip
      refine vx_catch (own := "TypeStackLaw") (name := NSE) hown (tableOf [(0, 10, 13, 13)]) ⟨0, 10, 17, 19⟩ (tableOf [(0, 10, 21, 21), (0, 10, 25, 23)]) (htb.trans rfl) (pass1 (by decide) (hw _ kC_L_13) (hN (NSE, IAE) (by decide +kernel))) (by decide) (by decide) (hw _ kC_L_19) (va_any (cw5_on _ (by decide +kernel)) (hE.2.2 (.castable NSE NSE) (by decide +kernel))) hce hcv hcl ?_
      refine lv_astore (lv' := [(4, .ref q), (0, .ref (z 0)), (1, .int x), (2, .int y), (3, .ref o)]) hx hb d_L_apply_17 hl (by decide) rfl (fun ls hl => ?_)
      refine lv_iconst (v := nI 2) hx hb d_L_apply_19 (by decide) ?_
      exact W.iret hx hb hrt (fun t ht _ => ⟨⟨fun h8 => (by rw [he] at h8; cases h8), fun E8 h8 => (by rw [he] at h8; cases h8; exact ⟨by rw [show cdl [IAE, NSE, ISE, AE] NSE = 2 by decide +kernel], by rw [ht]; exact hP, hD⟩)⟩, hS.F ht⟩) hS.2.2 d_L_apply_20
    · skip
      refine vx_catch (own := "TypeStackLaw") (name := ISE) hown (tableOf [(0, 10, 13, 13), (0, 10, 17, 19)]) ⟨0, 10, 21, 21⟩ (tableOf [(0, 10, 25, 23)]) (htb.trans rfl) (pass2 (by decide) (hw _ kC_L_13) (hN (ISE, IAE) (by decide +kernel)) (by decide) (hw _ kC_L_19) (hN (ISE, NSE) (by decide +kernel))) (by decide) (by decide) (hw _ kC_L_21) (va_any (cw5_on _ (by decide +kernel)) (hE.2.2 (.castable ISE ISE) (by decide +kernel))) hce hcv hcl ?_
      refine lv_astore (lv' := [(4, .ref q), (0, .ref (z 0)), (1, .int x), (2, .int y), (3, .ref o)]) hx hb d_L_apply_21 hl (by decide) rfl (fun ls hl => ?_)
      refine lv_iconst (v := nI 3) hx hb d_L_apply_23 (by decide) ?_
      exact W.iret hx hb hrt (fun t ht _ => ⟨⟨fun h8 => (by rw [he] at h8; cases h8), fun E8 h8 => (by rw [he] at h8; cases h8; exact ⟨by rw [show cdl [IAE, NSE, ISE, AE] ISE = 3 by decide +kernel], by rw [ht]; exact hP, hD⟩)⟩, hS.F ht⟩) hS.2.2 d_L_apply_24
    · skip
      refine vx_catch (own := "TypeStackLaw") (name := AE) hown (tableOf [(0, 10, 13, 13), (0, 10, 17, 19), (0, 10, 21, 21)]) ⟨0, 10, 25, 23⟩ (tableOf []) (htb.trans rfl) (pass3 (by decide) (hw _ kC_L_13) (hN (AE, IAE) (by decide +kernel)) (by decide) (hw _ kC_L_19) (hN (AE, NSE) (by decide +kernel)) (by decide) (hw _ kC_L_21) (hN (AE, ISE) (by decide +kernel))) (by decide) (by decide) (hw _ kC_L_23) (va_any (cw5_on _ (by decide +kernel)) (hE.2.2 (.castable AE AE) (by decide +kernel))) hce hcv hcl ?_
      refine lv_astore (lv' := [(4, .ref q), (0, .ref (z 0)), (1, .int x), (2, .int y), (3, .ref o)]) hx hb d_L_apply_25 hl (by decide) rfl (fun ls hl => ?_)
      refine lv_iconst (v := nI 4) hx hb d_L_apply_27 (by decide) ?_
      exact W.iret hx hb hrt (fun t ht _ => ⟨⟨fun h8 => (by rw [he] at h8; cases h8), fun E8 h8 => (by rw [he] at h8; cases h8; exact ⟨by rw [show cdl [IAE, NSE, ISE, AE] AE = 4 by decide +kernel], by rw [ht]; exact hP, hD⟩)⟩, hS.F ht⟩) hS.2.2 d_L_apply_28
  · skip
    have hP : va_P D cls2 ((o, .inl (cL, 1, .inr (.inl g))) :: wT z cI cZ (pl fT ((hbL (fF (xr - 1)) (fE (xr - 1)) fT 6 xh x.toNatClampNeg).getD 0) (szL 6 y.toNatClampNeg) y.toNatClampNeg) fK fA fB fF fE (((hbL (fF (xr - 1)) (fE (xr - 1)) fT 6 xh x.toNatClampNeg).getD 0) + szL 6 y.toNatClampNeg) (max xg (((hbL (fF (xr - 1)) (fE (xr - 1)) fT 6 xh x.toNatClampNeg).getD 0) + szL 6 y.toNatClampNeg)) xr (xn + 1)) H := hP
    have hD : va_D (va_A ((o, .inl (cL, 1, .inr (.inl g))) :: wT z cI cZ fT fK fA fB fF fE xh xg xr xn) s.heap.size) ((o, .inl (cL, 1, .inr (.inl g))) :: wT z cI cZ (pl fT ((hbL (fF (xr - 1)) (fE (xr - 1)) fT 6 xh x.toNatClampNeg).getD 0) (szL 6 y.toNatClampNeg) y.toNatClampNeg) fK fA fB fF fE (((hbL (fF (xr - 1)) (fE (xr - 1)) fT 6 xh x.toNatClampNeg).getD 0) + szL 6 y.toNatClampNeg) (max xg (((hbL (fF (xr - 1)) (fE (xr - 1)) fT 6 xh x.toNatClampNeg).getD 0) + szL 6 y.toNatClampNeg)) xr (xn + 1)) := hD
    refine lv_i2l (v := (nI ((hbL (fF (xr - 1)) (fE (xr - 1)) fT 6 xh x.toNatClampNeg).getD 0 + szL 6 y.toNatClampNeg)).toInt64) hx hb d_L_apply_8 rfl ?_
    refine va_last hx hb hK hP hD hS 0 2 rfl rfl (i := nI 0) (x := (nI ((hbL (fF (xr - 1)) (fE (xr - 1)) fT 6 xh x.toNatClampNeg).getD 0 + szL 6 y.toNatClampNeg)).toInt64) (vp_in_nI (by decide) (by decide)) d_L_apply_9 (fun H locs hP hD hS => ?_)
    have hP : va_P D cls2 ((o, .inl (cL, 1, .inr (.inl (vp_updL g 0 (nI ((hbL (fF (xr - 1)) (fE (xr - 1)) fT 6 xh x.toNatClampNeg).getD 0 + szL 6 y.toNatClampNeg)).toInt64)))) :: wT z cI cZ (pl fT ((hbL (fF (xr - 1)) (fE (xr - 1)) fT 6 xh x.toNatClampNeg).getD 0) (szL 6 y.toNatClampNeg) y.toNatClampNeg) fK fA fB fF fE (((hbL (fF (xr - 1)) (fE (xr - 1)) fT 6 xh x.toNatClampNeg).getD 0) + szL 6 y.toNatClampNeg) (max xg (((hbL (fF (xr - 1)) (fE (xr - 1)) fT 6 xh x.toNatClampNeg).getD 0) + szL 6 y.toNatClampNeg)) xr (xn + 1)) H := hP
    have hD : va_D (va_A ((o, .inl (cL, 1, .inr (.inl g))) :: wT z cI cZ fT fK fA fB fF fE xh xg xr xn) s.heap.size) ((o, .inl (cL, 1, .inr (.inl (vp_updL g 0 (nI ((hbL (fF (xr - 1)) (fE (xr - 1)) fT 6 xh x.toNatClampNeg).getD 0 + szL 6 y.toNatClampNeg)).toInt64)))) :: wT z cI cZ (pl fT ((hbL (fF (xr - 1)) (fE (xr - 1)) fT 6 xh x.toNatClampNeg).getD 0) (szL 6 y.toNatClampNeg) y.toNatClampNeg) fK fA fB fF fE (((hbL (fF (xr - 1)) (fE (xr - 1)) fT 6 xh x.toNatClampNeg).getD 0) + szL 6 y.toNatClampNeg) (max xg (((hbL (fF (xr - 1)) (fE (xr - 1)) fT 6 xh x.toNatClampNeg).getD 0) + szL 6 y.toNatClampNeg)) xr (xn + 1)) := hD
    refine lv_goto hx hb d_L_apply_10 (tgt := 29) (by decide) ?_
    refine lv_iconst (v := nI 0) hx hb d_L_apply_29 (by decide) ?_
    exact W.iret hx hb hrt (fun t ht _ => ⟨⟨fun _ => ⟨rfl, by rw [ht]; exact hP, hD⟩, fun E8 h8 => (by rw [he] at h8; cases h8)⟩, hS.F ht⟩) hS.2.2 d_L_apply_30

set_option maxHeartbeats 1000000 in
set_option maxRecDepth 100000 in
theorem c_L_drop (l : Launch) (hl0 : l.stackTraces = false) (D : va_G) (z : Nat → Nat) (cI cZ : ClassId) (fT fK fA fB fF fE : Nat → Nat) (xh xg xr xn : Nat) (hi : IT fT fK fA fB fF fE xh xg xr) (cL : ClassId) (o : Nat) (g : Nat → Int64) (sz : Nat) : Met l y_L_drop w_L_drop rmL (PL D [(cI, .int), (cZ, .boolean), (cL, .long)] ((o, .inl (cL, 1, .inr (.inl g))) :: wT z cI cZ fT fK fA fB fF fE xh xg xr xn) sz [.ref (z 0), .ref o]) (QL (orE (nf xr) (xo ISE (hb1 (fF (xr - 1)) (fE (xr - 1)) xh))) (cdl [NSE, ISE]) D ((o, .inl (cL, 1, .inr (.inl g))) :: wT z cI cZ fT fK fA fB fF fE xh xg xr xn) ((o, .inl (cL, 1, .inr (.inl (vp_updL g 0 (nI (tk1 (fF (xr - 1)) xh fT)).toInt64)))) :: wT z cI cZ fT fK fA fB fF fE ((hb1 (fF (xr - 1)) (fE (xr - 1)) xh).getD 0) xg xr (xn + 1)) sz) 1 6 (va_A ((o, .inl (cL, 1, .inr (.inl g))) :: wT z cI cZ fT fK fA fB fF fE xh xg xr xn) sz) := by
  refine va_MetW (cc := b_L_drop) (maxL := 3) (ret := (some .int)) (hh := [(0, 8, 11, 19), (0, 8, 14, 21)]) (by decide) rfl ?_
  intro p e s m args below meth c s₁ B hml hv
  obtain ⟨rfl, hsz, hP, hK, hD0, hE, hN⟩ := hv
  have hx := B.exec
  have hb := B.bytes
  have hrt := B.returns
  have hts := atoms_spec (ws := w_L_drop) B.pre
  have hw : ∀ w ∈ bw, w.before ([.ref (z 0), .ref o] : List Value).toArray s = true := fun w h => hts w (List.mem_cons_of_mem _ h)
  have hown : s.vm.findClass "TypeStackLaw" = some m.cls := findClass_of_methodNamed B.named
  have htb := vx_table (x := y_L_drop) B (hts _ List.mem_cons_self)
  subst hsz
  have hD := hD0.self (sz := s.heap.size)
  have hA : ∀ q : Nat, s.heap.size ≤ q → va_A ((o, .inl (cL, 1, .inr (.inl g))) :: wT z cI cZ fT fK fA fB fF fE xh xg xr xn) s.heap.size q := fun q h => Or.inr h
  have hS : va_S (va_A ((o, .inl (cL, 1, .inr (.inl g))) :: wT z cI cZ fT fK fA fB fF fE xh xg xr xn) s.heap.size) s.heap s.heap [] := va_S.rf
  have hl := lv_entry ([.ref (z 0), .ref o]) (n := 3) (Nat.le_of_ble_eq_true rfl)
  rw [lg_entry_eq]
  generalize (lg_sl ([.ref (z 0), .ref o]) ++ List.replicate (3 - (lg_sl ([.ref (z 0), .ref o])).length) Slot.unset).toArray = ls at hl ⊢
  have hl : lv_has ls 3 [(0, .ref (z 0)), (1, .ref o)] := hl
  refine lv_aload_n hx hb d_L_drop_0 rfl (lv_at hl 1 rfl) ?_
  refine lv_iconst (v := nI 0) hx hb d_L_drop_1 (by decide) ?_
  refine lv_aload_n hx hb d_L_drop_2 rfl (lv_at hl 0 rfl) ?_
  have hPc := hP.sub (ws' := wT z cI cZ fT fK fA fB fF fE xh xg xr xn) [1, 2, 3, 4, 5, 6, 7] rfl
  have hDc := hD.sub (ws' := wT z cI cZ fT fK fA fB fF fE xh xg xr xn) [1, 2, 3, 4, 5, 6, 7] (by decide) rfl
  have hKc := hK.sub (tys' := [(cI, .int), (cZ, .boolean)]) [0, 1] rfl
  refine cl_xj (v := some (.int (nI (tk1 (fF (xr - 1)) xh fT)))) (Wc := wT z cI cZ fT fK fA fB fF fE xh xg xr xn) (Wr := [(o, .inl (cL, 1, .inr (.inl g)))]) hP hD hS hA [1, 2, 3, 4, 5, 6, 7] [0] rfl rfl (by decide) (by decide) (vx_runV (b := z 0) (C := "TypeStack") (As := []) (rest := [.int (nI 0), .ref o]) ⟨hx, hb, hml, hown, hw⟩ (c_T_drop l hl0 D z cI cZ fT fK fA fB fF fE xh xg xr xn hi s.heap.size) (cwV 0 hw g_L_25 rfl rfl rfl ⟨rfl, by decide, by decide, by decide +kernel⟩ ⟨by decide, by decide⟩) ⟨PW.blind, va_recv (q := (RT, FT, 10)) (ci := 0) (q0 := 0) hKc hPc rfl rfl, PW.pre hPc hKc hDc hS hA hE⟩ rfl rfl hl.1 rfl (lv_room (Nat.le_of_ble_eq_true rfl)) d_L_drop_3 ⟨by decide, by decide⟩) (fun E ce q H locs he hP hS hce hcv hcl => ?_) (fun he H locs hP hD hS => ?_)
  · skip
    have hcd := he
    have hor : E = NSE ∨ E = ISE := by
      rcases orE_e hcd with hcd | hcd
      · have h9 := nf_e hcd; exact Or.inl h9
      have h9 := xo_e hcd; exact Or.inr (h9)
    rcases hor with rfl | rfl
    · skip
      refine vx_catch (own := "TypeStackLaw") (name := NSE) hown (tableOf []) ⟨0, 8, 11, 19⟩ (tableOf [(0, 8, 14, 21)]) (htb.trans rfl) (fun z hz => by cases hz) (by decide) (by decide) (hw _ kC_L_19) (va_any (cw5_on _ (by decide +kernel)) (hE.2.2 (.castable NSE NSE) (by decide +kernel))) hce hcv hcl ?_
      refine lv_astore_n (lv' := [(2, .ref q), (0, .ref (z 0)), (1, .ref o)]) hx hb d_L_drop_11 rfl hl (by decide) rfl (fun ls hl => ?_)
      refine lv_iconst (v := nI 1) hx hb d_L_drop_12 (by decide) ?_
      exact W.iret hx hb hrt (fun t ht _ => ⟨⟨fun h8 => (by rw [he] at h8; cases h8), fun E8 h8 => (by rw [he] at h8; cases h8; exact ⟨by rw [show cdl [NSE, ISE] NSE = 1 by decide +kernel], by rw [ht]; exact hP, hD⟩)⟩, hS.F ht⟩) hS.2.2 d_L_drop_13
    · skip
      refine vx_catch (own := "TypeStackLaw") (name := ISE) hown (tableOf [(0, 8, 11, 19)]) ⟨0, 8, 14, 21⟩ (tableOf []) (htb.trans rfl) (pass1 (by decide) (hw _ kC_L_19) (hN (ISE, NSE) (by decide +kernel))) (by decide) (by decide) (hw _ kC_L_21) (va_any (cw5_on _ (by decide +kernel)) (hE.2.2 (.castable ISE ISE) (by decide +kernel))) hce hcv hcl ?_
      refine lv_astore_n (lv' := [(2, .ref q), (0, .ref (z 0)), (1, .ref o)]) hx hb d_L_drop_14 rfl hl (by decide) rfl (fun ls hl => ?_)
      refine lv_iconst (v := nI 2) hx hb d_L_drop_15 (by decide) ?_
      exact W.iret hx hb hrt (fun t ht _ => ⟨⟨fun h8 => (by rw [he] at h8; cases h8), fun E8 h8 => (by rw [he] at h8; cases h8; exact ⟨by rw [show cdl [NSE, ISE] ISE = 2 by decide +kernel], by rw [ht]; exact hP, hD⟩)⟩, hS.F ht⟩) hS.2.2 d_L_drop_16
  · skip
    have hP : va_P D cls2 ((o, .inl (cL, 1, .inr (.inl g))) :: wT z cI cZ fT fK fA fB fF fE ((hb1 (fF (xr - 1)) (fE (xr - 1)) xh).getD 0) xg xr (xn + 1)) H := hP
    have hD : va_D (va_A ((o, .inl (cL, 1, .inr (.inl g))) :: wT z cI cZ fT fK fA fB fF fE xh xg xr xn) s.heap.size) ((o, .inl (cL, 1, .inr (.inl g))) :: wT z cI cZ fT fK fA fB fF fE ((hb1 (fF (xr - 1)) (fE (xr - 1)) xh).getD 0) xg xr (xn + 1)) := hD
    refine lv_i2l (v := (nI (tk1 (fF (xr - 1)) xh fT)).toInt64) hx hb d_L_drop_6 rfl ?_
    refine va_last hx hb hK hP hD hS 0 2 rfl rfl (i := nI 0) (x := (nI (tk1 (fF (xr - 1)) xh fT)).toInt64) (vp_in_nI (by decide) (by decide)) d_L_drop_7 (fun H locs hP hD hS => ?_)
    have hP : va_P D cls2 ((o, .inl (cL, 1, .inr (.inl (vp_updL g 0 (nI (tk1 (fF (xr - 1)) xh fT)).toInt64)))) :: wT z cI cZ fT fK fA fB fF fE ((hb1 (fF (xr - 1)) (fE (xr - 1)) xh).getD 0) xg xr (xn + 1)) H := hP
    have hD : va_D (va_A ((o, .inl (cL, 1, .inr (.inl g))) :: wT z cI cZ fT fK fA fB fF fE xh xg xr xn) s.heap.size) ((o, .inl (cL, 1, .inr (.inl (vp_updL g 0 (nI (tk1 (fF (xr - 1)) xh fT)).toInt64)))) :: wT z cI cZ fT fK fA fB fF fE ((hb1 (fF (xr - 1)) (fE (xr - 1)) xh).getD 0) xg xr (xn + 1)) := hD
    refine lv_goto hx hb d_L_drop_8 (tgt := 17) (by decide) ?_
    refine lv_iconst (v := nI 0) hx hb d_L_drop_17 (by decide) ?_
    exact W.iret hx hb hrt (fun t ht _ => ⟨⟨fun _ => ⟨rfl, by rw [ht]; exact hP, hD⟩, fun E8 h8 => (by rw [he] at h8; cases h8)⟩, hS.F ht⟩) hS.2.2 d_L_drop_18

set_option maxHeartbeats 1000000 in
set_option maxRecDepth 100000 in
theorem c_L_select (l : Launch) (hl0 : l.stackTraces = false) (D : va_G) (z : Nat → Nat) (cI cZ : ClassId) (fT fK fA fB fF fE : Nat → Nat) (xh xg xr xn : Nat) (hi : IT fT fK fA fB fF fE xh xg xr) (cL : ClassId) (o : Nat) (g : Nat → Int64) (sz : Nat) : Met l y_L_select w_L_select rmL (PL D [(cI, .int), (cZ, .boolean), (cL, .long)] ((o, .inl (cL, 1, .inr (.inl g))) :: wT z cI cZ fT fK fA fB fF fE xh xg xr xn) sz [.ref (z 0), .ref o]) (QL (orE (nf xr) (orE (xo ISE (hbT (fF (xr - 1)) (fE (xr - 1)) fT xh 1)) (orE (xo ISE (hb1 (fF (xr - 1)) (fE (xr - 1)) ((hbT (fF (xr - 1)) (fE (xr - 1)) fT xh 1).getD 0))) (orE (xo ISE (hb1 (fF (xr - 1)) (fE (xr - 1)) ((hb1 (fF (xr - 1)) (fE (xr - 1)) ((hbT (fF (xr - 1)) (fE (xr - 1)) fT xh 1).getD 0)).getD 0))) (orE (xo UOE (cty (tk1 (fF (xr - 1)) ((hbT (fF (xr - 1)) (fE (xr - 1)) fT xh 1).getD 0) fT) (tk1 (fF (xr - 1)) ((hb1 (fF (xr - 1)) (fE (xr - 1)) ((hbT (fF (xr - 1)) (fE (xr - 1)) fT xh 1).getD 0)).getD 0) fT))) (rmE ((hb1 (fF (xr - 1)) (fE (xr - 1)) ((hb1 (fF (xr - 1)) (fE (xr - 1)) ((hbT (fF (xr - 1)) (fE (xr - 1)) fT xh 1).getD 0)).getD 0)).getD 0 + 1))))))) (cdl [NSE, ISE, UOE, AE]) D ((o, .inl (cL, 1, .inr (.inl g))) :: wT z cI cZ fT fK fA fB fF fE xh xg xr xn) ((o, .inl (cL, 1, .inr (.inl (vp_updL g 0 (nI ((cty (tk1 (fF (xr - 1)) ((hbT (fF (xr - 1)) (fE (xr - 1)) fT xh 1).getD 0) fT) (tk1 (fF (xr - 1)) ((hb1 (fF (xr - 1)) (fE (xr - 1)) ((hbT (fF (xr - 1)) (fE (xr - 1)) fT xh 1).getD 0)).getD 0) fT)).getD 0)).toInt64)))) :: wT z cI cZ (va_up fT ((hb1 (fF (xr - 1)) (fE (xr - 1)) ((hb1 (fF (xr - 1)) (fE (xr - 1)) ((hbT (fF (xr - 1)) (fE (xr - 1)) fT xh 1).getD 0)).getD 0)).getD 0) ((cty (tk1 (fF (xr - 1)) ((hbT (fF (xr - 1)) (fE (xr - 1)) fT xh 1).getD 0) fT) (tk1 (fF (xr - 1)) ((hb1 (fF (xr - 1)) (fE (xr - 1)) ((hbT (fF (xr - 1)) (fE (xr - 1)) fT xh 1).getD 0)).getD 0) fT)).getD 0)) fK fA fB fF fE ((hb1 (fF (xr - 1)) (fE (xr - 1)) ((hb1 (fF (xr - 1)) (fE (xr - 1)) ((hbT (fF (xr - 1)) (fE (xr - 1)) fT xh 1).getD 0)).getD 0)).getD 0 + 1) (max xg ((hb1 (fF (xr - 1)) (fE (xr - 1)) ((hb1 (fF (xr - 1)) (fE (xr - 1)) ((hbT (fF (xr - 1)) (fE (xr - 1)) fT xh 1).getD 0)).getD 0)).getD 0 + 1)) xr (xn + 1)) sz) 1 6 (va_A ((o, .inl (cL, 1, .inr (.inl g))) :: wT z cI cZ fT fK fA fB fF fE xh xg xr xn) sz) := by
  refine va_MetW (cc := b_L_select) (maxL := 3) (ret := (some .int)) (hh := [(0, 8, 11, 19), (0, 8, 14, 21), (0, 8, 17, 32), (0, 8, 20, 23)]) (by decide) rfl ?_
  intro p e s m args below meth c s₁ B hml hv
  obtain ⟨rfl, hsz, hP, hK, hD0, hE, hN⟩ := hv
  have hx := B.exec
  have hb := B.bytes
  have hrt := B.returns
  have hts := atoms_spec (ws := w_L_select) B.pre
  have hw : ∀ w ∈ bw, w.before ([.ref (z 0), .ref o] : List Value).toArray s = true := fun w h => hts w (List.mem_cons_of_mem _ h)
  have hown : s.vm.findClass "TypeStackLaw" = some m.cls := findClass_of_methodNamed B.named
  have htb := vx_table (x := y_L_select) B (hts _ List.mem_cons_self)
  subst hsz
  have hD := hD0.self (sz := s.heap.size)
  have hA : ∀ q : Nat, s.heap.size ≤ q → va_A ((o, .inl (cL, 1, .inr (.inl g))) :: wT z cI cZ fT fK fA fB fF fE xh xg xr xn) s.heap.size q := fun q h => Or.inr h
  have hS : va_S (va_A ((o, .inl (cL, 1, .inr (.inl g))) :: wT z cI cZ fT fK fA fB fF fE xh xg xr xn) s.heap.size) s.heap s.heap [] := va_S.rf
  have hl := lv_entry ([.ref (z 0), .ref o]) (n := 3) (Nat.le_of_ble_eq_true rfl)
  rw [lg_entry_eq]
  generalize (lg_sl ([.ref (z 0), .ref o]) ++ List.replicate (3 - (lg_sl ([.ref (z 0), .ref o])).length) Slot.unset).toArray = ls at hl ⊢
  have hl : lv_has ls 3 [(0, .ref (z 0)), (1, .ref o)] := hl
  refine lv_aload_n hx hb d_L_select_0 rfl (lv_at hl 1 rfl) ?_
  refine lv_iconst (v := nI 0) hx hb d_L_select_1 (by decide) ?_
  refine lv_aload_n hx hb d_L_select_2 rfl (lv_at hl 0 rfl) ?_
  have hPc := hP.sub (ws' := wT z cI cZ fT fK fA fB fF fE xh xg xr xn) [1, 2, 3, 4, 5, 6, 7] rfl
  have hDc := hD.sub (ws' := wT z cI cZ fT fK fA fB fF fE xh xg xr xn) [1, 2, 3, 4, 5, 6, 7] (by decide) rfl
  have hKc := hK.sub (tys' := [(cI, .int), (cZ, .boolean)]) [0, 1] rfl
  refine cl_xj (v := some (.int (nI ((cty (tk1 (fF (xr - 1)) ((hbT (fF (xr - 1)) (fE (xr - 1)) fT xh 1).getD 0) fT) (tk1 (fF (xr - 1)) ((hb1 (fF (xr - 1)) (fE (xr - 1)) ((hbT (fF (xr - 1)) (fE (xr - 1)) fT xh 1).getD 0)).getD 0) fT)).getD 0)))) (Wc := wT z cI cZ fT fK fA fB fF fE xh xg xr xn) (Wr := [(o, .inl (cL, 1, .inr (.inl g)))]) hP hD hS hA [1, 2, 3, 4, 5, 6, 7] [0] rfl rfl (by decide) (by decide) (vx_runV (b := z 0) (C := "TypeStack") (As := []) (rest := [.int (nI 0), .ref o]) ⟨hx, hb, hml, hown, hw⟩ (c_T_select l hl0 D z cI cZ fT fK fA fB fF fE xh xg xr xn hi s.heap.size) (cwV 0 hw g_L_29 rfl rfl rfl ⟨rfl, by decide, by decide, by decide +kernel⟩ ⟨by decide, by decide⟩) ⟨PW.blind, va_recv (q := (RT, FT, 10)) (ci := 0) (q0 := 0) hKc hPc rfl rfl, PW.pre hPc hKc hDc hS hA hE⟩ rfl rfl hl.1 rfl (lv_room (Nat.le_of_ble_eq_true rfl)) d_L_select_3 ⟨by decide, by decide⟩) (fun E ce q H locs he hP hS hce hcv hcl => ?_) (fun he H locs hP hD hS => ?_)
  · skip
    have hcd := he
    have hor : E = NSE ∨ E = ISE ∨ E = UOE ∨ E = AE := by
      rcases orE_e hcd with hcd | hcd
      · have h9 := nf_e hcd; exact Or.inl h9
      rcases orE_e hcd with hcd | hcd
      · have h9 := xo_e hcd; exact Or.inr (Or.inl h9)
      rcases orE_e hcd with hcd | hcd
      · have h9 := xo_e hcd; exact Or.inr (Or.inl h9)
      rcases orE_e hcd with hcd | hcd
      · have h9 := xo_e hcd; exact Or.inr (Or.inl h9)
      rcases orE_e hcd with hcd | hcd
      · have h9 := xo_e hcd; exact Or.inr (Or.inr (Or.inl h9))
      have h9 := rm_e hcd; exact Or.inr (Or.inr (Or.inr (h9)))
    rcases hor with rfl | rfl | rfl | rfl
    · skip
      refine vx_catch (own := "TypeStackLaw") (name := NSE) hown (tableOf []) ⟨0, 8, 11, 19⟩ (tableOf [(0, 8, 14, 21), (0, 8, 17, 32), (0, 8, 20, 23)]) (htb.trans rfl) (fun z hz => by cases hz) (by decide) (by decide) (hw _ kC_L_19) (va_any (cw5_on _ (by decide +kernel)) (hE.2.2 (.castable NSE NSE) (by decide +kernel))) hce hcv hcl ?_
      refine lv_astore_n (lv' := [(2, .ref q), (0, .ref (z 0)), (1, .ref o)]) hx hb d_L_select_11 rfl hl (by decide) rfl (fun ls hl => ?_)
      refine lv_iconst (v := nI 1) hx hb d_L_select_12 (by decide) ?_
      exact W.iret hx hb hrt (fun t ht _ => ⟨⟨fun h8 => (by rw [he] at h8; cases h8), fun E8 h8 => (by rw [he] at h8; cases h8; exact ⟨by rw [show cdl [NSE, ISE, UOE, AE] NSE = 1 by decide +kernel], by rw [ht]; exact hP, hD⟩)⟩, hS.F ht⟩) hS.2.2 d_L_select_13
    · skip
      refine vx_catch (own := "TypeStackLaw") (name := ISE) hown (tableOf [(0, 8, 11, 19)]) ⟨0, 8, 14, 21⟩ (tableOf [(0, 8, 17, 32), (0, 8, 20, 23)]) (htb.trans rfl) (pass1 (by decide) (hw _ kC_L_19) (hN (ISE, NSE) (by decide +kernel))) (by decide) (by decide) (hw _ kC_L_21) (va_any (cw5_on _ (by decide +kernel)) (hE.2.2 (.castable ISE ISE) (by decide +kernel))) hce hcv hcl ?_
      refine lv_astore_n (lv' := [(2, .ref q), (0, .ref (z 0)), (1, .ref o)]) hx hb d_L_select_14 rfl hl (by decide) rfl (fun ls hl => ?_)
      refine lv_iconst (v := nI 2) hx hb d_L_select_15 (by decide) ?_
      exact W.iret hx hb hrt (fun t ht _ => ⟨⟨fun h8 => (by rw [he] at h8; cases h8), fun E8 h8 => (by rw [he] at h8; cases h8; exact ⟨by rw [show cdl [NSE, ISE, UOE, AE] ISE = 2 by decide +kernel], by rw [ht]; exact hP, hD⟩)⟩, hS.F ht⟩) hS.2.2 d_L_select_16
    · skip
      refine vx_catch (own := "TypeStackLaw") (name := UOE) hown (tableOf [(0, 8, 11, 19), (0, 8, 14, 21)]) ⟨0, 8, 17, 32⟩ (tableOf [(0, 8, 20, 23)]) (htb.trans rfl) (pass2 (by decide) (hw _ kC_L_19) (hN (UOE, NSE) (by decide +kernel)) (by decide) (hw _ kC_L_21) (hN (UOE, ISE) (by decide +kernel))) (by decide) (by decide) (hw _ kC_L_32) (va_any (cw5_on _ (by decide +kernel)) (hE.2.2 (.castable UOE UOE) (by decide +kernel))) hce hcv hcl ?_
      refine lv_astore_n (lv' := [(2, .ref q), (0, .ref (z 0)), (1, .ref o)]) hx hb d_L_select_17 rfl hl (by decide) rfl (fun ls hl => ?_)
      refine lv_iconst (v := nI 3) hx hb d_L_select_18 (by decide) ?_
      exact W.iret hx hb hrt (fun t ht _ => ⟨⟨fun h8 => (by rw [he] at h8; cases h8), fun E8 h8 => (by rw [he] at h8; cases h8; exact ⟨by rw [show cdl [NSE, ISE, UOE, AE] UOE = 3 by decide +kernel], by rw [ht]; exact hP, hD⟩)⟩, hS.F ht⟩) hS.2.2 d_L_select_19
    · skip
      refine vx_catch (own := "TypeStackLaw") (name := AE) hown (tableOf [(0, 8, 11, 19), (0, 8, 14, 21), (0, 8, 17, 32)]) ⟨0, 8, 20, 23⟩ (tableOf []) (htb.trans rfl) (pass3 (by decide) (hw _ kC_L_19) (hN (AE, NSE) (by decide +kernel)) (by decide) (hw _ kC_L_21) (hN (AE, ISE) (by decide +kernel)) (by decide) (hw _ kC_L_32) (hN (AE, UOE) (by decide +kernel))) (by decide) (by decide) (hw _ kC_L_23) (va_any (cw5_on _ (by decide +kernel)) (hE.2.2 (.castable AE AE) (by decide +kernel))) hce hcv hcl ?_
      refine lv_astore_n (lv' := [(2, .ref q), (0, .ref (z 0)), (1, .ref o)]) hx hb d_L_select_20 rfl hl (by decide) rfl (fun ls hl => ?_)
      refine lv_iconst (v := nI 4) hx hb d_L_select_21 (by decide) ?_
      exact W.iret hx hb hrt (fun t ht _ => ⟨⟨fun h8 => (by rw [he] at h8; cases h8), fun E8 h8 => (by rw [he] at h8; cases h8; exact ⟨by rw [show cdl [NSE, ISE, UOE, AE] AE = 4 by decide +kernel], by rw [ht]; exact hP, hD⟩)⟩, hS.F ht⟩) hS.2.2 d_L_select_22
  · skip
    have hP : va_P D cls2 ((o, .inl (cL, 1, .inr (.inl g))) :: wT z cI cZ (va_up fT ((hb1 (fF (xr - 1)) (fE (xr - 1)) ((hb1 (fF (xr - 1)) (fE (xr - 1)) ((hbT (fF (xr - 1)) (fE (xr - 1)) fT xh 1).getD 0)).getD 0)).getD 0) ((cty (tk1 (fF (xr - 1)) ((hbT (fF (xr - 1)) (fE (xr - 1)) fT xh 1).getD 0) fT) (tk1 (fF (xr - 1)) ((hb1 (fF (xr - 1)) (fE (xr - 1)) ((hbT (fF (xr - 1)) (fE (xr - 1)) fT xh 1).getD 0)).getD 0) fT)).getD 0)) fK fA fB fF fE ((hb1 (fF (xr - 1)) (fE (xr - 1)) ((hb1 (fF (xr - 1)) (fE (xr - 1)) ((hbT (fF (xr - 1)) (fE (xr - 1)) fT xh 1).getD 0)).getD 0)).getD 0 + 1) (max xg ((hb1 (fF (xr - 1)) (fE (xr - 1)) ((hb1 (fF (xr - 1)) (fE (xr - 1)) ((hbT (fF (xr - 1)) (fE (xr - 1)) fT xh 1).getD 0)).getD 0)).getD 0 + 1)) xr (xn + 1)) H := hP
    have hD : va_D (va_A ((o, .inl (cL, 1, .inr (.inl g))) :: wT z cI cZ fT fK fA fB fF fE xh xg xr xn) s.heap.size) ((o, .inl (cL, 1, .inr (.inl g))) :: wT z cI cZ (va_up fT ((hb1 (fF (xr - 1)) (fE (xr - 1)) ((hb1 (fF (xr - 1)) (fE (xr - 1)) ((hbT (fF (xr - 1)) (fE (xr - 1)) fT xh 1).getD 0)).getD 0)).getD 0) ((cty (tk1 (fF (xr - 1)) ((hbT (fF (xr - 1)) (fE (xr - 1)) fT xh 1).getD 0) fT) (tk1 (fF (xr - 1)) ((hb1 (fF (xr - 1)) (fE (xr - 1)) ((hbT (fF (xr - 1)) (fE (xr - 1)) fT xh 1).getD 0)).getD 0) fT)).getD 0)) fK fA fB fF fE ((hb1 (fF (xr - 1)) (fE (xr - 1)) ((hb1 (fF (xr - 1)) (fE (xr - 1)) ((hbT (fF (xr - 1)) (fE (xr - 1)) fT xh 1).getD 0)).getD 0)).getD 0 + 1) (max xg ((hb1 (fF (xr - 1)) (fE (xr - 1)) ((hb1 (fF (xr - 1)) (fE (xr - 1)) ((hbT (fF (xr - 1)) (fE (xr - 1)) fT xh 1).getD 0)).getD 0)).getD 0 + 1)) xr (xn + 1)) := hD
    refine lv_i2l (v := (nI ((cty (tk1 (fF (xr - 1)) ((hbT (fF (xr - 1)) (fE (xr - 1)) fT xh 1).getD 0) fT) (tk1 (fF (xr - 1)) ((hb1 (fF (xr - 1)) (fE (xr - 1)) ((hbT (fF (xr - 1)) (fE (xr - 1)) fT xh 1).getD 0)).getD 0) fT)).getD 0)).toInt64) hx hb d_L_select_6 rfl ?_
    refine va_last hx hb hK hP hD hS 0 2 rfl rfl (i := nI 0) (x := (nI ((cty (tk1 (fF (xr - 1)) ((hbT (fF (xr - 1)) (fE (xr - 1)) fT xh 1).getD 0) fT) (tk1 (fF (xr - 1)) ((hb1 (fF (xr - 1)) (fE (xr - 1)) ((hbT (fF (xr - 1)) (fE (xr - 1)) fT xh 1).getD 0)).getD 0) fT)).getD 0)).toInt64) (vp_in_nI (by decide) (by decide)) d_L_select_7 (fun H locs hP hD hS => ?_)
    have hP : va_P D cls2 ((o, .inl (cL, 1, .inr (.inl (vp_updL g 0 (nI ((cty (tk1 (fF (xr - 1)) ((hbT (fF (xr - 1)) (fE (xr - 1)) fT xh 1).getD 0) fT) (tk1 (fF (xr - 1)) ((hb1 (fF (xr - 1)) (fE (xr - 1)) ((hbT (fF (xr - 1)) (fE (xr - 1)) fT xh 1).getD 0)).getD 0) fT)).getD 0)).toInt64)))) :: wT z cI cZ (va_up fT ((hb1 (fF (xr - 1)) (fE (xr - 1)) ((hb1 (fF (xr - 1)) (fE (xr - 1)) ((hbT (fF (xr - 1)) (fE (xr - 1)) fT xh 1).getD 0)).getD 0)).getD 0) ((cty (tk1 (fF (xr - 1)) ((hbT (fF (xr - 1)) (fE (xr - 1)) fT xh 1).getD 0) fT) (tk1 (fF (xr - 1)) ((hb1 (fF (xr - 1)) (fE (xr - 1)) ((hbT (fF (xr - 1)) (fE (xr - 1)) fT xh 1).getD 0)).getD 0) fT)).getD 0)) fK fA fB fF fE ((hb1 (fF (xr - 1)) (fE (xr - 1)) ((hb1 (fF (xr - 1)) (fE (xr - 1)) ((hbT (fF (xr - 1)) (fE (xr - 1)) fT xh 1).getD 0)).getD 0)).getD 0 + 1) (max xg ((hb1 (fF (xr - 1)) (fE (xr - 1)) ((hb1 (fF (xr - 1)) (fE (xr - 1)) ((hbT (fF (xr - 1)) (fE (xr - 1)) fT xh 1).getD 0)).getD 0)).getD 0 + 1)) xr (xn + 1)) H := hP
    have hD : va_D (va_A ((o, .inl (cL, 1, .inr (.inl g))) :: wT z cI cZ fT fK fA fB fF fE xh xg xr xn) s.heap.size) ((o, .inl (cL, 1, .inr (.inl (vp_updL g 0 (nI ((cty (tk1 (fF (xr - 1)) ((hbT (fF (xr - 1)) (fE (xr - 1)) fT xh 1).getD 0) fT) (tk1 (fF (xr - 1)) ((hb1 (fF (xr - 1)) (fE (xr - 1)) ((hbT (fF (xr - 1)) (fE (xr - 1)) fT xh 1).getD 0)).getD 0) fT)).getD 0)).toInt64)))) :: wT z cI cZ (va_up fT ((hb1 (fF (xr - 1)) (fE (xr - 1)) ((hb1 (fF (xr - 1)) (fE (xr - 1)) ((hbT (fF (xr - 1)) (fE (xr - 1)) fT xh 1).getD 0)).getD 0)).getD 0) ((cty (tk1 (fF (xr - 1)) ((hbT (fF (xr - 1)) (fE (xr - 1)) fT xh 1).getD 0) fT) (tk1 (fF (xr - 1)) ((hb1 (fF (xr - 1)) (fE (xr - 1)) ((hbT (fF (xr - 1)) (fE (xr - 1)) fT xh 1).getD 0)).getD 0) fT)).getD 0)) fK fA fB fF fE ((hb1 (fF (xr - 1)) (fE (xr - 1)) ((hb1 (fF (xr - 1)) (fE (xr - 1)) ((hbT (fF (xr - 1)) (fE (xr - 1)) fT xh 1).getD 0)).getD 0)).getD 0 + 1) (max xg ((hb1 (fF (xr - 1)) (fE (xr - 1)) ((hb1 (fF (xr - 1)) (fE (xr - 1)) ((hbT (fF (xr - 1)) (fE (xr - 1)) fT xh 1).getD 0)).getD 0)).getD 0 + 1)) xr (xn + 1)) := hD
    refine lv_goto hx hb d_L_select_8 (tgt := 23) (by decide) ?_
    refine lv_iconst (v := nI 0) hx hb d_L_select_23 (by decide) ?_
    exact W.iret hx hb hrt (fun t ht _ => ⟨⟨fun _ => ⟨rfl, by rw [ht]; exact hP, hD⟩, fun E8 h8 => (by rw [he] at h8; cases h8)⟩, hS.F ht⟩) hS.2.2 d_L_select_24

set_option maxHeartbeats 1000000 in
set_option maxRecDepth 100000 in
theorem c_L_block (l : Launch) (hl0 : l.stackTraces = false) (D : va_G) (z : Nat → Nat) (cI cZ : ClassId) (fT fK fA fB fF fE : Nat → Nat) (xh xg xr xn : Nat) (hi : IT fT fK fA fB fF fE xh xg xr) (x y v : Int32) (cL : ClassId) (o : Nat) (g : Nat → Int64) (sz : Nat) : Met l y_L_block w_L_block rmL (PL D [(cI, .int), (cZ, .boolean), (cL, .long)] ((o, .inl (cL, 1, .inr (.inl g))) :: wT z cI cZ fT fK fA fB fF fE xh xg xr xn) sz [.ref (z 0), .int x, .int y, .int v, .ref o]) (QL (orE (xk x) (orE (xl y) (orE (xl v) (orE (nf xr) (orE (xo ISE (bel x (fF (xr - 1)) (fE (xr - 1)) fT xh)) (orE (xo ISE (hbL (fF (xr - 1)) (fE (xr - 1)) fT 6 (bl x (fF (xr - 1)) (fE (xr - 1)) fT xh) y.toNatClampNeg)) (orE (rmE ((hbL (fF (xr - 1)) (fE (xr - 1)) fT 6 (bl x (fF (xr - 1)) (fE (xr - 1)) fT xh) y.toNatClampNeg).getD 0 + szL 6 y.toNatClampNeg)) (f40 xr)))))))) (cdl [IAE, NSE, ISE, AE]) D ((o, .inl (cL, 1, .inr (.inl g))) :: wT z cI cZ fT fK fA fB fF fE xh xg xr xn) ((o, .inl (cL, 1, .inr (.inl (vp_updL g 0 (nI (xr + 1)).toInt64)))) :: wT z cI cZ (pl fT ((hbL (fF (xr - 1)) (fE (xr - 1)) fT 6 (bl x (fF (xr - 1)) (fE (xr - 1)) fT xh) y.toNatClampNeg).getD 0) (szL 6 y.toNatClampNeg) y.toNatClampNeg) (va_up fK xr x.toNatClampNeg) (va_up fA xr y.toNatClampNeg) (va_up fB xr v.toNatClampNeg) (va_up fF xr ((hbL (fF (xr - 1)) (fE (xr - 1)) fT 6 (bl x (fF (xr - 1)) (fE (xr - 1)) fT xh) y.toNatClampNeg).getD 0)) (va_up fE xr 0) (((hbL (fF (xr - 1)) (fE (xr - 1)) fT 6 (bl x (fF (xr - 1)) (fE (xr - 1)) fT xh) y.toNatClampNeg).getD 0) + szL 6 y.toNatClampNeg) (max xg (((hbL (fF (xr - 1)) (fE (xr - 1)) fT 6 (bl x (fF (xr - 1)) (fE (xr - 1)) fT xh) y.toNatClampNeg).getD 0) + szL 6 y.toNatClampNeg)) (xr + 1) (xn + 1)) sz) 1 6 (va_A ((o, .inl (cL, 1, .inr (.inl g))) :: wT z cI cZ fT fK fA fB fF fE xh xg xr xn) sz) := by
  refine va_MetW (cc := b_L_block) (maxL := 6) (ret := (some .int)) (hh := [(0, 12, 15, 13), (0, 12, 19, 19), (0, 12, 23, 21), (0, 12, 27, 23)]) (by decide) rfl ?_
  intro p e s m args below meth c s₁ B hml hv
  obtain ⟨rfl, hsz, hP, hK, hD0, hE, hN⟩ := hv
  have hx := B.exec
  have hb := B.bytes
  have hrt := B.returns
  have hts := atoms_spec (ws := w_L_block) B.pre
  have hw : ∀ w ∈ bw, w.before ([.ref (z 0), .int x, .int y, .int v, .ref o] : List Value).toArray s = true := fun w h => hts w (List.mem_cons_of_mem _ h)
  have hown : s.vm.findClass "TypeStackLaw" = some m.cls := findClass_of_methodNamed B.named
  have htb := vx_table (x := y_L_block) B (hts _ List.mem_cons_self)
  subst hsz
  have hD := hD0.self (sz := s.heap.size)
  have hA : ∀ q : Nat, s.heap.size ≤ q → va_A ((o, .inl (cL, 1, .inr (.inl g))) :: wT z cI cZ fT fK fA fB fF fE xh xg xr xn) s.heap.size q := fun q h => Or.inr h
  have hS : va_S (va_A ((o, .inl (cL, 1, .inr (.inl g))) :: wT z cI cZ fT fK fA fB fF fE xh xg xr xn) s.heap.size) s.heap s.heap [] := va_S.rf
  have hl := lv_entry ([.ref (z 0), .int x, .int y, .int v, .ref o]) (n := 6) (Nat.le_of_ble_eq_true rfl)
  rw [lg_entry_eq]
  generalize (lg_sl ([.ref (z 0), .int x, .int y, .int v, .ref o]) ++ List.replicate (6 - (lg_sl ([.ref (z 0), .int x, .int y, .int v, .ref o])).length) Slot.unset).toArray = ls at hl ⊢
  have hl : lv_has ls 6 [(0, .ref (z 0)), (1, .int x), (2, .int y), (3, .int v), (4, .ref o)] := hl
  refine lv_aload hx hb d_L_block_0 (lv_at hl 4 rfl) ?_
  refine lv_iconst (v := nI 0) hx hb d_L_block_2 (by decide) ?_
  refine lv_aload_n hx hb d_L_block_3 rfl (lv_at hl 0 rfl) ?_
  refine lv_iload_n hx hb d_L_block_4 rfl (lv_at hl 1 rfl) ?_
  refine lv_iload_n hx hb d_L_block_5 rfl (lv_at hl 2 rfl) ?_
  refine lv_iload_n hx hb d_L_block_6 rfl (lv_at hl 3 rfl) ?_
  have hPc := hP.sub (ws' := wT z cI cZ fT fK fA fB fF fE xh xg xr xn) [1, 2, 3, 4, 5, 6, 7] rfl
  have hDc := hD.sub (ws' := wT z cI cZ fT fK fA fB fF fE xh xg xr xn) [1, 2, 3, 4, 5, 6, 7] (by decide) rfl
  have hKc := hK.sub (tys' := [(cI, .int), (cZ, .boolean)]) [0, 1] rfl
  refine cl_xj (v := some (.int (nI (xr + 1)))) (Wc := wT z cI cZ fT fK fA fB fF fE xh xg xr xn) (Wr := [(o, .inl (cL, 1, .inr (.inl g)))]) hP hD hS hA [1, 2, 3, 4, 5, 6, 7] [0] rfl rfl (by decide) (by decide) (vx_runV (b := z 0) (C := "TypeStack") (As := [.int x, .int y, .int v]) (rest := [.int (nI 0), .ref o]) ⟨hx, hb, hml, hown, hw⟩ (c_T_block l hl0 D z cI cZ fT fK fA fB fF fE xh xg xr xn hi x y v s.heap.size) (cwV 3 hw g_L_34 rfl rfl rfl ⟨rfl, by decide, by decide, by decide +kernel⟩ ⟨by decide, by decide⟩) ⟨PW.blind, va_recv (q := (RT, FT, 10)) (ci := 0) (q0 := 0) hKc hPc rfl rfl, PW.pre hPc hKc hDc hS hA hE⟩ rfl rfl hl.1 rfl (lv_room (Nat.le_of_ble_eq_true rfl)) d_L_block_7 ⟨by decide, by decide⟩) (fun E ce q H locs he hP hS hce hcv hcl => ?_) (fun he H locs hP hD hS => ?_)
  · skip
    have hcd := he
    have hor : E = IAE ∨ E = NSE ∨ E = ISE ∨ E = AE := by
      rcases orE_e hcd with hcd | hcd
      · have h9 := xk_e hcd; exact Or.inl h9
      rcases orE_e hcd with hcd | hcd
      · have h9 := xl_e hcd; exact Or.inl h9
      rcases orE_e hcd with hcd | hcd
      · have h9 := xl_e hcd; exact Or.inl h9
      rcases orE_e hcd with hcd | hcd
      · have h9 := nf_e hcd; exact Or.inr (Or.inl h9)
      rcases orE_e hcd with hcd | hcd
      · have h9 := xo_e hcd; exact Or.inr (Or.inr (Or.inl h9))
      rcases orE_e hcd with hcd | hcd
      · have h9 := xo_e hcd; exact Or.inr (Or.inr (Or.inl h9))
      rcases orE_e hcd with hcd | hcd
      · have h9 := rm_e hcd; exact Or.inr (Or.inr (Or.inr (h9)))
      have h9 := f40_e hcd; exact Or.inr (Or.inr (Or.inr (h9)))
    rcases hor with rfl | rfl | rfl | rfl
    · skip
      refine vx_catch (own := "TypeStackLaw") (name := IAE) hown (tableOf []) ⟨0, 12, 15, 13⟩ (tableOf [(0, 12, 19, 19), (0, 12, 23, 21), (0, 12, 27, 23)]) (htb.trans rfl) (fun z hz => by cases hz) (by decide) (by decide) (hw _ kC_L_13) (va_any (cw5_on _ (by decide +kernel)) (hE.2.2 (.castable IAE IAE) (by decide +kernel))) hce hcv hcl ?_
      refine lv_astore (lv' := [(5, .ref q), (0, .ref (z 0)), (1, .int x), (2, .int y), (3, .int v), (4, .ref o)]) hx hb d_L_block_15 hl (by decide) rfl (fun ls hl => ?_)
      refine lv_iconst (v := nI 1) hx hb d_L_block_17 (by decide) ?_
      exact W.iret hx hb hrt (fun t ht _ => ⟨⟨fun h8 => (by rw [he] at h8; cases h8), fun E8 h8 => (by rw [he] at h8; cases h8; exact ⟨by rw [show cdl [IAE, NSE, ISE, AE] IAE = 1 by decide +kernel], by rw [ht]; exact hP, hD⟩)⟩, hS.F ht⟩) hS.2.2 d_L_block_18
    · skip
      refine vx_catch (own := "TypeStackLaw") (name := NSE) hown (tableOf [(0, 12, 15, 13)]) ⟨0, 12, 19, 19⟩ (tableOf [(0, 12, 23, 21), (0, 12, 27, 23)]) (htb.trans rfl) (pass1 (by decide) (hw _ kC_L_13) (hN (NSE, IAE) (by decide +kernel))) (by decide) (by decide) (hw _ kC_L_19) (va_any (cw5_on _ (by decide +kernel)) (hE.2.2 (.castable NSE NSE) (by decide +kernel))) hce hcv hcl ?_
      refine lv_astore (lv' := [(5, .ref q), (0, .ref (z 0)), (1, .int x), (2, .int y), (3, .int v), (4, .ref o)]) hx hb d_L_block_19 hl (by decide) rfl (fun ls hl => ?_)
      refine lv_iconst (v := nI 2) hx hb d_L_block_21 (by decide) ?_
      exact W.iret hx hb hrt (fun t ht _ => ⟨⟨fun h8 => (by rw [he] at h8; cases h8), fun E8 h8 => (by rw [he] at h8; cases h8; exact ⟨by rw [show cdl [IAE, NSE, ISE, AE] NSE = 2 by decide +kernel], by rw [ht]; exact hP, hD⟩)⟩, hS.F ht⟩) hS.2.2 d_L_block_22
    · skip
      refine vx_catch (own := "TypeStackLaw") (name := ISE) hown (tableOf [(0, 12, 15, 13), (0, 12, 19, 19)]) ⟨0, 12, 23, 21⟩ (tableOf [(0, 12, 27, 23)]) (htb.trans rfl) (pass2 (by decide) (hw _ kC_L_13) (hN (ISE, IAE) (by decide +kernel)) (by decide) (hw _ kC_L_19) (hN (ISE, NSE) (by decide +kernel))) (by decide) (by decide) (hw _ kC_L_21) (va_any (cw5_on _ (by decide +kernel)) (hE.2.2 (.castable ISE ISE) (by decide +kernel))) hce hcv hcl ?_
      refine lv_astore (lv' := [(5, .ref q), (0, .ref (z 0)), (1, .int x), (2, .int y), (3, .int v), (4, .ref o)]) hx hb d_L_block_23 hl (by decide) rfl (fun ls hl => ?_)
      refine lv_iconst (v := nI 3) hx hb d_L_block_25 (by decide) ?_
      exact W.iret hx hb hrt (fun t ht _ => ⟨⟨fun h8 => (by rw [he] at h8; cases h8), fun E8 h8 => (by rw [he] at h8; cases h8; exact ⟨by rw [show cdl [IAE, NSE, ISE, AE] ISE = 3 by decide +kernel], by rw [ht]; exact hP, hD⟩)⟩, hS.F ht⟩) hS.2.2 d_L_block_26
    · skip
      refine vx_catch (own := "TypeStackLaw") (name := AE) hown (tableOf [(0, 12, 15, 13), (0, 12, 19, 19), (0, 12, 23, 21)]) ⟨0, 12, 27, 23⟩ (tableOf []) (htb.trans rfl) (pass3 (by decide) (hw _ kC_L_13) (hN (AE, IAE) (by decide +kernel)) (by decide) (hw _ kC_L_19) (hN (AE, NSE) (by decide +kernel)) (by decide) (hw _ kC_L_21) (hN (AE, ISE) (by decide +kernel))) (by decide) (by decide) (hw _ kC_L_23) (va_any (cw5_on _ (by decide +kernel)) (hE.2.2 (.castable AE AE) (by decide +kernel))) hce hcv hcl ?_
      refine lv_astore (lv' := [(5, .ref q), (0, .ref (z 0)), (1, .int x), (2, .int y), (3, .int v), (4, .ref o)]) hx hb d_L_block_27 hl (by decide) rfl (fun ls hl => ?_)
      refine lv_iconst (v := nI 4) hx hb d_L_block_29 (by decide) ?_
      exact W.iret hx hb hrt (fun t ht _ => ⟨⟨fun h8 => (by rw [he] at h8; cases h8), fun E8 h8 => (by rw [he] at h8; cases h8; exact ⟨by rw [show cdl [IAE, NSE, ISE, AE] AE = 4 by decide +kernel], by rw [ht]; exact hP, hD⟩)⟩, hS.F ht⟩) hS.2.2 d_L_block_30
  · skip
    have hP : va_P D cls2 ((o, .inl (cL, 1, .inr (.inl g))) :: wT z cI cZ (pl fT ((hbL (fF (xr - 1)) (fE (xr - 1)) fT 6 (bl x (fF (xr - 1)) (fE (xr - 1)) fT xh) y.toNatClampNeg).getD 0) (szL 6 y.toNatClampNeg) y.toNatClampNeg) (va_up fK xr x.toNatClampNeg) (va_up fA xr y.toNatClampNeg) (va_up fB xr v.toNatClampNeg) (va_up fF xr ((hbL (fF (xr - 1)) (fE (xr - 1)) fT 6 (bl x (fF (xr - 1)) (fE (xr - 1)) fT xh) y.toNatClampNeg).getD 0)) (va_up fE xr 0) (((hbL (fF (xr - 1)) (fE (xr - 1)) fT 6 (bl x (fF (xr - 1)) (fE (xr - 1)) fT xh) y.toNatClampNeg).getD 0) + szL 6 y.toNatClampNeg) (max xg (((hbL (fF (xr - 1)) (fE (xr - 1)) fT 6 (bl x (fF (xr - 1)) (fE (xr - 1)) fT xh) y.toNatClampNeg).getD 0) + szL 6 y.toNatClampNeg)) (xr + 1) (xn + 1)) H := hP
    have hD : va_D (va_A ((o, .inl (cL, 1, .inr (.inl g))) :: wT z cI cZ fT fK fA fB fF fE xh xg xr xn) s.heap.size) ((o, .inl (cL, 1, .inr (.inl g))) :: wT z cI cZ (pl fT ((hbL (fF (xr - 1)) (fE (xr - 1)) fT 6 (bl x (fF (xr - 1)) (fE (xr - 1)) fT xh) y.toNatClampNeg).getD 0) (szL 6 y.toNatClampNeg) y.toNatClampNeg) (va_up fK xr x.toNatClampNeg) (va_up fA xr y.toNatClampNeg) (va_up fB xr v.toNatClampNeg) (va_up fF xr ((hbL (fF (xr - 1)) (fE (xr - 1)) fT 6 (bl x (fF (xr - 1)) (fE (xr - 1)) fT xh) y.toNatClampNeg).getD 0)) (va_up fE xr 0) (((hbL (fF (xr - 1)) (fE (xr - 1)) fT 6 (bl x (fF (xr - 1)) (fE (xr - 1)) fT xh) y.toNatClampNeg).getD 0) + szL 6 y.toNatClampNeg) (max xg (((hbL (fF (xr - 1)) (fE (xr - 1)) fT 6 (bl x (fF (xr - 1)) (fE (xr - 1)) fT xh) y.toNatClampNeg).getD 0) + szL 6 y.toNatClampNeg)) (xr + 1) (xn + 1)) := hD
    refine lv_i2l (v := (nI (xr + 1)).toInt64) hx hb d_L_block_10 rfl ?_
    refine va_last hx hb hK hP hD hS 0 2 rfl rfl (i := nI 0) (x := (nI (xr + 1)).toInt64) (vp_in_nI (by decide) (by decide)) d_L_block_11 (fun H locs hP hD hS => ?_)
    have hP : va_P D cls2 ((o, .inl (cL, 1, .inr (.inl (vp_updL g 0 (nI (xr + 1)).toInt64)))) :: wT z cI cZ (pl fT ((hbL (fF (xr - 1)) (fE (xr - 1)) fT 6 (bl x (fF (xr - 1)) (fE (xr - 1)) fT xh) y.toNatClampNeg).getD 0) (szL 6 y.toNatClampNeg) y.toNatClampNeg) (va_up fK xr x.toNatClampNeg) (va_up fA xr y.toNatClampNeg) (va_up fB xr v.toNatClampNeg) (va_up fF xr ((hbL (fF (xr - 1)) (fE (xr - 1)) fT 6 (bl x (fF (xr - 1)) (fE (xr - 1)) fT xh) y.toNatClampNeg).getD 0)) (va_up fE xr 0) (((hbL (fF (xr - 1)) (fE (xr - 1)) fT 6 (bl x (fF (xr - 1)) (fE (xr - 1)) fT xh) y.toNatClampNeg).getD 0) + szL 6 y.toNatClampNeg) (max xg (((hbL (fF (xr - 1)) (fE (xr - 1)) fT 6 (bl x (fF (xr - 1)) (fE (xr - 1)) fT xh) y.toNatClampNeg).getD 0) + szL 6 y.toNatClampNeg)) (xr + 1) (xn + 1)) H := hP
    have hD : va_D (va_A ((o, .inl (cL, 1, .inr (.inl g))) :: wT z cI cZ fT fK fA fB fF fE xh xg xr xn) s.heap.size) ((o, .inl (cL, 1, .inr (.inl (vp_updL g 0 (nI (xr + 1)).toInt64)))) :: wT z cI cZ (pl fT ((hbL (fF (xr - 1)) (fE (xr - 1)) fT 6 (bl x (fF (xr - 1)) (fE (xr - 1)) fT xh) y.toNatClampNeg).getD 0) (szL 6 y.toNatClampNeg) y.toNatClampNeg) (va_up fK xr x.toNatClampNeg) (va_up fA xr y.toNatClampNeg) (va_up fB xr v.toNatClampNeg) (va_up fF xr ((hbL (fF (xr - 1)) (fE (xr - 1)) fT 6 (bl x (fF (xr - 1)) (fE (xr - 1)) fT xh) y.toNatClampNeg).getD 0)) (va_up fE xr 0) (((hbL (fF (xr - 1)) (fE (xr - 1)) fT 6 (bl x (fF (xr - 1)) (fE (xr - 1)) fT xh) y.toNatClampNeg).getD 0) + szL 6 y.toNatClampNeg) (max xg (((hbL (fF (xr - 1)) (fE (xr - 1)) fT 6 (bl x (fF (xr - 1)) (fE (xr - 1)) fT xh) y.toNatClampNeg).getD 0) + szL 6 y.toNatClampNeg)) (xr + 1) (xn + 1)) := hD
    refine lv_goto hx hb d_L_block_12 (tgt := 31) (by decide) ?_
    refine lv_iconst (v := nI 0) hx hb d_L_block_31 (by decide) ?_
    exact W.iret hx hb hrt (fun t ht _ => ⟨⟨fun _ => ⟨rfl, by rw [ht]; exact hP, hD⟩, fun E8 h8 => (by rw [he] at h8; cases h8)⟩, hS.F ht⟩) hS.2.2 d_L_block_32

set_option maxHeartbeats 1000000 in
set_option maxRecDepth 100000 in
theorem c_L_otherwise (l : Launch) (hl0 : l.stackTraces = false) (D : va_G) (z : Nat → Nat) (cI cZ : ClassId) (fT fK fA fB fF fE : Nat → Nat) (xh xg xr xn : Nat) (hi : IT fT fK fA fB fF fE xh xg xr) (hro : ∀ j, j < xr → fF j + szL 6 (fA j) ≤ 300) (cL : ClassId) (sz : Nat) : Met l y_L_otherwise w_L_otherwise rmL (PL D [(cI, .int), (cZ, .boolean), (cL, .long)] (wT z cI cZ fT fK fA fB fF fE xh xg xr xn) sz [.ref (z 0)]) (QL (orE (nf xr) (orE (ifE (fK (xr - 1))) (jw (fF (xr - 1)) (hbL (fF (xr - 1)) (fE (xr - 1)) fT 6 xh (fB (xr - 1)))))) (cdl [NSE, UOE, ISE]) D (wT z cI cZ fT fK fA fB fF fE xh xg xr xn) (wT z cI cZ (pl fT (fF (xr - 1)) (szL 6 (fA (xr - 1))) (fA (xr - 1))) (va_up fK (xr - 1) 3) fA fB fF (va_up fE (xr - 1) 0) ((fF (xr - 1)) + szL 6 (fA (xr - 1))) (max xg ((fF (xr - 1)) + szL 6 (fA (xr - 1)))) xr (xn + 1)) sz) 1 6 (va_A (wT z cI cZ fT fK fA fB fF fE xh xg xr xn) sz) := by
  refine va_MetW (cc := b_L_otherwise) (maxL := 2) (ret := (some .int)) (hh := [(0, 4, 7, 19), (0, 4, 10, 32), (0, 4, 13, 21)]) (by decide) rfl ?_
  intro p e s m args below meth c s₁ B hml hv
  obtain ⟨rfl, hsz, hP, hK, hD0, hE, hN⟩ := hv
  have hx := B.exec
  have hb := B.bytes
  have hrt := B.returns
  have hts := atoms_spec (ws := w_L_otherwise) B.pre
  have hw : ∀ w ∈ bw, w.before ([.ref (z 0)] : List Value).toArray s = true := fun w h => hts w (List.mem_cons_of_mem _ h)
  have hown : s.vm.findClass "TypeStackLaw" = some m.cls := findClass_of_methodNamed B.named
  have htb := vx_table (x := y_L_otherwise) B (hts _ List.mem_cons_self)
  subst hsz
  have hD := hD0.self (sz := s.heap.size)
  have hA : ∀ q : Nat, s.heap.size ≤ q → va_A (wT z cI cZ fT fK fA fB fF fE xh xg xr xn) s.heap.size q := fun q h => Or.inr h
  have hS : va_S (va_A (wT z cI cZ fT fK fA fB fF fE xh xg xr xn) s.heap.size) s.heap s.heap [] := va_S.rf
  have hl := lv_entry ([.ref (z 0)]) (n := 2) (Nat.le_of_ble_eq_true rfl)
  rw [lg_entry_eq]
  generalize (lg_sl ([.ref (z 0)]) ++ List.replicate (2 - (lg_sl ([.ref (z 0)])).length) Slot.unset).toArray = ls at hl ⊢
  have hl : lv_has ls 2 [(0, .ref (z 0))] := hl
  refine lv_aload_n hx hb d_L_otherwise_0 rfl (lv_at hl 0 rfl) ?_
  have hPc := hP.sub (ws' := wT z cI cZ fT fK fA fB fF fE xh xg xr xn) [0, 1, 2, 3, 4, 5, 6] rfl
  have hDc := hD.sub (ws' := wT z cI cZ fT fK fA fB fF fE xh xg xr xn) [0, 1, 2, 3, 4, 5, 6] (by decide) rfl
  have hKc := hK.sub (tys' := [(cI, .int), (cZ, .boolean)]) [0, 1] rfl
  refine cl_xj (v := none) (Wc := wT z cI cZ fT fK fA fB fF fE xh xg xr xn) (Wr := []) hP hD hS hA [0, 1, 2, 3, 4, 5, 6] [] rfl rfl (by decide) (by decide) (vx_runV (b := z 0) (C := "TypeStack") (As := []) (rest := []) ⟨hx, hb, hml, hown, hw⟩ (c_T_otherwise l hl0 D z cI cZ fT fK fA fB fF fE xh xg xr xn hi hro s.heap.size) (cwV 0 hw g_L_38 rfl rfl rfl ⟨rfl, by decide, by decide, by decide +kernel⟩ ⟨by decide, by decide⟩) ⟨PW.blind, va_recv (q := (RT, FT, 10)) (ci := 0) (q0 := 0) hKc hPc rfl rfl, PW.pre hPc hKc hDc hS hA hE⟩ rfl rfl hl.1 rfl (lv_room (Nat.le_of_ble_eq_true rfl)) d_L_otherwise_1 ⟨by decide, by decide⟩) (fun E ce q H locs he hP hS hce hcv hcl => ?_) (fun he H locs hP hD hS => ?_)
  · skip
    have hcd := he
    have hor : E = NSE ∨ E = UOE ∨ E = ISE := by
      rcases orE_e hcd with hcd | hcd
      · have h9 := nf_e hcd; exact Or.inl h9
      rcases orE_e hcd with hcd | hcd
      · have h9 := ifE_e hcd; exact Or.inr (Or.inl h9)
      have h9 := jw_e hcd; exact Or.inr (Or.inr (h9))
    rcases hor with rfl | rfl | rfl
    · skip
      refine vx_catch (own := "TypeStackLaw") (name := NSE) hown (tableOf []) ⟨0, 4, 7, 19⟩ (tableOf [(0, 4, 10, 32), (0, 4, 13, 21)]) (htb.trans rfl) (fun z hz => by cases hz) (by decide) (by decide) (hw _ kC_L_19) (va_any (cw5_on _ (by decide +kernel)) (hE.2.2 (.castable NSE NSE) (by decide +kernel))) hce hcv hcl ?_
      refine lv_astore_n (lv' := [(1, .ref q), (0, .ref (z 0))]) hx hb d_L_otherwise_7 rfl hl (by decide) rfl (fun ls hl => ?_)
      refine lv_iconst (v := nI 1) hx hb d_L_otherwise_8 (by decide) ?_
      exact W.iret hx hb hrt (fun t ht _ => ⟨⟨fun h8 => (by rw [he] at h8; cases h8), fun E8 h8 => (by rw [he] at h8; cases h8; exact ⟨by rw [show cdl [NSE, UOE, ISE] NSE = 1 by decide +kernel], by rw [ht]; exact hP, hD⟩)⟩, hS.F ht⟩) hS.2.2 d_L_otherwise_9
    · skip
      refine vx_catch (own := "TypeStackLaw") (name := UOE) hown (tableOf [(0, 4, 7, 19)]) ⟨0, 4, 10, 32⟩ (tableOf [(0, 4, 13, 21)]) (htb.trans rfl) (pass1 (by decide) (hw _ kC_L_19) (hN (UOE, NSE) (by decide +kernel))) (by decide) (by decide) (hw _ kC_L_32) (va_any (cw5_on _ (by decide +kernel)) (hE.2.2 (.castable UOE UOE) (by decide +kernel))) hce hcv hcl ?_
      refine lv_astore_n (lv' := [(1, .ref q), (0, .ref (z 0))]) hx hb d_L_otherwise_10 rfl hl (by decide) rfl (fun ls hl => ?_)
      refine lv_iconst (v := nI 2) hx hb d_L_otherwise_11 (by decide) ?_
      exact W.iret hx hb hrt (fun t ht _ => ⟨⟨fun h8 => (by rw [he] at h8; cases h8), fun E8 h8 => (by rw [he] at h8; cases h8; exact ⟨by rw [show cdl [NSE, UOE, ISE] UOE = 2 by decide +kernel], by rw [ht]; exact hP, hD⟩)⟩, hS.F ht⟩) hS.2.2 d_L_otherwise_12
    · skip
      refine vx_catch (own := "TypeStackLaw") (name := ISE) hown (tableOf [(0, 4, 7, 19), (0, 4, 10, 32)]) ⟨0, 4, 13, 21⟩ (tableOf []) (htb.trans rfl) (pass2 (by decide) (hw _ kC_L_19) (hN (ISE, NSE) (by decide +kernel)) (by decide) (hw _ kC_L_32) (hN (ISE, UOE) (by decide +kernel))) (by decide) (by decide) (hw _ kC_L_21) (va_any (cw5_on _ (by decide +kernel)) (hE.2.2 (.castable ISE ISE) (by decide +kernel))) hce hcv hcl ?_
      refine lv_astore_n (lv' := [(1, .ref q), (0, .ref (z 0))]) hx hb d_L_otherwise_13 rfl hl (by decide) rfl (fun ls hl => ?_)
      refine lv_iconst (v := nI 3) hx hb d_L_otherwise_14 (by decide) ?_
      exact W.iret hx hb hrt (fun t ht _ => ⟨⟨fun h8 => (by rw [he] at h8; cases h8), fun E8 h8 => (by rw [he] at h8; cases h8; exact ⟨by rw [show cdl [NSE, UOE, ISE] ISE = 3 by decide +kernel], by rw [ht]; exact hP, hD⟩)⟩, hS.F ht⟩) hS.2.2 d_L_otherwise_15
  · skip
    have hP : va_P D cls2 (wT z cI cZ (pl fT (fF (xr - 1)) (szL 6 (fA (xr - 1))) (fA (xr - 1))) (va_up fK (xr - 1) 3) fA fB fF (va_up fE (xr - 1) 0) ((fF (xr - 1)) + szL 6 (fA (xr - 1))) (max xg ((fF (xr - 1)) + szL 6 (fA (xr - 1)))) xr (xn + 1)) H := hP
    have hD : va_D (va_A (wT z cI cZ fT fK fA fB fF fE xh xg xr xn) s.heap.size) (wT z cI cZ (pl fT (fF (xr - 1)) (szL 6 (fA (xr - 1))) (fA (xr - 1))) (va_up fK (xr - 1) 3) fA fB fF (va_up fE (xr - 1) 0) ((fF (xr - 1)) + szL 6 (fA (xr - 1))) (max xg ((fF (xr - 1)) + szL 6 (fA (xr - 1)))) xr (xn + 1)) := hD
    refine lv_goto hx hb d_L_otherwise_4 (tgt := 16) (by decide) ?_
    refine lv_iconst (v := nI 0) hx hb d_L_otherwise_16 (by decide) ?_
    exact W.iret hx hb hrt (fun t ht _ => ⟨⟨fun _ => ⟨rfl, by rw [ht]; exact hP, hD⟩, fun E8 h8 => (by rw [he] at h8; cases h8)⟩, hS.F ht⟩) hS.2.2 d_L_otherwise_17

set_option maxHeartbeats 1000000 in
set_option maxRecDepth 100000 in
theorem c_L_end (l : Launch) (hl0 : l.stackTraces = false) (D : va_G) (z : Nat → Nat) (cI cZ : ClassId) (fT fK fA fB fF fE : Nat → Nat) (xh xg xr xn : Nat) (hi : IT fT fK fA fB fF fE xh xg xr) (cL : ClassId) (o : Nat) (g : Nat → Int64) (sz : Nat) : Met l y_L_end w_L_end rmL (PL D [(cI, .int), (cZ, .boolean), (cL, .long)] ((o, .inl (cL, 1, .inr (.inl g))) :: wT z cI cZ fT fK fA fB fF fE xh xg xr xn) sz [.ref (z 0), .ref o]) (QL (orE (nf xr) (orE (ifL (fK (xr - 1)) (fA (xr - 1)) (fB (xr - 1))) (orE (jw (fF (xr - 1)) (hbL (fF (xr - 1)) (fE (xr - 1)) fT 6 xh (fB (xr - 1)))) (rmE (fF (xr - 1) + szL 6 (fB (xr - 1))))))) (cdl [NSE, UOE, ISE, AE]) D ((o, .inl (cL, 1, .inr (.inl g))) :: wT z cI cZ fT fK fA fB fF fE xh xg xr xn) ((o, .inl (cL, 1, .inr (.inl (vp_updL g 0 (nI (xr - 1)).toInt64)))) :: wT z cI cZ (pl fT (fF (xr - 1)) (szL 6 (fB (xr - 1))) (fB (xr - 1))) fK fA fB fF fE ((fF (xr - 1)) + szL 6 (fB (xr - 1))) (max xg ((fF (xr - 1)) + szL 6 (fB (xr - 1)))) (xr - 1) (xn + 1)) sz) 1 6 (va_A ((o, .inl (cL, 1, .inr (.inl g))) :: wT z cI cZ fT fK fA fB fF fE xh xg xr xn) sz) := by
  refine va_MetW (cc := b_L_end) (maxL := 3) (ret := (some .int)) (hh := [(0, 8, 11, 19), (0, 8, 14, 32), (0, 8, 17, 21), (0, 8, 20, 23)]) (by decide) rfl ?_
  intro p e s m args below meth c s₁ B hml hv
  obtain ⟨rfl, hsz, hP, hK, hD0, hE, hN⟩ := hv
  have hx := B.exec
  have hb := B.bytes
  have hrt := B.returns
  have hts := atoms_spec (ws := w_L_end) B.pre
  have hw : ∀ w ∈ bw, w.before ([.ref (z 0), .ref o] : List Value).toArray s = true := fun w h => hts w (List.mem_cons_of_mem _ h)
  have hown : s.vm.findClass "TypeStackLaw" = some m.cls := findClass_of_methodNamed B.named
  have htb := vx_table (x := y_L_end) B (hts _ List.mem_cons_self)
  subst hsz
  have hD := hD0.self (sz := s.heap.size)
  have hA : ∀ q : Nat, s.heap.size ≤ q → va_A ((o, .inl (cL, 1, .inr (.inl g))) :: wT z cI cZ fT fK fA fB fF fE xh xg xr xn) s.heap.size q := fun q h => Or.inr h
  have hS : va_S (va_A ((o, .inl (cL, 1, .inr (.inl g))) :: wT z cI cZ fT fK fA fB fF fE xh xg xr xn) s.heap.size) s.heap s.heap [] := va_S.rf
  have hl := lv_entry ([.ref (z 0), .ref o]) (n := 3) (Nat.le_of_ble_eq_true rfl)
  rw [lg_entry_eq]
  generalize (lg_sl ([.ref (z 0), .ref o]) ++ List.replicate (3 - (lg_sl ([.ref (z 0), .ref o])).length) Slot.unset).toArray = ls at hl ⊢
  have hl : lv_has ls 3 [(0, .ref (z 0)), (1, .ref o)] := hl
  refine lv_aload_n hx hb d_L_end_0 rfl (lv_at hl 1 rfl) ?_
  refine lv_iconst (v := nI 0) hx hb d_L_end_1 (by decide) ?_
  refine lv_aload_n hx hb d_L_end_2 rfl (lv_at hl 0 rfl) ?_
  have hPc := hP.sub (ws' := wT z cI cZ fT fK fA fB fF fE xh xg xr xn) [1, 2, 3, 4, 5, 6, 7] rfl
  have hDc := hD.sub (ws' := wT z cI cZ fT fK fA fB fF fE xh xg xr xn) [1, 2, 3, 4, 5, 6, 7] (by decide) rfl
  have hKc := hK.sub (tys' := [(cI, .int), (cZ, .boolean)]) [0, 1] rfl
  refine cl_xj (v := some (.int (nI (xr - 1)))) (Wc := wT z cI cZ fT fK fA fB fF fE xh xg xr xn) (Wr := [(o, .inl (cL, 1, .inr (.inl g)))]) hP hD hS hA [1, 2, 3, 4, 5, 6, 7] [0] rfl rfl (by decide) (by decide) (vx_runV (b := z 0) (C := "TypeStack") (As := []) (rest := [.int (nI 0), .ref o]) ⟨hx, hb, hml, hown, hw⟩ (c_T_end l hl0 D z cI cZ fT fK fA fB fF fE xh xg xr xn hi s.heap.size) (cwV 0 hw g_L_41 rfl rfl rfl ⟨rfl, by decide, by decide, by decide +kernel⟩ ⟨by decide, by decide⟩) ⟨PW.blind, va_recv (q := (RT, FT, 10)) (ci := 0) (q0 := 0) hKc hPc rfl rfl, PW.pre hPc hKc hDc hS hA hE⟩ rfl rfl hl.1 rfl (lv_room (Nat.le_of_ble_eq_true rfl)) d_L_end_3 ⟨by decide, by decide⟩) (fun E ce q H locs he hP hS hce hcv hcl => ?_) (fun he H locs hP hD hS => ?_)
  · skip
    have hcd := he
    have hor : E = NSE ∨ E = UOE ∨ E = ISE ∨ E = AE := by
      rcases orE_e hcd with hcd | hcd
      · have h9 := nf_e hcd; exact Or.inl h9
      rcases orE_e hcd with hcd | hcd
      · have h9 := ifL_e hcd; exact Or.inr (Or.inl h9)
      rcases orE_e hcd with hcd | hcd
      · have h9 := jw_e hcd; exact Or.inr (Or.inr (Or.inl h9))
      have h9 := rm_e hcd; exact Or.inr (Or.inr (Or.inr (h9)))
    rcases hor with rfl | rfl | rfl | rfl
    · skip
      refine vx_catch (own := "TypeStackLaw") (name := NSE) hown (tableOf []) ⟨0, 8, 11, 19⟩ (tableOf [(0, 8, 14, 32), (0, 8, 17, 21), (0, 8, 20, 23)]) (htb.trans rfl) (fun z hz => by cases hz) (by decide) (by decide) (hw _ kC_L_19) (va_any (cw5_on _ (by decide +kernel)) (hE.2.2 (.castable NSE NSE) (by decide +kernel))) hce hcv hcl ?_
      refine lv_astore_n (lv' := [(2, .ref q), (0, .ref (z 0)), (1, .ref o)]) hx hb d_L_end_11 rfl hl (by decide) rfl (fun ls hl => ?_)
      refine lv_iconst (v := nI 1) hx hb d_L_end_12 (by decide) ?_
      exact W.iret hx hb hrt (fun t ht _ => ⟨⟨fun h8 => (by rw [he] at h8; cases h8), fun E8 h8 => (by rw [he] at h8; cases h8; exact ⟨by rw [show cdl [NSE, UOE, ISE, AE] NSE = 1 by decide +kernel], by rw [ht]; exact hP, hD⟩)⟩, hS.F ht⟩) hS.2.2 d_L_end_13
    · skip
      refine vx_catch (own := "TypeStackLaw") (name := UOE) hown (tableOf [(0, 8, 11, 19)]) ⟨0, 8, 14, 32⟩ (tableOf [(0, 8, 17, 21), (0, 8, 20, 23)]) (htb.trans rfl) (pass1 (by decide) (hw _ kC_L_19) (hN (UOE, NSE) (by decide +kernel))) (by decide) (by decide) (hw _ kC_L_32) (va_any (cw5_on _ (by decide +kernel)) (hE.2.2 (.castable UOE UOE) (by decide +kernel))) hce hcv hcl ?_
      refine lv_astore_n (lv' := [(2, .ref q), (0, .ref (z 0)), (1, .ref o)]) hx hb d_L_end_14 rfl hl (by decide) rfl (fun ls hl => ?_)
      refine lv_iconst (v := nI 2) hx hb d_L_end_15 (by decide) ?_
      exact W.iret hx hb hrt (fun t ht _ => ⟨⟨fun h8 => (by rw [he] at h8; cases h8), fun E8 h8 => (by rw [he] at h8; cases h8; exact ⟨by rw [show cdl [NSE, UOE, ISE, AE] UOE = 2 by decide +kernel], by rw [ht]; exact hP, hD⟩)⟩, hS.F ht⟩) hS.2.2 d_L_end_16
    · skip
      refine vx_catch (own := "TypeStackLaw") (name := ISE) hown (tableOf [(0, 8, 11, 19), (0, 8, 14, 32)]) ⟨0, 8, 17, 21⟩ (tableOf [(0, 8, 20, 23)]) (htb.trans rfl) (pass2 (by decide) (hw _ kC_L_19) (hN (ISE, NSE) (by decide +kernel)) (by decide) (hw _ kC_L_32) (hN (ISE, UOE) (by decide +kernel))) (by decide) (by decide) (hw _ kC_L_21) (va_any (cw5_on _ (by decide +kernel)) (hE.2.2 (.castable ISE ISE) (by decide +kernel))) hce hcv hcl ?_
      refine lv_astore_n (lv' := [(2, .ref q), (0, .ref (z 0)), (1, .ref o)]) hx hb d_L_end_17 rfl hl (by decide) rfl (fun ls hl => ?_)
      refine lv_iconst (v := nI 3) hx hb d_L_end_18 (by decide) ?_
      exact W.iret hx hb hrt (fun t ht _ => ⟨⟨fun h8 => (by rw [he] at h8; cases h8), fun E8 h8 => (by rw [he] at h8; cases h8; exact ⟨by rw [show cdl [NSE, UOE, ISE, AE] ISE = 3 by decide +kernel], by rw [ht]; exact hP, hD⟩)⟩, hS.F ht⟩) hS.2.2 d_L_end_19
    · skip
      refine vx_catch (own := "TypeStackLaw") (name := AE) hown (tableOf [(0, 8, 11, 19), (0, 8, 14, 32), (0, 8, 17, 21)]) ⟨0, 8, 20, 23⟩ (tableOf []) (htb.trans rfl) (pass3 (by decide) (hw _ kC_L_19) (hN (AE, NSE) (by decide +kernel)) (by decide) (hw _ kC_L_32) (hN (AE, UOE) (by decide +kernel)) (by decide) (hw _ kC_L_21) (hN (AE, ISE) (by decide +kernel))) (by decide) (by decide) (hw _ kC_L_23) (va_any (cw5_on _ (by decide +kernel)) (hE.2.2 (.castable AE AE) (by decide +kernel))) hce hcv hcl ?_
      refine lv_astore_n (lv' := [(2, .ref q), (0, .ref (z 0)), (1, .ref o)]) hx hb d_L_end_20 rfl hl (by decide) rfl (fun ls hl => ?_)
      refine lv_iconst (v := nI 4) hx hb d_L_end_21 (by decide) ?_
      exact W.iret hx hb hrt (fun t ht _ => ⟨⟨fun h8 => (by rw [he] at h8; cases h8), fun E8 h8 => (by rw [he] at h8; cases h8; exact ⟨by rw [show cdl [NSE, UOE, ISE, AE] AE = 4 by decide +kernel], by rw [ht]; exact hP, hD⟩)⟩, hS.F ht⟩) hS.2.2 d_L_end_22
  · skip
    have hP : va_P D cls2 ((o, .inl (cL, 1, .inr (.inl g))) :: wT z cI cZ (pl fT (fF (xr - 1)) (szL 6 (fB (xr - 1))) (fB (xr - 1))) fK fA fB fF fE ((fF (xr - 1)) + szL 6 (fB (xr - 1))) (max xg ((fF (xr - 1)) + szL 6 (fB (xr - 1)))) (xr - 1) (xn + 1)) H := hP
    have hD : va_D (va_A ((o, .inl (cL, 1, .inr (.inl g))) :: wT z cI cZ fT fK fA fB fF fE xh xg xr xn) s.heap.size) ((o, .inl (cL, 1, .inr (.inl g))) :: wT z cI cZ (pl fT (fF (xr - 1)) (szL 6 (fB (xr - 1))) (fB (xr - 1))) fK fA fB fF fE ((fF (xr - 1)) + szL 6 (fB (xr - 1))) (max xg ((fF (xr - 1)) + szL 6 (fB (xr - 1)))) (xr - 1) (xn + 1)) := hD
    refine lv_i2l (v := (nI (xr - 1)).toInt64) hx hb d_L_end_6 rfl ?_
    refine va_last hx hb hK hP hD hS 0 2 rfl rfl (i := nI 0) (x := (nI (xr - 1)).toInt64) (vp_in_nI (by decide) (by decide)) d_L_end_7 (fun H locs hP hD hS => ?_)
    have hP : va_P D cls2 ((o, .inl (cL, 1, .inr (.inl (vp_updL g 0 (nI (xr - 1)).toInt64)))) :: wT z cI cZ (pl fT (fF (xr - 1)) (szL 6 (fB (xr - 1))) (fB (xr - 1))) fK fA fB fF fE ((fF (xr - 1)) + szL 6 (fB (xr - 1))) (max xg ((fF (xr - 1)) + szL 6 (fB (xr - 1)))) (xr - 1) (xn + 1)) H := hP
    have hD : va_D (va_A ((o, .inl (cL, 1, .inr (.inl g))) :: wT z cI cZ fT fK fA fB fF fE xh xg xr xn) s.heap.size) ((o, .inl (cL, 1, .inr (.inl (vp_updL g 0 (nI (xr - 1)).toInt64)))) :: wT z cI cZ (pl fT (fF (xr - 1)) (szL 6 (fB (xr - 1))) (fB (xr - 1))) fK fA fB fF fE ((fF (xr - 1)) + szL 6 (fB (xr - 1))) (max xg ((fF (xr - 1)) + szL 6 (fB (xr - 1)))) (xr - 1) (xn + 1)) := hD
    refine lv_goto hx hb d_L_end_8 (tgt := 23) (by decide) ?_
    refine lv_iconst (v := nI 0) hx hb d_L_end_23 (by decide) ?_
    exact W.iret hx hb hrt (fun t ht _ => ⟨⟨fun _ => ⟨rfl, by rw [ht]; exact hP, hD⟩, fun E8 h8 => (by rw [he] at h8; cases h8)⟩, hS.F ht⟩) hS.2.2 d_L_end_24

set_option maxHeartbeats 1000000 in
set_option maxRecDepth 100000 in
theorem c_L_leap (l : Launch) (hl0 : l.stackTraces = false) (D : va_G) (z : Nat → Nat) (cI cZ : ClassId) (fT fK fA fB fF fE : Nat → Nat) (xh xg xr xn : Nat) (hi : IT fT fK fA fB fF fE xh xg xr) (x : Int32) (cL : ClassId) (sz : Nat) : Met l y_L_leap w_L_leap rmL (PL D [(cI, .int), (cZ, .boolean), (cL, .long)] (wT z cI cZ fT fK fA fB fF fE xh xg xr xn) sz [.ref (z 0), .int x]) (QL (orE (xf xr x) (xo ISE (hbL (fF (xr - 1)) (fE (xr - 1)) fT 6 xh (wnt fK fA fB (xr - 1 - x.toNatClampNeg))))) (cdl [NSE, ISE]) D (wT z cI cZ fT fK fA fB fF fE xh xg xr xn) (wT z cI cZ fT fK fA fB fF (va_up fE (xr - 1) 1) (fF (xr - 1)) xg xr (xn + 1)) sz) 1 6 (va_A (wT z cI cZ fT fK fA fB fF fE xh xg xr xn) sz) := by
  refine va_MetW (cc := b_L_leap) (maxL := 3) (ret := (some .int)) (hh := [(0, 5, 8, 19), (0, 5, 11, 21)]) (by decide) rfl ?_
  intro p e s m args below meth c s₁ B hml hv
  obtain ⟨rfl, hsz, hP, hK, hD0, hE, hN⟩ := hv
  have hx := B.exec
  have hb := B.bytes
  have hrt := B.returns
  have hts := atoms_spec (ws := w_L_leap) B.pre
  have hw : ∀ w ∈ bw, w.before ([.ref (z 0), .int x] : List Value).toArray s = true := fun w h => hts w (List.mem_cons_of_mem _ h)
  have hown : s.vm.findClass "TypeStackLaw" = some m.cls := findClass_of_methodNamed B.named
  have htb := vx_table (x := y_L_leap) B (hts _ List.mem_cons_self)
  subst hsz
  have hD := hD0.self (sz := s.heap.size)
  have hA : ∀ q : Nat, s.heap.size ≤ q → va_A (wT z cI cZ fT fK fA fB fF fE xh xg xr xn) s.heap.size q := fun q h => Or.inr h
  have hS : va_S (va_A (wT z cI cZ fT fK fA fB fF fE xh xg xr xn) s.heap.size) s.heap s.heap [] := va_S.rf
  have hl := lv_entry ([.ref (z 0), .int x]) (n := 3) (Nat.le_of_ble_eq_true rfl)
  rw [lg_entry_eq]
  generalize (lg_sl ([.ref (z 0), .int x]) ++ List.replicate (3 - (lg_sl ([.ref (z 0), .int x])).length) Slot.unset).toArray = ls at hl ⊢
  have hl : lv_has ls 3 [(0, .ref (z 0)), (1, .int x)] := hl
  refine lv_aload_n hx hb d_L_leap_0 rfl (lv_at hl 0 rfl) ?_
  refine lv_iload_n hx hb d_L_leap_1 rfl (lv_at hl 1 rfl) ?_
  have hPc := hP.sub (ws' := wT z cI cZ fT fK fA fB fF fE xh xg xr xn) [0, 1, 2, 3, 4, 5, 6] rfl
  have hDc := hD.sub (ws' := wT z cI cZ fT fK fA fB fF fE xh xg xr xn) [0, 1, 2, 3, 4, 5, 6] (by decide) rfl
  have hKc := hK.sub (tys' := [(cI, .int), (cZ, .boolean)]) [0, 1] rfl
  refine cl_xj (v := none) (Wc := wT z cI cZ fT fK fA fB fF fE xh xg xr xn) (Wr := []) hP hD hS hA [0, 1, 2, 3, 4, 5, 6] [] rfl rfl (by decide) (by decide) (vx_runV (b := z 0) (C := "TypeStack") (As := [.int x]) (rest := []) ⟨hx, hb, hml, hown, hw⟩ (c_T_leap l hl0 D z cI cZ fT fK fA fB fF fE xh xg xr xn hi x s.heap.size) (cwV 1 hw g_L_44 rfl rfl rfl ⟨rfl, by decide, by decide, by decide +kernel⟩ ⟨by decide, by decide⟩) ⟨PW.blind, va_recv (q := (RT, FT, 10)) (ci := 0) (q0 := 0) hKc hPc rfl rfl, PW.pre hPc hKc hDc hS hA hE⟩ rfl rfl hl.1 rfl (lv_room (Nat.le_of_ble_eq_true rfl)) d_L_leap_2 ⟨by decide, by decide⟩) (fun E ce q H locs he hP hS hce hcv hcl => ?_) (fun he H locs hP hD hS => ?_)
  · skip
    have hcd := he
    have hor : E = NSE ∨ E = ISE := by
      rcases orE_e hcd with hcd | hcd
      · have h9 := xf_e hcd; exact Or.inl h9
      have h9 := xo_e hcd; exact Or.inr (h9)
    rcases hor with rfl | rfl
    · skip
      refine vx_catch (own := "TypeStackLaw") (name := NSE) hown (tableOf []) ⟨0, 5, 8, 19⟩ (tableOf [(0, 5, 11, 21)]) (htb.trans rfl) (fun z hz => by cases hz) (by decide) (by decide) (hw _ kC_L_19) (va_any (cw5_on _ (by decide +kernel)) (hE.2.2 (.castable NSE NSE) (by decide +kernel))) hce hcv hcl ?_
      refine lv_astore_n (lv' := [(2, .ref q), (0, .ref (z 0)), (1, .int x)]) hx hb d_L_leap_8 rfl hl (by decide) rfl (fun ls hl => ?_)
      refine lv_iconst (v := nI 1) hx hb d_L_leap_9 (by decide) ?_
      exact W.iret hx hb hrt (fun t ht _ => ⟨⟨fun h8 => (by rw [he] at h8; cases h8), fun E8 h8 => (by rw [he] at h8; cases h8; exact ⟨by rw [show cdl [NSE, ISE] NSE = 1 by decide +kernel], by rw [ht]; exact hP, hD⟩)⟩, hS.F ht⟩) hS.2.2 d_L_leap_10
    · skip
      refine vx_catch (own := "TypeStackLaw") (name := ISE) hown (tableOf [(0, 5, 8, 19)]) ⟨0, 5, 11, 21⟩ (tableOf []) (htb.trans rfl) (pass1 (by decide) (hw _ kC_L_19) (hN (ISE, NSE) (by decide +kernel))) (by decide) (by decide) (hw _ kC_L_21) (va_any (cw5_on _ (by decide +kernel)) (hE.2.2 (.castable ISE ISE) (by decide +kernel))) hce hcv hcl ?_
      refine lv_astore_n (lv' := [(2, .ref q), (0, .ref (z 0)), (1, .int x)]) hx hb d_L_leap_11 rfl hl (by decide) rfl (fun ls hl => ?_)
      refine lv_iconst (v := nI 2) hx hb d_L_leap_12 (by decide) ?_
      exact W.iret hx hb hrt (fun t ht _ => ⟨⟨fun h8 => (by rw [he] at h8; cases h8), fun E8 h8 => (by rw [he] at h8; cases h8; exact ⟨by rw [show cdl [NSE, ISE] ISE = 2 by decide +kernel], by rw [ht]; exact hP, hD⟩)⟩, hS.F ht⟩) hS.2.2 d_L_leap_13
  · skip
    have hP : va_P D cls2 (wT z cI cZ fT fK fA fB fF (va_up fE (xr - 1) 1) (fF (xr - 1)) xg xr (xn + 1)) H := hP
    have hD : va_D (va_A (wT z cI cZ fT fK fA fB fF fE xh xg xr xn) s.heap.size) (wT z cI cZ fT fK fA fB fF (va_up fE (xr - 1) 1) (fF (xr - 1)) xg xr (xn + 1)) := hD
    refine lv_goto hx hb d_L_leap_5 (tgt := 14) (by decide) ?_
    refine lv_iconst (v := nI 0) hx hb d_L_leap_14 (by decide) ?_
    exact W.iret hx hb hrt (fun t ht _ => ⟨⟨fun _ => ⟨rfl, by rw [ht]; exact hP, hD⟩, fun E8 h8 => (by rw [he] at h8; cases h8)⟩, hS.F ht⟩) hS.2.2 d_L_leap_15

set_option maxHeartbeats 1000000 in
set_option maxRecDepth 100000 in
theorem c_L_leapIf (l : Launch) (hl0 : l.stackTraces = false) (D : va_G) (z : Nat → Nat) (cI cZ : ClassId) (fT fK fA fB fF fE : Nat → Nat) (xh xg xr xn : Nat) (hi : IT fT fK fA fB fF fE xh xg xr) (x : Int32) (cL : ClassId) (o : Nat) (g : Nat → Int64) (sz : Nat) : Met l y_L_leapIf w_L_leapIf rmL (PL D [(cI, .int), (cZ, .boolean), (cL, .long)] ((o, .inl (cL, 1, .inr (.inl g))) :: wT z cI cZ fT fK fA fB fF fE xh xg xr xn) sz [.ref (z 0), .int x, .ref o]) (QL (orE (xf xr x) (orE (xo ISE (hbT (fF (xr - 1)) (fE (xr - 1)) fT xh 1)) (orE (xo ISE (hbL (fF (xr - 1)) (fE (xr - 1)) fT 6 ((hbT (fF (xr - 1)) (fE (xr - 1)) fT xh 1).getD 0) (wnt fK fA fB (xr - 1 - x.toNatClampNeg)))) (rmE ((hbL (fF (xr - 1)) (fE (xr - 1)) fT 6 ((hbT (fF (xr - 1)) (fE (xr - 1)) fT xh 1).getD 0) (wnt fK fA fB (xr - 1 - x.toNatClampNeg))).getD 0 + szL 6 (wnt fK fA fB (xr - 1 - x.toNatClampNeg))))))) (cdl [NSE, ISE, AE]) D ((o, .inl (cL, 1, .inr (.inl g))) :: wT z cI cZ fT fK fA fB fF fE xh xg xr xn) ((o, .inl (cL, 1, .inr (.inl (vp_updL g 0 (nI ((hbL (fF (xr - 1)) (fE (xr - 1)) fT 6 ((hbT (fF (xr - 1)) (fE (xr - 1)) fT xh 1).getD 0) (wnt fK fA fB (xr - 1 - x.toNatClampNeg))).getD 0 + szL 6 (wnt fK fA fB (xr - 1 - x.toNatClampNeg)))).toInt64)))) :: wT z cI cZ (pl fT ((hbL (fF (xr - 1)) (fE (xr - 1)) fT 6 ((hbT (fF (xr - 1)) (fE (xr - 1)) fT xh 1).getD 0) (wnt fK fA fB (xr - 1 - x.toNatClampNeg))).getD 0) (szL 6 (wnt fK fA fB (xr - 1 - x.toNatClampNeg))) (wnt fK fA fB (xr - 1 - x.toNatClampNeg))) fK fA fB fF fE (((hbL (fF (xr - 1)) (fE (xr - 1)) fT 6 ((hbT (fF (xr - 1)) (fE (xr - 1)) fT xh 1).getD 0) (wnt fK fA fB (xr - 1 - x.toNatClampNeg))).getD 0) + szL 6 (wnt fK fA fB (xr - 1 - x.toNatClampNeg))) (max xg (((hbL (fF (xr - 1)) (fE (xr - 1)) fT 6 ((hbT (fF (xr - 1)) (fE (xr - 1)) fT xh 1).getD 0) (wnt fK fA fB (xr - 1 - x.toNatClampNeg))).getD 0) + szL 6 (wnt fK fA fB (xr - 1 - x.toNatClampNeg)))) xr (xn + 1)) sz) 1 6 (va_A ((o, .inl (cL, 1, .inr (.inl g))) :: wT z cI cZ fT fK fA fB fF fE xh xg xr xn) sz) := by
  refine va_MetW (cc := b_L_leapIf) (maxL := 4) (ret := (some .int)) (hh := [(0, 9, 12, 19), (0, 9, 15, 21), (0, 9, 18, 23)]) (by decide) rfl ?_
  intro p e s m args below meth c s₁ B hml hv
  obtain ⟨rfl, hsz, hP, hK, hD0, hE, hN⟩ := hv
  have hx := B.exec
  have hb := B.bytes
  have hrt := B.returns
  have hts := atoms_spec (ws := w_L_leapIf) B.pre
  have hw : ∀ w ∈ bw, w.before ([.ref (z 0), .int x, .ref o] : List Value).toArray s = true := fun w h => hts w (List.mem_cons_of_mem _ h)
  have hown : s.vm.findClass "TypeStackLaw" = some m.cls := findClass_of_methodNamed B.named
  have htb := vx_table (x := y_L_leapIf) B (hts _ List.mem_cons_self)
  subst hsz
  have hD := hD0.self (sz := s.heap.size)
  have hA : ∀ q : Nat, s.heap.size ≤ q → va_A ((o, .inl (cL, 1, .inr (.inl g))) :: wT z cI cZ fT fK fA fB fF fE xh xg xr xn) s.heap.size q := fun q h => Or.inr h
  have hS : va_S (va_A ((o, .inl (cL, 1, .inr (.inl g))) :: wT z cI cZ fT fK fA fB fF fE xh xg xr xn) s.heap.size) s.heap s.heap [] := va_S.rf
  have hl := lv_entry ([.ref (z 0), .int x, .ref o]) (n := 4) (Nat.le_of_ble_eq_true rfl)
  rw [lg_entry_eq]
  generalize (lg_sl ([.ref (z 0), .int x, .ref o]) ++ List.replicate (4 - (lg_sl ([.ref (z 0), .int x, .ref o])).length) Slot.unset).toArray = ls at hl ⊢
  have hl : lv_has ls 4 [(0, .ref (z 0)), (1, .int x), (2, .ref o)] := hl
  refine lv_aload_n hx hb d_L_leapIf_0 rfl (lv_at hl 2 rfl) ?_
  refine lv_iconst (v := nI 0) hx hb d_L_leapIf_1 (by decide) ?_
  refine lv_aload_n hx hb d_L_leapIf_2 rfl (lv_at hl 0 rfl) ?_
  refine lv_iload_n hx hb d_L_leapIf_3 rfl (lv_at hl 1 rfl) ?_
  have hPc := hP.sub (ws' := wT z cI cZ fT fK fA fB fF fE xh xg xr xn) [1, 2, 3, 4, 5, 6, 7] rfl
  have hDc := hD.sub (ws' := wT z cI cZ fT fK fA fB fF fE xh xg xr xn) [1, 2, 3, 4, 5, 6, 7] (by decide) rfl
  have hKc := hK.sub (tys' := [(cI, .int), (cZ, .boolean)]) [0, 1] rfl
  refine cl_xj (v := some (.int (nI ((hbL (fF (xr - 1)) (fE (xr - 1)) fT 6 ((hbT (fF (xr - 1)) (fE (xr - 1)) fT xh 1).getD 0) (wnt fK fA fB (xr - 1 - x.toNatClampNeg))).getD 0 + szL 6 (wnt fK fA fB (xr - 1 - x.toNatClampNeg)))))) (Wc := wT z cI cZ fT fK fA fB fF fE xh xg xr xn) (Wr := [(o, .inl (cL, 1, .inr (.inl g)))]) hP hD hS hA [1, 2, 3, 4, 5, 6, 7] [0] rfl rfl (by decide) (by decide) (vx_runV (b := z 0) (C := "TypeStack") (As := [.int x]) (rest := [.int (nI 0), .ref o]) ⟨hx, hb, hml, hown, hw⟩ (c_T_leapIf l hl0 D z cI cZ fT fK fA fB fF fE xh xg xr xn hi x s.heap.size) (cwV 1 hw g_L_47 rfl rfl rfl ⟨rfl, by decide, by decide, by decide +kernel⟩ ⟨by decide, by decide⟩) ⟨PW.blind, va_recv (q := (RT, FT, 10)) (ci := 0) (q0 := 0) hKc hPc rfl rfl, PW.pre hPc hKc hDc hS hA hE⟩ rfl rfl hl.1 rfl (lv_room (Nat.le_of_ble_eq_true rfl)) d_L_leapIf_4 ⟨by decide, by decide⟩) (fun E ce q H locs he hP hS hce hcv hcl => ?_) (fun he H locs hP hD hS => ?_)
  · skip
    have hcd := he
    have hor : E = NSE ∨ E = ISE ∨ E = AE := by
      rcases orE_e hcd with hcd | hcd
      · have h9 := xf_e hcd; exact Or.inl h9
      rcases orE_e hcd with hcd | hcd
      · have h9 := xo_e hcd; exact Or.inr (Or.inl h9)
      rcases orE_e hcd with hcd | hcd
      · have h9 := xo_e hcd; exact Or.inr (Or.inl h9)
      have h9 := rm_e hcd; exact Or.inr (Or.inr (h9))
    rcases hor with rfl | rfl | rfl
    · skip
      refine vx_catch (own := "TypeStackLaw") (name := NSE) hown (tableOf []) ⟨0, 9, 12, 19⟩ (tableOf [(0, 9, 15, 21), (0, 9, 18, 23)]) (htb.trans rfl) (fun z hz => by cases hz) (by decide) (by decide) (hw _ kC_L_19) (va_any (cw5_on _ (by decide +kernel)) (hE.2.2 (.castable NSE NSE) (by decide +kernel))) hce hcv hcl ?_
      refine lv_astore_n (lv' := [(3, .ref q), (0, .ref (z 0)), (1, .int x), (2, .ref o)]) hx hb d_L_leapIf_12 rfl hl (by decide) rfl (fun ls hl => ?_)
      refine lv_iconst (v := nI 1) hx hb d_L_leapIf_13 (by decide) ?_
      exact W.iret hx hb hrt (fun t ht _ => ⟨⟨fun h8 => (by rw [he] at h8; cases h8), fun E8 h8 => (by rw [he] at h8; cases h8; exact ⟨by rw [show cdl [NSE, ISE, AE] NSE = 1 by decide +kernel], by rw [ht]; exact hP, hD⟩)⟩, hS.F ht⟩) hS.2.2 d_L_leapIf_14
    · skip
      refine vx_catch (own := "TypeStackLaw") (name := ISE) hown (tableOf [(0, 9, 12, 19)]) ⟨0, 9, 15, 21⟩ (tableOf [(0, 9, 18, 23)]) (htb.trans rfl) (pass1 (by decide) (hw _ kC_L_19) (hN (ISE, NSE) (by decide +kernel))) (by decide) (by decide) (hw _ kC_L_21) (va_any (cw5_on _ (by decide +kernel)) (hE.2.2 (.castable ISE ISE) (by decide +kernel))) hce hcv hcl ?_
      refine lv_astore_n (lv' := [(3, .ref q), (0, .ref (z 0)), (1, .int x), (2, .ref o)]) hx hb d_L_leapIf_15 rfl hl (by decide) rfl (fun ls hl => ?_)
      refine lv_iconst (v := nI 2) hx hb d_L_leapIf_16 (by decide) ?_
      exact W.iret hx hb hrt (fun t ht _ => ⟨⟨fun h8 => (by rw [he] at h8; cases h8), fun E8 h8 => (by rw [he] at h8; cases h8; exact ⟨by rw [show cdl [NSE, ISE, AE] ISE = 2 by decide +kernel], by rw [ht]; exact hP, hD⟩)⟩, hS.F ht⟩) hS.2.2 d_L_leapIf_17
    · skip
      refine vx_catch (own := "TypeStackLaw") (name := AE) hown (tableOf [(0, 9, 12, 19), (0, 9, 15, 21)]) ⟨0, 9, 18, 23⟩ (tableOf []) (htb.trans rfl) (pass2 (by decide) (hw _ kC_L_19) (hN (AE, NSE) (by decide +kernel)) (by decide) (hw _ kC_L_21) (hN (AE, ISE) (by decide +kernel))) (by decide) (by decide) (hw _ kC_L_23) (va_any (cw5_on _ (by decide +kernel)) (hE.2.2 (.castable AE AE) (by decide +kernel))) hce hcv hcl ?_
      refine lv_astore_n (lv' := [(3, .ref q), (0, .ref (z 0)), (1, .int x), (2, .ref o)]) hx hb d_L_leapIf_18 rfl hl (by decide) rfl (fun ls hl => ?_)
      refine lv_iconst (v := nI 3) hx hb d_L_leapIf_19 (by decide) ?_
      exact W.iret hx hb hrt (fun t ht _ => ⟨⟨fun h8 => (by rw [he] at h8; cases h8), fun E8 h8 => (by rw [he] at h8; cases h8; exact ⟨by rw [show cdl [NSE, ISE, AE] AE = 3 by decide +kernel], by rw [ht]; exact hP, hD⟩)⟩, hS.F ht⟩) hS.2.2 d_L_leapIf_20
  · skip
    have hP : va_P D cls2 ((o, .inl (cL, 1, .inr (.inl g))) :: wT z cI cZ (pl fT ((hbL (fF (xr - 1)) (fE (xr - 1)) fT 6 ((hbT (fF (xr - 1)) (fE (xr - 1)) fT xh 1).getD 0) (wnt fK fA fB (xr - 1 - x.toNatClampNeg))).getD 0) (szL 6 (wnt fK fA fB (xr - 1 - x.toNatClampNeg))) (wnt fK fA fB (xr - 1 - x.toNatClampNeg))) fK fA fB fF fE (((hbL (fF (xr - 1)) (fE (xr - 1)) fT 6 ((hbT (fF (xr - 1)) (fE (xr - 1)) fT xh 1).getD 0) (wnt fK fA fB (xr - 1 - x.toNatClampNeg))).getD 0) + szL 6 (wnt fK fA fB (xr - 1 - x.toNatClampNeg))) (max xg (((hbL (fF (xr - 1)) (fE (xr - 1)) fT 6 ((hbT (fF (xr - 1)) (fE (xr - 1)) fT xh 1).getD 0) (wnt fK fA fB (xr - 1 - x.toNatClampNeg))).getD 0) + szL 6 (wnt fK fA fB (xr - 1 - x.toNatClampNeg)))) xr (xn + 1)) H := hP
    have hD : va_D (va_A ((o, .inl (cL, 1, .inr (.inl g))) :: wT z cI cZ fT fK fA fB fF fE xh xg xr xn) s.heap.size) ((o, .inl (cL, 1, .inr (.inl g))) :: wT z cI cZ (pl fT ((hbL (fF (xr - 1)) (fE (xr - 1)) fT 6 ((hbT (fF (xr - 1)) (fE (xr - 1)) fT xh 1).getD 0) (wnt fK fA fB (xr - 1 - x.toNatClampNeg))).getD 0) (szL 6 (wnt fK fA fB (xr - 1 - x.toNatClampNeg))) (wnt fK fA fB (xr - 1 - x.toNatClampNeg))) fK fA fB fF fE (((hbL (fF (xr - 1)) (fE (xr - 1)) fT 6 ((hbT (fF (xr - 1)) (fE (xr - 1)) fT xh 1).getD 0) (wnt fK fA fB (xr - 1 - x.toNatClampNeg))).getD 0) + szL 6 (wnt fK fA fB (xr - 1 - x.toNatClampNeg))) (max xg (((hbL (fF (xr - 1)) (fE (xr - 1)) fT 6 ((hbT (fF (xr - 1)) (fE (xr - 1)) fT xh 1).getD 0) (wnt fK fA fB (xr - 1 - x.toNatClampNeg))).getD 0) + szL 6 (wnt fK fA fB (xr - 1 - x.toNatClampNeg)))) xr (xn + 1)) := hD
    refine lv_i2l (v := (nI ((hbL (fF (xr - 1)) (fE (xr - 1)) fT 6 ((hbT (fF (xr - 1)) (fE (xr - 1)) fT xh 1).getD 0) (wnt fK fA fB (xr - 1 - x.toNatClampNeg))).getD 0 + szL 6 (wnt fK fA fB (xr - 1 - x.toNatClampNeg)))).toInt64) hx hb d_L_leapIf_7 rfl ?_
    refine va_last hx hb hK hP hD hS 0 2 rfl rfl (i := nI 0) (x := (nI ((hbL (fF (xr - 1)) (fE (xr - 1)) fT 6 ((hbT (fF (xr - 1)) (fE (xr - 1)) fT xh 1).getD 0) (wnt fK fA fB (xr - 1 - x.toNatClampNeg))).getD 0 + szL 6 (wnt fK fA fB (xr - 1 - x.toNatClampNeg)))).toInt64) (vp_in_nI (by decide) (by decide)) d_L_leapIf_8 (fun H locs hP hD hS => ?_)
    have hP : va_P D cls2 ((o, .inl (cL, 1, .inr (.inl (vp_updL g 0 (nI ((hbL (fF (xr - 1)) (fE (xr - 1)) fT 6 ((hbT (fF (xr - 1)) (fE (xr - 1)) fT xh 1).getD 0) (wnt fK fA fB (xr - 1 - x.toNatClampNeg))).getD 0 + szL 6 (wnt fK fA fB (xr - 1 - x.toNatClampNeg)))).toInt64)))) :: wT z cI cZ (pl fT ((hbL (fF (xr - 1)) (fE (xr - 1)) fT 6 ((hbT (fF (xr - 1)) (fE (xr - 1)) fT xh 1).getD 0) (wnt fK fA fB (xr - 1 - x.toNatClampNeg))).getD 0) (szL 6 (wnt fK fA fB (xr - 1 - x.toNatClampNeg))) (wnt fK fA fB (xr - 1 - x.toNatClampNeg))) fK fA fB fF fE (((hbL (fF (xr - 1)) (fE (xr - 1)) fT 6 ((hbT (fF (xr - 1)) (fE (xr - 1)) fT xh 1).getD 0) (wnt fK fA fB (xr - 1 - x.toNatClampNeg))).getD 0) + szL 6 (wnt fK fA fB (xr - 1 - x.toNatClampNeg))) (max xg (((hbL (fF (xr - 1)) (fE (xr - 1)) fT 6 ((hbT (fF (xr - 1)) (fE (xr - 1)) fT xh 1).getD 0) (wnt fK fA fB (xr - 1 - x.toNatClampNeg))).getD 0) + szL 6 (wnt fK fA fB (xr - 1 - x.toNatClampNeg)))) xr (xn + 1)) H := hP
    have hD : va_D (va_A ((o, .inl (cL, 1, .inr (.inl g))) :: wT z cI cZ fT fK fA fB fF fE xh xg xr xn) s.heap.size) ((o, .inl (cL, 1, .inr (.inl (vp_updL g 0 (nI ((hbL (fF (xr - 1)) (fE (xr - 1)) fT 6 ((hbT (fF (xr - 1)) (fE (xr - 1)) fT xh 1).getD 0) (wnt fK fA fB (xr - 1 - x.toNatClampNeg))).getD 0 + szL 6 (wnt fK fA fB (xr - 1 - x.toNatClampNeg)))).toInt64)))) :: wT z cI cZ (pl fT ((hbL (fF (xr - 1)) (fE (xr - 1)) fT 6 ((hbT (fF (xr - 1)) (fE (xr - 1)) fT xh 1).getD 0) (wnt fK fA fB (xr - 1 - x.toNatClampNeg))).getD 0) (szL 6 (wnt fK fA fB (xr - 1 - x.toNatClampNeg))) (wnt fK fA fB (xr - 1 - x.toNatClampNeg))) fK fA fB fF fE (((hbL (fF (xr - 1)) (fE (xr - 1)) fT 6 ((hbT (fF (xr - 1)) (fE (xr - 1)) fT xh 1).getD 0) (wnt fK fA fB (xr - 1 - x.toNatClampNeg))).getD 0) + szL 6 (wnt fK fA fB (xr - 1 - x.toNatClampNeg))) (max xg (((hbL (fF (xr - 1)) (fE (xr - 1)) fT 6 ((hbT (fF (xr - 1)) (fE (xr - 1)) fT xh 1).getD 0) (wnt fK fA fB (xr - 1 - x.toNatClampNeg))).getD 0) + szL 6 (wnt fK fA fB (xr - 1 - x.toNatClampNeg)))) xr (xn + 1)) := hD
    refine lv_goto hx hb d_L_leapIf_9 (tgt := 21) (by decide) ?_
    refine lv_iconst (v := nI 0) hx hb d_L_leapIf_21 (by decide) ?_
    exact W.iret hx hb hrt (fun t ht _ => ⟨⟨fun _ => ⟨rfl, by rw [ht]; exact hP, hD⟩, fun E8 h8 => (by rw [he] at h8; cases h8)⟩, hS.F ht⟩) hS.2.2 d_L_leapIf_22

set_option maxHeartbeats 1000000 in
set_option maxRecDepth 100000 in
theorem c_L_table (l : Launch) (hl0 : l.stackTraces = false) (D : va_G) (z : Nat → Nat) (cI cZ : ClassId) (fT fK fA fB fF fE : Nat → Nat) (xh xg xr xn : Nat) (hi : IT fT fK fA fB fF fE xh xg xr) (x y : Int32) (cL : ClassId) (sz : Nat) : Met l y_L_table w_L_table rmL (PL D [(cI, .int), (cZ, .boolean), (cL, .long)] (wT z cI cZ fT fK fA fB fF fE xh xg xr xn) sz [.ref (z 0), .int x, .int y]) (QL (orE (xf xr x) (orE (xf xr y) (orE (szE (wnt fK fA fB (xr - 1 - x.toNatClampNeg)) (wnt fK fA fB (xr - 1 - y.toNatClampNeg))) (orE (xo ISE (hbT (fF (xr - 1)) (fE (xr - 1)) fT xh 1)) (orE (xo ISE (hbL (fF (xr - 1)) (fE (xr - 1)) fT 6 ((hbT (fF (xr - 1)) (fE (xr - 1)) fT xh 1).getD 0) (wnt fK fA fB (xr - 1 - x.toNatClampNeg)))) (xo ISE (hbL (fF (xr - 1)) (fE (xr - 1)) fT 6 ((hbT (fF (xr - 1)) (fE (xr - 1)) fT xh 1).getD 0) (wnt fK fA fB (xr - 1 - y.toNatClampNeg))))))))) (cdl [NSE, UOE, ISE]) D (wT z cI cZ fT fK fA fB fF fE xh xg xr xn) (wT z cI cZ fT fK fA fB fF (va_up fE (xr - 1) 1) (fF (xr - 1)) xg xr (xn + 1)) sz) 1 6 (va_A (wT z cI cZ fT fK fA fB fF fE xh xg xr xn) sz) := by
  refine va_MetW (cc := b_L_table) (maxL := 4) (ret := (some .int)) (hh := [(0, 6, 9, 19), (0, 6, 12, 32), (0, 6, 15, 21)]) (by decide) rfl ?_
  intro p e s m args below meth c s₁ B hml hv
  obtain ⟨rfl, hsz, hP, hK, hD0, hE, hN⟩ := hv
  have hx := B.exec
  have hb := B.bytes
  have hrt := B.returns
  have hts := atoms_spec (ws := w_L_table) B.pre
  have hw : ∀ w ∈ bw, w.before ([.ref (z 0), .int x, .int y] : List Value).toArray s = true := fun w h => hts w (List.mem_cons_of_mem _ h)
  have hown : s.vm.findClass "TypeStackLaw" = some m.cls := findClass_of_methodNamed B.named
  have htb := vx_table (x := y_L_table) B (hts _ List.mem_cons_self)
  subst hsz
  have hD := hD0.self (sz := s.heap.size)
  have hA : ∀ q : Nat, s.heap.size ≤ q → va_A (wT z cI cZ fT fK fA fB fF fE xh xg xr xn) s.heap.size q := fun q h => Or.inr h
  have hS : va_S (va_A (wT z cI cZ fT fK fA fB fF fE xh xg xr xn) s.heap.size) s.heap s.heap [] := va_S.rf
  have hl := lv_entry ([.ref (z 0), .int x, .int y]) (n := 4) (Nat.le_of_ble_eq_true rfl)
  rw [lg_entry_eq]
  generalize (lg_sl ([.ref (z 0), .int x, .int y]) ++ List.replicate (4 - (lg_sl ([.ref (z 0), .int x, .int y])).length) Slot.unset).toArray = ls at hl ⊢
  have hl : lv_has ls 4 [(0, .ref (z 0)), (1, .int x), (2, .int y)] := hl
  refine lv_aload_n hx hb d_L_table_0 rfl (lv_at hl 0 rfl) ?_
  refine lv_iload_n hx hb d_L_table_1 rfl (lv_at hl 1 rfl) ?_
  refine lv_iload_n hx hb d_L_table_2 rfl (lv_at hl 2 rfl) ?_
  have hPc := hP.sub (ws' := wT z cI cZ fT fK fA fB fF fE xh xg xr xn) [0, 1, 2, 3, 4, 5, 6] rfl
  have hDc := hD.sub (ws' := wT z cI cZ fT fK fA fB fF fE xh xg xr xn) [0, 1, 2, 3, 4, 5, 6] (by decide) rfl
  have hKc := hK.sub (tys' := [(cI, .int), (cZ, .boolean)]) [0, 1] rfl
  refine cl_xj (v := none) (Wc := wT z cI cZ fT fK fA fB fF fE xh xg xr xn) (Wr := []) hP hD hS hA [0, 1, 2, 3, 4, 5, 6] [] rfl rfl (by decide) (by decide) (vx_runV (b := z 0) (C := "TypeStack") (As := [.int x, .int y]) (rest := []) ⟨hx, hb, hml, hown, hw⟩ (c_T_table l hl0 D z cI cZ fT fK fA fB fF fE xh xg xr xn hi x y s.heap.size) (cwV 2 hw g_L_51 rfl rfl rfl ⟨rfl, by decide, by decide, by decide +kernel⟩ ⟨by decide, by decide⟩) ⟨PW.blind, va_recv (q := (RT, FT, 10)) (ci := 0) (q0 := 0) hKc hPc rfl rfl, PW.pre hPc hKc hDc hS hA hE⟩ rfl rfl hl.1 rfl (lv_room (Nat.le_of_ble_eq_true rfl)) d_L_table_3 ⟨by decide, by decide⟩) (fun E ce q H locs he hP hS hce hcv hcl => ?_) (fun he H locs hP hD hS => ?_)
  · skip
    have hcd := he
    have hor : E = NSE ∨ E = UOE ∨ E = ISE := by
      rcases orE_e hcd with hcd | hcd
      · have h9 := xf_e hcd; exact Or.inl h9
      rcases orE_e hcd with hcd | hcd
      · have h9 := xf_e hcd; exact Or.inl h9
      rcases orE_e hcd with hcd | hcd
      · have h9 := szE_e hcd; exact Or.inr (Or.inl h9)
      rcases orE_e hcd with hcd | hcd
      · have h9 := xo_e hcd; exact Or.inr (Or.inr (h9))
      rcases orE_e hcd with hcd | hcd
      · have h9 := xo_e hcd; exact Or.inr (Or.inr (h9))
      have h9 := xo_e hcd; exact Or.inr (Or.inr (h9))
    rcases hor with rfl | rfl | rfl
    · skip
      refine vx_catch (own := "TypeStackLaw") (name := NSE) hown (tableOf []) ⟨0, 6, 9, 19⟩ (tableOf [(0, 6, 12, 32), (0, 6, 15, 21)]) (htb.trans rfl) (fun z hz => by cases hz) (by decide) (by decide) (hw _ kC_L_19) (va_any (cw5_on _ (by decide +kernel)) (hE.2.2 (.castable NSE NSE) (by decide +kernel))) hce hcv hcl ?_
      refine lv_astore_n (lv' := [(3, .ref q), (0, .ref (z 0)), (1, .int x), (2, .int y)]) hx hb d_L_table_9 rfl hl (by decide) rfl (fun ls hl => ?_)
      refine lv_iconst (v := nI 1) hx hb d_L_table_10 (by decide) ?_
      exact W.iret hx hb hrt (fun t ht _ => ⟨⟨fun h8 => (by rw [he] at h8; cases h8), fun E8 h8 => (by rw [he] at h8; cases h8; exact ⟨by rw [show cdl [NSE, UOE, ISE] NSE = 1 by decide +kernel], by rw [ht]; exact hP, hD⟩)⟩, hS.F ht⟩) hS.2.2 d_L_table_11
    · skip
      refine vx_catch (own := "TypeStackLaw") (name := UOE) hown (tableOf [(0, 6, 9, 19)]) ⟨0, 6, 12, 32⟩ (tableOf [(0, 6, 15, 21)]) (htb.trans rfl) (pass1 (by decide) (hw _ kC_L_19) (hN (UOE, NSE) (by decide +kernel))) (by decide) (by decide) (hw _ kC_L_32) (va_any (cw5_on _ (by decide +kernel)) (hE.2.2 (.castable UOE UOE) (by decide +kernel))) hce hcv hcl ?_
      refine lv_astore_n (lv' := [(3, .ref q), (0, .ref (z 0)), (1, .int x), (2, .int y)]) hx hb d_L_table_12 rfl hl (by decide) rfl (fun ls hl => ?_)
      refine lv_iconst (v := nI 2) hx hb d_L_table_13 (by decide) ?_
      exact W.iret hx hb hrt (fun t ht _ => ⟨⟨fun h8 => (by rw [he] at h8; cases h8), fun E8 h8 => (by rw [he] at h8; cases h8; exact ⟨by rw [show cdl [NSE, UOE, ISE] UOE = 2 by decide +kernel], by rw [ht]; exact hP, hD⟩)⟩, hS.F ht⟩) hS.2.2 d_L_table_14
    · skip
      refine vx_catch (own := "TypeStackLaw") (name := ISE) hown (tableOf [(0, 6, 9, 19), (0, 6, 12, 32)]) ⟨0, 6, 15, 21⟩ (tableOf []) (htb.trans rfl) (pass2 (by decide) (hw _ kC_L_19) (hN (ISE, NSE) (by decide +kernel)) (by decide) (hw _ kC_L_32) (hN (ISE, UOE) (by decide +kernel))) (by decide) (by decide) (hw _ kC_L_21) (va_any (cw5_on _ (by decide +kernel)) (hE.2.2 (.castable ISE ISE) (by decide +kernel))) hce hcv hcl ?_
      refine lv_astore_n (lv' := [(3, .ref q), (0, .ref (z 0)), (1, .int x), (2, .int y)]) hx hb d_L_table_15 rfl hl (by decide) rfl (fun ls hl => ?_)
      refine lv_iconst (v := nI 3) hx hb d_L_table_16 (by decide) ?_
      exact W.iret hx hb hrt (fun t ht _ => ⟨⟨fun h8 => (by rw [he] at h8; cases h8), fun E8 h8 => (by rw [he] at h8; cases h8; exact ⟨by rw [show cdl [NSE, UOE, ISE] ISE = 3 by decide +kernel], by rw [ht]; exact hP, hD⟩)⟩, hS.F ht⟩) hS.2.2 d_L_table_17
  · skip
    have hP : va_P D cls2 (wT z cI cZ fT fK fA fB fF (va_up fE (xr - 1) 1) (fF (xr - 1)) xg xr (xn + 1)) H := hP
    have hD : va_D (va_A (wT z cI cZ fT fK fA fB fF fE xh xg xr xn) s.heap.size) (wT z cI cZ fT fK fA fB fF (va_up fE (xr - 1) 1) (fF (xr - 1)) xg xr (xn + 1)) := hD
    refine lv_goto hx hb d_L_table_6 (tgt := 18) (by decide) ?_
    refine lv_iconst (v := nI 0) hx hb d_L_table_18 (by decide) ?_
    exact W.iret hx hb hrt (fun t ht _ => ⟨⟨fun _ => ⟨rfl, by rw [ht]; exact hP, hD⟩, fun E8 h8 => (by rw [he] at h8; cases h8)⟩, hS.F ht⟩) hS.2.2 d_L_table_19

set_option maxHeartbeats 1000000 in
set_option maxRecDepth 100000 in
theorem c_L_back (l : Launch) (hl0 : l.stackTraces = false) (D : va_G) (z : Nat → Nat) (cI cZ : ClassId) (fT fK fA fB fF fE : Nat → Nat) (xh xg xr xn : Nat) (hi : IT fT fK fA fB fF fE xh xg xr) (cL : ClassId) (sz : Nat) : Met l y_L_back w_L_back rmL (PL D [(cI, .int), (cZ, .boolean), (cL, .long)] (wT z cI cZ fT fK fA fB fF fE xh xg xr xn) sz [.ref (z 0)]) (QL (orE (nf xr) (xo ISE (hbL (fF (xr - 1)) (fE (xr - 1)) fT 6 xh (fB 0)))) (cdl [NSE, ISE]) D (wT z cI cZ fT fK fA fB fF fE xh xg xr xn) (wT z cI cZ fT fK fA fB fF (va_up fE (xr - 1) 1) (fF (xr - 1)) xg xr (xn + 1)) sz) 1 6 (va_A (wT z cI cZ fT fK fA fB fF fE xh xg xr xn) sz) := by
  refine va_MetW (cc := b_L_back) (maxL := 2) (ret := (some .int)) (hh := [(0, 4, 7, 19), (0, 4, 10, 21)]) (by decide) rfl ?_
  intro p e s m args below meth c s₁ B hml hv
  obtain ⟨rfl, hsz, hP, hK, hD0, hE, hN⟩ := hv
  have hx := B.exec
  have hb := B.bytes
  have hrt := B.returns
  have hts := atoms_spec (ws := w_L_back) B.pre
  have hw : ∀ w ∈ bw, w.before ([.ref (z 0)] : List Value).toArray s = true := fun w h => hts w (List.mem_cons_of_mem _ h)
  have hown : s.vm.findClass "TypeStackLaw" = some m.cls := findClass_of_methodNamed B.named
  have htb := vx_table (x := y_L_back) B (hts _ List.mem_cons_self)
  subst hsz
  have hD := hD0.self (sz := s.heap.size)
  have hA : ∀ q : Nat, s.heap.size ≤ q → va_A (wT z cI cZ fT fK fA fB fF fE xh xg xr xn) s.heap.size q := fun q h => Or.inr h
  have hS : va_S (va_A (wT z cI cZ fT fK fA fB fF fE xh xg xr xn) s.heap.size) s.heap s.heap [] := va_S.rf
  have hl := lv_entry ([.ref (z 0)]) (n := 2) (Nat.le_of_ble_eq_true rfl)
  rw [lg_entry_eq]
  generalize (lg_sl ([.ref (z 0)]) ++ List.replicate (2 - (lg_sl ([.ref (z 0)])).length) Slot.unset).toArray = ls at hl ⊢
  have hl : lv_has ls 2 [(0, .ref (z 0))] := hl
  refine lv_aload_n hx hb d_L_back_0 rfl (lv_at hl 0 rfl) ?_
  have hPc := hP.sub (ws' := wT z cI cZ fT fK fA fB fF fE xh xg xr xn) [0, 1, 2, 3, 4, 5, 6] rfl
  have hDc := hD.sub (ws' := wT z cI cZ fT fK fA fB fF fE xh xg xr xn) [0, 1, 2, 3, 4, 5, 6] (by decide) rfl
  have hKc := hK.sub (tys' := [(cI, .int), (cZ, .boolean)]) [0, 1] rfl
  refine cl_xj (v := none) (Wc := wT z cI cZ fT fK fA fB fF fE xh xg xr xn) (Wr := []) hP hD hS hA [0, 1, 2, 3, 4, 5, 6] [] rfl rfl (by decide) (by decide) (vx_runV (b := z 0) (C := "TypeStack") (As := []) (rest := []) ⟨hx, hb, hml, hown, hw⟩ (c_T_back l hl0 D z cI cZ fT fK fA fB fF fE xh xg xr xn hi s.heap.size) (cwV 0 hw g_L_55 rfl rfl rfl ⟨rfl, by decide, by decide, by decide +kernel⟩ ⟨by decide, by decide⟩) ⟨PW.blind, va_recv (q := (RT, FT, 10)) (ci := 0) (q0 := 0) hKc hPc rfl rfl, PW.pre hPc hKc hDc hS hA hE⟩ rfl rfl hl.1 rfl (lv_room (Nat.le_of_ble_eq_true rfl)) d_L_back_1 ⟨by decide, by decide⟩) (fun E ce q H locs he hP hS hce hcv hcl => ?_) (fun he H locs hP hD hS => ?_)
  · skip
    have hcd := he
    have hor : E = NSE ∨ E = ISE := by
      rcases orE_e hcd with hcd | hcd
      · have h9 := nf_e hcd; exact Or.inl h9
      have h9 := xo_e hcd; exact Or.inr (h9)
    rcases hor with rfl | rfl
    · skip
      refine vx_catch (own := "TypeStackLaw") (name := NSE) hown (tableOf []) ⟨0, 4, 7, 19⟩ (tableOf [(0, 4, 10, 21)]) (htb.trans rfl) (fun z hz => by cases hz) (by decide) (by decide) (hw _ kC_L_19) (va_any (cw5_on _ (by decide +kernel)) (hE.2.2 (.castable NSE NSE) (by decide +kernel))) hce hcv hcl ?_
      refine lv_astore_n (lv' := [(1, .ref q), (0, .ref (z 0))]) hx hb d_L_back_7 rfl hl (by decide) rfl (fun ls hl => ?_)
      refine lv_iconst (v := nI 1) hx hb d_L_back_8 (by decide) ?_
      exact W.iret hx hb hrt (fun t ht _ => ⟨⟨fun h8 => (by rw [he] at h8; cases h8), fun E8 h8 => (by rw [he] at h8; cases h8; exact ⟨by rw [show cdl [NSE, ISE] NSE = 1 by decide +kernel], by rw [ht]; exact hP, hD⟩)⟩, hS.F ht⟩) hS.2.2 d_L_back_9
    · skip
      refine vx_catch (own := "TypeStackLaw") (name := ISE) hown (tableOf [(0, 4, 7, 19)]) ⟨0, 4, 10, 21⟩ (tableOf []) (htb.trans rfl) (pass1 (by decide) (hw _ kC_L_19) (hN (ISE, NSE) (by decide +kernel))) (by decide) (by decide) (hw _ kC_L_21) (va_any (cw5_on _ (by decide +kernel)) (hE.2.2 (.castable ISE ISE) (by decide +kernel))) hce hcv hcl ?_
      refine lv_astore_n (lv' := [(1, .ref q), (0, .ref (z 0))]) hx hb d_L_back_10 rfl hl (by decide) rfl (fun ls hl => ?_)
      refine lv_iconst (v := nI 2) hx hb d_L_back_11 (by decide) ?_
      exact W.iret hx hb hrt (fun t ht _ => ⟨⟨fun h8 => (by rw [he] at h8; cases h8), fun E8 h8 => (by rw [he] at h8; cases h8; exact ⟨by rw [show cdl [NSE, ISE] ISE = 2 by decide +kernel], by rw [ht]; exact hP, hD⟩)⟩, hS.F ht⟩) hS.2.2 d_L_back_12
  · skip
    have hP : va_P D cls2 (wT z cI cZ fT fK fA fB fF (va_up fE (xr - 1) 1) (fF (xr - 1)) xg xr (xn + 1)) H := hP
    have hD : va_D (va_A (wT z cI cZ fT fK fA fB fF fE xh xg xr xn) s.heap.size) (wT z cI cZ fT fK fA fB fF (va_up fE (xr - 1) 1) (fF (xr - 1)) xg xr (xn + 1)) := hD
    refine lv_goto hx hb d_L_back_4 (tgt := 13) (by decide) ?_
    refine lv_iconst (v := nI 0) hx hb d_L_back_13 (by decide) ?_
    exact W.iret hx hb hrt (fun t ht _ => ⟨⟨fun _ => ⟨rfl, by rw [ht]; exact hP, hD⟩, fun E8 h8 => (by rw [he] at h8; cases h8)⟩, hS.F ht⟩) hS.2.2 d_L_back_14

set_option maxHeartbeats 1000000 in
set_option maxRecDepth 100000 in
theorem c_L_never (l : Launch) (hl0 : l.stackTraces = false) (D : va_G) (z : Nat → Nat) (cI cZ : ClassId) (fT fK fA fB fF fE : Nat → Nat) (xh xg xr xn : Nat) (hi : IT fT fK fA fB fF fE xh xg xr) (cL : ClassId) (sz : Nat) : Met l y_L_never w_L_never rmL (PL D [(cI, .int), (cZ, .boolean), (cL, .long)] (wT z cI cZ fT fK fA fB fF fE xh xg xr xn) sz [.ref (z 0)]) (QL (nf xr) (cdl [NSE]) D (wT z cI cZ fT fK fA fB fF fE xh xg xr xn) (wT z cI cZ fT fK fA fB fF (va_up fE (xr - 1) 1) (fF (xr - 1)) xg xr (xn + 1)) sz) 1 6 (va_A (wT z cI cZ fT fK fA fB fF fE xh xg xr xn) sz) := by
  refine va_MetW (cc := b_L_never) (maxL := 2) (ret := (some .int)) (hh := [(0, 4, 7, 19)]) (by decide) rfl ?_
  intro p e s m args below meth c s₁ B hml hv
  obtain ⟨rfl, hsz, hP, hK, hD0, hE, hN⟩ := hv
  have hx := B.exec
  have hb := B.bytes
  have hrt := B.returns
  have hts := atoms_spec (ws := w_L_never) B.pre
  have hw : ∀ w ∈ bw, w.before ([.ref (z 0)] : List Value).toArray s = true := fun w h => hts w (List.mem_cons_of_mem _ h)
  have hown : s.vm.findClass "TypeStackLaw" = some m.cls := findClass_of_methodNamed B.named
  have htb := vx_table (x := y_L_never) B (hts _ List.mem_cons_self)
  subst hsz
  have hD := hD0.self (sz := s.heap.size)
  have hA : ∀ q : Nat, s.heap.size ≤ q → va_A (wT z cI cZ fT fK fA fB fF fE xh xg xr xn) s.heap.size q := fun q h => Or.inr h
  have hS : va_S (va_A (wT z cI cZ fT fK fA fB fF fE xh xg xr xn) s.heap.size) s.heap s.heap [] := va_S.rf
  have hl := lv_entry ([.ref (z 0)]) (n := 2) (Nat.le_of_ble_eq_true rfl)
  rw [lg_entry_eq]
  generalize (lg_sl ([.ref (z 0)]) ++ List.replicate (2 - (lg_sl ([.ref (z 0)])).length) Slot.unset).toArray = ls at hl ⊢
  have hl : lv_has ls 2 [(0, .ref (z 0))] := hl
  refine lv_aload_n hx hb d_L_never_0 rfl (lv_at hl 0 rfl) ?_
  have hPc := hP.sub (ws' := wT z cI cZ fT fK fA fB fF fE xh xg xr xn) [0, 1, 2, 3, 4, 5, 6] rfl
  have hDc := hD.sub (ws' := wT z cI cZ fT fK fA fB fF fE xh xg xr xn) [0, 1, 2, 3, 4, 5, 6] (by decide) rfl
  have hKc := hK.sub (tys' := [(cI, .int), (cZ, .boolean)]) [0, 1] rfl
  refine cl_xj (v := none) (Wc := wT z cI cZ fT fK fA fB fF fE xh xg xr xn) (Wr := []) hP hD hS hA [0, 1, 2, 3, 4, 5, 6] [] rfl rfl (by decide) (by decide) (vx_runV (b := z 0) (C := "TypeStack") (As := []) (rest := []) ⟨hx, hb, hml, hown, hw⟩ (c_T_never l hl0 D z cI cZ fT fK fA fB fF fE xh xg xr xn hi s.heap.size) (cwV 0 hw g_L_58 rfl rfl rfl ⟨rfl, by decide, by decide, by decide +kernel⟩ ⟨by decide, by decide⟩) ⟨PW.blind, va_recv (q := (RT, FT, 10)) (ci := 0) (q0 := 0) hKc hPc rfl rfl, PW.pre hPc hKc hDc hS hA hE⟩ rfl rfl hl.1 rfl (lv_room (Nat.le_of_ble_eq_true rfl)) d_L_never_1 ⟨by decide, by decide⟩) (fun E ce q H locs he hP hS hce hcv hcl => ?_) (fun he H locs hP hD hS => ?_)
  · skip
    have hcd := he
    have hor : E = NSE := by
      have h9 := nf_e hcd; exact h9
    subst hor
    refine vx_catch (own := "TypeStackLaw") (name := NSE) hown (tableOf []) ⟨0, 4, 7, 19⟩ (tableOf []) (htb.trans rfl) (fun z hz => by cases hz) (by decide) (by decide) (hw _ kC_L_19) (va_any (cw5_on _ (by decide +kernel)) (hE.2.2 (.castable NSE NSE) (by decide +kernel))) hce hcv hcl ?_
    refine lv_astore_n (lv' := [(1, .ref q), (0, .ref (z 0))]) hx hb d_L_never_7 rfl hl (by decide) rfl (fun ls hl => ?_)
    refine lv_iconst (v := nI 1) hx hb d_L_never_8 (by decide) ?_
    exact W.iret hx hb hrt (fun t ht _ => ⟨⟨fun h8 => (by rw [he] at h8; cases h8), fun E8 h8 => (by rw [he] at h8; cases h8; exact ⟨by rw [show cdl [NSE] NSE = 1 by decide +kernel], by rw [ht]; exact hP, hD⟩)⟩, hS.F ht⟩) hS.2.2 d_L_never_9
  · skip
    have hP : va_P D cls2 (wT z cI cZ fT fK fA fB fF (va_up fE (xr - 1) 1) (fF (xr - 1)) xg xr (xn + 1)) H := hP
    have hD : va_D (va_A (wT z cI cZ fT fK fA fB fF fE xh xg xr xn) s.heap.size) (wT z cI cZ fT fK fA fB fF (va_up fE (xr - 1) 1) (fF (xr - 1)) xg xr (xn + 1)) := hD
    refine lv_goto hx hb d_L_never_4 (tgt := 10) (by decide) ?_
    refine lv_iconst (v := nI 0) hx hb d_L_never_10 (by decide) ?_
    exact W.iret hx hb hrt (fun t ht _ => ⟨⟨fun _ => ⟨rfl, by rw [ht]; exact hP, hD⟩, fun E8 h8 => (by rw [he] at h8; cases h8)⟩, hS.F ht⟩) hS.2.2 d_L_never_11

set_option maxHeartbeats 1000000 in
set_option maxRecDepth 100000 in
theorem c_L_frame (l : Launch) (hl0 : l.stackTraces = false) (D : va_G) (z : Nat → Nat) (cI cZ : ClassId) (fT fK fA fB fF fE : Nat → Nat) (xh xg xr xn : Nat) (hi : IT fT fK fA fB fF fE xh xg xr) (x y : Int32) (cL : ClassId) (o : Nat) (g : Nat → Int64) (sz : Nat) : Met l y_L_frame w_L_frame rmL (PL D [(cI, .int), (cZ, .boolean), (cL, .long)] ((o, .inl (cL, 1, .inr (.inl g))) :: wT z cI cZ fT fK fA fB fF fE xh xg xr xn) sz [.ref (z 0), .int x, .int y, .ref o]) (QL (orE (xf xr x) (x6 y)) (cdl [NSE, IAE]) D ((o, .inl (cL, 1, .inr (.inl g))) :: wT z cI cZ fT fK fA fB fF fE xh xg xr xn) ((o, .inl (cL, 1, .inr (.inl (vp_updL g 0 (nI (frv y fK fA fB fF fE (xr - 1 - x.toNatClampNeg))).toInt64)))) :: wT z cI cZ fT fK fA fB fF fE xh xg xr xn) sz) 1 6 (va_A ((o, .inl (cL, 1, .inr (.inl g))) :: wT z cI cZ fT fK fA fB fF fE xh xg xr xn) sz) := by
  refine va_MetW (cc := b_L_frame) (maxL := 5) (ret := (some .int)) (hh := [(0, 10, 13, 19), (0, 10, 17, 13)]) (by decide) rfl ?_
  intro p e s m args below meth c s₁ B hml hv
  obtain ⟨rfl, hsz, hP, hK, hD0, hE, hN⟩ := hv
  have hx := B.exec
  have hb := B.bytes
  have hrt := B.returns
  have hts := atoms_spec (ws := w_L_frame) B.pre
  have hw : ∀ w ∈ bw, w.before ([.ref (z 0), .int x, .int y, .ref o] : List Value).toArray s = true := fun w h => hts w (List.mem_cons_of_mem _ h)
  have hown : s.vm.findClass "TypeStackLaw" = some m.cls := findClass_of_methodNamed B.named
  have htb := vx_table (x := y_L_frame) B (hts _ List.mem_cons_self)
  subst hsz
  have hD := hD0.self (sz := s.heap.size)
  have hA : ∀ q : Nat, s.heap.size ≤ q → va_A ((o, .inl (cL, 1, .inr (.inl g))) :: wT z cI cZ fT fK fA fB fF fE xh xg xr xn) s.heap.size q := fun q h => Or.inr h
  have hS : va_S (va_A ((o, .inl (cL, 1, .inr (.inl g))) :: wT z cI cZ fT fK fA fB fF fE xh xg xr xn) s.heap.size) s.heap s.heap [] := va_S.rf
  have hl := lv_entry ([.ref (z 0), .int x, .int y, .ref o]) (n := 5) (Nat.le_of_ble_eq_true rfl)
  rw [lg_entry_eq]
  generalize (lg_sl ([.ref (z 0), .int x, .int y, .ref o]) ++ List.replicate (5 - (lg_sl ([.ref (z 0), .int x, .int y, .ref o])).length) Slot.unset).toArray = ls at hl ⊢
  have hl : lv_has ls 5 [(0, .ref (z 0)), (1, .int x), (2, .int y), (3, .ref o)] := hl
  refine lv_aload_n hx hb d_L_frame_0 rfl (lv_at hl 3 rfl) ?_
  refine lv_iconst (v := nI 0) hx hb d_L_frame_1 (by decide) ?_
  refine lv_aload_n hx hb d_L_frame_2 rfl (lv_at hl 0 rfl) ?_
  refine lv_iload_n hx hb d_L_frame_3 rfl (lv_at hl 1 rfl) ?_
  refine lv_iload_n hx hb d_L_frame_4 rfl (lv_at hl 2 rfl) ?_
  have hPc := hP.sub (ws' := wT z cI cZ fT fK fA fB fF fE xh xg xr xn) [1, 2, 3, 4, 5, 6, 7] rfl
  have hDc := hD.sub (ws' := wT z cI cZ fT fK fA fB fF fE xh xg xr xn) [1, 2, 3, 4, 5, 6, 7] (by decide) rfl
  have hKc := hK.sub (tys' := [(cI, .int), (cZ, .boolean)]) [0, 1] rfl
  refine cl_xj (v := some (.int (nI (frv y fK fA fB fF fE (xr - 1 - x.toNatClampNeg))))) (Wc := wT z cI cZ fT fK fA fB fF fE xh xg xr xn) (Wr := [(o, .inl (cL, 1, .inr (.inl g)))]) hP hD hS hA [1, 2, 3, 4, 5, 6, 7] [0] rfl rfl (by decide) (by decide) (vx_runV (b := z 0) (C := "TypeStack") (As := [.int x, .int y]) (rest := [.int (nI 0), .ref o]) ⟨hx, hb, hml, hown, hw⟩ (c_T_frame l hl0 D z cI cZ fT fK fA fB fF fE xh xg xr xn hi x y s.heap.size) (cwV 2 hw g_L_61 rfl rfl rfl ⟨rfl, by decide, by decide, by decide +kernel⟩ ⟨by decide, by decide⟩) ⟨PW.blind, va_recv (q := (RT, FT, 10)) (ci := 0) (q0 := 0) hKc hPc rfl rfl, PW.pre hPc hKc hDc hS hA hE⟩ rfl rfl hl.1 rfl (lv_room (Nat.le_of_ble_eq_true rfl)) d_L_frame_5 ⟨by decide, by decide⟩) (fun E ce q H locs he hP hS hce hcv hcl => ?_) (fun he H locs hP hD hS => ?_)
  · skip
    have hcd := he
    have hor : E = NSE ∨ E = IAE := by
      rcases orE_e hcd with hcd | hcd
      · have h9 := xf_e hcd; exact Or.inl h9
      have h9 := x6_e hcd; exact Or.inr (h9)
    rcases hor with rfl | rfl
    · skip
      refine vx_catch (own := "TypeStackLaw") (name := NSE) hown (tableOf []) ⟨0, 10, 13, 19⟩ (tableOf [(0, 10, 17, 13)]) (htb.trans rfl) (fun z hz => by cases hz) (by decide) (by decide) (hw _ kC_L_19) (va_any (cw5_on _ (by decide +kernel)) (hE.2.2 (.castable NSE NSE) (by decide +kernel))) hce hcv hcl ?_
      refine lv_astore (lv' := [(4, .ref q), (0, .ref (z 0)), (1, .int x), (2, .int y), (3, .ref o)]) hx hb d_L_frame_13 hl (by decide) rfl (fun ls hl => ?_)
      refine lv_iconst (v := nI 1) hx hb d_L_frame_15 (by decide) ?_
      exact W.iret hx hb hrt (fun t ht _ => ⟨⟨fun h8 => (by rw [he] at h8; cases h8), fun E8 h8 => (by rw [he] at h8; cases h8; exact ⟨by rw [show cdl [NSE, IAE] NSE = 1 by decide +kernel], by rw [ht]; exact hP, hD⟩)⟩, hS.F ht⟩) hS.2.2 d_L_frame_16
    · skip
      refine vx_catch (own := "TypeStackLaw") (name := IAE) hown (tableOf [(0, 10, 13, 19)]) ⟨0, 10, 17, 13⟩ (tableOf []) (htb.trans rfl) (pass1 (by decide) (hw _ kC_L_19) (hN (IAE, NSE) (by decide +kernel))) (by decide) (by decide) (hw _ kC_L_13) (va_any (cw5_on _ (by decide +kernel)) (hE.2.2 (.castable IAE IAE) (by decide +kernel))) hce hcv hcl ?_
      refine lv_astore (lv' := [(4, .ref q), (0, .ref (z 0)), (1, .int x), (2, .int y), (3, .ref o)]) hx hb d_L_frame_17 hl (by decide) rfl (fun ls hl => ?_)
      refine lv_iconst (v := nI 2) hx hb d_L_frame_19 (by decide) ?_
      exact W.iret hx hb hrt (fun t ht _ => ⟨⟨fun h8 => (by rw [he] at h8; cases h8), fun E8 h8 => (by rw [he] at h8; cases h8; exact ⟨by rw [show cdl [NSE, IAE] IAE = 2 by decide +kernel], by rw [ht]; exact hP, hD⟩)⟩, hS.F ht⟩) hS.2.2 d_L_frame_20
  · skip
    have hP : va_P D cls2 ((o, .inl (cL, 1, .inr (.inl g))) :: wT z cI cZ fT fK fA fB fF fE xh xg xr xn) H := hP
    have hD : va_D (va_A ((o, .inl (cL, 1, .inr (.inl g))) :: wT z cI cZ fT fK fA fB fF fE xh xg xr xn) s.heap.size) ((o, .inl (cL, 1, .inr (.inl g))) :: wT z cI cZ fT fK fA fB fF fE xh xg xr xn) := hD
    refine lv_i2l (v := (nI (frv y fK fA fB fF fE (xr - 1 - x.toNatClampNeg))).toInt64) hx hb d_L_frame_8 rfl ?_
    refine va_last hx hb hK hP hD hS 0 2 rfl rfl (i := nI 0) (x := (nI (frv y fK fA fB fF fE (xr - 1 - x.toNatClampNeg))).toInt64) (vp_in_nI (by decide) (by decide)) d_L_frame_9 (fun H locs hP hD hS => ?_)
    have hP : va_P D cls2 ((o, .inl (cL, 1, .inr (.inl (vp_updL g 0 (nI (frv y fK fA fB fF fE (xr - 1 - x.toNatClampNeg))).toInt64)))) :: wT z cI cZ fT fK fA fB fF fE xh xg xr xn) H := hP
    have hD : va_D (va_A ((o, .inl (cL, 1, .inr (.inl g))) :: wT z cI cZ fT fK fA fB fF fE xh xg xr xn) s.heap.size) ((o, .inl (cL, 1, .inr (.inl (vp_updL g 0 (nI (frv y fK fA fB fF fE (xr - 1 - x.toNatClampNeg))).toInt64)))) :: wT z cI cZ fT fK fA fB fF fE xh xg xr xn) := hD
    refine lv_goto hx hb d_L_frame_10 (tgt := 21) (by decide) ?_
    refine lv_iconst (v := nI 0) hx hb d_L_frame_21 (by decide) ?_
    exact W.iret hx hb hrt (fun t ht _ => ⟨⟨fun _ => ⟨rfl, by rw [ht]; exact hP, hD⟩, fun E8 h8 => (by rw [he] at h8; cases h8)⟩, hS.F ht⟩) hS.2.2 d_L_frame_22
