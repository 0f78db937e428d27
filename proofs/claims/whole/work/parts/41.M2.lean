set_option maxHeartbeats 4000000 in
set_option maxRecDepth 100000 in
theorem c_M_begin (l : Launch) (D : va_G) (u : Nat → Nat) (cI cZ : ClassId) (gS gK gI gO gF gE gQ : Nat → Nat) (yt yn yr ym yd yk yb yc : Nat) (hi : IM gS gK gI gO gF gE yn ym yr) (x : Int32) (sz : Nat) : Met l y_M_begin w_M_begin (rmR 1) (PW D [(cI, .int), (cZ, .boolean)] (wM u cI cZ gS gK gI gO gF gE gQ yt yn yr ym yd yk yb yc) sz [.ref (u 0), .int x]) (QM D u cI cZ (wM u cI cZ gS gK gI gO gF gE gQ yt yn yr ym yd yk yb yc) sz (PMo (xl x) (cdl [IAE]) (none) (none) (Rel gS (va_up gK 0 0) (va_up gI 0 0) (va_up gO 0 x.toNatClampNeg) (va_up gF 0 0) (va_up gE 0 0) 0 0 (0 + 1) 0) (Rel gS gK gI gO gF gE yn ym yr yd))) 0 0 (va_A (wM u cI cZ gS gK gI gO gF gE gQ yt yn yr ym yd yk yb yc) sz) := by
  refine Met.ofW (cc := b_M_begin) (maxL := 2) (ret := none) (by decide) rfl ?_
  intro p e s m args below meth c s₁ B hml hv
  obtain ⟨rfl, hsz, hP, hK, hD0, hE⟩ := hv
  have hx := B.exec
  have hb := B.bytes
  have hrt := B.returns
  have hts := atoms_spec (ws := w_M_begin) B.pre
  have hw : ∀ w ∈ bw, w.before ([.ref (u 0), .int x]).toArray s = true := fun w h => hts w (List.mem_cons_of_mem _ h)
  have hown : s.vm.findClass "TypeStackModel" = some m.cls := findClass_of_methodNamed B.named
  have hlocks := B.notSynchronized
  subst hsz
  have hD := hD0.self (sz := s.heap.size)
  have hA : ∀ q : Nat, s.heap.size ≤ q → va_A (wM u cI cZ gS gK gI gO gF gE gQ yt yn yr ym yd yk yb yc) s.heap.size q := fun q h => Or.inr h
  have hS : va_S (va_A (wM u cI cZ gS gK gI gO gF gE gQ yt yn yr ym yd yk yb yc) s.heap.size) s.heap s.heap [] := va_S.rf
  have hK0 := hK.sub (tys' := []) [] rfl
  have hl := lv_entry ([.ref (u 0), .int x]) (n := 2) (Nat.le_of_ble_eq_true rfl)
  rw [lg_entry_eq]
  generalize (lg_sl ([.ref (u 0), .int x]) ++ List.replicate (2 - (lg_sl ([.ref (u 0), .int x])).length) Slot.unset).toArray = ls at hl ⊢
  have hl : lv_has ls 2 [(0, .ref (u 0)), (1, .int x)] := hl
  obtain ⟨giS, giK, giI, giO, giF, giE, gin, gim, gir⟩ := id hi
  refine lv_aload_n hx hb d_M_begin_0 rfl (lv_at hl 0 rfl) ?_
  refine lv_iload_n hx hb d_M_begin_1 rfl (lv_at hl 1 rfl) ?_
  refine cl_r (v := some (.int (nI ((lok x).toNat)))) (W.runS (As := [.int x]) (rest := [.ref (u 0)]) ⟨hx, hb, hml, hown, hw⟩ (c_M_isList l D x s.heap.size) (va_cwS 1 hw g_M_80 rfl rfl rfl ⟨by decide, by decide, by decide +kernel⟩ ⟨by decide, by decide⟩) ⟨PW.blind, PW.pre va_P.nil hK0 va_D.nil hS hA hE⟩ rfl rfl hl.1 rfl (lv_room (Nat.le_of_ble_eq_true rfl)) d_M_begin_2 ⟨by decide, by decide⟩) ?_
  have hq2 := tn_le (lok x)
  refine nw_ifeq hx hb (tgt := 12) d_M_begin_5 (by decide) (by omega) (fun h5 => ?_) (fun h5 => ?_)
  · skip
    have e5 : xl x = some IAE := xl_no h5
    refine lv_iconst (v := nI 1) hx hb d_M_begin_12 (by decide) ?_
    refine va_put (D := D) (ci := 1) (C := RM) (T := FM) (N := 15) (v := .int (nI 1)) (ty := .int) hx hb hw inM tM tM_ok nM hown hK hP hD hS 0 rfl rfl 0 (by decide) (hw _ kF_M_36) (fun _ h9 => h9) rfl (by decide +kernel) rfl rfl (Nat.le_of_ble_eq_true rfl) d_M_begin_13 (fun H locs hP hD hS => ?_)
    have hP : va_P D cls2 (wM u cI cZ gS gK gI gO gF gE gQ 1 yn yr ym yd yk yb yc) H := hP
    have hD : va_D (va_A (wM u cI cZ gS gK gI gO gF gE gQ yt yn yr ym yd yk yb yc) s.heap.size) (wM u cI cZ gS gK gI gO gF gE gQ 1 yn yr ym yd yk yb yc) := hD
    refine lv_aload_n hx hb d_M_begin_16 rfl (lv_at hl 0 rfl) ?_
    refine va_get (D := D) (ci := 1) (C := RM) (T := FM) (N := 15) (v := .int (nI 1)) hx hb hw inM hown hK hP 0 rfl rfl 0 (by decide) (hw _ kF_M_36) (fun _ h9 => h9) rfl d_M_begin_17 ?_
    refine nw_ifne hx hb (tgt := 28) d_M_begin_20 (by decide) (by omega) (fun h20 => ?_) (fun h20 => ?_)
    · skip
      have her : xl x = some IAE := e5
      exact W.vret hx hb hrt (fun t ht9 _ => ⟨⟨gS, gK, gI, gO, gF, gE, gQ, 1, yn, yr, ym, yd, yk, yb, yc, none, rfl, ⟨fun he => (by rw [her] at he; cases he), fun E he => by rw [her] at he; cases he; exact ⟨by decide +kernel, rfl, rel_rf⟩⟩, hi, by rw [ht9]; exact hP, hD⟩, hS.F ht9⟩) hS.2.2 d_M_begin_28
    · skip
      exfalso; omega
  · skip
    have e5 : xl x = none := xl_ok h5
    refine lv_iconst (v := nI 0) hx hb d_M_begin_8 (by decide) ?_
    refine lv_goto hx hb d_M_begin_9 (tgt := 13) (by decide) ?_
    refine va_put (D := D) (ci := 1) (C := RM) (T := FM) (N := 15) (v := .int (nI 0)) (ty := .int) hx hb hw inM tM tM_ok nM hown hK hP hD hS 0 rfl rfl 0 (by decide) (hw _ kF_M_36) (fun _ h9 => h9) rfl (by decide +kernel) rfl rfl (Nat.le_of_ble_eq_true rfl) d_M_begin_13 (fun H locs hP hD hS => ?_)
    have hP : va_P D cls2 (wM u cI cZ gS gK gI gO gF gE gQ 0 yn yr ym yd yk yb yc) H := hP
    have hD : va_D (va_A (wM u cI cZ gS gK gI gO gF gE gQ yt yn yr ym yd yk yb yc) s.heap.size) (wM u cI cZ gS gK gI gO gF gE gQ 0 yn yr ym yd yk yb yc) := hD
    refine lv_aload_n hx hb d_M_begin_16 rfl (lv_at hl 0 rfl) ?_
    refine va_get (D := D) (ci := 1) (C := RM) (T := FM) (N := 15) (v := .int (nI 0)) hx hb hw inM hown hK hP 0 rfl rfl 0 (by decide) (hw _ kF_M_36) (fun _ h9 => h9) rfl d_M_begin_17 ?_
    refine nw_ifne hx hb (tgt := 28) d_M_begin_20 (by decide) (by omega) (fun h20 => ?_) (fun h20 => ?_)
    · skip
      exfalso; omega
    · skip
      refine lv_aload_n hx hb d_M_begin_23 rfl (lv_at hl 0 rfl) ?_
      refine lv_iload_n hx hb d_M_begin_24 rfl (lv_at hl 1 rfl) ?_
      refine nw_is (y := nI x.toNatClampNeg) (xl_eq e5) ?_
      refine cl_w (v := none) hD hS hA (W.runV (b := u 0) (C := "TypeStackModel") (As := [.int (nI x.toNatClampNeg)]) (rest := []) ⟨hx, hb, hml, hown, hw⟩ (c_M_start l D u cI cZ gS gK gI gO gF gE gQ 0 yn yr ym yd yk yb yc x.toNatClampNeg H.size) (cwV 1 hw g_M_32 rfl rfl rfl ⟨rfl, by decide, by decide, by decide +kernel⟩ ⟨by decide, by decide⟩) ⟨PW.blind, va_recv (q := (RM, FM, 15)) (ci := 1) (q0 := 0) hK hP rfl rfl, PW.pre hP hK hD hS hA hE⟩ rfl rfl hl.1 rfl (lv_room (Nat.le_of_ble_eq_true rfl)) d_M_begin_25 ⟨by decide, by decide⟩) (fun H locs hP hD hS => ?_)
      have hP : va_P D cls2 (wM u cI cZ gS (va_up gK 0 0) (va_up gI 0 0) (va_up gO 0 x.toNatClampNeg) (va_up gF 0 0) (va_up gE 0 0) gQ 0 0 1 0 0 yk yb yc) H := hP
      have hD : va_D (va_A (wM u cI cZ gS gK gI gO gF gE gQ yt yn yr ym yd yk yb yc) s.heap.size) (wM u cI cZ gS (va_up gK 0 0) (va_up gI 0 0) (va_up gO 0 x.toNatClampNeg) (va_up gF 0 0) (va_up gE 0 0) gQ 0 0 1 0 0 yk yb yc) := hD
      have her : xl x = none := e5
      exact W.vret hx hb hrt (fun t ht9 _ => ⟨⟨gS, va_up gK 0 0, va_up gI 0 0, va_up gO 0 x.toNatClampNeg, va_up gF 0 0, va_up gE 0 0, gQ, 0, 0, 1, 0, 0, yk, yb, yc, none, rfl, ⟨fun _ => ⟨rfl, rfl, rel_rf⟩, fun E he => by rw [her] at he; cases he⟩, im_start hi (xl_lt e5), by rw [ht9]; exact hP, hD⟩, hS.F ht9⟩) hS.2.2 d_M_begin_28

set_option maxHeartbeats 4000000 in
set_option maxRecDepth 100000 in
theorem c_M_apply (l : Launch) (D : va_G) (u : Nat → Nat) (cI cZ : ClassId) (gS gK gI gO gF gE gQ : Nat → Nat) (yt yn yr ym yd yk yb yc : Nat) (hi : IM gS gK gI gO gF gE yn ym yr) (x y : Int32) (sz : Nat) : Met l y_M_apply w_M_apply (rmR 4) (PW D [(cI, .int), (cZ, .boolean)] (wM u cI cZ gS gK gI gO gF gE gQ yt yn yr ym yd yk yb yc) sz [.ref (u 0), .int x, .int y]) (QM D u cI cZ (wM u cI cZ gS gK gI gO gF gE gQ yt yn yr ym yd yk yb yc) sz (PMo (orE (xl x) (orE (xl y) (orE (nf yr) (orE (xo ISE (hbL (gF (yr - 1)) (gE (yr - 1)) gS 6 yn x.toNatClampNeg)) (rmE ((hbL (gF (yr - 1)) (gE (yr - 1)) gS 6 yn x.toNatClampNeg).getD 0 + szL 6 y.toNatClampNeg)))))) (cdl [IAE, NSE, ISE, AE]) (some (.int (nI ((hbL (gF (yr - 1)) (gE (yr - 1)) gS 6 yn x.toNatClampNeg).getD 0 + szL 6 y.toNatClampNeg)))) (some (.int (nI 0))) (Rel (pl gS ((hbL (gF (yr - 1)) (gE (yr - 1)) gS 6 yn x.toNatClampNeg).getD 0) (szL 6 y.toNatClampNeg) y.toNatClampNeg) gK gI gO gF gE (((hbL (gF (yr - 1)) (gE (yr - 1)) gS 6 yn x.toNatClampNeg).getD 0) + szL 6 y.toNatClampNeg) (max ym (((hbL (gF (yr - 1)) (gE (yr - 1)) gS 6 yn x.toNatClampNeg).getD 0) + szL 6 y.toNatClampNeg)) yr (yd + 1)) (Rel gS gK gI gO gF gE yn ym yr yd))) 0 0 (va_A (wM u cI cZ gS gK gI gO gF gE gQ yt yn yr ym yd yk yb yc) sz) := by
  refine Met.ofW (cc := b_M_apply) (maxL := 3) (ret := (some .int)) (by decide) rfl ?_
  intro p e s m args below meth c s₁ B hml hv
  obtain ⟨rfl, hsz, hP, hK, hD0, hE⟩ := hv
  have hx := B.exec
  have hb := B.bytes
  have hrt := B.returns
  have hts := atoms_spec (ws := w_M_apply) B.pre
  have hw : ∀ w ∈ bw, w.before ([.ref (u 0), .int x, .int y]).toArray s = true := fun w h => hts w (List.mem_cons_of_mem _ h)
  have hown : s.vm.findClass "TypeStackModel" = some m.cls := findClass_of_methodNamed B.named
  have hlocks := B.notSynchronized
  subst hsz
  have hD := hD0.self (sz := s.heap.size)
  have hA : ∀ q : Nat, s.heap.size ≤ q → va_A (wM u cI cZ gS gK gI gO gF gE gQ yt yn yr ym yd yk yb yc) s.heap.size q := fun q h => Or.inr h
  have hS : va_S (va_A (wM u cI cZ gS gK gI gO gF gE gQ yt yn yr ym yd yk yb yc) s.heap.size) s.heap s.heap [] := va_S.rf
  have hK0 := hK.sub (tys' := []) [] rfl
  have hl := lv_entry ([.ref (u 0), .int x, .int y]) (n := 3) (Nat.le_of_ble_eq_true rfl)
  rw [lg_entry_eq]
  generalize (lg_sl ([.ref (u 0), .int x, .int y]) ++ List.replicate (3 - (lg_sl ([.ref (u 0), .int x, .int y])).length) Slot.unset).toArray = ls at hl ⊢
  have hl : lv_has ls 3 [(0, .ref (u 0)), (1, .int x), (2, .int y)] := hl
  obtain ⟨giS, giK, giI, giO, giF, giE, gin, gim, gir⟩ := id hi
  refine lv_aload_n hx hb d_M_apply_0 rfl (lv_at hl 0 rfl) ?_
  refine lv_iload_n hx hb d_M_apply_1 rfl (lv_at hl 1 rfl) ?_
  refine cl_r (v := some (.int (nI ((lok x).toNat)))) (W.runS (As := [.int x]) (rest := [.ref (u 0)]) ⟨hx, hb, hml, hown, hw⟩ (c_M_isList l D x s.heap.size) (va_cwS 1 hw g_M_80 rfl rfl rfl ⟨by decide, by decide, by decide +kernel⟩ ⟨by decide, by decide⟩) ⟨PW.blind, PW.pre va_P.nil hK0 va_D.nil hS hA hE⟩ rfl rfl hl.1 rfl (lv_room (Nat.le_of_ble_eq_true rfl)) d_M_apply_2 ⟨by decide, by decide⟩) ?_
  have hq2 := tn_le (lok x)
  refine nw_ifeq hx hb (tgt := 15) d_M_apply_5 (by decide) (by omega) (fun h5 => ?_) (fun h5 => ?_)
  · skip
    have e5 : xl x = some IAE := xl_no h5
    refine lv_iconst (v := nI 1) hx hb d_M_apply_15 (by decide) ?_
    refine lv_goto hx hb d_M_apply_16 (tgt := 31) (by decide) ?_
    refine va_put (D := D) (ci := 1) (C := RM) (T := FM) (N := 15) (v := .int (nI 1)) (ty := .int) hx hb hw inM tM tM_ok nM hown hK hP hD hS 0 rfl rfl 0 (by decide) (hw _ kF_M_36) (fun _ h9 => h9) rfl (by decide +kernel) rfl rfl (Nat.le_of_ble_eq_true rfl) d_M_apply_31 (fun H locs hP hD hS => ?_)
    have hP : va_P D cls2 (wM u cI cZ gS gK gI gO gF gE gQ 1 yn yr ym yd yk yb yc) H := hP
    have hD : va_D (va_A (wM u cI cZ gS gK gI gO gF gE gQ yt yn yr ym yd yk yb yc) s.heap.size) (wM u cI cZ gS gK gI gO gF gE gQ 1 yn yr ym yd yk yb yc) := hD
    refine lv_aload_n hx hb d_M_apply_34 rfl (lv_at hl 0 rfl) ?_
    refine va_get (D := D) (ci := 1) (C := RM) (T := FM) (N := 15) (v := .int (nI 1)) hx hb hw inM hown hK hP 0 rfl rfl 0 (by decide) (hw _ kF_M_36) (fun _ h9 => h9) rfl d_M_apply_35 ?_
    refine nw_ifle hx hb (tgt := 43) d_M_apply_38 (by decide) (by omega) (fun h38 => ?_) (fun h38 => ?_)
    · skip
      exfalso; omega
    · skip
      refine lv_iconst (v := nI 0) hx hb d_M_apply_41 (by decide) ?_
      have her : orE (xl x) (orE (xl y) (orE (nf yr) (orE (xo ISE (hbL (gF (yr - 1)) (gE (yr - 1)) gS 6 yn x.toNatClampNeg)) (rmE ((hbL (gF (yr - 1)) (gE (yr - 1)) gS 6 yn x.toNatClampNeg).getD 0 + szL 6 y.toNatClampNeg))))) = some IAE := by simp only [orE, e5]
      exact W.iret hx hb hrt (fun t ht9 _ => ⟨⟨gS, gK, gI, gO, gF, gE, gQ, 1, yn, yr, ym, yd, yk, yb, yc, some (.int (nI 0)), rfl, ⟨fun he => (by rw [her] at he; cases he), fun E he => by rw [her] at he; cases he; exact ⟨by decide +kernel, rfl, rel_rf⟩⟩, hi, by rw [ht9]; exact hP, hD⟩, hS.F ht9⟩) hS.2.2 d_M_apply_42
  · skip
    have e5 : xl x = none := xl_ok h5
    refine lv_iload_n hx hb d_M_apply_8 rfl (lv_at hl 2 rfl) ?_
    refine cl_r (v := some (.int (nI ((lok y).toNat)))) (W.runS (As := [.int y]) (rest := [.ref (u 0)]) ⟨hx, hb, hml, hown, hw⟩ (c_M_isList l D y s.heap.size) (va_cwS 1 hw g_M_80 rfl rfl rfl ⟨by decide, by decide, by decide +kernel⟩ ⟨by decide, by decide⟩) ⟨PW.blind, PW.pre va_P.nil hK0 va_D.nil hS hA hE⟩ rfl rfl hl.1 rfl (lv_room (Nat.le_of_ble_eq_true rfl)) d_M_apply_9 ⟨by decide, by decide⟩) ?_
    have hq9 := tn_le (lok y)
    refine nw_ifne hx hb (tgt := 19) d_M_apply_12 (by decide) (by omega) (fun h12 => ?_) (fun h12 => ?_)
    · skip
      have e12 : xl y = none := xl_ok h12
      refine lv_aload_n hx hb d_M_apply_19 rfl (lv_at hl 0 rfl) ?_
      refine va_get (D := D) (ci := 1) (C := RM) (T := FM) (N := 15) (v := .int (nI yr)) hx hb hw inM hown hK hP 0 rfl rfl 8 (by decide) (hw _ kF_M_43) (fun _ h9 => h9) rfl d_M_apply_20 ?_
      refine nw_ifne hx hb (tgt := 30) d_M_apply_23 (by decide) (by omega) (fun h23 => ?_) (fun h23 => ?_)
      · skip
        have ef : nf yr = none := nf_ok h23
        refine lv_iconst (v := nI 0) hx hb d_M_apply_30 (by decide) ?_
        refine va_put (D := D) (ci := 1) (C := RM) (T := FM) (N := 15) (v := .int (nI 0)) (ty := .int) hx hb hw inM tM tM_ok nM hown hK hP hD hS 0 rfl rfl 0 (by decide) (hw _ kF_M_36) (fun _ h9 => h9) rfl (by decide +kernel) rfl rfl (Nat.le_of_ble_eq_true rfl) d_M_apply_31 (fun H locs hP hD hS => ?_)
        have hP : va_P D cls2 (wM u cI cZ gS gK gI gO gF gE gQ 0 yn yr ym yd yk yb yc) H := hP
        have hD : va_D (va_A (wM u cI cZ gS gK gI gO gF gE gQ yt yn yr ym yd yk yb yc) s.heap.size) (wM u cI cZ gS gK gI gO gF gE gQ 0 yn yr ym yd yk yb yc) := hD
        refine lv_aload_n hx hb d_M_apply_34 rfl (lv_at hl 0 rfl) ?_
        refine va_get (D := D) (ci := 1) (C := RM) (T := FM) (N := 15) (v := .int (nI 0)) hx hb hw inM hown hK hP 0 rfl rfl 0 (by decide) (hw _ kF_M_36) (fun _ h9 => h9) rfl d_M_apply_35 ?_
        refine nw_ifle hx hb (tgt := 43) d_M_apply_38 (by decide) (by omega) (fun h38 => ?_) (fun h38 => ?_)
        · skip
          have hjx := xl_lt e5
          have hjy := xl_lt e12
          have hta := tA_le (gF (yr - 1)) (gE (yr - 1)) gS 6 x.toNatClampNeg yn yc 0
          have hsz := szL_le 6 y.toNatClampNeg
          refine lv_aload_n hx hb d_M_apply_43 rfl (lv_at hl 0 rfl) ?_
          refine cl_w (v := none) hD hS hA (W.runV (b := u 0) (C := "TypeStackModel") (As := []) (rest := []) ⟨hx, hb, hml, hown, hw⟩ (c_M_keep l D u cI cZ gS gK gI gO gF gE gQ 0 yn yr ym yd yk yb yc (by omega) H.size) (cwV 0 hw g_M_84 rfl rfl rfl ⟨rfl, by decide, by decide, by decide +kernel⟩ ⟨by decide, by decide⟩) ⟨PW.blind, va_recv (q := (RM, FM, 15)) (ci := 1) (q0 := 0) hK hP rfl rfl, PW.pre hP hK hD hS hA hE⟩ rfl rfl hl.1 rfl (lv_room (Nat.le_of_ble_eq_true rfl)) d_M_apply_44 ⟨by decide, by decide⟩) (fun H locs hP hD hS => ?_)
          have hP : va_P D cls2 (wM u cI cZ gS gK gI gO gF gE (cpn gQ gS yn) 0 yn yr ym yd yn 0 yc) H := hP
          have hD : va_D (va_A (wM u cI cZ gS gK gI gO gF gE gQ yt yn yr ym yd yk yb yc) s.heap.size) (wM u cI cZ gS gK gI gO gF gE (cpn gQ gS yn) 0 yn yr ym yd yn 0 yc) := hD
          refine lv_aload_n hx hb d_M_apply_47 rfl (lv_at hl 0 rfl) ?_
          refine lv_iload_n hx hb d_M_apply_48 rfl (lv_at hl 1 rfl) ?_
          refine nw_is (y := nI x.toNatClampNeg) (xl_eq e5) ?_
          refine cl_w (v := none) hD hS hA (W.runV (b := u 0) (C := "TypeStackModel") (As := [.int (nI x.toNatClampNeg)]) (rest := []) ⟨hx, hb, hml, hown, hw⟩ (c_M_takeAll l D u cI cZ gS gK gI gO gF gE (cpn gQ gS yn) 0 yn yr ym yd yn 0 yc x.toNatClampNeg (by omega) (by omega) (by omega) (by omega) giF giE giS H.size) (cwV 1 hw g_M_87 rfl rfl rfl ⟨rfl, by decide, by decide, by decide +kernel⟩ ⟨by decide, by decide⟩) ⟨PW.blind, va_recv (q := (RM, FM, 15)) (ci := 1) (q0 := 0) hK hP rfl rfl, PW.pre hP hK hD hS hA hE⟩ rfl rfl hl.1 rfl (lv_room (Nat.le_of_ble_eq_true rfl)) d_M_apply_49 ⟨by decide, by decide⟩) (fun H locs hP hD hS => ?_)
          have hP : va_P D cls2 (wM u cI cZ gS gK gI gO gF gE (cpn gQ gS yn) 0 ((tA (gF (yr - 1)) (gE (yr - 1)) gS 6 x.toNatClampNeg (yn, yc, 0)).1) yr ym yd yn ((tA (gF (yr - 1)) (gE (yr - 1)) gS 6 x.toNatClampNeg (yn, yc, 0)).2.2) ((tA (gF (yr - 1)) (gE (yr - 1)) gS 6 x.toNatClampNeg (yn, yc, 0)).2.1)) H := hP
          have hD : va_D (va_A (wM u cI cZ gS gK gI gO gF gE gQ yt yn yr ym yd yk yb yc) s.heap.size) (wM u cI cZ gS gK gI gO gF gE (cpn gQ gS yn) 0 ((tA (gF (yr - 1)) (gE (yr - 1)) gS 6 x.toNatClampNeg (yn, yc, 0)).1) yr ym yd yn ((tA (gF (yr - 1)) (gE (yr - 1)) gS 6 x.toNatClampNeg (yn, yc, 0)).2.2) ((tA (gF (yr - 1)) (gE (yr - 1)) gS 6 x.toNatClampNeg (yn, yc, 0)).2.1)) := hD
          refine lv_aload_n hx hb d_M_apply_52 rfl (lv_at hl 0 rfl) ?_
          refine va_get (D := D) (ci := 1) (C := RM) (T := FM) (N := 15) (v := .int (nI ((tA (gF (yr - 1)) (gE (yr - 1)) gS 6 x.toNatClampNeg (yn, yc, 0)).2.2))) hx hb hw inM hown hK hP 0 rfl rfl 13 (by decide) (hw _ kF_M_55) (fun _ h9 => h9) rfl d_M_apply_53 ?_
          refine nw_ifeq hx hb (tgt := 65) d_M_apply_56 (by decide) (by omega) (fun h56 => ?_) (fun h56 => ?_)
          · skip
            have ht : hbL (gF (yr - 1)) (gE (yr - 1)) gS 6 yn x.toNatClampNeg = some (tA (gF (yr - 1)) (gE (yr - 1)) gS 6 x.toNatClampNeg (yn, yc, 0)).1 := tA_ok h56
            have et : xo ISE (hbL (gF (yr - 1)) (gE (yr - 1)) gS 6 yn x.toNatClampNeg) = none := by rw [ht]; rfl
            refine lv_aload_n hx hb d_M_apply_65 rfl (lv_at hl 0 rfl) ?_
            refine lv_iload_n hx hb d_M_apply_66 rfl (lv_at hl 2 rfl) ?_
            refine nw_is (y := nI y.toNatClampNeg) (xl_eq e12) ?_
            refine cl_w (v := none) hD hS hA (W.runV (b := u 0) (C := "TypeStackModel") (As := [.int (nI y.toNatClampNeg)]) (rest := []) ⟨hx, hb, hml, hown, hw⟩ (c_M_putAll l D u cI cZ gS gK gI gO gF gE (cpn gQ gS yn) 0 ((tA (gF (yr - 1)) (gE (yr - 1)) gS 6 x.toNatClampNeg (yn, yc, 0)).1) yr ym yd yn ((tA (gF (yr - 1)) (gE (yr - 1)) gS 6 x.toNatClampNeg (yn, yc, 0)).2.2) ((tA (gF (yr - 1)) (gE (yr - 1)) gS 6 x.toNatClampNeg (yn, yc, 0)).2.1) y.toNatClampNeg (by omega) (by omega) H.size) (cwV 1 hw g_M_94 rfl rfl rfl ⟨rfl, by decide, by decide, by decide +kernel⟩ ⟨by decide, by decide⟩) ⟨PW.blind, va_recv (q := (RM, FM, 15)) (ci := 1) (q0 := 0) hK hP rfl rfl, PW.pre hP hK hD hS hA hE⟩ rfl rfl hl.1 rfl (lv_room (Nat.le_of_ble_eq_true rfl)) d_M_apply_67 ⟨by decide, by decide⟩) (fun H locs hP hD hS => ?_)
            have hP : va_P D cls2 (wM u cI cZ (pl gS ((tA (gF (yr - 1)) (gE (yr - 1)) gS 6 x.toNatClampNeg (yn, yc, 0)).1) (szL 6 y.toNatClampNeg) y.toNatClampNeg) gK gI gO gF gE (cpn gQ gS yn) 0 (((tA (gF (yr - 1)) (gE (yr - 1)) gS 6 x.toNatClampNeg (yn, yc, 0)).1) + szL 6 y.toNatClampNeg) yr ym yd yn ((tA (gF (yr - 1)) (gE (yr - 1)) gS 6 x.toNatClampNeg (yn, yc, 0)).2.2) ((tA (gF (yr - 1)) (gE (yr - 1)) gS 6 x.toNatClampNeg (yn, yc, 0)).2.1)) H := hP
            have hD : va_D (va_A (wM u cI cZ gS gK gI gO gF gE gQ yt yn yr ym yd yk yb yc) s.heap.size) (wM u cI cZ (pl gS ((tA (gF (yr - 1)) (gE (yr - 1)) gS 6 x.toNatClampNeg (yn, yc, 0)).1) (szL 6 y.toNatClampNeg) y.toNatClampNeg) gK gI gO gF gE (cpn gQ gS yn) 0 (((tA (gF (yr - 1)) (gE (yr - 1)) gS 6 x.toNatClampNeg (yn, yc, 0)).1) + szL 6 y.toNatClampNeg) yr ym yd yn ((tA (gF (yr - 1)) (gE (yr - 1)) gS 6 x.toNatClampNeg (yn, yc, 0)).2.2) ((tA (gF (yr - 1)) (gE (yr - 1)) gS 6 x.toNatClampNeg (yn, yc, 0)).2.1)) := hD
            refine lv_aload_n hx hb d_M_apply_70 rfl (lv_at hl 0 rfl) ?_
            refine va_get (D := D) (ci := 1) (C := RM) (T := FM) (N := 15) (v := .int (nI (((tA (gF (yr - 1)) (gE (yr - 1)) gS 6 x.toNatClampNeg (yn, yc, 0)).1) + szL 6 y.toNatClampNeg))) hx hb hw inM hown hK hP 0 rfl rfl 7 (by decide) (hw _ kF_M_40) (fun _ h9 => h9) rfl d_M_apply_71 ?_
            refine lv_sipush (v := nI 300) hx hb d_M_apply_74 (by decide) ?_
            refine nw_le hx hb (tgt := 86) d_M_apply_77 (by decide) (by omega) (by omega) (fun h77 => ?_) (fun h77 => ?_)
            · skip
              have er : rmE ((hbL (gF (yr - 1)) (gE (yr - 1)) gS 6 yn x.toNatClampNeg).getD 0 + szL 6 y.toNatClampNeg) = none := by rw [ht]; exact rm_ok h77
              refine lv_aload_n hx hb d_M_apply_86 rfl (lv_at hl 0 rfl) ?_
              refine cl_w (v := none) hD hS hA (W.runV (b := u 0) (C := "TypeStackModel") (As := []) (rest := []) ⟨hx, hb, hml, hown, hw⟩ (c_M_well l D u cI cZ (pl gS ((tA (gF (yr - 1)) (gE (yr - 1)) gS 6 x.toNatClampNeg (yn, yc, 0)).1) (szL 6 y.toNatClampNeg) y.toNatClampNeg) gK gI gO gF gE (cpn gQ gS yn) 0 (((tA (gF (yr - 1)) (gE (yr - 1)) gS 6 x.toNatClampNeg (yn, yc, 0)).1) + szL 6 y.toNatClampNeg) yr ym yd yn ((tA (gF (yr - 1)) (gE (yr - 1)) gS 6 x.toNatClampNeg (yn, yc, 0)).2.2) ((tA (gF (yr - 1)) (gE (yr - 1)) gS 6 x.toNatClampNeg (yn, yc, 0)).2.1) (by omega) (by omega) H.size) (cwV 0 hw g_M_97 rfl rfl rfl ⟨rfl, by decide, by decide, by decide +kernel⟩ ⟨by decide, by decide⟩) ⟨PW.blind, va_recv (q := (RM, FM, 15)) (ci := 1) (q0 := 0) hK hP rfl rfl, PW.pre hP hK hD hS hA hE⟩ rfl rfl hl.1 rfl (lv_room (Nat.le_of_ble_eq_true rfl)) d_M_apply_87 ⟨by decide, by decide⟩) (fun H locs hP hD hS => ?_)
              have hP : va_P D cls2 (wM u cI cZ (pl gS ((tA (gF (yr - 1)) (gE (yr - 1)) gS 6 x.toNatClampNeg (yn, yc, 0)).1) (szL 6 y.toNatClampNeg) y.toNatClampNeg) gK gI gO gF gE (cpn gQ gS yn) 0 (((tA (gF (yr - 1)) (gE (yr - 1)) gS 6 x.toNatClampNeg (yn, yc, 0)).1) + szL 6 y.toNatClampNeg) yr (max ym (((tA (gF (yr - 1)) (gE (yr - 1)) gS 6 x.toNatClampNeg (yn, yc, 0)).1) + szL 6 y.toNatClampNeg)) (yd + 1) yn ((tA (gF (yr - 1)) (gE (yr - 1)) gS 6 x.toNatClampNeg (yn, yc, 0)).2.2) ((tA (gF (yr - 1)) (gE (yr - 1)) gS 6 x.toNatClampNeg (yn, yc, 0)).2.1)) H := hP
              have hD : va_D (va_A (wM u cI cZ gS gK gI gO gF gE gQ yt yn yr ym yd yk yb yc) s.heap.size) (wM u cI cZ (pl gS ((tA (gF (yr - 1)) (gE (yr - 1)) gS 6 x.toNatClampNeg (yn, yc, 0)).1) (szL 6 y.toNatClampNeg) y.toNatClampNeg) gK gI gO gF gE (cpn gQ gS yn) 0 (((tA (gF (yr - 1)) (gE (yr - 1)) gS 6 x.toNatClampNeg (yn, yc, 0)).1) + szL 6 y.toNatClampNeg) yr (max ym (((tA (gF (yr - 1)) (gE (yr - 1)) gS 6 x.toNatClampNeg (yn, yc, 0)).1) + szL 6 y.toNatClampNeg)) (yd + 1) yn ((tA (gF (yr - 1)) (gE (yr - 1)) gS 6 x.toNatClampNeg (yn, yc, 0)).2.2) ((tA (gF (yr - 1)) (gE (yr - 1)) gS 6 x.toNatClampNeg (yn, yc, 0)).2.1)) := hD
              refine lv_aload_n hx hb d_M_apply_90 rfl (lv_at hl 0 rfl) ?_
              refine va_get (D := D) (ci := 1) (C := RM) (T := FM) (N := 15) (v := .int (nI (((tA (gF (yr - 1)) (gE (yr - 1)) gS 6 x.toNatClampNeg (yn, yc, 0)).1) + szL 6 y.toNatClampNeg))) hx hb hw inM hown hK hP 0 rfl rfl 7 (by decide) (hw _ kF_M_40) (fun _ h9 => h9) rfl d_M_apply_91 ?_
              have her : orE (xl x) (orE (xl y) (orE (nf yr) (orE (xo ISE (hbL (gF (yr - 1)) (gE (yr - 1)) gS 6 yn x.toNatClampNeg)) (rmE ((hbL (gF (yr - 1)) (gE (yr - 1)) gS 6 yn x.toNatClampNeg).getD 0 + szL 6 y.toNatClampNeg))))) = none := by simp only [orE, e5, e12, ef, et, er]
              exact W.iret hx hb hrt (fun t ht9 _ => ⟨⟨pl gS ((tA (gF (yr - 1)) (gE (yr - 1)) gS 6 x.toNatClampNeg (yn, yc, 0)).1) (szL 6 y.toNatClampNeg) y.toNatClampNeg, gK, gI, gO, gF, gE, cpn gQ gS yn, 0, ((tA (gF (yr - 1)) (gE (yr - 1)) gS 6 x.toNatClampNeg (yn, yc, 0)).1) + szL 6 y.toNatClampNeg, yr, max ym (((tA (gF (yr - 1)) (gE (yr - 1)) gS 6 x.toNatClampNeg (yn, yc, 0)).1) + szL 6 y.toNatClampNeg), yd + 1, yn, (tA (gF (yr - 1)) (gE (yr - 1)) gS 6 x.toNatClampNeg (yn, yc, 0)).2.2, (tA (gF (yr - 1)) (gE (yr - 1)) gS 6 x.toNatClampNeg (yn, yc, 0)).2.1, some (.int (nI (((tA (gF (yr - 1)) (gE (yr - 1)) gS 6 x.toNatClampNeg (yn, yc, 0)).1) + szL 6 y.toNatClampNeg))), rfl, ⟨fun _ => ⟨rfl, by rw [ht]; rfl, by rw [ht]; exact rel_rf⟩, fun E he => by rw [her] at he; cases he⟩, ⟨pl_lt giS, giK, giI, giO, giF, giE, by omega, by omega, gir⟩, by rw [ht9]; exact hP, hD⟩, hS.F ht9⟩) hS.2.2 d_M_apply_94
            · skip
              have er : rmE ((hbL (gF (yr - 1)) (gE (yr - 1)) gS 6 yn x.toNatClampNeg).getD 0 + szL 6 y.toNatClampNeg) = some AE := by rw [ht]; exact rm_no h77
              refine lv_aload_n hx hb d_M_apply_80 rfl (lv_at hl 0 rfl) ?_
              refine lv_iconst (v := nI 4) hx hb d_M_apply_81 (by decide) ?_
              refine cl_w (v := some (.int (nI 0))) hD hS hA (W.runV (b := u 0) (C := "TypeStackModel") (As := [.int (nI 4)]) (rest := []) ⟨hx, hb, hml, hown, hw⟩ (c_M_undo l D u cI cZ (pl gS ((tA (gF (yr - 1)) (gE (yr - 1)) gS 6 x.toNatClampNeg (yn, yc, 0)).1) (szL 6 y.toNatClampNeg) y.toNatClampNeg) gK gI gO gF gE (cpn gQ gS yn) 0 (((tA (gF (yr - 1)) (gE (yr - 1)) gS 6 x.toNatClampNeg (yn, yc, 0)).1) + szL 6 y.toNatClampNeg) yr ym yd yn ((tA (gF (yr - 1)) (gE (yr - 1)) gS 6 x.toNatClampNeg (yn, yc, 0)).2.2) ((tA (gF (yr - 1)) (gE (yr - 1)) gS 6 x.toNatClampNeg (yn, yc, 0)).2.1) 4 (by omega) H.size) (cwV 1 hw g_M_90 rfl rfl rfl ⟨rfl, by decide, by decide, by decide +kernel⟩ ⟨by decide, by decide⟩) ⟨PW.blind, va_recv (q := (RM, FM, 15)) (ci := 1) (q0 := 0) hK hP rfl rfl, PW.pre hP hK hD hS hA hE⟩ rfl rfl hl.1 rfl (lv_room (Nat.le_of_ble_eq_true rfl)) d_M_apply_82 ⟨by decide, by decide⟩) (fun H locs hP hD hS => ?_)
              have hP : va_P D cls2 (wM u cI cZ (cpn (pl gS ((tA (gF (yr - 1)) (gE (yr - 1)) gS 6 x.toNatClampNeg (yn, yc, 0)).1) (szL 6 y.toNatClampNeg) y.toNatClampNeg) (cpn gQ gS yn) yn) gK gI gO gF gE (cpn gQ gS yn) 4 yn yr ym yd yn ((tA (gF (yr - 1)) (gE (yr - 1)) gS 6 x.toNatClampNeg (yn, yc, 0)).2.2) ((tA (gF (yr - 1)) (gE (yr - 1)) gS 6 x.toNatClampNeg (yn, yc, 0)).2.1)) H := hP
              have hD : va_D (va_A (wM u cI cZ gS gK gI gO gF gE gQ yt yn yr ym yd yk yb yc) s.heap.size) (wM u cI cZ (cpn (pl gS ((tA (gF (yr - 1)) (gE (yr - 1)) gS 6 x.toNatClampNeg (yn, yc, 0)).1) (szL 6 y.toNatClampNeg) y.toNatClampNeg) (cpn gQ gS yn) yn) gK gI gO gF gE (cpn gQ gS yn) 4 yn yr ym yd yn ((tA (gF (yr - 1)) (gE (yr - 1)) gS 6 x.toNatClampNeg (yn, yc, 0)).2.2) ((tA (gF (yr - 1)) (gE (yr - 1)) gS 6 x.toNatClampNeg (yn, yc, 0)).2.1)) := hD
              have her : orE (xl x) (orE (xl y) (orE (nf yr) (orE (xo ISE (hbL (gF (yr - 1)) (gE (yr - 1)) gS 6 yn x.toNatClampNeg)) (rmE ((hbL (gF (yr - 1)) (gE (yr - 1)) gS 6 yn x.toNatClampNeg).getD 0 + szL 6 y.toNatClampNeg))))) = some AE := by simp only [orE, e5, e12, ef, et, er]
              exact W.iret hx hb hrt (fun t ht9 _ => ⟨⟨cpn (pl gS ((tA (gF (yr - 1)) (gE (yr - 1)) gS 6 x.toNatClampNeg (yn, yc, 0)).1) (szL 6 y.toNatClampNeg) y.toNatClampNeg) (cpn gQ gS yn) yn, gK, gI, gO, gF, gE, cpn gQ gS yn, 4, yn, yr, ym, yd, yn, (tA (gF (yr - 1)) (gE (yr - 1)) gS 6 x.toNatClampNeg (yn, yc, 0)).2.2, (tA (gF (yr - 1)) (gE (yr - 1)) gS 6 x.toNatClampNeg (yn, yc, 0)).2.1, some (.int (nI 0)), rfl, ⟨fun he => (by rw [her] at he; cases he), fun E he => by rw [her] at he; cases he; exact ⟨by decide +kernel, rfl, rel_undo⟩⟩, im_undo hi (pl_lt giS), by rw [ht9]; exact hP, hD⟩, hS.F ht9⟩) hS.2.2 d_M_apply_85
          · skip
            have ht : hbL (gF (yr - 1)) (gE (yr - 1)) gS 6 yn x.toNatClampNeg = none := tA_no h56
            have et : xo ISE (hbL (gF (yr - 1)) (gE (yr - 1)) gS 6 yn x.toNatClampNeg) = some ISE := by rw [ht]; rfl
            refine lv_aload_n hx hb d_M_apply_59 rfl (lv_at hl 0 rfl) ?_
            refine lv_iconst (v := nI 3) hx hb d_M_apply_60 (by decide) ?_
            refine cl_w (v := some (.int (nI 0))) hD hS hA (W.runV (b := u 0) (C := "TypeStackModel") (As := [.int (nI 3)]) (rest := []) ⟨hx, hb, hml, hown, hw⟩ (c_M_undo l D u cI cZ gS gK gI gO gF gE (cpn gQ gS yn) 0 ((tA (gF (yr - 1)) (gE (yr - 1)) gS 6 x.toNatClampNeg (yn, yc, 0)).1) yr ym yd yn ((tA (gF (yr - 1)) (gE (yr - 1)) gS 6 x.toNatClampNeg (yn, yc, 0)).2.2) ((tA (gF (yr - 1)) (gE (yr - 1)) gS 6 x.toNatClampNeg (yn, yc, 0)).2.1) 3 (by omega) H.size) (cwV 1 hw g_M_90 rfl rfl rfl ⟨rfl, by decide, by decide, by decide +kernel⟩ ⟨by decide, by decide⟩) ⟨PW.blind, va_recv (q := (RM, FM, 15)) (ci := 1) (q0 := 0) hK hP rfl rfl, PW.pre hP hK hD hS hA hE⟩ rfl rfl hl.1 rfl (lv_room (Nat.le_of_ble_eq_true rfl)) d_M_apply_61 ⟨by decide, by decide⟩) (fun H locs hP hD hS => ?_)
            have hP : va_P D cls2 (wM u cI cZ (cpn gS (cpn gQ gS yn) yn) gK gI gO gF gE (cpn gQ gS yn) 3 yn yr ym yd yn ((tA (gF (yr - 1)) (gE (yr - 1)) gS 6 x.toNatClampNeg (yn, yc, 0)).2.2) ((tA (gF (yr - 1)) (gE (yr - 1)) gS 6 x.toNatClampNeg (yn, yc, 0)).2.1)) H := hP
            have hD : va_D (va_A (wM u cI cZ gS gK gI gO gF gE gQ yt yn yr ym yd yk yb yc) s.heap.size) (wM u cI cZ (cpn gS (cpn gQ gS yn) yn) gK gI gO gF gE (cpn gQ gS yn) 3 yn yr ym yd yn ((tA (gF (yr - 1)) (gE (yr - 1)) gS 6 x.toNatClampNeg (yn, yc, 0)).2.2) ((tA (gF (yr - 1)) (gE (yr - 1)) gS 6 x.toNatClampNeg (yn, yc, 0)).2.1)) := hD
            have her : orE (xl x) (orE (xl y) (orE (nf yr) (orE (xo ISE (hbL (gF (yr - 1)) (gE (yr - 1)) gS 6 yn x.toNatClampNeg)) (rmE ((hbL (gF (yr - 1)) (gE (yr - 1)) gS 6 yn x.toNatClampNeg).getD 0 + szL 6 y.toNatClampNeg))))) = some ISE := by simp only [orE, e5, e12, ef, et]
            exact W.iret hx hb hrt (fun t ht9 _ => ⟨⟨cpn gS (cpn gQ gS yn) yn, gK, gI, gO, gF, gE, cpn gQ gS yn, 3, yn, yr, ym, yd, yn, (tA (gF (yr - 1)) (gE (yr - 1)) gS 6 x.toNatClampNeg (yn, yc, 0)).2.2, (tA (gF (yr - 1)) (gE (yr - 1)) gS 6 x.toNatClampNeg (yn, yc, 0)).2.1, some (.int (nI 0)), rfl, ⟨fun he => (by rw [her] at he; cases he), fun E he => by rw [her] at he; cases he; exact ⟨by decide +kernel, rfl, rel_undo⟩⟩, im_undo hi giS, by rw [ht9]; exact hP, hD⟩, hS.F ht9⟩) hS.2.2 d_M_apply_64
        · skip
          exfalso; omega
      · skip
        have ef : nf yr = some NSE := nf_no h23
        refine lv_iconst (v := nI 2) hx hb d_M_apply_26 (by decide) ?_
        refine lv_goto hx hb d_M_apply_27 (tgt := 31) (by decide) ?_
        refine va_put (D := D) (ci := 1) (C := RM) (T := FM) (N := 15) (v := .int (nI 2)) (ty := .int) hx hb hw inM tM tM_ok nM hown hK hP hD hS 0 rfl rfl 0 (by decide) (hw _ kF_M_36) (fun _ h9 => h9) rfl (by decide +kernel) rfl rfl (Nat.le_of_ble_eq_true rfl) d_M_apply_31 (fun H locs hP hD hS => ?_)
        have hP : va_P D cls2 (wM u cI cZ gS gK gI gO gF gE gQ 2 yn yr ym yd yk yb yc) H := hP
        have hD : va_D (va_A (wM u cI cZ gS gK gI gO gF gE gQ yt yn yr ym yd yk yb yc) s.heap.size) (wM u cI cZ gS gK gI gO gF gE gQ 2 yn yr ym yd yk yb yc) := hD
        refine lv_aload_n hx hb d_M_apply_34 rfl (lv_at hl 0 rfl) ?_
        refine va_get (D := D) (ci := 1) (C := RM) (T := FM) (N := 15) (v := .int (nI 2)) hx hb hw inM hown hK hP 0 rfl rfl 0 (by decide) (hw _ kF_M_36) (fun _ h9 => h9) rfl d_M_apply_35 ?_
        refine nw_ifle hx hb (tgt := 43) d_M_apply_38 (by decide) (by omega) (fun h38 => ?_) (fun h38 => ?_)
        · skip
          exfalso; omega
        · skip
          refine lv_iconst (v := nI 0) hx hb d_M_apply_41 (by decide) ?_
          have her : orE (xl x) (orE (xl y) (orE (nf yr) (orE (xo ISE (hbL (gF (yr - 1)) (gE (yr - 1)) gS 6 yn x.toNatClampNeg)) (rmE ((hbL (gF (yr - 1)) (gE (yr - 1)) gS 6 yn x.toNatClampNeg).getD 0 + szL 6 y.toNatClampNeg))))) = some NSE := by simp only [orE, e5, e12, ef]
          exact W.iret hx hb hrt (fun t ht9 _ => ⟨⟨gS, gK, gI, gO, gF, gE, gQ, 2, yn, yr, ym, yd, yk, yb, yc, some (.int (nI 0)), rfl, ⟨fun he => (by rw [her] at he; cases he), fun E he => by rw [her] at he; cases he; exact ⟨by decide +kernel, rfl, rel_rf⟩⟩, hi, by rw [ht9]; exact hP, hD⟩, hS.F ht9⟩) hS.2.2 d_M_apply_42
    · skip
      have e12 : xl y = some IAE := xl_no h12
      refine lv_iconst (v := nI 1) hx hb d_M_apply_15 (by decide) ?_
      refine lv_goto hx hb d_M_apply_16 (tgt := 31) (by decide) ?_
      refine va_put (D := D) (ci := 1) (C := RM) (T := FM) (N := 15) (v := .int (nI 1)) (ty := .int) hx hb hw inM tM tM_ok nM hown hK hP hD hS 0 rfl rfl 0 (by decide) (hw _ kF_M_36) (fun _ h9 => h9) rfl (by decide +kernel) rfl rfl (Nat.le_of_ble_eq_true rfl) d_M_apply_31 (fun H locs hP hD hS => ?_)
      have hP : va_P D cls2 (wM u cI cZ gS gK gI gO gF gE gQ 1 yn yr ym yd yk yb yc) H := hP
      have hD : va_D (va_A (wM u cI cZ gS gK gI gO gF gE gQ yt yn yr ym yd yk yb yc) s.heap.size) (wM u cI cZ gS gK gI gO gF gE gQ 1 yn yr ym yd yk yb yc) := hD
      refine lv_aload_n hx hb d_M_apply_34 rfl (lv_at hl 0 rfl) ?_
      refine va_get (D := D) (ci := 1) (C := RM) (T := FM) (N := 15) (v := .int (nI 1)) hx hb hw inM hown hK hP 0 rfl rfl 0 (by decide) (hw _ kF_M_36) (fun _ h9 => h9) rfl d_M_apply_35 ?_
      refine nw_ifle hx hb (tgt := 43) d_M_apply_38 (by decide) (by omega) (fun h38 => ?_) (fun h38 => ?_)
      · skip
        exfalso; omega
      · skip
        refine lv_iconst (v := nI 0) hx hb d_M_apply_41 (by decide) ?_
        have her : orE (xl x) (orE (xl y) (orE (nf yr) (orE (xo ISE (hbL (gF (yr - 1)) (gE (yr - 1)) gS 6 yn x.toNatClampNeg)) (rmE ((hbL (gF (yr - 1)) (gE (yr - 1)) gS 6 yn x.toNatClampNeg).getD 0 + szL 6 y.toNatClampNeg))))) = some IAE := by simp only [orE, e5, e12]
        exact W.iret hx hb hrt (fun t ht9 _ => ⟨⟨gS, gK, gI, gO, gF, gE, gQ, 1, yn, yr, ym, yd, yk, yb, yc, some (.int (nI 0)), rfl, ⟨fun he => (by rw [her] at he; cases he), fun E he => by rw [her] at he; cases he; exact ⟨by decide +kernel, rfl, rel_rf⟩⟩, hi, by rw [ht9]; exact hP, hD⟩, hS.F ht9⟩) hS.2.2 d_M_apply_42

set_option maxHeartbeats 4000000 in
set_option maxRecDepth 100000 in
theorem c_M_drop (l : Launch) (D : va_G) (u : Nat → Nat) (cI cZ : ClassId) (gS gK gI gO gF gE gQ : Nat → Nat) (yt yn yr ym yd yk yb yc : Nat) (hi : IM gS gK gI gO gF gE yn ym yr) (hfl : 1 ≤ yr → gF (yr - 1) ≤ yn) (hmo : yn ≤ ym) (sz : Nat) : Met l y_M_drop w_M_drop (rmR 4) (PW D [(cI, .int), (cZ, .boolean)] (wM u cI cZ gS gK gI gO gF gE gQ yt yn yr ym yd yk yb yc) sz [.ref (u 0)]) (QM D u cI cZ (wM u cI cZ gS gK gI gO gF gE gQ yt yn yr ym yd yk yb yc) sz (PMo (orE (nf yr) (xo ISE (hb1 (gF (yr - 1)) (gE (yr - 1)) yn))) (cdl [NSE, ISE]) (some (.int (nI (tk1 (gF (yr - 1)) yn gS)))) (some (.int (nI 0))) (Rel gS gK gI gO gF gE ((hb1 (gF (yr - 1)) (gE (yr - 1)) yn).getD 0) ym yr (yd + 1)) (Rel gS gK gI gO gF gE yn ym yr yd))) 0 0 (va_A (wM u cI cZ gS gK gI gO gF gE gQ yt yn yr ym yd yk yb yc) sz) := by
  refine Met.ofW (cc := b_M_drop) (maxL := 1) (ret := (some .int)) (by decide) rfl ?_
  intro p e s m args below meth c s₁ B hml hv
  obtain ⟨rfl, hsz, hP, hK, hD0, hE⟩ := hv
  have hx := B.exec
  have hb := B.bytes
  have hrt := B.returns
  have hts := atoms_spec (ws := w_M_drop) B.pre
  have hw : ∀ w ∈ bw, w.before ([.ref (u 0)]).toArray s = true := fun w h => hts w (List.mem_cons_of_mem _ h)
  have hown : s.vm.findClass "TypeStackModel" = some m.cls := findClass_of_methodNamed B.named
  have hlocks := B.notSynchronized
  subst hsz
  have hD := hD0.self (sz := s.heap.size)
  have hA : ∀ q : Nat, s.heap.size ≤ q → va_A (wM u cI cZ gS gK gI gO gF gE gQ yt yn yr ym yd yk yb yc) s.heap.size q := fun q h => Or.inr h
  have hS : va_S (va_A (wM u cI cZ gS gK gI gO gF gE gQ yt yn yr ym yd yk yb yc) s.heap.size) s.heap s.heap [] := va_S.rf
  have hK0 := hK.sub (tys' := []) [] rfl
  have hl := lv_entry ([.ref (u 0)]) (n := 1) (Nat.le_of_ble_eq_true rfl)
  rw [lg_entry_eq]
  generalize (lg_sl ([.ref (u 0)]) ++ List.replicate (1 - (lg_sl ([.ref (u 0)])).length) Slot.unset).toArray = ls at hl ⊢
  have hl : lv_has ls 1 [(0, .ref (u 0))] := hl
  obtain ⟨giS, giK, giI, giO, giF, giE, gin, gim, gir⟩ := id hi
  refine lv_aload_n hx hb d_M_drop_0 rfl (lv_at hl 0 rfl) ?_
  refine lv_aload_n hx hb d_M_drop_1 rfl (lv_at hl 0 rfl) ?_
  refine va_get (D := D) (ci := 1) (C := RM) (T := FM) (N := 15) (v := .int (nI yr)) hx hb hw inM hown hK hP 0 rfl rfl 8 (by decide) (hw _ kF_M_43) (fun _ h9 => h9) rfl d_M_drop_2 ?_
  refine nw_ifne hx hb (tgt := 12) d_M_drop_5 (by decide) (by omega) (fun h5 => ?_) (fun h5 => ?_)
  · skip
    have ef : nf yr = none := nf_ok h5
    refine lv_iconst (v := nI 0) hx hb d_M_drop_12 (by decide) ?_
    refine va_put (D := D) (ci := 1) (C := RM) (T := FM) (N := 15) (v := .int (nI 0)) (ty := .int) hx hb hw inM tM tM_ok nM hown hK hP hD hS 0 rfl rfl 0 (by decide) (hw _ kF_M_36) (fun _ h9 => h9) rfl (by decide +kernel) rfl rfl (Nat.le_of_ble_eq_true rfl) d_M_drop_13 (fun H locs hP hD hS => ?_)
    have hP : va_P D cls2 (wM u cI cZ gS gK gI gO gF gE gQ 0 yn yr ym yd yk yb yc) H := hP
    have hD : va_D (va_A (wM u cI cZ gS gK gI gO gF gE gQ yt yn yr ym yd yk yb yc) s.heap.size) (wM u cI cZ gS gK gI gO gF gE gQ 0 yn yr ym yd yk yb yc) := hD
    refine lv_aload_n hx hb d_M_drop_16 rfl (lv_at hl 0 rfl) ?_
    refine va_get (D := D) (ci := 1) (C := RM) (T := FM) (N := 15) (v := .int (nI 0)) hx hb hw inM hown hK hP 0 rfl rfl 0 (by decide) (hw _ kF_M_36) (fun _ h9 => h9) rfl d_M_drop_17 ?_
    refine nw_ifle hx hb (tgt := 25) d_M_drop_20 (by decide) (by omega) (fun h20 => ?_) (fun h20 => ?_)
    · skip
      have hta := tkn_le (gF (yr - 1)) yn
      refine lv_aload_n hx hb d_M_drop_25 rfl (lv_at hl 0 rfl) ?_
      refine cl_w (v := none) hD hS hA (W.runV (b := u 0) (C := "TypeStackModel") (As := []) (rest := []) ⟨hx, hb, hml, hown, hw⟩ (c_M_keep l D u cI cZ gS gK gI gO gF gE gQ 0 yn yr ym yd yk yb yc (by omega) H.size) (cwV 0 hw g_M_84 rfl rfl rfl ⟨rfl, by decide, by decide, by decide +kernel⟩ ⟨by decide, by decide⟩) ⟨PW.blind, va_recv (q := (RM, FM, 15)) (ci := 1) (q0 := 0) hK hP rfl rfl, PW.pre hP hK hD hS hA hE⟩ rfl rfl hl.1 rfl (lv_room (Nat.le_of_ble_eq_true rfl)) d_M_drop_26 ⟨by decide, by decide⟩) (fun H locs hP hD hS => ?_)
      have hP : va_P D cls2 (wM u cI cZ gS gK gI gO gF gE (cpn gQ gS yn) 0 yn yr ym yd yn 0 yc) H := hP
      have hD : va_D (va_A (wM u cI cZ gS gK gI gO gF gE gQ yt yn yr ym yd yk yb yc) s.heap.size) (wM u cI cZ gS gK gI gO gF gE (cpn gQ gS yn) 0 yn yr ym yd yn 0 yc) := hD
      refine lv_aload_n hx hb d_M_drop_29 rfl (lv_at hl 0 rfl) ?_
      refine cl_w (v := none) hD hS hA (W.runV (b := u 0) (C := "TypeStackModel") (As := []) (rest := []) ⟨hx, hb, hml, hown, hw⟩ (c_M_take l D u cI cZ gS gK gI gO gF gE (cpn gQ gS yn) 0 yn yr ym yd yn 0 yc (by omega) (by omega) (by omega) giF giE H.size) (cwV 0 hw g_M_72 rfl rfl rfl ⟨rfl, by decide, by decide, by decide +kernel⟩ ⟨by decide, by decide⟩) ⟨PW.blind, va_recv (q := (RM, FM, 15)) (ci := 1) (q0 := 0) hK hP rfl rfl, PW.pre hP hK hD hS hA hE⟩ rfl rfl hl.1 rfl (lv_room (Nat.le_of_ble_eq_true rfl)) d_M_drop_30 ⟨by decide, by decide⟩) (fun H locs hP hD hS => ?_)
      have hP : va_P D cls2 (wM u cI cZ gS gK gI gO gF gE (cpn gQ gS yn) 0 (tkn (gF (yr - 1)) yn) yr ym yd yn (tkb (gF (yr - 1)) (gE (yr - 1)) yn 0) (tk1 (gF (yr - 1)) yn gS)) H := hP
      have hD : va_D (va_A (wM u cI cZ gS gK gI gO gF gE gQ yt yn yr ym yd yk yb yc) s.heap.size) (wM u cI cZ gS gK gI gO gF gE (cpn gQ gS yn) 0 (tkn (gF (yr - 1)) yn) yr ym yd yn (tkb (gF (yr - 1)) (gE (yr - 1)) yn 0) (tk1 (gF (yr - 1)) yn gS)) := hD
      have hbb : tkb (gF (yr - 1)) (gE (yr - 1)) yn 0 ≤ 1 := tkb_le (Nat.zero_le 1)
      refine lv_aload_n hx hb d_M_drop_33 rfl (lv_at hl 0 rfl) ?_
      refine va_get (D := D) (ci := 1) (C := RM) (T := FM) (N := 15) (v := .int (nI (tkb (gF (yr - 1)) (gE (yr - 1)) yn 0))) hx hb hw inM hown hK hP 0 rfl rfl 13 (by decide) (hw _ kF_M_55) (fun _ h9 => h9) rfl d_M_drop_34 ?_
      refine nw_ifeq hx hb (tgt := 46) d_M_drop_37 (by decide) (by omega) (fun h37 => ?_) (fun h37 => ?_)
      · skip
        have ht : hb1 (gF (yr - 1)) (gE (yr - 1)) yn = some (tkn (gF (yr - 1)) yn) := tk_ok h37
        have et : xo ISE (hb1 (gF (yr - 1)) (gE (yr - 1)) yn) = none := by rw [ht]; rfl
        refine lv_aload_n hx hb d_M_drop_46 rfl (lv_at hl 0 rfl) ?_
        refine cl_w (v := none) hD hS hA (W.runV (b := u 0) (C := "TypeStackModel") (As := []) (rest := []) ⟨hx, hb, hml, hown, hw⟩ (c_M_well l D u cI cZ gS gK gI gO gF gE (cpn gQ gS yn) 0 (tkn (gF (yr - 1)) yn) yr ym yd yn (tkb (gF (yr - 1)) (gE (yr - 1)) yn 0) (tk1 (gF (yr - 1)) yn gS) (by omega) (by omega) H.size) (cwV 0 hw g_M_97 rfl rfl rfl ⟨rfl, by decide, by decide, by decide +kernel⟩ ⟨by decide, by decide⟩) ⟨PW.blind, va_recv (q := (RM, FM, 15)) (ci := 1) (q0 := 0) hK hP rfl rfl, PW.pre hP hK hD hS hA hE⟩ rfl rfl hl.1 rfl (lv_room (Nat.le_of_ble_eq_true rfl)) d_M_drop_47 ⟨by decide, by decide⟩) (fun H locs hP hD hS => ?_)
        have hP : va_P D cls2 (wM u cI cZ gS gK gI gO gF gE (cpn gQ gS yn) 0 (tkn (gF (yr - 1)) yn) yr (max ym (tkn (gF (yr - 1)) yn)) (yd + 1) yn (tkb (gF (yr - 1)) (gE (yr - 1)) yn 0) (tk1 (gF (yr - 1)) yn gS)) H := hP
        have hD : va_D (va_A (wM u cI cZ gS gK gI gO gF gE gQ yt yn yr ym yd yk yb yc) s.heap.size) (wM u cI cZ gS gK gI gO gF gE (cpn gQ gS yn) 0 (tkn (gF (yr - 1)) yn) yr (max ym (tkn (gF (yr - 1)) yn)) (yd + 1) yn (tkb (gF (yr - 1)) (gE (yr - 1)) yn 0) (tk1 (gF (yr - 1)) yn gS)) := hD
        refine lv_aload_n hx hb d_M_drop_50 rfl (lv_at hl 0 rfl) ?_
        refine va_get (D := D) (ci := 1) (C := RM) (T := FM) (N := 15) (v := .int (nI (tk1 (gF (yr - 1)) yn gS))) hx hb hw inM hown hK hP 0 rfl rfl 14 (by decide) (hw _ kF_M_65) (fun _ h9 => h9) rfl d_M_drop_51 ?_
        have her : orE (nf yr) (xo ISE (hb1 (gF (yr - 1)) (gE (yr - 1)) yn)) = none := by simp only [orE, ef, et]
        exact W.iret hx hb hrt (fun t ht9 _ => ⟨⟨gS, gK, gI, gO, gF, gE, cpn gQ gS yn, 0, tkn (gF (yr - 1)) yn, yr, max ym (tkn (gF (yr - 1)) yn), yd + 1, yn, tkb (gF (yr - 1)) (gE (yr - 1)) yn 0, tk1 (gF (yr - 1)) yn gS, some (.int (nI (tk1 (gF (yr - 1)) yn gS))), rfl, ⟨fun _ => ⟨rfl, rfl, by rw [ht]; exact rel_m (Nat.le_trans (tkn_le _ _) hmo)⟩, fun E he => by rw [her] at he; cases he⟩, ⟨giS, giK, giI, giO, giF, giE, by omega, by omega, gir⟩, by rw [ht9]; exact hP, hD⟩, hS.F ht9⟩) hS.2.2 d_M_drop_54
      · skip
        have ht : hb1 (gF (yr - 1)) (gE (yr - 1)) yn = none := tk_no h37
        have et : xo ISE (hb1 (gF (yr - 1)) (gE (yr - 1)) yn) = some ISE := by rw [ht]; rfl
        refine lv_aload_n hx hb d_M_drop_40 rfl (lv_at hl 0 rfl) ?_
        refine lv_iconst (v := nI 2) hx hb d_M_drop_41 (by decide) ?_
        refine cl_w (v := some (.int (nI 0))) hD hS hA (W.runV (b := u 0) (C := "TypeStackModel") (As := [.int (nI 2)]) (rest := []) ⟨hx, hb, hml, hown, hw⟩ (c_M_undo l D u cI cZ gS gK gI gO gF gE (cpn gQ gS yn) 0 (tkn (gF (yr - 1)) yn) yr ym yd yn (tkb (gF (yr - 1)) (gE (yr - 1)) yn 0) (tk1 (gF (yr - 1)) yn gS) 2 (by omega) H.size) (cwV 1 hw g_M_90 rfl rfl rfl ⟨rfl, by decide, by decide, by decide +kernel⟩ ⟨by decide, by decide⟩) ⟨PW.blind, va_recv (q := (RM, FM, 15)) (ci := 1) (q0 := 0) hK hP rfl rfl, PW.pre hP hK hD hS hA hE⟩ rfl rfl hl.1 rfl (lv_room (Nat.le_of_ble_eq_true rfl)) d_M_drop_42 ⟨by decide, by decide⟩) (fun H locs hP hD hS => ?_)
        have hP : va_P D cls2 (wM u cI cZ (cpn gS (cpn gQ gS yn) yn) gK gI gO gF gE (cpn gQ gS yn) 2 yn yr ym yd yn (tkb (gF (yr - 1)) (gE (yr - 1)) yn 0) (tk1 (gF (yr - 1)) yn gS)) H := hP
        have hD : va_D (va_A (wM u cI cZ gS gK gI gO gF gE gQ yt yn yr ym yd yk yb yc) s.heap.size) (wM u cI cZ (cpn gS (cpn gQ gS yn) yn) gK gI gO gF gE (cpn gQ gS yn) 2 yn yr ym yd yn (tkb (gF (yr - 1)) (gE (yr - 1)) yn 0) (tk1 (gF (yr - 1)) yn gS)) := hD
        have her : orE (nf yr) (xo ISE (hb1 (gF (yr - 1)) (gE (yr - 1)) yn)) = some ISE := by simp only [orE, ef, et]
        exact W.iret hx hb hrt (fun t ht9 _ => ⟨⟨cpn gS (cpn gQ gS yn) yn, gK, gI, gO, gF, gE, cpn gQ gS yn, 2, yn, yr, ym, yd, yn, tkb (gF (yr - 1)) (gE (yr - 1)) yn 0, tk1 (gF (yr - 1)) yn gS, some (.int (nI 0)), rfl, ⟨fun he => (by rw [her] at he; cases he), fun E he => by rw [her] at he; cases he; exact ⟨by decide +kernel, rfl, rel_undo⟩⟩, im_undo hi giS, by rw [ht9]; exact hP, hD⟩, hS.F ht9⟩) hS.2.2 d_M_drop_45
    · skip
      exfalso; omega
  · skip
    have ef : nf yr = some NSE := nf_no h5
    refine lv_iconst (v := nI 1) hx hb d_M_drop_8 (by decide) ?_
    refine lv_goto hx hb d_M_drop_9 (tgt := 13) (by decide) ?_
    refine va_put (D := D) (ci := 1) (C := RM) (T := FM) (N := 15) (v := .int (nI 1)) (ty := .int) hx hb hw inM tM tM_ok nM hown hK hP hD hS 0 rfl rfl 0 (by decide) (hw _ kF_M_36) (fun _ h9 => h9) rfl (by decide +kernel) rfl rfl (Nat.le_of_ble_eq_true rfl) d_M_drop_13 (fun H locs hP hD hS => ?_)
    have hP : va_P D cls2 (wM u cI cZ gS gK gI gO gF gE gQ 1 yn yr ym yd yk yb yc) H := hP
    have hD : va_D (va_A (wM u cI cZ gS gK gI gO gF gE gQ yt yn yr ym yd yk yb yc) s.heap.size) (wM u cI cZ gS gK gI gO gF gE gQ 1 yn yr ym yd yk yb yc) := hD
    refine lv_aload_n hx hb d_M_drop_16 rfl (lv_at hl 0 rfl) ?_
    refine va_get (D := D) (ci := 1) (C := RM) (T := FM) (N := 15) (v := .int (nI 1)) hx hb hw inM hown hK hP 0 rfl rfl 0 (by decide) (hw _ kF_M_36) (fun _ h9 => h9) rfl d_M_drop_17 ?_
    refine nw_ifle hx hb (tgt := 25) d_M_drop_20 (by decide) (by omega) (fun h20 => ?_) (fun h20 => ?_)
    · skip
      exfalso; omega
    · skip
      refine lv_iconst (v := nI 0) hx hb d_M_drop_23 (by decide) ?_
      have her : orE (nf yr) (xo ISE (hb1 (gF (yr - 1)) (gE (yr - 1)) yn)) = some NSE := by simp only [orE, ef]
      exact W.iret hx hb hrt (fun t ht9 _ => ⟨⟨gS, gK, gI, gO, gF, gE, gQ, 1, yn, yr, ym, yd, yk, yb, yc, some (.int (nI 0)), rfl, ⟨fun he => (by rw [her] at he; cases he), fun E he => by rw [her] at he; cases he; exact ⟨by decide +kernel, rfl, rel_rf⟩⟩, hi, by rw [ht9]; exact hP, hD⟩, hS.F ht9⟩) hS.2.2 d_M_drop_24

set_option maxHeartbeats 4000000 in
set_option maxRecDepth 100000 in
theorem c_M_never (l : Launch) (D : va_G) (u : Nat → Nat) (cI cZ : ClassId) (gS gK gI gO gF gE gQ : Nat → Nat) (yt yn yr ym yd yk yb yc : Nat) (hi : IM gS gK gI gO gF gE yn ym yr) (hfl : 1 ≤ yr → gF (yr - 1) ≤ yn) (hmo : yn ≤ ym) (sz : Nat) : Met l y_M_never w_M_never (rmR 4) (PW D [(cI, .int), (cZ, .boolean)] (wM u cI cZ gS gK gI gO gF gE gQ yt yn yr ym yd yk yb yc) sz [.ref (u 0)]) (QM D u cI cZ (wM u cI cZ gS gK gI gO gF gE gQ yt yn yr ym yd yk yb yc) sz (PMo (nf yr) (cdl [NSE]) (none) (none) (Rel gS gK gI gO gF (va_up gE (yr - 1) 1) (gF (yr - 1)) ym yr (yd + 1)) (Rel gS gK gI gO gF gE yn ym yr yd))) 0 0 (va_A (wM u cI cZ gS gK gI gO gF gE gQ yt yn yr ym yd yk yb yc) sz) := by
  refine Met.ofW (cc := b_M_never) (maxL := 1) (ret := none) (by decide) rfl ?_
  intro p e s m args below meth c s₁ B hml hv
  obtain ⟨rfl, hsz, hP, hK, hD0, hE⟩ := hv
  have hx := B.exec
  have hb := B.bytes
  have hrt := B.returns
  have hts := atoms_spec (ws := w_M_never) B.pre
  have hw : ∀ w ∈ bw, w.before ([.ref (u 0)]).toArray s = true := fun w h => hts w (List.mem_cons_of_mem _ h)
  have hown : s.vm.findClass "TypeStackModel" = some m.cls := findClass_of_methodNamed B.named
  have hlocks := B.notSynchronized
  subst hsz
  have hD := hD0.self (sz := s.heap.size)
  have hA : ∀ q : Nat, s.heap.size ≤ q → va_A (wM u cI cZ gS gK gI gO gF gE gQ yt yn yr ym yd yk yb yc) s.heap.size q := fun q h => Or.inr h
  have hS : va_S (va_A (wM u cI cZ gS gK gI gO gF gE gQ yt yn yr ym yd yk yb yc) s.heap.size) s.heap s.heap [] := va_S.rf
  have hK0 := hK.sub (tys' := []) [] rfl
  have hl := lv_entry ([.ref (u 0)]) (n := 1) (Nat.le_of_ble_eq_true rfl)
  rw [lg_entry_eq]
  generalize (lg_sl ([.ref (u 0)]) ++ List.replicate (1 - (lg_sl ([.ref (u 0)])).length) Slot.unset).toArray = ls at hl ⊢
  have hl : lv_has ls 1 [(0, .ref (u 0))] := hl
  obtain ⟨giS, giK, giI, giO, giF, giE, gin, gim, gir⟩ := id hi
  refine lv_aload_n hx hb d_M_never_0 rfl (lv_at hl 0 rfl) ?_
  refine lv_aload_n hx hb d_M_never_1 rfl (lv_at hl 0 rfl) ?_
  refine va_get (D := D) (ci := 1) (C := RM) (T := FM) (N := 15) (v := .int (nI yr)) hx hb hw inM hown hK hP 0 rfl rfl 8 (by decide) (hw _ kF_M_43) (fun _ h9 => h9) rfl d_M_never_2 ?_
  refine nw_ifne hx hb (tgt := 12) d_M_never_5 (by decide) (by omega) (fun h5 => ?_) (fun h5 => ?_)
  · skip
    have ef : nf yr = none := nf_ok h5
    refine lv_iconst (v := nI 0) hx hb d_M_never_12 (by decide) ?_
    refine va_put (D := D) (ci := 1) (C := RM) (T := FM) (N := 15) (v := .int (nI 0)) (ty := .int) hx hb hw inM tM tM_ok nM hown hK hP hD hS 0 rfl rfl 0 (by decide) (hw _ kF_M_36) (fun _ h9 => h9) rfl (by decide +kernel) rfl rfl (Nat.le_of_ble_eq_true rfl) d_M_never_13 (fun H locs hP hD hS => ?_)
    have hP : va_P D cls2 (wM u cI cZ gS gK gI gO gF gE gQ 0 yn yr ym yd yk yb yc) H := hP
    have hD : va_D (va_A (wM u cI cZ gS gK gI gO gF gE gQ yt yn yr ym yd yk yb yc) s.heap.size) (wM u cI cZ gS gK gI gO gF gE gQ 0 yn yr ym yd yk yb yc) := hD
    refine lv_aload_n hx hb d_M_never_16 rfl (lv_at hl 0 rfl) ?_
    refine va_get (D := D) (ci := 1) (C := RM) (T := FM) (N := 15) (v := .int (nI 0)) hx hb hw inM hown hK hP 0 rfl rfl 0 (by decide) (hw _ kF_M_36) (fun _ h9 => h9) rfl d_M_never_17 ?_
    refine nw_ifle hx hb (tgt := 24) d_M_never_20 (by decide) (by omega) (fun h20 => ?_) (fun h20 => ?_)
    · skip
      have hf1 := giF (yr - 1)
      refine lv_aload_n hx hb d_M_never_24 rfl (lv_at hl 0 rfl) ?_
      refine cl_w (v := none) hD hS hA (W.runV (b := u 0) (C := "TypeStackModel") (As := []) (rest := []) ⟨hx, hb, hml, hown, hw⟩ (c_M_die l D u cI cZ gS gK gI gO gF gE gQ 0 yn yr ym yd yk yb yc (by omega) (by omega) H.size) (cwV 0 hw g_M_109 rfl rfl rfl ⟨rfl, by decide, by decide, by decide +kernel⟩ ⟨by decide, by decide⟩) ⟨PW.blind, va_recv (q := (RM, FM, 15)) (ci := 1) (q0 := 0) hK hP rfl rfl, PW.pre hP hK hD hS hA hE⟩ rfl rfl hl.1 rfl (lv_room (Nat.le_of_ble_eq_true rfl)) d_M_never_25 ⟨by decide, by decide⟩) (fun H locs hP hD hS => ?_)
      have hP : va_P D cls2 (wM u cI cZ gS gK gI gO gF (va_up gE (yr - 1) 1) gQ 0 (gF (yr - 1)) yr ym yd yk yb yc) H := hP
      have hD : va_D (va_A (wM u cI cZ gS gK gI gO gF gE gQ yt yn yr ym yd yk yb yc) s.heap.size) (wM u cI cZ gS gK gI gO gF (va_up gE (yr - 1) 1) gQ 0 (gF (yr - 1)) yr ym yd yk yb yc) := hD
      refine lv_aload_n hx hb d_M_never_28 rfl (lv_at hl 0 rfl) ?_
      refine cl_w (v := none) hD hS hA (W.runV (b := u 0) (C := "TypeStackModel") (As := []) (rest := []) ⟨hx, hb, hml, hown, hw⟩ (c_M_well l D u cI cZ gS gK gI gO gF (va_up gE (yr - 1) 1) gQ 0 (gF (yr - 1)) yr ym yd yk yb yc (by omega) (by omega) H.size) (cwV 0 hw g_M_97 rfl rfl rfl ⟨rfl, by decide, by decide, by decide +kernel⟩ ⟨by decide, by decide⟩) ⟨PW.blind, va_recv (q := (RM, FM, 15)) (ci := 1) (q0 := 0) hK hP rfl rfl, PW.pre hP hK hD hS hA hE⟩ rfl rfl hl.1 rfl (lv_room (Nat.le_of_ble_eq_true rfl)) d_M_never_29 ⟨by decide, by decide⟩) (fun H locs hP hD hS => ?_)
      have hP : va_P D cls2 (wM u cI cZ gS gK gI gO gF (va_up gE (yr - 1) 1) gQ 0 (gF (yr - 1)) yr (max ym (gF (yr - 1))) (yd + 1) yk yb yc) H := hP
      have hD : va_D (va_A (wM u cI cZ gS gK gI gO gF gE gQ yt yn yr ym yd yk yb yc) s.heap.size) (wM u cI cZ gS gK gI gO gF (va_up gE (yr - 1) 1) gQ 0 (gF (yr - 1)) yr (max ym (gF (yr - 1))) (yd + 1) yk yb yc) := hD
      have her : nf yr = none := ef
      exact W.vret hx hb hrt (fun t ht9 _ => ⟨⟨gS, gK, gI, gO, gF, va_up gE (yr - 1) 1, gQ, 0, gF (yr - 1), yr, max ym (gF (yr - 1)), yd + 1, yk, yb, yc, none, rfl, ⟨fun _ => ⟨rfl, rfl, rel_m (Nat.le_trans (hfl (by omega)) hmo)⟩, fun E he => by rw [her] at he; cases he⟩, ⟨giS, giK, giI, giO, giF, im_up giE (by decide), giF _, by have := giF (yr - 1); omega, gir⟩, by rw [ht9]; exact hP, hD⟩, hS.F ht9⟩) hS.2.2 d_M_never_32
    · skip
      exfalso; omega
  · skip
    have ef : nf yr = some NSE := nf_no h5
    refine lv_iconst (v := nI 1) hx hb d_M_never_8 (by decide) ?_
    refine lv_goto hx hb d_M_never_9 (tgt := 13) (by decide) ?_
    refine va_put (D := D) (ci := 1) (C := RM) (T := FM) (N := 15) (v := .int (nI 1)) (ty := .int) hx hb hw inM tM tM_ok nM hown hK hP hD hS 0 rfl rfl 0 (by decide) (hw _ kF_M_36) (fun _ h9 => h9) rfl (by decide +kernel) rfl rfl (Nat.le_of_ble_eq_true rfl) d_M_never_13 (fun H locs hP hD hS => ?_)
    have hP : va_P D cls2 (wM u cI cZ gS gK gI gO gF gE gQ 1 yn yr ym yd yk yb yc) H := hP
    have hD : va_D (va_A (wM u cI cZ gS gK gI gO gF gE gQ yt yn yr ym yd yk yb yc) s.heap.size) (wM u cI cZ gS gK gI gO gF gE gQ 1 yn yr ym yd yk yb yc) := hD
    refine lv_aload_n hx hb d_M_never_16 rfl (lv_at hl 0 rfl) ?_
    refine va_get (D := D) (ci := 1) (C := RM) (T := FM) (N := 15) (v := .int (nI 1)) hx hb hw inM hown hK hP 0 rfl rfl 0 (by decide) (hw _ kF_M_36) (fun _ h9 => h9) rfl d_M_never_17 ?_
    refine nw_ifle hx hb (tgt := 24) d_M_never_20 (by decide) (by omega) (fun h20 => ?_) (fun h20 => ?_)
    · skip
      exfalso; omega
    · skip
      have her : nf yr = some NSE := ef
      exact W.vret hx hb hrt (fun t ht9 _ => ⟨⟨gS, gK, gI, gO, gF, gE, gQ, 1, yn, yr, ym, yd, yk, yb, yc, none, rfl, ⟨fun he => (by rw [her] at he; cases he), fun E he => by rw [her] at he; cases he; exact ⟨by decide +kernel, rfl, rel_rf⟩⟩, hi, by rw [ht9]; exact hP, hD⟩, hS.F ht9⟩) hS.2.2 d_M_never_23

set_option maxHeartbeats 4000000 in
set_option maxRecDepth 100000 in
theorem c_M_back (l : Launch) (D : va_G) (u : Nat → Nat) (cI cZ : ClassId) (gS gK gI gO gF gE gQ : Nat → Nat) (yt yn yr ym yd yk yb yc : Nat) (hi : IM gS gK gI gO gF gE yn ym yr) (hfl : 1 ≤ yr → gF (yr - 1) ≤ yn) (hmo : yn ≤ ym) (sz : Nat) : Met l y_M_back w_M_back (rmR 4) (PW D [(cI, .int), (cZ, .boolean)] (wM u cI cZ gS gK gI gO gF gE gQ yt yn yr ym yd yk yb yc) sz [.ref (u 0)]) (QM D u cI cZ (wM u cI cZ gS gK gI gO gF gE gQ yt yn yr ym yd yk yb yc) sz (PMo (orE (nf yr) (xo ISE (hbL (gF (yr - 1)) (gE (yr - 1)) gS 6 yn (gO 0)))) (cdl [NSE, ISE]) (none) (none) (Rel gS gK gI gO gF (va_up gE (yr - 1) 1) (gF (yr - 1)) ym yr (yd + 1)) (Rel gS gK gI gO gF gE yn ym yr yd))) 0 0 (va_A (wM u cI cZ gS gK gI gO gF gE gQ yt yn yr ym yd yk yb yc) sz) := by
  refine Met.ofW (cc := b_M_back) (maxL := 1) (ret := none) (by decide) rfl ?_
  intro p e s m args below meth c s₁ B hml hv
  obtain ⟨rfl, hsz, hP, hK, hD0, hE⟩ := hv
  have hx := B.exec
  have hb := B.bytes
  have hrt := B.returns
  have hts := atoms_spec (ws := w_M_back) B.pre
  have hw : ∀ w ∈ bw, w.before ([.ref (u 0)]).toArray s = true := fun w h => hts w (List.mem_cons_of_mem _ h)
  have hown : s.vm.findClass "TypeStackModel" = some m.cls := findClass_of_methodNamed B.named
  have hlocks := B.notSynchronized
  subst hsz
  have hD := hD0.self (sz := s.heap.size)
  have hA : ∀ q : Nat, s.heap.size ≤ q → va_A (wM u cI cZ gS gK gI gO gF gE gQ yt yn yr ym yd yk yb yc) s.heap.size q := fun q h => Or.inr h
  have hS : va_S (va_A (wM u cI cZ gS gK gI gO gF gE gQ yt yn yr ym yd yk yb yc) s.heap.size) s.heap s.heap [] := va_S.rf
  have hK0 := hK.sub (tys' := []) [] rfl
  have hl := lv_entry ([.ref (u 0)]) (n := 1) (Nat.le_of_ble_eq_true rfl)
  rw [lg_entry_eq]
  generalize (lg_sl ([.ref (u 0)]) ++ List.replicate (1 - (lg_sl ([.ref (u 0)])).length) Slot.unset).toArray = ls at hl ⊢
  have hl : lv_has ls 1 [(0, .ref (u 0))] := hl
  obtain ⟨giS, giK, giI, giO, giF, giE, gin, gim, gir⟩ := id hi
  refine lv_aload_n hx hb d_M_back_0 rfl (lv_at hl 0 rfl) ?_
  refine lv_aload_n hx hb d_M_back_1 rfl (lv_at hl 0 rfl) ?_
  refine va_get (D := D) (ci := 1) (C := RM) (T := FM) (N := 15) (v := .int (nI yr)) hx hb hw inM hown hK hP 0 rfl rfl 8 (by decide) (hw _ kF_M_43) (fun _ h9 => h9) rfl d_M_back_2 ?_
  refine nw_ifne hx hb (tgt := 12) d_M_back_5 (by decide) (by omega) (fun h5 => ?_) (fun h5 => ?_)
  · skip
    have ef : nf yr = none := nf_ok h5
    refine lv_iconst (v := nI 0) hx hb d_M_back_12 (by decide) ?_
    refine va_put (D := D) (ci := 1) (C := RM) (T := FM) (N := 15) (v := .int (nI 0)) (ty := .int) hx hb hw inM tM tM_ok nM hown hK hP hD hS 0 rfl rfl 0 (by decide) (hw _ kF_M_36) (fun _ h9 => h9) rfl (by decide +kernel) rfl rfl (Nat.le_of_ble_eq_true rfl) d_M_back_13 (fun H locs hP hD hS => ?_)
    have hP : va_P D cls2 (wM u cI cZ gS gK gI gO gF gE gQ 0 yn yr ym yd yk yb yc) H := hP
    have hD : va_D (va_A (wM u cI cZ gS gK gI gO gF gE gQ yt yn yr ym yd yk yb yc) s.heap.size) (wM u cI cZ gS gK gI gO gF gE gQ 0 yn yr ym yd yk yb yc) := hD
    refine lv_aload_n hx hb d_M_back_16 rfl (lv_at hl 0 rfl) ?_
    refine va_get (D := D) (ci := 1) (C := RM) (T := FM) (N := 15) (v := .int (nI 0)) hx hb hw inM hown hK hP 0 rfl rfl 0 (by decide) (hw _ kF_M_36) (fun _ h9 => h9) rfl d_M_back_17 ?_
    refine nw_ifle hx hb (tgt := 24) d_M_back_20 (by decide) (by omega) (fun h20 => ?_) (fun h20 => ?_)
    · skip
      have hf1 := giF (yr - 1)
      have ho0 := giO 0
      have hta := tA_le (gF (yr - 1)) (gE (yr - 1)) gS 6 (gO 0) yn yc 0
      refine lv_aload_n hx hb d_M_back_24 rfl (lv_at hl 0 rfl) ?_
      refine cl_w (v := none) hD hS hA (W.runV (b := u 0) (C := "TypeStackModel") (As := []) (rest := []) ⟨hx, hb, hml, hown, hw⟩ (c_M_keep l D u cI cZ gS gK gI gO gF gE gQ 0 yn yr ym yd yk yb yc (by omega) H.size) (cwV 0 hw g_M_84 rfl rfl rfl ⟨rfl, by decide, by decide, by decide +kernel⟩ ⟨by decide, by decide⟩) ⟨PW.blind, va_recv (q := (RM, FM, 15)) (ci := 1) (q0 := 0) hK hP rfl rfl, PW.pre hP hK hD hS hA hE⟩ rfl rfl hl.1 rfl (lv_room (Nat.le_of_ble_eq_true rfl)) d_M_back_25 ⟨by decide, by decide⟩) (fun H locs hP hD hS => ?_)
      have hP : va_P D cls2 (wM u cI cZ gS gK gI gO gF gE (cpn gQ gS yn) 0 yn yr ym yd yn 0 yc) H := hP
      have hD : va_D (va_A (wM u cI cZ gS gK gI gO gF gE gQ yt yn yr ym yd yk yb yc) s.heap.size) (wM u cI cZ gS gK gI gO gF gE (cpn gQ gS yn) 0 yn yr ym yd yn 0 yc) := hD
      refine lv_aload_n hx hb d_M_back_28 rfl (lv_at hl 0 rfl) ?_
      refine lv_aload_n hx hb d_M_back_29 rfl (lv_at hl 0 rfl) ?_
      refine va_get (D := D) (ci := 1) (C := RM) (T := FM) (N := 15) (v := .ref (u 4)) hx hb hw inM hown hK hP 0 rfl rfl 4 (by decide) (hw _ kF_M_19) (fun _ h9 => h9) rfl d_M_back_30 ?_
      refine lv_iconst (v := nI 0) hx hb d_M_back_33 (by decide) ?_
      refine nw_iald hx hb hK hP 4 0 rfl rfl (k := 0) (by omega) (by decide) d_M_back_34 ?_
      refine cl_w (v := none) hD hS hA (W.runV (b := u 0) (C := "TypeStackModel") (As := [.int (nI (gO 0))]) (rest := []) ⟨hx, hb, hml, hown, hw⟩ (c_M_takeAll l D u cI cZ gS gK gI gO gF gE (cpn gQ gS yn) 0 yn yr ym yd yn 0 yc (gO 0) (by omega) (by omega) (by omega) (by omega) giF giE giS H.size) (cwV 1 hw g_M_87 rfl rfl rfl ⟨rfl, by decide, by decide, by decide +kernel⟩ ⟨by decide, by decide⟩) ⟨PW.blind, va_recv (q := (RM, FM, 15)) (ci := 1) (q0 := 0) hK hP rfl rfl, PW.pre hP hK hD hS hA hE⟩ rfl rfl hl.1 rfl (lv_room (Nat.le_of_ble_eq_true rfl)) d_M_back_35 ⟨by decide, by decide⟩) (fun H locs hP hD hS => ?_)
      have hP : va_P D cls2 (wM u cI cZ gS gK gI gO gF gE (cpn gQ gS yn) 0 ((tA (gF (yr - 1)) (gE (yr - 1)) gS 6 (gO 0) (yn, yc, 0)).1) yr ym yd yn ((tA (gF (yr - 1)) (gE (yr - 1)) gS 6 (gO 0) (yn, yc, 0)).2.2) ((tA (gF (yr - 1)) (gE (yr - 1)) gS 6 (gO 0) (yn, yc, 0)).2.1)) H := hP
      have hD : va_D (va_A (wM u cI cZ gS gK gI gO gF gE gQ yt yn yr ym yd yk yb yc) s.heap.size) (wM u cI cZ gS gK gI gO gF gE (cpn gQ gS yn) 0 ((tA (gF (yr - 1)) (gE (yr - 1)) gS 6 (gO 0) (yn, yc, 0)).1) yr ym yd yn ((tA (gF (yr - 1)) (gE (yr - 1)) gS 6 (gO 0) (yn, yc, 0)).2.2) ((tA (gF (yr - 1)) (gE (yr - 1)) gS 6 (gO 0) (yn, yc, 0)).2.1)) := hD
      refine lv_aload_n hx hb d_M_back_38 rfl (lv_at hl 0 rfl) ?_
      refine va_get (D := D) (ci := 1) (C := RM) (T := FM) (N := 15) (v := .int (nI ((tA (gF (yr - 1)) (gE (yr - 1)) gS 6 (gO 0) (yn, yc, 0)).2.2))) hx hb hw inM hown hK hP 0 rfl rfl 13 (by decide) (hw _ kF_M_55) (fun _ h9 => h9) rfl d_M_back_39 ?_
      refine nw_ifeq hx hb (tgt := 52) d_M_back_42 (by decide) (by omega) (fun h42 => ?_) (fun h42 => ?_)
      · skip
        have ht : hbL (gF (yr - 1)) (gE (yr - 1)) gS 6 yn (gO 0) = some (tA (gF (yr - 1)) (gE (yr - 1)) gS 6 (gO 0) (yn, yc, 0)).1 := tA_ok h42
        have et : xo ISE (hbL (gF (yr - 1)) (gE (yr - 1)) gS 6 yn (gO 0)) = none := by rw [ht]; rfl
        refine lv_aload_n hx hb d_M_back_52 rfl (lv_at hl 0 rfl) ?_
        refine cl_w (v := none) hD hS hA (W.runV (b := u 0) (C := "TypeStackModel") (As := []) (rest := []) ⟨hx, hb, hml, hown, hw⟩ (c_M_die l D u cI cZ gS gK gI gO gF gE (cpn gQ gS yn) 0 ((tA (gF (yr - 1)) (gE (yr - 1)) gS 6 (gO 0) (yn, yc, 0)).1) yr ym yd yn ((tA (gF (yr - 1)) (gE (yr - 1)) gS 6 (gO 0) (yn, yc, 0)).2.2) ((tA (gF (yr - 1)) (gE (yr - 1)) gS 6 (gO 0) (yn, yc, 0)).2.1) (by omega) (by omega) H.size) (cwV 0 hw g_M_109 rfl rfl rfl ⟨rfl, by decide, by decide, by decide +kernel⟩ ⟨by decide, by decide⟩) ⟨PW.blind, va_recv (q := (RM, FM, 15)) (ci := 1) (q0 := 0) hK hP rfl rfl, PW.pre hP hK hD hS hA hE⟩ rfl rfl hl.1 rfl (lv_room (Nat.le_of_ble_eq_true rfl)) d_M_back_53 ⟨by decide, by decide⟩) (fun H locs hP hD hS => ?_)
        have hP : va_P D cls2 (wM u cI cZ gS gK gI gO gF (va_up gE (yr - 1) 1) (cpn gQ gS yn) 0 (gF (yr - 1)) yr ym yd yn ((tA (gF (yr - 1)) (gE (yr - 1)) gS 6 (gO 0) (yn, yc, 0)).2.2) ((tA (gF (yr - 1)) (gE (yr - 1)) gS 6 (gO 0) (yn, yc, 0)).2.1)) H := hP
        have hD : va_D (va_A (wM u cI cZ gS gK gI gO gF gE gQ yt yn yr ym yd yk yb yc) s.heap.size) (wM u cI cZ gS gK gI gO gF (va_up gE (yr - 1) 1) (cpn gQ gS yn) 0 (gF (yr - 1)) yr ym yd yn ((tA (gF (yr - 1)) (gE (yr - 1)) gS 6 (gO 0) (yn, yc, 0)).2.2) ((tA (gF (yr - 1)) (gE (yr - 1)) gS 6 (gO 0) (yn, yc, 0)).2.1)) := hD
        refine lv_aload_n hx hb d_M_back_56 rfl (lv_at hl 0 rfl) ?_
        refine cl_w (v := none) hD hS hA (W.runV (b := u 0) (C := "TypeStackModel") (As := []) (rest := []) ⟨hx, hb, hml, hown, hw⟩ (c_M_well l D u cI cZ gS gK gI gO gF (va_up gE (yr - 1) 1) (cpn gQ gS yn) 0 (gF (yr - 1)) yr ym yd yn ((tA (gF (yr - 1)) (gE (yr - 1)) gS 6 (gO 0) (yn, yc, 0)).2.2) ((tA (gF (yr - 1)) (gE (yr - 1)) gS 6 (gO 0) (yn, yc, 0)).2.1) (by omega) (by omega) H.size) (cwV 0 hw g_M_97 rfl rfl rfl ⟨rfl, by decide, by decide, by decide +kernel⟩ ⟨by decide, by decide⟩) ⟨PW.blind, va_recv (q := (RM, FM, 15)) (ci := 1) (q0 := 0) hK hP rfl rfl, PW.pre hP hK hD hS hA hE⟩ rfl rfl hl.1 rfl (lv_room (Nat.le_of_ble_eq_true rfl)) d_M_back_57 ⟨by decide, by decide⟩) (fun H locs hP hD hS => ?_)
        have hP : va_P D cls2 (wM u cI cZ gS gK gI gO gF (va_up gE (yr - 1) 1) (cpn gQ gS yn) 0 (gF (yr - 1)) yr (max ym (gF (yr - 1))) (yd + 1) yn ((tA (gF (yr - 1)) (gE (yr - 1)) gS 6 (gO 0) (yn, yc, 0)).2.2) ((tA (gF (yr - 1)) (gE (yr - 1)) gS 6 (gO 0) (yn, yc, 0)).2.1)) H := hP
        have hD : va_D (va_A (wM u cI cZ gS gK gI gO gF gE gQ yt yn yr ym yd yk yb yc) s.heap.size) (wM u cI cZ gS gK gI gO gF (va_up gE (yr - 1) 1) (cpn gQ gS yn) 0 (gF (yr - 1)) yr (max ym (gF (yr - 1))) (yd + 1) yn ((tA (gF (yr - 1)) (gE (yr - 1)) gS 6 (gO 0) (yn, yc, 0)).2.2) ((tA (gF (yr - 1)) (gE (yr - 1)) gS 6 (gO 0) (yn, yc, 0)).2.1)) := hD
        have her : orE (nf yr) (xo ISE (hbL (gF (yr - 1)) (gE (yr - 1)) gS 6 yn (gO 0))) = none := by simp only [orE, ef, et]
        exact W.vret hx hb hrt (fun t ht9 _ => ⟨⟨gS, gK, gI, gO, gF, va_up gE (yr - 1) 1, cpn gQ gS yn, 0, gF (yr - 1), yr, max ym (gF (yr - 1)), yd + 1, yn, (tA (gF (yr - 1)) (gE (yr - 1)) gS 6 (gO 0) (yn, yc, 0)).2.2, (tA (gF (yr - 1)) (gE (yr - 1)) gS 6 (gO 0) (yn, yc, 0)).2.1, none, rfl, ⟨fun _ => ⟨rfl, rfl, rel_m (Nat.le_trans (hfl (by omega)) hmo)⟩, fun E he => by rw [her] at he; cases he⟩, ⟨giS, giK, giI, giO, giF, im_up giE (by decide), giF _, by have := giF (yr - 1); omega, gir⟩, by rw [ht9]; exact hP, hD⟩, hS.F ht9⟩) hS.2.2 d_M_back_60
      · skip
        have ht : hbL (gF (yr - 1)) (gE (yr - 1)) gS 6 yn (gO 0) = none := tA_no h42
        have et : xo ISE (hbL (gF (yr - 1)) (gE (yr - 1)) gS 6 yn (gO 0)) = some ISE := by rw [ht]; rfl
        refine lv_aload_n hx hb d_M_back_45 rfl (lv_at hl 0 rfl) ?_
        refine lv_iconst (v := nI 2) hx hb d_M_back_46 (by decide) ?_
        refine cl_w (v := some (.int (nI 0))) hD hS hA (W.runV (b := u 0) (C := "TypeStackModel") (As := [.int (nI 2)]) (rest := []) ⟨hx, hb, hml, hown, hw⟩ (c_M_undo l D u cI cZ gS gK gI gO gF gE (cpn gQ gS yn) 0 ((tA (gF (yr - 1)) (gE (yr - 1)) gS 6 (gO 0) (yn, yc, 0)).1) yr ym yd yn ((tA (gF (yr - 1)) (gE (yr - 1)) gS 6 (gO 0) (yn, yc, 0)).2.2) ((tA (gF (yr - 1)) (gE (yr - 1)) gS 6 (gO 0) (yn, yc, 0)).2.1) 2 (by omega) H.size) (cwV 1 hw g_M_90 rfl rfl rfl ⟨rfl, by decide, by decide, by decide +kernel⟩ ⟨by decide, by decide⟩) ⟨PW.blind, va_recv (q := (RM, FM, 15)) (ci := 1) (q0 := 0) hK hP rfl rfl, PW.pre hP hK hD hS hA hE⟩ rfl rfl hl.1 rfl (lv_room (Nat.le_of_ble_eq_true rfl)) d_M_back_47 ⟨by decide, by decide⟩) (fun H locs hP hD hS => ?_)
        have hP : va_P D cls2 (wM u cI cZ (cpn gS (cpn gQ gS yn) yn) gK gI gO gF gE (cpn gQ gS yn) 2 yn yr ym yd yn ((tA (gF (yr - 1)) (gE (yr - 1)) gS 6 (gO 0) (yn, yc, 0)).2.2) ((tA (gF (yr - 1)) (gE (yr - 1)) gS 6 (gO 0) (yn, yc, 0)).2.1)) H := hP
        have hD : va_D (va_A (wM u cI cZ gS gK gI gO gF gE gQ yt yn yr ym yd yk yb yc) s.heap.size) (wM u cI cZ (cpn gS (cpn gQ gS yn) yn) gK gI gO gF gE (cpn gQ gS yn) 2 yn yr ym yd yn ((tA (gF (yr - 1)) (gE (yr - 1)) gS 6 (gO 0) (yn, yc, 0)).2.2) ((tA (gF (yr - 1)) (gE (yr - 1)) gS 6 (gO 0) (yn, yc, 0)).2.1)) := hD
        refine lv_pop hx hb d_M_back_50 rfl ?_
        have her : orE (nf yr) (xo ISE (hbL (gF (yr - 1)) (gE (yr - 1)) gS 6 yn (gO 0))) = some ISE := by simp only [orE, ef, et]
        exact W.vret hx hb hrt (fun t ht9 _ => ⟨⟨cpn gS (cpn gQ gS yn) yn, gK, gI, gO, gF, gE, cpn gQ gS yn, 2, yn, yr, ym, yd, yn, (tA (gF (yr - 1)) (gE (yr - 1)) gS 6 (gO 0) (yn, yc, 0)).2.2, (tA (gF (yr - 1)) (gE (yr - 1)) gS 6 (gO 0) (yn, yc, 0)).2.1, none, rfl, ⟨fun he => (by rw [her] at he; cases he), fun E he => by rw [her] at he; cases he; exact ⟨by decide +kernel, rfl, rel_undo⟩⟩, im_undo hi giS, by rw [ht9]; exact hP, hD⟩, hS.F ht9⟩) hS.2.2 d_M_back_51
    · skip
      exfalso; omega
  · skip
    have ef : nf yr = some NSE := nf_no h5
    refine lv_iconst (v := nI 1) hx hb d_M_back_8 (by decide) ?_
    refine lv_goto hx hb d_M_back_9 (tgt := 13) (by decide) ?_
    refine va_put (D := D) (ci := 1) (C := RM) (T := FM) (N := 15) (v := .int (nI 1)) (ty := .int) hx hb hw inM tM tM_ok nM hown hK hP hD hS 0 rfl rfl 0 (by decide) (hw _ kF_M_36) (fun _ h9 => h9) rfl (by decide +kernel) rfl rfl (Nat.le_of_ble_eq_true rfl) d_M_back_13 (fun H locs hP hD hS => ?_)
    have hP : va_P D cls2 (wM u cI cZ gS gK gI gO gF gE gQ 1 yn yr ym yd yk yb yc) H := hP
    have hD : va_D (va_A (wM u cI cZ gS gK gI gO gF gE gQ yt yn yr ym yd yk yb yc) s.heap.size) (wM u cI cZ gS gK gI gO gF gE gQ 1 yn yr ym yd yk yb yc) := hD
    refine lv_aload_n hx hb d_M_back_16 rfl (lv_at hl 0 rfl) ?_
    refine va_get (D := D) (ci := 1) (C := RM) (T := FM) (N := 15) (v := .int (nI 1)) hx hb hw inM hown hK hP 0 rfl rfl 0 (by decide) (hw _ kF_M_36) (fun _ h9 => h9) rfl d_M_back_17 ?_
    refine nw_ifle hx hb (tgt := 24) d_M_back_20 (by decide) (by omega) (fun h20 => ?_) (fun h20 => ?_)
    · skip
      exfalso; omega
    · skip
      have her : orE (nf yr) (xo ISE (hbL (gF (yr - 1)) (gE (yr - 1)) gS 6 yn (gO 0))) = some NSE := by simp only [orE, ef]
      exact W.vret hx hb hrt (fun t ht9 _ => ⟨⟨gS, gK, gI, gO, gF, gE, gQ, 1, yn, yr, ym, yd, yk, yb, yc, none, rfl, ⟨fun he => (by rw [her] at he; cases he), fun E he => by rw [her] at he; cases he; exact ⟨by decide +kernel, rfl, rel_rf⟩⟩, hi, by rw [ht9]; exact hP, hD⟩, hS.F ht9⟩) hS.2.2 d_M_back_23

set_option maxHeartbeats 4000000 in
set_option maxRecDepth 100000 in
theorem c_M_leap (l : Launch) (D : va_G) (u : Nat → Nat) (cI cZ : ClassId) (gS gK gI gO gF gE gQ : Nat → Nat) (yt yn yr ym yd yk yb yc : Nat) (hi : IM gS gK gI gO gF gE yn ym yr) (x : Int32) (hfl : 1 ≤ yr → gF (yr - 1) ≤ yn) (hmo : yn ≤ ym) (sz : Nat) : Met l y_M_leap w_M_leap (rmR 4) (PW D [(cI, .int), (cZ, .boolean)] (wM u cI cZ gS gK gI gO gF gE gQ yt yn yr ym yd yk yb yc) sz [.ref (u 0), .int x]) (QM D u cI cZ (wM u cI cZ gS gK gI gO gF gE gQ yt yn yr ym yd yk yb yc) sz (PMo (orE (xf yr x) (xo ISE (hbL (gF (yr - 1)) (gE (yr - 1)) gS 6 yn (wnt gK gI gO (yr - 1 - x.toNatClampNeg))))) (cdl [NSE, ISE]) (none) (none) (Rel gS gK gI gO gF (va_up gE (yr - 1) 1) (gF (yr - 1)) ym yr (yd + 1)) (Rel gS gK gI gO gF gE yn ym yr yd))) 0 0 (va_A (wM u cI cZ gS gK gI gO gF gE gQ yt yn yr ym yd yk yb yc) sz) := by
  refine Met.ofW (cc := b_M_leap) (maxL := 2) (ret := none) (by decide) rfl ?_
  intro p e s m args below meth c s₁ B hml hv
  obtain ⟨rfl, hsz, hP, hK, hD0, hE⟩ := hv
  have hx := B.exec
  have hb := B.bytes
  have hrt := B.returns
  have hts := atoms_spec (ws := w_M_leap) B.pre
  have hw : ∀ w ∈ bw, w.before ([.ref (u 0), .int x]).toArray s = true := fun w h => hts w (List.mem_cons_of_mem _ h)
  have hown : s.vm.findClass "TypeStackModel" = some m.cls := findClass_of_methodNamed B.named
  have hlocks := B.notSynchronized
  subst hsz
  have hD := hD0.self (sz := s.heap.size)
  have hA : ∀ q : Nat, s.heap.size ≤ q → va_A (wM u cI cZ gS gK gI gO gF gE gQ yt yn yr ym yd yk yb yc) s.heap.size q := fun q h => Or.inr h
  have hS : va_S (va_A (wM u cI cZ gS gK gI gO gF gE gQ yt yn yr ym yd yk yb yc) s.heap.size) s.heap s.heap [] := va_S.rf
  have hK0 := hK.sub (tys' := []) [] rfl
  have hl := lv_entry ([.ref (u 0), .int x]) (n := 2) (Nat.le_of_ble_eq_true rfl)
  rw [lg_entry_eq]
  generalize (lg_sl ([.ref (u 0), .int x]) ++ List.replicate (2 - (lg_sl ([.ref (u 0), .int x])).length) Slot.unset).toArray = ls at hl ⊢
  have hl : lv_has ls 2 [(0, .ref (u 0)), (1, .int x)] := hl
  obtain ⟨giS, giK, giI, giO, giF, giE, gin, gim, gir⟩ := id hi
  refine lv_aload_n hx hb d_M_leap_0 rfl (lv_at hl 0 rfl) ?_
  refine lv_aload_n hx hb d_M_leap_1 rfl (lv_at hl 0 rfl) ?_
  refine lv_iload_n hx hb d_M_leap_2 rfl (lv_at hl 1 rfl) ?_
  refine cl_r (v := some (.int (nI (nlb yr x)))) (W.runV (b := u 0) (C := "TypeStackModel") (As := [.int x]) (rest := [.ref (u 0)]) ⟨hx, hb, hml, hown, hw⟩ (c_M_noLabel l D u cI cZ gS gK gI gO gF gE gQ yt yn yr ym yd yk yb yc x s.heap.size) (cwV 1 hw g_M_103 rfl rfl rfl ⟨rfl, by decide, by decide, by decide +kernel⟩ ⟨by decide, by decide⟩) ⟨PW.blind, va_recv (q := (RM, FM, 15)) (ci := 1) (q0 := 0) hK hP rfl rfl, PW.pre hP hK hD hS hA hE⟩ rfl rfl hl.1 rfl (lv_room (Nat.le_of_ble_eq_true rfl)) d_M_leap_3 ⟨by decide, by decide⟩) ?_
  have hq3 := nlb_le yr x
  refine nw_ifeq hx hb (tgt := 13) d_M_leap_6 (by decide) (by omega) (fun h6 => ?_) (fun h6 => ?_)
  · skip
    have ex : xf yr x = none := nl_ok h6
    refine lv_iconst (v := nI 0) hx hb d_M_leap_13 (by decide) ?_
    refine va_put (D := D) (ci := 1) (C := RM) (T := FM) (N := 15) (v := .int (nI 0)) (ty := .int) hx hb hw inM tM tM_ok nM hown hK hP hD hS 0 rfl rfl 0 (by decide) (hw _ kF_M_36) (fun _ h9 => h9) rfl (by decide +kernel) rfl rfl (Nat.le_of_ble_eq_true rfl) d_M_leap_14 (fun H locs hP hD hS => ?_)
    have hP : va_P D cls2 (wM u cI cZ gS gK gI gO gF gE gQ 0 yn yr ym yd yk yb yc) H := hP
    have hD : va_D (va_A (wM u cI cZ gS gK gI gO gF gE gQ yt yn yr ym yd yk yb yc) s.heap.size) (wM u cI cZ gS gK gI gO gF gE gQ 0 yn yr ym yd yk yb yc) := hD
    refine lv_aload_n hx hb d_M_leap_17 rfl (lv_at hl 0 rfl) ?_
    refine va_get (D := D) (ci := 1) (C := RM) (T := FM) (N := 15) (v := .int (nI 0)) hx hb hw inM hown hK hP 0 rfl rfl 0 (by decide) (hw _ kF_M_36) (fun _ h9 => h9) rfl d_M_leap_18 ?_
    refine nw_ifle hx hb (tgt := 25) d_M_leap_21 (by decide) (by omega) (fun h21 => ?_) (fun h21 => ?_)
    · skip
      have hjx := xf_pos ex
      have hrx := xf_r ex
      have hwx := wnt_lt gK giI giO (yr - 1 - x.toNatClampNeg)
      have hf1 := giF (yr - 1)
      have hta := tA_le (gF (yr - 1)) (gE (yr - 1)) gS 6 (wnt gK gI gO (yr - 1 - x.toNatClampNeg)) yn yc 0
      refine lv_aload_n hx hb d_M_leap_25 rfl (lv_at hl 0 rfl) ?_
      refine cl_w (v := none) hD hS hA (W.runV (b := u 0) (C := "TypeStackModel") (As := []) (rest := []) ⟨hx, hb, hml, hown, hw⟩ (c_M_keep l D u cI cZ gS gK gI gO gF gE gQ 0 yn yr ym yd yk yb yc (by omega) H.size) (cwV 0 hw g_M_84 rfl rfl rfl ⟨rfl, by decide, by decide, by decide +kernel⟩ ⟨by decide, by decide⟩) ⟨PW.blind, va_recv (q := (RM, FM, 15)) (ci := 1) (q0 := 0) hK hP rfl rfl, PW.pre hP hK hD hS hA hE⟩ rfl rfl hl.1 rfl (lv_room (Nat.le_of_ble_eq_true rfl)) d_M_leap_26 ⟨by decide, by decide⟩) (fun H locs hP hD hS => ?_)
      have hP : va_P D cls2 (wM u cI cZ gS gK gI gO gF gE (cpn gQ gS yn) 0 yn yr ym yd yn 0 yc) H := hP
      have hD : va_D (va_A (wM u cI cZ gS gK gI gO gF gE gQ yt yn yr ym yd yk yb yc) s.heap.size) (wM u cI cZ gS gK gI gO gF gE (cpn gQ gS yn) 0 yn yr ym yd yn 0 yc) := hD
      refine lv_aload_n hx hb d_M_leap_29 rfl (lv_at hl 0 rfl) ?_
      refine lv_aload_n hx hb d_M_leap_30 rfl (lv_at hl 0 rfl) ?_
      refine lv_iload_n hx hb d_M_leap_31 rfl (lv_at hl 1 rfl) ?_
      refine nw_is (y := nI x.toNatClampNeg) (xf_eq ex) ?_
      refine cl_r (v := some (.int (nI (wnt gK gI gO (yr - 1 - x.toNatClampNeg))))) (W.runV (b := u 0) (C := "TypeStackModel") (As := [.int (nI x.toNatClampNeg)]) (rest := [.ref (u 0)]) ⟨hx, hb, hml, hown, hw⟩ (c_M_wants l D u cI cZ gS gK gI gO gF gE (cpn gQ gS yn) 0 yn yr ym yd yn 0 yc x.toNatClampNeg (by omega) (by omega) giK H.size) (cwV 1 hw g_M_106 rfl rfl rfl ⟨rfl, by decide, by decide, by decide +kernel⟩ ⟨by decide, by decide⟩) ⟨PW.blind, va_recv (q := (RM, FM, 15)) (ci := 1) (q0 := 0) hK hP rfl rfl, PW.pre hP hK hD hS hA hE⟩ rfl rfl hl.1 rfl (lv_room (Nat.le_of_ble_eq_true rfl)) d_M_leap_32 ⟨by decide, by decide⟩) ?_
      refine cl_w (v := none) hD hS hA (W.runV (b := u 0) (C := "TypeStackModel") (As := [.int (nI (wnt gK gI gO (yr - 1 - x.toNatClampNeg)))]) (rest := []) ⟨hx, hb, hml, hown, hw⟩ (c_M_takeAll l D u cI cZ gS gK gI gO gF gE (cpn gQ gS yn) 0 yn yr ym yd yn 0 yc (wnt gK gI gO (yr - 1 - x.toNatClampNeg)) (by omega) (by omega) (by omega) (by omega) giF giE giS H.size) (cwV 1 hw g_M_87 rfl rfl rfl ⟨rfl, by decide, by decide, by decide +kernel⟩ ⟨by decide, by decide⟩) ⟨PW.blind, va_recv (q := (RM, FM, 15)) (ci := 1) (q0 := 0) hK hP rfl rfl, PW.pre hP hK hD hS hA hE⟩ rfl rfl hl.1 rfl (lv_room (Nat.le_of_ble_eq_true rfl)) d_M_leap_35 ⟨by decide, by decide⟩) (fun H locs hP hD hS => ?_)
      have hP : va_P D cls2 (wM u cI cZ gS gK gI gO gF gE (cpn gQ gS yn) 0 ((tA (gF (yr - 1)) (gE (yr - 1)) gS 6 (wnt gK gI gO (yr - 1 - x.toNatClampNeg)) (yn, yc, 0)).1) yr ym yd yn ((tA (gF (yr - 1)) (gE (yr - 1)) gS 6 (wnt gK gI gO (yr - 1 - x.toNatClampNeg)) (yn, yc, 0)).2.2) ((tA (gF (yr - 1)) (gE (yr - 1)) gS 6 (wnt gK gI gO (yr - 1 - x.toNatClampNeg)) (yn, yc, 0)).2.1)) H := hP
      have hD : va_D (va_A (wM u cI cZ gS gK gI gO gF gE gQ yt yn yr ym yd yk yb yc) s.heap.size) (wM u cI cZ gS gK gI gO gF gE (cpn gQ gS yn) 0 ((tA (gF (yr - 1)) (gE (yr - 1)) gS 6 (wnt gK gI gO (yr - 1 - x.toNatClampNeg)) (yn, yc, 0)).1) yr ym yd yn ((tA (gF (yr - 1)) (gE (yr - 1)) gS 6 (wnt gK gI gO (yr - 1 - x.toNatClampNeg)) (yn, yc, 0)).2.2) ((tA (gF (yr - 1)) (gE (yr - 1)) gS 6 (wnt gK gI gO (yr - 1 - x.toNatClampNeg)) (yn, yc, 0)).2.1)) := hD
      refine lv_aload_n hx hb d_M_leap_38 rfl (lv_at hl 0 rfl) ?_
      refine va_get (D := D) (ci := 1) (C := RM) (T := FM) (N := 15) (v := .int (nI ((tA (gF (yr - 1)) (gE (yr - 1)) gS 6 (wnt gK gI gO (yr - 1 - x.toNatClampNeg)) (yn, yc, 0)).2.2))) hx hb hw inM hown hK hP 0 rfl rfl 13 (by decide) (hw _ kF_M_55) (fun _ h9 => h9) rfl d_M_leap_39 ?_
      refine nw_ifeq hx hb (tgt := 52) d_M_leap_42 (by decide) (by omega) (fun h42 => ?_) (fun h42 => ?_)
      · skip
        have ht : hbL (gF (yr - 1)) (gE (yr - 1)) gS 6 yn (wnt gK gI gO (yr - 1 - x.toNatClampNeg)) = some (tA (gF (yr - 1)) (gE (yr - 1)) gS 6 (wnt gK gI gO (yr - 1 - x.toNatClampNeg)) (yn, yc, 0)).1 := tA_ok h42
        have et : xo ISE (hbL (gF (yr - 1)) (gE (yr - 1)) gS 6 yn (wnt gK gI gO (yr - 1 - x.toNatClampNeg))) = none := by rw [ht]; rfl
        refine lv_aload_n hx hb d_M_leap_52 rfl (lv_at hl 0 rfl) ?_
        refine cl_w (v := none) hD hS hA (W.runV (b := u 0) (C := "TypeStackModel") (As := []) (rest := []) ⟨hx, hb, hml, hown, hw⟩ (c_M_die l D u cI cZ gS gK gI gO gF gE (cpn gQ gS yn) 0 ((tA (gF (yr - 1)) (gE (yr - 1)) gS 6 (wnt gK gI gO (yr - 1 - x.toNatClampNeg)) (yn, yc, 0)).1) yr ym yd yn ((tA (gF (yr - 1)) (gE (yr - 1)) gS 6 (wnt gK gI gO (yr - 1 - x.toNatClampNeg)) (yn, yc, 0)).2.2) ((tA (gF (yr - 1)) (gE (yr - 1)) gS 6 (wnt gK gI gO (yr - 1 - x.toNatClampNeg)) (yn, yc, 0)).2.1) (by omega) (by omega) H.size) (cwV 0 hw g_M_109 rfl rfl rfl ⟨rfl, by decide, by decide, by decide +kernel⟩ ⟨by decide, by decide⟩) ⟨PW.blind, va_recv (q := (RM, FM, 15)) (ci := 1) (q0 := 0) hK hP rfl rfl, PW.pre hP hK hD hS hA hE⟩ rfl rfl hl.1 rfl (lv_room (Nat.le_of_ble_eq_true rfl)) d_M_leap_53 ⟨by decide, by decide⟩) (fun H locs hP hD hS => ?_)
        have hP : va_P D cls2 (wM u cI cZ gS gK gI gO gF (va_up gE (yr - 1) 1) (cpn gQ gS yn) 0 (gF (yr - 1)) yr ym yd yn ((tA (gF (yr - 1)) (gE (yr - 1)) gS 6 (wnt gK gI gO (yr - 1 - x.toNatClampNeg)) (yn, yc, 0)).2.2) ((tA (gF (yr - 1)) (gE (yr - 1)) gS 6 (wnt gK gI gO (yr - 1 - x.toNatClampNeg)) (yn, yc, 0)).2.1)) H := hP
        have hD : va_D (va_A (wM u cI cZ gS gK gI gO gF gE gQ yt yn yr ym yd yk yb yc) s.heap.size) (wM u cI cZ gS gK gI gO gF (va_up gE (yr - 1) 1) (cpn gQ gS yn) 0 (gF (yr - 1)) yr ym yd yn ((tA (gF (yr - 1)) (gE (yr - 1)) gS 6 (wnt gK gI gO (yr - 1 - x.toNatClampNeg)) (yn, yc, 0)).2.2) ((tA (gF (yr - 1)) (gE (yr - 1)) gS 6 (wnt gK gI gO (yr - 1 - x.toNatClampNeg)) (yn, yc, 0)).2.1)) := hD
        refine lv_aload_n hx hb d_M_leap_56 rfl (lv_at hl 0 rfl) ?_
        refine cl_w (v := none) hD hS hA (W.runV (b := u 0) (C := "TypeStackModel") (As := []) (rest := []) ⟨hx, hb, hml, hown, hw⟩ (c_M_well l D u cI cZ gS gK gI gO gF (va_up gE (yr - 1) 1) (cpn gQ gS yn) 0 (gF (yr - 1)) yr ym yd yn ((tA (gF (yr - 1)) (gE (yr - 1)) gS 6 (wnt gK gI gO (yr - 1 - x.toNatClampNeg)) (yn, yc, 0)).2.2) ((tA (gF (yr - 1)) (gE (yr - 1)) gS 6 (wnt gK gI gO (yr - 1 - x.toNatClampNeg)) (yn, yc, 0)).2.1) (by omega) (by omega) H.size) (cwV 0 hw g_M_97 rfl rfl rfl ⟨rfl, by decide, by decide, by decide +kernel⟩ ⟨by decide, by decide⟩) ⟨PW.blind, va_recv (q := (RM, FM, 15)) (ci := 1) (q0 := 0) hK hP rfl rfl, PW.pre hP hK hD hS hA hE⟩ rfl rfl hl.1 rfl (lv_room (Nat.le_of_ble_eq_true rfl)) d_M_leap_57 ⟨by decide, by decide⟩) (fun H locs hP hD hS => ?_)
        have hP : va_P D cls2 (wM u cI cZ gS gK gI gO gF (va_up gE (yr - 1) 1) (cpn gQ gS yn) 0 (gF (yr - 1)) yr (max ym (gF (yr - 1))) (yd + 1) yn ((tA (gF (yr - 1)) (gE (yr - 1)) gS 6 (wnt gK gI gO (yr - 1 - x.toNatClampNeg)) (yn, yc, 0)).2.2) ((tA (gF (yr - 1)) (gE (yr - 1)) gS 6 (wnt gK gI gO (yr - 1 - x.toNatClampNeg)) (yn, yc, 0)).2.1)) H := hP
        have hD : va_D (va_A (wM u cI cZ gS gK gI gO gF gE gQ yt yn yr ym yd yk yb yc) s.heap.size) (wM u cI cZ gS gK gI gO gF (va_up gE (yr - 1) 1) (cpn gQ gS yn) 0 (gF (yr - 1)) yr (max ym (gF (yr - 1))) (yd + 1) yn ((tA (gF (yr - 1)) (gE (yr - 1)) gS 6 (wnt gK gI gO (yr - 1 - x.toNatClampNeg)) (yn, yc, 0)).2.2) ((tA (gF (yr - 1)) (gE (yr - 1)) gS 6 (wnt gK gI gO (yr - 1 - x.toNatClampNeg)) (yn, yc, 0)).2.1)) := hD
        have her : orE (xf yr x) (xo ISE (hbL (gF (yr - 1)) (gE (yr - 1)) gS 6 yn (wnt gK gI gO (yr - 1 - x.toNatClampNeg)))) = none := by simp only [orE, ex, et]
        exact W.vret hx hb hrt (fun t ht9 _ => ⟨⟨gS, gK, gI, gO, gF, va_up gE (yr - 1) 1, cpn gQ gS yn, 0, gF (yr - 1), yr, max ym (gF (yr - 1)), yd + 1, yn, (tA (gF (yr - 1)) (gE (yr - 1)) gS 6 (wnt gK gI gO (yr - 1 - x.toNatClampNeg)) (yn, yc, 0)).2.2, (tA (gF (yr - 1)) (gE (yr - 1)) gS 6 (wnt gK gI gO (yr - 1 - x.toNatClampNeg)) (yn, yc, 0)).2.1, none, rfl, ⟨fun _ => ⟨rfl, rfl, rel_m (Nat.le_trans (hfl (by omega)) hmo)⟩, fun E he => by rw [her] at he; cases he⟩, ⟨giS, giK, giI, giO, giF, im_up giE (by decide), giF _, by have := giF (yr - 1); omega, gir⟩, by rw [ht9]; exact hP, hD⟩, hS.F ht9⟩) hS.2.2 d_M_leap_60
      · skip
        have ht : hbL (gF (yr - 1)) (gE (yr - 1)) gS 6 yn (wnt gK gI gO (yr - 1 - x.toNatClampNeg)) = none := tA_no h42
        have et : xo ISE (hbL (gF (yr - 1)) (gE (yr - 1)) gS 6 yn (wnt gK gI gO (yr - 1 - x.toNatClampNeg))) = some ISE := by rw [ht]; rfl
        refine lv_aload_n hx hb d_M_leap_45 rfl (lv_at hl 0 rfl) ?_
        refine lv_iconst (v := nI 2) hx hb d_M_leap_46 (by decide) ?_
        refine cl_w (v := some (.int (nI 0))) hD hS hA (W.runV (b := u 0) (C := "TypeStackModel") (As := [.int (nI 2)]) (rest := []) ⟨hx, hb, hml, hown, hw⟩ (c_M_undo l D u cI cZ gS gK gI gO gF gE (cpn gQ gS yn) 0 ((tA (gF (yr - 1)) (gE (yr - 1)) gS 6 (wnt gK gI gO (yr - 1 - x.toNatClampNeg)) (yn, yc, 0)).1) yr ym yd yn ((tA (gF (yr - 1)) (gE (yr - 1)) gS 6 (wnt gK gI gO (yr - 1 - x.toNatClampNeg)) (yn, yc, 0)).2.2) ((tA (gF (yr - 1)) (gE (yr - 1)) gS 6 (wnt gK gI gO (yr - 1 - x.toNatClampNeg)) (yn, yc, 0)).2.1) 2 (by omega) H.size) (cwV 1 hw g_M_90 rfl rfl rfl ⟨rfl, by decide, by decide, by decide +kernel⟩ ⟨by decide, by decide⟩) ⟨PW.blind, va_recv (q := (RM, FM, 15)) (ci := 1) (q0 := 0) hK hP rfl rfl, PW.pre hP hK hD hS hA hE⟩ rfl rfl hl.1 rfl (lv_room (Nat.le_of_ble_eq_true rfl)) d_M_leap_47 ⟨by decide, by decide⟩) (fun H locs hP hD hS => ?_)
        have hP : va_P D cls2 (wM u cI cZ (cpn gS (cpn gQ gS yn) yn) gK gI gO gF gE (cpn gQ gS yn) 2 yn yr ym yd yn ((tA (gF (yr - 1)) (gE (yr - 1)) gS 6 (wnt gK gI gO (yr - 1 - x.toNatClampNeg)) (yn, yc, 0)).2.2) ((tA (gF (yr - 1)) (gE (yr - 1)) gS 6 (wnt gK gI gO (yr - 1 - x.toNatClampNeg)) (yn, yc, 0)).2.1)) H := hP
        have hD : va_D (va_A (wM u cI cZ gS gK gI gO gF gE gQ yt yn yr ym yd yk yb yc) s.heap.size) (wM u cI cZ (cpn gS (cpn gQ gS yn) yn) gK gI gO gF gE (cpn gQ gS yn) 2 yn yr ym yd yn ((tA (gF (yr - 1)) (gE (yr - 1)) gS 6 (wnt gK gI gO (yr - 1 - x.toNatClampNeg)) (yn, yc, 0)).2.2) ((tA (gF (yr - 1)) (gE (yr - 1)) gS 6 (wnt gK gI gO (yr - 1 - x.toNatClampNeg)) (yn, yc, 0)).2.1)) := hD
        refine lv_pop hx hb d_M_leap_50 rfl ?_
        have her : orE (xf yr x) (xo ISE (hbL (gF (yr - 1)) (gE (yr - 1)) gS 6 yn (wnt gK gI gO (yr - 1 - x.toNatClampNeg)))) = some ISE := by simp only [orE, ex, et]
        exact W.vret hx hb hrt (fun t ht9 _ => ⟨⟨cpn gS (cpn gQ gS yn) yn, gK, gI, gO, gF, gE, cpn gQ gS yn, 2, yn, yr, ym, yd, yn, (tA (gF (yr - 1)) (gE (yr - 1)) gS 6 (wnt gK gI gO (yr - 1 - x.toNatClampNeg)) (yn, yc, 0)).2.2, (tA (gF (yr - 1)) (gE (yr - 1)) gS 6 (wnt gK gI gO (yr - 1 - x.toNatClampNeg)) (yn, yc, 0)).2.1, none, rfl, ⟨fun he => (by rw [her] at he; cases he), fun E he => by rw [her] at he; cases he; exact ⟨by decide +kernel, rfl, rel_undo⟩⟩, im_undo hi giS, by rw [ht9]; exact hP, hD⟩, hS.F ht9⟩) hS.2.2 d_M_leap_51
    · skip
      exfalso; omega
  · skip
    have ex : xf yr x = some NSE := nl_no h6
    refine lv_iconst (v := nI 1) hx hb d_M_leap_9 (by decide) ?_
    refine lv_goto hx hb d_M_leap_10 (tgt := 14) (by decide) ?_
    refine va_put (D := D) (ci := 1) (C := RM) (T := FM) (N := 15) (v := .int (nI 1)) (ty := .int) hx hb hw inM tM tM_ok nM hown hK hP hD hS 0 rfl rfl 0 (by decide) (hw _ kF_M_36) (fun _ h9 => h9) rfl (by decide +kernel) rfl rfl (Nat.le_of_ble_eq_true rfl) d_M_leap_14 (fun H locs hP hD hS => ?_)
    have hP : va_P D cls2 (wM u cI cZ gS gK gI gO gF gE gQ 1 yn yr ym yd yk yb yc) H := hP
    have hD : va_D (va_A (wM u cI cZ gS gK gI gO gF gE gQ yt yn yr ym yd yk yb yc) s.heap.size) (wM u cI cZ gS gK gI gO gF gE gQ 1 yn yr ym yd yk yb yc) := hD
    refine lv_aload_n hx hb d_M_leap_17 rfl (lv_at hl 0 rfl) ?_
    refine va_get (D := D) (ci := 1) (C := RM) (T := FM) (N := 15) (v := .int (nI 1)) hx hb hw inM hown hK hP 0 rfl rfl 0 (by decide) (hw _ kF_M_36) (fun _ h9 => h9) rfl d_M_leap_18 ?_
    refine nw_ifle hx hb (tgt := 25) d_M_leap_21 (by decide) (by omega) (fun h21 => ?_) (fun h21 => ?_)
    · skip
      exfalso; omega
    · skip
      have her : orE (xf yr x) (xo ISE (hbL (gF (yr - 1)) (gE (yr - 1)) gS 6 yn (wnt gK gI gO (yr - 1 - x.toNatClampNeg)))) = some NSE := by simp only [orE, ex]
      exact W.vret hx hb hrt (fun t ht9 _ => ⟨⟨gS, gK, gI, gO, gF, gE, gQ, 1, yn, yr, ym, yd, yk, yb, yc, none, rfl, ⟨fun he => (by rw [her] at he; cases he), fun E he => by rw [her] at he; cases he; exact ⟨by decide +kernel, rfl, rel_rf⟩⟩, hi, by rw [ht9]; exact hP, hD⟩, hS.F ht9⟩) hS.2.2 d_M_leap_24

set_option maxHeartbeats 4000000 in
set_option maxRecDepth 100000 in
theorem c_M_select (l : Launch) (D : va_G) (u : Nat → Nat) (cI cZ : ClassId) (gS gK gI gO gF gE gQ : Nat → Nat) (yt yn yr ym yd yk yb yc : Nat) (hi : IM gS gK gI gO gF gE yn ym yr) (hfl : 1 ≤ yr → gF (yr - 1) ≤ yn) (hmo : yn ≤ ym) (sz : Nat) : Met l y_M_select w_M_select (rmR 4) (PW D [(cI, .int), (cZ, .boolean)] (wM u cI cZ gS gK gI gO gF gE gQ yt yn yr ym yd yk yb yc) sz [.ref (u 0)]) (QM D u cI cZ (wM u cI cZ gS gK gI gO gF gE gQ yt yn yr ym yd yk yb yc) sz (PMo (orE (nf yr) (orE (xo ISE (hbT (gF (yr - 1)) (gE (yr - 1)) gS yn 1)) (orE (xo ISE (hb1 (gF (yr - 1)) (gE (yr - 1)) ((hbT (gF (yr - 1)) (gE (yr - 1)) gS yn 1).getD 0))) (orE (xo ISE (hb1 (gF (yr - 1)) (gE (yr - 1)) ((hb1 (gF (yr - 1)) (gE (yr - 1)) ((hbT (gF (yr - 1)) (gE (yr - 1)) gS yn 1).getD 0)).getD 0))) (orE (xo UOE (cty (tk1 (gF (yr - 1)) ((hbT (gF (yr - 1)) (gE (yr - 1)) gS yn 1).getD 0) gS) (tk1 (gF (yr - 1)) ((hb1 (gF (yr - 1)) (gE (yr - 1)) ((hbT (gF (yr - 1)) (gE (yr - 1)) gS yn 1).getD 0)).getD 0) gS))) (rmE ((hb1 (gF (yr - 1)) (gE (yr - 1)) ((hb1 (gF (yr - 1)) (gE (yr - 1)) ((hbT (gF (yr - 1)) (gE (yr - 1)) gS yn 1).getD 0)).getD 0)).getD 0 + 1))))))) (cdl [NSE, ISE, UOE, AE]) (some (.int (nI ((cty (tk1 (gF (yr - 1)) ((hbT (gF (yr - 1)) (gE (yr - 1)) gS yn 1).getD 0) gS) (tk1 (gF (yr - 1)) ((hb1 (gF (yr - 1)) (gE (yr - 1)) ((hbT (gF (yr - 1)) (gE (yr - 1)) gS yn 1).getD 0)).getD 0) gS)).getD 0)))) (some (.int (nI 0))) (Rel (va_up gS ((hb1 (gF (yr - 1)) (gE (yr - 1)) ((hb1 (gF (yr - 1)) (gE (yr - 1)) ((hbT (gF (yr - 1)) (gE (yr - 1)) gS yn 1).getD 0)).getD 0)).getD 0) ((cty (tk1 (gF (yr - 1)) ((hbT (gF (yr - 1)) (gE (yr - 1)) gS yn 1).getD 0) gS) (tk1 (gF (yr - 1)) ((hb1 (gF (yr - 1)) (gE (yr - 1)) ((hbT (gF (yr - 1)) (gE (yr - 1)) gS yn 1).getD 0)).getD 0) gS)).getD 0)) gK gI gO gF gE ((hb1 (gF (yr - 1)) (gE (yr - 1)) ((hb1 (gF (yr - 1)) (gE (yr - 1)) ((hbT (gF (yr - 1)) (gE (yr - 1)) gS yn 1).getD 0)).getD 0)).getD 0 + 1) (max ym ((hb1 (gF (yr - 1)) (gE (yr - 1)) ((hb1 (gF (yr - 1)) (gE (yr - 1)) ((hbT (gF (yr - 1)) (gE (yr - 1)) gS yn 1).getD 0)).getD 0)).getD 0 + 1)) yr (yd + 1)) (Rel gS gK gI gO gF gE yn ym yr yd))) 0 0 (va_A (wM u cI cZ gS gK gI gO gF gE gQ yt yn yr ym yd yk yb yc) sz) := by
  refine Met.ofW (cc := b_M_select) (maxL := 4) (ret := (some .int)) (by decide) rfl ?_
  intro p e s m args below meth c s₁ B hml hv
  obtain ⟨rfl, hsz, hP, hK, hD0, hE⟩ := hv
  have hx := B.exec
  have hb := B.bytes
  have hrt := B.returns
  have hts := atoms_spec (ws := w_M_select) B.pre
  have hw : ∀ w ∈ bw, w.before ([.ref (u 0)]).toArray s = true := fun w h => hts w (List.mem_cons_of_mem _ h)
  have hown : s.vm.findClass "TypeStackModel" = some m.cls := findClass_of_methodNamed B.named
  have hlocks := B.notSynchronized
  subst hsz
  have hD := hD0.self (sz := s.heap.size)
  have hA : ∀ q : Nat, s.heap.size ≤ q → va_A (wM u cI cZ gS gK gI gO gF gE gQ yt yn yr ym yd yk yb yc) s.heap.size q := fun q h => Or.inr h
  have hS : va_S (va_A (wM u cI cZ gS gK gI gO gF gE gQ yt yn yr ym yd yk yb yc) s.heap.size) s.heap s.heap [] := va_S.rf
  have hK0 := hK.sub (tys' := []) [] rfl
  have hl := lv_entry ([.ref (u 0)]) (n := 4) (Nat.le_of_ble_eq_true rfl)
  rw [lg_entry_eq]
  generalize (lg_sl ([.ref (u 0)]) ++ List.replicate (4 - (lg_sl ([.ref (u 0)])).length) Slot.unset).toArray = ls at hl ⊢
  have hl : lv_has ls 4 [(0, .ref (u 0))] := hl
  obtain ⟨giS, giK, giI, giO, giF, giE, gin, gim, gir⟩ := id hi
  refine lv_aload_n hx hb d_M_select_0 rfl (lv_at hl 0 rfl) ?_
  refine lv_aload_n hx hb d_M_select_1 rfl (lv_at hl 0 rfl) ?_
  refine va_get (D := D) (ci := 1) (C := RM) (T := FM) (N := 15) (v := .int (nI yr)) hx hb hw inM hown hK hP 0 rfl rfl 8 (by decide) (hw _ kF_M_43) (fun _ h9 => h9) rfl d_M_select_2 ?_
  refine nw_ifne hx hb (tgt := 12) d_M_select_5 (by decide) (by omega) (fun h5 => ?_) (fun h5 => ?_)
  · skip
    have ef : nf yr = none := nf_ok h5
    refine lv_iconst (v := nI 0) hx hb d_M_select_12 (by decide) ?_
    refine va_put (D := D) (ci := 1) (C := RM) (T := FM) (N := 15) (v := .int (nI 0)) (ty := .int) hx hb hw inM tM tM_ok nM hown hK hP hD hS 0 rfl rfl 0 (by decide) (hw _ kF_M_36) (fun _ h9 => h9) rfl (by decide +kernel) rfl rfl (Nat.le_of_ble_eq_true rfl) d_M_select_13 (fun H locs hP hD hS => ?_)
    have hP : va_P D cls2 (wM u cI cZ gS gK gI gO gF gE gQ 0 yn yr ym yd yk yb yc) H := hP
    have hD : va_D (va_A (wM u cI cZ gS gK gI gO gF gE gQ yt yn yr ym yd yk yb yc) s.heap.size) (wM u cI cZ gS gK gI gO gF gE gQ 0 yn yr ym yd yk yb yc) := hD
    refine lv_aload_n hx hb d_M_select_16 rfl (lv_at hl 0 rfl) ?_
    refine va_get (D := D) (ci := 1) (C := RM) (T := FM) (N := 15) (v := .int (nI 0)) hx hb hw inM hown hK hP 0 rfl rfl 0 (by decide) (hw _ kF_M_36) (fun _ h9 => h9) rfl d_M_select_17 ?_
    refine nw_ifle hx hb (tgt := 25) d_M_select_20 (by decide) (by omega) (fun h20 => ?_) (fun h20 => ?_)
    · skip
      refine lv_aload_n hx hb d_M_select_25 rfl (lv_at hl 0 rfl) ?_
      refine cl_w (v := none) hD hS hA (W.runV (b := u 0) (C := "TypeStackModel") (As := []) (rest := []) ⟨hx, hb, hml, hown, hw⟩ (c_M_keep l D u cI cZ gS gK gI gO gF gE gQ 0 yn yr ym yd yk yb yc (by omega) H.size) (cwV 0 hw g_M_84 rfl rfl rfl ⟨rfl, by decide, by decide, by decide +kernel⟩ ⟨by decide, by decide⟩) ⟨PW.blind, va_recv (q := (RM, FM, 15)) (ci := 1) (q0 := 0) hK hP rfl rfl, PW.pre hP hK hD hS hA hE⟩ rfl rfl hl.1 rfl (lv_room (Nat.le_of_ble_eq_true rfl)) d_M_select_26 ⟨by decide, by decide⟩) (fun H locs hP hD hS => ?_)
      have hP : va_P D cls2 (wM u cI cZ gS gK gI gO gF gE (cpn gQ gS yn) 0 yn yr ym yd yn 0 yc) H := hP
      have hD : va_D (va_A (wM u cI cZ gS gK gI gO gF gE gQ yt yn yr ym yd yk yb yc) s.heap.size) (wM u cI cZ gS gK gI gO gF gE (cpn gQ gS yn) 0 yn yr ym yd yn 0 yc) := hD
      refine lv_aload_n hx hb d_M_select_29 rfl (lv_at hl 0 rfl) ?_
      refine lv_iconst (v := nI 1) hx hb d_M_select_30 (by decide) ?_
      refine cl_w (v := none) hD hS hA (W.runV (b := u 0) (C := "TypeStackModel") (As := [.int (nI 1)]) (rest := []) ⟨hx, hb, hml, hown, hw⟩ (c_M_take1 l D u cI cZ gS gK gI gO gF gE (cpn gQ gS yn) 0 yn yr ym yd yn 0 yc 1 (by omega) (by omega) (by omega) (by omega) giF giE giS H.size) (cwV 1 hw g_M_75 rfl rfl rfl ⟨rfl, by decide, by decide, by decide +kernel⟩ ⟨by decide, by decide⟩) ⟨PW.blind, va_recv (q := (RM, FM, 15)) (ci := 1) (q0 := 0) hK hP rfl rfl, PW.pre hP hK hD hS hA hE⟩ rfl rfl hl.1 rfl (lv_room (Nat.le_of_ble_eq_true rfl)) d_M_select_31 ⟨by decide, by decide⟩) (fun H locs hP hD hS => ?_)
      have hP : va_P D cls2 (wM u cI cZ gS gK gI gO gF gE (cpn gQ gS yn) 0 (tkn (gF (yr - 1)) yn) yr ym yd yn (tkc (tk1 (gF (yr - 1)) yn gS) 1 (tkb (gF (yr - 1)) (gE (yr - 1)) yn 0)) (tk1 (gF (yr - 1)) yn gS)) H := hP
      have hD : va_D (va_A (wM u cI cZ gS gK gI gO gF gE gQ yt yn yr ym yd yk yb yc) s.heap.size) (wM u cI cZ gS gK gI gO gF gE (cpn gQ gS yn) 0 (tkn (gF (yr - 1)) yn) yr ym yd yn (tkc (tk1 (gF (yr - 1)) yn gS) 1 (tkb (gF (yr - 1)) (gE (yr - 1)) yn 0)) (tk1 (gF (yr - 1)) yn gS)) := hD
      have hn1 := tkn_le (gF (yr - 1)) yn
      refine lv_aload_n hx hb d_M_select_34 rfl (lv_at hl 0 rfl) ?_
      refine cl_w (v := none) hD hS hA (W.runV (b := u 0) (C := "TypeStackModel") (As := []) (rest := []) ⟨hx, hb, hml, hown, hw⟩ (c_M_take l D u cI cZ gS gK gI gO gF gE (cpn gQ gS yn) 0 (tkn (gF (yr - 1)) yn) yr ym yd yn (tkc (tk1 (gF (yr - 1)) yn gS) 1 (tkb (gF (yr - 1)) (gE (yr - 1)) yn 0)) (tk1 (gF (yr - 1)) yn gS) (by omega) (by omega) (by omega) giF giE H.size) (cwV 0 hw g_M_72 rfl rfl rfl ⟨rfl, by decide, by decide, by decide +kernel⟩ ⟨by decide, by decide⟩) ⟨PW.blind, va_recv (q := (RM, FM, 15)) (ci := 1) (q0 := 0) hK hP rfl rfl, PW.pre hP hK hD hS hA hE⟩ rfl rfl hl.1 rfl (lv_room (Nat.le_of_ble_eq_true rfl)) d_M_select_35 ⟨by decide, by decide⟩) (fun H locs hP hD hS => ?_)
      have hP : va_P D cls2 (wM u cI cZ gS gK gI gO gF gE (cpn gQ gS yn) 0 (tkn (gF (yr - 1)) (tkn (gF (yr - 1)) yn)) yr ym yd yn (tkb (gF (yr - 1)) (gE (yr - 1)) (tkn (gF (yr - 1)) yn) (tkc (tk1 (gF (yr - 1)) yn gS) 1 (tkb (gF (yr - 1)) (gE (yr - 1)) yn 0))) (tk1 (gF (yr - 1)) (tkn (gF (yr - 1)) yn) gS)) H := hP
      have hD : va_D (va_A (wM u cI cZ gS gK gI gO gF gE gQ yt yn yr ym yd yk yb yc) s.heap.size) (wM u cI cZ gS gK gI gO gF gE (cpn gQ gS yn) 0 (tkn (gF (yr - 1)) (tkn (gF (yr - 1)) yn)) yr ym yd yn (tkb (gF (yr - 1)) (gE (yr - 1)) (tkn (gF (yr - 1)) yn) (tkc (tk1 (gF (yr - 1)) yn gS) 1 (tkb (gF (yr - 1)) (gE (yr - 1)) yn 0))) (tk1 (gF (yr - 1)) (tkn (gF (yr - 1)) yn) gS)) := hD
      refine lv_aload_n hx hb d_M_select_38 rfl (lv_at hl 0 rfl) ?_
      refine va_get (D := D) (ci := 1) (C := RM) (T := FM) (N := 15) (v := .int (nI (tk1 (gF (yr - 1)) (tkn (gF (yr - 1)) yn) gS))) hx hb hw inM hown hK hP 0 rfl rfl 14 (by decide) (hw _ kF_M_65) (fun _ h9 => h9) rfl d_M_select_39 ?_
      refine lv_istore_n (lv' := [(1, .int (nI (tk1 (gF (yr - 1)) (tkn (gF (yr - 1)) yn) gS))), (0, .ref (u 0))]) hx hb d_M_select_42 rfl hl (by decide) rfl (fun ls hl => ?_)
      have hn2 := tkn_le (gF (yr - 1)) (tkn (gF (yr - 1)) yn)
      refine lv_aload_n hx hb d_M_select_43 rfl (lv_at hl 1 rfl) ?_
      refine cl_w (v := none) hD hS hA (W.runV (b := u 0) (C := "TypeStackModel") (As := []) (rest := []) ⟨hx, hb, hml, hown, hw⟩ (c_M_take l D u cI cZ gS gK gI gO gF gE (cpn gQ gS yn) 0 (tkn (gF (yr - 1)) (tkn (gF (yr - 1)) yn)) yr ym yd yn (tkb (gF (yr - 1)) (gE (yr - 1)) (tkn (gF (yr - 1)) yn) (tkc (tk1 (gF (yr - 1)) yn gS) 1 (tkb (gF (yr - 1)) (gE (yr - 1)) yn 0))) (tk1 (gF (yr - 1)) (tkn (gF (yr - 1)) yn) gS) (by omega) (by omega) (by omega) giF giE H.size) (cwV 0 hw g_M_72 rfl rfl rfl ⟨rfl, by decide, by decide, by decide +kernel⟩ ⟨by decide, by decide⟩) ⟨PW.blind, va_recv (q := (RM, FM, 15)) (ci := 1) (q0 := 0) hK hP rfl rfl, PW.pre hP hK hD hS hA hE⟩ rfl rfl hl.1 rfl (lv_room (Nat.le_of_ble_eq_true rfl)) d_M_select_44 ⟨by decide, by decide⟩) (fun H locs hP hD hS => ?_)
      have hP : va_P D cls2 (wM u cI cZ gS gK gI gO gF gE (cpn gQ gS yn) 0 (tkn (gF (yr - 1)) (tkn (gF (yr - 1)) (tkn (gF (yr - 1)) yn))) yr ym yd yn (tkb (gF (yr - 1)) (gE (yr - 1)) (tkn (gF (yr - 1)) (tkn (gF (yr - 1)) yn)) (tkb (gF (yr - 1)) (gE (yr - 1)) (tkn (gF (yr - 1)) yn) (tkc (tk1 (gF (yr - 1)) yn gS) 1 (tkb (gF (yr - 1)) (gE (yr - 1)) yn 0)))) (tk1 (gF (yr - 1)) (tkn (gF (yr - 1)) (tkn (gF (yr - 1)) yn)) gS)) H := hP
      have hD : va_D (va_A (wM u cI cZ gS gK gI gO gF gE gQ yt yn yr ym yd yk yb yc) s.heap.size) (wM u cI cZ gS gK gI gO gF gE (cpn gQ gS yn) 0 (tkn (gF (yr - 1)) (tkn (gF (yr - 1)) (tkn (gF (yr - 1)) yn))) yr ym yd yn (tkb (gF (yr - 1)) (gE (yr - 1)) (tkn (gF (yr - 1)) (tkn (gF (yr - 1)) yn)) (tkb (gF (yr - 1)) (gE (yr - 1)) (tkn (gF (yr - 1)) yn) (tkc (tk1 (gF (yr - 1)) yn gS) 1 (tkb (gF (yr - 1)) (gE (yr - 1)) yn 0)))) (tk1 (gF (yr - 1)) (tkn (gF (yr - 1)) (tkn (gF (yr - 1)) yn)) gS)) := hD
      refine lv_aload_n hx hb d_M_select_47 rfl (lv_at hl 1 rfl) ?_
      refine va_get (D := D) (ci := 1) (C := RM) (T := FM) (N := 15) (v := .int (nI (tk1 (gF (yr - 1)) (tkn (gF (yr - 1)) (tkn (gF (yr - 1)) yn)) gS))) hx hb hw inM hown hK hP 0 rfl rfl 14 (by decide) (hw _ kF_M_65) (fun _ h9 => h9) rfl d_M_select_48 ?_
      refine lv_istore_n (lv' := [(2, .int (nI (tk1 (gF (yr - 1)) (tkn (gF (yr - 1)) (tkn (gF (yr - 1)) yn)) gS))), (1, .int (nI (tk1 (gF (yr - 1)) (tkn (gF (yr - 1)) yn) gS))), (0, .ref (u 0))]) hx hb d_M_select_51 rfl hl (by decide) rfl (fun ls hl => ?_)
      have hn3 := tkn_le (gF (yr - 1)) (tkn (gF (yr - 1)) (tkn (gF (yr - 1)) yn))
      have hbb : tkb (gF (yr - 1)) (gE (yr - 1)) (tkn (gF (yr - 1)) (tkn (gF (yr - 1)) yn)) (tkb (gF (yr - 1)) (gE (yr - 1)) (tkn (gF (yr - 1)) yn) (tkc (tk1 (gF (yr - 1)) yn gS) 1 (tkb (gF (yr - 1)) (gE (yr - 1)) yn 0))) ≤ 1 := tkb_le (tkb_le (tkc_le (tkb_le (Nat.zero_le 1))))
      have ha5 : tk1 (gF (yr - 1)) (tkn (gF (yr - 1)) yn) gS < 5 := tk1_lt giS
      have hb5 : tk1 (gF (yr - 1)) (tkn (gF (yr - 1)) (tkn (gF (yr - 1)) yn)) gS < 5 := tk1_lt giS
      refine lv_aload_n hx hb d_M_select_52 rfl (lv_at hl 2 rfl) ?_
      refine va_get (D := D) (ci := 1) (C := RM) (T := FM) (N := 15) (v := .int (nI (tkb (gF (yr - 1)) (gE (yr - 1)) (tkn (gF (yr - 1)) (tkn (gF (yr - 1)) yn)) (tkb (gF (yr - 1)) (gE (yr - 1)) (tkn (gF (yr - 1)) yn) (tkc (tk1 (gF (yr - 1)) yn gS) 1 (tkb (gF (yr - 1)) (gE (yr - 1)) yn 0)))))) hx hb hw inM hown hK hP 0 rfl rfl 13 (by decide) (hw _ kF_M_55) (fun _ h9 => h9) rfl d_M_select_53 ?_
      refine nw_ifeq hx hb (tgt := 65) d_M_select_56 (by decide) (by omega) (fun h56 => ?_) (fun h56 => ?_)
      · skip
        obtain ⟨⟨e1, p1⟩, ⟨e2, p2⟩, e3, p3⟩ := sel_ok h56
        refine lv_iload_n hx hb d_M_select_65 rfl (lv_at hl 1 rfl) ?_
        refine nw_ifne hx hb (tgt := 73) d_M_select_66 (by decide) (by omega) (fun h66 => ?_) (fun h66 => ?_)
        · skip
          refine lv_iload_n hx hb d_M_select_73 rfl (lv_at hl 1 rfl) ?_
          refine lv_istore_n (lv' := [(3, .int (nI (tk1 (gF (yr - 1)) (tkn (gF (yr - 1)) yn) gS))), (2, .int (nI (tk1 (gF (yr - 1)) (tkn (gF (yr - 1)) (tkn (gF (yr - 1)) yn)) gS))), (1, .int (nI (tk1 (gF (yr - 1)) (tkn (gF (yr - 1)) yn) gS))), (0, .ref (u 0))]) hx hb d_M_select_74 rfl hl (by decide) rfl (fun ls hl => ?_)
          refine lv_iload_n hx hb d_M_select_75 rfl (lv_at hl 2 rfl) ?_
          refine nw_ifeq hx hb (tgt := 88) d_M_select_76 (by decide) (by omega) (fun h76 => ?_) (fun h76 => ?_)
          · skip
            exfalso; omega
          · skip
            refine lv_iload_n hx hb d_M_select_79 rfl (lv_at hl 1 rfl) ?_
            refine nw_ifeq hx hb (tgt := 88) d_M_select_80 (by decide) (by omega) (fun h80 => ?_) (fun h80 => ?_)
            · skip
              refine lv_iload_n hx hb d_M_select_88 rfl (lv_at hl 0 rfl) ?_
              refine lv_iconst (v := nI 4) hx hb d_M_select_89 (by decide) ?_
              refine nw_ne hx hb (tgt := 99) d_M_select_90 (by decide) (by omega) (by omega) (fun h90 => ?_) (fun h90 => ?_)
              · skip
                refine lv_aload_n hx hb d_M_select_99 rfl (lv_at hl 3 rfl) ?_
                refine lv_iload_n hx hb d_M_select_100 rfl (lv_at hl 0 rfl) ?_
                refine cl_w (v := none) hD hS hA (W.runV (b := u 0) (C := "TypeStackModel") (As := [.int (nI (tk1 (gF (yr - 1)) (tkn (gF (yr - 1)) yn) gS))]) (rest := []) ⟨hx, hb, hml, hown, hw⟩ (c_M_put l D u cI cZ gS gK gI gO gF gE (cpn gQ gS yn) 0 (tkn (gF (yr - 1)) (tkn (gF (yr - 1)) (tkn (gF (yr - 1)) yn))) yr ym yd yn (tkb (gF (yr - 1)) (gE (yr - 1)) (tkn (gF (yr - 1)) (tkn (gF (yr - 1)) yn)) (tkb (gF (yr - 1)) (gE (yr - 1)) (tkn (gF (yr - 1)) yn) (tkc (tk1 (gF (yr - 1)) yn gS) 1 (tkb (gF (yr - 1)) (gE (yr - 1)) yn 0)))) (tk1 (gF (yr - 1)) (tkn (gF (yr - 1)) (tkn (gF (yr - 1)) yn)) gS) (tk1 (gF (yr - 1)) (tkn (gF (yr - 1)) yn) gS) (by omega) H.size) (cwV 1 hw g_M_77 rfl rfl rfl ⟨rfl, by decide, by decide, by decide +kernel⟩ ⟨by decide, by decide⟩) ⟨PW.blind, va_recv (q := (RM, FM, 15)) (ci := 1) (q0 := 0) hK hP rfl rfl, PW.pre hP hK hD hS hA hE⟩ rfl rfl hl.1 rfl (lv_room (Nat.le_of_ble_eq_true rfl)) d_M_select_101 ⟨by decide, by decide⟩) (fun H locs hP hD hS => ?_)
                have hP : va_P D cls2 (wM u cI cZ (va_up gS (tkn (gF (yr - 1)) (tkn (gF (yr - 1)) (tkn (gF (yr - 1)) yn))) (tk1 (gF (yr - 1)) (tkn (gF (yr - 1)) yn) gS)) gK gI gO gF gE (cpn gQ gS yn) 0 (tkn (gF (yr - 1)) (tkn (gF (yr - 1)) (tkn (gF (yr - 1)) yn)) + 1) yr ym yd yn (tkb (gF (yr - 1)) (gE (yr - 1)) (tkn (gF (yr - 1)) (tkn (gF (yr - 1)) yn)) (tkb (gF (yr - 1)) (gE (yr - 1)) (tkn (gF (yr - 1)) yn) (tkc (tk1 (gF (yr - 1)) yn gS) 1 (tkb (gF (yr - 1)) (gE (yr - 1)) yn 0)))) (tk1 (gF (yr - 1)) (tkn (gF (yr - 1)) (tkn (gF (yr - 1)) yn)) gS)) H := hP
                have hD : va_D (va_A (wM u cI cZ gS gK gI gO gF gE gQ yt yn yr ym yd yk yb yc) s.heap.size) (wM u cI cZ (va_up gS (tkn (gF (yr - 1)) (tkn (gF (yr - 1)) (tkn (gF (yr - 1)) yn))) (tk1 (gF (yr - 1)) (tkn (gF (yr - 1)) yn) gS)) gK gI gO gF gE (cpn gQ gS yn) 0 (tkn (gF (yr - 1)) (tkn (gF (yr - 1)) (tkn (gF (yr - 1)) yn)) + 1) yr ym yd yn (tkb (gF (yr - 1)) (gE (yr - 1)) (tkn (gF (yr - 1)) (tkn (gF (yr - 1)) yn)) (tkb (gF (yr - 1)) (gE (yr - 1)) (tkn (gF (yr - 1)) yn) (tkc (tk1 (gF (yr - 1)) yn gS) 1 (tkb (gF (yr - 1)) (gE (yr - 1)) yn 0)))) (tk1 (gF (yr - 1)) (tkn (gF (yr - 1)) (tkn (gF (yr - 1)) yn)) gS)) := hD
                refine lv_aload_n hx hb d_M_select_104 rfl (lv_at hl 3 rfl) ?_
                refine va_get (D := D) (ci := 1) (C := RM) (T := FM) (N := 15) (v := .int (nI (tkn (gF (yr - 1)) (tkn (gF (yr - 1)) (tkn (gF (yr - 1)) yn)) + 1))) hx hb hw inM hown hK hP 0 rfl rfl 7 (by decide) (hw _ kF_M_40) (fun _ h9 => h9) rfl d_M_select_105 ?_
                refine lv_sipush (v := nI 300) hx hb d_M_select_108 (by decide) ?_
                refine nw_le hx hb (tgt := 120) d_M_select_111 (by decide) (by omega) (by omega) (fun h111 => ?_) (fun h111 => ?_)
                · skip
                  refine lv_aload_n hx hb d_M_select_120 rfl (lv_at hl 3 rfl) ?_
                  refine cl_w (v := none) hD hS hA (W.runV (b := u 0) (C := "TypeStackModel") (As := []) (rest := []) ⟨hx, hb, hml, hown, hw⟩ (c_M_well l D u cI cZ (va_up gS (tkn (gF (yr - 1)) (tkn (gF (yr - 1)) (tkn (gF (yr - 1)) yn))) (tk1 (gF (yr - 1)) (tkn (gF (yr - 1)) yn) gS)) gK gI gO gF gE (cpn gQ gS yn) 0 (tkn (gF (yr - 1)) (tkn (gF (yr - 1)) (tkn (gF (yr - 1)) yn)) + 1) yr ym yd yn (tkb (gF (yr - 1)) (gE (yr - 1)) (tkn (gF (yr - 1)) (tkn (gF (yr - 1)) yn)) (tkb (gF (yr - 1)) (gE (yr - 1)) (tkn (gF (yr - 1)) yn) (tkc (tk1 (gF (yr - 1)) yn gS) 1 (tkb (gF (yr - 1)) (gE (yr - 1)) yn 0)))) (tk1 (gF (yr - 1)) (tkn (gF (yr - 1)) (tkn (gF (yr - 1)) yn)) gS) (by omega) (by omega) H.size) (cwV 0 hw g_M_97 rfl rfl rfl ⟨rfl, by decide, by decide, by decide +kernel⟩ ⟨by decide, by decide⟩) ⟨PW.blind, va_recv (q := (RM, FM, 15)) (ci := 1) (q0 := 0) hK hP rfl rfl, PW.pre hP hK hD hS hA hE⟩ rfl rfl hl.1 rfl (lv_room (Nat.le_of_ble_eq_true rfl)) d_M_select_121 ⟨by decide, by decide⟩) (fun H locs hP hD hS => ?_)
                  have hP : va_P D cls2 (wM u cI cZ (va_up gS (tkn (gF (yr - 1)) (tkn (gF (yr - 1)) (tkn (gF (yr - 1)) yn))) (tk1 (gF (yr - 1)) (tkn (gF (yr - 1)) yn) gS)) gK gI gO gF gE (cpn gQ gS yn) 0 (tkn (gF (yr - 1)) (tkn (gF (yr - 1)) (tkn (gF (yr - 1)) yn)) + 1) yr (max ym (tkn (gF (yr - 1)) (tkn (gF (yr - 1)) (tkn (gF (yr - 1)) yn)) + 1)) (yd + 1) yn (tkb (gF (yr - 1)) (gE (yr - 1)) (tkn (gF (yr - 1)) (tkn (gF (yr - 1)) yn)) (tkb (gF (yr - 1)) (gE (yr - 1)) (tkn (gF (yr - 1)) yn) (tkc (tk1 (gF (yr - 1)) yn gS) 1 (tkb (gF (yr - 1)) (gE (yr - 1)) yn 0)))) (tk1 (gF (yr - 1)) (tkn (gF (yr - 1)) (tkn (gF (yr - 1)) yn)) gS)) H := hP
                  have hD : va_D (va_A (wM u cI cZ gS gK gI gO gF gE gQ yt yn yr ym yd yk yb yc) s.heap.size) (wM u cI cZ (va_up gS (tkn (gF (yr - 1)) (tkn (gF (yr - 1)) (tkn (gF (yr - 1)) yn))) (tk1 (gF (yr - 1)) (tkn (gF (yr - 1)) yn) gS)) gK gI gO gF gE (cpn gQ gS yn) 0 (tkn (gF (yr - 1)) (tkn (gF (yr - 1)) (tkn (gF (yr - 1)) yn)) + 1) yr (max ym (tkn (gF (yr - 1)) (tkn (gF (yr - 1)) (tkn (gF (yr - 1)) yn)) + 1)) (yd + 1) yn (tkb (gF (yr - 1)) (gE (yr - 1)) (tkn (gF (yr - 1)) (tkn (gF (yr - 1)) yn)) (tkb (gF (yr - 1)) (gE (yr - 1)) (tkn (gF (yr - 1)) yn) (tkc (tk1 (gF (yr - 1)) yn gS) 1 (tkb (gF (yr - 1)) (gE (yr - 1)) yn 0)))) (tk1 (gF (yr - 1)) (tkn (gF (yr - 1)) (tkn (gF (yr - 1)) yn)) gS)) := hD
                  refine lv_iload_n hx hb d_M_select_124 rfl (lv_at hl 0 rfl) ?_
                  have her : orE (nf yr) (orE (xo ISE (hbT (gF (yr - 1)) (gE (yr - 1)) gS yn 1)) (orE (xo ISE (hb1 (gF (yr - 1)) (gE (yr - 1)) ((hbT (gF (yr - 1)) (gE (yr - 1)) gS yn 1).getD 0))) (orE (xo ISE (hb1 (gF (yr - 1)) (gE (yr - 1)) ((hb1 (gF (yr - 1)) (gE (yr - 1)) ((hbT (gF (yr - 1)) (gE (yr - 1)) gS yn 1).getD 0)).getD 0))) (orE (xo UOE (cty (tk1 (gF (yr - 1)) ((hbT (gF (yr - 1)) (gE (yr - 1)) gS yn 1).getD 0) gS) (tk1 (gF (yr - 1)) ((hb1 (gF (yr - 1)) (gE (yr - 1)) ((hbT (gF (yr - 1)) (gE (yr - 1)) gS yn 1).getD 0)).getD 0) gS))) (rmE ((hb1 (gF (yr - 1)) (gE (yr - 1)) ((hb1 (gF (yr - 1)) (gE (yr - 1)) ((hbT (gF (yr - 1)) (gE (yr - 1)) gS yn 1).getD 0)).getD 0)).getD 0 + 1)))))) = none := by rw [ef, e1, p1, e2, p2, e3, p3, cty_b h66 h80 h90, rm_ok h111] <;> rfl
                  exact W.iret hx hb hrt (fun t ht9 _ => ⟨⟨va_up gS (tkn (gF (yr - 1)) (tkn (gF (yr - 1)) (tkn (gF (yr - 1)) yn))) (tk1 (gF (yr - 1)) (tkn (gF (yr - 1)) yn) gS), gK, gI, gO, gF, gE, cpn gQ gS yn, 0, tkn (gF (yr - 1)) (tkn (gF (yr - 1)) (tkn (gF (yr - 1)) yn)) + 1, yr, max ym (tkn (gF (yr - 1)) (tkn (gF (yr - 1)) (tkn (gF (yr - 1)) yn)) + 1), yd + 1, yn, tkb (gF (yr - 1)) (gE (yr - 1)) (tkn (gF (yr - 1)) (tkn (gF (yr - 1)) yn)) (tkb (gF (yr - 1)) (gE (yr - 1)) (tkn (gF (yr - 1)) yn) (tkc (tk1 (gF (yr - 1)) yn gS) 1 (tkb (gF (yr - 1)) (gE (yr - 1)) yn 0))), tk1 (gF (yr - 1)) (tkn (gF (yr - 1)) (tkn (gF (yr - 1)) yn)) gS, some (.int (nI (tk1 (gF (yr - 1)) (tkn (gF (yr - 1)) yn) gS))), rfl, ⟨fun _ => ⟨rfl, by rw [p1, p2, cty_b h66 h80 h90] <;> rfl, by rw [p1, p2, p3, cty_b h66 h80 h90]; exact rel_rf⟩, fun E he => by rw [her] at he; cases he⟩, ⟨im_upl giS ha5, giK, giI, giO, giF, giE, by omega, by omega, gir⟩, by rw [ht9]; exact hP, hD⟩, hS.F ht9⟩) hS.2.2 d_M_select_125
                · skip
                  refine lv_aload_n hx hb d_M_select_114 rfl (lv_at hl 3 rfl) ?_
                  refine lv_iconst (v := nI 4) hx hb d_M_select_115 (by decide) ?_
                  refine cl_w (v := some (.int (nI 0))) hD hS hA (W.runV (b := u 0) (C := "TypeStackModel") (As := [.int (nI 4)]) (rest := []) ⟨hx, hb, hml, hown, hw⟩ (c_M_undo l D u cI cZ (va_up gS (tkn (gF (yr - 1)) (tkn (gF (yr - 1)) (tkn (gF (yr - 1)) yn))) (tk1 (gF (yr - 1)) (tkn (gF (yr - 1)) yn) gS)) gK gI gO gF gE (cpn gQ gS yn) 0 (tkn (gF (yr - 1)) (tkn (gF (yr - 1)) (tkn (gF (yr - 1)) yn)) + 1) yr ym yd yn (tkb (gF (yr - 1)) (gE (yr - 1)) (tkn (gF (yr - 1)) (tkn (gF (yr - 1)) yn)) (tkb (gF (yr - 1)) (gE (yr - 1)) (tkn (gF (yr - 1)) yn) (tkc (tk1 (gF (yr - 1)) yn gS) 1 (tkb (gF (yr - 1)) (gE (yr - 1)) yn 0)))) (tk1 (gF (yr - 1)) (tkn (gF (yr - 1)) (tkn (gF (yr - 1)) yn)) gS) 4 (by omega) H.size) (cwV 1 hw g_M_90 rfl rfl rfl ⟨rfl, by decide, by decide, by decide +kernel⟩ ⟨by decide, by decide⟩) ⟨PW.blind, va_recv (q := (RM, FM, 15)) (ci := 1) (q0 := 0) hK hP rfl rfl, PW.pre hP hK hD hS hA hE⟩ rfl rfl hl.1 rfl (lv_room (Nat.le_of_ble_eq_true rfl)) d_M_select_116 ⟨by decide, by decide⟩) (fun H locs hP hD hS => ?_)
                  have hP : va_P D cls2 (wM u cI cZ (cpn (va_up gS (tkn (gF (yr - 1)) (tkn (gF (yr - 1)) (tkn (gF (yr - 1)) yn))) (tk1 (gF (yr - 1)) (tkn (gF (yr - 1)) yn) gS)) (cpn gQ gS yn) yn) gK gI gO gF gE (cpn gQ gS yn) 4 yn yr ym yd yn (tkb (gF (yr - 1)) (gE (yr - 1)) (tkn (gF (yr - 1)) (tkn (gF (yr - 1)) yn)) (tkb (gF (yr - 1)) (gE (yr - 1)) (tkn (gF (yr - 1)) yn) (tkc (tk1 (gF (yr - 1)) yn gS) 1 (tkb (gF (yr - 1)) (gE (yr - 1)) yn 0)))) (tk1 (gF (yr - 1)) (tkn (gF (yr - 1)) (tkn (gF (yr - 1)) yn)) gS)) H := hP
                  have hD : va_D (va_A (wM u cI cZ gS gK gI gO gF gE gQ yt yn yr ym yd yk yb yc) s.heap.size) (wM u cI cZ (cpn (va_up gS (tkn (gF (yr - 1)) (tkn (gF (yr - 1)) (tkn (gF (yr - 1)) yn))) (tk1 (gF (yr - 1)) (tkn (gF (yr - 1)) yn) gS)) (cpn gQ gS yn) yn) gK gI gO gF gE (cpn gQ gS yn) 4 yn yr ym yd yn (tkb (gF (yr - 1)) (gE (yr - 1)) (tkn (gF (yr - 1)) (tkn (gF (yr - 1)) yn)) (tkb (gF (yr - 1)) (gE (yr - 1)) (tkn (gF (yr - 1)) yn) (tkc (tk1 (gF (yr - 1)) yn gS) 1 (tkb (gF (yr - 1)) (gE (yr - 1)) yn 0)))) (tk1 (gF (yr - 1)) (tkn (gF (yr - 1)) (tkn (gF (yr - 1)) yn)) gS)) := hD
                  have her : orE (nf yr) (orE (xo ISE (hbT (gF (yr - 1)) (gE (yr - 1)) gS yn 1)) (orE (xo ISE (hb1 (gF (yr - 1)) (gE (yr - 1)) ((hbT (gF (yr - 1)) (gE (yr - 1)) gS yn 1).getD 0))) (orE (xo ISE (hb1 (gF (yr - 1)) (gE (yr - 1)) ((hb1 (gF (yr - 1)) (gE (yr - 1)) ((hbT (gF (yr - 1)) (gE (yr - 1)) gS yn 1).getD 0)).getD 0))) (orE (xo UOE (cty (tk1 (gF (yr - 1)) ((hbT (gF (yr - 1)) (gE (yr - 1)) gS yn 1).getD 0) gS) (tk1 (gF (yr - 1)) ((hb1 (gF (yr - 1)) (gE (yr - 1)) ((hbT (gF (yr - 1)) (gE (yr - 1)) gS yn 1).getD 0)).getD 0) gS))) (rmE ((hb1 (gF (yr - 1)) (gE (yr - 1)) ((hb1 (gF (yr - 1)) (gE (yr - 1)) ((hbT (gF (yr - 1)) (gE (yr - 1)) gS yn 1).getD 0)).getD 0)).getD 0 + 1)))))) = some AE := by rw [ef, e1, p1, e2, p2, e3, p3, cty_b h66 h80 h90, rm_no h111] <;> rfl
                  exact W.iret hx hb hrt (fun t ht9 _ => ⟨⟨cpn (va_up gS (tkn (gF (yr - 1)) (tkn (gF (yr - 1)) (tkn (gF (yr - 1)) yn))) (tk1 (gF (yr - 1)) (tkn (gF (yr - 1)) yn) gS)) (cpn gQ gS yn) yn, gK, gI, gO, gF, gE, cpn gQ gS yn, 4, yn, yr, ym, yd, yn, tkb (gF (yr - 1)) (gE (yr - 1)) (tkn (gF (yr - 1)) (tkn (gF (yr - 1)) yn)) (tkb (gF (yr - 1)) (gE (yr - 1)) (tkn (gF (yr - 1)) yn) (tkc (tk1 (gF (yr - 1)) yn gS) 1 (tkb (gF (yr - 1)) (gE (yr - 1)) yn 0))), tk1 (gF (yr - 1)) (tkn (gF (yr - 1)) (tkn (gF (yr - 1)) yn)) gS, some (.int (nI 0)), rfl, ⟨fun he => (by rw [her] at he; cases he), fun E he => by rw [her] at he; cases he; exact ⟨by decide +kernel, rfl, rel_undo⟩⟩, im_undo hi (im_upl giS ha5), by rw [ht9]; exact hP, hD⟩, hS.F ht9⟩) hS.2.2 d_M_select_119
              · skip
                refine lv_aload_n hx hb d_M_select_93 rfl (lv_at hl 3 rfl) ?_
                refine lv_iconst (v := nI 3) hx hb d_M_select_94 (by decide) ?_
                refine cl_w (v := some (.int (nI 0))) hD hS hA (W.runV (b := u 0) (C := "TypeStackModel") (As := [.int (nI 3)]) (rest := []) ⟨hx, hb, hml, hown, hw⟩ (c_M_undo l D u cI cZ gS gK gI gO gF gE (cpn gQ gS yn) 0 (tkn (gF (yr - 1)) (tkn (gF (yr - 1)) (tkn (gF (yr - 1)) yn))) yr ym yd yn (tkb (gF (yr - 1)) (gE (yr - 1)) (tkn (gF (yr - 1)) (tkn (gF (yr - 1)) yn)) (tkb (gF (yr - 1)) (gE (yr - 1)) (tkn (gF (yr - 1)) yn) (tkc (tk1 (gF (yr - 1)) yn gS) 1 (tkb (gF (yr - 1)) (gE (yr - 1)) yn 0)))) (tk1 (gF (yr - 1)) (tkn (gF (yr - 1)) (tkn (gF (yr - 1)) yn)) gS) 3 (by omega) H.size) (cwV 1 hw g_M_90 rfl rfl rfl ⟨rfl, by decide, by decide, by decide +kernel⟩ ⟨by decide, by decide⟩) ⟨PW.blind, va_recv (q := (RM, FM, 15)) (ci := 1) (q0 := 0) hK hP rfl rfl, PW.pre hP hK hD hS hA hE⟩ rfl rfl hl.1 rfl (lv_room (Nat.le_of_ble_eq_true rfl)) d_M_select_95 ⟨by decide, by decide⟩) (fun H locs hP hD hS => ?_)
                have hP : va_P D cls2 (wM u cI cZ (cpn gS (cpn gQ gS yn) yn) gK gI gO gF gE (cpn gQ gS yn) 3 yn yr ym yd yn (tkb (gF (yr - 1)) (gE (yr - 1)) (tkn (gF (yr - 1)) (tkn (gF (yr - 1)) yn)) (tkb (gF (yr - 1)) (gE (yr - 1)) (tkn (gF (yr - 1)) yn) (tkc (tk1 (gF (yr - 1)) yn gS) 1 (tkb (gF (yr - 1)) (gE (yr - 1)) yn 0)))) (tk1 (gF (yr - 1)) (tkn (gF (yr - 1)) (tkn (gF (yr - 1)) yn)) gS)) H := hP
                have hD : va_D (va_A (wM u cI cZ gS gK gI gO gF gE gQ yt yn yr ym yd yk yb yc) s.heap.size) (wM u cI cZ (cpn gS (cpn gQ gS yn) yn) gK gI gO gF gE (cpn gQ gS yn) 3 yn yr ym yd yn (tkb (gF (yr - 1)) (gE (yr - 1)) (tkn (gF (yr - 1)) (tkn (gF (yr - 1)) yn)) (tkb (gF (yr - 1)) (gE (yr - 1)) (tkn (gF (yr - 1)) yn) (tkc (tk1 (gF (yr - 1)) yn gS) 1 (tkb (gF (yr - 1)) (gE (yr - 1)) yn 0)))) (tk1 (gF (yr - 1)) (tkn (gF (yr - 1)) (tkn (gF (yr - 1)) yn)) gS)) := hD
                have her : orE (nf yr) (orE (xo ISE (hbT (gF (yr - 1)) (gE (yr - 1)) gS yn 1)) (orE (xo ISE (hb1 (gF (yr - 1)) (gE (yr - 1)) ((hbT (gF (yr - 1)) (gE (yr - 1)) gS yn 1).getD 0))) (orE (xo ISE (hb1 (gF (yr - 1)) (gE (yr - 1)) ((hb1 (gF (yr - 1)) (gE (yr - 1)) ((hbT (gF (yr - 1)) (gE (yr - 1)) gS yn 1).getD 0)).getD 0))) (orE (xo UOE (cty (tk1 (gF (yr - 1)) ((hbT (gF (yr - 1)) (gE (yr - 1)) gS yn 1).getD 0) gS) (tk1 (gF (yr - 1)) ((hb1 (gF (yr - 1)) (gE (yr - 1)) ((hbT (gF (yr - 1)) (gE (yr - 1)) gS yn 1).getD 0)).getD 0) gS))) (rmE ((hb1 (gF (yr - 1)) (gE (yr - 1)) ((hb1 (gF (yr - 1)) (gE (yr - 1)) ((hbT (gF (yr - 1)) (gE (yr - 1)) gS yn 1).getD 0)).getD 0)).getD 0 + 1)))))) = some UOE := by rw [ef, e1, p1, e2, p2, e3, p3, cty_b4 h66 h90] <;> rfl
                exact W.iret hx hb hrt (fun t ht9 _ => ⟨⟨cpn gS (cpn gQ gS yn) yn, gK, gI, gO, gF, gE, cpn gQ gS yn, 3, yn, yr, ym, yd, yn, tkb (gF (yr - 1)) (gE (yr - 1)) (tkn (gF (yr - 1)) (tkn (gF (yr - 1)) yn)) (tkb (gF (yr - 1)) (gE (yr - 1)) (tkn (gF (yr - 1)) yn) (tkc (tk1 (gF (yr - 1)) yn gS) 1 (tkb (gF (yr - 1)) (gE (yr - 1)) yn 0))), tk1 (gF (yr - 1)) (tkn (gF (yr - 1)) (tkn (gF (yr - 1)) yn)) gS, some (.int (nI 0)), rfl, ⟨fun he => (by rw [her] at he; cases he), fun E he => by rw [her] at he; cases he; exact ⟨by decide +kernel, rfl, rel_undo⟩⟩, im_undo hi giS, by rw [ht9]; exact hP, hD⟩, hS.F ht9⟩) hS.2.2 d_M_select_98
            · skip
              refine lv_iload_n hx hb d_M_select_83 rfl (lv_at hl 2 rfl) ?_
              refine lv_iload_n hx hb d_M_select_84 rfl (lv_at hl 1 rfl) ?_
              refine nw_ne hx hb (tgt := 93) d_M_select_85 (by decide) (by omega) (by omega) (fun h85 => ?_) (fun h85 => ?_)
              · skip
                refine lv_aload_n hx hb d_M_select_93 rfl (lv_at hl 3 rfl) ?_
                refine lv_iconst (v := nI 3) hx hb d_M_select_94 (by decide) ?_
                refine cl_w (v := some (.int (nI 0))) hD hS hA (W.runV (b := u 0) (C := "TypeStackModel") (As := [.int (nI 3)]) (rest := []) ⟨hx, hb, hml, hown, hw⟩ (c_M_undo l D u cI cZ gS gK gI gO gF gE (cpn gQ gS yn) 0 (tkn (gF (yr - 1)) (tkn (gF (yr - 1)) (tkn (gF (yr - 1)) yn))) yr ym yd yn (tkb (gF (yr - 1)) (gE (yr - 1)) (tkn (gF (yr - 1)) (tkn (gF (yr - 1)) yn)) (tkb (gF (yr - 1)) (gE (yr - 1)) (tkn (gF (yr - 1)) yn) (tkc (tk1 (gF (yr - 1)) yn gS) 1 (tkb (gF (yr - 1)) (gE (yr - 1)) yn 0)))) (tk1 (gF (yr - 1)) (tkn (gF (yr - 1)) (tkn (gF (yr - 1)) yn)) gS) 3 (by omega) H.size) (cwV 1 hw g_M_90 rfl rfl rfl ⟨rfl, by decide, by decide, by decide +kernel⟩ ⟨by decide, by decide⟩) ⟨PW.blind, va_recv (q := (RM, FM, 15)) (ci := 1) (q0 := 0) hK hP rfl rfl, PW.pre hP hK hD hS hA hE⟩ rfl rfl hl.1 rfl (lv_room (Nat.le_of_ble_eq_true rfl)) d_M_select_95 ⟨by decide, by decide⟩) (fun H locs hP hD hS => ?_)
                have hP : va_P D cls2 (wM u cI cZ (cpn gS (cpn gQ gS yn) yn) gK gI gO gF gE (cpn gQ gS yn) 3 yn yr ym yd yn (tkb (gF (yr - 1)) (gE (yr - 1)) (tkn (gF (yr - 1)) (tkn (gF (yr - 1)) yn)) (tkb (gF (yr - 1)) (gE (yr - 1)) (tkn (gF (yr - 1)) yn) (tkc (tk1 (gF (yr - 1)) yn gS) 1 (tkb (gF (yr - 1)) (gE (yr - 1)) yn 0)))) (tk1 (gF (yr - 1)) (tkn (gF (yr - 1)) (tkn (gF (yr - 1)) yn)) gS)) H := hP
                have hD : va_D (va_A (wM u cI cZ gS gK gI gO gF gE gQ yt yn yr ym yd yk yb yc) s.heap.size) (wM u cI cZ (cpn gS (cpn gQ gS yn) yn) gK gI gO gF gE (cpn gQ gS yn) 3 yn yr ym yd yn (tkb (gF (yr - 1)) (gE (yr - 1)) (tkn (gF (yr - 1)) (tkn (gF (yr - 1)) yn)) (tkb (gF (yr - 1)) (gE (yr - 1)) (tkn (gF (yr - 1)) yn) (tkc (tk1 (gF (yr - 1)) yn gS) 1 (tkb (gF (yr - 1)) (gE (yr - 1)) yn 0)))) (tk1 (gF (yr - 1)) (tkn (gF (yr - 1)) (tkn (gF (yr - 1)) yn)) gS)) := hD
                have her : orE (nf yr) (orE (xo ISE (hbT (gF (yr - 1)) (gE (yr - 1)) gS yn 1)) (orE (xo ISE (hb1 (gF (yr - 1)) (gE (yr - 1)) ((hbT (gF (yr - 1)) (gE (yr - 1)) gS yn 1).getD 0))) (orE (xo ISE (hb1 (gF (yr - 1)) (gE (yr - 1)) ((hb1 (gF (yr - 1)) (gE (yr - 1)) ((hbT (gF (yr - 1)) (gE (yr - 1)) gS yn 1).getD 0)).getD 0))) (orE (xo UOE (cty (tk1 (gF (yr - 1)) ((hbT (gF (yr - 1)) (gE (yr - 1)) gS yn 1).getD 0) gS) (tk1 (gF (yr - 1)) ((hb1 (gF (yr - 1)) (gE (yr - 1)) ((hbT (gF (yr - 1)) (gE (yr - 1)) gS yn 1).getD 0)).getD 0) gS))) (rmE ((hb1 (gF (yr - 1)) (gE (yr - 1)) ((hb1 (gF (yr - 1)) (gE (yr - 1)) ((hbT (gF (yr - 1)) (gE (yr - 1)) gS yn 1).getD 0)).getD 0)).getD 0 + 1)))))) = some UOE := by rw [ef, e1, p1, e2, p2, e3, p3, cty_n h66 h80 h85] <;> rfl
                exact W.iret hx hb hrt (fun t ht9 _ => ⟨⟨cpn gS (cpn gQ gS yn) yn, gK, gI, gO, gF, gE, cpn gQ gS yn, 3, yn, yr, ym, yd, yn, tkb (gF (yr - 1)) (gE (yr - 1)) (tkn (gF (yr - 1)) (tkn (gF (yr - 1)) yn)) (tkb (gF (yr - 1)) (gE (yr - 1)) (tkn (gF (yr - 1)) yn) (tkc (tk1 (gF (yr - 1)) yn gS) 1 (tkb (gF (yr - 1)) (gE (yr - 1)) yn 0))), tk1 (gF (yr - 1)) (tkn (gF (yr - 1)) (tkn (gF (yr - 1)) yn)) gS, some (.int (nI 0)), rfl, ⟨fun he => (by rw [her] at he; cases he), fun E he => by rw [her] at he; cases he; exact ⟨by decide +kernel, rfl, rel_undo⟩⟩, im_undo hi giS, by rw [ht9]; exact hP, hD⟩, hS.F ht9⟩) hS.2.2 d_M_select_98
              · skip
                refine lv_iload_n hx hb d_M_select_88 rfl (lv_at hl 0 rfl) ?_
                refine lv_iconst (v := nI 4) hx hb d_M_select_89 (by decide) ?_
                refine nw_ne hx hb (tgt := 99) d_M_select_90 (by decide) (by omega) (by omega) (fun h90 => ?_) (fun h90 => ?_)
                · skip
                  refine lv_aload_n hx hb d_M_select_99 rfl (lv_at hl 3 rfl) ?_
                  refine lv_iload_n hx hb d_M_select_100 rfl (lv_at hl 0 rfl) ?_
                  refine cl_w (v := none) hD hS hA (W.runV (b := u 0) (C := "TypeStackModel") (As := [.int (nI (tk1 (gF (yr - 1)) (tkn (gF (yr - 1)) yn) gS))]) (rest := []) ⟨hx, hb, hml, hown, hw⟩ (c_M_put l D u cI cZ gS gK gI gO gF gE (cpn gQ gS yn) 0 (tkn (gF (yr - 1)) (tkn (gF (yr - 1)) (tkn (gF (yr - 1)) yn))) yr ym yd yn (tkb (gF (yr - 1)) (gE (yr - 1)) (tkn (gF (yr - 1)) (tkn (gF (yr - 1)) yn)) (tkb (gF (yr - 1)) (gE (yr - 1)) (tkn (gF (yr - 1)) yn) (tkc (tk1 (gF (yr - 1)) yn gS) 1 (tkb (gF (yr - 1)) (gE (yr - 1)) yn 0)))) (tk1 (gF (yr - 1)) (tkn (gF (yr - 1)) (tkn (gF (yr - 1)) yn)) gS) (tk1 (gF (yr - 1)) (tkn (gF (yr - 1)) yn) gS) (by omega) H.size) (cwV 1 hw g_M_77 rfl rfl rfl ⟨rfl, by decide, by decide, by decide +kernel⟩ ⟨by decide, by decide⟩) ⟨PW.blind, va_recv (q := (RM, FM, 15)) (ci := 1) (q0 := 0) hK hP rfl rfl, PW.pre hP hK hD hS hA hE⟩ rfl rfl hl.1 rfl (lv_room (Nat.le_of_ble_eq_true rfl)) d_M_select_101 ⟨by decide, by decide⟩) (fun H locs hP hD hS => ?_)
                  have hP : va_P D cls2 (wM u cI cZ (va_up gS (tkn (gF (yr - 1)) (tkn (gF (yr - 1)) (tkn (gF (yr - 1)) yn))) (tk1 (gF (yr - 1)) (tkn (gF (yr - 1)) yn) gS)) gK gI gO gF gE (cpn gQ gS yn) 0 (tkn (gF (yr - 1)) (tkn (gF (yr - 1)) (tkn (gF (yr - 1)) yn)) + 1) yr ym yd yn (tkb (gF (yr - 1)) (gE (yr - 1)) (tkn (gF (yr - 1)) (tkn (gF (yr - 1)) yn)) (tkb (gF (yr - 1)) (gE (yr - 1)) (tkn (gF (yr - 1)) yn) (tkc (tk1 (gF (yr - 1)) yn gS) 1 (tkb (gF (yr - 1)) (gE (yr - 1)) yn 0)))) (tk1 (gF (yr - 1)) (tkn (gF (yr - 1)) (tkn (gF (yr - 1)) yn)) gS)) H := hP
                  have hD : va_D (va_A (wM u cI cZ gS gK gI gO gF gE gQ yt yn yr ym yd yk yb yc) s.heap.size) (wM u cI cZ (va_up gS (tkn (gF (yr - 1)) (tkn (gF (yr - 1)) (tkn (gF (yr - 1)) yn))) (tk1 (gF (yr - 1)) (tkn (gF (yr - 1)) yn) gS)) gK gI gO gF gE (cpn gQ gS yn) 0 (tkn (gF (yr - 1)) (tkn (gF (yr - 1)) (tkn (gF (yr - 1)) yn)) + 1) yr ym yd yn (tkb (gF (yr - 1)) (gE (yr - 1)) (tkn (gF (yr - 1)) (tkn (gF (yr - 1)) yn)) (tkb (gF (yr - 1)) (gE (yr - 1)) (tkn (gF (yr - 1)) yn) (tkc (tk1 (gF (yr - 1)) yn gS) 1 (tkb (gF (yr - 1)) (gE (yr - 1)) yn 0)))) (tk1 (gF (yr - 1)) (tkn (gF (yr - 1)) (tkn (gF (yr - 1)) yn)) gS)) := hD
                  refine lv_aload_n hx hb d_M_select_104 rfl (lv_at hl 3 rfl) ?_
                  refine va_get (D := D) (ci := 1) (C := RM) (T := FM) (N := 15) (v := .int (nI (tkn (gF (yr - 1)) (tkn (gF (yr - 1)) (tkn (gF (yr - 1)) yn)) + 1))) hx hb hw inM hown hK hP 0 rfl rfl 7 (by decide) (hw _ kF_M_40) (fun _ h9 => h9) rfl d_M_select_105 ?_
                  refine lv_sipush (v := nI 300) hx hb d_M_select_108 (by decide) ?_
                  refine nw_le hx hb (tgt := 120) d_M_select_111 (by decide) (by omega) (by omega) (fun h111 => ?_) (fun h111 => ?_)
                  · skip
                    refine lv_aload_n hx hb d_M_select_120 rfl (lv_at hl 3 rfl) ?_
                    refine cl_w (v := none) hD hS hA (W.runV (b := u 0) (C := "TypeStackModel") (As := []) (rest := []) ⟨hx, hb, hml, hown, hw⟩ (c_M_well l D u cI cZ (va_up gS (tkn (gF (yr - 1)) (tkn (gF (yr - 1)) (tkn (gF (yr - 1)) yn))) (tk1 (gF (yr - 1)) (tkn (gF (yr - 1)) yn) gS)) gK gI gO gF gE (cpn gQ gS yn) 0 (tkn (gF (yr - 1)) (tkn (gF (yr - 1)) (tkn (gF (yr - 1)) yn)) + 1) yr ym yd yn (tkb (gF (yr - 1)) (gE (yr - 1)) (tkn (gF (yr - 1)) (tkn (gF (yr - 1)) yn)) (tkb (gF (yr - 1)) (gE (yr - 1)) (tkn (gF (yr - 1)) yn) (tkc (tk1 (gF (yr - 1)) yn gS) 1 (tkb (gF (yr - 1)) (gE (yr - 1)) yn 0)))) (tk1 (gF (yr - 1)) (tkn (gF (yr - 1)) (tkn (gF (yr - 1)) yn)) gS) (by omega) (by omega) H.size) (cwV 0 hw g_M_97 rfl rfl rfl ⟨rfl, by decide, by decide, by decide +kernel⟩ ⟨by decide, by decide⟩) ⟨PW.blind, va_recv (q := (RM, FM, 15)) (ci := 1) (q0 := 0) hK hP rfl rfl, PW.pre hP hK hD hS hA hE⟩ rfl rfl hl.1 rfl (lv_room (Nat.le_of_ble_eq_true rfl)) d_M_select_121 ⟨by decide, by decide⟩) (fun H locs hP hD hS => ?_)
                    have hP : va_P D cls2 (wM u cI cZ (va_up gS (tkn (gF (yr - 1)) (tkn (gF (yr - 1)) (tkn (gF (yr - 1)) yn))) (tk1 (gF (yr - 1)) (tkn (gF (yr - 1)) yn) gS)) gK gI gO gF gE (cpn gQ gS yn) 0 (tkn (gF (yr - 1)) (tkn (gF (yr - 1)) (tkn (gF (yr - 1)) yn)) + 1) yr (max ym (tkn (gF (yr - 1)) (tkn (gF (yr - 1)) (tkn (gF (yr - 1)) yn)) + 1)) (yd + 1) yn (tkb (gF (yr - 1)) (gE (yr - 1)) (tkn (gF (yr - 1)) (tkn (gF (yr - 1)) yn)) (tkb (gF (yr - 1)) (gE (yr - 1)) (tkn (gF (yr - 1)) yn) (tkc (tk1 (gF (yr - 1)) yn gS) 1 (tkb (gF (yr - 1)) (gE (yr - 1)) yn 0)))) (tk1 (gF (yr - 1)) (tkn (gF (yr - 1)) (tkn (gF (yr - 1)) yn)) gS)) H := hP
                    have hD : va_D (va_A (wM u cI cZ gS gK gI gO gF gE gQ yt yn yr ym yd yk yb yc) s.heap.size) (wM u cI cZ (va_up gS (tkn (gF (yr - 1)) (tkn (gF (yr - 1)) (tkn (gF (yr - 1)) yn))) (tk1 (gF (yr - 1)) (tkn (gF (yr - 1)) yn) gS)) gK gI gO gF gE (cpn gQ gS yn) 0 (tkn (gF (yr - 1)) (tkn (gF (yr - 1)) (tkn (gF (yr - 1)) yn)) + 1) yr (max ym (tkn (gF (yr - 1)) (tkn (gF (yr - 1)) (tkn (gF (yr - 1)) yn)) + 1)) (yd + 1) yn (tkb (gF (yr - 1)) (gE (yr - 1)) (tkn (gF (yr - 1)) (tkn (gF (yr - 1)) yn)) (tkb (gF (yr - 1)) (gE (yr - 1)) (tkn (gF (yr - 1)) yn) (tkc (tk1 (gF (yr - 1)) yn gS) 1 (tkb (gF (yr - 1)) (gE (yr - 1)) yn 0)))) (tk1 (gF (yr - 1)) (tkn (gF (yr - 1)) (tkn (gF (yr - 1)) yn)) gS)) := hD
                    refine lv_iload_n hx hb d_M_select_124 rfl (lv_at hl 0 rfl) ?_
                    have her : orE (nf yr) (orE (xo ISE (hbT (gF (yr - 1)) (gE (yr - 1)) gS yn 1)) (orE (xo ISE (hb1 (gF (yr - 1)) (gE (yr - 1)) ((hbT (gF (yr - 1)) (gE (yr - 1)) gS yn 1).getD 0))) (orE (xo ISE (hb1 (gF (yr - 1)) (gE (yr - 1)) ((hb1 (gF (yr - 1)) (gE (yr - 1)) ((hbT (gF (yr - 1)) (gE (yr - 1)) gS yn 1).getD 0)).getD 0))) (orE (xo UOE (cty (tk1 (gF (yr - 1)) ((hbT (gF (yr - 1)) (gE (yr - 1)) gS yn 1).getD 0) gS) (tk1 (gF (yr - 1)) ((hb1 (gF (yr - 1)) (gE (yr - 1)) ((hbT (gF (yr - 1)) (gE (yr - 1)) gS yn 1).getD 0)).getD 0) gS))) (rmE ((hb1 (gF (yr - 1)) (gE (yr - 1)) ((hb1 (gF (yr - 1)) (gE (yr - 1)) ((hbT (gF (yr - 1)) (gE (yr - 1)) gS yn 1).getD 0)).getD 0)).getD 0 + 1)))))) = none := by rw [ef, e1, p1, e2, p2, e3, p3, cty_e h66 h85 h90, rm_ok h111] <;> rfl
                    exact W.iret hx hb hrt (fun t ht9 _ => ⟨⟨va_up gS (tkn (gF (yr - 1)) (tkn (gF (yr - 1)) (tkn (gF (yr - 1)) yn))) (tk1 (gF (yr - 1)) (tkn (gF (yr - 1)) yn) gS), gK, gI, gO, gF, gE, cpn gQ gS yn, 0, tkn (gF (yr - 1)) (tkn (gF (yr - 1)) (tkn (gF (yr - 1)) yn)) + 1, yr, max ym (tkn (gF (yr - 1)) (tkn (gF (yr - 1)) (tkn (gF (yr - 1)) yn)) + 1), yd + 1, yn, tkb (gF (yr - 1)) (gE (yr - 1)) (tkn (gF (yr - 1)) (tkn (gF (yr - 1)) yn)) (tkb (gF (yr - 1)) (gE (yr - 1)) (tkn (gF (yr - 1)) yn) (tkc (tk1 (gF (yr - 1)) yn gS) 1 (tkb (gF (yr - 1)) (gE (yr - 1)) yn 0))), tk1 (gF (yr - 1)) (tkn (gF (yr - 1)) (tkn (gF (yr - 1)) yn)) gS, some (.int (nI (tk1 (gF (yr - 1)) (tkn (gF (yr - 1)) yn) gS))), rfl, ⟨fun _ => ⟨rfl, by rw [p1, p2, cty_e h66 h85 h90] <;> rfl, by rw [p1, p2, p3, cty_e h66 h85 h90]; exact rel_rf⟩, fun E he => by rw [her] at he; cases he⟩, ⟨im_upl giS ha5, giK, giI, giO, giF, giE, by omega, by omega, gir⟩, by rw [ht9]; exact hP, hD⟩, hS.F ht9⟩) hS.2.2 d_M_select_125
                  · skip
                    refine lv_aload_n hx hb d_M_select_114 rfl (lv_at hl 3 rfl) ?_
                    refine lv_iconst (v := nI 4) hx hb d_M_select_115 (by decide) ?_
                    refine cl_w (v := some (.int (nI 0))) hD hS hA (W.runV (b := u 0) (C := "TypeStackModel") (As := [.int (nI 4)]) (rest := []) ⟨hx, hb, hml, hown, hw⟩ (c_M_undo l D u cI cZ (va_up gS (tkn (gF (yr - 1)) (tkn (gF (yr - 1)) (tkn (gF (yr - 1)) yn))) (tk1 (gF (yr - 1)) (tkn (gF (yr - 1)) yn) gS)) gK gI gO gF gE (cpn gQ gS yn) 0 (tkn (gF (yr - 1)) (tkn (gF (yr - 1)) (tkn (gF (yr - 1)) yn)) + 1) yr ym yd yn (tkb (gF (yr - 1)) (gE (yr - 1)) (tkn (gF (yr - 1)) (tkn (gF (yr - 1)) yn)) (tkb (gF (yr - 1)) (gE (yr - 1)) (tkn (gF (yr - 1)) yn) (tkc (tk1 (gF (yr - 1)) yn gS) 1 (tkb (gF (yr - 1)) (gE (yr - 1)) yn 0)))) (tk1 (gF (yr - 1)) (tkn (gF (yr - 1)) (tkn (gF (yr - 1)) yn)) gS) 4 (by omega) H.size) (cwV 1 hw g_M_90 rfl rfl rfl ⟨rfl, by decide, by decide, by decide +kernel⟩ ⟨by decide, by decide⟩) ⟨PW.blind, va_recv (q := (RM, FM, 15)) (ci := 1) (q0 := 0) hK hP rfl rfl, PW.pre hP hK hD hS hA hE⟩ rfl rfl hl.1 rfl (lv_room (Nat.le_of_ble_eq_true rfl)) d_M_select_116 ⟨by decide, by decide⟩) (fun H locs hP hD hS => ?_)
                    have hP : va_P D cls2 (wM u cI cZ (cpn (va_up gS (tkn (gF (yr - 1)) (tkn (gF (yr - 1)) (tkn (gF (yr - 1)) yn))) (tk1 (gF (yr - 1)) (tkn (gF (yr - 1)) yn) gS)) (cpn gQ gS yn) yn) gK gI gO gF gE (cpn gQ gS yn) 4 yn yr ym yd yn (tkb (gF (yr - 1)) (gE (yr - 1)) (tkn (gF (yr - 1)) (tkn (gF (yr - 1)) yn)) (tkb (gF (yr - 1)) (gE (yr - 1)) (tkn (gF (yr - 1)) yn) (tkc (tk1 (gF (yr - 1)) yn gS) 1 (tkb (gF (yr - 1)) (gE (yr - 1)) yn 0)))) (tk1 (gF (yr - 1)) (tkn (gF (yr - 1)) (tkn (gF (yr - 1)) yn)) gS)) H := hP
                    have hD : va_D (va_A (wM u cI cZ gS gK gI gO gF gE gQ yt yn yr ym yd yk yb yc) s.heap.size) (wM u cI cZ (cpn (va_up gS (tkn (gF (yr - 1)) (tkn (gF (yr - 1)) (tkn (gF (yr - 1)) yn))) (tk1 (gF (yr - 1)) (tkn (gF (yr - 1)) yn) gS)) (cpn gQ gS yn) yn) gK gI gO gF gE (cpn gQ gS yn) 4 yn yr ym yd yn (tkb (gF (yr - 1)) (gE (yr - 1)) (tkn (gF (yr - 1)) (tkn (gF (yr - 1)) yn)) (tkb (gF (yr - 1)) (gE (yr - 1)) (tkn (gF (yr - 1)) yn) (tkc (tk1 (gF (yr - 1)) yn gS) 1 (tkb (gF (yr - 1)) (gE (yr - 1)) yn 0)))) (tk1 (gF (yr - 1)) (tkn (gF (yr - 1)) (tkn (gF (yr - 1)) yn)) gS)) := hD
                    have her : orE (nf yr) (orE (xo ISE (hbT (gF (yr - 1)) (gE (yr - 1)) gS yn 1)) (orE (xo ISE (hb1 (gF (yr - 1)) (gE (yr - 1)) ((hbT (gF (yr - 1)) (gE (yr - 1)) gS yn 1).getD 0))) (orE (xo ISE (hb1 (gF (yr - 1)) (gE (yr - 1)) ((hb1 (gF (yr - 1)) (gE (yr - 1)) ((hbT (gF (yr - 1)) (gE (yr - 1)) gS yn 1).getD 0)).getD 0))) (orE (xo UOE (cty (tk1 (gF (yr - 1)) ((hbT (gF (yr - 1)) (gE (yr - 1)) gS yn 1).getD 0) gS) (tk1 (gF (yr - 1)) ((hb1 (gF (yr - 1)) (gE (yr - 1)) ((hbT (gF (yr - 1)) (gE (yr - 1)) gS yn 1).getD 0)).getD 0) gS))) (rmE ((hb1 (gF (yr - 1)) (gE (yr - 1)) ((hb1 (gF (yr - 1)) (gE (yr - 1)) ((hbT (gF (yr - 1)) (gE (yr - 1)) gS yn 1).getD 0)).getD 0)).getD 0 + 1)))))) = some AE := by rw [ef, e1, p1, e2, p2, e3, p3, cty_e h66 h85 h90, rm_no h111] <;> rfl
                    exact W.iret hx hb hrt (fun t ht9 _ => ⟨⟨cpn (va_up gS (tkn (gF (yr - 1)) (tkn (gF (yr - 1)) (tkn (gF (yr - 1)) yn))) (tk1 (gF (yr - 1)) (tkn (gF (yr - 1)) yn) gS)) (cpn gQ gS yn) yn, gK, gI, gO, gF, gE, cpn gQ gS yn, 4, yn, yr, ym, yd, yn, tkb (gF (yr - 1)) (gE (yr - 1)) (tkn (gF (yr - 1)) (tkn (gF (yr - 1)) yn)) (tkb (gF (yr - 1)) (gE (yr - 1)) (tkn (gF (yr - 1)) yn) (tkc (tk1 (gF (yr - 1)) yn gS) 1 (tkb (gF (yr - 1)) (gE (yr - 1)) yn 0))), tk1 (gF (yr - 1)) (tkn (gF (yr - 1)) (tkn (gF (yr - 1)) yn)) gS, some (.int (nI 0)), rfl, ⟨fun he => (by rw [her] at he; cases he), fun E he => by rw [her] at he; cases he; exact ⟨by decide +kernel, rfl, rel_undo⟩⟩, im_undo hi (im_upl giS ha5), by rw [ht9]; exact hP, hD⟩, hS.F ht9⟩) hS.2.2 d_M_select_119
                · skip
                  refine lv_aload_n hx hb d_M_select_93 rfl (lv_at hl 3 rfl) ?_
                  refine lv_iconst (v := nI 3) hx hb d_M_select_94 (by decide) ?_
                  refine cl_w (v := some (.int (nI 0))) hD hS hA (W.runV (b := u 0) (C := "TypeStackModel") (As := [.int (nI 3)]) (rest := []) ⟨hx, hb, hml, hown, hw⟩ (c_M_undo l D u cI cZ gS gK gI gO gF gE (cpn gQ gS yn) 0 (tkn (gF (yr - 1)) (tkn (gF (yr - 1)) (tkn (gF (yr - 1)) yn))) yr ym yd yn (tkb (gF (yr - 1)) (gE (yr - 1)) (tkn (gF (yr - 1)) (tkn (gF (yr - 1)) yn)) (tkb (gF (yr - 1)) (gE (yr - 1)) (tkn (gF (yr - 1)) yn) (tkc (tk1 (gF (yr - 1)) yn gS) 1 (tkb (gF (yr - 1)) (gE (yr - 1)) yn 0)))) (tk1 (gF (yr - 1)) (tkn (gF (yr - 1)) (tkn (gF (yr - 1)) yn)) gS) 3 (by omega) H.size) (cwV 1 hw g_M_90 rfl rfl rfl ⟨rfl, by decide, by decide, by decide +kernel⟩ ⟨by decide, by decide⟩) ⟨PW.blind, va_recv (q := (RM, FM, 15)) (ci := 1) (q0 := 0) hK hP rfl rfl, PW.pre hP hK hD hS hA hE⟩ rfl rfl hl.1 rfl (lv_room (Nat.le_of_ble_eq_true rfl)) d_M_select_95 ⟨by decide, by decide⟩) (fun H locs hP hD hS => ?_)
                  have hP : va_P D cls2 (wM u cI cZ (cpn gS (cpn gQ gS yn) yn) gK gI gO gF gE (cpn gQ gS yn) 3 yn yr ym yd yn (tkb (gF (yr - 1)) (gE (yr - 1)) (tkn (gF (yr - 1)) (tkn (gF (yr - 1)) yn)) (tkb (gF (yr - 1)) (gE (yr - 1)) (tkn (gF (yr - 1)) yn) (tkc (tk1 (gF (yr - 1)) yn gS) 1 (tkb (gF (yr - 1)) (gE (yr - 1)) yn 0)))) (tk1 (gF (yr - 1)) (tkn (gF (yr - 1)) (tkn (gF (yr - 1)) yn)) gS)) H := hP
                  have hD : va_D (va_A (wM u cI cZ gS gK gI gO gF gE gQ yt yn yr ym yd yk yb yc) s.heap.size) (wM u cI cZ (cpn gS (cpn gQ gS yn) yn) gK gI gO gF gE (cpn gQ gS yn) 3 yn yr ym yd yn (tkb (gF (yr - 1)) (gE (yr - 1)) (tkn (gF (yr - 1)) (tkn (gF (yr - 1)) yn)) (tkb (gF (yr - 1)) (gE (yr - 1)) (tkn (gF (yr - 1)) yn) (tkc (tk1 (gF (yr - 1)) yn gS) 1 (tkb (gF (yr - 1)) (gE (yr - 1)) yn 0)))) (tk1 (gF (yr - 1)) (tkn (gF (yr - 1)) (tkn (gF (yr - 1)) yn)) gS)) := hD
                  have her : orE (nf yr) (orE (xo ISE (hbT (gF (yr - 1)) (gE (yr - 1)) gS yn 1)) (orE (xo ISE (hb1 (gF (yr - 1)) (gE (yr - 1)) ((hbT (gF (yr - 1)) (gE (yr - 1)) gS yn 1).getD 0))) (orE (xo ISE (hb1 (gF (yr - 1)) (gE (yr - 1)) ((hb1 (gF (yr - 1)) (gE (yr - 1)) ((hbT (gF (yr - 1)) (gE (yr - 1)) gS yn 1).getD 0)).getD 0))) (orE (xo UOE (cty (tk1 (gF (yr - 1)) ((hbT (gF (yr - 1)) (gE (yr - 1)) gS yn 1).getD 0) gS) (tk1 (gF (yr - 1)) ((hb1 (gF (yr - 1)) (gE (yr - 1)) ((hbT (gF (yr - 1)) (gE (yr - 1)) gS yn 1).getD 0)).getD 0) gS))) (rmE ((hb1 (gF (yr - 1)) (gE (yr - 1)) ((hb1 (gF (yr - 1)) (gE (yr - 1)) ((hbT (gF (yr - 1)) (gE (yr - 1)) gS yn 1).getD 0)).getD 0)).getD 0 + 1)))))) = some UOE := by rw [ef, e1, p1, e2, p2, e3, p3, cty_b4 h66 h90] <;> rfl
                  exact W.iret hx hb hrt (fun t ht9 _ => ⟨⟨cpn gS (cpn gQ gS yn) yn, gK, gI, gO, gF, gE, cpn gQ gS yn, 3, yn, yr, ym, yd, yn, tkb (gF (yr - 1)) (gE (yr - 1)) (tkn (gF (yr - 1)) (tkn (gF (yr - 1)) yn)) (tkb (gF (yr - 1)) (gE (yr - 1)) (tkn (gF (yr - 1)) yn) (tkc (tk1 (gF (yr - 1)) yn gS) 1 (tkb (gF (yr - 1)) (gE (yr - 1)) yn 0))), tk1 (gF (yr - 1)) (tkn (gF (yr - 1)) (tkn (gF (yr - 1)) yn)) gS, some (.int (nI 0)), rfl, ⟨fun he => (by rw [her] at he; cases he), fun E he => by rw [her] at he; cases he; exact ⟨by decide +kernel, rfl, rel_undo⟩⟩, im_undo hi giS, by rw [ht9]; exact hP, hD⟩, hS.F ht9⟩) hS.2.2 d_M_select_98
        · skip
          refine lv_iload_n hx hb d_M_select_69 rfl (lv_at hl 0 rfl) ?_
          refine lv_goto hx hb d_M_select_70 (tgt := 74) (by decide) ?_
          refine lv_istore_n (lv' := [(3, .int (nI (tk1 (gF (yr - 1)) (tkn (gF (yr - 1)) (tkn (gF (yr - 1)) yn)) gS))), (2, .int (nI (tk1 (gF (yr - 1)) (tkn (gF (yr - 1)) (tkn (gF (yr - 1)) yn)) gS))), (1, .int (nI (tk1 (gF (yr - 1)) (tkn (gF (yr - 1)) yn) gS))), (0, .ref (u 0))]) hx hb d_M_select_74 rfl hl (by decide) rfl (fun ls hl => ?_)
          refine lv_iload_n hx hb d_M_select_75 rfl (lv_at hl 2 rfl) ?_
          refine nw_ifeq hx hb (tgt := 88) d_M_select_76 (by decide) (by omega) (fun h76 => ?_) (fun h76 => ?_)
          · skip
            refine lv_iload_n hx hb d_M_select_88 rfl (lv_at hl 0 rfl) ?_
            refine lv_iconst (v := nI 4) hx hb d_M_select_89 (by decide) ?_
            refine nw_ne hx hb (tgt := 99) d_M_select_90 (by decide) (by omega) (by omega) (fun h90 => ?_) (fun h90 => ?_)
            · skip
              refine lv_aload_n hx hb d_M_select_99 rfl (lv_at hl 3 rfl) ?_
              refine lv_iload_n hx hb d_M_select_100 rfl (lv_at hl 0 rfl) ?_
              refine cl_w (v := none) hD hS hA (W.runV (b := u 0) (C := "TypeStackModel") (As := [.int (nI (tk1 (gF (yr - 1)) (tkn (gF (yr - 1)) (tkn (gF (yr - 1)) yn)) gS))]) (rest := []) ⟨hx, hb, hml, hown, hw⟩ (c_M_put l D u cI cZ gS gK gI gO gF gE (cpn gQ gS yn) 0 (tkn (gF (yr - 1)) (tkn (gF (yr - 1)) (tkn (gF (yr - 1)) yn))) yr ym yd yn (tkb (gF (yr - 1)) (gE (yr - 1)) (tkn (gF (yr - 1)) (tkn (gF (yr - 1)) yn)) (tkb (gF (yr - 1)) (gE (yr - 1)) (tkn (gF (yr - 1)) yn) (tkc (tk1 (gF (yr - 1)) yn gS) 1 (tkb (gF (yr - 1)) (gE (yr - 1)) yn 0)))) (tk1 (gF (yr - 1)) (tkn (gF (yr - 1)) (tkn (gF (yr - 1)) yn)) gS) (tk1 (gF (yr - 1)) (tkn (gF (yr - 1)) (tkn (gF (yr - 1)) yn)) gS) (by omega) H.size) (cwV 1 hw g_M_77 rfl rfl rfl ⟨rfl, by decide, by decide, by decide +kernel⟩ ⟨by decide, by decide⟩) ⟨PW.blind, va_recv (q := (RM, FM, 15)) (ci := 1) (q0 := 0) hK hP rfl rfl, PW.pre hP hK hD hS hA hE⟩ rfl rfl hl.1 rfl (lv_room (Nat.le_of_ble_eq_true rfl)) d_M_select_101 ⟨by decide, by decide⟩) (fun H locs hP hD hS => ?_)
              have hP : va_P D cls2 (wM u cI cZ (va_up gS (tkn (gF (yr - 1)) (tkn (gF (yr - 1)) (tkn (gF (yr - 1)) yn))) (tk1 (gF (yr - 1)) (tkn (gF (yr - 1)) (tkn (gF (yr - 1)) yn)) gS)) gK gI gO gF gE (cpn gQ gS yn) 0 (tkn (gF (yr - 1)) (tkn (gF (yr - 1)) (tkn (gF (yr - 1)) yn)) + 1) yr ym yd yn (tkb (gF (yr - 1)) (gE (yr - 1)) (tkn (gF (yr - 1)) (tkn (gF (yr - 1)) yn)) (tkb (gF (yr - 1)) (gE (yr - 1)) (tkn (gF (yr - 1)) yn) (tkc (tk1 (gF (yr - 1)) yn gS) 1 (tkb (gF (yr - 1)) (gE (yr - 1)) yn 0)))) (tk1 (gF (yr - 1)) (tkn (gF (yr - 1)) (tkn (gF (yr - 1)) yn)) gS)) H := hP
              have hD : va_D (va_A (wM u cI cZ gS gK gI gO gF gE gQ yt yn yr ym yd yk yb yc) s.heap.size) (wM u cI cZ (va_up gS (tkn (gF (yr - 1)) (tkn (gF (yr - 1)) (tkn (gF (yr - 1)) yn))) (tk1 (gF (yr - 1)) (tkn (gF (yr - 1)) (tkn (gF (yr - 1)) yn)) gS)) gK gI gO gF gE (cpn gQ gS yn) 0 (tkn (gF (yr - 1)) (tkn (gF (yr - 1)) (tkn (gF (yr - 1)) yn)) + 1) yr ym yd yn (tkb (gF (yr - 1)) (gE (yr - 1)) (tkn (gF (yr - 1)) (tkn (gF (yr - 1)) yn)) (tkb (gF (yr - 1)) (gE (yr - 1)) (tkn (gF (yr - 1)) yn) (tkc (tk1 (gF (yr - 1)) yn gS) 1 (tkb (gF (yr - 1)) (gE (yr - 1)) yn 0)))) (tk1 (gF (yr - 1)) (tkn (gF (yr - 1)) (tkn (gF (yr - 1)) yn)) gS)) := hD
              refine lv_aload_n hx hb d_M_select_104 rfl (lv_at hl 3 rfl) ?_
              refine va_get (D := D) (ci := 1) (C := RM) (T := FM) (N := 15) (v := .int (nI (tkn (gF (yr - 1)) (tkn (gF (yr - 1)) (tkn (gF (yr - 1)) yn)) + 1))) hx hb hw inM hown hK hP 0 rfl rfl 7 (by decide) (hw _ kF_M_40) (fun _ h9 => h9) rfl d_M_select_105 ?_
              refine lv_sipush (v := nI 300) hx hb d_M_select_108 (by decide) ?_
              refine nw_le hx hb (tgt := 120) d_M_select_111 (by decide) (by omega) (by omega) (fun h111 => ?_) (fun h111 => ?_)
              · skip
                refine lv_aload_n hx hb d_M_select_120 rfl (lv_at hl 3 rfl) ?_
                refine cl_w (v := none) hD hS hA (W.runV (b := u 0) (C := "TypeStackModel") (As := []) (rest := []) ⟨hx, hb, hml, hown, hw⟩ (c_M_well l D u cI cZ (va_up gS (tkn (gF (yr - 1)) (tkn (gF (yr - 1)) (tkn (gF (yr - 1)) yn))) (tk1 (gF (yr - 1)) (tkn (gF (yr - 1)) (tkn (gF (yr - 1)) yn)) gS)) gK gI gO gF gE (cpn gQ gS yn) 0 (tkn (gF (yr - 1)) (tkn (gF (yr - 1)) (tkn (gF (yr - 1)) yn)) + 1) yr ym yd yn (tkb (gF (yr - 1)) (gE (yr - 1)) (tkn (gF (yr - 1)) (tkn (gF (yr - 1)) yn)) (tkb (gF (yr - 1)) (gE (yr - 1)) (tkn (gF (yr - 1)) yn) (tkc (tk1 (gF (yr - 1)) yn gS) 1 (tkb (gF (yr - 1)) (gE (yr - 1)) yn 0)))) (tk1 (gF (yr - 1)) (tkn (gF (yr - 1)) (tkn (gF (yr - 1)) yn)) gS) (by omega) (by omega) H.size) (cwV 0 hw g_M_97 rfl rfl rfl ⟨rfl, by decide, by decide, by decide +kernel⟩ ⟨by decide, by decide⟩) ⟨PW.blind, va_recv (q := (RM, FM, 15)) (ci := 1) (q0 := 0) hK hP rfl rfl, PW.pre hP hK hD hS hA hE⟩ rfl rfl hl.1 rfl (lv_room (Nat.le_of_ble_eq_true rfl)) d_M_select_121 ⟨by decide, by decide⟩) (fun H locs hP hD hS => ?_)
                have hP : va_P D cls2 (wM u cI cZ (va_up gS (tkn (gF (yr - 1)) (tkn (gF (yr - 1)) (tkn (gF (yr - 1)) yn))) (tk1 (gF (yr - 1)) (tkn (gF (yr - 1)) (tkn (gF (yr - 1)) yn)) gS)) gK gI gO gF gE (cpn gQ gS yn) 0 (tkn (gF (yr - 1)) (tkn (gF (yr - 1)) (tkn (gF (yr - 1)) yn)) + 1) yr (max ym (tkn (gF (yr - 1)) (tkn (gF (yr - 1)) (tkn (gF (yr - 1)) yn)) + 1)) (yd + 1) yn (tkb (gF (yr - 1)) (gE (yr - 1)) (tkn (gF (yr - 1)) (tkn (gF (yr - 1)) yn)) (tkb (gF (yr - 1)) (gE (yr - 1)) (tkn (gF (yr - 1)) yn) (tkc (tk1 (gF (yr - 1)) yn gS) 1 (tkb (gF (yr - 1)) (gE (yr - 1)) yn 0)))) (tk1 (gF (yr - 1)) (tkn (gF (yr - 1)) (tkn (gF (yr - 1)) yn)) gS)) H := hP
                have hD : va_D (va_A (wM u cI cZ gS gK gI gO gF gE gQ yt yn yr ym yd yk yb yc) s.heap.size) (wM u cI cZ (va_up gS (tkn (gF (yr - 1)) (tkn (gF (yr - 1)) (tkn (gF (yr - 1)) yn))) (tk1 (gF (yr - 1)) (tkn (gF (yr - 1)) (tkn (gF (yr - 1)) yn)) gS)) gK gI gO gF gE (cpn gQ gS yn) 0 (tkn (gF (yr - 1)) (tkn (gF (yr - 1)) (tkn (gF (yr - 1)) yn)) + 1) yr (max ym (tkn (gF (yr - 1)) (tkn (gF (yr - 1)) (tkn (gF (yr - 1)) yn)) + 1)) (yd + 1) yn (tkb (gF (yr - 1)) (gE (yr - 1)) (tkn (gF (yr - 1)) (tkn (gF (yr - 1)) yn)) (tkb (gF (yr - 1)) (gE (yr - 1)) (tkn (gF (yr - 1)) yn) (tkc (tk1 (gF (yr - 1)) yn gS) 1 (tkb (gF (yr - 1)) (gE (yr - 1)) yn 0)))) (tk1 (gF (yr - 1)) (tkn (gF (yr - 1)) (tkn (gF (yr - 1)) yn)) gS)) := hD
                refine lv_iload_n hx hb d_M_select_124 rfl (lv_at hl 0 rfl) ?_
                have her : orE (nf yr) (orE (xo ISE (hbT (gF (yr - 1)) (gE (yr - 1)) gS yn 1)) (orE (xo ISE (hb1 (gF (yr - 1)) (gE (yr - 1)) ((hbT (gF (yr - 1)) (gE (yr - 1)) gS yn 1).getD 0))) (orE (xo ISE (hb1 (gF (yr - 1)) (gE (yr - 1)) ((hb1 (gF (yr - 1)) (gE (yr - 1)) ((hbT (gF (yr - 1)) (gE (yr - 1)) gS yn 1).getD 0)).getD 0))) (orE (xo UOE (cty (tk1 (gF (yr - 1)) ((hbT (gF (yr - 1)) (gE (yr - 1)) gS yn 1).getD 0) gS) (tk1 (gF (yr - 1)) ((hb1 (gF (yr - 1)) (gE (yr - 1)) ((hbT (gF (yr - 1)) (gE (yr - 1)) gS yn 1).getD 0)).getD 0) gS))) (rmE ((hb1 (gF (yr - 1)) (gE (yr - 1)) ((hb1 (gF (yr - 1)) (gE (yr - 1)) ((hbT (gF (yr - 1)) (gE (yr - 1)) gS yn 1).getD 0)).getD 0)).getD 0 + 1)))))) = none := by rw [ef, e1, p1, e2, p2, e3, p3, cty_a h66 h90, rm_ok h111] <;> rfl
                exact W.iret hx hb hrt (fun t ht9 _ => ⟨⟨va_up gS (tkn (gF (yr - 1)) (tkn (gF (yr - 1)) (tkn (gF (yr - 1)) yn))) (tk1 (gF (yr - 1)) (tkn (gF (yr - 1)) (tkn (gF (yr - 1)) yn)) gS), gK, gI, gO, gF, gE, cpn gQ gS yn, 0, tkn (gF (yr - 1)) (tkn (gF (yr - 1)) (tkn (gF (yr - 1)) yn)) + 1, yr, max ym (tkn (gF (yr - 1)) (tkn (gF (yr - 1)) (tkn (gF (yr - 1)) yn)) + 1), yd + 1, yn, tkb (gF (yr - 1)) (gE (yr - 1)) (tkn (gF (yr - 1)) (tkn (gF (yr - 1)) yn)) (tkb (gF (yr - 1)) (gE (yr - 1)) (tkn (gF (yr - 1)) yn) (tkc (tk1 (gF (yr - 1)) yn gS) 1 (tkb (gF (yr - 1)) (gE (yr - 1)) yn 0))), tk1 (gF (yr - 1)) (tkn (gF (yr - 1)) (tkn (gF (yr - 1)) yn)) gS, some (.int (nI (tk1 (gF (yr - 1)) (tkn (gF (yr - 1)) (tkn (gF (yr - 1)) yn)) gS))), rfl, ⟨fun _ => ⟨rfl, by rw [p1, p2, cty_a h66 h90] <;> rfl, by rw [p1, p2, p3, cty_a h66 h90]; exact rel_rf⟩, fun E he => by rw [her] at he; cases he⟩, ⟨im_upl giS hb5, giK, giI, giO, giF, giE, by omega, by omega, gir⟩, by rw [ht9]; exact hP, hD⟩, hS.F ht9⟩) hS.2.2 d_M_select_125
              · skip
                refine lv_aload_n hx hb d_M_select_114 rfl (lv_at hl 3 rfl) ?_
                refine lv_iconst (v := nI 4) hx hb d_M_select_115 (by decide) ?_
                refine cl_w (v := some (.int (nI 0))) hD hS hA (W.runV (b := u 0) (C := "TypeStackModel") (As := [.int (nI 4)]) (rest := []) ⟨hx, hb, hml, hown, hw⟩ (c_M_undo l D u cI cZ (va_up gS (tkn (gF (yr - 1)) (tkn (gF (yr - 1)) (tkn (gF (yr - 1)) yn))) (tk1 (gF (yr - 1)) (tkn (gF (yr - 1)) (tkn (gF (yr - 1)) yn)) gS)) gK gI gO gF gE (cpn gQ gS yn) 0 (tkn (gF (yr - 1)) (tkn (gF (yr - 1)) (tkn (gF (yr - 1)) yn)) + 1) yr ym yd yn (tkb (gF (yr - 1)) (gE (yr - 1)) (tkn (gF (yr - 1)) (tkn (gF (yr - 1)) yn)) (tkb (gF (yr - 1)) (gE (yr - 1)) (tkn (gF (yr - 1)) yn) (tkc (tk1 (gF (yr - 1)) yn gS) 1 (tkb (gF (yr - 1)) (gE (yr - 1)) yn 0)))) (tk1 (gF (yr - 1)) (tkn (gF (yr - 1)) (tkn (gF (yr - 1)) yn)) gS) 4 (by omega) H.size) (cwV 1 hw g_M_90 rfl rfl rfl ⟨rfl, by decide, by decide, by decide +kernel⟩ ⟨by decide, by decide⟩) ⟨PW.blind, va_recv (q := (RM, FM, 15)) (ci := 1) (q0 := 0) hK hP rfl rfl, PW.pre hP hK hD hS hA hE⟩ rfl rfl hl.1 rfl (lv_room (Nat.le_of_ble_eq_true rfl)) d_M_select_116 ⟨by decide, by decide⟩) (fun H locs hP hD hS => ?_)
                have hP : va_P D cls2 (wM u cI cZ (cpn (va_up gS (tkn (gF (yr - 1)) (tkn (gF (yr - 1)) (tkn (gF (yr - 1)) yn))) (tk1 (gF (yr - 1)) (tkn (gF (yr - 1)) (tkn (gF (yr - 1)) yn)) gS)) (cpn gQ gS yn) yn) gK gI gO gF gE (cpn gQ gS yn) 4 yn yr ym yd yn (tkb (gF (yr - 1)) (gE (yr - 1)) (tkn (gF (yr - 1)) (tkn (gF (yr - 1)) yn)) (tkb (gF (yr - 1)) (gE (yr - 1)) (tkn (gF (yr - 1)) yn) (tkc (tk1 (gF (yr - 1)) yn gS) 1 (tkb (gF (yr - 1)) (gE (yr - 1)) yn 0)))) (tk1 (gF (yr - 1)) (tkn (gF (yr - 1)) (tkn (gF (yr - 1)) yn)) gS)) H := hP
                have hD : va_D (va_A (wM u cI cZ gS gK gI gO gF gE gQ yt yn yr ym yd yk yb yc) s.heap.size) (wM u cI cZ (cpn (va_up gS (tkn (gF (yr - 1)) (tkn (gF (yr - 1)) (tkn (gF (yr - 1)) yn))) (tk1 (gF (yr - 1)) (tkn (gF (yr - 1)) (tkn (gF (yr - 1)) yn)) gS)) (cpn gQ gS yn) yn) gK gI gO gF gE (cpn gQ gS yn) 4 yn yr ym yd yn (tkb (gF (yr - 1)) (gE (yr - 1)) (tkn (gF (yr - 1)) (tkn (gF (yr - 1)) yn)) (tkb (gF (yr - 1)) (gE (yr - 1)) (tkn (gF (yr - 1)) yn) (tkc (tk1 (gF (yr - 1)) yn gS) 1 (tkb (gF (yr - 1)) (gE (yr - 1)) yn 0)))) (tk1 (gF (yr - 1)) (tkn (gF (yr - 1)) (tkn (gF (yr - 1)) yn)) gS)) := hD
                have her : orE (nf yr) (orE (xo ISE (hbT (gF (yr - 1)) (gE (yr - 1)) gS yn 1)) (orE (xo ISE (hb1 (gF (yr - 1)) (gE (yr - 1)) ((hbT (gF (yr - 1)) (gE (yr - 1)) gS yn 1).getD 0))) (orE (xo ISE (hb1 (gF (yr - 1)) (gE (yr - 1)) ((hb1 (gF (yr - 1)) (gE (yr - 1)) ((hbT (gF (yr - 1)) (gE (yr - 1)) gS yn 1).getD 0)).getD 0))) (orE (xo UOE (cty (tk1 (gF (yr - 1)) ((hbT (gF (yr - 1)) (gE (yr - 1)) gS yn 1).getD 0) gS) (tk1 (gF (yr - 1)) ((hb1 (gF (yr - 1)) (gE (yr - 1)) ((hbT (gF (yr - 1)) (gE (yr - 1)) gS yn 1).getD 0)).getD 0) gS))) (rmE ((hb1 (gF (yr - 1)) (gE (yr - 1)) ((hb1 (gF (yr - 1)) (gE (yr - 1)) ((hbT (gF (yr - 1)) (gE (yr - 1)) gS yn 1).getD 0)).getD 0)).getD 0 + 1)))))) = some AE := by rw [ef, e1, p1, e2, p2, e3, p3, cty_a h66 h90, rm_no h111] <;> rfl
                exact W.iret hx hb hrt (fun t ht9 _ => ⟨⟨cpn (va_up gS (tkn (gF (yr - 1)) (tkn (gF (yr - 1)) (tkn (gF (yr - 1)) yn))) (tk1 (gF (yr - 1)) (tkn (gF (yr - 1)) (tkn (gF (yr - 1)) yn)) gS)) (cpn gQ gS yn) yn, gK, gI, gO, gF, gE, cpn gQ gS yn, 4, yn, yr, ym, yd, yn, tkb (gF (yr - 1)) (gE (yr - 1)) (tkn (gF (yr - 1)) (tkn (gF (yr - 1)) yn)) (tkb (gF (yr - 1)) (gE (yr - 1)) (tkn (gF (yr - 1)) yn) (tkc (tk1 (gF (yr - 1)) yn gS) 1 (tkb (gF (yr - 1)) (gE (yr - 1)) yn 0))), tk1 (gF (yr - 1)) (tkn (gF (yr - 1)) (tkn (gF (yr - 1)) yn)) gS, some (.int (nI 0)), rfl, ⟨fun he => (by rw [her] at he; cases he), fun E he => by rw [her] at he; cases he; exact ⟨by decide +kernel, rfl, rel_undo⟩⟩, im_undo hi (im_upl giS hb5), by rw [ht9]; exact hP, hD⟩, hS.F ht9⟩) hS.2.2 d_M_select_119
            · skip
              refine lv_aload_n hx hb d_M_select_93 rfl (lv_at hl 3 rfl) ?_
              refine lv_iconst (v := nI 3) hx hb d_M_select_94 (by decide) ?_
              refine cl_w (v := some (.int (nI 0))) hD hS hA (W.runV (b := u 0) (C := "TypeStackModel") (As := [.int (nI 3)]) (rest := []) ⟨hx, hb, hml, hown, hw⟩ (c_M_undo l D u cI cZ gS gK gI gO gF gE (cpn gQ gS yn) 0 (tkn (gF (yr - 1)) (tkn (gF (yr - 1)) (tkn (gF (yr - 1)) yn))) yr ym yd yn (tkb (gF (yr - 1)) (gE (yr - 1)) (tkn (gF (yr - 1)) (tkn (gF (yr - 1)) yn)) (tkb (gF (yr - 1)) (gE (yr - 1)) (tkn (gF (yr - 1)) yn) (tkc (tk1 (gF (yr - 1)) yn gS) 1 (tkb (gF (yr - 1)) (gE (yr - 1)) yn 0)))) (tk1 (gF (yr - 1)) (tkn (gF (yr - 1)) (tkn (gF (yr - 1)) yn)) gS) 3 (by omega) H.size) (cwV 1 hw g_M_90 rfl rfl rfl ⟨rfl, by decide, by decide, by decide +kernel⟩ ⟨by decide, by decide⟩) ⟨PW.blind, va_recv (q := (RM, FM, 15)) (ci := 1) (q0 := 0) hK hP rfl rfl, PW.pre hP hK hD hS hA hE⟩ rfl rfl hl.1 rfl (lv_room (Nat.le_of_ble_eq_true rfl)) d_M_select_95 ⟨by decide, by decide⟩) (fun H locs hP hD hS => ?_)
              have hP : va_P D cls2 (wM u cI cZ (cpn gS (cpn gQ gS yn) yn) gK gI gO gF gE (cpn gQ gS yn) 3 yn yr ym yd yn (tkb (gF (yr - 1)) (gE (yr - 1)) (tkn (gF (yr - 1)) (tkn (gF (yr - 1)) yn)) (tkb (gF (yr - 1)) (gE (yr - 1)) (tkn (gF (yr - 1)) yn) (tkc (tk1 (gF (yr - 1)) yn gS) 1 (tkb (gF (yr - 1)) (gE (yr - 1)) yn 0)))) (tk1 (gF (yr - 1)) (tkn (gF (yr - 1)) (tkn (gF (yr - 1)) yn)) gS)) H := hP
              have hD : va_D (va_A (wM u cI cZ gS gK gI gO gF gE gQ yt yn yr ym yd yk yb yc) s.heap.size) (wM u cI cZ (cpn gS (cpn gQ gS yn) yn) gK gI gO gF gE (cpn gQ gS yn) 3 yn yr ym yd yn (tkb (gF (yr - 1)) (gE (yr - 1)) (tkn (gF (yr - 1)) (tkn (gF (yr - 1)) yn)) (tkb (gF (yr - 1)) (gE (yr - 1)) (tkn (gF (yr - 1)) yn) (tkc (tk1 (gF (yr - 1)) yn gS) 1 (tkb (gF (yr - 1)) (gE (yr - 1)) yn 0)))) (tk1 (gF (yr - 1)) (tkn (gF (yr - 1)) (tkn (gF (yr - 1)) yn)) gS)) := hD
              have her : orE (nf yr) (orE (xo ISE (hbT (gF (yr - 1)) (gE (yr - 1)) gS yn 1)) (orE (xo ISE (hb1 (gF (yr - 1)) (gE (yr - 1)) ((hbT (gF (yr - 1)) (gE (yr - 1)) gS yn 1).getD 0))) (orE (xo ISE (hb1 (gF (yr - 1)) (gE (yr - 1)) ((hb1 (gF (yr - 1)) (gE (yr - 1)) ((hbT (gF (yr - 1)) (gE (yr - 1)) gS yn 1).getD 0)).getD 0))) (orE (xo UOE (cty (tk1 (gF (yr - 1)) ((hbT (gF (yr - 1)) (gE (yr - 1)) gS yn 1).getD 0) gS) (tk1 (gF (yr - 1)) ((hb1 (gF (yr - 1)) (gE (yr - 1)) ((hbT (gF (yr - 1)) (gE (yr - 1)) gS yn 1).getD 0)).getD 0) gS))) (rmE ((hb1 (gF (yr - 1)) (gE (yr - 1)) ((hb1 (gF (yr - 1)) (gE (yr - 1)) ((hbT (gF (yr - 1)) (gE (yr - 1)) gS yn 1).getD 0)).getD 0)).getD 0 + 1)))))) = some UOE := by rw [ef, e1, p1, e2, p2, e3, p3, cty_a4 h66 h90] <;> rfl
              exact W.iret hx hb hrt (fun t ht9 _ => ⟨⟨cpn gS (cpn gQ gS yn) yn, gK, gI, gO, gF, gE, cpn gQ gS yn, 3, yn, yr, ym, yd, yn, tkb (gF (yr - 1)) (gE (yr - 1)) (tkn (gF (yr - 1)) (tkn (gF (yr - 1)) yn)) (tkb (gF (yr - 1)) (gE (yr - 1)) (tkn (gF (yr - 1)) yn) (tkc (tk1 (gF (yr - 1)) yn gS) 1 (tkb (gF (yr - 1)) (gE (yr - 1)) yn 0))), tk1 (gF (yr - 1)) (tkn (gF (yr - 1)) (tkn (gF (yr - 1)) yn)) gS, some (.int (nI 0)), rfl, ⟨fun he => (by rw [her] at he; cases he), fun E he => by rw [her] at he; cases he; exact ⟨by decide +kernel, rfl, rel_undo⟩⟩, im_undo hi giS, by rw [ht9]; exact hP, hD⟩, hS.F ht9⟩) hS.2.2 d_M_select_98
          · skip
            exfalso; omega
      · skip
        have es := fun r => sel_no r h56
        refine lv_aload_n hx hb d_M_select_59 rfl (lv_at hl 2 rfl) ?_
        refine lv_iconst (v := nI 2) hx hb d_M_select_60 (by decide) ?_
        refine cl_w (v := some (.int (nI 0))) hD hS hA (W.runV (b := u 0) (C := "TypeStackModel") (As := [.int (nI 2)]) (rest := []) ⟨hx, hb, hml, hown, hw⟩ (c_M_undo l D u cI cZ gS gK gI gO gF gE (cpn gQ gS yn) 0 (tkn (gF (yr - 1)) (tkn (gF (yr - 1)) (tkn (gF (yr - 1)) yn))) yr ym yd yn (tkb (gF (yr - 1)) (gE (yr - 1)) (tkn (gF (yr - 1)) (tkn (gF (yr - 1)) yn)) (tkb (gF (yr - 1)) (gE (yr - 1)) (tkn (gF (yr - 1)) yn) (tkc (tk1 (gF (yr - 1)) yn gS) 1 (tkb (gF (yr - 1)) (gE (yr - 1)) yn 0)))) (tk1 (gF (yr - 1)) (tkn (gF (yr - 1)) (tkn (gF (yr - 1)) yn)) gS) 2 (by omega) H.size) (cwV 1 hw g_M_90 rfl rfl rfl ⟨rfl, by decide, by decide, by decide +kernel⟩ ⟨by decide, by decide⟩) ⟨PW.blind, va_recv (q := (RM, FM, 15)) (ci := 1) (q0 := 0) hK hP rfl rfl, PW.pre hP hK hD hS hA hE⟩ rfl rfl hl.1 rfl (lv_room (Nat.le_of_ble_eq_true rfl)) d_M_select_61 ⟨by decide, by decide⟩) (fun H locs hP hD hS => ?_)
        have hP : va_P D cls2 (wM u cI cZ (cpn gS (cpn gQ gS yn) yn) gK gI gO gF gE (cpn gQ gS yn) 2 yn yr ym yd yn (tkb (gF (yr - 1)) (gE (yr - 1)) (tkn (gF (yr - 1)) (tkn (gF (yr - 1)) yn)) (tkb (gF (yr - 1)) (gE (yr - 1)) (tkn (gF (yr - 1)) yn) (tkc (tk1 (gF (yr - 1)) yn gS) 1 (tkb (gF (yr - 1)) (gE (yr - 1)) yn 0)))) (tk1 (gF (yr - 1)) (tkn (gF (yr - 1)) (tkn (gF (yr - 1)) yn)) gS)) H := hP
        have hD : va_D (va_A (wM u cI cZ gS gK gI gO gF gE gQ yt yn yr ym yd yk yb yc) s.heap.size) (wM u cI cZ (cpn gS (cpn gQ gS yn) yn) gK gI gO gF gE (cpn gQ gS yn) 2 yn yr ym yd yn (tkb (gF (yr - 1)) (gE (yr - 1)) (tkn (gF (yr - 1)) (tkn (gF (yr - 1)) yn)) (tkb (gF (yr - 1)) (gE (yr - 1)) (tkn (gF (yr - 1)) yn) (tkc (tk1 (gF (yr - 1)) yn gS) 1 (tkb (gF (yr - 1)) (gE (yr - 1)) yn 0)))) (tk1 (gF (yr - 1)) (tkn (gF (yr - 1)) (tkn (gF (yr - 1)) yn)) gS)) := hD
        have her : orE (nf yr) (orE (xo ISE (hbT (gF (yr - 1)) (gE (yr - 1)) gS yn 1)) (orE (xo ISE (hb1 (gF (yr - 1)) (gE (yr - 1)) ((hbT (gF (yr - 1)) (gE (yr - 1)) gS yn 1).getD 0))) (orE (xo ISE (hb1 (gF (yr - 1)) (gE (yr - 1)) ((hb1 (gF (yr - 1)) (gE (yr - 1)) ((hbT (gF (yr - 1)) (gE (yr - 1)) gS yn 1).getD 0)).getD 0))) (orE (xo UOE (cty (tk1 (gF (yr - 1)) ((hbT (gF (yr - 1)) (gE (yr - 1)) gS yn 1).getD 0) gS) (tk1 (gF (yr - 1)) ((hb1 (gF (yr - 1)) (gE (yr - 1)) ((hbT (gF (yr - 1)) (gE (yr - 1)) gS yn 1).getD 0)).getD 0) gS))) (rmE ((hb1 (gF (yr - 1)) (gE (yr - 1)) ((hb1 (gF (yr - 1)) (gE (yr - 1)) ((hbT (gF (yr - 1)) (gE (yr - 1)) gS yn 1).getD 0)).getD 0)).getD 0 + 1)))))) = some ISE := by rw [ef]; exact es _
        exact W.iret hx hb hrt (fun t ht9 _ => ⟨⟨cpn gS (cpn gQ gS yn) yn, gK, gI, gO, gF, gE, cpn gQ gS yn, 2, yn, yr, ym, yd, yn, tkb (gF (yr - 1)) (gE (yr - 1)) (tkn (gF (yr - 1)) (tkn (gF (yr - 1)) yn)) (tkb (gF (yr - 1)) (gE (yr - 1)) (tkn (gF (yr - 1)) yn) (tkc (tk1 (gF (yr - 1)) yn gS) 1 (tkb (gF (yr - 1)) (gE (yr - 1)) yn 0))), tk1 (gF (yr - 1)) (tkn (gF (yr - 1)) (tkn (gF (yr - 1)) yn)) gS, some (.int (nI 0)), rfl, ⟨fun he => (by rw [her] at he; cases he), fun E he => by rw [her] at he; cases he; exact ⟨by decide +kernel, rfl, rel_undo⟩⟩, im_undo hi giS, by rw [ht9]; exact hP, hD⟩, hS.F ht9⟩) hS.2.2 d_M_select_64
    · skip
      exfalso; omega
  · skip
    have ef : nf yr = some NSE := nf_no h5
    refine lv_iconst (v := nI 1) hx hb d_M_select_8 (by decide) ?_
    refine lv_goto hx hb d_M_select_9 (tgt := 13) (by decide) ?_
    refine va_put (D := D) (ci := 1) (C := RM) (T := FM) (N := 15) (v := .int (nI 1)) (ty := .int) hx hb hw inM tM tM_ok nM hown hK hP hD hS 0 rfl rfl 0 (by decide) (hw _ kF_M_36) (fun _ h9 => h9) rfl (by decide +kernel) rfl rfl (Nat.le_of_ble_eq_true rfl) d_M_select_13 (fun H locs hP hD hS => ?_)
    have hP : va_P D cls2 (wM u cI cZ gS gK gI gO gF gE gQ 1 yn yr ym yd yk yb yc) H := hP
    have hD : va_D (va_A (wM u cI cZ gS gK gI gO gF gE gQ yt yn yr ym yd yk yb yc) s.heap.size) (wM u cI cZ gS gK gI gO gF gE gQ 1 yn yr ym yd yk yb yc) := hD
    refine lv_aload_n hx hb d_M_select_16 rfl (lv_at hl 0 rfl) ?_
    refine va_get (D := D) (ci := 1) (C := RM) (T := FM) (N := 15) (v := .int (nI 1)) hx hb hw inM hown hK hP 0 rfl rfl 0 (by decide) (hw _ kF_M_36) (fun _ h9 => h9) rfl d_M_select_17 ?_
    refine nw_ifle hx hb (tgt := 25) d_M_select_20 (by decide) (by omega) (fun h20 => ?_) (fun h20 => ?_)
    · skip
      exfalso; omega
    · skip
      refine lv_iconst (v := nI 0) hx hb d_M_select_23 (by decide) ?_
      have her : orE (nf yr) (orE (xo ISE (hbT (gF (yr - 1)) (gE (yr - 1)) gS yn 1)) (orE (xo ISE (hb1 (gF (yr - 1)) (gE (yr - 1)) ((hbT (gF (yr - 1)) (gE (yr - 1)) gS yn 1).getD 0))) (orE (xo ISE (hb1 (gF (yr - 1)) (gE (yr - 1)) ((hb1 (gF (yr - 1)) (gE (yr - 1)) ((hbT (gF (yr - 1)) (gE (yr - 1)) gS yn 1).getD 0)).getD 0))) (orE (xo UOE (cty (tk1 (gF (yr - 1)) ((hbT (gF (yr - 1)) (gE (yr - 1)) gS yn 1).getD 0) gS) (tk1 (gF (yr - 1)) ((hb1 (gF (yr - 1)) (gE (yr - 1)) ((hbT (gF (yr - 1)) (gE (yr - 1)) gS yn 1).getD 0)).getD 0) gS))) (rmE ((hb1 (gF (yr - 1)) (gE (yr - 1)) ((hb1 (gF (yr - 1)) (gE (yr - 1)) ((hbT (gF (yr - 1)) (gE (yr - 1)) gS yn 1).getD 0)).getD 0)).getD 0 + 1)))))) = some NSE := by simp only [orE, ef]
      exact W.iret hx hb hrt (fun t ht9 _ => ⟨⟨gS, gK, gI, gO, gF, gE, gQ, 1, yn, yr, ym, yd, yk, yb, yc, some (.int (nI 0)), rfl, ⟨fun he => (by rw [her] at he; cases he), fun E he => by rw [her] at he; cases he; exact ⟨by decide +kernel, rfl, rel_rf⟩⟩, hi, by rw [ht9]; exact hP, hD⟩, hS.F ht9⟩) hS.2.2 d_M_select_24

set_option maxHeartbeats 4000000 in
set_option maxRecDepth 100000 in
theorem c_M_block (l : Launch) (D : va_G) (u : Nat → Nat) (cI cZ : ClassId) (gS gK gI gO gF gE gQ : Nat → Nat) (yt yn yr ym yd yk yb yc : Nat) (hi : IM gS gK gI gO gF gE yn ym yr) (x y v : Int32) (hfl : 1 ≤ yr → gF (yr - 1) ≤ yn) (hmo : yn ≤ ym) (sz : Nat) : Met l y_M_block w_M_block (rmR 4) (PW D [(cI, .int), (cZ, .boolean)] (wM u cI cZ gS gK gI gO gF gE gQ yt yn yr ym yd yk yb yc) sz [.ref (u 0), .int x, .int y, .int v]) (QM D u cI cZ (wM u cI cZ gS gK gI gO gF gE gQ yt yn yr ym yd yk yb yc) sz (PMo (orE (xk x) (orE (xl y) (orE (xl v) (orE (nf yr) (orE (xo ISE (bel x (gF (yr - 1)) (gE (yr - 1)) gS yn)) (orE (xo ISE (hbL (gF (yr - 1)) (gE (yr - 1)) gS 6 (bl x (gF (yr - 1)) (gE (yr - 1)) gS yn) y.toNatClampNeg)) (orE (rmE ((hbL (gF (yr - 1)) (gE (yr - 1)) gS 6 (bl x (gF (yr - 1)) (gE (yr - 1)) gS yn) y.toNatClampNeg).getD 0 + szL 6 y.toNatClampNeg)) (f40 yr)))))))) (cdl [IAE, NSE, ISE, AE]) (some (.int (nI (yr + 1)))) (some (.int (nI 0))) (Rel (pl gS ((hbL (gF (yr - 1)) (gE (yr - 1)) gS 6 (bl x (gF (yr - 1)) (gE (yr - 1)) gS yn) y.toNatClampNeg).getD 0) (szL 6 y.toNatClampNeg) y.toNatClampNeg) (va_up gK yr x.toNatClampNeg) (va_up gI yr y.toNatClampNeg) (va_up gO yr v.toNatClampNeg) (va_up gF yr ((hbL (gF (yr - 1)) (gE (yr - 1)) gS 6 (bl x (gF (yr - 1)) (gE (yr - 1)) gS yn) y.toNatClampNeg).getD 0)) (va_up gE yr 0) (((hbL (gF (yr - 1)) (gE (yr - 1)) gS 6 (bl x (gF (yr - 1)) (gE (yr - 1)) gS yn) y.toNatClampNeg).getD 0) + szL 6 y.toNatClampNeg) (max ym (((hbL (gF (yr - 1)) (gE (yr - 1)) gS 6 (bl x (gF (yr - 1)) (gE (yr - 1)) gS yn) y.toNatClampNeg).getD 0) + szL 6 y.toNatClampNeg)) (yr + 1) (yd + 1)) (Rel gS gK gI gO gF gE yn ym yr yd))) 0 0 (va_A (wM u cI cZ gS gK gI gO gF gE gQ yt yn yr ym yd yk yb yc) sz) := by
  refine Met.ofW (cc := b_M_block) (maxL := 4) (ret := (some .int)) (by decide) rfl ?_
  intro p e s m args below meth c s₁ B hml hv
  obtain ⟨rfl, hsz, hP, hK, hD0, hE⟩ := hv
  have hx := B.exec
  have hb := B.bytes
  have hrt := B.returns
  have hts := atoms_spec (ws := w_M_block) B.pre
  have hw : ∀ w ∈ bw, w.before ([.ref (u 0), .int x, .int y, .int v]).toArray s = true := fun w h => hts w (List.mem_cons_of_mem _ h)
  have hown : s.vm.findClass "TypeStackModel" = some m.cls := findClass_of_methodNamed B.named
  have hlocks := B.notSynchronized
  subst hsz
  have hD := hD0.self (sz := s.heap.size)
  have hA : ∀ q : Nat, s.heap.size ≤ q → va_A (wM u cI cZ gS gK gI gO gF gE gQ yt yn yr ym yd yk yb yc) s.heap.size q := fun q h => Or.inr h
  have hS : va_S (va_A (wM u cI cZ gS gK gI gO gF gE gQ yt yn yr ym yd yk yb yc) s.heap.size) s.heap s.heap [] := va_S.rf
  have hK0 := hK.sub (tys' := []) [] rfl
  have hl := lv_entry ([.ref (u 0), .int x, .int y, .int v]) (n := 4) (Nat.le_of_ble_eq_true rfl)
  rw [lg_entry_eq]
  generalize (lg_sl ([.ref (u 0), .int x, .int y, .int v]) ++ List.replicate (4 - (lg_sl ([.ref (u 0), .int x, .int y, .int v])).length) Slot.unset).toArray = ls at hl ⊢
  have hl : lv_has ls 4 [(0, .ref (u 0)), (1, .int x), (2, .int y), (3, .int v)] := hl
  obtain ⟨giS, giK, giI, giO, giF, giE, gin, gim, gir⟩ := id hi
  refine lv_aload_n hx hb d_M_block_0 rfl (lv_at hl 0 rfl) ?_
  refine lv_iload_n hx hb d_M_block_1 rfl (lv_at hl 1 rfl) ?_
  refine lv_if_lt hx hb (tgt := 24) d_M_block_2 (by decide) (fun h2 => ?_) (fun h2 => ?_)
  · skip
    have ek : xk x = some IAE := xk_lo h2
    refine lv_iconst (v := nI 1) hx hb d_M_block_24 (by decide) ?_
    refine lv_goto hx hb d_M_block_25 (tgt := 40) (by decide) ?_
    refine va_put (D := D) (ci := 1) (C := RM) (T := FM) (N := 15) (v := .int (nI 1)) (ty := .int) hx hb hw inM tM tM_ok nM hown hK hP hD hS 0 rfl rfl 0 (by decide) (hw _ kF_M_36) (fun _ h9 => h9) rfl (by decide +kernel) rfl rfl (Nat.le_of_ble_eq_true rfl) d_M_block_40 (fun H locs hP hD hS => ?_)
    have hP : va_P D cls2 (wM u cI cZ gS gK gI gO gF gE gQ 1 yn yr ym yd yk yb yc) H := hP
    have hD : va_D (va_A (wM u cI cZ gS gK gI gO gF gE gQ yt yn yr ym yd yk yb yc) s.heap.size) (wM u cI cZ gS gK gI gO gF gE gQ 1 yn yr ym yd yk yb yc) := hD
    refine lv_aload_n hx hb d_M_block_43 rfl (lv_at hl 0 rfl) ?_
    refine va_get (D := D) (ci := 1) (C := RM) (T := FM) (N := 15) (v := .int (nI 1)) hx hb hw inM hown hK hP 0 rfl rfl 0 (by decide) (hw _ kF_M_36) (fun _ h9 => h9) rfl d_M_block_44 ?_
    refine nw_ifle hx hb (tgt := 52) d_M_block_47 (by decide) (by omega) (fun h47 => ?_) (fun h47 => ?_)
    · skip
      exfalso; omega
    · skip
      refine lv_iconst (v := nI 0) hx hb d_M_block_50 (by decide) ?_
      have her : orE (xk x) (orE (xl y) (orE (xl v) (orE (nf yr) (orE (xo ISE (bel x (gF (yr - 1)) (gE (yr - 1)) gS yn)) (orE (xo ISE (hbL (gF (yr - 1)) (gE (yr - 1)) gS 6 (bl x (gF (yr - 1)) (gE (yr - 1)) gS yn) y.toNatClampNeg)) (orE (rmE ((hbL (gF (yr - 1)) (gE (yr - 1)) gS 6 (bl x (gF (yr - 1)) (gE (yr - 1)) gS yn) y.toNatClampNeg).getD 0 + szL 6 y.toNatClampNeg)) (f40 yr))))))) = some IAE := by simp only [orE, ek]
      exact W.iret hx hb hrt (fun t ht9 _ => ⟨⟨gS, gK, gI, gO, gF, gE, gQ, 1, yn, yr, ym, yd, yk, yb, yc, some (.int (nI 0)), rfl, ⟨fun he => (by rw [her] at he; cases he), fun E he => by rw [her] at he; cases he; exact ⟨by decide +kernel, rfl, rel_rf⟩⟩, hi, by rw [ht9]; exact hP, hD⟩, hS.F ht9⟩) hS.2.2 d_M_block_51
  · skip
    refine lv_iload_n hx hb d_M_block_5 rfl (lv_at hl 1 rfl) ?_
    refine lv_iconst (v := nI 2) hx hb d_M_block_6 (by decide) ?_
    refine lv_icmp_gt hx hb (tgt := 24) d_M_block_7 (by decide) (fun h7 => ?_) (fun h7 => ?_)
    · skip
      have ek : xk x = some IAE := xk_hi h7
      refine lv_iconst (v := nI 1) hx hb d_M_block_24 (by decide) ?_
      refine lv_goto hx hb d_M_block_25 (tgt := 40) (by decide) ?_
      refine va_put (D := D) (ci := 1) (C := RM) (T := FM) (N := 15) (v := .int (nI 1)) (ty := .int) hx hb hw inM tM tM_ok nM hown hK hP hD hS 0 rfl rfl 0 (by decide) (hw _ kF_M_36) (fun _ h9 => h9) rfl (by decide +kernel) rfl rfl (Nat.le_of_ble_eq_true rfl) d_M_block_40 (fun H locs hP hD hS => ?_)
      have hP : va_P D cls2 (wM u cI cZ gS gK gI gO gF gE gQ 1 yn yr ym yd yk yb yc) H := hP
      have hD : va_D (va_A (wM u cI cZ gS gK gI gO gF gE gQ yt yn yr ym yd yk yb yc) s.heap.size) (wM u cI cZ gS gK gI gO gF gE gQ 1 yn yr ym yd yk yb yc) := hD
      refine lv_aload_n hx hb d_M_block_43 rfl (lv_at hl 0 rfl) ?_
      refine va_get (D := D) (ci := 1) (C := RM) (T := FM) (N := 15) (v := .int (nI 1)) hx hb hw inM hown hK hP 0 rfl rfl 0 (by decide) (hw _ kF_M_36) (fun _ h9 => h9) rfl d_M_block_44 ?_
      refine nw_ifle hx hb (tgt := 52) d_M_block_47 (by decide) (by omega) (fun h47 => ?_) (fun h47 => ?_)
      · skip
        exfalso; omega
      · skip
        refine lv_iconst (v := nI 0) hx hb d_M_block_50 (by decide) ?_
        have her : orE (xk x) (orE (xl y) (orE (xl v) (orE (nf yr) (orE (xo ISE (bel x (gF (yr - 1)) (gE (yr - 1)) gS yn)) (orE (xo ISE (hbL (gF (yr - 1)) (gE (yr - 1)) gS 6 (bl x (gF (yr - 1)) (gE (yr - 1)) gS yn) y.toNatClampNeg)) (orE (rmE ((hbL (gF (yr - 1)) (gE (yr - 1)) gS 6 (bl x (gF (yr - 1)) (gE (yr - 1)) gS yn) y.toNatClampNeg).getD 0 + szL 6 y.toNatClampNeg)) (f40 yr))))))) = some IAE := by simp only [orE, ek]
        exact W.iret hx hb hrt (fun t ht9 _ => ⟨⟨gS, gK, gI, gO, gF, gE, gQ, 1, yn, yr, ym, yd, yk, yb, yc, some (.int (nI 0)), rfl, ⟨fun he => (by rw [her] at he; cases he), fun E he => by rw [her] at he; cases he; exact ⟨by decide +kernel, rfl, rel_rf⟩⟩, hi, by rw [ht9]; exact hP, hD⟩, hS.F ht9⟩) hS.2.2 d_M_block_51
    · skip
      have hkd := xk_in h2 h7
      have ek : xk x = none := if_pos hkd
      refine lv_iload_n hx hb d_M_block_10 rfl (lv_at hl 2 rfl) ?_
      refine cl_r (v := some (.int (nI ((lok y).toNat)))) (W.runS (As := [.int y]) (rest := [.ref (u 0)]) ⟨hx, hb, hml, hown, hw⟩ (c_M_isList l D y s.heap.size) (va_cwS 1 hw g_M_80 rfl rfl rfl ⟨by decide, by decide, by decide +kernel⟩ ⟨by decide, by decide⟩) ⟨PW.blind, PW.pre va_P.nil hK0 va_D.nil hS hA hE⟩ rfl rfl hl.1 rfl (lv_room (Nat.le_of_ble_eq_true rfl)) d_M_block_11 ⟨by decide, by decide⟩) ?_
      have hq11 := tn_le (lok y)
      refine nw_ifeq hx hb (tgt := 24) d_M_block_14 (by decide) (by omega) (fun h14 => ?_) (fun h14 => ?_)
      · skip
        have e14 : xl y = some IAE := xl_no h14
        refine lv_iconst (v := nI 1) hx hb d_M_block_24 (by decide) ?_
        refine lv_goto hx hb d_M_block_25 (tgt := 40) (by decide) ?_
        refine va_put (D := D) (ci := 1) (C := RM) (T := FM) (N := 15) (v := .int (nI 1)) (ty := .int) hx hb hw inM tM tM_ok nM hown hK hP hD hS 0 rfl rfl 0 (by decide) (hw _ kF_M_36) (fun _ h9 => h9) rfl (by decide +kernel) rfl rfl (Nat.le_of_ble_eq_true rfl) d_M_block_40 (fun H locs hP hD hS => ?_)
        have hP : va_P D cls2 (wM u cI cZ gS gK gI gO gF gE gQ 1 yn yr ym yd yk yb yc) H := hP
        have hD : va_D (va_A (wM u cI cZ gS gK gI gO gF gE gQ yt yn yr ym yd yk yb yc) s.heap.size) (wM u cI cZ gS gK gI gO gF gE gQ 1 yn yr ym yd yk yb yc) := hD
        refine lv_aload_n hx hb d_M_block_43 rfl (lv_at hl 0 rfl) ?_
        refine va_get (D := D) (ci := 1) (C := RM) (T := FM) (N := 15) (v := .int (nI 1)) hx hb hw inM hown hK hP 0 rfl rfl 0 (by decide) (hw _ kF_M_36) (fun _ h9 => h9) rfl d_M_block_44 ?_
        refine nw_ifle hx hb (tgt := 52) d_M_block_47 (by decide) (by omega) (fun h47 => ?_) (fun h47 => ?_)
        · skip
          exfalso; omega
        · skip
          refine lv_iconst (v := nI 0) hx hb d_M_block_50 (by decide) ?_
          have her : orE (xk x) (orE (xl y) (orE (xl v) (orE (nf yr) (orE (xo ISE (bel x (gF (yr - 1)) (gE (yr - 1)) gS yn)) (orE (xo ISE (hbL (gF (yr - 1)) (gE (yr - 1)) gS 6 (bl x (gF (yr - 1)) (gE (yr - 1)) gS yn) y.toNatClampNeg)) (orE (rmE ((hbL (gF (yr - 1)) (gE (yr - 1)) gS 6 (bl x (gF (yr - 1)) (gE (yr - 1)) gS yn) y.toNatClampNeg).getD 0 + szL 6 y.toNatClampNeg)) (f40 yr))))))) = some IAE := by simp only [orE, ek, e14]
          exact W.iret hx hb hrt (fun t ht9 _ => ⟨⟨gS, gK, gI, gO, gF, gE, gQ, 1, yn, yr, ym, yd, yk, yb, yc, some (.int (nI 0)), rfl, ⟨fun he => (by rw [her] at he; cases he), fun E he => by rw [her] at he; cases he; exact ⟨by decide +kernel, rfl, rel_rf⟩⟩, hi, by rw [ht9]; exact hP, hD⟩, hS.F ht9⟩) hS.2.2 d_M_block_51
      · skip
        have e14 : xl y = none := xl_ok h14
        refine lv_iload_n hx hb d_M_block_17 rfl (lv_at hl 3 rfl) ?_
        refine cl_r (v := some (.int (nI ((lok v).toNat)))) (W.runS (As := [.int v]) (rest := [.ref (u 0)]) ⟨hx, hb, hml, hown, hw⟩ (c_M_isList l D v s.heap.size) (va_cwS 1 hw g_M_80 rfl rfl rfl ⟨by decide, by decide, by decide +kernel⟩ ⟨by decide, by decide⟩) ⟨PW.blind, PW.pre va_P.nil hK0 va_D.nil hS hA hE⟩ rfl rfl hl.1 rfl (lv_room (Nat.le_of_ble_eq_true rfl)) d_M_block_18 ⟨by decide, by decide⟩) ?_
        have hq18 := tn_le (lok v)
        refine nw_ifne hx hb (tgt := 28) d_M_block_21 (by decide) (by omega) (fun h21 => ?_) (fun h21 => ?_)
        · skip
          have e21 : xl v = none := xl_ok h21
          refine lv_aload_n hx hb d_M_block_28 rfl (lv_at hl 0 rfl) ?_
          refine va_get (D := D) (ci := 1) (C := RM) (T := FM) (N := 15) (v := .int (nI yr)) hx hb hw inM hown hK hP 0 rfl rfl 8 (by decide) (hw _ kF_M_43) (fun _ h9 => h9) rfl d_M_block_29 ?_
          refine nw_ifne hx hb (tgt := 39) d_M_block_32 (by decide) (by omega) (fun h32 => ?_) (fun h32 => ?_)
          · skip
            have ef : nf yr = none := nf_ok h32
            refine lv_iconst (v := nI 0) hx hb d_M_block_39 (by decide) ?_
            refine va_put (D := D) (ci := 1) (C := RM) (T := FM) (N := 15) (v := .int (nI 0)) (ty := .int) hx hb hw inM tM tM_ok nM hown hK hP hD hS 0 rfl rfl 0 (by decide) (hw _ kF_M_36) (fun _ h9 => h9) rfl (by decide +kernel) rfl rfl (Nat.le_of_ble_eq_true rfl) d_M_block_40 (fun H locs hP hD hS => ?_)
            have hP : va_P D cls2 (wM u cI cZ gS gK gI gO gF gE gQ 0 yn yr ym yd yk yb yc) H := hP
            have hD : va_D (va_A (wM u cI cZ gS gK gI gO gF gE gQ yt yn yr ym yd yk yb yc) s.heap.size) (wM u cI cZ gS gK gI gO gF gE gQ 0 yn yr ym yd yk yb yc) := hD
            refine lv_aload_n hx hb d_M_block_43 rfl (lv_at hl 0 rfl) ?_
            refine va_get (D := D) (ci := 1) (C := RM) (T := FM) (N := 15) (v := .int (nI 0)) hx hb hw inM hown hK hP 0 rfl rfl 0 (by decide) (hw _ kF_M_36) (fun _ h9 => h9) rfl d_M_block_44 ?_
            refine nw_ifle hx hb (tgt := 52) d_M_block_47 (by decide) (by omega) (fun h47 => ?_) (fun h47 => ?_)
            · skip
              have hjy := xl_lt e14
              have hjv := xl_lt e21
              have hsz := szL_le 6 y.toNatClampNeg
              refine lv_aload_n hx hb d_M_block_52 rfl (lv_at hl 0 rfl) ?_
              refine cl_w (v := none) hD hS hA (W.runV (b := u 0) (C := "TypeStackModel") (As := []) (rest := []) ⟨hx, hb, hml, hown, hw⟩ (c_M_keep l D u cI cZ gS gK gI gO gF gE gQ 0 yn yr ym yd yk yb yc (by omega) H.size) (cwV 0 hw g_M_84 rfl rfl rfl ⟨rfl, by decide, by decide, by decide +kernel⟩ ⟨by decide, by decide⟩) ⟨PW.blind, va_recv (q := (RM, FM, 15)) (ci := 1) (q0 := 0) hK hP rfl rfl, PW.pre hP hK hD hS hA hE⟩ rfl rfl hl.1 rfl (lv_room (Nat.le_of_ble_eq_true rfl)) d_M_block_53 ⟨by decide, by decide⟩) (fun H locs hP hD hS => ?_)
              have hP : va_P D cls2 (wM u cI cZ gS gK gI gO gF gE (cpn gQ gS yn) 0 yn yr ym yd yn 0 yc) H := hP
              have hD : va_D (va_A (wM u cI cZ gS gK gI gO gF gE gQ yt yn yr ym yd yk yb yc) s.heap.size) (wM u cI cZ gS gK gI gO gF gE (cpn gQ gS yn) 0 yn yr ym yd yn 0 yc) := hD
              refine lv_iload_n hx hb d_M_block_56 rfl (lv_at hl 1 rfl) ?_
              refine lv_iconst (v := nI 2) hx hb d_M_block_57 (by decide) ?_
              refine lv_icmp_ne hx hb (tgt := 66) d_M_block_58 (by decide) (fun h58 => ?_) (fun h58 => ?_)
              · skip
                refine lv_aload_n hx hb d_M_block_66 rfl (lv_at hl 0 rfl) ?_
                refine lv_iload_n hx hb d_M_block_67 rfl (lv_at hl 2 rfl) ?_
                refine nw_is (y := nI y.toNatClampNeg) (xl_eq e14) ?_
                refine cl_w (v := none) hD hS hA (W.runV (b := u 0) (C := "TypeStackModel") (As := [.int (nI y.toNatClampNeg)]) (rest := []) ⟨hx, hb, hml, hown, hw⟩ (c_M_takeAll l D u cI cZ gS gK gI gO gF gE (cpn gQ gS yn) 0 yn yr ym yd yn 0 yc y.toNatClampNeg (by omega) (by omega) (by omega) (by omega) giF giE giS H.size) (cwV 1 hw g_M_87 rfl rfl rfl ⟨rfl, by decide, by decide, by decide +kernel⟩ ⟨by decide, by decide⟩) ⟨PW.blind, va_recv (q := (RM, FM, 15)) (ci := 1) (q0 := 0) hK hP rfl rfl, PW.pre hP hK hD hS hA hE⟩ rfl rfl hl.1 rfl (lv_room (Nat.le_of_ble_eq_true rfl)) d_M_block_68 ⟨by decide, by decide⟩) (fun H locs hP hD hS => ?_)
                have hP : va_P D cls2 (wM u cI cZ gS gK gI gO gF gE (cpn gQ gS yn) 0 ((tA (gF (yr - 1)) (gE (yr - 1)) gS 6 y.toNatClampNeg (yn, yc, 0)).1) yr ym yd yn ((tA (gF (yr - 1)) (gE (yr - 1)) gS 6 y.toNatClampNeg (yn, yc, 0)).2.2) ((tA (gF (yr - 1)) (gE (yr - 1)) gS 6 y.toNatClampNeg (yn, yc, 0)).2.1)) H := hP
                have hD : va_D (va_A (wM u cI cZ gS gK gI gO gF gE gQ yt yn yr ym yd yk yb yc) s.heap.size) (wM u cI cZ gS gK gI gO gF gE (cpn gQ gS yn) 0 ((tA (gF (yr - 1)) (gE (yr - 1)) gS 6 y.toNatClampNeg (yn, yc, 0)).1) yr ym yd yn ((tA (gF (yr - 1)) (gE (yr - 1)) gS 6 y.toNatClampNeg (yn, yc, 0)).2.2) ((tA (gF (yr - 1)) (gE (yr - 1)) gS 6 y.toNatClampNeg (yn, yc, 0)).2.1)) := hD
                have hta := tA_le (gF (yr - 1)) (gE (yr - 1)) gS 6 y.toNatClampNeg yn yc 0 (by decide)
                refine lv_aload_n hx hb d_M_block_71 rfl (lv_at hl 0 rfl) ?_
                refine va_get (D := D) (ci := 1) (C := RM) (T := FM) (N := 15) (v := .int (nI ((tA (gF (yr - 1)) (gE (yr - 1)) gS 6 y.toNatClampNeg (yn, yc, 0)).2.2))) hx hb hw inM hown hK hP 0 rfl rfl 13 (by decide) (hw _ kF_M_55) (fun _ h9 => h9) rfl d_M_block_72 ?_
                refine nw_ifeq hx hb (tgt := 84) d_M_block_75 (by decide) (by omega) (fun h75 => ?_) (fun h75 => ?_)
                · skip
                  have e1 : xo ISE (bel x (gF (yr - 1)) (gE (yr - 1)) gS yn) = none := by rw [bel_ne h58]; rfl
                  have p1 : bl x (gF (yr - 1)) (gE (yr - 1)) gS yn = yn := bl_ne h58
                  have e2 : xo ISE (hbL (gF (yr - 1)) (gE (yr - 1)) gS 6 yn y.toNatClampNeg) = none := by rw [tA_ok h75]; rfl
                  have p2 : (hbL (gF (yr - 1)) (gE (yr - 1)) gS 6 yn y.toNatClampNeg).getD 0 = (tA (gF (yr - 1)) (gE (yr - 1)) gS 6 y.toNatClampNeg (yn, yc, 0)).1 := by rw [tA_ok h75]; rfl
                  refine lv_aload_n hx hb d_M_block_84 rfl (lv_at hl 0 rfl) ?_
                  refine va_get (D := D) (ci := 1) (C := RM) (T := FM) (N := 15) (v := .int (nI yr)) hx hb hw inM hown hK hP 0 rfl rfl 8 (by decide) (hw _ kF_M_43) (fun _ h9 => h9) rfl d_M_block_85 ?_
                  refine lv_bipush (v := nI 40) hx hb d_M_block_88 (by decide) ?_
                  refine nw_eq hx hb (tgt := 108) d_M_block_90 (by decide) (by omega) (by omega) (fun h90 => ?_) (fun h90 => ?_)
                  · skip
                    refine lv_aload_n hx hb d_M_block_108 rfl (lv_at hl 0 rfl) ?_
                    refine lv_iconst (v := nI 4) hx hb d_M_block_109 (by decide) ?_
                    refine cl_w (v := some (.int (nI 0))) hD hS hA (W.runV (b := u 0) (C := "TypeStackModel") (As := [.int (nI 4)]) (rest := []) ⟨hx, hb, hml, hown, hw⟩ (c_M_undo l D u cI cZ gS gK gI gO gF gE (cpn gQ gS yn) 0 ((tA (gF (yr - 1)) (gE (yr - 1)) gS 6 y.toNatClampNeg (yn, yc, 0)).1) yr ym yd yn ((tA (gF (yr - 1)) (gE (yr - 1)) gS 6 y.toNatClampNeg (yn, yc, 0)).2.2) ((tA (gF (yr - 1)) (gE (yr - 1)) gS 6 y.toNatClampNeg (yn, yc, 0)).2.1) 4 (by omega) H.size) (cwV 1 hw g_M_90 rfl rfl rfl ⟨rfl, by decide, by decide, by decide +kernel⟩ ⟨by decide, by decide⟩) ⟨PW.blind, va_recv (q := (RM, FM, 15)) (ci := 1) (q0 := 0) hK hP rfl rfl, PW.pre hP hK hD hS hA hE⟩ rfl rfl hl.1 rfl (lv_room (Nat.le_of_ble_eq_true rfl)) d_M_block_110 ⟨by decide, by decide⟩) (fun H locs hP hD hS => ?_)
                    have hP : va_P D cls2 (wM u cI cZ (cpn gS (cpn gQ gS yn) yn) gK gI gO gF gE (cpn gQ gS yn) 4 yn yr ym yd yn ((tA (gF (yr - 1)) (gE (yr - 1)) gS 6 y.toNatClampNeg (yn, yc, 0)).2.2) ((tA (gF (yr - 1)) (gE (yr - 1)) gS 6 y.toNatClampNeg (yn, yc, 0)).2.1)) H := hP
                    have hD : va_D (va_A (wM u cI cZ gS gK gI gO gF gE gQ yt yn yr ym yd yk yb yc) s.heap.size) (wM u cI cZ (cpn gS (cpn gQ gS yn) yn) gK gI gO gF gE (cpn gQ gS yn) 4 yn yr ym yd yn ((tA (gF (yr - 1)) (gE (yr - 1)) gS 6 y.toNatClampNeg (yn, yc, 0)).2.2) ((tA (gF (yr - 1)) (gE (yr - 1)) gS 6 y.toNatClampNeg (yn, yc, 0)).2.1)) := hD
                    have her : orE (xk x) (orE (xl y) (orE (xl v) (orE (nf yr) (orE (xo ISE (bel x (gF (yr - 1)) (gE (yr - 1)) gS yn)) (orE (xo ISE (hbL (gF (yr - 1)) (gE (yr - 1)) gS 6 (bl x (gF (yr - 1)) (gE (yr - 1)) gS yn) y.toNatClampNeg)) (orE (rmE ((hbL (gF (yr - 1)) (gE (yr - 1)) gS 6 (bl x (gF (yr - 1)) (gE (yr - 1)) gS yn) y.toNatClampNeg).getD 0 + szL 6 y.toNatClampNeg)) (f40 yr))))))) = some AE := by rw [ek, e14, e21, ef, e1, p1, e2, p2]; exact rm40 h90
                    exact W.iret hx hb hrt (fun t ht9 _ => ⟨⟨cpn gS (cpn gQ gS yn) yn, gK, gI, gO, gF, gE, cpn gQ gS yn, 4, yn, yr, ym, yd, yn, (tA (gF (yr - 1)) (gE (yr - 1)) gS 6 y.toNatClampNeg (yn, yc, 0)).2.2, (tA (gF (yr - 1)) (gE (yr - 1)) gS 6 y.toNatClampNeg (yn, yc, 0)).2.1, some (.int (nI 0)), rfl, ⟨fun he => (by rw [her] at he; cases he), fun E he => by rw [her] at he; cases he; exact ⟨by decide +kernel, rfl, rel_undo⟩⟩, im_undo hi giS, by rw [ht9]; exact hP, hD⟩, hS.F ht9⟩) hS.2.2 d_M_block_113
                  · skip
                    refine lv_aload_n hx hb d_M_block_93 rfl (lv_at hl 0 rfl) ?_
                    refine va_get (D := D) (ci := 1) (C := RM) (T := FM) (N := 15) (v := .int (nI ((tA (gF (yr - 1)) (gE (yr - 1)) gS 6 y.toNatClampNeg (yn, yc, 0)).1))) hx hb hw inM hown hK hP 0 rfl rfl 7 (by decide) (hw _ kF_M_40) (fun _ h9 => h9) rfl d_M_block_94 ?_
                    refine lv_iload_n hx hb d_M_block_97 rfl (lv_at hl 2 rfl) ?_
                    refine nw_is (y := nI y.toNatClampNeg) (xl_eq e14) ?_
                    refine cl_r (v := some (.int (nI (szL 6 y.toNatClampNeg)))) (W.runS (As := [.int (nI y.toNatClampNeg)]) (rest := [.int (nI ((tA (gF (yr - 1)) (gE (yr - 1)) gS 6 y.toNatClampNeg (yn, yc, 0)).1))]) ⟨hx, hb, hml, hown, hw⟩ (c_M_length l D y.toNatClampNeg (by omega) H.size) (va_cwS 1 hw g_M_100 rfl rfl rfl ⟨by decide, by decide, by decide +kernel⟩ ⟨by decide, by decide⟩) ⟨PW.blind, PW.pre va_P.nil hK0 va_D.nil hS hA hE⟩ rfl rfl hl.1 rfl (lv_room (Nat.le_of_ble_eq_true rfl)) d_M_block_98 ⟨by decide, by decide⟩) ?_
                    have hs98 := szL_le 6 y.toNatClampNeg
                    refine nw_add hx hb d_M_block_101 ?_
                    refine lv_sipush (v := nI 300) hx hb d_M_block_102 (by decide) ?_
                    refine nw_le hx hb (tgt := 114) d_M_block_105 (by decide) (by omega) (by omega) (fun h105 => ?_) (fun h105 => ?_)
                    · skip
                      refine lv_aload_n hx hb d_M_block_114 rfl (lv_at hl 0 rfl) ?_
                      refine va_get (D := D) (ci := 1) (C := RM) (T := FM) (N := 15) (v := .ref (u 2)) hx hb hw inM hown hK hP 0 rfl rfl 2 (by decide) (hw _ kF_M_13) (fun _ h9 => h9) rfl d_M_block_115 ?_
                      refine lv_aload_n hx hb d_M_block_118 rfl (lv_at hl 0 rfl) ?_
                      refine va_get (D := D) (ci := 1) (C := RM) (T := FM) (N := 15) (v := .int (nI yr)) hx hb hw inM hown hK hP 0 rfl rfl 8 (by decide) (hw _ kF_M_43) (fun _ h9 => h9) rfl d_M_block_119 ?_
                      refine lv_iload_n hx hb d_M_block_122 rfl (lv_at hl 1 rfl) ?_
                      refine nw_is (y := nI x.toNatClampNeg) (kd_eq hkd) ?_
                      refine nw_iast hx hb hK hP hD hS 2 0 rfl rfl (k := yr) (x := x.toNatClampNeg) (by omega) (by decide) d_M_block_123 (fun H locs hP hD hS => ?_)
                      have hP : va_P D cls2 (wM u cI cZ gS (va_up gK yr x.toNatClampNeg) gI gO gF gE (cpn gQ gS yn) 0 ((tA (gF (yr - 1)) (gE (yr - 1)) gS 6 y.toNatClampNeg (yn, yc, 0)).1) yr ym yd yn ((tA (gF (yr - 1)) (gE (yr - 1)) gS 6 y.toNatClampNeg (yn, yc, 0)).2.2) ((tA (gF (yr - 1)) (gE (yr - 1)) gS 6 y.toNatClampNeg (yn, yc, 0)).2.1)) H := hP
                      have hD : va_D (va_A (wM u cI cZ gS gK gI gO gF gE gQ yt yn yr ym yd yk yb yc) s.heap.size) (wM u cI cZ gS (va_up gK yr x.toNatClampNeg) gI gO gF gE (cpn gQ gS yn) 0 ((tA (gF (yr - 1)) (gE (yr - 1)) gS 6 y.toNatClampNeg (yn, yc, 0)).1) yr ym yd yn ((tA (gF (yr - 1)) (gE (yr - 1)) gS 6 y.toNatClampNeg (yn, yc, 0)).2.2) ((tA (gF (yr - 1)) (gE (yr - 1)) gS 6 y.toNatClampNeg (yn, yc, 0)).2.1)) := hD
                      refine lv_aload_n hx hb d_M_block_124 rfl (lv_at hl 0 rfl) ?_
                      refine va_get (D := D) (ci := 1) (C := RM) (T := FM) (N := 15) (v := .ref (u 3)) hx hb hw inM hown hK hP 0 rfl rfl 3 (by decide) (hw _ kF_M_16) (fun _ h9 => h9) rfl d_M_block_125 ?_
                      refine lv_aload_n hx hb d_M_block_128 rfl (lv_at hl 0 rfl) ?_
                      refine va_get (D := D) (ci := 1) (C := RM) (T := FM) (N := 15) (v := .int (nI yr)) hx hb hw inM hown hK hP 0 rfl rfl 8 (by decide) (hw _ kF_M_43) (fun _ h9 => h9) rfl d_M_block_129 ?_
                      refine lv_iload_n hx hb d_M_block_132 rfl (lv_at hl 2 rfl) ?_
                      refine nw_is (y := nI y.toNatClampNeg) (xl_eq e14) ?_
                      refine nw_iast hx hb hK hP hD hS 3 0 rfl rfl (k := yr) (x := y.toNatClampNeg) (by omega) (by decide) d_M_block_133 (fun H locs hP hD hS => ?_)
                      have hP : va_P D cls2 (wM u cI cZ gS (va_up gK yr x.toNatClampNeg) (va_up gI yr y.toNatClampNeg) gO gF gE (cpn gQ gS yn) 0 ((tA (gF (yr - 1)) (gE (yr - 1)) gS 6 y.toNatClampNeg (yn, yc, 0)).1) yr ym yd yn ((tA (gF (yr - 1)) (gE (yr - 1)) gS 6 y.toNatClampNeg (yn, yc, 0)).2.2) ((tA (gF (yr - 1)) (gE (yr - 1)) gS 6 y.toNatClampNeg (yn, yc, 0)).2.1)) H := hP
                      have hD : va_D (va_A (wM u cI cZ gS gK gI gO gF gE gQ yt yn yr ym yd yk yb yc) s.heap.size) (wM u cI cZ gS (va_up gK yr x.toNatClampNeg) (va_up gI yr y.toNatClampNeg) gO gF gE (cpn gQ gS yn) 0 ((tA (gF (yr - 1)) (gE (yr - 1)) gS 6 y.toNatClampNeg (yn, yc, 0)).1) yr ym yd yn ((tA (gF (yr - 1)) (gE (yr - 1)) gS 6 y.toNatClampNeg (yn, yc, 0)).2.2) ((tA (gF (yr - 1)) (gE (yr - 1)) gS 6 y.toNatClampNeg (yn, yc, 0)).2.1)) := hD
                      refine lv_aload_n hx hb d_M_block_134 rfl (lv_at hl 0 rfl) ?_
                      refine va_get (D := D) (ci := 1) (C := RM) (T := FM) (N := 15) (v := .ref (u 4)) hx hb hw inM hown hK hP 0 rfl rfl 4 (by decide) (hw _ kF_M_19) (fun _ h9 => h9) rfl d_M_block_135 ?_
                      refine lv_aload_n hx hb d_M_block_138 rfl (lv_at hl 0 rfl) ?_
                      refine va_get (D := D) (ci := 1) (C := RM) (T := FM) (N := 15) (v := .int (nI yr)) hx hb hw inM hown hK hP 0 rfl rfl 8 (by decide) (hw _ kF_M_43) (fun _ h9 => h9) rfl d_M_block_139 ?_
                      refine lv_iload_n hx hb d_M_block_142 rfl (lv_at hl 3 rfl) ?_
                      refine nw_is (y := nI v.toNatClampNeg) (xl_eq e21) ?_
                      refine nw_iast hx hb hK hP hD hS 4 0 rfl rfl (k := yr) (x := v.toNatClampNeg) (by omega) (by decide) d_M_block_143 (fun H locs hP hD hS => ?_)
                      have hP : va_P D cls2 (wM u cI cZ gS (va_up gK yr x.toNatClampNeg) (va_up gI yr y.toNatClampNeg) (va_up gO yr v.toNatClampNeg) gF gE (cpn gQ gS yn) 0 ((tA (gF (yr - 1)) (gE (yr - 1)) gS 6 y.toNatClampNeg (yn, yc, 0)).1) yr ym yd yn ((tA (gF (yr - 1)) (gE (yr - 1)) gS 6 y.toNatClampNeg (yn, yc, 0)).2.2) ((tA (gF (yr - 1)) (gE (yr - 1)) gS 6 y.toNatClampNeg (yn, yc, 0)).2.1)) H := hP
                      have hD : va_D (va_A (wM u cI cZ gS gK gI gO gF gE gQ yt yn yr ym yd yk yb yc) s.heap.size) (wM u cI cZ gS (va_up gK yr x.toNatClampNeg) (va_up gI yr y.toNatClampNeg) (va_up gO yr v.toNatClampNeg) gF gE (cpn gQ gS yn) 0 ((tA (gF (yr - 1)) (gE (yr - 1)) gS 6 y.toNatClampNeg (yn, yc, 0)).1) yr ym yd yn ((tA (gF (yr - 1)) (gE (yr - 1)) gS 6 y.toNatClampNeg (yn, yc, 0)).2.2) ((tA (gF (yr - 1)) (gE (yr - 1)) gS 6 y.toNatClampNeg (yn, yc, 0)).2.1)) := hD
                      refine lv_aload_n hx hb d_M_block_144 rfl (lv_at hl 0 rfl) ?_
                      refine va_get (D := D) (ci := 1) (C := RM) (T := FM) (N := 15) (v := .ref (u 5)) hx hb hw inM hown hK hP 0 rfl rfl 5 (by decide) (hw _ kF_M_22) (fun _ h9 => h9) rfl d_M_block_145 ?_
                      refine lv_aload_n hx hb d_M_block_148 rfl (lv_at hl 0 rfl) ?_
                      refine va_get (D := D) (ci := 1) (C := RM) (T := FM) (N := 15) (v := .int (nI yr)) hx hb hw inM hown hK hP 0 rfl rfl 8 (by decide) (hw _ kF_M_43) (fun _ h9 => h9) rfl d_M_block_149 ?_
                      refine lv_aload_n hx hb d_M_block_152 rfl (lv_at hl 0 rfl) ?_
                      refine va_get (D := D) (ci := 1) (C := RM) (T := FM) (N := 15) (v := .int (nI ((tA (gF (yr - 1)) (gE (yr - 1)) gS 6 y.toNatClampNeg (yn, yc, 0)).1))) hx hb hw inM hown hK hP 0 rfl rfl 7 (by decide) (hw _ kF_M_40) (fun _ h9 => h9) rfl d_M_block_153 ?_
                      refine nw_iast hx hb hK hP hD hS 5 0 rfl rfl (k := yr) (x := (tA (gF (yr - 1)) (gE (yr - 1)) gS 6 y.toNatClampNeg (yn, yc, 0)).1) (by omega) (by decide) d_M_block_156 (fun H locs hP hD hS => ?_)
                      have hP : va_P D cls2 (wM u cI cZ gS (va_up gK yr x.toNatClampNeg) (va_up gI yr y.toNatClampNeg) (va_up gO yr v.toNatClampNeg) (va_up gF yr ((tA (gF (yr - 1)) (gE (yr - 1)) gS 6 y.toNatClampNeg (yn, yc, 0)).1)) gE (cpn gQ gS yn) 0 ((tA (gF (yr - 1)) (gE (yr - 1)) gS 6 y.toNatClampNeg (yn, yc, 0)).1) yr ym yd yn ((tA (gF (yr - 1)) (gE (yr - 1)) gS 6 y.toNatClampNeg (yn, yc, 0)).2.2) ((tA (gF (yr - 1)) (gE (yr - 1)) gS 6 y.toNatClampNeg (yn, yc, 0)).2.1)) H := hP
                      have hD : va_D (va_A (wM u cI cZ gS gK gI gO gF gE gQ yt yn yr ym yd yk yb yc) s.heap.size) (wM u cI cZ gS (va_up gK yr x.toNatClampNeg) (va_up gI yr y.toNatClampNeg) (va_up gO yr v.toNatClampNeg) (va_up gF yr ((tA (gF (yr - 1)) (gE (yr - 1)) gS 6 y.toNatClampNeg (yn, yc, 0)).1)) gE (cpn gQ gS yn) 0 ((tA (gF (yr - 1)) (gE (yr - 1)) gS 6 y.toNatClampNeg (yn, yc, 0)).1) yr ym yd yn ((tA (gF (yr - 1)) (gE (yr - 1)) gS 6 y.toNatClampNeg (yn, yc, 0)).2.2) ((tA (gF (yr - 1)) (gE (yr - 1)) gS 6 y.toNatClampNeg (yn, yc, 0)).2.1)) := hD
                      refine lv_aload_n hx hb d_M_block_157 rfl (lv_at hl 0 rfl) ?_
                      refine va_get (D := D) (ci := 1) (C := RM) (T := FM) (N := 15) (v := .ref (u 6)) hx hb hw inM hown hK hP 0 rfl rfl 6 (by decide) (hw _ kF_M_25) (fun _ h9 => h9) rfl d_M_block_158 ?_
                      refine lv_aload_n hx hb d_M_block_161 rfl (lv_at hl 0 rfl) ?_
                      refine va_get (D := D) (ci := 1) (C := RM) (T := FM) (N := 15) (v := .int (nI yr)) hx hb hw inM hown hK hP 0 rfl rfl 8 (by decide) (hw _ kF_M_43) (fun _ h9 => h9) rfl d_M_block_162 ?_
                      refine lv_iconst (v := nI 0) hx hb d_M_block_165 (by decide) ?_
                      refine nw_zast hx hb hK hP hD hS 6 1 rfl rfl (k := yr) (x := 0) (by omega) (by decide) (by decide) d_M_block_166 (fun H locs hP hD hS => ?_)
                      have hP : va_P D cls2 (wM u cI cZ gS (va_up gK yr x.toNatClampNeg) (va_up gI yr y.toNatClampNeg) (va_up gO yr v.toNatClampNeg) (va_up gF yr ((tA (gF (yr - 1)) (gE (yr - 1)) gS 6 y.toNatClampNeg (yn, yc, 0)).1)) (va_up gE yr 0) (cpn gQ gS yn) 0 ((tA (gF (yr - 1)) (gE (yr - 1)) gS 6 y.toNatClampNeg (yn, yc, 0)).1) yr ym yd yn ((tA (gF (yr - 1)) (gE (yr - 1)) gS 6 y.toNatClampNeg (yn, yc, 0)).2.2) ((tA (gF (yr - 1)) (gE (yr - 1)) gS 6 y.toNatClampNeg (yn, yc, 0)).2.1)) H := hP
                      have hD : va_D (va_A (wM u cI cZ gS gK gI gO gF gE gQ yt yn yr ym yd yk yb yc) s.heap.size) (wM u cI cZ gS (va_up gK yr x.toNatClampNeg) (va_up gI yr y.toNatClampNeg) (va_up gO yr v.toNatClampNeg) (va_up gF yr ((tA (gF (yr - 1)) (gE (yr - 1)) gS 6 y.toNatClampNeg (yn, yc, 0)).1)) (va_up gE yr 0) (cpn gQ gS yn) 0 ((tA (gF (yr - 1)) (gE (yr - 1)) gS 6 y.toNatClampNeg (yn, yc, 0)).1) yr ym yd yn ((tA (gF (yr - 1)) (gE (yr - 1)) gS 6 y.toNatClampNeg (yn, yc, 0)).2.2) ((tA (gF (yr - 1)) (gE (yr - 1)) gS 6 y.toNatClampNeg (yn, yc, 0)).2.1)) := hD
                      refine lv_aload_n hx hb d_M_block_167 rfl (lv_at hl 0 rfl) ?_
                      refine lv_dup hx hb d_M_block_168 rfl ?_
                      refine va_get (D := D) (ci := 1) (C := RM) (T := FM) (N := 15) (v := .int (nI yr)) hx hb hw inM hown hK hP 0 rfl rfl 8 (by decide) (hw _ kF_M_43) (fun _ h9 => h9) rfl d_M_block_169 ?_
                      refine lv_iconst (v := nI 1) hx hb d_M_block_172 (by decide) ?_
                      refine nw_add hx hb d_M_block_173 ?_
                      refine va_put (D := D) (ci := 1) (C := RM) (T := FM) (N := 15) (v := .int (nI (yr + 1))) (ty := .int) hx hb hw inM tM tM_ok nM hown hK hP hD hS 0 rfl rfl 8 (by decide) (hw _ kF_M_43) (fun _ h9 => h9) rfl (by decide +kernel) rfl rfl (Nat.le_of_ble_eq_true rfl) d_M_block_174 (fun H locs hP hD hS => ?_)
                      have hP : va_P D cls2 (wM u cI cZ gS (va_up gK yr x.toNatClampNeg) (va_up gI yr y.toNatClampNeg) (va_up gO yr v.toNatClampNeg) (va_up gF yr ((tA (gF (yr - 1)) (gE (yr - 1)) gS 6 y.toNatClampNeg (yn, yc, 0)).1)) (va_up gE yr 0) (cpn gQ gS yn) 0 ((tA (gF (yr - 1)) (gE (yr - 1)) gS 6 y.toNatClampNeg (yn, yc, 0)).1) (yr + 1) ym yd yn ((tA (gF (yr - 1)) (gE (yr - 1)) gS 6 y.toNatClampNeg (yn, yc, 0)).2.2) ((tA (gF (yr - 1)) (gE (yr - 1)) gS 6 y.toNatClampNeg (yn, yc, 0)).2.1)) H := hP
                      have hD : va_D (va_A (wM u cI cZ gS gK gI gO gF gE gQ yt yn yr ym yd yk yb yc) s.heap.size) (wM u cI cZ gS (va_up gK yr x.toNatClampNeg) (va_up gI yr y.toNatClampNeg) (va_up gO yr v.toNatClampNeg) (va_up gF yr ((tA (gF (yr - 1)) (gE (yr - 1)) gS 6 y.toNatClampNeg (yn, yc, 0)).1)) (va_up gE yr 0) (cpn gQ gS yn) 0 ((tA (gF (yr - 1)) (gE (yr - 1)) gS 6 y.toNatClampNeg (yn, yc, 0)).1) (yr + 1) ym yd yn ((tA (gF (yr - 1)) (gE (yr - 1)) gS 6 y.toNatClampNeg (yn, yc, 0)).2.2) ((tA (gF (yr - 1)) (gE (yr - 1)) gS 6 y.toNatClampNeg (yn, yc, 0)).2.1)) := hD
                      refine lv_aload_n hx hb d_M_block_177 rfl (lv_at hl 0 rfl) ?_
                      refine lv_iload_n hx hb d_M_block_178 rfl (lv_at hl 2 rfl) ?_
                      refine nw_is (y := nI y.toNatClampNeg) (xl_eq e14) ?_
                      refine cl_w (v := none) hD hS hA (W.runV (b := u 0) (C := "TypeStackModel") (As := [.int (nI y.toNatClampNeg)]) (rest := []) ⟨hx, hb, hml, hown, hw⟩ (c_M_putAll l D u cI cZ gS (va_up gK yr x.toNatClampNeg) (va_up gI yr y.toNatClampNeg) (va_up gO yr v.toNatClampNeg) (va_up gF yr ((tA (gF (yr - 1)) (gE (yr - 1)) gS 6 y.toNatClampNeg (yn, yc, 0)).1)) (va_up gE yr 0) (cpn gQ gS yn) 0 ((tA (gF (yr - 1)) (gE (yr - 1)) gS 6 y.toNatClampNeg (yn, yc, 0)).1) (yr + 1) ym yd yn ((tA (gF (yr - 1)) (gE (yr - 1)) gS 6 y.toNatClampNeg (yn, yc, 0)).2.2) ((tA (gF (yr - 1)) (gE (yr - 1)) gS 6 y.toNatClampNeg (yn, yc, 0)).2.1) y.toNatClampNeg (by omega) (by omega) H.size) (cwV 1 hw g_M_94 rfl rfl rfl ⟨rfl, by decide, by decide, by decide +kernel⟩ ⟨by decide, by decide⟩) ⟨PW.blind, va_recv (q := (RM, FM, 15)) (ci := 1) (q0 := 0) hK hP rfl rfl, PW.pre hP hK hD hS hA hE⟩ rfl rfl hl.1 rfl (lv_room (Nat.le_of_ble_eq_true rfl)) d_M_block_179 ⟨by decide, by decide⟩) (fun H locs hP hD hS => ?_)
                      have hP : va_P D cls2 (wM u cI cZ (pl gS ((tA (gF (yr - 1)) (gE (yr - 1)) gS 6 y.toNatClampNeg (yn, yc, 0)).1) (szL 6 y.toNatClampNeg) y.toNatClampNeg) (va_up gK yr x.toNatClampNeg) (va_up gI yr y.toNatClampNeg) (va_up gO yr v.toNatClampNeg) (va_up gF yr ((tA (gF (yr - 1)) (gE (yr - 1)) gS 6 y.toNatClampNeg (yn, yc, 0)).1)) (va_up gE yr 0) (cpn gQ gS yn) 0 (((tA (gF (yr - 1)) (gE (yr - 1)) gS 6 y.toNatClampNeg (yn, yc, 0)).1) + szL 6 y.toNatClampNeg) (yr + 1) ym yd yn ((tA (gF (yr - 1)) (gE (yr - 1)) gS 6 y.toNatClampNeg (yn, yc, 0)).2.2) ((tA (gF (yr - 1)) (gE (yr - 1)) gS 6 y.toNatClampNeg (yn, yc, 0)).2.1)) H := hP
                      have hD : va_D (va_A (wM u cI cZ gS gK gI gO gF gE gQ yt yn yr ym yd yk yb yc) s.heap.size) (wM u cI cZ (pl gS ((tA (gF (yr - 1)) (gE (yr - 1)) gS 6 y.toNatClampNeg (yn, yc, 0)).1) (szL 6 y.toNatClampNeg) y.toNatClampNeg) (va_up gK yr x.toNatClampNeg) (va_up gI yr y.toNatClampNeg) (va_up gO yr v.toNatClampNeg) (va_up gF yr ((tA (gF (yr - 1)) (gE (yr - 1)) gS 6 y.toNatClampNeg (yn, yc, 0)).1)) (va_up gE yr 0) (cpn gQ gS yn) 0 (((tA (gF (yr - 1)) (gE (yr - 1)) gS 6 y.toNatClampNeg (yn, yc, 0)).1) + szL 6 y.toNatClampNeg) (yr + 1) ym yd yn ((tA (gF (yr - 1)) (gE (yr - 1)) gS 6 y.toNatClampNeg (yn, yc, 0)).2.2) ((tA (gF (yr - 1)) (gE (yr - 1)) gS 6 y.toNatClampNeg (yn, yc, 0)).2.1)) := hD
                      refine lv_aload_n hx hb d_M_block_182 rfl (lv_at hl 0 rfl) ?_
                      refine cl_w (v := none) hD hS hA (W.runV (b := u 0) (C := "TypeStackModel") (As := []) (rest := []) ⟨hx, hb, hml, hown, hw⟩ (c_M_well l D u cI cZ (pl gS ((tA (gF (yr - 1)) (gE (yr - 1)) gS 6 y.toNatClampNeg (yn, yc, 0)).1) (szL 6 y.toNatClampNeg) y.toNatClampNeg) (va_up gK yr x.toNatClampNeg) (va_up gI yr y.toNatClampNeg) (va_up gO yr v.toNatClampNeg) (va_up gF yr ((tA (gF (yr - 1)) (gE (yr - 1)) gS 6 y.toNatClampNeg (yn, yc, 0)).1)) (va_up gE yr 0) (cpn gQ gS yn) 0 (((tA (gF (yr - 1)) (gE (yr - 1)) gS 6 y.toNatClampNeg (yn, yc, 0)).1) + szL 6 y.toNatClampNeg) (yr + 1) ym yd yn ((tA (gF (yr - 1)) (gE (yr - 1)) gS 6 y.toNatClampNeg (yn, yc, 0)).2.2) ((tA (gF (yr - 1)) (gE (yr - 1)) gS 6 y.toNatClampNeg (yn, yc, 0)).2.1) (by omega) (by omega) H.size) (cwV 0 hw g_M_97 rfl rfl rfl ⟨rfl, by decide, by decide, by decide +kernel⟩ ⟨by decide, by decide⟩) ⟨PW.blind, va_recv (q := (RM, FM, 15)) (ci := 1) (q0 := 0) hK hP rfl rfl, PW.pre hP hK hD hS hA hE⟩ rfl rfl hl.1 rfl (lv_room (Nat.le_of_ble_eq_true rfl)) d_M_block_183 ⟨by decide, by decide⟩) (fun H locs hP hD hS => ?_)
                      have hP : va_P D cls2 (wM u cI cZ (pl gS ((tA (gF (yr - 1)) (gE (yr - 1)) gS 6 y.toNatClampNeg (yn, yc, 0)).1) (szL 6 y.toNatClampNeg) y.toNatClampNeg) (va_up gK yr x.toNatClampNeg) (va_up gI yr y.toNatClampNeg) (va_up gO yr v.toNatClampNeg) (va_up gF yr ((tA (gF (yr - 1)) (gE (yr - 1)) gS 6 y.toNatClampNeg (yn, yc, 0)).1)) (va_up gE yr 0) (cpn gQ gS yn) 0 (((tA (gF (yr - 1)) (gE (yr - 1)) gS 6 y.toNatClampNeg (yn, yc, 0)).1) + szL 6 y.toNatClampNeg) (yr + 1) (max ym (((tA (gF (yr - 1)) (gE (yr - 1)) gS 6 y.toNatClampNeg (yn, yc, 0)).1) + szL 6 y.toNatClampNeg)) (yd + 1) yn ((tA (gF (yr - 1)) (gE (yr - 1)) gS 6 y.toNatClampNeg (yn, yc, 0)).2.2) ((tA (gF (yr - 1)) (gE (yr - 1)) gS 6 y.toNatClampNeg (yn, yc, 0)).2.1)) H := hP
                      have hD : va_D (va_A (wM u cI cZ gS gK gI gO gF gE gQ yt yn yr ym yd yk yb yc) s.heap.size) (wM u cI cZ (pl gS ((tA (gF (yr - 1)) (gE (yr - 1)) gS 6 y.toNatClampNeg (yn, yc, 0)).1) (szL 6 y.toNatClampNeg) y.toNatClampNeg) (va_up gK yr x.toNatClampNeg) (va_up gI yr y.toNatClampNeg) (va_up gO yr v.toNatClampNeg) (va_up gF yr ((tA (gF (yr - 1)) (gE (yr - 1)) gS 6 y.toNatClampNeg (yn, yc, 0)).1)) (va_up gE yr 0) (cpn gQ gS yn) 0 (((tA (gF (yr - 1)) (gE (yr - 1)) gS 6 y.toNatClampNeg (yn, yc, 0)).1) + szL 6 y.toNatClampNeg) (yr + 1) (max ym (((tA (gF (yr - 1)) (gE (yr - 1)) gS 6 y.toNatClampNeg (yn, yc, 0)).1) + szL 6 y.toNatClampNeg)) (yd + 1) yn ((tA (gF (yr - 1)) (gE (yr - 1)) gS 6 y.toNatClampNeg (yn, yc, 0)).2.2) ((tA (gF (yr - 1)) (gE (yr - 1)) gS 6 y.toNatClampNeg (yn, yc, 0)).2.1)) := hD
                      refine lv_aload_n hx hb d_M_block_186 rfl (lv_at hl 0 rfl) ?_
                      refine va_get (D := D) (ci := 1) (C := RM) (T := FM) (N := 15) (v := .int (nI (yr + 1))) hx hb hw inM hown hK hP 0 rfl rfl 8 (by decide) (hw _ kF_M_43) (fun _ h9 => h9) rfl d_M_block_187 ?_
                      have her : orE (xk x) (orE (xl y) (orE (xl v) (orE (nf yr) (orE (xo ISE (bel x (gF (yr - 1)) (gE (yr - 1)) gS yn)) (orE (xo ISE (hbL (gF (yr - 1)) (gE (yr - 1)) gS 6 (bl x (gF (yr - 1)) (gE (yr - 1)) gS yn) y.toNatClampNeg)) (orE (rmE ((hbL (gF (yr - 1)) (gE (yr - 1)) gS 6 (bl x (gF (yr - 1)) (gE (yr - 1)) gS yn) y.toNatClampNeg).getD 0 + szL 6 y.toNatClampNeg)) (f40 yr))))))) = none := by rw [ek, e14, e21, ef, e1, p1, e2, p2, rm_ok h105, f40_ok h90 gir] <;> rfl
                      exact W.iret hx hb hrt (fun t ht9 _ => ⟨⟨pl gS ((tA (gF (yr - 1)) (gE (yr - 1)) gS 6 y.toNatClampNeg (yn, yc, 0)).1) (szL 6 y.toNatClampNeg) y.toNatClampNeg, va_up gK yr x.toNatClampNeg, va_up gI yr y.toNatClampNeg, va_up gO yr v.toNatClampNeg, va_up gF yr ((tA (gF (yr - 1)) (gE (yr - 1)) gS 6 y.toNatClampNeg (yn, yc, 0)).1), va_up gE yr 0, cpn gQ gS yn, 0, ((tA (gF (yr - 1)) (gE (yr - 1)) gS 6 y.toNatClampNeg (yn, yc, 0)).1) + szL 6 y.toNatClampNeg, yr + 1, max ym (((tA (gF (yr - 1)) (gE (yr - 1)) gS 6 y.toNatClampNeg (yn, yc, 0)).1) + szL 6 y.toNatClampNeg), yd + 1, yn, (tA (gF (yr - 1)) (gE (yr - 1)) gS 6 y.toNatClampNeg (yn, yc, 0)).2.2, (tA (gF (yr - 1)) (gE (yr - 1)) gS 6 y.toNatClampNeg (yn, yc, 0)).2.1, some (.int (nI (yr + 1))), rfl, ⟨fun _ => ⟨rfl, rfl, by rw [p1, p2]; exact rel_rf⟩, fun E he => by rw [her] at he; cases he⟩, ⟨pl_lt giS, im_upl giK (xk_lt ek), im_upl giI hjy, im_upl giO hjv, im_up giF (by omega), im_up giE (by decide), by omega, by omega, by omega⟩, by rw [ht9]; exact hP, hD⟩, hS.F ht9⟩) hS.2.2 d_M_block_190
                    · skip
                      refine lv_aload_n hx hb d_M_block_108 rfl (lv_at hl 0 rfl) ?_
                      refine lv_iconst (v := nI 4) hx hb d_M_block_109 (by decide) ?_
                      refine cl_w (v := some (.int (nI 0))) hD hS hA (W.runV (b := u 0) (C := "TypeStackModel") (As := [.int (nI 4)]) (rest := []) ⟨hx, hb, hml, hown, hw⟩ (c_M_undo l D u cI cZ gS gK gI gO gF gE (cpn gQ gS yn) 0 ((tA (gF (yr - 1)) (gE (yr - 1)) gS 6 y.toNatClampNeg (yn, yc, 0)).1) yr ym yd yn ((tA (gF (yr - 1)) (gE (yr - 1)) gS 6 y.toNatClampNeg (yn, yc, 0)).2.2) ((tA (gF (yr - 1)) (gE (yr - 1)) gS 6 y.toNatClampNeg (yn, yc, 0)).2.1) 4 (by omega) H.size) (cwV 1 hw g_M_90 rfl rfl rfl ⟨rfl, by decide, by decide, by decide +kernel⟩ ⟨by decide, by decide⟩) ⟨PW.blind, va_recv (q := (RM, FM, 15)) (ci := 1) (q0 := 0) hK hP rfl rfl, PW.pre hP hK hD hS hA hE⟩ rfl rfl hl.1 rfl (lv_room (Nat.le_of_ble_eq_true rfl)) d_M_block_110 ⟨by decide, by decide⟩) (fun H locs hP hD hS => ?_)
                      have hP : va_P D cls2 (wM u cI cZ (cpn gS (cpn gQ gS yn) yn) gK gI gO gF gE (cpn gQ gS yn) 4 yn yr ym yd yn ((tA (gF (yr - 1)) (gE (yr - 1)) gS 6 y.toNatClampNeg (yn, yc, 0)).2.2) ((tA (gF (yr - 1)) (gE (yr - 1)) gS 6 y.toNatClampNeg (yn, yc, 0)).2.1)) H := hP
                      have hD : va_D (va_A (wM u cI cZ gS gK gI gO gF gE gQ yt yn yr ym yd yk yb yc) s.heap.size) (wM u cI cZ (cpn gS (cpn gQ gS yn) yn) gK gI gO gF gE (cpn gQ gS yn) 4 yn yr ym yd yn ((tA (gF (yr - 1)) (gE (yr - 1)) gS 6 y.toNatClampNeg (yn, yc, 0)).2.2) ((tA (gF (yr - 1)) (gE (yr - 1)) gS 6 y.toNatClampNeg (yn, yc, 0)).2.1)) := hD
                      have her : orE (xk x) (orE (xl y) (orE (xl v) (orE (nf yr) (orE (xo ISE (bel x (gF (yr - 1)) (gE (yr - 1)) gS yn)) (orE (xo ISE (hbL (gF (yr - 1)) (gE (yr - 1)) gS 6 (bl x (gF (yr - 1)) (gE (yr - 1)) gS yn) y.toNatClampNeg)) (orE (rmE ((hbL (gF (yr - 1)) (gE (yr - 1)) gS 6 (bl x (gF (yr - 1)) (gE (yr - 1)) gS yn) y.toNatClampNeg).getD 0 + szL 6 y.toNatClampNeg)) (f40 yr))))))) = some AE := by rw [ek, e14, e21, ef, e1, p1, e2, p2, rm_no h105] <;> rfl
                      exact W.iret hx hb hrt (fun t ht9 _ => ⟨⟨cpn gS (cpn gQ gS yn) yn, gK, gI, gO, gF, gE, cpn gQ gS yn, 4, yn, yr, ym, yd, yn, (tA (gF (yr - 1)) (gE (yr - 1)) gS 6 y.toNatClampNeg (yn, yc, 0)).2.2, (tA (gF (yr - 1)) (gE (yr - 1)) gS 6 y.toNatClampNeg (yn, yc, 0)).2.1, some (.int (nI 0)), rfl, ⟨fun he => (by rw [her] at he; cases he), fun E he => by rw [her] at he; cases he; exact ⟨by decide +kernel, rfl, rel_undo⟩⟩, im_undo hi giS, by rw [ht9]; exact hP, hD⟩, hS.F ht9⟩) hS.2.2 d_M_block_113
                · skip
                  have es : ∀ r, orE (xo ISE (bel x (gF (yr - 1)) (gE (yr - 1)) gS yn)) (orE (xo ISE (hbL (gF (yr - 1)) (gE (yr - 1)) gS 6 (bl x (gF (yr - 1)) (gE (yr - 1)) gS yn) y.toNatClampNeg)) r) = some ISE := fun r => by rw [bel_ne h58, bl_ne h58, tA_no h75]; rfl
                  refine lv_aload_n hx hb d_M_block_78 rfl (lv_at hl 0 rfl) ?_
                  refine lv_iconst (v := nI 3) hx hb d_M_block_79 (by decide) ?_
                  refine cl_w (v := some (.int (nI 0))) hD hS hA (W.runV (b := u 0) (C := "TypeStackModel") (As := [.int (nI 3)]) (rest := []) ⟨hx, hb, hml, hown, hw⟩ (c_M_undo l D u cI cZ gS gK gI gO gF gE (cpn gQ gS yn) 0 ((tA (gF (yr - 1)) (gE (yr - 1)) gS 6 y.toNatClampNeg (yn, yc, 0)).1) yr ym yd yn ((tA (gF (yr - 1)) (gE (yr - 1)) gS 6 y.toNatClampNeg (yn, yc, 0)).2.2) ((tA (gF (yr - 1)) (gE (yr - 1)) gS 6 y.toNatClampNeg (yn, yc, 0)).2.1) 3 (by omega) H.size) (cwV 1 hw g_M_90 rfl rfl rfl ⟨rfl, by decide, by decide, by decide +kernel⟩ ⟨by decide, by decide⟩) ⟨PW.blind, va_recv (q := (RM, FM, 15)) (ci := 1) (q0 := 0) hK hP rfl rfl, PW.pre hP hK hD hS hA hE⟩ rfl rfl hl.1 rfl (lv_room (Nat.le_of_ble_eq_true rfl)) d_M_block_80 ⟨by decide, by decide⟩) (fun H locs hP hD hS => ?_)
                  have hP : va_P D cls2 (wM u cI cZ (cpn gS (cpn gQ gS yn) yn) gK gI gO gF gE (cpn gQ gS yn) 3 yn yr ym yd yn ((tA (gF (yr - 1)) (gE (yr - 1)) gS 6 y.toNatClampNeg (yn, yc, 0)).2.2) ((tA (gF (yr - 1)) (gE (yr - 1)) gS 6 y.toNatClampNeg (yn, yc, 0)).2.1)) H := hP
                  have hD : va_D (va_A (wM u cI cZ gS gK gI gO gF gE gQ yt yn yr ym yd yk yb yc) s.heap.size) (wM u cI cZ (cpn gS (cpn gQ gS yn) yn) gK gI gO gF gE (cpn gQ gS yn) 3 yn yr ym yd yn ((tA (gF (yr - 1)) (gE (yr - 1)) gS 6 y.toNatClampNeg (yn, yc, 0)).2.2) ((tA (gF (yr - 1)) (gE (yr - 1)) gS 6 y.toNatClampNeg (yn, yc, 0)).2.1)) := hD
                  have her : orE (xk x) (orE (xl y) (orE (xl v) (orE (nf yr) (orE (xo ISE (bel x (gF (yr - 1)) (gE (yr - 1)) gS yn)) (orE (xo ISE (hbL (gF (yr - 1)) (gE (yr - 1)) gS 6 (bl x (gF (yr - 1)) (gE (yr - 1)) gS yn) y.toNatClampNeg)) (orE (rmE ((hbL (gF (yr - 1)) (gE (yr - 1)) gS 6 (bl x (gF (yr - 1)) (gE (yr - 1)) gS yn) y.toNatClampNeg).getD 0 + szL 6 y.toNatClampNeg)) (f40 yr))))))) = some ISE := by rw [ek, e14, e21, ef]; exact es _
                  exact W.iret hx hb hrt (fun t ht9 _ => ⟨⟨cpn gS (cpn gQ gS yn) yn, gK, gI, gO, gF, gE, cpn gQ gS yn, 3, yn, yr, ym, yd, yn, (tA (gF (yr - 1)) (gE (yr - 1)) gS 6 y.toNatClampNeg (yn, yc, 0)).2.2, (tA (gF (yr - 1)) (gE (yr - 1)) gS 6 y.toNatClampNeg (yn, yc, 0)).2.1, some (.int (nI 0)), rfl, ⟨fun he => (by rw [her] at he; cases he), fun E he => by rw [her] at he; cases he; exact ⟨by decide +kernel, rfl, rel_undo⟩⟩, im_undo hi giS, by rw [ht9]; exact hP, hD⟩, hS.F ht9⟩) hS.2.2 d_M_block_83
              · skip
                refine lv_aload_n hx hb d_M_block_61 rfl (lv_at hl 0 rfl) ?_
                refine lv_iconst (v := nI 1) hx hb d_M_block_62 (by decide) ?_
                refine cl_w (v := none) hD hS hA (W.runV (b := u 0) (C := "TypeStackModel") (As := [.int (nI 1)]) (rest := []) ⟨hx, hb, hml, hown, hw⟩ (c_M_take1 l D u cI cZ gS gK gI gO gF gE (cpn gQ gS yn) 0 yn yr ym yd yn 0 yc 1 (by omega) (by omega) (by omega) (by omega) giF giE giS H.size) (cwV 1 hw g_M_75 rfl rfl rfl ⟨rfl, by decide, by decide, by decide +kernel⟩ ⟨by decide, by decide⟩) ⟨PW.blind, va_recv (q := (RM, FM, 15)) (ci := 1) (q0 := 0) hK hP rfl rfl, PW.pre hP hK hD hS hA hE⟩ rfl rfl hl.1 rfl (lv_room (Nat.le_of_ble_eq_true rfl)) d_M_block_63 ⟨by decide, by decide⟩) (fun H locs hP hD hS => ?_)
                have hP : va_P D cls2 (wM u cI cZ gS gK gI gO gF gE (cpn gQ gS yn) 0 (tkn (gF (yr - 1)) yn) yr ym yd yn (tkc (tk1 (gF (yr - 1)) yn gS) 1 (tkb (gF (yr - 1)) (gE (yr - 1)) yn 0)) (tk1 (gF (yr - 1)) yn gS)) H := hP
                have hD : va_D (va_A (wM u cI cZ gS gK gI gO gF gE gQ yt yn yr ym yd yk yb yc) s.heap.size) (wM u cI cZ gS gK gI gO gF gE (cpn gQ gS yn) 0 (tkn (gF (yr - 1)) yn) yr ym yd yn (tkc (tk1 (gF (yr - 1)) yn gS) 1 (tkb (gF (yr - 1)) (gE (yr - 1)) yn 0)) (tk1 (gF (yr - 1)) yn gS)) := hD
                have hn1 := tkn_le (gF (yr - 1)) yn
                have hb1 : tkc (tk1 (gF (yr - 1)) yn gS) 1 (tkb (gF (yr - 1)) (gE (yr - 1)) yn 0) ≤ 1 := tkc_le (tkb_le (Nat.zero_le 1))
                refine lv_aload_n hx hb d_M_block_66 rfl (lv_at hl 0 rfl) ?_
                refine lv_iload_n hx hb d_M_block_67 rfl (lv_at hl 2 rfl) ?_
                refine nw_is (y := nI y.toNatClampNeg) (xl_eq e14) ?_
                refine cl_w (v := none) hD hS hA (W.runV (b := u 0) (C := "TypeStackModel") (As := [.int (nI y.toNatClampNeg)]) (rest := []) ⟨hx, hb, hml, hown, hw⟩ (c_M_takeAll l D u cI cZ gS gK gI gO gF gE (cpn gQ gS yn) 0 (tkn (gF (yr - 1)) yn) yr ym yd yn (tkc (tk1 (gF (yr - 1)) yn gS) 1 (tkb (gF (yr - 1)) (gE (yr - 1)) yn 0)) (tk1 (gF (yr - 1)) yn gS) y.toNatClampNeg (by omega) (by omega) (by omega) (by omega) giF giE giS H.size) (cwV 1 hw g_M_87 rfl rfl rfl ⟨rfl, by decide, by decide, by decide +kernel⟩ ⟨by decide, by decide⟩) ⟨PW.blind, va_recv (q := (RM, FM, 15)) (ci := 1) (q0 := 0) hK hP rfl rfl, PW.pre hP hK hD hS hA hE⟩ rfl rfl hl.1 rfl (lv_room (Nat.le_of_ble_eq_true rfl)) d_M_block_68 ⟨by decide, by decide⟩) (fun H locs hP hD hS => ?_)
                have hP : va_P D cls2 (wM u cI cZ gS gK gI gO gF gE (cpn gQ gS yn) 0 ((tA (gF (yr - 1)) (gE (yr - 1)) gS 6 y.toNatClampNeg (tkn (gF (yr - 1)) yn, tk1 (gF (yr - 1)) yn gS, tkc (tk1 (gF (yr - 1)) yn gS) 1 (tkb (gF (yr - 1)) (gE (yr - 1)) yn 0))).1) yr ym yd yn ((tA (gF (yr - 1)) (gE (yr - 1)) gS 6 y.toNatClampNeg (tkn (gF (yr - 1)) yn, tk1 (gF (yr - 1)) yn gS, tkc (tk1 (gF (yr - 1)) yn gS) 1 (tkb (gF (yr - 1)) (gE (yr - 1)) yn 0))).2.2) ((tA (gF (yr - 1)) (gE (yr - 1)) gS 6 y.toNatClampNeg (tkn (gF (yr - 1)) yn, tk1 (gF (yr - 1)) yn gS, tkc (tk1 (gF (yr - 1)) yn gS) 1 (tkb (gF (yr - 1)) (gE (yr - 1)) yn 0))).2.1)) H := hP
                have hD : va_D (va_A (wM u cI cZ gS gK gI gO gF gE gQ yt yn yr ym yd yk yb yc) s.heap.size) (wM u cI cZ gS gK gI gO gF gE (cpn gQ gS yn) 0 ((tA (gF (yr - 1)) (gE (yr - 1)) gS 6 y.toNatClampNeg (tkn (gF (yr - 1)) yn, tk1 (gF (yr - 1)) yn gS, tkc (tk1 (gF (yr - 1)) yn gS) 1 (tkb (gF (yr - 1)) (gE (yr - 1)) yn 0))).1) yr ym yd yn ((tA (gF (yr - 1)) (gE (yr - 1)) gS 6 y.toNatClampNeg (tkn (gF (yr - 1)) yn, tk1 (gF (yr - 1)) yn gS, tkc (tk1 (gF (yr - 1)) yn gS) 1 (tkb (gF (yr - 1)) (gE (yr - 1)) yn 0))).2.2) ((tA (gF (yr - 1)) (gE (yr - 1)) gS 6 y.toNatClampNeg (tkn (gF (yr - 1)) yn, tk1 (gF (yr - 1)) yn gS, tkc (tk1 (gF (yr - 1)) yn gS) 1 (tkb (gF (yr - 1)) (gE (yr - 1)) yn 0))).2.1)) := hD
                have hta := tA_le (gF (yr - 1)) (gE (yr - 1)) gS 6 y.toNatClampNeg (tkn (gF (yr - 1)) yn) (tk1 (gF (yr - 1)) yn gS) (tkc (tk1 (gF (yr - 1)) yn gS) 1 (tkb (gF (yr - 1)) (gE (yr - 1)) yn 0)) hb1
                refine lv_aload_n hx hb d_M_block_71 rfl (lv_at hl 0 rfl) ?_
                refine va_get (D := D) (ci := 1) (C := RM) (T := FM) (N := 15) (v := .int (nI ((tA (gF (yr - 1)) (gE (yr - 1)) gS 6 y.toNatClampNeg (tkn (gF (yr - 1)) yn, tk1 (gF (yr - 1)) yn gS, tkc (tk1 (gF (yr - 1)) yn gS) 1 (tkb (gF (yr - 1)) (gE (yr - 1)) yn 0))).2.2))) hx hb hw inM hown hK hP 0 rfl rfl 13 (by decide) (hw _ kF_M_55) (fun _ h9 => h9) rfl d_M_block_72 ?_
                refine nw_ifeq hx hb (tgt := 84) d_M_block_75 (by decide) (by omega) (fun h75 => ?_) (fun h75 => ?_)
                · skip
                  obtain ⟨⟨e1, p1⟩, e2, p2⟩ := ta1_ok h75
                  rw [← bel_eq (x := x) h58] at e1
                  rw [← bl_eq (x := x) h58] at p1
                  refine lv_aload_n hx hb d_M_block_84 rfl (lv_at hl 0 rfl) ?_
                  refine va_get (D := D) (ci := 1) (C := RM) (T := FM) (N := 15) (v := .int (nI yr)) hx hb hw inM hown hK hP 0 rfl rfl 8 (by decide) (hw _ kF_M_43) (fun _ h9 => h9) rfl d_M_block_85 ?_
                  refine lv_bipush (v := nI 40) hx hb d_M_block_88 (by decide) ?_
                  refine nw_eq hx hb (tgt := 108) d_M_block_90 (by decide) (by omega) (by omega) (fun h90 => ?_) (fun h90 => ?_)
                  · skip
                    refine lv_aload_n hx hb d_M_block_108 rfl (lv_at hl 0 rfl) ?_
                    refine lv_iconst (v := nI 4) hx hb d_M_block_109 (by decide) ?_
                    refine cl_w (v := some (.int (nI 0))) hD hS hA (W.runV (b := u 0) (C := "TypeStackModel") (As := [.int (nI 4)]) (rest := []) ⟨hx, hb, hml, hown, hw⟩ (c_M_undo l D u cI cZ gS gK gI gO gF gE (cpn gQ gS yn) 0 ((tA (gF (yr - 1)) (gE (yr - 1)) gS 6 y.toNatClampNeg (tkn (gF (yr - 1)) yn, tk1 (gF (yr - 1)) yn gS, tkc (tk1 (gF (yr - 1)) yn gS) 1 (tkb (gF (yr - 1)) (gE (yr - 1)) yn 0))).1) yr ym yd yn ((tA (gF (yr - 1)) (gE (yr - 1)) gS 6 y.toNatClampNeg (tkn (gF (yr - 1)) yn, tk1 (gF (yr - 1)) yn gS, tkc (tk1 (gF (yr - 1)) yn gS) 1 (tkb (gF (yr - 1)) (gE (yr - 1)) yn 0))).2.2) ((tA (gF (yr - 1)) (gE (yr - 1)) gS 6 y.toNatClampNeg (tkn (gF (yr - 1)) yn, tk1 (gF (yr - 1)) yn gS, tkc (tk1 (gF (yr - 1)) yn gS) 1 (tkb (gF (yr - 1)) (gE (yr - 1)) yn 0))).2.1) 4 (by omega) H.size) (cwV 1 hw g_M_90 rfl rfl rfl ⟨rfl, by decide, by decide, by decide +kernel⟩ ⟨by decide, by decide⟩) ⟨PW.blind, va_recv (q := (RM, FM, 15)) (ci := 1) (q0 := 0) hK hP rfl rfl, PW.pre hP hK hD hS hA hE⟩ rfl rfl hl.1 rfl (lv_room (Nat.le_of_ble_eq_true rfl)) d_M_block_110 ⟨by decide, by decide⟩) (fun H locs hP hD hS => ?_)
                    have hP : va_P D cls2 (wM u cI cZ (cpn gS (cpn gQ gS yn) yn) gK gI gO gF gE (cpn gQ gS yn) 4 yn yr ym yd yn ((tA (gF (yr - 1)) (gE (yr - 1)) gS 6 y.toNatClampNeg (tkn (gF (yr - 1)) yn, tk1 (gF (yr - 1)) yn gS, tkc (tk1 (gF (yr - 1)) yn gS) 1 (tkb (gF (yr - 1)) (gE (yr - 1)) yn 0))).2.2) ((tA (gF (yr - 1)) (gE (yr - 1)) gS 6 y.toNatClampNeg (tkn (gF (yr - 1)) yn, tk1 (gF (yr - 1)) yn gS, tkc (tk1 (gF (yr - 1)) yn gS) 1 (tkb (gF (yr - 1)) (gE (yr - 1)) yn 0))).2.1)) H := hP
                    have hD : va_D (va_A (wM u cI cZ gS gK gI gO gF gE gQ yt yn yr ym yd yk yb yc) s.heap.size) (wM u cI cZ (cpn gS (cpn gQ gS yn) yn) gK gI gO gF gE (cpn gQ gS yn) 4 yn yr ym yd yn ((tA (gF (yr - 1)) (gE (yr - 1)) gS 6 y.toNatClampNeg (tkn (gF (yr - 1)) yn, tk1 (gF (yr - 1)) yn gS, tkc (tk1 (gF (yr - 1)) yn gS) 1 (tkb (gF (yr - 1)) (gE (yr - 1)) yn 0))).2.2) ((tA (gF (yr - 1)) (gE (yr - 1)) gS 6 y.toNatClampNeg (tkn (gF (yr - 1)) yn, tk1 (gF (yr - 1)) yn gS, tkc (tk1 (gF (yr - 1)) yn gS) 1 (tkb (gF (yr - 1)) (gE (yr - 1)) yn 0))).2.1)) := hD
                    have her : orE (xk x) (orE (xl y) (orE (xl v) (orE (nf yr) (orE (xo ISE (bel x (gF (yr - 1)) (gE (yr - 1)) gS yn)) (orE (xo ISE (hbL (gF (yr - 1)) (gE (yr - 1)) gS 6 (bl x (gF (yr - 1)) (gE (yr - 1)) gS yn) y.toNatClampNeg)) (orE (rmE ((hbL (gF (yr - 1)) (gE (yr - 1)) gS 6 (bl x (gF (yr - 1)) (gE (yr - 1)) gS yn) y.toNatClampNeg).getD 0 + szL 6 y.toNatClampNeg)) (f40 yr))))))) = some AE := by rw [ek, e14, e21, ef, e1, p1, e2, p2]; exact rm40 h90
                    exact W.iret hx hb hrt (fun t ht9 _ => ⟨⟨cpn gS (cpn gQ gS yn) yn, gK, gI, gO, gF, gE, cpn gQ gS yn, 4, yn, yr, ym, yd, yn, (tA (gF (yr - 1)) (gE (yr - 1)) gS 6 y.toNatClampNeg (tkn (gF (yr - 1)) yn, tk1 (gF (yr - 1)) yn gS, tkc (tk1 (gF (yr - 1)) yn gS) 1 (tkb (gF (yr - 1)) (gE (yr - 1)) yn 0))).2.2, (tA (gF (yr - 1)) (gE (yr - 1)) gS 6 y.toNatClampNeg (tkn (gF (yr - 1)) yn, tk1 (gF (yr - 1)) yn gS, tkc (tk1 (gF (yr - 1)) yn gS) 1 (tkb (gF (yr - 1)) (gE (yr - 1)) yn 0))).2.1, some (.int (nI 0)), rfl, ⟨fun he => (by rw [her] at he; cases he), fun E he => by rw [her] at he; cases he; exact ⟨by decide +kernel, rfl, rel_undo⟩⟩, im_undo hi giS, by rw [ht9]; exact hP, hD⟩, hS.F ht9⟩) hS.2.2 d_M_block_113
                  · skip
                    refine lv_aload_n hx hb d_M_block_93 rfl (lv_at hl 0 rfl) ?_
                    refine va_get (D := D) (ci := 1) (C := RM) (T := FM) (N := 15) (v := .int (nI ((tA (gF (yr - 1)) (gE (yr - 1)) gS 6 y.toNatClampNeg (tkn (gF (yr - 1)) yn, tk1 (gF (yr - 1)) yn gS, tkc (tk1 (gF (yr - 1)) yn gS) 1 (tkb (gF (yr - 1)) (gE (yr - 1)) yn 0))).1))) hx hb hw inM hown hK hP 0 rfl rfl 7 (by decide) (hw _ kF_M_40) (fun _ h9 => h9) rfl d_M_block_94 ?_
                    refine lv_iload_n hx hb d_M_block_97 rfl (lv_at hl 2 rfl) ?_
                    refine nw_is (y := nI y.toNatClampNeg) (xl_eq e14) ?_
                    refine cl_r (v := some (.int (nI (szL 6 y.toNatClampNeg)))) (W.runS (As := [.int (nI y.toNatClampNeg)]) (rest := [.int (nI ((tA (gF (yr - 1)) (gE (yr - 1)) gS 6 y.toNatClampNeg (tkn (gF (yr - 1)) yn, tk1 (gF (yr - 1)) yn gS, tkc (tk1 (gF (yr - 1)) yn gS) 1 (tkb (gF (yr - 1)) (gE (yr - 1)) yn 0))).1))]) ⟨hx, hb, hml, hown, hw⟩ (c_M_length l D y.toNatClampNeg (by omega) H.size) (va_cwS 1 hw g_M_100 rfl rfl rfl ⟨by decide, by decide, by decide +kernel⟩ ⟨by decide, by decide⟩) ⟨PW.blind, PW.pre va_P.nil hK0 va_D.nil hS hA hE⟩ rfl rfl hl.1 rfl (lv_room (Nat.le_of_ble_eq_true rfl)) d_M_block_98 ⟨by decide, by decide⟩) ?_
                    have hs98 := szL_le 6 y.toNatClampNeg
                    refine nw_add hx hb d_M_block_101 ?_
                    refine lv_sipush (v := nI 300) hx hb d_M_block_102 (by decide) ?_
                    refine nw_le hx hb (tgt := 114) d_M_block_105 (by decide) (by omega) (by omega) (fun h105 => ?_) (fun h105 => ?_)
                    · skip
                      refine lv_aload_n hx hb d_M_block_114 rfl (lv_at hl 0 rfl) ?_
                      refine va_get (D := D) (ci := 1) (C := RM) (T := FM) (N := 15) (v := .ref (u 2)) hx hb hw inM hown hK hP 0 rfl rfl 2 (by decide) (hw _ kF_M_13) (fun _ h9 => h9) rfl d_M_block_115 ?_
                      refine lv_aload_n hx hb d_M_block_118 rfl (lv_at hl 0 rfl) ?_
                      refine va_get (D := D) (ci := 1) (C := RM) (T := FM) (N := 15) (v := .int (nI yr)) hx hb hw inM hown hK hP 0 rfl rfl 8 (by decide) (hw _ kF_M_43) (fun _ h9 => h9) rfl d_M_block_119 ?_
                      refine lv_iload_n hx hb d_M_block_122 rfl (lv_at hl 1 rfl) ?_
                      refine nw_is (y := nI x.toNatClampNeg) (kd_eq hkd) ?_
                      refine nw_iast hx hb hK hP hD hS 2 0 rfl rfl (k := yr) (x := x.toNatClampNeg) (by omega) (by decide) d_M_block_123 (fun H locs hP hD hS => ?_)
                      have hP : va_P D cls2 (wM u cI cZ gS (va_up gK yr x.toNatClampNeg) gI gO gF gE (cpn gQ gS yn) 0 ((tA (gF (yr - 1)) (gE (yr - 1)) gS 6 y.toNatClampNeg (tkn (gF (yr - 1)) yn, tk1 (gF (yr - 1)) yn gS, tkc (tk1 (gF (yr - 1)) yn gS) 1 (tkb (gF (yr - 1)) (gE (yr - 1)) yn 0))).1) yr ym yd yn ((tA (gF (yr - 1)) (gE (yr - 1)) gS 6 y.toNatClampNeg (tkn (gF (yr - 1)) yn, tk1 (gF (yr - 1)) yn gS, tkc (tk1 (gF (yr - 1)) yn gS) 1 (tkb (gF (yr - 1)) (gE (yr - 1)) yn 0))).2.2) ((tA (gF (yr - 1)) (gE (yr - 1)) gS 6 y.toNatClampNeg (tkn (gF (yr - 1)) yn, tk1 (gF (yr - 1)) yn gS, tkc (tk1 (gF (yr - 1)) yn gS) 1 (tkb (gF (yr - 1)) (gE (yr - 1)) yn 0))).2.1)) H := hP
                      have hD : va_D (va_A (wM u cI cZ gS gK gI gO gF gE gQ yt yn yr ym yd yk yb yc) s.heap.size) (wM u cI cZ gS (va_up gK yr x.toNatClampNeg) gI gO gF gE (cpn gQ gS yn) 0 ((tA (gF (yr - 1)) (gE (yr - 1)) gS 6 y.toNatClampNeg (tkn (gF (yr - 1)) yn, tk1 (gF (yr - 1)) yn gS, tkc (tk1 (gF (yr - 1)) yn gS) 1 (tkb (gF (yr - 1)) (gE (yr - 1)) yn 0))).1) yr ym yd yn ((tA (gF (yr - 1)) (gE (yr - 1)) gS 6 y.toNatClampNeg (tkn (gF (yr - 1)) yn, tk1 (gF (yr - 1)) yn gS, tkc (tk1 (gF (yr - 1)) yn gS) 1 (tkb (gF (yr - 1)) (gE (yr - 1)) yn 0))).2.2) ((tA (gF (yr - 1)) (gE (yr - 1)) gS 6 y.toNatClampNeg (tkn (gF (yr - 1)) yn, tk1 (gF (yr - 1)) yn gS, tkc (tk1 (gF (yr - 1)) yn gS) 1 (tkb (gF (yr - 1)) (gE (yr - 1)) yn 0))).2.1)) := hD
                      refine lv_aload_n hx hb d_M_block_124 rfl (lv_at hl 0 rfl) ?_
                      refine va_get (D := D) (ci := 1) (C := RM) (T := FM) (N := 15) (v := .ref (u 3)) hx hb hw inM hown hK hP 0 rfl rfl 3 (by decide) (hw _ kF_M_16) (fun _ h9 => h9) rfl d_M_block_125 ?_
                      refine lv_aload_n hx hb d_M_block_128 rfl (lv_at hl 0 rfl) ?_
                      refine va_get (D := D) (ci := 1) (C := RM) (T := FM) (N := 15) (v := .int (nI yr)) hx hb hw inM hown hK hP 0 rfl rfl 8 (by decide) (hw _ kF_M_43) (fun _ h9 => h9) rfl d_M_block_129 ?_
                      refine lv_iload_n hx hb d_M_block_132 rfl (lv_at hl 2 rfl) ?_
                      refine nw_is (y := nI y.toNatClampNeg) (xl_eq e14) ?_
                      refine nw_iast hx hb hK hP hD hS 3 0 rfl rfl (k := yr) (x := y.toNatClampNeg) (by omega) (by decide) d_M_block_133 (fun H locs hP hD hS => ?_)
                      have hP : va_P D cls2 (wM u cI cZ gS (va_up gK yr x.toNatClampNeg) (va_up gI yr y.toNatClampNeg) gO gF gE (cpn gQ gS yn) 0 ((tA (gF (yr - 1)) (gE (yr - 1)) gS 6 y.toNatClampNeg (tkn (gF (yr - 1)) yn, tk1 (gF (yr - 1)) yn gS, tkc (tk1 (gF (yr - 1)) yn gS) 1 (tkb (gF (yr - 1)) (gE (yr - 1)) yn 0))).1) yr ym yd yn ((tA (gF (yr - 1)) (gE (yr - 1)) gS 6 y.toNatClampNeg (tkn (gF (yr - 1)) yn, tk1 (gF (yr - 1)) yn gS, tkc (tk1 (gF (yr - 1)) yn gS) 1 (tkb (gF (yr - 1)) (gE (yr - 1)) yn 0))).2.2) ((tA (gF (yr - 1)) (gE (yr - 1)) gS 6 y.toNatClampNeg (tkn (gF (yr - 1)) yn, tk1 (gF (yr - 1)) yn gS, tkc (tk1 (gF (yr - 1)) yn gS) 1 (tkb (gF (yr - 1)) (gE (yr - 1)) yn 0))).2.1)) H := hP
                      have hD : va_D (va_A (wM u cI cZ gS gK gI gO gF gE gQ yt yn yr ym yd yk yb yc) s.heap.size) (wM u cI cZ gS (va_up gK yr x.toNatClampNeg) (va_up gI yr y.toNatClampNeg) gO gF gE (cpn gQ gS yn) 0 ((tA (gF (yr - 1)) (gE (yr - 1)) gS 6 y.toNatClampNeg (tkn (gF (yr - 1)) yn, tk1 (gF (yr - 1)) yn gS, tkc (tk1 (gF (yr - 1)) yn gS) 1 (tkb (gF (yr - 1)) (gE (yr - 1)) yn 0))).1) yr ym yd yn ((tA (gF (yr - 1)) (gE (yr - 1)) gS 6 y.toNatClampNeg (tkn (gF (yr - 1)) yn, tk1 (gF (yr - 1)) yn gS, tkc (tk1 (gF (yr - 1)) yn gS) 1 (tkb (gF (yr - 1)) (gE (yr - 1)) yn 0))).2.2) ((tA (gF (yr - 1)) (gE (yr - 1)) gS 6 y.toNatClampNeg (tkn (gF (yr - 1)) yn, tk1 (gF (yr - 1)) yn gS, tkc (tk1 (gF (yr - 1)) yn gS) 1 (tkb (gF (yr - 1)) (gE (yr - 1)) yn 0))).2.1)) := hD
                      refine lv_aload_n hx hb d_M_block_134 rfl (lv_at hl 0 rfl) ?_
                      refine va_get (D := D) (ci := 1) (C := RM) (T := FM) (N := 15) (v := .ref (u 4)) hx hb hw inM hown hK hP 0 rfl rfl 4 (by decide) (hw _ kF_M_19) (fun _ h9 => h9) rfl d_M_block_135 ?_
                      refine lv_aload_n hx hb d_M_block_138 rfl (lv_at hl 0 rfl) ?_
                      refine va_get (D := D) (ci := 1) (C := RM) (T := FM) (N := 15) (v := .int (nI yr)) hx hb hw inM hown hK hP 0 rfl rfl 8 (by decide) (hw _ kF_M_43) (fun _ h9 => h9) rfl d_M_block_139 ?_
                      refine lv_iload_n hx hb d_M_block_142 rfl (lv_at hl 3 rfl) ?_
                      refine nw_is (y := nI v.toNatClampNeg) (xl_eq e21) ?_
                      refine nw_iast hx hb hK hP hD hS 4 0 rfl rfl (k := yr) (x := v.toNatClampNeg) (by omega) (by decide) d_M_block_143 (fun H locs hP hD hS => ?_)
                      have hP : va_P D cls2 (wM u cI cZ gS (va_up gK yr x.toNatClampNeg) (va_up gI yr y.toNatClampNeg) (va_up gO yr v.toNatClampNeg) gF gE (cpn gQ gS yn) 0 ((tA (gF (yr - 1)) (gE (yr - 1)) gS 6 y.toNatClampNeg (tkn (gF (yr - 1)) yn, tk1 (gF (yr - 1)) yn gS, tkc (tk1 (gF (yr - 1)) yn gS) 1 (tkb (gF (yr - 1)) (gE (yr - 1)) yn 0))).1) yr ym yd yn ((tA (gF (yr - 1)) (gE (yr - 1)) gS 6 y.toNatClampNeg (tkn (gF (yr - 1)) yn, tk1 (gF (yr - 1)) yn gS, tkc (tk1 (gF (yr - 1)) yn gS) 1 (tkb (gF (yr - 1)) (gE (yr - 1)) yn 0))).2.2) ((tA (gF (yr - 1)) (gE (yr - 1)) gS 6 y.toNatClampNeg (tkn (gF (yr - 1)) yn, tk1 (gF (yr - 1)) yn gS, tkc (tk1 (gF (yr - 1)) yn gS) 1 (tkb (gF (yr - 1)) (gE (yr - 1)) yn 0))).2.1)) H := hP
                      have hD : va_D (va_A (wM u cI cZ gS gK gI gO gF gE gQ yt yn yr ym yd yk yb yc) s.heap.size) (wM u cI cZ gS (va_up gK yr x.toNatClampNeg) (va_up gI yr y.toNatClampNeg) (va_up gO yr v.toNatClampNeg) gF gE (cpn gQ gS yn) 0 ((tA (gF (yr - 1)) (gE (yr - 1)) gS 6 y.toNatClampNeg (tkn (gF (yr - 1)) yn, tk1 (gF (yr - 1)) yn gS, tkc (tk1 (gF (yr - 1)) yn gS) 1 (tkb (gF (yr - 1)) (gE (yr - 1)) yn 0))).1) yr ym yd yn ((tA (gF (yr - 1)) (gE (yr - 1)) gS 6 y.toNatClampNeg (tkn (gF (yr - 1)) yn, tk1 (gF (yr - 1)) yn gS, tkc (tk1 (gF (yr - 1)) yn gS) 1 (tkb (gF (yr - 1)) (gE (yr - 1)) yn 0))).2.2) ((tA (gF (yr - 1)) (gE (yr - 1)) gS 6 y.toNatClampNeg (tkn (gF (yr - 1)) yn, tk1 (gF (yr - 1)) yn gS, tkc (tk1 (gF (yr - 1)) yn gS) 1 (tkb (gF (yr - 1)) (gE (yr - 1)) yn 0))).2.1)) := hD
                      refine lv_aload_n hx hb d_M_block_144 rfl (lv_at hl 0 rfl) ?_
                      refine va_get (D := D) (ci := 1) (C := RM) (T := FM) (N := 15) (v := .ref (u 5)) hx hb hw inM hown hK hP 0 rfl rfl 5 (by decide) (hw _ kF_M_22) (fun _ h9 => h9) rfl d_M_block_145 ?_
                      refine lv_aload_n hx hb d_M_block_148 rfl (lv_at hl 0 rfl) ?_
                      refine va_get (D := D) (ci := 1) (C := RM) (T := FM) (N := 15) (v := .int (nI yr)) hx hb hw inM hown hK hP 0 rfl rfl 8 (by decide) (hw _ kF_M_43) (fun _ h9 => h9) rfl d_M_block_149 ?_
                      refine lv_aload_n hx hb d_M_block_152 rfl (lv_at hl 0 rfl) ?_
                      refine va_get (D := D) (ci := 1) (C := RM) (T := FM) (N := 15) (v := .int (nI ((tA (gF (yr - 1)) (gE (yr - 1)) gS 6 y.toNatClampNeg (tkn (gF (yr - 1)) yn, tk1 (gF (yr - 1)) yn gS, tkc (tk1 (gF (yr - 1)) yn gS) 1 (tkb (gF (yr - 1)) (gE (yr - 1)) yn 0))).1))) hx hb hw inM hown hK hP 0 rfl rfl 7 (by decide) (hw _ kF_M_40) (fun _ h9 => h9) rfl d_M_block_153 ?_
                      refine nw_iast hx hb hK hP hD hS 5 0 rfl rfl (k := yr) (x := (tA (gF (yr - 1)) (gE (yr - 1)) gS 6 y.toNatClampNeg (tkn (gF (yr - 1)) yn, tk1 (gF (yr - 1)) yn gS, tkc (tk1 (gF (yr - 1)) yn gS) 1 (tkb (gF (yr - 1)) (gE (yr - 1)) yn 0))).1) (by omega) (by decide) d_M_block_156 (fun H locs hP hD hS => ?_)
                      have hP : va_P D cls2 (wM u cI cZ gS (va_up gK yr x.toNatClampNeg) (va_up gI yr y.toNatClampNeg) (va_up gO yr v.toNatClampNeg) (va_up gF yr ((tA (gF (yr - 1)) (gE (yr - 1)) gS 6 y.toNatClampNeg (tkn (gF (yr - 1)) yn, tk1 (gF (yr - 1)) yn gS, tkc (tk1 (gF (yr - 1)) yn gS) 1 (tkb (gF (yr - 1)) (gE (yr - 1)) yn 0))).1)) gE (cpn gQ gS yn) 0 ((tA (gF (yr - 1)) (gE (yr - 1)) gS 6 y.toNatClampNeg (tkn (gF (yr - 1)) yn, tk1 (gF (yr - 1)) yn gS, tkc (tk1 (gF (yr - 1)) yn gS) 1 (tkb (gF (yr - 1)) (gE (yr - 1)) yn 0))).1) yr ym yd yn ((tA (gF (yr - 1)) (gE (yr - 1)) gS 6 y.toNatClampNeg (tkn (gF (yr - 1)) yn, tk1 (gF (yr - 1)) yn gS, tkc (tk1 (gF (yr - 1)) yn gS) 1 (tkb (gF (yr - 1)) (gE (yr - 1)) yn 0))).2.2) ((tA (gF (yr - 1)) (gE (yr - 1)) gS 6 y.toNatClampNeg (tkn (gF (yr - 1)) yn, tk1 (gF (yr - 1)) yn gS, tkc (tk1 (gF (yr - 1)) yn gS) 1 (tkb (gF (yr - 1)) (gE (yr - 1)) yn 0))).2.1)) H := hP
                      have hD : va_D (va_A (wM u cI cZ gS gK gI gO gF gE gQ yt yn yr ym yd yk yb yc) s.heap.size) (wM u cI cZ gS (va_up gK yr x.toNatClampNeg) (va_up gI yr y.toNatClampNeg) (va_up gO yr v.toNatClampNeg) (va_up gF yr ((tA (gF (yr - 1)) (gE (yr - 1)) gS 6 y.toNatClampNeg (tkn (gF (yr - 1)) yn, tk1 (gF (yr - 1)) yn gS, tkc (tk1 (gF (yr - 1)) yn gS) 1 (tkb (gF (yr - 1)) (gE (yr - 1)) yn 0))).1)) gE (cpn gQ gS yn) 0 ((tA (gF (yr - 1)) (gE (yr - 1)) gS 6 y.toNatClampNeg (tkn (gF (yr - 1)) yn, tk1 (gF (yr - 1)) yn gS, tkc (tk1 (gF (yr - 1)) yn gS) 1 (tkb (gF (yr - 1)) (gE (yr - 1)) yn 0))).1) yr ym yd yn ((tA (gF (yr - 1)) (gE (yr - 1)) gS 6 y.toNatClampNeg (tkn (gF (yr - 1)) yn, tk1 (gF (yr - 1)) yn gS, tkc (tk1 (gF (yr - 1)) yn gS) 1 (tkb (gF (yr - 1)) (gE (yr - 1)) yn 0))).2.2) ((tA (gF (yr - 1)) (gE (yr - 1)) gS 6 y.toNatClampNeg (tkn (gF (yr - 1)) yn, tk1 (gF (yr - 1)) yn gS, tkc (tk1 (gF (yr - 1)) yn gS) 1 (tkb (gF (yr - 1)) (gE (yr - 1)) yn 0))).2.1)) := hD
                      refine lv_aload_n hx hb d_M_block_157 rfl (lv_at hl 0 rfl) ?_
                      refine va_get (D := D) (ci := 1) (C := RM) (T := FM) (N := 15) (v := .ref (u 6)) hx hb hw inM hown hK hP 0 rfl rfl 6 (by decide) (hw _ kF_M_25) (fun _ h9 => h9) rfl d_M_block_158 ?_
                      refine lv_aload_n hx hb d_M_block_161 rfl (lv_at hl 0 rfl) ?_
                      refine va_get (D := D) (ci := 1) (C := RM) (T := FM) (N := 15) (v := .int (nI yr)) hx hb hw inM hown hK hP 0 rfl rfl 8 (by decide) (hw _ kF_M_43) (fun _ h9 => h9) rfl d_M_block_162 ?_
                      refine lv_iconst (v := nI 0) hx hb d_M_block_165 (by decide) ?_
                      refine nw_zast hx hb hK hP hD hS 6 1 rfl rfl (k := yr) (x := 0) (by omega) (by decide) (by decide) d_M_block_166 (fun H locs hP hD hS => ?_)
                      have hP : va_P D cls2 (wM u cI cZ gS (va_up gK yr x.toNatClampNeg) (va_up gI yr y.toNatClampNeg) (va_up gO yr v.toNatClampNeg) (va_up gF yr ((tA (gF (yr - 1)) (gE (yr - 1)) gS 6 y.toNatClampNeg (tkn (gF (yr - 1)) yn, tk1 (gF (yr - 1)) yn gS, tkc (tk1 (gF (yr - 1)) yn gS) 1 (tkb (gF (yr - 1)) (gE (yr - 1)) yn 0))).1)) (va_up gE yr 0) (cpn gQ gS yn) 0 ((tA (gF (yr - 1)) (gE (yr - 1)) gS 6 y.toNatClampNeg (tkn (gF (yr - 1)) yn, tk1 (gF (yr - 1)) yn gS, tkc (tk1 (gF (yr - 1)) yn gS) 1 (tkb (gF (yr - 1)) (gE (yr - 1)) yn 0))).1) yr ym yd yn ((tA (gF (yr - 1)) (gE (yr - 1)) gS 6 y.toNatClampNeg (tkn (gF (yr - 1)) yn, tk1 (gF (yr - 1)) yn gS, tkc (tk1 (gF (yr - 1)) yn gS) 1 (tkb (gF (yr - 1)) (gE (yr - 1)) yn 0))).2.2) ((tA (gF (yr - 1)) (gE (yr - 1)) gS 6 y.toNatClampNeg (tkn (gF (yr - 1)) yn, tk1 (gF (yr - 1)) yn gS, tkc (tk1 (gF (yr - 1)) yn gS) 1 (tkb (gF (yr - 1)) (gE (yr - 1)) yn 0))).2.1)) H := hP
                      have hD : va_D (va_A (wM u cI cZ gS gK gI gO gF gE gQ yt yn yr ym yd yk yb yc) s.heap.size) (wM u cI cZ gS (va_up gK yr x.toNatClampNeg) (va_up gI yr y.toNatClampNeg) (va_up gO yr v.toNatClampNeg) (va_up gF yr ((tA (gF (yr - 1)) (gE (yr - 1)) gS 6 y.toNatClampNeg (tkn (gF (yr - 1)) yn, tk1 (gF (yr - 1)) yn gS, tkc (tk1 (gF (yr - 1)) yn gS) 1 (tkb (gF (yr - 1)) (gE (yr - 1)) yn 0))).1)) (va_up gE yr 0) (cpn gQ gS yn) 0 ((tA (gF (yr - 1)) (gE (yr - 1)) gS 6 y.toNatClampNeg (tkn (gF (yr - 1)) yn, tk1 (gF (yr - 1)) yn gS, tkc (tk1 (gF (yr - 1)) yn gS) 1 (tkb (gF (yr - 1)) (gE (yr - 1)) yn 0))).1) yr ym yd yn ((tA (gF (yr - 1)) (gE (yr - 1)) gS 6 y.toNatClampNeg (tkn (gF (yr - 1)) yn, tk1 (gF (yr - 1)) yn gS, tkc (tk1 (gF (yr - 1)) yn gS) 1 (tkb (gF (yr - 1)) (gE (yr - 1)) yn 0))).2.2) ((tA (gF (yr - 1)) (gE (yr - 1)) gS 6 y.toNatClampNeg (tkn (gF (yr - 1)) yn, tk1 (gF (yr - 1)) yn gS, tkc (tk1 (gF (yr - 1)) yn gS) 1 (tkb (gF (yr - 1)) (gE (yr - 1)) yn 0))).2.1)) := hD
                      refine lv_aload_n hx hb d_M_block_167 rfl (lv_at hl 0 rfl) ?_
                      refine lv_dup hx hb d_M_block_168 rfl ?_
                      refine va_get (D := D) (ci := 1) (C := RM) (T := FM) (N := 15) (v := .int (nI yr)) hx hb hw inM hown hK hP 0 rfl rfl 8 (by decide) (hw _ kF_M_43) (fun _ h9 => h9) rfl d_M_block_169 ?_
                      refine lv_iconst (v := nI 1) hx hb d_M_block_172 (by decide) ?_
                      refine nw_add hx hb d_M_block_173 ?_
                      refine va_put (D := D) (ci := 1) (C := RM) (T := FM) (N := 15) (v := .int (nI (yr + 1))) (ty := .int) hx hb hw inM tM tM_ok nM hown hK hP hD hS 0 rfl rfl 8 (by decide) (hw _ kF_M_43) (fun _ h9 => h9) rfl (by decide +kernel) rfl rfl (Nat.le_of_ble_eq_true rfl) d_M_block_174 (fun H locs hP hD hS => ?_)
                      have hP : va_P D cls2 (wM u cI cZ gS (va_up gK yr x.toNatClampNeg) (va_up gI yr y.toNatClampNeg) (va_up gO yr v.toNatClampNeg) (va_up gF yr ((tA (gF (yr - 1)) (gE (yr - 1)) gS 6 y.toNatClampNeg (tkn (gF (yr - 1)) yn, tk1 (gF (yr - 1)) yn gS, tkc (tk1 (gF (yr - 1)) yn gS) 1 (tkb (gF (yr - 1)) (gE (yr - 1)) yn 0))).1)) (va_up gE yr 0) (cpn gQ gS yn) 0 ((tA (gF (yr - 1)) (gE (yr - 1)) gS 6 y.toNatClampNeg (tkn (gF (yr - 1)) yn, tk1 (gF (yr - 1)) yn gS, tkc (tk1 (gF (yr - 1)) yn gS) 1 (tkb (gF (yr - 1)) (gE (yr - 1)) yn 0))).1) (yr + 1) ym yd yn ((tA (gF (yr - 1)) (gE (yr - 1)) gS 6 y.toNatClampNeg (tkn (gF (yr - 1)) yn, tk1 (gF (yr - 1)) yn gS, tkc (tk1 (gF (yr - 1)) yn gS) 1 (tkb (gF (yr - 1)) (gE (yr - 1)) yn 0))).2.2) ((tA (gF (yr - 1)) (gE (yr - 1)) gS 6 y.toNatClampNeg (tkn (gF (yr - 1)) yn, tk1 (gF (yr - 1)) yn gS, tkc (tk1 (gF (yr - 1)) yn gS) 1 (tkb (gF (yr - 1)) (gE (yr - 1)) yn 0))).2.1)) H := hP
                      have hD : va_D (va_A (wM u cI cZ gS gK gI gO gF gE gQ yt yn yr ym yd yk yb yc) s.heap.size) (wM u cI cZ gS (va_up gK yr x.toNatClampNeg) (va_up gI yr y.toNatClampNeg) (va_up gO yr v.toNatClampNeg) (va_up gF yr ((tA (gF (yr - 1)) (gE (yr - 1)) gS 6 y.toNatClampNeg (tkn (gF (yr - 1)) yn, tk1 (gF (yr - 1)) yn gS, tkc (tk1 (gF (yr - 1)) yn gS) 1 (tkb (gF (yr - 1)) (gE (yr - 1)) yn 0))).1)) (va_up gE yr 0) (cpn gQ gS yn) 0 ((tA (gF (yr - 1)) (gE (yr - 1)) gS 6 y.toNatClampNeg (tkn (gF (yr - 1)) yn, tk1 (gF (yr - 1)) yn gS, tkc (tk1 (gF (yr - 1)) yn gS) 1 (tkb (gF (yr - 1)) (gE (yr - 1)) yn 0))).1) (yr + 1) ym yd yn ((tA (gF (yr - 1)) (gE (yr - 1)) gS 6 y.toNatClampNeg (tkn (gF (yr - 1)) yn, tk1 (gF (yr - 1)) yn gS, tkc (tk1 (gF (yr - 1)) yn gS) 1 (tkb (gF (yr - 1)) (gE (yr - 1)) yn 0))).2.2) ((tA (gF (yr - 1)) (gE (yr - 1)) gS 6 y.toNatClampNeg (tkn (gF (yr - 1)) yn, tk1 (gF (yr - 1)) yn gS, tkc (tk1 (gF (yr - 1)) yn gS) 1 (tkb (gF (yr - 1)) (gE (yr - 1)) yn 0))).2.1)) := hD
                      refine lv_aload_n hx hb d_M_block_177 rfl (lv_at hl 0 rfl) ?_
                      refine lv_iload_n hx hb d_M_block_178 rfl (lv_at hl 2 rfl) ?_
                      refine nw_is (y := nI y.toNatClampNeg) (xl_eq e14) ?_
                      refine cl_w (v := none) hD hS hA (W.runV (b := u 0) (C := "TypeStackModel") (As := [.int (nI y.toNatClampNeg)]) (rest := []) ⟨hx, hb, hml, hown, hw⟩ (c_M_putAll l D u cI cZ gS (va_up gK yr x.toNatClampNeg) (va_up gI yr y.toNatClampNeg) (va_up gO yr v.toNatClampNeg) (va_up gF yr ((tA (gF (yr - 1)) (gE (yr - 1)) gS 6 y.toNatClampNeg (tkn (gF (yr - 1)) yn, tk1 (gF (yr - 1)) yn gS, tkc (tk1 (gF (yr - 1)) yn gS) 1 (tkb (gF (yr - 1)) (gE (yr - 1)) yn 0))).1)) (va_up gE yr 0) (cpn gQ gS yn) 0 ((tA (gF (yr - 1)) (gE (yr - 1)) gS 6 y.toNatClampNeg (tkn (gF (yr - 1)) yn, tk1 (gF (yr - 1)) yn gS, tkc (tk1 (gF (yr - 1)) yn gS) 1 (tkb (gF (yr - 1)) (gE (yr - 1)) yn 0))).1) (yr + 1) ym yd yn ((tA (gF (yr - 1)) (gE (yr - 1)) gS 6 y.toNatClampNeg (tkn (gF (yr - 1)) yn, tk1 (gF (yr - 1)) yn gS, tkc (tk1 (gF (yr - 1)) yn gS) 1 (tkb (gF (yr - 1)) (gE (yr - 1)) yn 0))).2.2) ((tA (gF (yr - 1)) (gE (yr - 1)) gS 6 y.toNatClampNeg (tkn (gF (yr - 1)) yn, tk1 (gF (yr - 1)) yn gS, tkc (tk1 (gF (yr - 1)) yn gS) 1 (tkb (gF (yr - 1)) (gE (yr - 1)) yn 0))).2.1) y.toNatClampNeg (by omega) (by omega) H.size) (cwV 1 hw g_M_94 rfl rfl rfl ⟨rfl, by decide, by decide, by decide +kernel⟩ ⟨by decide, by decide⟩) ⟨PW.blind, va_recv (q := (RM, FM, 15)) (ci := 1) (q0 := 0) hK hP rfl rfl, PW.pre hP hK hD hS hA hE⟩ rfl rfl hl.1 rfl (lv_room (Nat.le_of_ble_eq_true rfl)) d_M_block_179 ⟨by decide, by decide⟩) (fun H locs hP hD hS => ?_)
                      have hP : va_P D cls2 (wM u cI cZ (pl gS ((tA (gF (yr - 1)) (gE (yr - 1)) gS 6 y.toNatClampNeg (tkn (gF (yr - 1)) yn, tk1 (gF (yr - 1)) yn gS, tkc (tk1 (gF (yr - 1)) yn gS) 1 (tkb (gF (yr - 1)) (gE (yr - 1)) yn 0))).1) (szL 6 y.toNatClampNeg) y.toNatClampNeg) (va_up gK yr x.toNatClampNeg) (va_up gI yr y.toNatClampNeg) (va_up gO yr v.toNatClampNeg) (va_up gF yr ((tA (gF (yr - 1)) (gE (yr - 1)) gS 6 y.toNatClampNeg (tkn (gF (yr - 1)) yn, tk1 (gF (yr - 1)) yn gS, tkc (tk1 (gF (yr - 1)) yn gS) 1 (tkb (gF (yr - 1)) (gE (yr - 1)) yn 0))).1)) (va_up gE yr 0) (cpn gQ gS yn) 0 (((tA (gF (yr - 1)) (gE (yr - 1)) gS 6 y.toNatClampNeg (tkn (gF (yr - 1)) yn, tk1 (gF (yr - 1)) yn gS, tkc (tk1 (gF (yr - 1)) yn gS) 1 (tkb (gF (yr - 1)) (gE (yr - 1)) yn 0))).1) + szL 6 y.toNatClampNeg) (yr + 1) ym yd yn ((tA (gF (yr - 1)) (gE (yr - 1)) gS 6 y.toNatClampNeg (tkn (gF (yr - 1)) yn, tk1 (gF (yr - 1)) yn gS, tkc (tk1 (gF (yr - 1)) yn gS) 1 (tkb (gF (yr - 1)) (gE (yr - 1)) yn 0))).2.2) ((tA (gF (yr - 1)) (gE (yr - 1)) gS 6 y.toNatClampNeg (tkn (gF (yr - 1)) yn, tk1 (gF (yr - 1)) yn gS, tkc (tk1 (gF (yr - 1)) yn gS) 1 (tkb (gF (yr - 1)) (gE (yr - 1)) yn 0))).2.1)) H := hP
                      have hD : va_D (va_A (wM u cI cZ gS gK gI gO gF gE gQ yt yn yr ym yd yk yb yc) s.heap.size) (wM u cI cZ (pl gS ((tA (gF (yr - 1)) (gE (yr - 1)) gS 6 y.toNatClampNeg (tkn (gF (yr - 1)) yn, tk1 (gF (yr - 1)) yn gS, tkc (tk1 (gF (yr - 1)) yn gS) 1 (tkb (gF (yr - 1)) (gE (yr - 1)) yn 0))).1) (szL 6 y.toNatClampNeg) y.toNatClampNeg) (va_up gK yr x.toNatClampNeg) (va_up gI yr y.toNatClampNeg) (va_up gO yr v.toNatClampNeg) (va_up gF yr ((tA (gF (yr - 1)) (gE (yr - 1)) gS 6 y.toNatClampNeg (tkn (gF (yr - 1)) yn, tk1 (gF (yr - 1)) yn gS, tkc (tk1 (gF (yr - 1)) yn gS) 1 (tkb (gF (yr - 1)) (gE (yr - 1)) yn 0))).1)) (va_up gE yr 0) (cpn gQ gS yn) 0 (((tA (gF (yr - 1)) (gE (yr - 1)) gS 6 y.toNatClampNeg (tkn (gF (yr - 1)) yn, tk1 (gF (yr - 1)) yn gS, tkc (tk1 (gF (yr - 1)) yn gS) 1 (tkb (gF (yr - 1)) (gE (yr - 1)) yn 0))).1) + szL 6 y.toNatClampNeg) (yr + 1) ym yd yn ((tA (gF (yr - 1)) (gE (yr - 1)) gS 6 y.toNatClampNeg (tkn (gF (yr - 1)) yn, tk1 (gF (yr - 1)) yn gS, tkc (tk1 (gF (yr - 1)) yn gS) 1 (tkb (gF (yr - 1)) (gE (yr - 1)) yn 0))).2.2) ((tA (gF (yr - 1)) (gE (yr - 1)) gS 6 y.toNatClampNeg (tkn (gF (yr - 1)) yn, tk1 (gF (yr - 1)) yn gS, tkc (tk1 (gF (yr - 1)) yn gS) 1 (tkb (gF (yr - 1)) (gE (yr - 1)) yn 0))).2.1)) := hD
                      refine lv_aload_n hx hb d_M_block_182 rfl (lv_at hl 0 rfl) ?_
                      refine cl_w (v := none) hD hS hA (W.runV (b := u 0) (C := "TypeStackModel") (As := []) (rest := []) ⟨hx, hb, hml, hown, hw⟩ (c_M_well l D u cI cZ (pl gS ((tA (gF (yr - 1)) (gE (yr - 1)) gS 6 y.toNatClampNeg (tkn (gF (yr - 1)) yn, tk1 (gF (yr - 1)) yn gS, tkc (tk1 (gF (yr - 1)) yn gS) 1 (tkb (gF (yr - 1)) (gE (yr - 1)) yn 0))).1) (szL 6 y.toNatClampNeg) y.toNatClampNeg) (va_up gK yr x.toNatClampNeg) (va_up gI yr y.toNatClampNeg) (va_up gO yr v.toNatClampNeg) (va_up gF yr ((tA (gF (yr - 1)) (gE (yr - 1)) gS 6 y.toNatClampNeg (tkn (gF (yr - 1)) yn, tk1 (gF (yr - 1)) yn gS, tkc (tk1 (gF (yr - 1)) yn gS) 1 (tkb (gF (yr - 1)) (gE (yr - 1)) yn 0))).1)) (va_up gE yr 0) (cpn gQ gS yn) 0 (((tA (gF (yr - 1)) (gE (yr - 1)) gS 6 y.toNatClampNeg (tkn (gF (yr - 1)) yn, tk1 (gF (yr - 1)) yn gS, tkc (tk1 (gF (yr - 1)) yn gS) 1 (tkb (gF (yr - 1)) (gE (yr - 1)) yn 0))).1) + szL 6 y.toNatClampNeg) (yr + 1) ym yd yn ((tA (gF (yr - 1)) (gE (yr - 1)) gS 6 y.toNatClampNeg (tkn (gF (yr - 1)) yn, tk1 (gF (yr - 1)) yn gS, tkc (tk1 (gF (yr - 1)) yn gS) 1 (tkb (gF (yr - 1)) (gE (yr - 1)) yn 0))).2.2) ((tA (gF (yr - 1)) (gE (yr - 1)) gS 6 y.toNatClampNeg (tkn (gF (yr - 1)) yn, tk1 (gF (yr - 1)) yn gS, tkc (tk1 (gF (yr - 1)) yn gS) 1 (tkb (gF (yr - 1)) (gE (yr - 1)) yn 0))).2.1) (by omega) (by omega) H.size) (cwV 0 hw g_M_97 rfl rfl rfl ⟨rfl, by decide, by decide, by decide +kernel⟩ ⟨by decide, by decide⟩) ⟨PW.blind, va_recv (q := (RM, FM, 15)) (ci := 1) (q0 := 0) hK hP rfl rfl, PW.pre hP hK hD hS hA hE⟩ rfl rfl hl.1 rfl (lv_room (Nat.le_of_ble_eq_true rfl)) d_M_block_183 ⟨by decide, by decide⟩) (fun H locs hP hD hS => ?_)
                      have hP : va_P D cls2 (wM u cI cZ (pl gS ((tA (gF (yr - 1)) (gE (yr - 1)) gS 6 y.toNatClampNeg (tkn (gF (yr - 1)) yn, tk1 (gF (yr - 1)) yn gS, tkc (tk1 (gF (yr - 1)) yn gS) 1 (tkb (gF (yr - 1)) (gE (yr - 1)) yn 0))).1) (szL 6 y.toNatClampNeg) y.toNatClampNeg) (va_up gK yr x.toNatClampNeg) (va_up gI yr y.toNatClampNeg) (va_up gO yr v.toNatClampNeg) (va_up gF yr ((tA (gF (yr - 1)) (gE (yr - 1)) gS 6 y.toNatClampNeg (tkn (gF (yr - 1)) yn, tk1 (gF (yr - 1)) yn gS, tkc (tk1 (gF (yr - 1)) yn gS) 1 (tkb (gF (yr - 1)) (gE (yr - 1)) yn 0))).1)) (va_up gE yr 0) (cpn gQ gS yn) 0 (((tA (gF (yr - 1)) (gE (yr - 1)) gS 6 y.toNatClampNeg (tkn (gF (yr - 1)) yn, tk1 (gF (yr - 1)) yn gS, tkc (tk1 (gF (yr - 1)) yn gS) 1 (tkb (gF (yr - 1)) (gE (yr - 1)) yn 0))).1) + szL 6 y.toNatClampNeg) (yr + 1) (max ym (((tA (gF (yr - 1)) (gE (yr - 1)) gS 6 y.toNatClampNeg (tkn (gF (yr - 1)) yn, tk1 (gF (yr - 1)) yn gS, tkc (tk1 (gF (yr - 1)) yn gS) 1 (tkb (gF (yr - 1)) (gE (yr - 1)) yn 0))).1) + szL 6 y.toNatClampNeg)) (yd + 1) yn ((tA (gF (yr - 1)) (gE (yr - 1)) gS 6 y.toNatClampNeg (tkn (gF (yr - 1)) yn, tk1 (gF (yr - 1)) yn gS, tkc (tk1 (gF (yr - 1)) yn gS) 1 (tkb (gF (yr - 1)) (gE (yr - 1)) yn 0))).2.2) ((tA (gF (yr - 1)) (gE (yr - 1)) gS 6 y.toNatClampNeg (tkn (gF (yr - 1)) yn, tk1 (gF (yr - 1)) yn gS, tkc (tk1 (gF (yr - 1)) yn gS) 1 (tkb (gF (yr - 1)) (gE (yr - 1)) yn 0))).2.1)) H := hP
                      have hD : va_D (va_A (wM u cI cZ gS gK gI gO gF gE gQ yt yn yr ym yd yk yb yc) s.heap.size) (wM u cI cZ (pl gS ((tA (gF (yr - 1)) (gE (yr - 1)) gS 6 y.toNatClampNeg (tkn (gF (yr - 1)) yn, tk1 (gF (yr - 1)) yn gS, tkc (tk1 (gF (yr - 1)) yn gS) 1 (tkb (gF (yr - 1)) (gE (yr - 1)) yn 0))).1) (szL 6 y.toNatClampNeg) y.toNatClampNeg) (va_up gK yr x.toNatClampNeg) (va_up gI yr y.toNatClampNeg) (va_up gO yr v.toNatClampNeg) (va_up gF yr ((tA (gF (yr - 1)) (gE (yr - 1)) gS 6 y.toNatClampNeg (tkn (gF (yr - 1)) yn, tk1 (gF (yr - 1)) yn gS, tkc (tk1 (gF (yr - 1)) yn gS) 1 (tkb (gF (yr - 1)) (gE (yr - 1)) yn 0))).1)) (va_up gE yr 0) (cpn gQ gS yn) 0 (((tA (gF (yr - 1)) (gE (yr - 1)) gS 6 y.toNatClampNeg (tkn (gF (yr - 1)) yn, tk1 (gF (yr - 1)) yn gS, tkc (tk1 (gF (yr - 1)) yn gS) 1 (tkb (gF (yr - 1)) (gE (yr - 1)) yn 0))).1) + szL 6 y.toNatClampNeg) (yr + 1) (max ym (((tA (gF (yr - 1)) (gE (yr - 1)) gS 6 y.toNatClampNeg (tkn (gF (yr - 1)) yn, tk1 (gF (yr - 1)) yn gS, tkc (tk1 (gF (yr - 1)) yn gS) 1 (tkb (gF (yr - 1)) (gE (yr - 1)) yn 0))).1) + szL 6 y.toNatClampNeg)) (yd + 1) yn ((tA (gF (yr - 1)) (gE (yr - 1)) gS 6 y.toNatClampNeg (tkn (gF (yr - 1)) yn, tk1 (gF (yr - 1)) yn gS, tkc (tk1 (gF (yr - 1)) yn gS) 1 (tkb (gF (yr - 1)) (gE (yr - 1)) yn 0))).2.2) ((tA (gF (yr - 1)) (gE (yr - 1)) gS 6 y.toNatClampNeg (tkn (gF (yr - 1)) yn, tk1 (gF (yr - 1)) yn gS, tkc (tk1 (gF (yr - 1)) yn gS) 1 (tkb (gF (yr - 1)) (gE (yr - 1)) yn 0))).2.1)) := hD
                      refine lv_aload_n hx hb d_M_block_186 rfl (lv_at hl 0 rfl) ?_
                      refine va_get (D := D) (ci := 1) (C := RM) (T := FM) (N := 15) (v := .int (nI (yr + 1))) hx hb hw inM hown hK hP 0 rfl rfl 8 (by decide) (hw _ kF_M_43) (fun _ h9 => h9) rfl d_M_block_187 ?_
                      have her : orE (xk x) (orE (xl y) (orE (xl v) (orE (nf yr) (orE (xo ISE (bel x (gF (yr - 1)) (gE (yr - 1)) gS yn)) (orE (xo ISE (hbL (gF (yr - 1)) (gE (yr - 1)) gS 6 (bl x (gF (yr - 1)) (gE (yr - 1)) gS yn) y.toNatClampNeg)) (orE (rmE ((hbL (gF (yr - 1)) (gE (yr - 1)) gS 6 (bl x (gF (yr - 1)) (gE (yr - 1)) gS yn) y.toNatClampNeg).getD 0 + szL 6 y.toNatClampNeg)) (f40 yr))))))) = none := by rw [ek, e14, e21, ef, e1, p1, e2, p2, rm_ok h105, f40_ok h90 gir] <;> rfl
                      exact W.iret hx hb hrt (fun t ht9 _ => ⟨⟨pl gS ((tA (gF (yr - 1)) (gE (yr - 1)) gS 6 y.toNatClampNeg (tkn (gF (yr - 1)) yn, tk1 (gF (yr - 1)) yn gS, tkc (tk1 (gF (yr - 1)) yn gS) 1 (tkb (gF (yr - 1)) (gE (yr - 1)) yn 0))).1) (szL 6 y.toNatClampNeg) y.toNatClampNeg, va_up gK yr x.toNatClampNeg, va_up gI yr y.toNatClampNeg, va_up gO yr v.toNatClampNeg, va_up gF yr ((tA (gF (yr - 1)) (gE (yr - 1)) gS 6 y.toNatClampNeg (tkn (gF (yr - 1)) yn, tk1 (gF (yr - 1)) yn gS, tkc (tk1 (gF (yr - 1)) yn gS) 1 (tkb (gF (yr - 1)) (gE (yr - 1)) yn 0))).1), va_up gE yr 0, cpn gQ gS yn, 0, ((tA (gF (yr - 1)) (gE (yr - 1)) gS 6 y.toNatClampNeg (tkn (gF (yr - 1)) yn, tk1 (gF (yr - 1)) yn gS, tkc (tk1 (gF (yr - 1)) yn gS) 1 (tkb (gF (yr - 1)) (gE (yr - 1)) yn 0))).1) + szL 6 y.toNatClampNeg, yr + 1, max ym (((tA (gF (yr - 1)) (gE (yr - 1)) gS 6 y.toNatClampNeg (tkn (gF (yr - 1)) yn, tk1 (gF (yr - 1)) yn gS, tkc (tk1 (gF (yr - 1)) yn gS) 1 (tkb (gF (yr - 1)) (gE (yr - 1)) yn 0))).1) + szL 6 y.toNatClampNeg), yd + 1, yn, (tA (gF (yr - 1)) (gE (yr - 1)) gS 6 y.toNatClampNeg (tkn (gF (yr - 1)) yn, tk1 (gF (yr - 1)) yn gS, tkc (tk1 (gF (yr - 1)) yn gS) 1 (tkb (gF (yr - 1)) (gE (yr - 1)) yn 0))).2.2, (tA (gF (yr - 1)) (gE (yr - 1)) gS 6 y.toNatClampNeg (tkn (gF (yr - 1)) yn, tk1 (gF (yr - 1)) yn gS, tkc (tk1 (gF (yr - 1)) yn gS) 1 (tkb (gF (yr - 1)) (gE (yr - 1)) yn 0))).2.1, some (.int (nI (yr + 1))), rfl, ⟨fun _ => ⟨rfl, rfl, by rw [p1, p2]; exact rel_rf⟩, fun E he => by rw [her] at he; cases he⟩, ⟨pl_lt giS, im_upl giK (xk_lt ek), im_upl giI hjy, im_upl giO hjv, im_up giF (by omega), im_up giE (by decide), by omega, by omega, by omega⟩, by rw [ht9]; exact hP, hD⟩, hS.F ht9⟩) hS.2.2 d_M_block_190
                    · skip
                      refine lv_aload_n hx hb d_M_block_108 rfl (lv_at hl 0 rfl) ?_
                      refine lv_iconst (v := nI 4) hx hb d_M_block_109 (by decide) ?_
                      refine cl_w (v := some (.int (nI 0))) hD hS hA (W.runV (b := u 0) (C := "TypeStackModel") (As := [.int (nI 4)]) (rest := []) ⟨hx, hb, hml, hown, hw⟩ (c_M_undo l D u cI cZ gS gK gI gO gF gE (cpn gQ gS yn) 0 ((tA (gF (yr - 1)) (gE (yr - 1)) gS 6 y.toNatClampNeg (tkn (gF (yr - 1)) yn, tk1 (gF (yr - 1)) yn gS, tkc (tk1 (gF (yr - 1)) yn gS) 1 (tkb (gF (yr - 1)) (gE (yr - 1)) yn 0))).1) yr ym yd yn ((tA (gF (yr - 1)) (gE (yr - 1)) gS 6 y.toNatClampNeg (tkn (gF (yr - 1)) yn, tk1 (gF (yr - 1)) yn gS, tkc (tk1 (gF (yr - 1)) yn gS) 1 (tkb (gF (yr - 1)) (gE (yr - 1)) yn 0))).2.2) ((tA (gF (yr - 1)) (gE (yr - 1)) gS 6 y.toNatClampNeg (tkn (gF (yr - 1)) yn, tk1 (gF (yr - 1)) yn gS, tkc (tk1 (gF (yr - 1)) yn gS) 1 (tkb (gF (yr - 1)) (gE (yr - 1)) yn 0))).2.1) 4 (by omega) H.size) (cwV 1 hw g_M_90 rfl rfl rfl ⟨rfl, by decide, by decide, by decide +kernel⟩ ⟨by decide, by decide⟩) ⟨PW.blind, va_recv (q := (RM, FM, 15)) (ci := 1) (q0 := 0) hK hP rfl rfl, PW.pre hP hK hD hS hA hE⟩ rfl rfl hl.1 rfl (lv_room (Nat.le_of_ble_eq_true rfl)) d_M_block_110 ⟨by decide, by decide⟩) (fun H locs hP hD hS => ?_)
                      have hP : va_P D cls2 (wM u cI cZ (cpn gS (cpn gQ gS yn) yn) gK gI gO gF gE (cpn gQ gS yn) 4 yn yr ym yd yn ((tA (gF (yr - 1)) (gE (yr - 1)) gS 6 y.toNatClampNeg (tkn (gF (yr - 1)) yn, tk1 (gF (yr - 1)) yn gS, tkc (tk1 (gF (yr - 1)) yn gS) 1 (tkb (gF (yr - 1)) (gE (yr - 1)) yn 0))).2.2) ((tA (gF (yr - 1)) (gE (yr - 1)) gS 6 y.toNatClampNeg (tkn (gF (yr - 1)) yn, tk1 (gF (yr - 1)) yn gS, tkc (tk1 (gF (yr - 1)) yn gS) 1 (tkb (gF (yr - 1)) (gE (yr - 1)) yn 0))).2.1)) H := hP
                      have hD : va_D (va_A (wM u cI cZ gS gK gI gO gF gE gQ yt yn yr ym yd yk yb yc) s.heap.size) (wM u cI cZ (cpn gS (cpn gQ gS yn) yn) gK gI gO gF gE (cpn gQ gS yn) 4 yn yr ym yd yn ((tA (gF (yr - 1)) (gE (yr - 1)) gS 6 y.toNatClampNeg (tkn (gF (yr - 1)) yn, tk1 (gF (yr - 1)) yn gS, tkc (tk1 (gF (yr - 1)) yn gS) 1 (tkb (gF (yr - 1)) (gE (yr - 1)) yn 0))).2.2) ((tA (gF (yr - 1)) (gE (yr - 1)) gS 6 y.toNatClampNeg (tkn (gF (yr - 1)) yn, tk1 (gF (yr - 1)) yn gS, tkc (tk1 (gF (yr - 1)) yn gS) 1 (tkb (gF (yr - 1)) (gE (yr - 1)) yn 0))).2.1)) := hD
                      have her : orE (xk x) (orE (xl y) (orE (xl v) (orE (nf yr) (orE (xo ISE (bel x (gF (yr - 1)) (gE (yr - 1)) gS yn)) (orE (xo ISE (hbL (gF (yr - 1)) (gE (yr - 1)) gS 6 (bl x (gF (yr - 1)) (gE (yr - 1)) gS yn) y.toNatClampNeg)) (orE (rmE ((hbL (gF (yr - 1)) (gE (yr - 1)) gS 6 (bl x (gF (yr - 1)) (gE (yr - 1)) gS yn) y.toNatClampNeg).getD 0 + szL 6 y.toNatClampNeg)) (f40 yr))))))) = some AE := by rw [ek, e14, e21, ef, e1, p1, e2, p2, rm_no h105] <;> rfl
                      exact W.iret hx hb hrt (fun t ht9 _ => ⟨⟨cpn gS (cpn gQ gS yn) yn, gK, gI, gO, gF, gE, cpn gQ gS yn, 4, yn, yr, ym, yd, yn, (tA (gF (yr - 1)) (gE (yr - 1)) gS 6 y.toNatClampNeg (tkn (gF (yr - 1)) yn, tk1 (gF (yr - 1)) yn gS, tkc (tk1 (gF (yr - 1)) yn gS) 1 (tkb (gF (yr - 1)) (gE (yr - 1)) yn 0))).2.2, (tA (gF (yr - 1)) (gE (yr - 1)) gS 6 y.toNatClampNeg (tkn (gF (yr - 1)) yn, tk1 (gF (yr - 1)) yn gS, tkc (tk1 (gF (yr - 1)) yn gS) 1 (tkb (gF (yr - 1)) (gE (yr - 1)) yn 0))).2.1, some (.int (nI 0)), rfl, ⟨fun he => (by rw [her] at he; cases he), fun E he => by rw [her] at he; cases he; exact ⟨by decide +kernel, rfl, rel_undo⟩⟩, im_undo hi giS, by rw [ht9]; exact hP, hD⟩, hS.F ht9⟩) hS.2.2 d_M_block_113
                · skip
                  have es : ∀ r, orE (xo ISE (bel x (gF (yr - 1)) (gE (yr - 1)) gS yn)) (orE (xo ISE (hbL (gF (yr - 1)) (gE (yr - 1)) gS 6 (bl x (gF (yr - 1)) (gE (yr - 1)) gS yn) y.toNatClampNeg)) r) = some ISE := fun r => by rw [bel_eq h58, bl_eq h58]; exact ta1_no r h75
                  refine lv_aload_n hx hb d_M_block_78 rfl (lv_at hl 0 rfl) ?_
                  refine lv_iconst (v := nI 3) hx hb d_M_block_79 (by decide) ?_
                  refine cl_w (v := some (.int (nI 0))) hD hS hA (W.runV (b := u 0) (C := "TypeStackModel") (As := [.int (nI 3)]) (rest := []) ⟨hx, hb, hml, hown, hw⟩ (c_M_undo l D u cI cZ gS gK gI gO gF gE (cpn gQ gS yn) 0 ((tA (gF (yr - 1)) (gE (yr - 1)) gS 6 y.toNatClampNeg (tkn (gF (yr - 1)) yn, tk1 (gF (yr - 1)) yn gS, tkc (tk1 (gF (yr - 1)) yn gS) 1 (tkb (gF (yr - 1)) (gE (yr - 1)) yn 0))).1) yr ym yd yn ((tA (gF (yr - 1)) (gE (yr - 1)) gS 6 y.toNatClampNeg (tkn (gF (yr - 1)) yn, tk1 (gF (yr - 1)) yn gS, tkc (tk1 (gF (yr - 1)) yn gS) 1 (tkb (gF (yr - 1)) (gE (yr - 1)) yn 0))).2.2) ((tA (gF (yr - 1)) (gE (yr - 1)) gS 6 y.toNatClampNeg (tkn (gF (yr - 1)) yn, tk1 (gF (yr - 1)) yn gS, tkc (tk1 (gF (yr - 1)) yn gS) 1 (tkb (gF (yr - 1)) (gE (yr - 1)) yn 0))).2.1) 3 (by omega) H.size) (cwV 1 hw g_M_90 rfl rfl rfl ⟨rfl, by decide, by decide, by decide +kernel⟩ ⟨by decide, by decide⟩) ⟨PW.blind, va_recv (q := (RM, FM, 15)) (ci := 1) (q0 := 0) hK hP rfl rfl, PW.pre hP hK hD hS hA hE⟩ rfl rfl hl.1 rfl (lv_room (Nat.le_of_ble_eq_true rfl)) d_M_block_80 ⟨by decide, by decide⟩) (fun H locs hP hD hS => ?_)
                  have hP : va_P D cls2 (wM u cI cZ (cpn gS (cpn gQ gS yn) yn) gK gI gO gF gE (cpn gQ gS yn) 3 yn yr ym yd yn ((tA (gF (yr - 1)) (gE (yr - 1)) gS 6 y.toNatClampNeg (tkn (gF (yr - 1)) yn, tk1 (gF (yr - 1)) yn gS, tkc (tk1 (gF (yr - 1)) yn gS) 1 (tkb (gF (yr - 1)) (gE (yr - 1)) yn 0))).2.2) ((tA (gF (yr - 1)) (gE (yr - 1)) gS 6 y.toNatClampNeg (tkn (gF (yr - 1)) yn, tk1 (gF (yr - 1)) yn gS, tkc (tk1 (gF (yr - 1)) yn gS) 1 (tkb (gF (yr - 1)) (gE (yr - 1)) yn 0))).2.1)) H := hP
                  have hD : va_D (va_A (wM u cI cZ gS gK gI gO gF gE gQ yt yn yr ym yd yk yb yc) s.heap.size) (wM u cI cZ (cpn gS (cpn gQ gS yn) yn) gK gI gO gF gE (cpn gQ gS yn) 3 yn yr ym yd yn ((tA (gF (yr - 1)) (gE (yr - 1)) gS 6 y.toNatClampNeg (tkn (gF (yr - 1)) yn, tk1 (gF (yr - 1)) yn gS, tkc (tk1 (gF (yr - 1)) yn gS) 1 (tkb (gF (yr - 1)) (gE (yr - 1)) yn 0))).2.2) ((tA (gF (yr - 1)) (gE (yr - 1)) gS 6 y.toNatClampNeg (tkn (gF (yr - 1)) yn, tk1 (gF (yr - 1)) yn gS, tkc (tk1 (gF (yr - 1)) yn gS) 1 (tkb (gF (yr - 1)) (gE (yr - 1)) yn 0))).2.1)) := hD
                  have her : orE (xk x) (orE (xl y) (orE (xl v) (orE (nf yr) (orE (xo ISE (bel x (gF (yr - 1)) (gE (yr - 1)) gS yn)) (orE (xo ISE (hbL (gF (yr - 1)) (gE (yr - 1)) gS 6 (bl x (gF (yr - 1)) (gE (yr - 1)) gS yn) y.toNatClampNeg)) (orE (rmE ((hbL (gF (yr - 1)) (gE (yr - 1)) gS 6 (bl x (gF (yr - 1)) (gE (yr - 1)) gS yn) y.toNatClampNeg).getD 0 + szL 6 y.toNatClampNeg)) (f40 yr))))))) = some ISE := by rw [ek, e14, e21, ef]; exact es _
                  exact W.iret hx hb hrt (fun t ht9 _ => ⟨⟨cpn gS (cpn gQ gS yn) yn, gK, gI, gO, gF, gE, cpn gQ gS yn, 3, yn, yr, ym, yd, yn, (tA (gF (yr - 1)) (gE (yr - 1)) gS 6 y.toNatClampNeg (tkn (gF (yr - 1)) yn, tk1 (gF (yr - 1)) yn gS, tkc (tk1 (gF (yr - 1)) yn gS) 1 (tkb (gF (yr - 1)) (gE (yr - 1)) yn 0))).2.2, (tA (gF (yr - 1)) (gE (yr - 1)) gS 6 y.toNatClampNeg (tkn (gF (yr - 1)) yn, tk1 (gF (yr - 1)) yn gS, tkc (tk1 (gF (yr - 1)) yn gS) 1 (tkb (gF (yr - 1)) (gE (yr - 1)) yn 0))).2.1, some (.int (nI 0)), rfl, ⟨fun he => (by rw [her] at he; cases he), fun E he => by rw [her] at he; cases he; exact ⟨by decide +kernel, rfl, rel_undo⟩⟩, im_undo hi giS, by rw [ht9]; exact hP, hD⟩, hS.F ht9⟩) hS.2.2 d_M_block_83
            · skip
              exfalso; omega
          · skip
            have ef : nf yr = some NSE := nf_no h32
            refine lv_iconst (v := nI 2) hx hb d_M_block_35 (by decide) ?_
            refine lv_goto hx hb d_M_block_36 (tgt := 40) (by decide) ?_
            refine va_put (D := D) (ci := 1) (C := RM) (T := FM) (N := 15) (v := .int (nI 2)) (ty := .int) hx hb hw inM tM tM_ok nM hown hK hP hD hS 0 rfl rfl 0 (by decide) (hw _ kF_M_36) (fun _ h9 => h9) rfl (by decide +kernel) rfl rfl (Nat.le_of_ble_eq_true rfl) d_M_block_40 (fun H locs hP hD hS => ?_)
            have hP : va_P D cls2 (wM u cI cZ gS gK gI gO gF gE gQ 2 yn yr ym yd yk yb yc) H := hP
            have hD : va_D (va_A (wM u cI cZ gS gK gI gO gF gE gQ yt yn yr ym yd yk yb yc) s.heap.size) (wM u cI cZ gS gK gI gO gF gE gQ 2 yn yr ym yd yk yb yc) := hD
            refine lv_aload_n hx hb d_M_block_43 rfl (lv_at hl 0 rfl) ?_
            refine va_get (D := D) (ci := 1) (C := RM) (T := FM) (N := 15) (v := .int (nI 2)) hx hb hw inM hown hK hP 0 rfl rfl 0 (by decide) (hw _ kF_M_36) (fun _ h9 => h9) rfl d_M_block_44 ?_
            refine nw_ifle hx hb (tgt := 52) d_M_block_47 (by decide) (by omega) (fun h47 => ?_) (fun h47 => ?_)
            · skip
              exfalso; omega
            · skip
              refine lv_iconst (v := nI 0) hx hb d_M_block_50 (by decide) ?_
              have her : orE (xk x) (orE (xl y) (orE (xl v) (orE (nf yr) (orE (xo ISE (bel x (gF (yr - 1)) (gE (yr - 1)) gS yn)) (orE (xo ISE (hbL (gF (yr - 1)) (gE (yr - 1)) gS 6 (bl x (gF (yr - 1)) (gE (yr - 1)) gS yn) y.toNatClampNeg)) (orE (rmE ((hbL (gF (yr - 1)) (gE (yr - 1)) gS 6 (bl x (gF (yr - 1)) (gE (yr - 1)) gS yn) y.toNatClampNeg).getD 0 + szL 6 y.toNatClampNeg)) (f40 yr))))))) = some NSE := by simp only [orE, ek, e14, e21, ef]
              exact W.iret hx hb hrt (fun t ht9 _ => ⟨⟨gS, gK, gI, gO, gF, gE, gQ, 2, yn, yr, ym, yd, yk, yb, yc, some (.int (nI 0)), rfl, ⟨fun he => (by rw [her] at he; cases he), fun E he => by rw [her] at he; cases he; exact ⟨by decide +kernel, rfl, rel_rf⟩⟩, hi, by rw [ht9]; exact hP, hD⟩, hS.F ht9⟩) hS.2.2 d_M_block_51
        · skip
          have e21 : xl v = some IAE := xl_no h21
          refine lv_iconst (v := nI 1) hx hb d_M_block_24 (by decide) ?_
          refine lv_goto hx hb d_M_block_25 (tgt := 40) (by decide) ?_
          refine va_put (D := D) (ci := 1) (C := RM) (T := FM) (N := 15) (v := .int (nI 1)) (ty := .int) hx hb hw inM tM tM_ok nM hown hK hP hD hS 0 rfl rfl 0 (by decide) (hw _ kF_M_36) (fun _ h9 => h9) rfl (by decide +kernel) rfl rfl (Nat.le_of_ble_eq_true rfl) d_M_block_40 (fun H locs hP hD hS => ?_)
          have hP : va_P D cls2 (wM u cI cZ gS gK gI gO gF gE gQ 1 yn yr ym yd yk yb yc) H := hP
          have hD : va_D (va_A (wM u cI cZ gS gK gI gO gF gE gQ yt yn yr ym yd yk yb yc) s.heap.size) (wM u cI cZ gS gK gI gO gF gE gQ 1 yn yr ym yd yk yb yc) := hD
          refine lv_aload_n hx hb d_M_block_43 rfl (lv_at hl 0 rfl) ?_
          refine va_get (D := D) (ci := 1) (C := RM) (T := FM) (N := 15) (v := .int (nI 1)) hx hb hw inM hown hK hP 0 rfl rfl 0 (by decide) (hw _ kF_M_36) (fun _ h9 => h9) rfl d_M_block_44 ?_
          refine nw_ifle hx hb (tgt := 52) d_M_block_47 (by decide) (by omega) (fun h47 => ?_) (fun h47 => ?_)
          · skip
            exfalso; omega
          · skip
            refine lv_iconst (v := nI 0) hx hb d_M_block_50 (by decide) ?_
            have her : orE (xk x) (orE (xl y) (orE (xl v) (orE (nf yr) (orE (xo ISE (bel x (gF (yr - 1)) (gE (yr - 1)) gS yn)) (orE (xo ISE (hbL (gF (yr - 1)) (gE (yr - 1)) gS 6 (bl x (gF (yr - 1)) (gE (yr - 1)) gS yn) y.toNatClampNeg)) (orE (rmE ((hbL (gF (yr - 1)) (gE (yr - 1)) gS 6 (bl x (gF (yr - 1)) (gE (yr - 1)) gS yn) y.toNatClampNeg).getD 0 + szL 6 y.toNatClampNeg)) (f40 yr))))))) = some IAE := by simp only [orE, ek, e14, e21]
            exact W.iret hx hb hrt (fun t ht9 _ => ⟨⟨gS, gK, gI, gO, gF, gE, gQ, 1, yn, yr, ym, yd, yk, yb, yc, some (.int (nI 0)), rfl, ⟨fun he => (by rw [her] at he; cases he), fun E he => by rw [her] at he; cases he; exact ⟨by decide +kernel, rfl, rel_rf⟩⟩, hi, by rw [ht9]; exact hP, hD⟩, hS.F ht9⟩) hS.2.2 d_M_block_51

set_option maxHeartbeats 4000000 in
set_option maxRecDepth 100000 in
theorem c_M_otherwise (l : Launch) (D : va_G) (u : Nat → Nat) (cI cZ : ClassId) (gS gK gI gO gF gE gQ : Nat → Nat) (yt yn yr ym yd yk yb yc : Nat) (hi : IM gS gK gI gO gF gE yn ym yr) (hfl : 1 ≤ yr → gF (yr - 1) ≤ yn) (hmo : yn ≤ ym) (hro : ∀ j, j < yr → gF j + szL 6 (gI j) ≤ 300) (sz : Nat) : Met l y_M_otherwise w_M_otherwise (rmR 4) (PW D [(cI, .int), (cZ, .boolean)] (wM u cI cZ gS gK gI gO gF gE gQ yt yn yr ym yd yk yb yc) sz [.ref (u 0)]) (QM D u cI cZ (wM u cI cZ gS gK gI gO gF gE gQ yt yn yr ym yd yk yb yc) sz (PMo (orE (nf yr) (orE (ifE (gK (yr - 1))) (jw (gF (yr - 1)) (hbL (gF (yr - 1)) (gE (yr - 1)) gS 6 yn (gO (yr - 1)))))) (cdl [NSE, UOE, ISE]) (none) (none) (Rel (pl gS (gF (yr - 1)) (szL 6 (gI (yr - 1))) (gI (yr - 1))) (va_up gK (yr - 1) 3) gI gO gF (va_up gE (yr - 1) 0) ((gF (yr - 1)) + szL 6 (gI (yr - 1))) (max ym ((gF (yr - 1)) + szL 6 (gI (yr - 1)))) yr (yd + 1)) (Rel gS gK gI gO gF gE yn ym yr yd))) 0 0 (va_A (wM u cI cZ gS gK gI gO gF gE gQ yt yn yr ym yd yk yb yc) sz) := by
  refine Met.ofW (cc := b_M_otherwise) (maxL := 1) (ret := none) (by decide) rfl ?_
  intro p e s m args below meth c s₁ B hml hv
  obtain ⟨rfl, hsz, hP, hK, hD0, hE⟩ := hv
  have hx := B.exec
  have hb := B.bytes
  have hrt := B.returns
  have hts := atoms_spec (ws := w_M_otherwise) B.pre
  have hw : ∀ w ∈ bw, w.before ([.ref (u 0)]).toArray s = true := fun w h => hts w (List.mem_cons_of_mem _ h)
  have hown : s.vm.findClass "TypeStackModel" = some m.cls := findClass_of_methodNamed B.named
  have hlocks := B.notSynchronized
  subst hsz
  have hD := hD0.self (sz := s.heap.size)
  have hA : ∀ q : Nat, s.heap.size ≤ q → va_A (wM u cI cZ gS gK gI gO gF gE gQ yt yn yr ym yd yk yb yc) s.heap.size q := fun q h => Or.inr h
  have hS : va_S (va_A (wM u cI cZ gS gK gI gO gF gE gQ yt yn yr ym yd yk yb yc) s.heap.size) s.heap s.heap [] := va_S.rf
  have hK0 := hK.sub (tys' := []) [] rfl
  have hl := lv_entry ([.ref (u 0)]) (n := 1) (Nat.le_of_ble_eq_true rfl)
  rw [lg_entry_eq]
  generalize (lg_sl ([.ref (u 0)]) ++ List.replicate (1 - (lg_sl ([.ref (u 0)])).length) Slot.unset).toArray = ls at hl ⊢
  have hl : lv_has ls 1 [(0, .ref (u 0))] := hl
  obtain ⟨giS, giK, giI, giO, giF, giE, gin, gim, gir⟩ := id hi
  refine lv_aload_n hx hb d_M_otherwise_0 rfl (lv_at hl 0 rfl) ?_
  refine lv_aload_n hx hb d_M_otherwise_1 rfl (lv_at hl 0 rfl) ?_
  refine va_get (D := D) (ci := 1) (C := RM) (T := FM) (N := 15) (v := .int (nI yr)) hx hb hw inM hown hK hP 0 rfl rfl 8 (by decide) (hw _ kF_M_43) (fun _ h9 => h9) rfl d_M_otherwise_2 ?_
  refine nw_ifne hx hb (tgt := 12) d_M_otherwise_5 (by decide) (by omega) (fun h5 => ?_) (fun h5 => ?_)
  · skip
    have ef : nf yr = none := nf_ok h5
    refine lv_aload_n hx hb d_M_otherwise_12 rfl (lv_at hl 0 rfl) ?_
    refine va_get (D := D) (ci := 1) (C := RM) (T := FM) (N := 15) (v := .ref (u 2)) hx hb hw inM hown hK hP 0 rfl rfl 2 (by decide) (hw _ kF_M_13) (fun _ h9 => h9) rfl d_M_otherwise_13 ?_
    refine lv_aload_n hx hb d_M_otherwise_16 rfl (lv_at hl 0 rfl) ?_
    refine cl_r (v := some (.int (nI (yr - 1)))) (W.runV (b := u 0) (C := "TypeStackModel") (As := []) (rest := [.ref (u 2), .ref (u 0)]) ⟨hx, hb, hml, hown, hw⟩ (c_M_inner l D u cI cZ gS gK gI gO gF gE gQ yt yn yr ym yd yk yb yc (by omega) s.heap.size) (cwV 0 hw g_M_68 rfl rfl rfl ⟨rfl, by decide, by decide, by decide +kernel⟩ ⟨by decide, by decide⟩) ⟨PW.blind, va_recv (q := (RM, FM, 15)) (ci := 1) (q0 := 0) hK hP rfl rfl, PW.pre hP hK hD hS hA hE⟩ rfl rfl hl.1 rfl (lv_room (Nat.le_of_ble_eq_true rfl)) d_M_otherwise_17 ⟨by decide, by decide⟩) ?_
    refine nw_iald hx hb hK hP 2 0 rfl rfl (k := yr - 1) (by omega) (by decide) d_M_otherwise_20 ?_
    have b20 := giK (yr - 1)
    refine lv_iconst (v := nI 2) hx hb d_M_otherwise_21 (by decide) ?_
    refine nw_eq hx hb (tgt := 29) d_M_otherwise_22 (by decide) (by omega) (by omega) (fun h22 => ?_) (fun h22 => ?_)
    · skip
      have ei : ifE (gK (yr - 1)) = none := if_pos h22
      refine lv_iconst (v := nI 0) hx hb d_M_otherwise_29 (by decide) ?_
      refine va_put (D := D) (ci := 1) (C := RM) (T := FM) (N := 15) (v := .int (nI 0)) (ty := .int) hx hb hw inM tM tM_ok nM hown hK hP hD hS 0 rfl rfl 0 (by decide) (hw _ kF_M_36) (fun _ h9 => h9) rfl (by decide +kernel) rfl rfl (Nat.le_of_ble_eq_true rfl) d_M_otherwise_30 (fun H locs hP hD hS => ?_)
      have hP : va_P D cls2 (wM u cI cZ gS gK gI gO gF gE gQ 0 yn yr ym yd yk yb yc) H := hP
      have hD : va_D (va_A (wM u cI cZ gS gK gI gO gF gE gQ yt yn yr ym yd yk yb yc) s.heap.size) (wM u cI cZ gS gK gI gO gF gE gQ 0 yn yr ym yd yk yb yc) := hD
      refine lv_aload_n hx hb d_M_otherwise_33 rfl (lv_at hl 0 rfl) ?_
      refine va_get (D := D) (ci := 1) (C := RM) (T := FM) (N := 15) (v := .int (nI 0)) hx hb hw inM hown hK hP 0 rfl rfl 0 (by decide) (hw _ kF_M_36) (fun _ h9 => h9) rfl d_M_otherwise_34 ?_
      refine nw_ifle hx hb (tgt := 41) d_M_otherwise_37 (by decide) (by omega) (fun h37 => ?_) (fun h37 => ?_)
      · skip
        have ho0 := giO (yr - 1)
        have hi0 := giI (yr - 1)
        have hf1 := giF (yr - 1)
        have hta := tA_le (gF (yr - 1)) (gE (yr - 1)) gS 6 (gO (yr - 1)) yn yc 0 (by decide)
        have hso := szL_le 6 (gO (yr - 1))
        have hsi := szL_le 6 (gI (yr - 1))
        refine lv_aload_n hx hb d_M_otherwise_41 rfl (lv_at hl 0 rfl) ?_
        refine cl_w (v := none) hD hS hA (W.runV (b := u 0) (C := "TypeStackModel") (As := []) (rest := []) ⟨hx, hb, hml, hown, hw⟩ (c_M_keep l D u cI cZ gS gK gI gO gF gE gQ 0 yn yr ym yd yk yb yc (by omega) H.size) (cwV 0 hw g_M_84 rfl rfl rfl ⟨rfl, by decide, by decide, by decide +kernel⟩ ⟨by decide, by decide⟩) ⟨PW.blind, va_recv (q := (RM, FM, 15)) (ci := 1) (q0 := 0) hK hP rfl rfl, PW.pre hP hK hD hS hA hE⟩ rfl rfl hl.1 rfl (lv_room (Nat.le_of_ble_eq_true rfl)) d_M_otherwise_42 ⟨by decide, by decide⟩) (fun H locs hP hD hS => ?_)
        have hP : va_P D cls2 (wM u cI cZ gS gK gI gO gF gE (cpn gQ gS yn) 0 yn yr ym yd yn 0 yc) H := hP
        have hD : va_D (va_A (wM u cI cZ gS gK gI gO gF gE gQ yt yn yr ym yd yk yb yc) s.heap.size) (wM u cI cZ gS gK gI gO gF gE (cpn gQ gS yn) 0 yn yr ym yd yn 0 yc) := hD
        refine lv_aload_n hx hb d_M_otherwise_45 rfl (lv_at hl 0 rfl) ?_
        refine lv_aload_n hx hb d_M_otherwise_46 rfl (lv_at hl 0 rfl) ?_
        refine va_get (D := D) (ci := 1) (C := RM) (T := FM) (N := 15) (v := .ref (u 4)) hx hb hw inM hown hK hP 0 rfl rfl 4 (by decide) (hw _ kF_M_19) (fun _ h9 => h9) rfl d_M_otherwise_47 ?_
        refine lv_aload_n hx hb d_M_otherwise_50 rfl (lv_at hl 0 rfl) ?_
        refine cl_r (v := some (.int (nI (yr - 1)))) (W.runV (b := u 0) (C := "TypeStackModel") (As := []) (rest := [.ref (u 4), .ref (u 0)]) ⟨hx, hb, hml, hown, hw⟩ (c_M_inner l D u cI cZ gS gK gI gO gF gE (cpn gQ gS yn) 0 yn yr ym yd yn 0 yc (by omega) H.size) (cwV 0 hw g_M_68 rfl rfl rfl ⟨rfl, by decide, by decide, by decide +kernel⟩ ⟨by decide, by decide⟩) ⟨PW.blind, va_recv (q := (RM, FM, 15)) (ci := 1) (q0 := 0) hK hP rfl rfl, PW.pre hP hK hD hS hA hE⟩ rfl rfl hl.1 rfl (lv_room (Nat.le_of_ble_eq_true rfl)) d_M_otherwise_51 ⟨by decide, by decide⟩) ?_
        refine nw_iald hx hb hK hP 4 0 rfl rfl (k := yr - 1) (by omega) (by decide) d_M_otherwise_54 ?_
        have b54 := giO (yr - 1)
        refine cl_w (v := none) hD hS hA (W.runV (b := u 0) (C := "TypeStackModel") (As := [.int (nI (gO (yr - 1)))]) (rest := []) ⟨hx, hb, hml, hown, hw⟩ (c_M_takeAll l D u cI cZ gS gK gI gO gF gE (cpn gQ gS yn) 0 yn yr ym yd yn 0 yc (gO (yr - 1)) (by omega) (by omega) (by omega) (by omega) giF giE giS H.size) (cwV 1 hw g_M_87 rfl rfl rfl ⟨rfl, by decide, by decide, by decide +kernel⟩ ⟨by decide, by decide⟩) ⟨PW.blind, va_recv (q := (RM, FM, 15)) (ci := 1) (q0 := 0) hK hP rfl rfl, PW.pre hP hK hD hS hA hE⟩ rfl rfl hl.1 rfl (lv_room (Nat.le_of_ble_eq_true rfl)) d_M_otherwise_55 ⟨by decide, by decide⟩) (fun H locs hP hD hS => ?_)
        have hP : va_P D cls2 (wM u cI cZ gS gK gI gO gF gE (cpn gQ gS yn) 0 ((tA (gF (yr - 1)) (gE (yr - 1)) gS 6 (gO (yr - 1)) (yn, yc, 0)).1) yr ym yd yn ((tA (gF (yr - 1)) (gE (yr - 1)) gS 6 (gO (yr - 1)) (yn, yc, 0)).2.2) ((tA (gF (yr - 1)) (gE (yr - 1)) gS 6 (gO (yr - 1)) (yn, yc, 0)).2.1)) H := hP
        have hD : va_D (va_A (wM u cI cZ gS gK gI gO gF gE gQ yt yn yr ym yd yk yb yc) s.heap.size) (wM u cI cZ gS gK gI gO gF gE (cpn gQ gS yn) 0 ((tA (gF (yr - 1)) (gE (yr - 1)) gS 6 (gO (yr - 1)) (yn, yc, 0)).1) yr ym yd yn ((tA (gF (yr - 1)) (gE (yr - 1)) gS 6 (gO (yr - 1)) (yn, yc, 0)).2.2) ((tA (gF (yr - 1)) (gE (yr - 1)) gS 6 (gO (yr - 1)) (yn, yc, 0)).2.1)) := hD
        refine lv_aload_n hx hb d_M_otherwise_58 rfl (lv_at hl 0 rfl) ?_
        refine va_get (D := D) (ci := 1) (C := RM) (T := FM) (N := 15) (v := .int (nI ((tA (gF (yr - 1)) (gE (yr - 1)) gS 6 (gO (yr - 1)) (yn, yc, 0)).2.2))) hx hb hw inM hown hK hP 0 rfl rfl 13 (by decide) (hw _ kF_M_55) (fun _ h9 => h9) rfl d_M_otherwise_59 ?_
        refine nw_ifne hx hb (tgt := 81) d_M_otherwise_62 (by decide) (by omega) (fun h62 => ?_) (fun h62 => ?_)
        · skip
          have ej : jw (gF (yr - 1)) (hbL (gF (yr - 1)) (gE (yr - 1)) gS 6 yn (gO (yr - 1))) = some ISE := jw_0 (tA_no h62)
          refine lv_aload_n hx hb d_M_otherwise_81 rfl (lv_at hl 0 rfl) ?_
          refine lv_iconst (v := nI 3) hx hb d_M_otherwise_82 (by decide) ?_
          refine cl_w (v := some (.int (nI 0))) hD hS hA (W.runV (b := u 0) (C := "TypeStackModel") (As := [.int (nI 3)]) (rest := []) ⟨hx, hb, hml, hown, hw⟩ (c_M_undo l D u cI cZ gS gK gI gO gF gE (cpn gQ gS yn) 0 ((tA (gF (yr - 1)) (gE (yr - 1)) gS 6 (gO (yr - 1)) (yn, yc, 0)).1) yr ym yd yn ((tA (gF (yr - 1)) (gE (yr - 1)) gS 6 (gO (yr - 1)) (yn, yc, 0)).2.2) ((tA (gF (yr - 1)) (gE (yr - 1)) gS 6 (gO (yr - 1)) (yn, yc, 0)).2.1) 3 (by omega) H.size) (cwV 1 hw g_M_90 rfl rfl rfl ⟨rfl, by decide, by decide, by decide +kernel⟩ ⟨by decide, by decide⟩) ⟨PW.blind, va_recv (q := (RM, FM, 15)) (ci := 1) (q0 := 0) hK hP rfl rfl, PW.pre hP hK hD hS hA hE⟩ rfl rfl hl.1 rfl (lv_room (Nat.le_of_ble_eq_true rfl)) d_M_otherwise_83 ⟨by decide, by decide⟩) (fun H locs hP hD hS => ?_)
          have hP : va_P D cls2 (wM u cI cZ (cpn gS (cpn gQ gS yn) yn) gK gI gO gF gE (cpn gQ gS yn) 3 yn yr ym yd yn ((tA (gF (yr - 1)) (gE (yr - 1)) gS 6 (gO (yr - 1)) (yn, yc, 0)).2.2) ((tA (gF (yr - 1)) (gE (yr - 1)) gS 6 (gO (yr - 1)) (yn, yc, 0)).2.1)) H := hP
          have hD : va_D (va_A (wM u cI cZ gS gK gI gO gF gE gQ yt yn yr ym yd yk yb yc) s.heap.size) (wM u cI cZ (cpn gS (cpn gQ gS yn) yn) gK gI gO gF gE (cpn gQ gS yn) 3 yn yr ym yd yn ((tA (gF (yr - 1)) (gE (yr - 1)) gS 6 (gO (yr - 1)) (yn, yc, 0)).2.2) ((tA (gF (yr - 1)) (gE (yr - 1)) gS 6 (gO (yr - 1)) (yn, yc, 0)).2.1)) := hD
          refine lv_pop hx hb d_M_otherwise_86 rfl ?_
          have her : orE (nf yr) (orE (ifE (gK (yr - 1))) (jw (gF (yr - 1)) (hbL (gF (yr - 1)) (gE (yr - 1)) gS 6 yn (gO (yr - 1))))) = some ISE := by rw [ef, ei, ej] <;> rfl
          exact W.vret hx hb hrt (fun t ht9 _ => ⟨⟨cpn gS (cpn gQ gS yn) yn, gK, gI, gO, gF, gE, cpn gQ gS yn, 3, yn, yr, ym, yd, yn, (tA (gF (yr - 1)) (gE (yr - 1)) gS 6 (gO (yr - 1)) (yn, yc, 0)).2.2, (tA (gF (yr - 1)) (gE (yr - 1)) gS 6 (gO (yr - 1)) (yn, yc, 0)).2.1, none, rfl, ⟨fun he => (by rw [her] at he; cases he), fun E he => by rw [her] at he; cases he; exact ⟨by decide +kernel, rfl, rel_undo⟩⟩, im_undo hi giS, by rw [ht9]; exact hP, hD⟩, hS.F ht9⟩) hS.2.2 d_M_otherwise_87
        · skip
          have ht : hbL (gF (yr - 1)) (gE (yr - 1)) gS 6 yn (gO (yr - 1)) = some (tA (gF (yr - 1)) (gE (yr - 1)) gS 6 (gO (yr - 1)) (yn, yc, 0)).1 := tA_ok h62
          refine lv_aload_n hx hb d_M_otherwise_65 rfl (lv_at hl 0 rfl) ?_
          refine va_get (D := D) (ci := 1) (C := RM) (T := FM) (N := 15) (v := .int (nI ((tA (gF (yr - 1)) (gE (yr - 1)) gS 6 (gO (yr - 1)) (yn, yc, 0)).1))) hx hb hw inM hown hK hP 0 rfl rfl 7 (by decide) (hw _ kF_M_40) (fun _ h9 => h9) rfl d_M_otherwise_66 ?_
          refine lv_aload_n hx hb d_M_otherwise_69 rfl (lv_at hl 0 rfl) ?_
          refine va_get (D := D) (ci := 1) (C := RM) (T := FM) (N := 15) (v := .ref (u 5)) hx hb hw inM hown hK hP 0 rfl rfl 5 (by decide) (hw _ kF_M_22) (fun _ h9 => h9) rfl d_M_otherwise_70 ?_
          refine lv_aload_n hx hb d_M_otherwise_73 rfl (lv_at hl 0 rfl) ?_
          refine cl_r (v := some (.int (nI (yr - 1)))) (W.runV (b := u 0) (C := "TypeStackModel") (As := []) (rest := [.ref (u 5), .int (nI ((tA (gF (yr - 1)) (gE (yr - 1)) gS 6 (gO (yr - 1)) (yn, yc, 0)).1))]) ⟨hx, hb, hml, hown, hw⟩ (c_M_inner l D u cI cZ gS gK gI gO gF gE (cpn gQ gS yn) 0 ((tA (gF (yr - 1)) (gE (yr - 1)) gS 6 (gO (yr - 1)) (yn, yc, 0)).1) yr ym yd yn ((tA (gF (yr - 1)) (gE (yr - 1)) gS 6 (gO (yr - 1)) (yn, yc, 0)).2.2) ((tA (gF (yr - 1)) (gE (yr - 1)) gS 6 (gO (yr - 1)) (yn, yc, 0)).2.1) (by omega) H.size) (cwV 0 hw g_M_68 rfl rfl rfl ⟨rfl, by decide, by decide, by decide +kernel⟩ ⟨by decide, by decide⟩) ⟨PW.blind, va_recv (q := (RM, FM, 15)) (ci := 1) (q0 := 0) hK hP rfl rfl, PW.pre hP hK hD hS hA hE⟩ rfl rfl hl.1 rfl (lv_room (Nat.le_of_ble_eq_true rfl)) d_M_otherwise_74 ⟨by decide, by decide⟩) ?_
          refine nw_iald hx hb hK hP 5 0 rfl rfl (k := yr - 1) (by omega) (by decide) d_M_otherwise_77 ?_
          have b77 := giF (yr - 1)
          refine nw_le hx hb (tgt := 88) d_M_otherwise_78 (by decide) (by omega) (by omega) (fun h78 => ?_) (fun h78 => ?_)
          · skip
            have ej : jw (gF (yr - 1)) (hbL (gF (yr - 1)) (gE (yr - 1)) gS 6 yn (gO (yr - 1))) = none := jw_t ht h78
            have hge := hbL_ge (X := ISE) (hfl (by omega)) (show xo ISE (hbL (gF (yr - 1)) (gE (yr - 1)) gS 6 yn (gO (yr - 1))) = none by rw [ht]; rfl)
            rw [ht] at hge
            have hnF : (tA (gF (yr - 1)) (gE (yr - 1)) gS 6 (gO (yr - 1)) (yn, yc, 0)).1 = gF (yr - 1) := Nat.le_antisymm h78 hge
            have hro1 := hro (yr - 1) (by omega)
            refine lv_aload_n hx hb d_M_otherwise_88 rfl (lv_at hl 0 rfl) ?_
            refine va_get (D := D) (ci := 1) (C := RM) (T := FM) (N := 15) (v := .ref (u 2)) hx hb hw inM hown hK hP 0 rfl rfl 2 (by decide) (hw _ kF_M_13) (fun _ h9 => h9) rfl d_M_otherwise_89 ?_
            refine lv_aload_n hx hb d_M_otherwise_92 rfl (lv_at hl 0 rfl) ?_
            refine cl_r (v := some (.int (nI (yr - 1)))) (W.runV (b := u 0) (C := "TypeStackModel") (As := []) (rest := [.ref (u 2)]) ⟨hx, hb, hml, hown, hw⟩ (c_M_inner l D u cI cZ gS gK gI gO gF gE (cpn gQ gS yn) 0 ((tA (gF (yr - 1)) (gE (yr - 1)) gS 6 (gO (yr - 1)) (yn, yc, 0)).1) yr ym yd yn ((tA (gF (yr - 1)) (gE (yr - 1)) gS 6 (gO (yr - 1)) (yn, yc, 0)).2.2) ((tA (gF (yr - 1)) (gE (yr - 1)) gS 6 (gO (yr - 1)) (yn, yc, 0)).2.1) (by omega) H.size) (cwV 0 hw g_M_68 rfl rfl rfl ⟨rfl, by decide, by decide, by decide +kernel⟩ ⟨by decide, by decide⟩) ⟨PW.blind, va_recv (q := (RM, FM, 15)) (ci := 1) (q0 := 0) hK hP rfl rfl, PW.pre hP hK hD hS hA hE⟩ rfl rfl hl.1 rfl (lv_room (Nat.le_of_ble_eq_true rfl)) d_M_otherwise_93 ⟨by decide, by decide⟩) ?_
            refine lv_iconst (v := nI 3) hx hb d_M_otherwise_96 (by decide) ?_
            refine nw_iast hx hb hK hP hD hS 2 0 rfl rfl (k := yr - 1) (x := 3) (by omega) (by decide) d_M_otherwise_97 (fun H locs hP hD hS => ?_)
            have hP : va_P D cls2 (wM u cI cZ gS (va_up gK (yr - 1) 3) gI gO gF gE (cpn gQ gS yn) 0 ((tA (gF (yr - 1)) (gE (yr - 1)) gS 6 (gO (yr - 1)) (yn, yc, 0)).1) yr ym yd yn ((tA (gF (yr - 1)) (gE (yr - 1)) gS 6 (gO (yr - 1)) (yn, yc, 0)).2.2) ((tA (gF (yr - 1)) (gE (yr - 1)) gS 6 (gO (yr - 1)) (yn, yc, 0)).2.1)) H := hP
            have hD : va_D (va_A (wM u cI cZ gS gK gI gO gF gE gQ yt yn yr ym yd yk yb yc) s.heap.size) (wM u cI cZ gS (va_up gK (yr - 1) 3) gI gO gF gE (cpn gQ gS yn) 0 ((tA (gF (yr - 1)) (gE (yr - 1)) gS 6 (gO (yr - 1)) (yn, yc, 0)).1) yr ym yd yn ((tA (gF (yr - 1)) (gE (yr - 1)) gS 6 (gO (yr - 1)) (yn, yc, 0)).2.2) ((tA (gF (yr - 1)) (gE (yr - 1)) gS 6 (gO (yr - 1)) (yn, yc, 0)).2.1)) := hD
            refine lv_aload_n hx hb d_M_otherwise_98 rfl (lv_at hl 0 rfl) ?_
            refine va_get (D := D) (ci := 1) (C := RM) (T := FM) (N := 15) (v := .ref (u 6)) hx hb hw inM hown hK hP 0 rfl rfl 6 (by decide) (hw _ kF_M_25) (fun _ h9 => h9) rfl d_M_otherwise_99 ?_
            refine lv_aload_n hx hb d_M_otherwise_102 rfl (lv_at hl 0 rfl) ?_
            refine cl_r (v := some (.int (nI (yr - 1)))) (W.runV (b := u 0) (C := "TypeStackModel") (As := []) (rest := [.ref (u 6)]) ⟨hx, hb, hml, hown, hw⟩ (c_M_inner l D u cI cZ gS (va_up gK (yr - 1) 3) gI gO gF gE (cpn gQ gS yn) 0 ((tA (gF (yr - 1)) (gE (yr - 1)) gS 6 (gO (yr - 1)) (yn, yc, 0)).1) yr ym yd yn ((tA (gF (yr - 1)) (gE (yr - 1)) gS 6 (gO (yr - 1)) (yn, yc, 0)).2.2) ((tA (gF (yr - 1)) (gE (yr - 1)) gS 6 (gO (yr - 1)) (yn, yc, 0)).2.1) (by omega) H.size) (cwV 0 hw g_M_68 rfl rfl rfl ⟨rfl, by decide, by decide, by decide +kernel⟩ ⟨by decide, by decide⟩) ⟨PW.blind, va_recv (q := (RM, FM, 15)) (ci := 1) (q0 := 0) hK hP rfl rfl, PW.pre hP hK hD hS hA hE⟩ rfl rfl hl.1 rfl (lv_room (Nat.le_of_ble_eq_true rfl)) d_M_otherwise_103 ⟨by decide, by decide⟩) ?_
            refine lv_iconst (v := nI 0) hx hb d_M_otherwise_106 (by decide) ?_
            refine nw_zast hx hb hK hP hD hS 6 1 rfl rfl (k := yr - 1) (x := 0) (by omega) (by decide) (by decide) d_M_otherwise_107 (fun H locs hP hD hS => ?_)
            have hP : va_P D cls2 (wM u cI cZ gS (va_up gK (yr - 1) 3) gI gO gF (va_up gE (yr - 1) 0) (cpn gQ gS yn) 0 ((tA (gF (yr - 1)) (gE (yr - 1)) gS 6 (gO (yr - 1)) (yn, yc, 0)).1) yr ym yd yn ((tA (gF (yr - 1)) (gE (yr - 1)) gS 6 (gO (yr - 1)) (yn, yc, 0)).2.2) ((tA (gF (yr - 1)) (gE (yr - 1)) gS 6 (gO (yr - 1)) (yn, yc, 0)).2.1)) H := hP
            have hD : va_D (va_A (wM u cI cZ gS gK gI gO gF gE gQ yt yn yr ym yd yk yb yc) s.heap.size) (wM u cI cZ gS (va_up gK (yr - 1) 3) gI gO gF (va_up gE (yr - 1) 0) (cpn gQ gS yn) 0 ((tA (gF (yr - 1)) (gE (yr - 1)) gS 6 (gO (yr - 1)) (yn, yc, 0)).1) yr ym yd yn ((tA (gF (yr - 1)) (gE (yr - 1)) gS 6 (gO (yr - 1)) (yn, yc, 0)).2.2) ((tA (gF (yr - 1)) (gE (yr - 1)) gS 6 (gO (yr - 1)) (yn, yc, 0)).2.1)) := hD
            refine lv_aload_n hx hb d_M_otherwise_108 rfl (lv_at hl 0 rfl) ?_
            refine lv_aload_n hx hb d_M_otherwise_109 rfl (lv_at hl 0 rfl) ?_
            refine va_get (D := D) (ci := 1) (C := RM) (T := FM) (N := 15) (v := .ref (u 3)) hx hb hw inM hown hK hP 0 rfl rfl 3 (by decide) (hw _ kF_M_16) (fun _ h9 => h9) rfl d_M_otherwise_110 ?_
            refine lv_aload_n hx hb d_M_otherwise_113 rfl (lv_at hl 0 rfl) ?_
            refine cl_r (v := some (.int (nI (yr - 1)))) (W.runV (b := u 0) (C := "TypeStackModel") (As := []) (rest := [.ref (u 3), .ref (u 0)]) ⟨hx, hb, hml, hown, hw⟩ (c_M_inner l D u cI cZ gS (va_up gK (yr - 1) 3) gI gO gF (va_up gE (yr - 1) 0) (cpn gQ gS yn) 0 ((tA (gF (yr - 1)) (gE (yr - 1)) gS 6 (gO (yr - 1)) (yn, yc, 0)).1) yr ym yd yn ((tA (gF (yr - 1)) (gE (yr - 1)) gS 6 (gO (yr - 1)) (yn, yc, 0)).2.2) ((tA (gF (yr - 1)) (gE (yr - 1)) gS 6 (gO (yr - 1)) (yn, yc, 0)).2.1) (by omega) H.size) (cwV 0 hw g_M_68 rfl rfl rfl ⟨rfl, by decide, by decide, by decide +kernel⟩ ⟨by decide, by decide⟩) ⟨PW.blind, va_recv (q := (RM, FM, 15)) (ci := 1) (q0 := 0) hK hP rfl rfl, PW.pre hP hK hD hS hA hE⟩ rfl rfl hl.1 rfl (lv_room (Nat.le_of_ble_eq_true rfl)) d_M_otherwise_114 ⟨by decide, by decide⟩) ?_
            refine nw_iald hx hb hK hP 3 0 rfl rfl (k := yr - 1) (by omega) (by decide) d_M_otherwise_117 ?_
            have b117 := giI (yr - 1)
            refine cl_w (v := none) hD hS hA (W.runV (b := u 0) (C := "TypeStackModel") (As := [.int (nI (gI (yr - 1)))]) (rest := []) ⟨hx, hb, hml, hown, hw⟩ (c_M_putAll l D u cI cZ gS (va_up gK (yr - 1) 3) gI gO gF (va_up gE (yr - 1) 0) (cpn gQ gS yn) 0 ((tA (gF (yr - 1)) (gE (yr - 1)) gS 6 (gO (yr - 1)) (yn, yc, 0)).1) yr ym yd yn ((tA (gF (yr - 1)) (gE (yr - 1)) gS 6 (gO (yr - 1)) (yn, yc, 0)).2.2) ((tA (gF (yr - 1)) (gE (yr - 1)) gS 6 (gO (yr - 1)) (yn, yc, 0)).2.1) (gI (yr - 1)) (by omega) (by omega) H.size) (cwV 1 hw g_M_94 rfl rfl rfl ⟨rfl, by decide, by decide, by decide +kernel⟩ ⟨by decide, by decide⟩) ⟨PW.blind, va_recv (q := (RM, FM, 15)) (ci := 1) (q0 := 0) hK hP rfl rfl, PW.pre hP hK hD hS hA hE⟩ rfl rfl hl.1 rfl (lv_room (Nat.le_of_ble_eq_true rfl)) d_M_otherwise_118 ⟨by decide, by decide⟩) (fun H locs hP hD hS => ?_)
            have hP : va_P D cls2 (wM u cI cZ (pl gS ((tA (gF (yr - 1)) (gE (yr - 1)) gS 6 (gO (yr - 1)) (yn, yc, 0)).1) (szL 6 (gI (yr - 1))) (gI (yr - 1))) (va_up gK (yr - 1) 3) gI gO gF (va_up gE (yr - 1) 0) (cpn gQ gS yn) 0 (((tA (gF (yr - 1)) (gE (yr - 1)) gS 6 (gO (yr - 1)) (yn, yc, 0)).1) + szL 6 (gI (yr - 1))) yr ym yd yn ((tA (gF (yr - 1)) (gE (yr - 1)) gS 6 (gO (yr - 1)) (yn, yc, 0)).2.2) ((tA (gF (yr - 1)) (gE (yr - 1)) gS 6 (gO (yr - 1)) (yn, yc, 0)).2.1)) H := hP
            have hD : va_D (va_A (wM u cI cZ gS gK gI gO gF gE gQ yt yn yr ym yd yk yb yc) s.heap.size) (wM u cI cZ (pl gS ((tA (gF (yr - 1)) (gE (yr - 1)) gS 6 (gO (yr - 1)) (yn, yc, 0)).1) (szL 6 (gI (yr - 1))) (gI (yr - 1))) (va_up gK (yr - 1) 3) gI gO gF (va_up gE (yr - 1) 0) (cpn gQ gS yn) 0 (((tA (gF (yr - 1)) (gE (yr - 1)) gS 6 (gO (yr - 1)) (yn, yc, 0)).1) + szL 6 (gI (yr - 1))) yr ym yd yn ((tA (gF (yr - 1)) (gE (yr - 1)) gS 6 (gO (yr - 1)) (yn, yc, 0)).2.2) ((tA (gF (yr - 1)) (gE (yr - 1)) gS 6 (gO (yr - 1)) (yn, yc, 0)).2.1)) := hD
            refine lv_aload_n hx hb d_M_otherwise_121 rfl (lv_at hl 0 rfl) ?_
            refine cl_w (v := none) hD hS hA (W.runV (b := u 0) (C := "TypeStackModel") (As := []) (rest := []) ⟨hx, hb, hml, hown, hw⟩ (c_M_well l D u cI cZ (pl gS ((tA (gF (yr - 1)) (gE (yr - 1)) gS 6 (gO (yr - 1)) (yn, yc, 0)).1) (szL 6 (gI (yr - 1))) (gI (yr - 1))) (va_up gK (yr - 1) 3) gI gO gF (va_up gE (yr - 1) 0) (cpn gQ gS yn) 0 (((tA (gF (yr - 1)) (gE (yr - 1)) gS 6 (gO (yr - 1)) (yn, yc, 0)).1) + szL 6 (gI (yr - 1))) yr ym yd yn ((tA (gF (yr - 1)) (gE (yr - 1)) gS 6 (gO (yr - 1)) (yn, yc, 0)).2.2) ((tA (gF (yr - 1)) (gE (yr - 1)) gS 6 (gO (yr - 1)) (yn, yc, 0)).2.1) (by omega) (by omega) H.size) (cwV 0 hw g_M_97 rfl rfl rfl ⟨rfl, by decide, by decide, by decide +kernel⟩ ⟨by decide, by decide⟩) ⟨PW.blind, va_recv (q := (RM, FM, 15)) (ci := 1) (q0 := 0) hK hP rfl rfl, PW.pre hP hK hD hS hA hE⟩ rfl rfl hl.1 rfl (lv_room (Nat.le_of_ble_eq_true rfl)) d_M_otherwise_122 ⟨by decide, by decide⟩) (fun H locs hP hD hS => ?_)
            have hP : va_P D cls2 (wM u cI cZ (pl gS ((tA (gF (yr - 1)) (gE (yr - 1)) gS 6 (gO (yr - 1)) (yn, yc, 0)).1) (szL 6 (gI (yr - 1))) (gI (yr - 1))) (va_up gK (yr - 1) 3) gI gO gF (va_up gE (yr - 1) 0) (cpn gQ gS yn) 0 (((tA (gF (yr - 1)) (gE (yr - 1)) gS 6 (gO (yr - 1)) (yn, yc, 0)).1) + szL 6 (gI (yr - 1))) yr (max ym (((tA (gF (yr - 1)) (gE (yr - 1)) gS 6 (gO (yr - 1)) (yn, yc, 0)).1) + szL 6 (gI (yr - 1)))) (yd + 1) yn ((tA (gF (yr - 1)) (gE (yr - 1)) gS 6 (gO (yr - 1)) (yn, yc, 0)).2.2) ((tA (gF (yr - 1)) (gE (yr - 1)) gS 6 (gO (yr - 1)) (yn, yc, 0)).2.1)) H := hP
            have hD : va_D (va_A (wM u cI cZ gS gK gI gO gF gE gQ yt yn yr ym yd yk yb yc) s.heap.size) (wM u cI cZ (pl gS ((tA (gF (yr - 1)) (gE (yr - 1)) gS 6 (gO (yr - 1)) (yn, yc, 0)).1) (szL 6 (gI (yr - 1))) (gI (yr - 1))) (va_up gK (yr - 1) 3) gI gO gF (va_up gE (yr - 1) 0) (cpn gQ gS yn) 0 (((tA (gF (yr - 1)) (gE (yr - 1)) gS 6 (gO (yr - 1)) (yn, yc, 0)).1) + szL 6 (gI (yr - 1))) yr (max ym (((tA (gF (yr - 1)) (gE (yr - 1)) gS 6 (gO (yr - 1)) (yn, yc, 0)).1) + szL 6 (gI (yr - 1)))) (yd + 1) yn ((tA (gF (yr - 1)) (gE (yr - 1)) gS 6 (gO (yr - 1)) (yn, yc, 0)).2.2) ((tA (gF (yr - 1)) (gE (yr - 1)) gS 6 (gO (yr - 1)) (yn, yc, 0)).2.1)) := hD
            have her : orE (nf yr) (orE (ifE (gK (yr - 1))) (jw (gF (yr - 1)) (hbL (gF (yr - 1)) (gE (yr - 1)) gS 6 yn (gO (yr - 1))))) = none := by rw [ef, ei, ej] <;> rfl
            exact W.vret hx hb hrt (fun t ht9 _ => ⟨⟨pl gS ((tA (gF (yr - 1)) (gE (yr - 1)) gS 6 (gO (yr - 1)) (yn, yc, 0)).1) (szL 6 (gI (yr - 1))) (gI (yr - 1)), va_up gK (yr - 1) 3, gI, gO, gF, va_up gE (yr - 1) 0, cpn gQ gS yn, 0, ((tA (gF (yr - 1)) (gE (yr - 1)) gS 6 (gO (yr - 1)) (yn, yc, 0)).1) + szL 6 (gI (yr - 1)), yr, max ym (((tA (gF (yr - 1)) (gE (yr - 1)) gS 6 (gO (yr - 1)) (yn, yc, 0)).1) + szL 6 (gI (yr - 1))), yd + 1, yn, (tA (gF (yr - 1)) (gE (yr - 1)) gS 6 (gO (yr - 1)) (yn, yc, 0)).2.2, (tA (gF (yr - 1)) (gE (yr - 1)) gS 6 (gO (yr - 1)) (yn, yc, 0)).2.1, none, rfl, ⟨fun _ => ⟨rfl, rfl, by rw [hnF]; exact rel_rf⟩, fun E he => by rw [her] at he; cases he⟩, ⟨pl_lt giS, im_upl giK (by decide), giI, giO, giF, im_up giE (by decide), by omega, by omega, gir⟩, by rw [ht9]; exact hP, hD⟩, hS.F ht9⟩) hS.2.2 d_M_otherwise_125
          · skip
            have ej : jw (gF (yr - 1)) (hbL (gF (yr - 1)) (gE (yr - 1)) gS 6 yn (gO (yr - 1))) = some ISE := jw_f ht h78
            refine lv_aload_n hx hb d_M_otherwise_81 rfl (lv_at hl 0 rfl) ?_
            refine lv_iconst (v := nI 3) hx hb d_M_otherwise_82 (by decide) ?_
            refine cl_w (v := some (.int (nI 0))) hD hS hA (W.runV (b := u 0) (C := "TypeStackModel") (As := [.int (nI 3)]) (rest := []) ⟨hx, hb, hml, hown, hw⟩ (c_M_undo l D u cI cZ gS gK gI gO gF gE (cpn gQ gS yn) 0 ((tA (gF (yr - 1)) (gE (yr - 1)) gS 6 (gO (yr - 1)) (yn, yc, 0)).1) yr ym yd yn ((tA (gF (yr - 1)) (gE (yr - 1)) gS 6 (gO (yr - 1)) (yn, yc, 0)).2.2) ((tA (gF (yr - 1)) (gE (yr - 1)) gS 6 (gO (yr - 1)) (yn, yc, 0)).2.1) 3 (by omega) H.size) (cwV 1 hw g_M_90 rfl rfl rfl ⟨rfl, by decide, by decide, by decide +kernel⟩ ⟨by decide, by decide⟩) ⟨PW.blind, va_recv (q := (RM, FM, 15)) (ci := 1) (q0 := 0) hK hP rfl rfl, PW.pre hP hK hD hS hA hE⟩ rfl rfl hl.1 rfl (lv_room (Nat.le_of_ble_eq_true rfl)) d_M_otherwise_83 ⟨by decide, by decide⟩) (fun H locs hP hD hS => ?_)
            have hP : va_P D cls2 (wM u cI cZ (cpn gS (cpn gQ gS yn) yn) gK gI gO gF gE (cpn gQ gS yn) 3 yn yr ym yd yn ((tA (gF (yr - 1)) (gE (yr - 1)) gS 6 (gO (yr - 1)) (yn, yc, 0)).2.2) ((tA (gF (yr - 1)) (gE (yr - 1)) gS 6 (gO (yr - 1)) (yn, yc, 0)).2.1)) H := hP
            have hD : va_D (va_A (wM u cI cZ gS gK gI gO gF gE gQ yt yn yr ym yd yk yb yc) s.heap.size) (wM u cI cZ (cpn gS (cpn gQ gS yn) yn) gK gI gO gF gE (cpn gQ gS yn) 3 yn yr ym yd yn ((tA (gF (yr - 1)) (gE (yr - 1)) gS 6 (gO (yr - 1)) (yn, yc, 0)).2.2) ((tA (gF (yr - 1)) (gE (yr - 1)) gS 6 (gO (yr - 1)) (yn, yc, 0)).2.1)) := hD
            refine lv_pop hx hb d_M_otherwise_86 rfl ?_
            have her : orE (nf yr) (orE (ifE (gK (yr - 1))) (jw (gF (yr - 1)) (hbL (gF (yr - 1)) (gE (yr - 1)) gS 6 yn (gO (yr - 1))))) = some ISE := by rw [ef, ei, ej] <;> rfl
            exact W.vret hx hb hrt (fun t ht9 _ => ⟨⟨cpn gS (cpn gQ gS yn) yn, gK, gI, gO, gF, gE, cpn gQ gS yn, 3, yn, yr, ym, yd, yn, (tA (gF (yr - 1)) (gE (yr - 1)) gS 6 (gO (yr - 1)) (yn, yc, 0)).2.2, (tA (gF (yr - 1)) (gE (yr - 1)) gS 6 (gO (yr - 1)) (yn, yc, 0)).2.1, none, rfl, ⟨fun he => (by rw [her] at he; cases he), fun E he => by rw [her] at he; cases he; exact ⟨by decide +kernel, rfl, rel_undo⟩⟩, im_undo hi giS, by rw [ht9]; exact hP, hD⟩, hS.F ht9⟩) hS.2.2 d_M_otherwise_87
      · skip
        exfalso; omega
    · skip
      have ei : ifE (gK (yr - 1)) = some UOE := if_neg h22
      refine lv_iconst (v := nI 2) hx hb d_M_otherwise_25 (by decide) ?_
      refine lv_goto hx hb d_M_otherwise_26 (tgt := 30) (by decide) ?_
      refine va_put (D := D) (ci := 1) (C := RM) (T := FM) (N := 15) (v := .int (nI 2)) (ty := .int) hx hb hw inM tM tM_ok nM hown hK hP hD hS 0 rfl rfl 0 (by decide) (hw _ kF_M_36) (fun _ h9 => h9) rfl (by decide +kernel) rfl rfl (Nat.le_of_ble_eq_true rfl) d_M_otherwise_30 (fun H locs hP hD hS => ?_)
      have hP : va_P D cls2 (wM u cI cZ gS gK gI gO gF gE gQ 2 yn yr ym yd yk yb yc) H := hP
      have hD : va_D (va_A (wM u cI cZ gS gK gI gO gF gE gQ yt yn yr ym yd yk yb yc) s.heap.size) (wM u cI cZ gS gK gI gO gF gE gQ 2 yn yr ym yd yk yb yc) := hD
      refine lv_aload_n hx hb d_M_otherwise_33 rfl (lv_at hl 0 rfl) ?_
      refine va_get (D := D) (ci := 1) (C := RM) (T := FM) (N := 15) (v := .int (nI 2)) hx hb hw inM hown hK hP 0 rfl rfl 0 (by decide) (hw _ kF_M_36) (fun _ h9 => h9) rfl d_M_otherwise_34 ?_
      refine nw_ifle hx hb (tgt := 41) d_M_otherwise_37 (by decide) (by omega) (fun h37 => ?_) (fun h37 => ?_)
      · skip
        exfalso; omega
      · skip
        have her : orE (nf yr) (orE (ifE (gK (yr - 1))) (jw (gF (yr - 1)) (hbL (gF (yr - 1)) (gE (yr - 1)) gS 6 yn (gO (yr - 1))))) = some UOE := by simp only [orE, ef, ei]
        exact W.vret hx hb hrt (fun t ht9 _ => ⟨⟨gS, gK, gI, gO, gF, gE, gQ, 2, yn, yr, ym, yd, yk, yb, yc, none, rfl, ⟨fun he => (by rw [her] at he; cases he), fun E he => by rw [her] at he; cases he; exact ⟨by decide +kernel, rfl, rel_rf⟩⟩, hi, by rw [ht9]; exact hP, hD⟩, hS.F ht9⟩) hS.2.2 d_M_otherwise_40
  · skip
    have ef : nf yr = some NSE := nf_no h5
    refine lv_iconst (v := nI 1) hx hb d_M_otherwise_8 (by decide) ?_
    refine lv_goto hx hb d_M_otherwise_9 (tgt := 30) (by decide) ?_
    refine va_put (D := D) (ci := 1) (C := RM) (T := FM) (N := 15) (v := .int (nI 1)) (ty := .int) hx hb hw inM tM tM_ok nM hown hK hP hD hS 0 rfl rfl 0 (by decide) (hw _ kF_M_36) (fun _ h9 => h9) rfl (by decide +kernel) rfl rfl (Nat.le_of_ble_eq_true rfl) d_M_otherwise_30 (fun H locs hP hD hS => ?_)
    have hP : va_P D cls2 (wM u cI cZ gS gK gI gO gF gE gQ 1 yn yr ym yd yk yb yc) H := hP
    have hD : va_D (va_A (wM u cI cZ gS gK gI gO gF gE gQ yt yn yr ym yd yk yb yc) s.heap.size) (wM u cI cZ gS gK gI gO gF gE gQ 1 yn yr ym yd yk yb yc) := hD
    refine lv_aload_n hx hb d_M_otherwise_33 rfl (lv_at hl 0 rfl) ?_
    refine va_get (D := D) (ci := 1) (C := RM) (T := FM) (N := 15) (v := .int (nI 1)) hx hb hw inM hown hK hP 0 rfl rfl 0 (by decide) (hw _ kF_M_36) (fun _ h9 => h9) rfl d_M_otherwise_34 ?_
    refine nw_ifle hx hb (tgt := 41) d_M_otherwise_37 (by decide) (by omega) (fun h37 => ?_) (fun h37 => ?_)
    · skip
      exfalso; omega
    · skip
      have her : orE (nf yr) (orE (ifE (gK (yr - 1))) (jw (gF (yr - 1)) (hbL (gF (yr - 1)) (gE (yr - 1)) gS 6 yn (gO (yr - 1))))) = some NSE := by simp only [orE, ef]
      exact W.vret hx hb hrt (fun t ht9 _ => ⟨⟨gS, gK, gI, gO, gF, gE, gQ, 1, yn, yr, ym, yd, yk, yb, yc, none, rfl, ⟨fun he => (by rw [her] at he; cases he), fun E he => by rw [her] at he; cases he; exact ⟨by decide +kernel, rfl, rel_rf⟩⟩, hi, by rw [ht9]; exact hP, hD⟩, hS.F ht9⟩) hS.2.2 d_M_otherwise_40

set_option maxHeartbeats 4000000 in
set_option maxRecDepth 100000 in
theorem c_M_end (l : Launch) (D : va_G) (u : Nat → Nat) (cI cZ : ClassId) (gS gK gI gO gF gE gQ : Nat → Nat) (yt yn yr ym yd yk yb yc : Nat) (hi : IM gS gK gI gO gF gE yn ym yr) (hfl : 1 ≤ yr → gF (yr - 1) ≤ yn) (hmo : yn ≤ ym) (sz : Nat) : Met l y_M_end w_M_end (rmR 4) (PW D [(cI, .int), (cZ, .boolean)] (wM u cI cZ gS gK gI gO gF gE gQ yt yn yr ym yd yk yb yc) sz [.ref (u 0)]) (QM D u cI cZ (wM u cI cZ gS gK gI gO gF gE gQ yt yn yr ym yd yk yb yc) sz (PMo (orE (nf yr) (orE (ifL (gK (yr - 1)) (gI (yr - 1)) (gO (yr - 1))) (orE (jw (gF (yr - 1)) (hbL (gF (yr - 1)) (gE (yr - 1)) gS 6 yn (gO (yr - 1)))) (rmE (gF (yr - 1) + szL 6 (gO (yr - 1))))))) (cdl [NSE, UOE, ISE, AE]) (some (.int (nI (yr - 1)))) (some (.int (nI 0))) (Rel (pl gS (gF (yr - 1)) (szL 6 (gO (yr - 1))) (gO (yr - 1))) gK gI gO gF gE ((gF (yr - 1)) + szL 6 (gO (yr - 1))) (max ym ((gF (yr - 1)) + szL 6 (gO (yr - 1)))) (yr - 1) (yd + 1)) (Rel gS gK gI gO gF gE yn ym yr yd))) 0 0 (va_A (wM u cI cZ gS gK gI gO gF gE gQ yt yn yr ym yd yk yb yc) sz) := by
  refine Met.ofW (cc := b_M_end) (maxL := 1) (ret := (some .int)) (by decide) rfl ?_
  intro p e s m args below meth c s₁ B hml hv
  obtain ⟨rfl, hsz, hP, hK, hD0, hE⟩ := hv
  have hx := B.exec
  have hb := B.bytes
  have hrt := B.returns
  have hts := atoms_spec (ws := w_M_end) B.pre
  have hw : ∀ w ∈ bw, w.before ([.ref (u 0)]).toArray s = true := fun w h => hts w (List.mem_cons_of_mem _ h)
  have hown : s.vm.findClass "TypeStackModel" = some m.cls := findClass_of_methodNamed B.named
  have hlocks := B.notSynchronized
  subst hsz
  have hD := hD0.self (sz := s.heap.size)
  have hA : ∀ q : Nat, s.heap.size ≤ q → va_A (wM u cI cZ gS gK gI gO gF gE gQ yt yn yr ym yd yk yb yc) s.heap.size q := fun q h => Or.inr h
  have hS : va_S (va_A (wM u cI cZ gS gK gI gO gF gE gQ yt yn yr ym yd yk yb yc) s.heap.size) s.heap s.heap [] := va_S.rf
  have hK0 := hK.sub (tys' := []) [] rfl
  have hl := lv_entry ([.ref (u 0)]) (n := 1) (Nat.le_of_ble_eq_true rfl)
  rw [lg_entry_eq]
  generalize (lg_sl ([.ref (u 0)]) ++ List.replicate (1 - (lg_sl ([.ref (u 0)])).length) Slot.unset).toArray = ls at hl ⊢
  have hl : lv_has ls 1 [(0, .ref (u 0))] := hl
  obtain ⟨giS, giK, giI, giO, giF, giE, gin, gim, gir⟩ := id hi
  refine lv_aload_n hx hb d_M_end_0 rfl (lv_at hl 0 rfl) ?_
  refine lv_aload_n hx hb d_M_end_1 rfl (lv_at hl 0 rfl) ?_
  refine va_get (D := D) (ci := 1) (C := RM) (T := FM) (N := 15) (v := .int (nI yr)) hx hb hw inM hown hK hP 0 rfl rfl 8 (by decide) (hw _ kF_M_43) (fun _ h9 => h9) rfl d_M_end_2 ?_
  refine nw_ifne hx hb (tgt := 12) d_M_end_5 (by decide) (by omega) (fun h5 => ?_) (fun h5 => ?_)
  · skip
    have ef : nf yr = none := nf_ok h5
    refine lv_aload_n hx hb d_M_end_12 rfl (lv_at hl 0 rfl) ?_
    refine va_get (D := D) (ci := 1) (C := RM) (T := FM) (N := 15) (v := .ref (u 2)) hx hb hw inM hown hK hP 0 rfl rfl 2 (by decide) (hw _ kF_M_13) (fun _ h9 => h9) rfl d_M_end_13 ?_
    refine lv_aload_n hx hb d_M_end_16 rfl (lv_at hl 0 rfl) ?_
    refine cl_r (v := some (.int (nI (yr - 1)))) (W.runV (b := u 0) (C := "TypeStackModel") (As := []) (rest := [.ref (u 2), .ref (u 0)]) ⟨hx, hb, hml, hown, hw⟩ (c_M_inner l D u cI cZ gS gK gI gO gF gE gQ yt yn yr ym yd yk yb yc (by omega) s.heap.size) (cwV 0 hw g_M_68 rfl rfl rfl ⟨rfl, by decide, by decide, by decide +kernel⟩ ⟨by decide, by decide⟩) ⟨PW.blind, va_recv (q := (RM, FM, 15)) (ci := 1) (q0 := 0) hK hP rfl rfl, PW.pre hP hK hD hS hA hE⟩ rfl rfl hl.1 rfl (lv_room (Nat.le_of_ble_eq_true rfl)) d_M_end_17 ⟨by decide, by decide⟩) ?_
    refine nw_iald hx hb hK hP 2 0 rfl rfl (k := yr - 1) (by omega) (by decide) d_M_end_20 ?_
    have b20 := giK (yr - 1)
    refine lv_iconst (v := nI 2) hx hb d_M_end_21 (by decide) ?_
    refine nw_ne hx hb (tgt := 50) d_M_end_22 (by decide) (by omega) (by omega) (fun h22 => ?_) (fun h22 => ?_)
    · skip
      have ei : ifL (gK (yr - 1)) (gI (yr - 1)) (gO (yr - 1)) = none := if_neg (fun q => h22 q.1)
      refine lv_iconst (v := nI 0) hx hb d_M_end_50 (by decide) ?_
      refine va_put (D := D) (ci := 1) (C := RM) (T := FM) (N := 15) (v := .int (nI 0)) (ty := .int) hx hb hw inM tM tM_ok nM hown hK hP hD hS 0 rfl rfl 0 (by decide) (hw _ kF_M_36) (fun _ h9 => h9) rfl (by decide +kernel) rfl rfl (Nat.le_of_ble_eq_true rfl) d_M_end_51 (fun H locs hP hD hS => ?_)
      have hP : va_P D cls2 (wM u cI cZ gS gK gI gO gF gE gQ 0 yn yr ym yd yk yb yc) H := hP
      have hD : va_D (va_A (wM u cI cZ gS gK gI gO gF gE gQ yt yn yr ym yd yk yb yc) s.heap.size) (wM u cI cZ gS gK gI gO gF gE gQ 0 yn yr ym yd yk yb yc) := hD
      refine lv_aload_n hx hb d_M_end_54 rfl (lv_at hl 0 rfl) ?_
      refine va_get (D := D) (ci := 1) (C := RM) (T := FM) (N := 15) (v := .int (nI 0)) hx hb hw inM hown hK hP 0 rfl rfl 0 (by decide) (hw _ kF_M_36) (fun _ h9 => h9) rfl d_M_end_55 ?_
      refine nw_ifle hx hb (tgt := 63) d_M_end_58 (by decide) (by omega) (fun h58 => ?_) (fun h58 => ?_)
      · skip
        have ho0 := giO (yr - 1)
        have hi0 := giI (yr - 1)
        have hf1 := giF (yr - 1)
        have hta := tA_le (gF (yr - 1)) (gE (yr - 1)) gS 6 (gO (yr - 1)) yn yc 0 (by decide)
        have hso := szL_le 6 (gO (yr - 1))
        have hsi := szL_le 6 (gI (yr - 1))
        refine lv_aload_n hx hb d_M_end_63 rfl (lv_at hl 0 rfl) ?_
        refine cl_w (v := none) hD hS hA (W.runV (b := u 0) (C := "TypeStackModel") (As := []) (rest := []) ⟨hx, hb, hml, hown, hw⟩ (c_M_keep l D u cI cZ gS gK gI gO gF gE gQ 0 yn yr ym yd yk yb yc (by omega) H.size) (cwV 0 hw g_M_84 rfl rfl rfl ⟨rfl, by decide, by decide, by decide +kernel⟩ ⟨by decide, by decide⟩) ⟨PW.blind, va_recv (q := (RM, FM, 15)) (ci := 1) (q0 := 0) hK hP rfl rfl, PW.pre hP hK hD hS hA hE⟩ rfl rfl hl.1 rfl (lv_room (Nat.le_of_ble_eq_true rfl)) d_M_end_64 ⟨by decide, by decide⟩) (fun H locs hP hD hS => ?_)
        have hP : va_P D cls2 (wM u cI cZ gS gK gI gO gF gE (cpn gQ gS yn) 0 yn yr ym yd yn 0 yc) H := hP
        have hD : va_D (va_A (wM u cI cZ gS gK gI gO gF gE gQ yt yn yr ym yd yk yb yc) s.heap.size) (wM u cI cZ gS gK gI gO gF gE (cpn gQ gS yn) 0 yn yr ym yd yn 0 yc) := hD
        refine lv_aload_n hx hb d_M_end_67 rfl (lv_at hl 0 rfl) ?_
        refine lv_aload_n hx hb d_M_end_68 rfl (lv_at hl 0 rfl) ?_
        refine va_get (D := D) (ci := 1) (C := RM) (T := FM) (N := 15) (v := .ref (u 4)) hx hb hw inM hown hK hP 0 rfl rfl 4 (by decide) (hw _ kF_M_19) (fun _ h9 => h9) rfl d_M_end_69 ?_
        refine lv_aload_n hx hb d_M_end_72 rfl (lv_at hl 0 rfl) ?_
        refine cl_r (v := some (.int (nI (yr - 1)))) (W.runV (b := u 0) (C := "TypeStackModel") (As := []) (rest := [.ref (u 4), .ref (u 0)]) ⟨hx, hb, hml, hown, hw⟩ (c_M_inner l D u cI cZ gS gK gI gO gF gE (cpn gQ gS yn) 0 yn yr ym yd yn 0 yc (by omega) H.size) (cwV 0 hw g_M_68 rfl rfl rfl ⟨rfl, by decide, by decide, by decide +kernel⟩ ⟨by decide, by decide⟩) ⟨PW.blind, va_recv (q := (RM, FM, 15)) (ci := 1) (q0 := 0) hK hP rfl rfl, PW.pre hP hK hD hS hA hE⟩ rfl rfl hl.1 rfl (lv_room (Nat.le_of_ble_eq_true rfl)) d_M_end_73 ⟨by decide, by decide⟩) ?_
        refine nw_iald hx hb hK hP 4 0 rfl rfl (k := yr - 1) (by omega) (by decide) d_M_end_76 ?_
        have b76 := giO (yr - 1)
        refine cl_w (v := none) hD hS hA (W.runV (b := u 0) (C := "TypeStackModel") (As := [.int (nI (gO (yr - 1)))]) (rest := []) ⟨hx, hb, hml, hown, hw⟩ (c_M_takeAll l D u cI cZ gS gK gI gO gF gE (cpn gQ gS yn) 0 yn yr ym yd yn 0 yc (gO (yr - 1)) (by omega) (by omega) (by omega) (by omega) giF giE giS H.size) (cwV 1 hw g_M_87 rfl rfl rfl ⟨rfl, by decide, by decide, by decide +kernel⟩ ⟨by decide, by decide⟩) ⟨PW.blind, va_recv (q := (RM, FM, 15)) (ci := 1) (q0 := 0) hK hP rfl rfl, PW.pre hP hK hD hS hA hE⟩ rfl rfl hl.1 rfl (lv_room (Nat.le_of_ble_eq_true rfl)) d_M_end_77 ⟨by decide, by decide⟩) (fun H locs hP hD hS => ?_)
        have hP : va_P D cls2 (wM u cI cZ gS gK gI gO gF gE (cpn gQ gS yn) 0 ((tA (gF (yr - 1)) (gE (yr - 1)) gS 6 (gO (yr - 1)) (yn, yc, 0)).1) yr ym yd yn ((tA (gF (yr - 1)) (gE (yr - 1)) gS 6 (gO (yr - 1)) (yn, yc, 0)).2.2) ((tA (gF (yr - 1)) (gE (yr - 1)) gS 6 (gO (yr - 1)) (yn, yc, 0)).2.1)) H := hP
        have hD : va_D (va_A (wM u cI cZ gS gK gI gO gF gE gQ yt yn yr ym yd yk yb yc) s.heap.size) (wM u cI cZ gS gK gI gO gF gE (cpn gQ gS yn) 0 ((tA (gF (yr - 1)) (gE (yr - 1)) gS 6 (gO (yr - 1)) (yn, yc, 0)).1) yr ym yd yn ((tA (gF (yr - 1)) (gE (yr - 1)) gS 6 (gO (yr - 1)) (yn, yc, 0)).2.2) ((tA (gF (yr - 1)) (gE (yr - 1)) gS 6 (gO (yr - 1)) (yn, yc, 0)).2.1)) := hD
        refine lv_aload_n hx hb d_M_end_80 rfl (lv_at hl 0 rfl) ?_
        refine va_get (D := D) (ci := 1) (C := RM) (T := FM) (N := 15) (v := .int (nI ((tA (gF (yr - 1)) (gE (yr - 1)) gS 6 (gO (yr - 1)) (yn, yc, 0)).2.2))) hx hb hw inM hown hK hP 0 rfl rfl 13 (by decide) (hw _ kF_M_55) (fun _ h9 => h9) rfl d_M_end_81 ?_
        refine nw_ifne hx hb (tgt := 103) d_M_end_84 (by decide) (by omega) (fun h84 => ?_) (fun h84 => ?_)
        · skip
          have ej : jw (gF (yr - 1)) (hbL (gF (yr - 1)) (gE (yr - 1)) gS 6 yn (gO (yr - 1))) = some ISE := jw_0 (tA_no h84)
          refine lv_aload_n hx hb d_M_end_103 rfl (lv_at hl 0 rfl) ?_
          refine lv_iconst (v := nI 3) hx hb d_M_end_104 (by decide) ?_
          refine cl_w (v := some (.int (nI 0))) hD hS hA (W.runV (b := u 0) (C := "TypeStackModel") (As := [.int (nI 3)]) (rest := []) ⟨hx, hb, hml, hown, hw⟩ (c_M_undo l D u cI cZ gS gK gI gO gF gE (cpn gQ gS yn) 0 ((tA (gF (yr - 1)) (gE (yr - 1)) gS 6 (gO (yr - 1)) (yn, yc, 0)).1) yr ym yd yn ((tA (gF (yr - 1)) (gE (yr - 1)) gS 6 (gO (yr - 1)) (yn, yc, 0)).2.2) ((tA (gF (yr - 1)) (gE (yr - 1)) gS 6 (gO (yr - 1)) (yn, yc, 0)).2.1) 3 (by omega) H.size) (cwV 1 hw g_M_90 rfl rfl rfl ⟨rfl, by decide, by decide, by decide +kernel⟩ ⟨by decide, by decide⟩) ⟨PW.blind, va_recv (q := (RM, FM, 15)) (ci := 1) (q0 := 0) hK hP rfl rfl, PW.pre hP hK hD hS hA hE⟩ rfl rfl hl.1 rfl (lv_room (Nat.le_of_ble_eq_true rfl)) d_M_end_105 ⟨by decide, by decide⟩) (fun H locs hP hD hS => ?_)
          have hP : va_P D cls2 (wM u cI cZ (cpn gS (cpn gQ gS yn) yn) gK gI gO gF gE (cpn gQ gS yn) 3 yn yr ym yd yn ((tA (gF (yr - 1)) (gE (yr - 1)) gS 6 (gO (yr - 1)) (yn, yc, 0)).2.2) ((tA (gF (yr - 1)) (gE (yr - 1)) gS 6 (gO (yr - 1)) (yn, yc, 0)).2.1)) H := hP
          have hD : va_D (va_A (wM u cI cZ gS gK gI gO gF gE gQ yt yn yr ym yd yk yb yc) s.heap.size) (wM u cI cZ (cpn gS (cpn gQ gS yn) yn) gK gI gO gF gE (cpn gQ gS yn) 3 yn yr ym yd yn ((tA (gF (yr - 1)) (gE (yr - 1)) gS 6 (gO (yr - 1)) (yn, yc, 0)).2.2) ((tA (gF (yr - 1)) (gE (yr - 1)) gS 6 (gO (yr - 1)) (yn, yc, 0)).2.1)) := hD
          have her : orE (nf yr) (orE (ifL (gK (yr - 1)) (gI (yr - 1)) (gO (yr - 1))) (orE (jw (gF (yr - 1)) (hbL (gF (yr - 1)) (gE (yr - 1)) gS 6 yn (gO (yr - 1)))) (rmE (gF (yr - 1) + szL 6 (gO (yr - 1)))))) = some ISE := by rw [ef, ei, ej] <;> rfl
          exact W.iret hx hb hrt (fun t ht9 _ => ⟨⟨cpn gS (cpn gQ gS yn) yn, gK, gI, gO, gF, gE, cpn gQ gS yn, 3, yn, yr, ym, yd, yn, (tA (gF (yr - 1)) (gE (yr - 1)) gS 6 (gO (yr - 1)) (yn, yc, 0)).2.2, (tA (gF (yr - 1)) (gE (yr - 1)) gS 6 (gO (yr - 1)) (yn, yc, 0)).2.1, some (.int (nI 0)), rfl, ⟨fun he => (by rw [her] at he; cases he), fun E he => by rw [her] at he; cases he; exact ⟨by decide +kernel, rfl, rel_undo⟩⟩, im_undo hi giS, by rw [ht9]; exact hP, hD⟩, hS.F ht9⟩) hS.2.2 d_M_end_108
        · skip
          have ht : hbL (gF (yr - 1)) (gE (yr - 1)) gS 6 yn (gO (yr - 1)) = some (tA (gF (yr - 1)) (gE (yr - 1)) gS 6 (gO (yr - 1)) (yn, yc, 0)).1 := tA_ok h84
          refine lv_aload_n hx hb d_M_end_87 rfl (lv_at hl 0 rfl) ?_
          refine va_get (D := D) (ci := 1) (C := RM) (T := FM) (N := 15) (v := .int (nI ((tA (gF (yr - 1)) (gE (yr - 1)) gS 6 (gO (yr - 1)) (yn, yc, 0)).1))) hx hb hw inM hown hK hP 0 rfl rfl 7 (by decide) (hw _ kF_M_40) (fun _ h9 => h9) rfl d_M_end_88 ?_
          refine lv_aload_n hx hb d_M_end_91 rfl (lv_at hl 0 rfl) ?_
          refine va_get (D := D) (ci := 1) (C := RM) (T := FM) (N := 15) (v := .ref (u 5)) hx hb hw inM hown hK hP 0 rfl rfl 5 (by decide) (hw _ kF_M_22) (fun _ h9 => h9) rfl d_M_end_92 ?_
          refine lv_aload_n hx hb d_M_end_95 rfl (lv_at hl 0 rfl) ?_
          refine cl_r (v := some (.int (nI (yr - 1)))) (W.runV (b := u 0) (C := "TypeStackModel") (As := []) (rest := [.ref (u 5), .int (nI ((tA (gF (yr - 1)) (gE (yr - 1)) gS 6 (gO (yr - 1)) (yn, yc, 0)).1))]) ⟨hx, hb, hml, hown, hw⟩ (c_M_inner l D u cI cZ gS gK gI gO gF gE (cpn gQ gS yn) 0 ((tA (gF (yr - 1)) (gE (yr - 1)) gS 6 (gO (yr - 1)) (yn, yc, 0)).1) yr ym yd yn ((tA (gF (yr - 1)) (gE (yr - 1)) gS 6 (gO (yr - 1)) (yn, yc, 0)).2.2) ((tA (gF (yr - 1)) (gE (yr - 1)) gS 6 (gO (yr - 1)) (yn, yc, 0)).2.1) (by omega) H.size) (cwV 0 hw g_M_68 rfl rfl rfl ⟨rfl, by decide, by decide, by decide +kernel⟩ ⟨by decide, by decide⟩) ⟨PW.blind, va_recv (q := (RM, FM, 15)) (ci := 1) (q0 := 0) hK hP rfl rfl, PW.pre hP hK hD hS hA hE⟩ rfl rfl hl.1 rfl (lv_room (Nat.le_of_ble_eq_true rfl)) d_M_end_96 ⟨by decide, by decide⟩) ?_
          refine nw_iald hx hb hK hP 5 0 rfl rfl (k := yr - 1) (by omega) (by decide) d_M_end_99 ?_
          have b99 := giF (yr - 1)
          refine nw_le hx hb (tgt := 109) d_M_end_100 (by decide) (by omega) (by omega) (fun h100 => ?_) (fun h100 => ?_)
          · skip
            have ej : jw (gF (yr - 1)) (hbL (gF (yr - 1)) (gE (yr - 1)) gS 6 yn (gO (yr - 1))) = none := jw_t ht h100
            have hge := hbL_ge (X := ISE) (hfl (by omega)) (show xo ISE (hbL (gF (yr - 1)) (gE (yr - 1)) gS 6 yn (gO (yr - 1))) = none by rw [ht]; rfl)
            rw [ht] at hge
            have hnF : (tA (gF (yr - 1)) (gE (yr - 1)) gS 6 (gO (yr - 1)) (yn, yc, 0)).1 = gF (yr - 1) := Nat.le_antisymm h100 hge
            refine lv_aload_n hx hb d_M_end_109 rfl (lv_at hl 0 rfl) ?_
            refine lv_aload_n hx hb d_M_end_110 rfl (lv_at hl 0 rfl) ?_
            refine va_get (D := D) (ci := 1) (C := RM) (T := FM) (N := 15) (v := .ref (u 4)) hx hb hw inM hown hK hP 0 rfl rfl 4 (by decide) (hw _ kF_M_19) (fun _ h9 => h9) rfl d_M_end_111 ?_
            refine lv_aload_n hx hb d_M_end_114 rfl (lv_at hl 0 rfl) ?_
            refine cl_r (v := some (.int (nI (yr - 1)))) (W.runV (b := u 0) (C := "TypeStackModel") (As := []) (rest := [.ref (u 4), .ref (u 0)]) ⟨hx, hb, hml, hown, hw⟩ (c_M_inner l D u cI cZ gS gK gI gO gF gE (cpn gQ gS yn) 0 ((tA (gF (yr - 1)) (gE (yr - 1)) gS 6 (gO (yr - 1)) (yn, yc, 0)).1) yr ym yd yn ((tA (gF (yr - 1)) (gE (yr - 1)) gS 6 (gO (yr - 1)) (yn, yc, 0)).2.2) ((tA (gF (yr - 1)) (gE (yr - 1)) gS 6 (gO (yr - 1)) (yn, yc, 0)).2.1) (by omega) H.size) (cwV 0 hw g_M_68 rfl rfl rfl ⟨rfl, by decide, by decide, by decide +kernel⟩ ⟨by decide, by decide⟩) ⟨PW.blind, va_recv (q := (RM, FM, 15)) (ci := 1) (q0 := 0) hK hP rfl rfl, PW.pre hP hK hD hS hA hE⟩ rfl rfl hl.1 rfl (lv_room (Nat.le_of_ble_eq_true rfl)) d_M_end_115 ⟨by decide, by decide⟩) ?_
            refine nw_iald hx hb hK hP 4 0 rfl rfl (k := yr - 1) (by omega) (by decide) d_M_end_118 ?_
            have b118 := giO (yr - 1)
            refine cl_w (v := none) hD hS hA (W.runV (b := u 0) (C := "TypeStackModel") (As := [.int (nI (gO (yr - 1)))]) (rest := []) ⟨hx, hb, hml, hown, hw⟩ (c_M_putAll l D u cI cZ gS gK gI gO gF gE (cpn gQ gS yn) 0 ((tA (gF (yr - 1)) (gE (yr - 1)) gS 6 (gO (yr - 1)) (yn, yc, 0)).1) yr ym yd yn ((tA (gF (yr - 1)) (gE (yr - 1)) gS 6 (gO (yr - 1)) (yn, yc, 0)).2.2) ((tA (gF (yr - 1)) (gE (yr - 1)) gS 6 (gO (yr - 1)) (yn, yc, 0)).2.1) (gO (yr - 1)) (by omega) (by omega) H.size) (cwV 1 hw g_M_94 rfl rfl rfl ⟨rfl, by decide, by decide, by decide +kernel⟩ ⟨by decide, by decide⟩) ⟨PW.blind, va_recv (q := (RM, FM, 15)) (ci := 1) (q0 := 0) hK hP rfl rfl, PW.pre hP hK hD hS hA hE⟩ rfl rfl hl.1 rfl (lv_room (Nat.le_of_ble_eq_true rfl)) d_M_end_119 ⟨by decide, by decide⟩) (fun H locs hP hD hS => ?_)
            have hP : va_P D cls2 (wM u cI cZ (pl gS ((tA (gF (yr - 1)) (gE (yr - 1)) gS 6 (gO (yr - 1)) (yn, yc, 0)).1) (szL 6 (gO (yr - 1))) (gO (yr - 1))) gK gI gO gF gE (cpn gQ gS yn) 0 (((tA (gF (yr - 1)) (gE (yr - 1)) gS 6 (gO (yr - 1)) (yn, yc, 0)).1) + szL 6 (gO (yr - 1))) yr ym yd yn ((tA (gF (yr - 1)) (gE (yr - 1)) gS 6 (gO (yr - 1)) (yn, yc, 0)).2.2) ((tA (gF (yr - 1)) (gE (yr - 1)) gS 6 (gO (yr - 1)) (yn, yc, 0)).2.1)) H := hP
            have hD : va_D (va_A (wM u cI cZ gS gK gI gO gF gE gQ yt yn yr ym yd yk yb yc) s.heap.size) (wM u cI cZ (pl gS ((tA (gF (yr - 1)) (gE (yr - 1)) gS 6 (gO (yr - 1)) (yn, yc, 0)).1) (szL 6 (gO (yr - 1))) (gO (yr - 1))) gK gI gO gF gE (cpn gQ gS yn) 0 (((tA (gF (yr - 1)) (gE (yr - 1)) gS 6 (gO (yr - 1)) (yn, yc, 0)).1) + szL 6 (gO (yr - 1))) yr ym yd yn ((tA (gF (yr - 1)) (gE (yr - 1)) gS 6 (gO (yr - 1)) (yn, yc, 0)).2.2) ((tA (gF (yr - 1)) (gE (yr - 1)) gS 6 (gO (yr - 1)) (yn, yc, 0)).2.1)) := hD
            refine lv_aload_n hx hb d_M_end_122 rfl (lv_at hl 0 rfl) ?_
            refine va_get (D := D) (ci := 1) (C := RM) (T := FM) (N := 15) (v := .int (nI (((tA (gF (yr - 1)) (gE (yr - 1)) gS 6 (gO (yr - 1)) (yn, yc, 0)).1) + szL 6 (gO (yr - 1))))) hx hb hw inM hown hK hP 0 rfl rfl 7 (by decide) (hw _ kF_M_40) (fun _ h9 => h9) rfl d_M_end_123 ?_
            refine lv_sipush (v := nI 300) hx hb d_M_end_126 (by decide) ?_
            refine nw_le hx hb (tgt := 138) d_M_end_129 (by decide) (by omega) (by omega) (fun h129 => ?_) (fun h129 => ?_)
            · skip
              have er : rmE (gF (yr - 1) + szL 6 (gO (yr - 1))) = none := rm_ok (by omega)
              refine lv_aload_n hx hb d_M_end_138 rfl (lv_at hl 0 rfl) ?_
              refine lv_dup hx hb d_M_end_139 rfl ?_
              refine va_get (D := D) (ci := 1) (C := RM) (T := FM) (N := 15) (v := .int (nI yr)) hx hb hw inM hown hK hP 0 rfl rfl 8 (by decide) (hw _ kF_M_43) (fun _ h9 => h9) rfl d_M_end_140 ?_
              refine lv_iconst (v := nI 1) hx hb d_M_end_143 (by decide) ?_
              refine nw_sub hx hb (by omega) d_M_end_144 ?_
              refine va_put (D := D) (ci := 1) (C := RM) (T := FM) (N := 15) (v := .int (nI (yr - 1))) (ty := .int) hx hb hw inM tM tM_ok nM hown hK hP hD hS 0 rfl rfl 8 (by decide) (hw _ kF_M_43) (fun _ h9 => h9) rfl (by decide +kernel) rfl rfl (Nat.le_of_ble_eq_true rfl) d_M_end_145 (fun H locs hP hD hS => ?_)
              have hP : va_P D cls2 (wM u cI cZ (pl gS ((tA (gF (yr - 1)) (gE (yr - 1)) gS 6 (gO (yr - 1)) (yn, yc, 0)).1) (szL 6 (gO (yr - 1))) (gO (yr - 1))) gK gI gO gF gE (cpn gQ gS yn) 0 (((tA (gF (yr - 1)) (gE (yr - 1)) gS 6 (gO (yr - 1)) (yn, yc, 0)).1) + szL 6 (gO (yr - 1))) (yr - 1) ym yd yn ((tA (gF (yr - 1)) (gE (yr - 1)) gS 6 (gO (yr - 1)) (yn, yc, 0)).2.2) ((tA (gF (yr - 1)) (gE (yr - 1)) gS 6 (gO (yr - 1)) (yn, yc, 0)).2.1)) H := hP
              have hD : va_D (va_A (wM u cI cZ gS gK gI gO gF gE gQ yt yn yr ym yd yk yb yc) s.heap.size) (wM u cI cZ (pl gS ((tA (gF (yr - 1)) (gE (yr - 1)) gS 6 (gO (yr - 1)) (yn, yc, 0)).1) (szL 6 (gO (yr - 1))) (gO (yr - 1))) gK gI gO gF gE (cpn gQ gS yn) 0 (((tA (gF (yr - 1)) (gE (yr - 1)) gS 6 (gO (yr - 1)) (yn, yc, 0)).1) + szL 6 (gO (yr - 1))) (yr - 1) ym yd yn ((tA (gF (yr - 1)) (gE (yr - 1)) gS 6 (gO (yr - 1)) (yn, yc, 0)).2.2) ((tA (gF (yr - 1)) (gE (yr - 1)) gS 6 (gO (yr - 1)) (yn, yc, 0)).2.1)) := hD
              refine lv_aload_n hx hb d_M_end_148 rfl (lv_at hl 0 rfl) ?_
              refine cl_w (v := none) hD hS hA (W.runV (b := u 0) (C := "TypeStackModel") (As := []) (rest := []) ⟨hx, hb, hml, hown, hw⟩ (c_M_well l D u cI cZ (pl gS ((tA (gF (yr - 1)) (gE (yr - 1)) gS 6 (gO (yr - 1)) (yn, yc, 0)).1) (szL 6 (gO (yr - 1))) (gO (yr - 1))) gK gI gO gF gE (cpn gQ gS yn) 0 (((tA (gF (yr - 1)) (gE (yr - 1)) gS 6 (gO (yr - 1)) (yn, yc, 0)).1) + szL 6 (gO (yr - 1))) (yr - 1) ym yd yn ((tA (gF (yr - 1)) (gE (yr - 1)) gS 6 (gO (yr - 1)) (yn, yc, 0)).2.2) ((tA (gF (yr - 1)) (gE (yr - 1)) gS 6 (gO (yr - 1)) (yn, yc, 0)).2.1) (by omega) (by omega) H.size) (cwV 0 hw g_M_97 rfl rfl rfl ⟨rfl, by decide, by decide, by decide +kernel⟩ ⟨by decide, by decide⟩) ⟨PW.blind, va_recv (q := (RM, FM, 15)) (ci := 1) (q0 := 0) hK hP rfl rfl, PW.pre hP hK hD hS hA hE⟩ rfl rfl hl.1 rfl (lv_room (Nat.le_of_ble_eq_true rfl)) d_M_end_149 ⟨by decide, by decide⟩) (fun H locs hP hD hS => ?_)
              have hP : va_P D cls2 (wM u cI cZ (pl gS ((tA (gF (yr - 1)) (gE (yr - 1)) gS 6 (gO (yr - 1)) (yn, yc, 0)).1) (szL 6 (gO (yr - 1))) (gO (yr - 1))) gK gI gO gF gE (cpn gQ gS yn) 0 (((tA (gF (yr - 1)) (gE (yr - 1)) gS 6 (gO (yr - 1)) (yn, yc, 0)).1) + szL 6 (gO (yr - 1))) (yr - 1) (max ym (((tA (gF (yr - 1)) (gE (yr - 1)) gS 6 (gO (yr - 1)) (yn, yc, 0)).1) + szL 6 (gO (yr - 1)))) (yd + 1) yn ((tA (gF (yr - 1)) (gE (yr - 1)) gS 6 (gO (yr - 1)) (yn, yc, 0)).2.2) ((tA (gF (yr - 1)) (gE (yr - 1)) gS 6 (gO (yr - 1)) (yn, yc, 0)).2.1)) H := hP
              have hD : va_D (va_A (wM u cI cZ gS gK gI gO gF gE gQ yt yn yr ym yd yk yb yc) s.heap.size) (wM u cI cZ (pl gS ((tA (gF (yr - 1)) (gE (yr - 1)) gS 6 (gO (yr - 1)) (yn, yc, 0)).1) (szL 6 (gO (yr - 1))) (gO (yr - 1))) gK gI gO gF gE (cpn gQ gS yn) 0 (((tA (gF (yr - 1)) (gE (yr - 1)) gS 6 (gO (yr - 1)) (yn, yc, 0)).1) + szL 6 (gO (yr - 1))) (yr - 1) (max ym (((tA (gF (yr - 1)) (gE (yr - 1)) gS 6 (gO (yr - 1)) (yn, yc, 0)).1) + szL 6 (gO (yr - 1)))) (yd + 1) yn ((tA (gF (yr - 1)) (gE (yr - 1)) gS 6 (gO (yr - 1)) (yn, yc, 0)).2.2) ((tA (gF (yr - 1)) (gE (yr - 1)) gS 6 (gO (yr - 1)) (yn, yc, 0)).2.1)) := hD
              refine lv_aload_n hx hb d_M_end_152 rfl (lv_at hl 0 rfl) ?_
              refine va_get (D := D) (ci := 1) (C := RM) (T := FM) (N := 15) (v := .int (nI (yr - 1))) hx hb hw inM hown hK hP 0 rfl rfl 8 (by decide) (hw _ kF_M_43) (fun _ h9 => h9) rfl d_M_end_153 ?_
              have her : orE (nf yr) (orE (ifL (gK (yr - 1)) (gI (yr - 1)) (gO (yr - 1))) (orE (jw (gF (yr - 1)) (hbL (gF (yr - 1)) (gE (yr - 1)) gS 6 yn (gO (yr - 1)))) (rmE (gF (yr - 1) + szL 6 (gO (yr - 1)))))) = none := by rw [ef, ei, ej, er] <;> rfl
              exact W.iret hx hb hrt (fun t ht9 _ => ⟨⟨pl gS ((tA (gF (yr - 1)) (gE (yr - 1)) gS 6 (gO (yr - 1)) (yn, yc, 0)).1) (szL 6 (gO (yr - 1))) (gO (yr - 1)), gK, gI, gO, gF, gE, cpn gQ gS yn, 0, ((tA (gF (yr - 1)) (gE (yr - 1)) gS 6 (gO (yr - 1)) (yn, yc, 0)).1) + szL 6 (gO (yr - 1)), yr - 1, max ym (((tA (gF (yr - 1)) (gE (yr - 1)) gS 6 (gO (yr - 1)) (yn, yc, 0)).1) + szL 6 (gO (yr - 1))), yd + 1, yn, (tA (gF (yr - 1)) (gE (yr - 1)) gS 6 (gO (yr - 1)) (yn, yc, 0)).2.2, (tA (gF (yr - 1)) (gE (yr - 1)) gS 6 (gO (yr - 1)) (yn, yc, 0)).2.1, some (.int (nI (yr - 1))), rfl, ⟨fun _ => ⟨rfl, rfl, by rw [hnF]; exact rel_rf⟩, fun E he => by rw [her] at he; cases he⟩, ⟨pl_lt giS, giK, giI, giO, giF, giE, by omega, by omega, by omega⟩, by rw [ht9]; exact hP, hD⟩, hS.F ht9⟩) hS.2.2 d_M_end_156
            · skip
              have er : rmE (gF (yr - 1) + szL 6 (gO (yr - 1))) = some AE := rm_no (by omega)
              refine lv_aload_n hx hb d_M_end_132 rfl (lv_at hl 0 rfl) ?_
              refine lv_iconst (v := nI 4) hx hb d_M_end_133 (by decide) ?_
              refine cl_w (v := some (.int (nI 0))) hD hS hA (W.runV (b := u 0) (C := "TypeStackModel") (As := [.int (nI 4)]) (rest := []) ⟨hx, hb, hml, hown, hw⟩ (c_M_undo l D u cI cZ (pl gS ((tA (gF (yr - 1)) (gE (yr - 1)) gS 6 (gO (yr - 1)) (yn, yc, 0)).1) (szL 6 (gO (yr - 1))) (gO (yr - 1))) gK gI gO gF gE (cpn gQ gS yn) 0 (((tA (gF (yr - 1)) (gE (yr - 1)) gS 6 (gO (yr - 1)) (yn, yc, 0)).1) + szL 6 (gO (yr - 1))) yr ym yd yn ((tA (gF (yr - 1)) (gE (yr - 1)) gS 6 (gO (yr - 1)) (yn, yc, 0)).2.2) ((tA (gF (yr - 1)) (gE (yr - 1)) gS 6 (gO (yr - 1)) (yn, yc, 0)).2.1) 4 (by omega) H.size) (cwV 1 hw g_M_90 rfl rfl rfl ⟨rfl, by decide, by decide, by decide +kernel⟩ ⟨by decide, by decide⟩) ⟨PW.blind, va_recv (q := (RM, FM, 15)) (ci := 1) (q0 := 0) hK hP rfl rfl, PW.pre hP hK hD hS hA hE⟩ rfl rfl hl.1 rfl (lv_room (Nat.le_of_ble_eq_true rfl)) d_M_end_134 ⟨by decide, by decide⟩) (fun H locs hP hD hS => ?_)
              have hP : va_P D cls2 (wM u cI cZ (cpn (pl gS ((tA (gF (yr - 1)) (gE (yr - 1)) gS 6 (gO (yr - 1)) (yn, yc, 0)).1) (szL 6 (gO (yr - 1))) (gO (yr - 1))) (cpn gQ gS yn) yn) gK gI gO gF gE (cpn gQ gS yn) 4 yn yr ym yd yn ((tA (gF (yr - 1)) (gE (yr - 1)) gS 6 (gO (yr - 1)) (yn, yc, 0)).2.2) ((tA (gF (yr - 1)) (gE (yr - 1)) gS 6 (gO (yr - 1)) (yn, yc, 0)).2.1)) H := hP
              have hD : va_D (va_A (wM u cI cZ gS gK gI gO gF gE gQ yt yn yr ym yd yk yb yc) s.heap.size) (wM u cI cZ (cpn (pl gS ((tA (gF (yr - 1)) (gE (yr - 1)) gS 6 (gO (yr - 1)) (yn, yc, 0)).1) (szL 6 (gO (yr - 1))) (gO (yr - 1))) (cpn gQ gS yn) yn) gK gI gO gF gE (cpn gQ gS yn) 4 yn yr ym yd yn ((tA (gF (yr - 1)) (gE (yr - 1)) gS 6 (gO (yr - 1)) (yn, yc, 0)).2.2) ((tA (gF (yr - 1)) (gE (yr - 1)) gS 6 (gO (yr - 1)) (yn, yc, 0)).2.1)) := hD
              have her : orE (nf yr) (orE (ifL (gK (yr - 1)) (gI (yr - 1)) (gO (yr - 1))) (orE (jw (gF (yr - 1)) (hbL (gF (yr - 1)) (gE (yr - 1)) gS 6 yn (gO (yr - 1)))) (rmE (gF (yr - 1) + szL 6 (gO (yr - 1)))))) = some AE := by rw [ef, ei, ej, er] <;> rfl
              exact W.iret hx hb hrt (fun t ht9 _ => ⟨⟨cpn (pl gS ((tA (gF (yr - 1)) (gE (yr - 1)) gS 6 (gO (yr - 1)) (yn, yc, 0)).1) (szL 6 (gO (yr - 1))) (gO (yr - 1))) (cpn gQ gS yn) yn, gK, gI, gO, gF, gE, cpn gQ gS yn, 4, yn, yr, ym, yd, yn, (tA (gF (yr - 1)) (gE (yr - 1)) gS 6 (gO (yr - 1)) (yn, yc, 0)).2.2, (tA (gF (yr - 1)) (gE (yr - 1)) gS 6 (gO (yr - 1)) (yn, yc, 0)).2.1, some (.int (nI 0)), rfl, ⟨fun he => (by rw [her] at he; cases he), fun E he => by rw [her] at he; cases he; exact ⟨by decide +kernel, rfl, rel_undo⟩⟩, im_undo hi (pl_lt giS), by rw [ht9]; exact hP, hD⟩, hS.F ht9⟩) hS.2.2 d_M_end_137
          · skip
            have ej : jw (gF (yr - 1)) (hbL (gF (yr - 1)) (gE (yr - 1)) gS 6 yn (gO (yr - 1))) = some ISE := jw_f ht h100
            refine lv_aload_n hx hb d_M_end_103 rfl (lv_at hl 0 rfl) ?_
            refine lv_iconst (v := nI 3) hx hb d_M_end_104 (by decide) ?_
            refine cl_w (v := some (.int (nI 0))) hD hS hA (W.runV (b := u 0) (C := "TypeStackModel") (As := [.int (nI 3)]) (rest := []) ⟨hx, hb, hml, hown, hw⟩ (c_M_undo l D u cI cZ gS gK gI gO gF gE (cpn gQ gS yn) 0 ((tA (gF (yr - 1)) (gE (yr - 1)) gS 6 (gO (yr - 1)) (yn, yc, 0)).1) yr ym yd yn ((tA (gF (yr - 1)) (gE (yr - 1)) gS 6 (gO (yr - 1)) (yn, yc, 0)).2.2) ((tA (gF (yr - 1)) (gE (yr - 1)) gS 6 (gO (yr - 1)) (yn, yc, 0)).2.1) 3 (by omega) H.size) (cwV 1 hw g_M_90 rfl rfl rfl ⟨rfl, by decide, by decide, by decide +kernel⟩ ⟨by decide, by decide⟩) ⟨PW.blind, va_recv (q := (RM, FM, 15)) (ci := 1) (q0 := 0) hK hP rfl rfl, PW.pre hP hK hD hS hA hE⟩ rfl rfl hl.1 rfl (lv_room (Nat.le_of_ble_eq_true rfl)) d_M_end_105 ⟨by decide, by decide⟩) (fun H locs hP hD hS => ?_)
            have hP : va_P D cls2 (wM u cI cZ (cpn gS (cpn gQ gS yn) yn) gK gI gO gF gE (cpn gQ gS yn) 3 yn yr ym yd yn ((tA (gF (yr - 1)) (gE (yr - 1)) gS 6 (gO (yr - 1)) (yn, yc, 0)).2.2) ((tA (gF (yr - 1)) (gE (yr - 1)) gS 6 (gO (yr - 1)) (yn, yc, 0)).2.1)) H := hP
            have hD : va_D (va_A (wM u cI cZ gS gK gI gO gF gE gQ yt yn yr ym yd yk yb yc) s.heap.size) (wM u cI cZ (cpn gS (cpn gQ gS yn) yn) gK gI gO gF gE (cpn gQ gS yn) 3 yn yr ym yd yn ((tA (gF (yr - 1)) (gE (yr - 1)) gS 6 (gO (yr - 1)) (yn, yc, 0)).2.2) ((tA (gF (yr - 1)) (gE (yr - 1)) gS 6 (gO (yr - 1)) (yn, yc, 0)).2.1)) := hD
            have her : orE (nf yr) (orE (ifL (gK (yr - 1)) (gI (yr - 1)) (gO (yr - 1))) (orE (jw (gF (yr - 1)) (hbL (gF (yr - 1)) (gE (yr - 1)) gS 6 yn (gO (yr - 1)))) (rmE (gF (yr - 1) + szL 6 (gO (yr - 1)))))) = some ISE := by rw [ef, ei, ej] <;> rfl
            exact W.iret hx hb hrt (fun t ht9 _ => ⟨⟨cpn gS (cpn gQ gS yn) yn, gK, gI, gO, gF, gE, cpn gQ gS yn, 3, yn, yr, ym, yd, yn, (tA (gF (yr - 1)) (gE (yr - 1)) gS 6 (gO (yr - 1)) (yn, yc, 0)).2.2, (tA (gF (yr - 1)) (gE (yr - 1)) gS 6 (gO (yr - 1)) (yn, yc, 0)).2.1, some (.int (nI 0)), rfl, ⟨fun he => (by rw [her] at he; cases he), fun E he => by rw [her] at he; cases he; exact ⟨by decide +kernel, rfl, rel_undo⟩⟩, im_undo hi giS, by rw [ht9]; exact hP, hD⟩, hS.F ht9⟩) hS.2.2 d_M_end_108
      · skip
        exfalso; omega
    · skip
      refine lv_aload_n hx hb d_M_end_25 rfl (lv_at hl 0 rfl) ?_
      refine va_get (D := D) (ci := 1) (C := RM) (T := FM) (N := 15) (v := .ref (u 3)) hx hb hw inM hown hK hP 0 rfl rfl 3 (by decide) (hw _ kF_M_16) (fun _ h9 => h9) rfl d_M_end_26 ?_
      refine lv_aload_n hx hb d_M_end_29 rfl (lv_at hl 0 rfl) ?_
      refine cl_r (v := some (.int (nI (yr - 1)))) (W.runV (b := u 0) (C := "TypeStackModel") (As := []) (rest := [.ref (u 3), .ref (u 0)]) ⟨hx, hb, hml, hown, hw⟩ (c_M_inner l D u cI cZ gS gK gI gO gF gE gQ yt yn yr ym yd yk yb yc (by omega) s.heap.size) (cwV 0 hw g_M_68 rfl rfl rfl ⟨rfl, by decide, by decide, by decide +kernel⟩ ⟨by decide, by decide⟩) ⟨PW.blind, va_recv (q := (RM, FM, 15)) (ci := 1) (q0 := 0) hK hP rfl rfl, PW.pre hP hK hD hS hA hE⟩ rfl rfl hl.1 rfl (lv_room (Nat.le_of_ble_eq_true rfl)) d_M_end_30 ⟨by decide, by decide⟩) ?_
      refine nw_iald hx hb hK hP 3 0 rfl rfl (k := yr - 1) (by omega) (by decide) d_M_end_33 ?_
      have b33 := giI (yr - 1)
      refine lv_aload_n hx hb d_M_end_34 rfl (lv_at hl 0 rfl) ?_
      refine va_get (D := D) (ci := 1) (C := RM) (T := FM) (N := 15) (v := .ref (u 4)) hx hb hw inM hown hK hP 0 rfl rfl 4 (by decide) (hw _ kF_M_19) (fun _ h9 => h9) rfl d_M_end_35 ?_
      refine lv_aload_n hx hb d_M_end_38 rfl (lv_at hl 0 rfl) ?_
      refine cl_r (v := some (.int (nI (yr - 1)))) (W.runV (b := u 0) (C := "TypeStackModel") (As := []) (rest := [.ref (u 4), .int (nI (gI (yr - 1))), .ref (u 0)]) ⟨hx, hb, hml, hown, hw⟩ (c_M_inner l D u cI cZ gS gK gI gO gF gE gQ yt yn yr ym yd yk yb yc (by omega) s.heap.size) (cwV 0 hw g_M_68 rfl rfl rfl ⟨rfl, by decide, by decide, by decide +kernel⟩ ⟨by decide, by decide⟩) ⟨PW.blind, va_recv (q := (RM, FM, 15)) (ci := 1) (q0 := 0) hK hP rfl rfl, PW.pre hP hK hD hS hA hE⟩ rfl rfl hl.1 rfl (lv_room (Nat.le_of_ble_eq_true rfl)) d_M_end_39 ⟨by decide, by decide⟩) ?_
      refine nw_iald hx hb hK hP 4 0 rfl rfl (k := yr - 1) (by omega) (by decide) d_M_end_42 ?_
      have b42 := giO (yr - 1)
      refine nw_eq hx hb (tgt := 50) d_M_end_43 (by decide) (by omega) (by omega) (fun h43 => ?_) (fun h43 => ?_)
      · skip
        have ei : ifL (gK (yr - 1)) (gI (yr - 1)) (gO (yr - 1)) = none := if_neg (fun q => q.2 h43)
        refine lv_iconst (v := nI 0) hx hb d_M_end_50 (by decide) ?_
        refine va_put (D := D) (ci := 1) (C := RM) (T := FM) (N := 15) (v := .int (nI 0)) (ty := .int) hx hb hw inM tM tM_ok nM hown hK hP hD hS 0 rfl rfl 0 (by decide) (hw _ kF_M_36) (fun _ h9 => h9) rfl (by decide +kernel) rfl rfl (Nat.le_of_ble_eq_true rfl) d_M_end_51 (fun H locs hP hD hS => ?_)
        have hP : va_P D cls2 (wM u cI cZ gS gK gI gO gF gE gQ 0 yn yr ym yd yk yb yc) H := hP
        have hD : va_D (va_A (wM u cI cZ gS gK gI gO gF gE gQ yt yn yr ym yd yk yb yc) s.heap.size) (wM u cI cZ gS gK gI gO gF gE gQ 0 yn yr ym yd yk yb yc) := hD
        refine lv_aload_n hx hb d_M_end_54 rfl (lv_at hl 0 rfl) ?_
        refine va_get (D := D) (ci := 1) (C := RM) (T := FM) (N := 15) (v := .int (nI 0)) hx hb hw inM hown hK hP 0 rfl rfl 0 (by decide) (hw _ kF_M_36) (fun _ h9 => h9) rfl d_M_end_55 ?_
        refine nw_ifle hx hb (tgt := 63) d_M_end_58 (by decide) (by omega) (fun h58 => ?_) (fun h58 => ?_)
        · skip
          have ho0 := giO (yr - 1)
          have hi0 := giI (yr - 1)
          have hf1 := giF (yr - 1)
          have hta := tA_le (gF (yr - 1)) (gE (yr - 1)) gS 6 (gO (yr - 1)) yn yc 0 (by decide)
          have hso := szL_le 6 (gO (yr - 1))
          have hsi := szL_le 6 (gI (yr - 1))
          refine lv_aload_n hx hb d_M_end_63 rfl (lv_at hl 0 rfl) ?_
          refine cl_w (v := none) hD hS hA (W.runV (b := u 0) (C := "TypeStackModel") (As := []) (rest := []) ⟨hx, hb, hml, hown, hw⟩ (c_M_keep l D u cI cZ gS gK gI gO gF gE gQ 0 yn yr ym yd yk yb yc (by omega) H.size) (cwV 0 hw g_M_84 rfl rfl rfl ⟨rfl, by decide, by decide, by decide +kernel⟩ ⟨by decide, by decide⟩) ⟨PW.blind, va_recv (q := (RM, FM, 15)) (ci := 1) (q0 := 0) hK hP rfl rfl, PW.pre hP hK hD hS hA hE⟩ rfl rfl hl.1 rfl (lv_room (Nat.le_of_ble_eq_true rfl)) d_M_end_64 ⟨by decide, by decide⟩) (fun H locs hP hD hS => ?_)
          have hP : va_P D cls2 (wM u cI cZ gS gK gI gO gF gE (cpn gQ gS yn) 0 yn yr ym yd yn 0 yc) H := hP
          have hD : va_D (va_A (wM u cI cZ gS gK gI gO gF gE gQ yt yn yr ym yd yk yb yc) s.heap.size) (wM u cI cZ gS gK gI gO gF gE (cpn gQ gS yn) 0 yn yr ym yd yn 0 yc) := hD
          refine lv_aload_n hx hb d_M_end_67 rfl (lv_at hl 0 rfl) ?_
          refine lv_aload_n hx hb d_M_end_68 rfl (lv_at hl 0 rfl) ?_
          refine va_get (D := D) (ci := 1) (C := RM) (T := FM) (N := 15) (v := .ref (u 4)) hx hb hw inM hown hK hP 0 rfl rfl 4 (by decide) (hw _ kF_M_19) (fun _ h9 => h9) rfl d_M_end_69 ?_
          refine lv_aload_n hx hb d_M_end_72 rfl (lv_at hl 0 rfl) ?_
          refine cl_r (v := some (.int (nI (yr - 1)))) (W.runV (b := u 0) (C := "TypeStackModel") (As := []) (rest := [.ref (u 4), .ref (u 0)]) ⟨hx, hb, hml, hown, hw⟩ (c_M_inner l D u cI cZ gS gK gI gO gF gE (cpn gQ gS yn) 0 yn yr ym yd yn 0 yc (by omega) H.size) (cwV 0 hw g_M_68 rfl rfl rfl ⟨rfl, by decide, by decide, by decide +kernel⟩ ⟨by decide, by decide⟩) ⟨PW.blind, va_recv (q := (RM, FM, 15)) (ci := 1) (q0 := 0) hK hP rfl rfl, PW.pre hP hK hD hS hA hE⟩ rfl rfl hl.1 rfl (lv_room (Nat.le_of_ble_eq_true rfl)) d_M_end_73 ⟨by decide, by decide⟩) ?_
          refine nw_iald hx hb hK hP 4 0 rfl rfl (k := yr - 1) (by omega) (by decide) d_M_end_76 ?_
          have b76 := giO (yr - 1)
          refine cl_w (v := none) hD hS hA (W.runV (b := u 0) (C := "TypeStackModel") (As := [.int (nI (gO (yr - 1)))]) (rest := []) ⟨hx, hb, hml, hown, hw⟩ (c_M_takeAll l D u cI cZ gS gK gI gO gF gE (cpn gQ gS yn) 0 yn yr ym yd yn 0 yc (gO (yr - 1)) (by omega) (by omega) (by omega) (by omega) giF giE giS H.size) (cwV 1 hw g_M_87 rfl rfl rfl ⟨rfl, by decide, by decide, by decide +kernel⟩ ⟨by decide, by decide⟩) ⟨PW.blind, va_recv (q := (RM, FM, 15)) (ci := 1) (q0 := 0) hK hP rfl rfl, PW.pre hP hK hD hS hA hE⟩ rfl rfl hl.1 rfl (lv_room (Nat.le_of_ble_eq_true rfl)) d_M_end_77 ⟨by decide, by decide⟩) (fun H locs hP hD hS => ?_)
          have hP : va_P D cls2 (wM u cI cZ gS gK gI gO gF gE (cpn gQ gS yn) 0 ((tA (gF (yr - 1)) (gE (yr - 1)) gS 6 (gO (yr - 1)) (yn, yc, 0)).1) yr ym yd yn ((tA (gF (yr - 1)) (gE (yr - 1)) gS 6 (gO (yr - 1)) (yn, yc, 0)).2.2) ((tA (gF (yr - 1)) (gE (yr - 1)) gS 6 (gO (yr - 1)) (yn, yc, 0)).2.1)) H := hP
          have hD : va_D (va_A (wM u cI cZ gS gK gI gO gF gE gQ yt yn yr ym yd yk yb yc) s.heap.size) (wM u cI cZ gS gK gI gO gF gE (cpn gQ gS yn) 0 ((tA (gF (yr - 1)) (gE (yr - 1)) gS 6 (gO (yr - 1)) (yn, yc, 0)).1) yr ym yd yn ((tA (gF (yr - 1)) (gE (yr - 1)) gS 6 (gO (yr - 1)) (yn, yc, 0)).2.2) ((tA (gF (yr - 1)) (gE (yr - 1)) gS 6 (gO (yr - 1)) (yn, yc, 0)).2.1)) := hD
          refine lv_aload_n hx hb d_M_end_80 rfl (lv_at hl 0 rfl) ?_
          refine va_get (D := D) (ci := 1) (C := RM) (T := FM) (N := 15) (v := .int (nI ((tA (gF (yr - 1)) (gE (yr - 1)) gS 6 (gO (yr - 1)) (yn, yc, 0)).2.2))) hx hb hw inM hown hK hP 0 rfl rfl 13 (by decide) (hw _ kF_M_55) (fun _ h9 => h9) rfl d_M_end_81 ?_
          refine nw_ifne hx hb (tgt := 103) d_M_end_84 (by decide) (by omega) (fun h84 => ?_) (fun h84 => ?_)
          · skip
            have ej : jw (gF (yr - 1)) (hbL (gF (yr - 1)) (gE (yr - 1)) gS 6 yn (gO (yr - 1))) = some ISE := jw_0 (tA_no h84)
            refine lv_aload_n hx hb d_M_end_103 rfl (lv_at hl 0 rfl) ?_
            refine lv_iconst (v := nI 3) hx hb d_M_end_104 (by decide) ?_
            refine cl_w (v := some (.int (nI 0))) hD hS hA (W.runV (b := u 0) (C := "TypeStackModel") (As := [.int (nI 3)]) (rest := []) ⟨hx, hb, hml, hown, hw⟩ (c_M_undo l D u cI cZ gS gK gI gO gF gE (cpn gQ gS yn) 0 ((tA (gF (yr - 1)) (gE (yr - 1)) gS 6 (gO (yr - 1)) (yn, yc, 0)).1) yr ym yd yn ((tA (gF (yr - 1)) (gE (yr - 1)) gS 6 (gO (yr - 1)) (yn, yc, 0)).2.2) ((tA (gF (yr - 1)) (gE (yr - 1)) gS 6 (gO (yr - 1)) (yn, yc, 0)).2.1) 3 (by omega) H.size) (cwV 1 hw g_M_90 rfl rfl rfl ⟨rfl, by decide, by decide, by decide +kernel⟩ ⟨by decide, by decide⟩) ⟨PW.blind, va_recv (q := (RM, FM, 15)) (ci := 1) (q0 := 0) hK hP rfl rfl, PW.pre hP hK hD hS hA hE⟩ rfl rfl hl.1 rfl (lv_room (Nat.le_of_ble_eq_true rfl)) d_M_end_105 ⟨by decide, by decide⟩) (fun H locs hP hD hS => ?_)
            have hP : va_P D cls2 (wM u cI cZ (cpn gS (cpn gQ gS yn) yn) gK gI gO gF gE (cpn gQ gS yn) 3 yn yr ym yd yn ((tA (gF (yr - 1)) (gE (yr - 1)) gS 6 (gO (yr - 1)) (yn, yc, 0)).2.2) ((tA (gF (yr - 1)) (gE (yr - 1)) gS 6 (gO (yr - 1)) (yn, yc, 0)).2.1)) H := hP
            have hD : va_D (va_A (wM u cI cZ gS gK gI gO gF gE gQ yt yn yr ym yd yk yb yc) s.heap.size) (wM u cI cZ (cpn gS (cpn gQ gS yn) yn) gK gI gO gF gE (cpn gQ gS yn) 3 yn yr ym yd yn ((tA (gF (yr - 1)) (gE (yr - 1)) gS 6 (gO (yr - 1)) (yn, yc, 0)).2.2) ((tA (gF (yr - 1)) (gE (yr - 1)) gS 6 (gO (yr - 1)) (yn, yc, 0)).2.1)) := hD
            have her : orE (nf yr) (orE (ifL (gK (yr - 1)) (gI (yr - 1)) (gO (yr - 1))) (orE (jw (gF (yr - 1)) (hbL (gF (yr - 1)) (gE (yr - 1)) gS 6 yn (gO (yr - 1)))) (rmE (gF (yr - 1) + szL 6 (gO (yr - 1)))))) = some ISE := by rw [ef, ei, ej] <;> rfl
            exact W.iret hx hb hrt (fun t ht9 _ => ⟨⟨cpn gS (cpn gQ gS yn) yn, gK, gI, gO, gF, gE, cpn gQ gS yn, 3, yn, yr, ym, yd, yn, (tA (gF (yr - 1)) (gE (yr - 1)) gS 6 (gO (yr - 1)) (yn, yc, 0)).2.2, (tA (gF (yr - 1)) (gE (yr - 1)) gS 6 (gO (yr - 1)) (yn, yc, 0)).2.1, some (.int (nI 0)), rfl, ⟨fun he => (by rw [her] at he; cases he), fun E he => by rw [her] at he; cases he; exact ⟨by decide +kernel, rfl, rel_undo⟩⟩, im_undo hi giS, by rw [ht9]; exact hP, hD⟩, hS.F ht9⟩) hS.2.2 d_M_end_108
          · skip
            have ht : hbL (gF (yr - 1)) (gE (yr - 1)) gS 6 yn (gO (yr - 1)) = some (tA (gF (yr - 1)) (gE (yr - 1)) gS 6 (gO (yr - 1)) (yn, yc, 0)).1 := tA_ok h84
            refine lv_aload_n hx hb d_M_end_87 rfl (lv_at hl 0 rfl) ?_
            refine va_get (D := D) (ci := 1) (C := RM) (T := FM) (N := 15) (v := .int (nI ((tA (gF (yr - 1)) (gE (yr - 1)) gS 6 (gO (yr - 1)) (yn, yc, 0)).1))) hx hb hw inM hown hK hP 0 rfl rfl 7 (by decide) (hw _ kF_M_40) (fun _ h9 => h9) rfl d_M_end_88 ?_
            refine lv_aload_n hx hb d_M_end_91 rfl (lv_at hl 0 rfl) ?_
            refine va_get (D := D) (ci := 1) (C := RM) (T := FM) (N := 15) (v := .ref (u 5)) hx hb hw inM hown hK hP 0 rfl rfl 5 (by decide) (hw _ kF_M_22) (fun _ h9 => h9) rfl d_M_end_92 ?_
            refine lv_aload_n hx hb d_M_end_95 rfl (lv_at hl 0 rfl) ?_
            refine cl_r (v := some (.int (nI (yr - 1)))) (W.runV (b := u 0) (C := "TypeStackModel") (As := []) (rest := [.ref (u 5), .int (nI ((tA (gF (yr - 1)) (gE (yr - 1)) gS 6 (gO (yr - 1)) (yn, yc, 0)).1))]) ⟨hx, hb, hml, hown, hw⟩ (c_M_inner l D u cI cZ gS gK gI gO gF gE (cpn gQ gS yn) 0 ((tA (gF (yr - 1)) (gE (yr - 1)) gS 6 (gO (yr - 1)) (yn, yc, 0)).1) yr ym yd yn ((tA (gF (yr - 1)) (gE (yr - 1)) gS 6 (gO (yr - 1)) (yn, yc, 0)).2.2) ((tA (gF (yr - 1)) (gE (yr - 1)) gS 6 (gO (yr - 1)) (yn, yc, 0)).2.1) (by omega) H.size) (cwV 0 hw g_M_68 rfl rfl rfl ⟨rfl, by decide, by decide, by decide +kernel⟩ ⟨by decide, by decide⟩) ⟨PW.blind, va_recv (q := (RM, FM, 15)) (ci := 1) (q0 := 0) hK hP rfl rfl, PW.pre hP hK hD hS hA hE⟩ rfl rfl hl.1 rfl (lv_room (Nat.le_of_ble_eq_true rfl)) d_M_end_96 ⟨by decide, by decide⟩) ?_
            refine nw_iald hx hb hK hP 5 0 rfl rfl (k := yr - 1) (by omega) (by decide) d_M_end_99 ?_
            have b99 := giF (yr - 1)
            refine nw_le hx hb (tgt := 109) d_M_end_100 (by decide) (by omega) (by omega) (fun h100 => ?_) (fun h100 => ?_)
            · skip
              have ej : jw (gF (yr - 1)) (hbL (gF (yr - 1)) (gE (yr - 1)) gS 6 yn (gO (yr - 1))) = none := jw_t ht h100
              have hge := hbL_ge (X := ISE) (hfl (by omega)) (show xo ISE (hbL (gF (yr - 1)) (gE (yr - 1)) gS 6 yn (gO (yr - 1))) = none by rw [ht]; rfl)
              rw [ht] at hge
              have hnF : (tA (gF (yr - 1)) (gE (yr - 1)) gS 6 (gO (yr - 1)) (yn, yc, 0)).1 = gF (yr - 1) := Nat.le_antisymm h100 hge
              refine lv_aload_n hx hb d_M_end_109 rfl (lv_at hl 0 rfl) ?_
              refine lv_aload_n hx hb d_M_end_110 rfl (lv_at hl 0 rfl) ?_
              refine va_get (D := D) (ci := 1) (C := RM) (T := FM) (N := 15) (v := .ref (u 4)) hx hb hw inM hown hK hP 0 rfl rfl 4 (by decide) (hw _ kF_M_19) (fun _ h9 => h9) rfl d_M_end_111 ?_
              refine lv_aload_n hx hb d_M_end_114 rfl (lv_at hl 0 rfl) ?_
              refine cl_r (v := some (.int (nI (yr - 1)))) (W.runV (b := u 0) (C := "TypeStackModel") (As := []) (rest := [.ref (u 4), .ref (u 0)]) ⟨hx, hb, hml, hown, hw⟩ (c_M_inner l D u cI cZ gS gK gI gO gF gE (cpn gQ gS yn) 0 ((tA (gF (yr - 1)) (gE (yr - 1)) gS 6 (gO (yr - 1)) (yn, yc, 0)).1) yr ym yd yn ((tA (gF (yr - 1)) (gE (yr - 1)) gS 6 (gO (yr - 1)) (yn, yc, 0)).2.2) ((tA (gF (yr - 1)) (gE (yr - 1)) gS 6 (gO (yr - 1)) (yn, yc, 0)).2.1) (by omega) H.size) (cwV 0 hw g_M_68 rfl rfl rfl ⟨rfl, by decide, by decide, by decide +kernel⟩ ⟨by decide, by decide⟩) ⟨PW.blind, va_recv (q := (RM, FM, 15)) (ci := 1) (q0 := 0) hK hP rfl rfl, PW.pre hP hK hD hS hA hE⟩ rfl rfl hl.1 rfl (lv_room (Nat.le_of_ble_eq_true rfl)) d_M_end_115 ⟨by decide, by decide⟩) ?_
              refine nw_iald hx hb hK hP 4 0 rfl rfl (k := yr - 1) (by omega) (by decide) d_M_end_118 ?_
              have b118 := giO (yr - 1)
              refine cl_w (v := none) hD hS hA (W.runV (b := u 0) (C := "TypeStackModel") (As := [.int (nI (gO (yr - 1)))]) (rest := []) ⟨hx, hb, hml, hown, hw⟩ (c_M_putAll l D u cI cZ gS gK gI gO gF gE (cpn gQ gS yn) 0 ((tA (gF (yr - 1)) (gE (yr - 1)) gS 6 (gO (yr - 1)) (yn, yc, 0)).1) yr ym yd yn ((tA (gF (yr - 1)) (gE (yr - 1)) gS 6 (gO (yr - 1)) (yn, yc, 0)).2.2) ((tA (gF (yr - 1)) (gE (yr - 1)) gS 6 (gO (yr - 1)) (yn, yc, 0)).2.1) (gO (yr - 1)) (by omega) (by omega) H.size) (cwV 1 hw g_M_94 rfl rfl rfl ⟨rfl, by decide, by decide, by decide +kernel⟩ ⟨by decide, by decide⟩) ⟨PW.blind, va_recv (q := (RM, FM, 15)) (ci := 1) (q0 := 0) hK hP rfl rfl, PW.pre hP hK hD hS hA hE⟩ rfl rfl hl.1 rfl (lv_room (Nat.le_of_ble_eq_true rfl)) d_M_end_119 ⟨by decide, by decide⟩) (fun H locs hP hD hS => ?_)
              have hP : va_P D cls2 (wM u cI cZ (pl gS ((tA (gF (yr - 1)) (gE (yr - 1)) gS 6 (gO (yr - 1)) (yn, yc, 0)).1) (szL 6 (gO (yr - 1))) (gO (yr - 1))) gK gI gO gF gE (cpn gQ gS yn) 0 (((tA (gF (yr - 1)) (gE (yr - 1)) gS 6 (gO (yr - 1)) (yn, yc, 0)).1) + szL 6 (gO (yr - 1))) yr ym yd yn ((tA (gF (yr - 1)) (gE (yr - 1)) gS 6 (gO (yr - 1)) (yn, yc, 0)).2.2) ((tA (gF (yr - 1)) (gE (yr - 1)) gS 6 (gO (yr - 1)) (yn, yc, 0)).2.1)) H := hP
              have hD : va_D (va_A (wM u cI cZ gS gK gI gO gF gE gQ yt yn yr ym yd yk yb yc) s.heap.size) (wM u cI cZ (pl gS ((tA (gF (yr - 1)) (gE (yr - 1)) gS 6 (gO (yr - 1)) (yn, yc, 0)).1) (szL 6 (gO (yr - 1))) (gO (yr - 1))) gK gI gO gF gE (cpn gQ gS yn) 0 (((tA (gF (yr - 1)) (gE (yr - 1)) gS 6 (gO (yr - 1)) (yn, yc, 0)).1) + szL 6 (gO (yr - 1))) yr ym yd yn ((tA (gF (yr - 1)) (gE (yr - 1)) gS 6 (gO (yr - 1)) (yn, yc, 0)).2.2) ((tA (gF (yr - 1)) (gE (yr - 1)) gS 6 (gO (yr - 1)) (yn, yc, 0)).2.1)) := hD
              refine lv_aload_n hx hb d_M_end_122 rfl (lv_at hl 0 rfl) ?_
              refine va_get (D := D) (ci := 1) (C := RM) (T := FM) (N := 15) (v := .int (nI (((tA (gF (yr - 1)) (gE (yr - 1)) gS 6 (gO (yr - 1)) (yn, yc, 0)).1) + szL 6 (gO (yr - 1))))) hx hb hw inM hown hK hP 0 rfl rfl 7 (by decide) (hw _ kF_M_40) (fun _ h9 => h9) rfl d_M_end_123 ?_
              refine lv_sipush (v := nI 300) hx hb d_M_end_126 (by decide) ?_
              refine nw_le hx hb (tgt := 138) d_M_end_129 (by decide) (by omega) (by omega) (fun h129 => ?_) (fun h129 => ?_)
              · skip
                have er : rmE (gF (yr - 1) + szL 6 (gO (yr - 1))) = none := rm_ok (by omega)
                refine lv_aload_n hx hb d_M_end_138 rfl (lv_at hl 0 rfl) ?_
                refine lv_dup hx hb d_M_end_139 rfl ?_
                refine va_get (D := D) (ci := 1) (C := RM) (T := FM) (N := 15) (v := .int (nI yr)) hx hb hw inM hown hK hP 0 rfl rfl 8 (by decide) (hw _ kF_M_43) (fun _ h9 => h9) rfl d_M_end_140 ?_
                refine lv_iconst (v := nI 1) hx hb d_M_end_143 (by decide) ?_
                refine nw_sub hx hb (by omega) d_M_end_144 ?_
                refine va_put (D := D) (ci := 1) (C := RM) (T := FM) (N := 15) (v := .int (nI (yr - 1))) (ty := .int) hx hb hw inM tM tM_ok nM hown hK hP hD hS 0 rfl rfl 8 (by decide) (hw _ kF_M_43) (fun _ h9 => h9) rfl (by decide +kernel) rfl rfl (Nat.le_of_ble_eq_true rfl) d_M_end_145 (fun H locs hP hD hS => ?_)
                have hP : va_P D cls2 (wM u cI cZ (pl gS ((tA (gF (yr - 1)) (gE (yr - 1)) gS 6 (gO (yr - 1)) (yn, yc, 0)).1) (szL 6 (gO (yr - 1))) (gO (yr - 1))) gK gI gO gF gE (cpn gQ gS yn) 0 (((tA (gF (yr - 1)) (gE (yr - 1)) gS 6 (gO (yr - 1)) (yn, yc, 0)).1) + szL 6 (gO (yr - 1))) (yr - 1) ym yd yn ((tA (gF (yr - 1)) (gE (yr - 1)) gS 6 (gO (yr - 1)) (yn, yc, 0)).2.2) ((tA (gF (yr - 1)) (gE (yr - 1)) gS 6 (gO (yr - 1)) (yn, yc, 0)).2.1)) H := hP
                have hD : va_D (va_A (wM u cI cZ gS gK gI gO gF gE gQ yt yn yr ym yd yk yb yc) s.heap.size) (wM u cI cZ (pl gS ((tA (gF (yr - 1)) (gE (yr - 1)) gS 6 (gO (yr - 1)) (yn, yc, 0)).1) (szL 6 (gO (yr - 1))) (gO (yr - 1))) gK gI gO gF gE (cpn gQ gS yn) 0 (((tA (gF (yr - 1)) (gE (yr - 1)) gS 6 (gO (yr - 1)) (yn, yc, 0)).1) + szL 6 (gO (yr - 1))) (yr - 1) ym yd yn ((tA (gF (yr - 1)) (gE (yr - 1)) gS 6 (gO (yr - 1)) (yn, yc, 0)).2.2) ((tA (gF (yr - 1)) (gE (yr - 1)) gS 6 (gO (yr - 1)) (yn, yc, 0)).2.1)) := hD
                refine lv_aload_n hx hb d_M_end_148 rfl (lv_at hl 0 rfl) ?_
                refine cl_w (v := none) hD hS hA (W.runV (b := u 0) (C := "TypeStackModel") (As := []) (rest := []) ⟨hx, hb, hml, hown, hw⟩ (c_M_well l D u cI cZ (pl gS ((tA (gF (yr - 1)) (gE (yr - 1)) gS 6 (gO (yr - 1)) (yn, yc, 0)).1) (szL 6 (gO (yr - 1))) (gO (yr - 1))) gK gI gO gF gE (cpn gQ gS yn) 0 (((tA (gF (yr - 1)) (gE (yr - 1)) gS 6 (gO (yr - 1)) (yn, yc, 0)).1) + szL 6 (gO (yr - 1))) (yr - 1) ym yd yn ((tA (gF (yr - 1)) (gE (yr - 1)) gS 6 (gO (yr - 1)) (yn, yc, 0)).2.2) ((tA (gF (yr - 1)) (gE (yr - 1)) gS 6 (gO (yr - 1)) (yn, yc, 0)).2.1) (by omega) (by omega) H.size) (cwV 0 hw g_M_97 rfl rfl rfl ⟨rfl, by decide, by decide, by decide +kernel⟩ ⟨by decide, by decide⟩) ⟨PW.blind, va_recv (q := (RM, FM, 15)) (ci := 1) (q0 := 0) hK hP rfl rfl, PW.pre hP hK hD hS hA hE⟩ rfl rfl hl.1 rfl (lv_room (Nat.le_of_ble_eq_true rfl)) d_M_end_149 ⟨by decide, by decide⟩) (fun H locs hP hD hS => ?_)
                have hP : va_P D cls2 (wM u cI cZ (pl gS ((tA (gF (yr - 1)) (gE (yr - 1)) gS 6 (gO (yr - 1)) (yn, yc, 0)).1) (szL 6 (gO (yr - 1))) (gO (yr - 1))) gK gI gO gF gE (cpn gQ gS yn) 0 (((tA (gF (yr - 1)) (gE (yr - 1)) gS 6 (gO (yr - 1)) (yn, yc, 0)).1) + szL 6 (gO (yr - 1))) (yr - 1) (max ym (((tA (gF (yr - 1)) (gE (yr - 1)) gS 6 (gO (yr - 1)) (yn, yc, 0)).1) + szL 6 (gO (yr - 1)))) (yd + 1) yn ((tA (gF (yr - 1)) (gE (yr - 1)) gS 6 (gO (yr - 1)) (yn, yc, 0)).2.2) ((tA (gF (yr - 1)) (gE (yr - 1)) gS 6 (gO (yr - 1)) (yn, yc, 0)).2.1)) H := hP
                have hD : va_D (va_A (wM u cI cZ gS gK gI gO gF gE gQ yt yn yr ym yd yk yb yc) s.heap.size) (wM u cI cZ (pl gS ((tA (gF (yr - 1)) (gE (yr - 1)) gS 6 (gO (yr - 1)) (yn, yc, 0)).1) (szL 6 (gO (yr - 1))) (gO (yr - 1))) gK gI gO gF gE (cpn gQ gS yn) 0 (((tA (gF (yr - 1)) (gE (yr - 1)) gS 6 (gO (yr - 1)) (yn, yc, 0)).1) + szL 6 (gO (yr - 1))) (yr - 1) (max ym (((tA (gF (yr - 1)) (gE (yr - 1)) gS 6 (gO (yr - 1)) (yn, yc, 0)).1) + szL 6 (gO (yr - 1)))) (yd + 1) yn ((tA (gF (yr - 1)) (gE (yr - 1)) gS 6 (gO (yr - 1)) (yn, yc, 0)).2.2) ((tA (gF (yr - 1)) (gE (yr - 1)) gS 6 (gO (yr - 1)) (yn, yc, 0)).2.1)) := hD
                refine lv_aload_n hx hb d_M_end_152 rfl (lv_at hl 0 rfl) ?_
                refine va_get (D := D) (ci := 1) (C := RM) (T := FM) (N := 15) (v := .int (nI (yr - 1))) hx hb hw inM hown hK hP 0 rfl rfl 8 (by decide) (hw _ kF_M_43) (fun _ h9 => h9) rfl d_M_end_153 ?_
                have her : orE (nf yr) (orE (ifL (gK (yr - 1)) (gI (yr - 1)) (gO (yr - 1))) (orE (jw (gF (yr - 1)) (hbL (gF (yr - 1)) (gE (yr - 1)) gS 6 yn (gO (yr - 1)))) (rmE (gF (yr - 1) + szL 6 (gO (yr - 1)))))) = none := by rw [ef, ei, ej, er] <;> rfl
                exact W.iret hx hb hrt (fun t ht9 _ => ⟨⟨pl gS ((tA (gF (yr - 1)) (gE (yr - 1)) gS 6 (gO (yr - 1)) (yn, yc, 0)).1) (szL 6 (gO (yr - 1))) (gO (yr - 1)), gK, gI, gO, gF, gE, cpn gQ gS yn, 0, ((tA (gF (yr - 1)) (gE (yr - 1)) gS 6 (gO (yr - 1)) (yn, yc, 0)).1) + szL 6 (gO (yr - 1)), yr - 1, max ym (((tA (gF (yr - 1)) (gE (yr - 1)) gS 6 (gO (yr - 1)) (yn, yc, 0)).1) + szL 6 (gO (yr - 1))), yd + 1, yn, (tA (gF (yr - 1)) (gE (yr - 1)) gS 6 (gO (yr - 1)) (yn, yc, 0)).2.2, (tA (gF (yr - 1)) (gE (yr - 1)) gS 6 (gO (yr - 1)) (yn, yc, 0)).2.1, some (.int (nI (yr - 1))), rfl, ⟨fun _ => ⟨rfl, rfl, by rw [hnF]; exact rel_rf⟩, fun E he => by rw [her] at he; cases he⟩, ⟨pl_lt giS, giK, giI, giO, giF, giE, by omega, by omega, by omega⟩, by rw [ht9]; exact hP, hD⟩, hS.F ht9⟩) hS.2.2 d_M_end_156
              · skip
                have er : rmE (gF (yr - 1) + szL 6 (gO (yr - 1))) = some AE := rm_no (by omega)
                refine lv_aload_n hx hb d_M_end_132 rfl (lv_at hl 0 rfl) ?_
                refine lv_iconst (v := nI 4) hx hb d_M_end_133 (by decide) ?_
                refine cl_w (v := some (.int (nI 0))) hD hS hA (W.runV (b := u 0) (C := "TypeStackModel") (As := [.int (nI 4)]) (rest := []) ⟨hx, hb, hml, hown, hw⟩ (c_M_undo l D u cI cZ (pl gS ((tA (gF (yr - 1)) (gE (yr - 1)) gS 6 (gO (yr - 1)) (yn, yc, 0)).1) (szL 6 (gO (yr - 1))) (gO (yr - 1))) gK gI gO gF gE (cpn gQ gS yn) 0 (((tA (gF (yr - 1)) (gE (yr - 1)) gS 6 (gO (yr - 1)) (yn, yc, 0)).1) + szL 6 (gO (yr - 1))) yr ym yd yn ((tA (gF (yr - 1)) (gE (yr - 1)) gS 6 (gO (yr - 1)) (yn, yc, 0)).2.2) ((tA (gF (yr - 1)) (gE (yr - 1)) gS 6 (gO (yr - 1)) (yn, yc, 0)).2.1) 4 (by omega) H.size) (cwV 1 hw g_M_90 rfl rfl rfl ⟨rfl, by decide, by decide, by decide +kernel⟩ ⟨by decide, by decide⟩) ⟨PW.blind, va_recv (q := (RM, FM, 15)) (ci := 1) (q0 := 0) hK hP rfl rfl, PW.pre hP hK hD hS hA hE⟩ rfl rfl hl.1 rfl (lv_room (Nat.le_of_ble_eq_true rfl)) d_M_end_134 ⟨by decide, by decide⟩) (fun H locs hP hD hS => ?_)
                have hP : va_P D cls2 (wM u cI cZ (cpn (pl gS ((tA (gF (yr - 1)) (gE (yr - 1)) gS 6 (gO (yr - 1)) (yn, yc, 0)).1) (szL 6 (gO (yr - 1))) (gO (yr - 1))) (cpn gQ gS yn) yn) gK gI gO gF gE (cpn gQ gS yn) 4 yn yr ym yd yn ((tA (gF (yr - 1)) (gE (yr - 1)) gS 6 (gO (yr - 1)) (yn, yc, 0)).2.2) ((tA (gF (yr - 1)) (gE (yr - 1)) gS 6 (gO (yr - 1)) (yn, yc, 0)).2.1)) H := hP
                have hD : va_D (va_A (wM u cI cZ gS gK gI gO gF gE gQ yt yn yr ym yd yk yb yc) s.heap.size) (wM u cI cZ (cpn (pl gS ((tA (gF (yr - 1)) (gE (yr - 1)) gS 6 (gO (yr - 1)) (yn, yc, 0)).1) (szL 6 (gO (yr - 1))) (gO (yr - 1))) (cpn gQ gS yn) yn) gK gI gO gF gE (cpn gQ gS yn) 4 yn yr ym yd yn ((tA (gF (yr - 1)) (gE (yr - 1)) gS 6 (gO (yr - 1)) (yn, yc, 0)).2.2) ((tA (gF (yr - 1)) (gE (yr - 1)) gS 6 (gO (yr - 1)) (yn, yc, 0)).2.1)) := hD
                have her : orE (nf yr) (orE (ifL (gK (yr - 1)) (gI (yr - 1)) (gO (yr - 1))) (orE (jw (gF (yr - 1)) (hbL (gF (yr - 1)) (gE (yr - 1)) gS 6 yn (gO (yr - 1)))) (rmE (gF (yr - 1) + szL 6 (gO (yr - 1)))))) = some AE := by rw [ef, ei, ej, er] <;> rfl
                exact W.iret hx hb hrt (fun t ht9 _ => ⟨⟨cpn (pl gS ((tA (gF (yr - 1)) (gE (yr - 1)) gS 6 (gO (yr - 1)) (yn, yc, 0)).1) (szL 6 (gO (yr - 1))) (gO (yr - 1))) (cpn gQ gS yn) yn, gK, gI, gO, gF, gE, cpn gQ gS yn, 4, yn, yr, ym, yd, yn, (tA (gF (yr - 1)) (gE (yr - 1)) gS 6 (gO (yr - 1)) (yn, yc, 0)).2.2, (tA (gF (yr - 1)) (gE (yr - 1)) gS 6 (gO (yr - 1)) (yn, yc, 0)).2.1, some (.int (nI 0)), rfl, ⟨fun he => (by rw [her] at he; cases he), fun E he => by rw [her] at he; cases he; exact ⟨by decide +kernel, rfl, rel_undo⟩⟩, im_undo hi (pl_lt giS), by rw [ht9]; exact hP, hD⟩, hS.F ht9⟩) hS.2.2 d_M_end_137
            · skip
              have ej : jw (gF (yr - 1)) (hbL (gF (yr - 1)) (gE (yr - 1)) gS 6 yn (gO (yr - 1))) = some ISE := jw_f ht h100
              refine lv_aload_n hx hb d_M_end_103 rfl (lv_at hl 0 rfl) ?_
              refine lv_iconst (v := nI 3) hx hb d_M_end_104 (by decide) ?_
              refine cl_w (v := some (.int (nI 0))) hD hS hA (W.runV (b := u 0) (C := "TypeStackModel") (As := [.int (nI 3)]) (rest := []) ⟨hx, hb, hml, hown, hw⟩ (c_M_undo l D u cI cZ gS gK gI gO gF gE (cpn gQ gS yn) 0 ((tA (gF (yr - 1)) (gE (yr - 1)) gS 6 (gO (yr - 1)) (yn, yc, 0)).1) yr ym yd yn ((tA (gF (yr - 1)) (gE (yr - 1)) gS 6 (gO (yr - 1)) (yn, yc, 0)).2.2) ((tA (gF (yr - 1)) (gE (yr - 1)) gS 6 (gO (yr - 1)) (yn, yc, 0)).2.1) 3 (by omega) H.size) (cwV 1 hw g_M_90 rfl rfl rfl ⟨rfl, by decide, by decide, by decide +kernel⟩ ⟨by decide, by decide⟩) ⟨PW.blind, va_recv (q := (RM, FM, 15)) (ci := 1) (q0 := 0) hK hP rfl rfl, PW.pre hP hK hD hS hA hE⟩ rfl rfl hl.1 rfl (lv_room (Nat.le_of_ble_eq_true rfl)) d_M_end_105 ⟨by decide, by decide⟩) (fun H locs hP hD hS => ?_)
              have hP : va_P D cls2 (wM u cI cZ (cpn gS (cpn gQ gS yn) yn) gK gI gO gF gE (cpn gQ gS yn) 3 yn yr ym yd yn ((tA (gF (yr - 1)) (gE (yr - 1)) gS 6 (gO (yr - 1)) (yn, yc, 0)).2.2) ((tA (gF (yr - 1)) (gE (yr - 1)) gS 6 (gO (yr - 1)) (yn, yc, 0)).2.1)) H := hP
              have hD : va_D (va_A (wM u cI cZ gS gK gI gO gF gE gQ yt yn yr ym yd yk yb yc) s.heap.size) (wM u cI cZ (cpn gS (cpn gQ gS yn) yn) gK gI gO gF gE (cpn gQ gS yn) 3 yn yr ym yd yn ((tA (gF (yr - 1)) (gE (yr - 1)) gS 6 (gO (yr - 1)) (yn, yc, 0)).2.2) ((tA (gF (yr - 1)) (gE (yr - 1)) gS 6 (gO (yr - 1)) (yn, yc, 0)).2.1)) := hD
              have her : orE (nf yr) (orE (ifL (gK (yr - 1)) (gI (yr - 1)) (gO (yr - 1))) (orE (jw (gF (yr - 1)) (hbL (gF (yr - 1)) (gE (yr - 1)) gS 6 yn (gO (yr - 1)))) (rmE (gF (yr - 1) + szL 6 (gO (yr - 1)))))) = some ISE := by rw [ef, ei, ej] <;> rfl
              exact W.iret hx hb hrt (fun t ht9 _ => ⟨⟨cpn gS (cpn gQ gS yn) yn, gK, gI, gO, gF, gE, cpn gQ gS yn, 3, yn, yr, ym, yd, yn, (tA (gF (yr - 1)) (gE (yr - 1)) gS 6 (gO (yr - 1)) (yn, yc, 0)).2.2, (tA (gF (yr - 1)) (gE (yr - 1)) gS 6 (gO (yr - 1)) (yn, yc, 0)).2.1, some (.int (nI 0)), rfl, ⟨fun he => (by rw [her] at he; cases he), fun E he => by rw [her] at he; cases he; exact ⟨by decide +kernel, rfl, rel_undo⟩⟩, im_undo hi giS, by rw [ht9]; exact hP, hD⟩, hS.F ht9⟩) hS.2.2 d_M_end_108
        · skip
          exfalso; omega
      · skip
        have ei : ifL (gK (yr - 1)) (gI (yr - 1)) (gO (yr - 1)) = some UOE := if_pos ⟨h22, h43⟩
        refine lv_iconst (v := nI 2) hx hb d_M_end_46 (by decide) ?_
        refine lv_goto hx hb d_M_end_47 (tgt := 51) (by decide) ?_
        refine va_put (D := D) (ci := 1) (C := RM) (T := FM) (N := 15) (v := .int (nI 2)) (ty := .int) hx hb hw inM tM tM_ok nM hown hK hP hD hS 0 rfl rfl 0 (by decide) (hw _ kF_M_36) (fun _ h9 => h9) rfl (by decide +kernel) rfl rfl (Nat.le_of_ble_eq_true rfl) d_M_end_51 (fun H locs hP hD hS => ?_)
        have hP : va_P D cls2 (wM u cI cZ gS gK gI gO gF gE gQ 2 yn yr ym yd yk yb yc) H := hP
        have hD : va_D (va_A (wM u cI cZ gS gK gI gO gF gE gQ yt yn yr ym yd yk yb yc) s.heap.size) (wM u cI cZ gS gK gI gO gF gE gQ 2 yn yr ym yd yk yb yc) := hD
        refine lv_aload_n hx hb d_M_end_54 rfl (lv_at hl 0 rfl) ?_
        refine va_get (D := D) (ci := 1) (C := RM) (T := FM) (N := 15) (v := .int (nI 2)) hx hb hw inM hown hK hP 0 rfl rfl 0 (by decide) (hw _ kF_M_36) (fun _ h9 => h9) rfl d_M_end_55 ?_
        refine nw_ifle hx hb (tgt := 63) d_M_end_58 (by decide) (by omega) (fun h58 => ?_) (fun h58 => ?_)
        · skip
          exfalso; omega
        · skip
          refine lv_iconst (v := nI 0) hx hb d_M_end_61 (by decide) ?_
          have her : orE (nf yr) (orE (ifL (gK (yr - 1)) (gI (yr - 1)) (gO (yr - 1))) (orE (jw (gF (yr - 1)) (hbL (gF (yr - 1)) (gE (yr - 1)) gS 6 yn (gO (yr - 1)))) (rmE (gF (yr - 1) + szL 6 (gO (yr - 1)))))) = some UOE := by simp only [orE, ef, ei]
          exact W.iret hx hb hrt (fun t ht9 _ => ⟨⟨gS, gK, gI, gO, gF, gE, gQ, 2, yn, yr, ym, yd, yk, yb, yc, some (.int (nI 0)), rfl, ⟨fun he => (by rw [her] at he; cases he), fun E he => by rw [her] at he; cases he; exact ⟨by decide +kernel, rfl, rel_rf⟩⟩, hi, by rw [ht9]; exact hP, hD⟩, hS.F ht9⟩) hS.2.2 d_M_end_62
  · skip
    have ef : nf yr = some NSE := nf_no h5
    refine lv_iconst (v := nI 1) hx hb d_M_end_8 (by decide) ?_
    refine lv_goto hx hb d_M_end_9 (tgt := 51) (by decide) ?_
    refine va_put (D := D) (ci := 1) (C := RM) (T := FM) (N := 15) (v := .int (nI 1)) (ty := .int) hx hb hw inM tM tM_ok nM hown hK hP hD hS 0 rfl rfl 0 (by decide) (hw _ kF_M_36) (fun _ h9 => h9) rfl (by decide +kernel) rfl rfl (Nat.le_of_ble_eq_true rfl) d_M_end_51 (fun H locs hP hD hS => ?_)
    have hP : va_P D cls2 (wM u cI cZ gS gK gI gO gF gE gQ 1 yn yr ym yd yk yb yc) H := hP
    have hD : va_D (va_A (wM u cI cZ gS gK gI gO gF gE gQ yt yn yr ym yd yk yb yc) s.heap.size) (wM u cI cZ gS gK gI gO gF gE gQ 1 yn yr ym yd yk yb yc) := hD
    refine lv_aload_n hx hb d_M_end_54 rfl (lv_at hl 0 rfl) ?_
    refine va_get (D := D) (ci := 1) (C := RM) (T := FM) (N := 15) (v := .int (nI 1)) hx hb hw inM hown hK hP 0 rfl rfl 0 (by decide) (hw _ kF_M_36) (fun _ h9 => h9) rfl d_M_end_55 ?_
    refine nw_ifle hx hb (tgt := 63) d_M_end_58 (by decide) (by omega) (fun h58 => ?_) (fun h58 => ?_)
    · skip
      exfalso; omega
    · skip
      refine lv_iconst (v := nI 0) hx hb d_M_end_61 (by decide) ?_
      have her : orE (nf yr) (orE (ifL (gK (yr - 1)) (gI (yr - 1)) (gO (yr - 1))) (orE (jw (gF (yr - 1)) (hbL (gF (yr - 1)) (gE (yr - 1)) gS 6 yn (gO (yr - 1)))) (rmE (gF (yr - 1) + szL 6 (gO (yr - 1)))))) = some NSE := by simp only [orE, ef]
      exact W.iret hx hb hrt (fun t ht9 _ => ⟨⟨gS, gK, gI, gO, gF, gE, gQ, 1, yn, yr, ym, yd, yk, yb, yc, some (.int (nI 0)), rfl, ⟨fun he => (by rw [her] at he; cases he), fun E he => by rw [her] at he; cases he; exact ⟨by decide +kernel, rfl, rel_rf⟩⟩, hi, by rw [ht9]; exact hP, hD⟩, hS.F ht9⟩) hS.2.2 d_M_end_62

set_option maxHeartbeats 4000000 in
set_option maxRecDepth 100000 in
theorem c_M_leapIf (l : Launch) (D : va_G) (u : Nat → Nat) (cI cZ : ClassId) (gS gK gI gO gF gE gQ : Nat → Nat) (yt yn yr ym yd yk yb yc : Nat) (hi : IM gS gK gI gO gF gE yn ym yr) (x : Int32) (hfl : 1 ≤ yr → gF (yr - 1) ≤ yn) (hmo : yn ≤ ym) (sz : Nat) : Met l y_M_leapIf w_M_leapIf (rmR 4) (PW D [(cI, .int), (cZ, .boolean)] (wM u cI cZ gS gK gI gO gF gE gQ yt yn yr ym yd yk yb yc) sz [.ref (u 0), .int x]) (QM D u cI cZ (wM u cI cZ gS gK gI gO gF gE gQ yt yn yr ym yd yk yb yc) sz (PMo (orE (xf yr x) (orE (xo ISE (hbT (gF (yr - 1)) (gE (yr - 1)) gS yn 1)) (orE (xo ISE (hbL (gF (yr - 1)) (gE (yr - 1)) gS 6 ((hbT (gF (yr - 1)) (gE (yr - 1)) gS yn 1).getD 0) (wnt gK gI gO (yr - 1 - x.toNatClampNeg)))) (rmE ((hbL (gF (yr - 1)) (gE (yr - 1)) gS 6 ((hbT (gF (yr - 1)) (gE (yr - 1)) gS yn 1).getD 0) (wnt gK gI gO (yr - 1 - x.toNatClampNeg))).getD 0 + szL 6 (wnt gK gI gO (yr - 1 - x.toNatClampNeg))))))) (cdl [NSE, ISE, AE]) (some (.int (nI ((hbL (gF (yr - 1)) (gE (yr - 1)) gS 6 ((hbT (gF (yr - 1)) (gE (yr - 1)) gS yn 1).getD 0) (wnt gK gI gO (yr - 1 - x.toNatClampNeg))).getD 0 + szL 6 (wnt gK gI gO (yr - 1 - x.toNatClampNeg)))))) (some (.int (nI 0))) (Rel (pl gS ((hbL (gF (yr - 1)) (gE (yr - 1)) gS 6 ((hbT (gF (yr - 1)) (gE (yr - 1)) gS yn 1).getD 0) (wnt gK gI gO (yr - 1 - x.toNatClampNeg))).getD 0) (szL 6 (wnt gK gI gO (yr - 1 - x.toNatClampNeg))) (wnt gK gI gO (yr - 1 - x.toNatClampNeg))) gK gI gO gF gE (((hbL (gF (yr - 1)) (gE (yr - 1)) gS 6 ((hbT (gF (yr - 1)) (gE (yr - 1)) gS yn 1).getD 0) (wnt gK gI gO (yr - 1 - x.toNatClampNeg))).getD 0) + szL 6 (wnt gK gI gO (yr - 1 - x.toNatClampNeg))) (max ym (((hbL (gF (yr - 1)) (gE (yr - 1)) gS 6 ((hbT (gF (yr - 1)) (gE (yr - 1)) gS yn 1).getD 0) (wnt gK gI gO (yr - 1 - x.toNatClampNeg))).getD 0) + szL 6 (wnt gK gI gO (yr - 1 - x.toNatClampNeg)))) yr (yd + 1)) (Rel gS gK gI gO gF gE yn ym yr yd))) 0 0 (va_A (wM u cI cZ gS gK gI gO gF gE gQ yt yn yr ym yd yk yb yc) sz) := by
  refine Met.ofW (cc := b_M_leapIf) (maxL := 2) (ret := (some .int)) (by decide) rfl ?_
  intro p e s m args below meth c s₁ B hml hv
  obtain ⟨rfl, hsz, hP, hK, hD0, hE⟩ := hv
  have hx := B.exec
  have hb := B.bytes
  have hrt := B.returns
  have hts := atoms_spec (ws := w_M_leapIf) B.pre
  have hw : ∀ w ∈ bw, w.before ([.ref (u 0), .int x]).toArray s = true := fun w h => hts w (List.mem_cons_of_mem _ h)
  have hown : s.vm.findClass "TypeStackModel" = some m.cls := findClass_of_methodNamed B.named
  have hlocks := B.notSynchronized
  subst hsz
  have hD := hD0.self (sz := s.heap.size)
  have hA : ∀ q : Nat, s.heap.size ≤ q → va_A (wM u cI cZ gS gK gI gO gF gE gQ yt yn yr ym yd yk yb yc) s.heap.size q := fun q h => Or.inr h
  have hS : va_S (va_A (wM u cI cZ gS gK gI gO gF gE gQ yt yn yr ym yd yk yb yc) s.heap.size) s.heap s.heap [] := va_S.rf
  have hK0 := hK.sub (tys' := []) [] rfl
  have hl := lv_entry ([.ref (u 0), .int x]) (n := 2) (Nat.le_of_ble_eq_true rfl)
  rw [lg_entry_eq]
  generalize (lg_sl ([.ref (u 0), .int x]) ++ List.replicate (2 - (lg_sl ([.ref (u 0), .int x])).length) Slot.unset).toArray = ls at hl ⊢
  have hl : lv_has ls 2 [(0, .ref (u 0)), (1, .int x)] := hl
  obtain ⟨giS, giK, giI, giO, giF, giE, gin, gim, gir⟩ := id hi
  refine lv_aload_n hx hb d_M_leapIf_0 rfl (lv_at hl 0 rfl) ?_
  refine lv_aload_n hx hb d_M_leapIf_1 rfl (lv_at hl 0 rfl) ?_
  refine lv_iload_n hx hb d_M_leapIf_2 rfl (lv_at hl 1 rfl) ?_
  refine cl_r (v := some (.int (nI (nlb yr x)))) (W.runV (b := u 0) (C := "TypeStackModel") (As := [.int x]) (rest := [.ref (u 0)]) ⟨hx, hb, hml, hown, hw⟩ (c_M_noLabel l D u cI cZ gS gK gI gO gF gE gQ yt yn yr ym yd yk yb yc x s.heap.size) (cwV 1 hw g_M_103 rfl rfl rfl ⟨rfl, by decide, by decide, by decide +kernel⟩ ⟨by decide, by decide⟩) ⟨PW.blind, va_recv (q := (RM, FM, 15)) (ci := 1) (q0 := 0) hK hP rfl rfl, PW.pre hP hK hD hS hA hE⟩ rfl rfl hl.1 rfl (lv_room (Nat.le_of_ble_eq_true rfl)) d_M_leapIf_3 ⟨by decide, by decide⟩) ?_
  have hq3 := nlb_le yr x
  refine nw_ifeq hx hb (tgt := 13) d_M_leapIf_6 (by decide) (by omega) (fun h6 => ?_) (fun h6 => ?_)
  · skip
    have ex : xf yr x = none := nl_ok h6
    refine lv_iconst (v := nI 0) hx hb d_M_leapIf_13 (by decide) ?_
    refine va_put (D := D) (ci := 1) (C := RM) (T := FM) (N := 15) (v := .int (nI 0)) (ty := .int) hx hb hw inM tM tM_ok nM hown hK hP hD hS 0 rfl rfl 0 (by decide) (hw _ kF_M_36) (fun _ h9 => h9) rfl (by decide +kernel) rfl rfl (Nat.le_of_ble_eq_true rfl) d_M_leapIf_14 (fun H locs hP hD hS => ?_)
    have hP : va_P D cls2 (wM u cI cZ gS gK gI gO gF gE gQ 0 yn yr ym yd yk yb yc) H := hP
    have hD : va_D (va_A (wM u cI cZ gS gK gI gO gF gE gQ yt yn yr ym yd yk yb yc) s.heap.size) (wM u cI cZ gS gK gI gO gF gE gQ 0 yn yr ym yd yk yb yc) := hD
    refine lv_aload_n hx hb d_M_leapIf_17 rfl (lv_at hl 0 rfl) ?_
    refine va_get (D := D) (ci := 1) (C := RM) (T := FM) (N := 15) (v := .int (nI 0)) hx hb hw inM hown hK hP 0 rfl rfl 0 (by decide) (hw _ kF_M_36) (fun _ h9 => h9) rfl d_M_leapIf_18 ?_
    refine nw_ifle hx hb (tgt := 26) d_M_leapIf_21 (by decide) (by omega) (fun h21 => ?_) (fun h21 => ?_)
    · skip
      have hjx := xf_pos ex
      have hrx := xf_r ex
      have hwx := wnt_lt gK giI giO (yr - 1 - x.toNatClampNeg)
      have hsz := szL_le 6 (wnt gK gI gO (yr - 1 - x.toNatClampNeg))
      refine lv_aload_n hx hb d_M_leapIf_26 rfl (lv_at hl 0 rfl) ?_
      refine cl_w (v := none) hD hS hA (W.runV (b := u 0) (C := "TypeStackModel") (As := []) (rest := []) ⟨hx, hb, hml, hown, hw⟩ (c_M_keep l D u cI cZ gS gK gI gO gF gE gQ 0 yn yr ym yd yk yb yc (by omega) H.size) (cwV 0 hw g_M_84 rfl rfl rfl ⟨rfl, by decide, by decide, by decide +kernel⟩ ⟨by decide, by decide⟩) ⟨PW.blind, va_recv (q := (RM, FM, 15)) (ci := 1) (q0 := 0) hK hP rfl rfl, PW.pre hP hK hD hS hA hE⟩ rfl rfl hl.1 rfl (lv_room (Nat.le_of_ble_eq_true rfl)) d_M_leapIf_27 ⟨by decide, by decide⟩) (fun H locs hP hD hS => ?_)
      have hP : va_P D cls2 (wM u cI cZ gS gK gI gO gF gE (cpn gQ gS yn) 0 yn yr ym yd yn 0 yc) H := hP
      have hD : va_D (va_A (wM u cI cZ gS gK gI gO gF gE gQ yt yn yr ym yd yk yb yc) s.heap.size) (wM u cI cZ gS gK gI gO gF gE (cpn gQ gS yn) 0 yn yr ym yd yn 0 yc) := hD
      refine lv_aload_n hx hb d_M_leapIf_30 rfl (lv_at hl 0 rfl) ?_
      refine lv_iconst (v := nI 1) hx hb d_M_leapIf_31 (by decide) ?_
      refine cl_w (v := none) hD hS hA (W.runV (b := u 0) (C := "TypeStackModel") (As := [.int (nI 1)]) (rest := []) ⟨hx, hb, hml, hown, hw⟩ (c_M_take1 l D u cI cZ gS gK gI gO gF gE (cpn gQ gS yn) 0 yn yr ym yd yn 0 yc 1 (by omega) (by omega) (by omega) (by omega) giF giE giS H.size) (cwV 1 hw g_M_75 rfl rfl rfl ⟨rfl, by decide, by decide, by decide +kernel⟩ ⟨by decide, by decide⟩) ⟨PW.blind, va_recv (q := (RM, FM, 15)) (ci := 1) (q0 := 0) hK hP rfl rfl, PW.pre hP hK hD hS hA hE⟩ rfl rfl hl.1 rfl (lv_room (Nat.le_of_ble_eq_true rfl)) d_M_leapIf_32 ⟨by decide, by decide⟩) (fun H locs hP hD hS => ?_)
      have hP : va_P D cls2 (wM u cI cZ gS gK gI gO gF gE (cpn gQ gS yn) 0 (tkn (gF (yr - 1)) yn) yr ym yd yn (tkc (tk1 (gF (yr - 1)) yn gS) 1 (tkb (gF (yr - 1)) (gE (yr - 1)) yn 0)) (tk1 (gF (yr - 1)) yn gS)) H := hP
      have hD : va_D (va_A (wM u cI cZ gS gK gI gO gF gE gQ yt yn yr ym yd yk yb yc) s.heap.size) (wM u cI cZ gS gK gI gO gF gE (cpn gQ gS yn) 0 (tkn (gF (yr - 1)) yn) yr ym yd yn (tkc (tk1 (gF (yr - 1)) yn gS) 1 (tkb (gF (yr - 1)) (gE (yr - 1)) yn 0)) (tk1 (gF (yr - 1)) yn gS)) := hD
      have hn1 := tkn_le (gF (yr - 1)) yn
      have hb1 : tkc (tk1 (gF (yr - 1)) yn gS) 1 (tkb (gF (yr - 1)) (gE (yr - 1)) yn 0) ≤ 1 := tkc_le (tkb_le (Nat.zero_le 1))
      refine lv_aload_n hx hb d_M_leapIf_35 rfl (lv_at hl 0 rfl) ?_
      refine lv_aload_n hx hb d_M_leapIf_36 rfl (lv_at hl 0 rfl) ?_
      refine lv_iload_n hx hb d_M_leapIf_37 rfl (lv_at hl 1 rfl) ?_
      refine nw_is (y := nI x.toNatClampNeg) (xf_eq ex) ?_
      refine cl_r (v := some (.int (nI (wnt gK gI gO (yr - 1 - x.toNatClampNeg))))) (W.runV (b := u 0) (C := "TypeStackModel") (As := [.int (nI x.toNatClampNeg)]) (rest := [.ref (u 0)]) ⟨hx, hb, hml, hown, hw⟩ (c_M_wants l D u cI cZ gS gK gI gO gF gE (cpn gQ gS yn) 0 (tkn (gF (yr - 1)) yn) yr ym yd yn (tkc (tk1 (gF (yr - 1)) yn gS) 1 (tkb (gF (yr - 1)) (gE (yr - 1)) yn 0)) (tk1 (gF (yr - 1)) yn gS) x.toNatClampNeg (by omega) (by omega) giK H.size) (cwV 1 hw g_M_106 rfl rfl rfl ⟨rfl, by decide, by decide, by decide +kernel⟩ ⟨by decide, by decide⟩) ⟨PW.blind, va_recv (q := (RM, FM, 15)) (ci := 1) (q0 := 0) hK hP rfl rfl, PW.pre hP hK hD hS hA hE⟩ rfl rfl hl.1 rfl (lv_room (Nat.le_of_ble_eq_true rfl)) d_M_leapIf_38 ⟨by decide, by decide⟩) ?_
      refine cl_w (v := none) hD hS hA (W.runV (b := u 0) (C := "TypeStackModel") (As := [.int (nI (wnt gK gI gO (yr - 1 - x.toNatClampNeg)))]) (rest := []) ⟨hx, hb, hml, hown, hw⟩ (c_M_takeAll l D u cI cZ gS gK gI gO gF gE (cpn gQ gS yn) 0 (tkn (gF (yr - 1)) yn) yr ym yd yn (tkc (tk1 (gF (yr - 1)) yn gS) 1 (tkb (gF (yr - 1)) (gE (yr - 1)) yn 0)) (tk1 (gF (yr - 1)) yn gS) (wnt gK gI gO (yr - 1 - x.toNatClampNeg)) (by omega) (by omega) (by omega) (by omega) giF giE giS H.size) (cwV 1 hw g_M_87 rfl rfl rfl ⟨rfl, by decide, by decide, by decide +kernel⟩ ⟨by decide, by decide⟩) ⟨PW.blind, va_recv (q := (RM, FM, 15)) (ci := 1) (q0 := 0) hK hP rfl rfl, PW.pre hP hK hD hS hA hE⟩ rfl rfl hl.1 rfl (lv_room (Nat.le_of_ble_eq_true rfl)) d_M_leapIf_41 ⟨by decide, by decide⟩) (fun H locs hP hD hS => ?_)
      have hP : va_P D cls2 (wM u cI cZ gS gK gI gO gF gE (cpn gQ gS yn) 0 ((tA (gF (yr - 1)) (gE (yr - 1)) gS 6 (wnt gK gI gO (yr - 1 - x.toNatClampNeg)) (tkn (gF (yr - 1)) yn, tk1 (gF (yr - 1)) yn gS, tkc (tk1 (gF (yr - 1)) yn gS) 1 (tkb (gF (yr - 1)) (gE (yr - 1)) yn 0))).1) yr ym yd yn ((tA (gF (yr - 1)) (gE (yr - 1)) gS 6 (wnt gK gI gO (yr - 1 - x.toNatClampNeg)) (tkn (gF (yr - 1)) yn, tk1 (gF (yr - 1)) yn gS, tkc (tk1 (gF (yr - 1)) yn gS) 1 (tkb (gF (yr - 1)) (gE (yr - 1)) yn 0))).2.2) ((tA (gF (yr - 1)) (gE (yr - 1)) gS 6 (wnt gK gI gO (yr - 1 - x.toNatClampNeg)) (tkn (gF (yr - 1)) yn, tk1 (gF (yr - 1)) yn gS, tkc (tk1 (gF (yr - 1)) yn gS) 1 (tkb (gF (yr - 1)) (gE (yr - 1)) yn 0))).2.1)) H := hP
      have hD : va_D (va_A (wM u cI cZ gS gK gI gO gF gE gQ yt yn yr ym yd yk yb yc) s.heap.size) (wM u cI cZ gS gK gI gO gF gE (cpn gQ gS yn) 0 ((tA (gF (yr - 1)) (gE (yr - 1)) gS 6 (wnt gK gI gO (yr - 1 - x.toNatClampNeg)) (tkn (gF (yr - 1)) yn, tk1 (gF (yr - 1)) yn gS, tkc (tk1 (gF (yr - 1)) yn gS) 1 (tkb (gF (yr - 1)) (gE (yr - 1)) yn 0))).1) yr ym yd yn ((tA (gF (yr - 1)) (gE (yr - 1)) gS 6 (wnt gK gI gO (yr - 1 - x.toNatClampNeg)) (tkn (gF (yr - 1)) yn, tk1 (gF (yr - 1)) yn gS, tkc (tk1 (gF (yr - 1)) yn gS) 1 (tkb (gF (yr - 1)) (gE (yr - 1)) yn 0))).2.2) ((tA (gF (yr - 1)) (gE (yr - 1)) gS 6 (wnt gK gI gO (yr - 1 - x.toNatClampNeg)) (tkn (gF (yr - 1)) yn, tk1 (gF (yr - 1)) yn gS, tkc (tk1 (gF (yr - 1)) yn gS) 1 (tkb (gF (yr - 1)) (gE (yr - 1)) yn 0))).2.1)) := hD
      have hta := tA_le (gF (yr - 1)) (gE (yr - 1)) gS 6 (wnt gK gI gO (yr - 1 - x.toNatClampNeg)) (tkn (gF (yr - 1)) yn) (tk1 (gF (yr - 1)) yn gS) (tkc (tk1 (gF (yr - 1)) yn gS) 1 (tkb (gF (yr - 1)) (gE (yr - 1)) yn 0)) hb1
      refine lv_aload_n hx hb d_M_leapIf_44 rfl (lv_at hl 0 rfl) ?_
      refine va_get (D := D) (ci := 1) (C := RM) (T := FM) (N := 15) (v := .int (nI ((tA (gF (yr - 1)) (gE (yr - 1)) gS 6 (wnt gK gI gO (yr - 1 - x.toNatClampNeg)) (tkn (gF (yr - 1)) yn, tk1 (gF (yr - 1)) yn gS, tkc (tk1 (gF (yr - 1)) yn gS) 1 (tkb (gF (yr - 1)) (gE (yr - 1)) yn 0))).2.2))) hx hb hw inM hown hK hP 0 rfl rfl 13 (by decide) (hw _ kF_M_55) (fun _ h9 => h9) rfl d_M_leapIf_45 ?_
      refine nw_ifeq hx hb (tgt := 57) d_M_leapIf_48 (by decide) (by omega) (fun h48 => ?_) (fun h48 => ?_)
      · skip
        obtain ⟨⟨e1, p1⟩, e2, p2⟩ := ta1_ok h48
        refine lv_aload_n hx hb d_M_leapIf_57 rfl (lv_at hl 0 rfl) ?_
        refine lv_aload_n hx hb d_M_leapIf_58 rfl (lv_at hl 0 rfl) ?_
        refine lv_iload_n hx hb d_M_leapIf_59 rfl (lv_at hl 1 rfl) ?_
        refine nw_is (y := nI x.toNatClampNeg) (xf_eq ex) ?_
        refine cl_r (v := some (.int (nI (wnt gK gI gO (yr - 1 - x.toNatClampNeg))))) (W.runV (b := u 0) (C := "TypeStackModel") (As := [.int (nI x.toNatClampNeg)]) (rest := [.ref (u 0)]) ⟨hx, hb, hml, hown, hw⟩ (c_M_wants l D u cI cZ gS gK gI gO gF gE (cpn gQ gS yn) 0 ((tA (gF (yr - 1)) (gE (yr - 1)) gS 6 (wnt gK gI gO (yr - 1 - x.toNatClampNeg)) (tkn (gF (yr - 1)) yn, tk1 (gF (yr - 1)) yn gS, tkc (tk1 (gF (yr - 1)) yn gS) 1 (tkb (gF (yr - 1)) (gE (yr - 1)) yn 0))).1) yr ym yd yn ((tA (gF (yr - 1)) (gE (yr - 1)) gS 6 (wnt gK gI gO (yr - 1 - x.toNatClampNeg)) (tkn (gF (yr - 1)) yn, tk1 (gF (yr - 1)) yn gS, tkc (tk1 (gF (yr - 1)) yn gS) 1 (tkb (gF (yr - 1)) (gE (yr - 1)) yn 0))).2.2) ((tA (gF (yr - 1)) (gE (yr - 1)) gS 6 (wnt gK gI gO (yr - 1 - x.toNatClampNeg)) (tkn (gF (yr - 1)) yn, tk1 (gF (yr - 1)) yn gS, tkc (tk1 (gF (yr - 1)) yn gS) 1 (tkb (gF (yr - 1)) (gE (yr - 1)) yn 0))).2.1) x.toNatClampNeg (by omega) (by omega) giK H.size) (cwV 1 hw g_M_106 rfl rfl rfl ⟨rfl, by decide, by decide, by decide +kernel⟩ ⟨by decide, by decide⟩) ⟨PW.blind, va_recv (q := (RM, FM, 15)) (ci := 1) (q0 := 0) hK hP rfl rfl, PW.pre hP hK hD hS hA hE⟩ rfl rfl hl.1 rfl (lv_room (Nat.le_of_ble_eq_true rfl)) d_M_leapIf_60 ⟨by decide, by decide⟩) ?_
        refine cl_w (v := none) hD hS hA (W.runV (b := u 0) (C := "TypeStackModel") (As := [.int (nI (wnt gK gI gO (yr - 1 - x.toNatClampNeg)))]) (rest := []) ⟨hx, hb, hml, hown, hw⟩ (c_M_putAll l D u cI cZ gS gK gI gO gF gE (cpn gQ gS yn) 0 ((tA (gF (yr - 1)) (gE (yr - 1)) gS 6 (wnt gK gI gO (yr - 1 - x.toNatClampNeg)) (tkn (gF (yr - 1)) yn, tk1 (gF (yr - 1)) yn gS, tkc (tk1 (gF (yr - 1)) yn gS) 1 (tkb (gF (yr - 1)) (gE (yr - 1)) yn 0))).1) yr ym yd yn ((tA (gF (yr - 1)) (gE (yr - 1)) gS 6 (wnt gK gI gO (yr - 1 - x.toNatClampNeg)) (tkn (gF (yr - 1)) yn, tk1 (gF (yr - 1)) yn gS, tkc (tk1 (gF (yr - 1)) yn gS) 1 (tkb (gF (yr - 1)) (gE (yr - 1)) yn 0))).2.2) ((tA (gF (yr - 1)) (gE (yr - 1)) gS 6 (wnt gK gI gO (yr - 1 - x.toNatClampNeg)) (tkn (gF (yr - 1)) yn, tk1 (gF (yr - 1)) yn gS, tkc (tk1 (gF (yr - 1)) yn gS) 1 (tkb (gF (yr - 1)) (gE (yr - 1)) yn 0))).2.1) (wnt gK gI gO (yr - 1 - x.toNatClampNeg)) (by omega) (by omega) H.size) (cwV 1 hw g_M_94 rfl rfl rfl ⟨rfl, by decide, by decide, by decide +kernel⟩ ⟨by decide, by decide⟩) ⟨PW.blind, va_recv (q := (RM, FM, 15)) (ci := 1) (q0 := 0) hK hP rfl rfl, PW.pre hP hK hD hS hA hE⟩ rfl rfl hl.1 rfl (lv_room (Nat.le_of_ble_eq_true rfl)) d_M_leapIf_63 ⟨by decide, by decide⟩) (fun H locs hP hD hS => ?_)
        have hP : va_P D cls2 (wM u cI cZ (pl gS ((tA (gF (yr - 1)) (gE (yr - 1)) gS 6 (wnt gK gI gO (yr - 1 - x.toNatClampNeg)) (tkn (gF (yr - 1)) yn, tk1 (gF (yr - 1)) yn gS, tkc (tk1 (gF (yr - 1)) yn gS) 1 (tkb (gF (yr - 1)) (gE (yr - 1)) yn 0))).1) (szL 6 (wnt gK gI gO (yr - 1 - x.toNatClampNeg))) (wnt gK gI gO (yr - 1 - x.toNatClampNeg))) gK gI gO gF gE (cpn gQ gS yn) 0 (((tA (gF (yr - 1)) (gE (yr - 1)) gS 6 (wnt gK gI gO (yr - 1 - x.toNatClampNeg)) (tkn (gF (yr - 1)) yn, tk1 (gF (yr - 1)) yn gS, tkc (tk1 (gF (yr - 1)) yn gS) 1 (tkb (gF (yr - 1)) (gE (yr - 1)) yn 0))).1) + szL 6 (wnt gK gI gO (yr - 1 - x.toNatClampNeg))) yr ym yd yn ((tA (gF (yr - 1)) (gE (yr - 1)) gS 6 (wnt gK gI gO (yr - 1 - x.toNatClampNeg)) (tkn (gF (yr - 1)) yn, tk1 (gF (yr - 1)) yn gS, tkc (tk1 (gF (yr - 1)) yn gS) 1 (tkb (gF (yr - 1)) (gE (yr - 1)) yn 0))).2.2) ((tA (gF (yr - 1)) (gE (yr - 1)) gS 6 (wnt gK gI gO (yr - 1 - x.toNatClampNeg)) (tkn (gF (yr - 1)) yn, tk1 (gF (yr - 1)) yn gS, tkc (tk1 (gF (yr - 1)) yn gS) 1 (tkb (gF (yr - 1)) (gE (yr - 1)) yn 0))).2.1)) H := hP
        have hD : va_D (va_A (wM u cI cZ gS gK gI gO gF gE gQ yt yn yr ym yd yk yb yc) s.heap.size) (wM u cI cZ (pl gS ((tA (gF (yr - 1)) (gE (yr - 1)) gS 6 (wnt gK gI gO (yr - 1 - x.toNatClampNeg)) (tkn (gF (yr - 1)) yn, tk1 (gF (yr - 1)) yn gS, tkc (tk1 (gF (yr - 1)) yn gS) 1 (tkb (gF (yr - 1)) (gE (yr - 1)) yn 0))).1) (szL 6 (wnt gK gI gO (yr - 1 - x.toNatClampNeg))) (wnt gK gI gO (yr - 1 - x.toNatClampNeg))) gK gI gO gF gE (cpn gQ gS yn) 0 (((tA (gF (yr - 1)) (gE (yr - 1)) gS 6 (wnt gK gI gO (yr - 1 - x.toNatClampNeg)) (tkn (gF (yr - 1)) yn, tk1 (gF (yr - 1)) yn gS, tkc (tk1 (gF (yr - 1)) yn gS) 1 (tkb (gF (yr - 1)) (gE (yr - 1)) yn 0))).1) + szL 6 (wnt gK gI gO (yr - 1 - x.toNatClampNeg))) yr ym yd yn ((tA (gF (yr - 1)) (gE (yr - 1)) gS 6 (wnt gK gI gO (yr - 1 - x.toNatClampNeg)) (tkn (gF (yr - 1)) yn, tk1 (gF (yr - 1)) yn gS, tkc (tk1 (gF (yr - 1)) yn gS) 1 (tkb (gF (yr - 1)) (gE (yr - 1)) yn 0))).2.2) ((tA (gF (yr - 1)) (gE (yr - 1)) gS 6 (wnt gK gI gO (yr - 1 - x.toNatClampNeg)) (tkn (gF (yr - 1)) yn, tk1 (gF (yr - 1)) yn gS, tkc (tk1 (gF (yr - 1)) yn gS) 1 (tkb (gF (yr - 1)) (gE (yr - 1)) yn 0))).2.1)) := hD
        refine lv_aload_n hx hb d_M_leapIf_66 rfl (lv_at hl 0 rfl) ?_
        refine va_get (D := D) (ci := 1) (C := RM) (T := FM) (N := 15) (v := .int (nI (((tA (gF (yr - 1)) (gE (yr - 1)) gS 6 (wnt gK gI gO (yr - 1 - x.toNatClampNeg)) (tkn (gF (yr - 1)) yn, tk1 (gF (yr - 1)) yn gS, tkc (tk1 (gF (yr - 1)) yn gS) 1 (tkb (gF (yr - 1)) (gE (yr - 1)) yn 0))).1) + szL 6 (wnt gK gI gO (yr - 1 - x.toNatClampNeg))))) hx hb hw inM hown hK hP 0 rfl rfl 7 (by decide) (hw _ kF_M_40) (fun _ h9 => h9) rfl d_M_leapIf_67 ?_
        refine lv_sipush (v := nI 300) hx hb d_M_leapIf_70 (by decide) ?_
        refine nw_le hx hb (tgt := 82) d_M_leapIf_73 (by decide) (by omega) (by omega) (fun h73 => ?_) (fun h73 => ?_)
        · skip
          refine lv_aload_n hx hb d_M_leapIf_82 rfl (lv_at hl 0 rfl) ?_
          refine cl_w (v := none) hD hS hA (W.runV (b := u 0) (C := "TypeStackModel") (As := []) (rest := []) ⟨hx, hb, hml, hown, hw⟩ (c_M_well l D u cI cZ (pl gS ((tA (gF (yr - 1)) (gE (yr - 1)) gS 6 (wnt gK gI gO (yr - 1 - x.toNatClampNeg)) (tkn (gF (yr - 1)) yn, tk1 (gF (yr - 1)) yn gS, tkc (tk1 (gF (yr - 1)) yn gS) 1 (tkb (gF (yr - 1)) (gE (yr - 1)) yn 0))).1) (szL 6 (wnt gK gI gO (yr - 1 - x.toNatClampNeg))) (wnt gK gI gO (yr - 1 - x.toNatClampNeg))) gK gI gO gF gE (cpn gQ gS yn) 0 (((tA (gF (yr - 1)) (gE (yr - 1)) gS 6 (wnt gK gI gO (yr - 1 - x.toNatClampNeg)) (tkn (gF (yr - 1)) yn, tk1 (gF (yr - 1)) yn gS, tkc (tk1 (gF (yr - 1)) yn gS) 1 (tkb (gF (yr - 1)) (gE (yr - 1)) yn 0))).1) + szL 6 (wnt gK gI gO (yr - 1 - x.toNatClampNeg))) yr ym yd yn ((tA (gF (yr - 1)) (gE (yr - 1)) gS 6 (wnt gK gI gO (yr - 1 - x.toNatClampNeg)) (tkn (gF (yr - 1)) yn, tk1 (gF (yr - 1)) yn gS, tkc (tk1 (gF (yr - 1)) yn gS) 1 (tkb (gF (yr - 1)) (gE (yr - 1)) yn 0))).2.2) ((tA (gF (yr - 1)) (gE (yr - 1)) gS 6 (wnt gK gI gO (yr - 1 - x.toNatClampNeg)) (tkn (gF (yr - 1)) yn, tk1 (gF (yr - 1)) yn gS, tkc (tk1 (gF (yr - 1)) yn gS) 1 (tkb (gF (yr - 1)) (gE (yr - 1)) yn 0))).2.1) (by omega) (by omega) H.size) (cwV 0 hw g_M_97 rfl rfl rfl ⟨rfl, by decide, by decide, by decide +kernel⟩ ⟨by decide, by decide⟩) ⟨PW.blind, va_recv (q := (RM, FM, 15)) (ci := 1) (q0 := 0) hK hP rfl rfl, PW.pre hP hK hD hS hA hE⟩ rfl rfl hl.1 rfl (lv_room (Nat.le_of_ble_eq_true rfl)) d_M_leapIf_83 ⟨by decide, by decide⟩) (fun H locs hP hD hS => ?_)
          have hP : va_P D cls2 (wM u cI cZ (pl gS ((tA (gF (yr - 1)) (gE (yr - 1)) gS 6 (wnt gK gI gO (yr - 1 - x.toNatClampNeg)) (tkn (gF (yr - 1)) yn, tk1 (gF (yr - 1)) yn gS, tkc (tk1 (gF (yr - 1)) yn gS) 1 (tkb (gF (yr - 1)) (gE (yr - 1)) yn 0))).1) (szL 6 (wnt gK gI gO (yr - 1 - x.toNatClampNeg))) (wnt gK gI gO (yr - 1 - x.toNatClampNeg))) gK gI gO gF gE (cpn gQ gS yn) 0 (((tA (gF (yr - 1)) (gE (yr - 1)) gS 6 (wnt gK gI gO (yr - 1 - x.toNatClampNeg)) (tkn (gF (yr - 1)) yn, tk1 (gF (yr - 1)) yn gS, tkc (tk1 (gF (yr - 1)) yn gS) 1 (tkb (gF (yr - 1)) (gE (yr - 1)) yn 0))).1) + szL 6 (wnt gK gI gO (yr - 1 - x.toNatClampNeg))) yr (max ym (((tA (gF (yr - 1)) (gE (yr - 1)) gS 6 (wnt gK gI gO (yr - 1 - x.toNatClampNeg)) (tkn (gF (yr - 1)) yn, tk1 (gF (yr - 1)) yn gS, tkc (tk1 (gF (yr - 1)) yn gS) 1 (tkb (gF (yr - 1)) (gE (yr - 1)) yn 0))).1) + szL 6 (wnt gK gI gO (yr - 1 - x.toNatClampNeg)))) (yd + 1) yn ((tA (gF (yr - 1)) (gE (yr - 1)) gS 6 (wnt gK gI gO (yr - 1 - x.toNatClampNeg)) (tkn (gF (yr - 1)) yn, tk1 (gF (yr - 1)) yn gS, tkc (tk1 (gF (yr - 1)) yn gS) 1 (tkb (gF (yr - 1)) (gE (yr - 1)) yn 0))).2.2) ((tA (gF (yr - 1)) (gE (yr - 1)) gS 6 (wnt gK gI gO (yr - 1 - x.toNatClampNeg)) (tkn (gF (yr - 1)) yn, tk1 (gF (yr - 1)) yn gS, tkc (tk1 (gF (yr - 1)) yn gS) 1 (tkb (gF (yr - 1)) (gE (yr - 1)) yn 0))).2.1)) H := hP
          have hD : va_D (va_A (wM u cI cZ gS gK gI gO gF gE gQ yt yn yr ym yd yk yb yc) s.heap.size) (wM u cI cZ (pl gS ((tA (gF (yr - 1)) (gE (yr - 1)) gS 6 (wnt gK gI gO (yr - 1 - x.toNatClampNeg)) (tkn (gF (yr - 1)) yn, tk1 (gF (yr - 1)) yn gS, tkc (tk1 (gF (yr - 1)) yn gS) 1 (tkb (gF (yr - 1)) (gE (yr - 1)) yn 0))).1) (szL 6 (wnt gK gI gO (yr - 1 - x.toNatClampNeg))) (wnt gK gI gO (yr - 1 - x.toNatClampNeg))) gK gI gO gF gE (cpn gQ gS yn) 0 (((tA (gF (yr - 1)) (gE (yr - 1)) gS 6 (wnt gK gI gO (yr - 1 - x.toNatClampNeg)) (tkn (gF (yr - 1)) yn, tk1 (gF (yr - 1)) yn gS, tkc (tk1 (gF (yr - 1)) yn gS) 1 (tkb (gF (yr - 1)) (gE (yr - 1)) yn 0))).1) + szL 6 (wnt gK gI gO (yr - 1 - x.toNatClampNeg))) yr (max ym (((tA (gF (yr - 1)) (gE (yr - 1)) gS 6 (wnt gK gI gO (yr - 1 - x.toNatClampNeg)) (tkn (gF (yr - 1)) yn, tk1 (gF (yr - 1)) yn gS, tkc (tk1 (gF (yr - 1)) yn gS) 1 (tkb (gF (yr - 1)) (gE (yr - 1)) yn 0))).1) + szL 6 (wnt gK gI gO (yr - 1 - x.toNatClampNeg)))) (yd + 1) yn ((tA (gF (yr - 1)) (gE (yr - 1)) gS 6 (wnt gK gI gO (yr - 1 - x.toNatClampNeg)) (tkn (gF (yr - 1)) yn, tk1 (gF (yr - 1)) yn gS, tkc (tk1 (gF (yr - 1)) yn gS) 1 (tkb (gF (yr - 1)) (gE (yr - 1)) yn 0))).2.2) ((tA (gF (yr - 1)) (gE (yr - 1)) gS 6 (wnt gK gI gO (yr - 1 - x.toNatClampNeg)) (tkn (gF (yr - 1)) yn, tk1 (gF (yr - 1)) yn gS, tkc (tk1 (gF (yr - 1)) yn gS) 1 (tkb (gF (yr - 1)) (gE (yr - 1)) yn 0))).2.1)) := hD
          refine lv_aload_n hx hb d_M_leapIf_86 rfl (lv_at hl 0 rfl) ?_
          refine va_get (D := D) (ci := 1) (C := RM) (T := FM) (N := 15) (v := .int (nI (((tA (gF (yr - 1)) (gE (yr - 1)) gS 6 (wnt gK gI gO (yr - 1 - x.toNatClampNeg)) (tkn (gF (yr - 1)) yn, tk1 (gF (yr - 1)) yn gS, tkc (tk1 (gF (yr - 1)) yn gS) 1 (tkb (gF (yr - 1)) (gE (yr - 1)) yn 0))).1) + szL 6 (wnt gK gI gO (yr - 1 - x.toNatClampNeg))))) hx hb hw inM hown hK hP 0 rfl rfl 7 (by decide) (hw _ kF_M_40) (fun _ h9 => h9) rfl d_M_leapIf_87 ?_
          have her : orE (xf yr x) (orE (xo ISE (hbT (gF (yr - 1)) (gE (yr - 1)) gS yn 1)) (orE (xo ISE (hbL (gF (yr - 1)) (gE (yr - 1)) gS 6 ((hbT (gF (yr - 1)) (gE (yr - 1)) gS yn 1).getD 0) (wnt gK gI gO (yr - 1 - x.toNatClampNeg)))) (rmE ((hbL (gF (yr - 1)) (gE (yr - 1)) gS 6 ((hbT (gF (yr - 1)) (gE (yr - 1)) gS yn 1).getD 0) (wnt gK gI gO (yr - 1 - x.toNatClampNeg))).getD 0 + szL 6 (wnt gK gI gO (yr - 1 - x.toNatClampNeg)))))) = none := by rw [ex, e1, p1, e2, p2, rm_ok h73] <;> rfl
          exact W.iret hx hb hrt (fun t ht9 _ => ⟨⟨pl gS ((tA (gF (yr - 1)) (gE (yr - 1)) gS 6 (wnt gK gI gO (yr - 1 - x.toNatClampNeg)) (tkn (gF (yr - 1)) yn, tk1 (gF (yr - 1)) yn gS, tkc (tk1 (gF (yr - 1)) yn gS) 1 (tkb (gF (yr - 1)) (gE (yr - 1)) yn 0))).1) (szL 6 (wnt gK gI gO (yr - 1 - x.toNatClampNeg))) (wnt gK gI gO (yr - 1 - x.toNatClampNeg)), gK, gI, gO, gF, gE, cpn gQ gS yn, 0, ((tA (gF (yr - 1)) (gE (yr - 1)) gS 6 (wnt gK gI gO (yr - 1 - x.toNatClampNeg)) (tkn (gF (yr - 1)) yn, tk1 (gF (yr - 1)) yn gS, tkc (tk1 (gF (yr - 1)) yn gS) 1 (tkb (gF (yr - 1)) (gE (yr - 1)) yn 0))).1) + szL 6 (wnt gK gI gO (yr - 1 - x.toNatClampNeg)), yr, max ym (((tA (gF (yr - 1)) (gE (yr - 1)) gS 6 (wnt gK gI gO (yr - 1 - x.toNatClampNeg)) (tkn (gF (yr - 1)) yn, tk1 (gF (yr - 1)) yn gS, tkc (tk1 (gF (yr - 1)) yn gS) 1 (tkb (gF (yr - 1)) (gE (yr - 1)) yn 0))).1) + szL 6 (wnt gK gI gO (yr - 1 - x.toNatClampNeg))), yd + 1, yn, (tA (gF (yr - 1)) (gE (yr - 1)) gS 6 (wnt gK gI gO (yr - 1 - x.toNatClampNeg)) (tkn (gF (yr - 1)) yn, tk1 (gF (yr - 1)) yn gS, tkc (tk1 (gF (yr - 1)) yn gS) 1 (tkb (gF (yr - 1)) (gE (yr - 1)) yn 0))).2.2, (tA (gF (yr - 1)) (gE (yr - 1)) gS 6 (wnt gK gI gO (yr - 1 - x.toNatClampNeg)) (tkn (gF (yr - 1)) yn, tk1 (gF (yr - 1)) yn gS, tkc (tk1 (gF (yr - 1)) yn gS) 1 (tkb (gF (yr - 1)) (gE (yr - 1)) yn 0))).2.1, some (.int (nI (((tA (gF (yr - 1)) (gE (yr - 1)) gS 6 (wnt gK gI gO (yr - 1 - x.toNatClampNeg)) (tkn (gF (yr - 1)) yn, tk1 (gF (yr - 1)) yn gS, tkc (tk1 (gF (yr - 1)) yn gS) 1 (tkb (gF (yr - 1)) (gE (yr - 1)) yn 0))).1) + szL 6 (wnt gK gI gO (yr - 1 - x.toNatClampNeg))))), rfl, ⟨fun _ => ⟨rfl, by rw [p1, p2], by rw [p1, p2]; exact rel_rf⟩, fun E he => by rw [her] at he; cases he⟩, ⟨pl_lt giS, giK, giI, giO, giF, giE, by omega, by omega, gir⟩, by rw [ht9]; exact hP, hD⟩, hS.F ht9⟩) hS.2.2 d_M_leapIf_90
        · skip
          refine lv_aload_n hx hb d_M_leapIf_76 rfl (lv_at hl 0 rfl) ?_
          refine lv_iconst (v := nI 3) hx hb d_M_leapIf_77 (by decide) ?_
          refine cl_w (v := some (.int (nI 0))) hD hS hA (W.runV (b := u 0) (C := "TypeStackModel") (As := [.int (nI 3)]) (rest := []) ⟨hx, hb, hml, hown, hw⟩ (c_M_undo l D u cI cZ (pl gS ((tA (gF (yr - 1)) (gE (yr - 1)) gS 6 (wnt gK gI gO (yr - 1 - x.toNatClampNeg)) (tkn (gF (yr - 1)) yn, tk1 (gF (yr - 1)) yn gS, tkc (tk1 (gF (yr - 1)) yn gS) 1 (tkb (gF (yr - 1)) (gE (yr - 1)) yn 0))).1) (szL 6 (wnt gK gI gO (yr - 1 - x.toNatClampNeg))) (wnt gK gI gO (yr - 1 - x.toNatClampNeg))) gK gI gO gF gE (cpn gQ gS yn) 0 (((tA (gF (yr - 1)) (gE (yr - 1)) gS 6 (wnt gK gI gO (yr - 1 - x.toNatClampNeg)) (tkn (gF (yr - 1)) yn, tk1 (gF (yr - 1)) yn gS, tkc (tk1 (gF (yr - 1)) yn gS) 1 (tkb (gF (yr - 1)) (gE (yr - 1)) yn 0))).1) + szL 6 (wnt gK gI gO (yr - 1 - x.toNatClampNeg))) yr ym yd yn ((tA (gF (yr - 1)) (gE (yr - 1)) gS 6 (wnt gK gI gO (yr - 1 - x.toNatClampNeg)) (tkn (gF (yr - 1)) yn, tk1 (gF (yr - 1)) yn gS, tkc (tk1 (gF (yr - 1)) yn gS) 1 (tkb (gF (yr - 1)) (gE (yr - 1)) yn 0))).2.2) ((tA (gF (yr - 1)) (gE (yr - 1)) gS 6 (wnt gK gI gO (yr - 1 - x.toNatClampNeg)) (tkn (gF (yr - 1)) yn, tk1 (gF (yr - 1)) yn gS, tkc (tk1 (gF (yr - 1)) yn gS) 1 (tkb (gF (yr - 1)) (gE (yr - 1)) yn 0))).2.1) 3 (by omega) H.size) (cwV 1 hw g_M_90 rfl rfl rfl ⟨rfl, by decide, by decide, by decide +kernel⟩ ⟨by decide, by decide⟩) ⟨PW.blind, va_recv (q := (RM, FM, 15)) (ci := 1) (q0 := 0) hK hP rfl rfl, PW.pre hP hK hD hS hA hE⟩ rfl rfl hl.1 rfl (lv_room (Nat.le_of_ble_eq_true rfl)) d_M_leapIf_78 ⟨by decide, by decide⟩) (fun H locs hP hD hS => ?_)
          have hP : va_P D cls2 (wM u cI cZ (cpn (pl gS ((tA (gF (yr - 1)) (gE (yr - 1)) gS 6 (wnt gK gI gO (yr - 1 - x.toNatClampNeg)) (tkn (gF (yr - 1)) yn, tk1 (gF (yr - 1)) yn gS, tkc (tk1 (gF (yr - 1)) yn gS) 1 (tkb (gF (yr - 1)) (gE (yr - 1)) yn 0))).1) (szL 6 (wnt gK gI gO (yr - 1 - x.toNatClampNeg))) (wnt gK gI gO (yr - 1 - x.toNatClampNeg))) (cpn gQ gS yn) yn) gK gI gO gF gE (cpn gQ gS yn) 3 yn yr ym yd yn ((tA (gF (yr - 1)) (gE (yr - 1)) gS 6 (wnt gK gI gO (yr - 1 - x.toNatClampNeg)) (tkn (gF (yr - 1)) yn, tk1 (gF (yr - 1)) yn gS, tkc (tk1 (gF (yr - 1)) yn gS) 1 (tkb (gF (yr - 1)) (gE (yr - 1)) yn 0))).2.2) ((tA (gF (yr - 1)) (gE (yr - 1)) gS 6 (wnt gK gI gO (yr - 1 - x.toNatClampNeg)) (tkn (gF (yr - 1)) yn, tk1 (gF (yr - 1)) yn gS, tkc (tk1 (gF (yr - 1)) yn gS) 1 (tkb (gF (yr - 1)) (gE (yr - 1)) yn 0))).2.1)) H := hP
          have hD : va_D (va_A (wM u cI cZ gS gK gI gO gF gE gQ yt yn yr ym yd yk yb yc) s.heap.size) (wM u cI cZ (cpn (pl gS ((tA (gF (yr - 1)) (gE (yr - 1)) gS 6 (wnt gK gI gO (yr - 1 - x.toNatClampNeg)) (tkn (gF (yr - 1)) yn, tk1 (gF (yr - 1)) yn gS, tkc (tk1 (gF (yr - 1)) yn gS) 1 (tkb (gF (yr - 1)) (gE (yr - 1)) yn 0))).1) (szL 6 (wnt gK gI gO (yr - 1 - x.toNatClampNeg))) (wnt gK gI gO (yr - 1 - x.toNatClampNeg))) (cpn gQ gS yn) yn) gK gI gO gF gE (cpn gQ gS yn) 3 yn yr ym yd yn ((tA (gF (yr - 1)) (gE (yr - 1)) gS 6 (wnt gK gI gO (yr - 1 - x.toNatClampNeg)) (tkn (gF (yr - 1)) yn, tk1 (gF (yr - 1)) yn gS, tkc (tk1 (gF (yr - 1)) yn gS) 1 (tkb (gF (yr - 1)) (gE (yr - 1)) yn 0))).2.2) ((tA (gF (yr - 1)) (gE (yr - 1)) gS 6 (wnt gK gI gO (yr - 1 - x.toNatClampNeg)) (tkn (gF (yr - 1)) yn, tk1 (gF (yr - 1)) yn gS, tkc (tk1 (gF (yr - 1)) yn gS) 1 (tkb (gF (yr - 1)) (gE (yr - 1)) yn 0))).2.1)) := hD
          have her : orE (xf yr x) (orE (xo ISE (hbT (gF (yr - 1)) (gE (yr - 1)) gS yn 1)) (orE (xo ISE (hbL (gF (yr - 1)) (gE (yr - 1)) gS 6 ((hbT (gF (yr - 1)) (gE (yr - 1)) gS yn 1).getD 0) (wnt gK gI gO (yr - 1 - x.toNatClampNeg)))) (rmE ((hbL (gF (yr - 1)) (gE (yr - 1)) gS 6 ((hbT (gF (yr - 1)) (gE (yr - 1)) gS yn 1).getD 0) (wnt gK gI gO (yr - 1 - x.toNatClampNeg))).getD 0 + szL 6 (wnt gK gI gO (yr - 1 - x.toNatClampNeg)))))) = some AE := by rw [ex, e1, p1, e2, p2, rm_no h73] <;> rfl
          exact W.iret hx hb hrt (fun t ht9 _ => ⟨⟨cpn (pl gS ((tA (gF (yr - 1)) (gE (yr - 1)) gS 6 (wnt gK gI gO (yr - 1 - x.toNatClampNeg)) (tkn (gF (yr - 1)) yn, tk1 (gF (yr - 1)) yn gS, tkc (tk1 (gF (yr - 1)) yn gS) 1 (tkb (gF (yr - 1)) (gE (yr - 1)) yn 0))).1) (szL 6 (wnt gK gI gO (yr - 1 - x.toNatClampNeg))) (wnt gK gI gO (yr - 1 - x.toNatClampNeg))) (cpn gQ gS yn) yn, gK, gI, gO, gF, gE, cpn gQ gS yn, 3, yn, yr, ym, yd, yn, (tA (gF (yr - 1)) (gE (yr - 1)) gS 6 (wnt gK gI gO (yr - 1 - x.toNatClampNeg)) (tkn (gF (yr - 1)) yn, tk1 (gF (yr - 1)) yn gS, tkc (tk1 (gF (yr - 1)) yn gS) 1 (tkb (gF (yr - 1)) (gE (yr - 1)) yn 0))).2.2, (tA (gF (yr - 1)) (gE (yr - 1)) gS 6 (wnt gK gI gO (yr - 1 - x.toNatClampNeg)) (tkn (gF (yr - 1)) yn, tk1 (gF (yr - 1)) yn gS, tkc (tk1 (gF (yr - 1)) yn gS) 1 (tkb (gF (yr - 1)) (gE (yr - 1)) yn 0))).2.1, some (.int (nI 0)), rfl, ⟨fun he => (by rw [her] at he; cases he), fun E he => by rw [her] at he; cases he; exact ⟨by decide +kernel, rfl, rel_undo⟩⟩, im_undo hi (pl_lt giS), by rw [ht9]; exact hP, hD⟩, hS.F ht9⟩) hS.2.2 d_M_leapIf_81
      · skip
        have es := fun r => ta1_no r h48
        refine lv_aload_n hx hb d_M_leapIf_51 rfl (lv_at hl 0 rfl) ?_
        refine lv_iconst (v := nI 2) hx hb d_M_leapIf_52 (by decide) ?_
        refine cl_w (v := some (.int (nI 0))) hD hS hA (W.runV (b := u 0) (C := "TypeStackModel") (As := [.int (nI 2)]) (rest := []) ⟨hx, hb, hml, hown, hw⟩ (c_M_undo l D u cI cZ gS gK gI gO gF gE (cpn gQ gS yn) 0 ((tA (gF (yr - 1)) (gE (yr - 1)) gS 6 (wnt gK gI gO (yr - 1 - x.toNatClampNeg)) (tkn (gF (yr - 1)) yn, tk1 (gF (yr - 1)) yn gS, tkc (tk1 (gF (yr - 1)) yn gS) 1 (tkb (gF (yr - 1)) (gE (yr - 1)) yn 0))).1) yr ym yd yn ((tA (gF (yr - 1)) (gE (yr - 1)) gS 6 (wnt gK gI gO (yr - 1 - x.toNatClampNeg)) (tkn (gF (yr - 1)) yn, tk1 (gF (yr - 1)) yn gS, tkc (tk1 (gF (yr - 1)) yn gS) 1 (tkb (gF (yr - 1)) (gE (yr - 1)) yn 0))).2.2) ((tA (gF (yr - 1)) (gE (yr - 1)) gS 6 (wnt gK gI gO (yr - 1 - x.toNatClampNeg)) (tkn (gF (yr - 1)) yn, tk1 (gF (yr - 1)) yn gS, tkc (tk1 (gF (yr - 1)) yn gS) 1 (tkb (gF (yr - 1)) (gE (yr - 1)) yn 0))).2.1) 2 (by omega) H.size) (cwV 1 hw g_M_90 rfl rfl rfl ⟨rfl, by decide, by decide, by decide +kernel⟩ ⟨by decide, by decide⟩) ⟨PW.blind, va_recv (q := (RM, FM, 15)) (ci := 1) (q0 := 0) hK hP rfl rfl, PW.pre hP hK hD hS hA hE⟩ rfl rfl hl.1 rfl (lv_room (Nat.le_of_ble_eq_true rfl)) d_M_leapIf_53 ⟨by decide, by decide⟩) (fun H locs hP hD hS => ?_)
        have hP : va_P D cls2 (wM u cI cZ (cpn gS (cpn gQ gS yn) yn) gK gI gO gF gE (cpn gQ gS yn) 2 yn yr ym yd yn ((tA (gF (yr - 1)) (gE (yr - 1)) gS 6 (wnt gK gI gO (yr - 1 - x.toNatClampNeg)) (tkn (gF (yr - 1)) yn, tk1 (gF (yr - 1)) yn gS, tkc (tk1 (gF (yr - 1)) yn gS) 1 (tkb (gF (yr - 1)) (gE (yr - 1)) yn 0))).2.2) ((tA (gF (yr - 1)) (gE (yr - 1)) gS 6 (wnt gK gI gO (yr - 1 - x.toNatClampNeg)) (tkn (gF (yr - 1)) yn, tk1 (gF (yr - 1)) yn gS, tkc (tk1 (gF (yr - 1)) yn gS) 1 (tkb (gF (yr - 1)) (gE (yr - 1)) yn 0))).2.1)) H := hP
        have hD : va_D (va_A (wM u cI cZ gS gK gI gO gF gE gQ yt yn yr ym yd yk yb yc) s.heap.size) (wM u cI cZ (cpn gS (cpn gQ gS yn) yn) gK gI gO gF gE (cpn gQ gS yn) 2 yn yr ym yd yn ((tA (gF (yr - 1)) (gE (yr - 1)) gS 6 (wnt gK gI gO (yr - 1 - x.toNatClampNeg)) (tkn (gF (yr - 1)) yn, tk1 (gF (yr - 1)) yn gS, tkc (tk1 (gF (yr - 1)) yn gS) 1 (tkb (gF (yr - 1)) (gE (yr - 1)) yn 0))).2.2) ((tA (gF (yr - 1)) (gE (yr - 1)) gS 6 (wnt gK gI gO (yr - 1 - x.toNatClampNeg)) (tkn (gF (yr - 1)) yn, tk1 (gF (yr - 1)) yn gS, tkc (tk1 (gF (yr - 1)) yn gS) 1 (tkb (gF (yr - 1)) (gE (yr - 1)) yn 0))).2.1)) := hD
        have her : orE (xf yr x) (orE (xo ISE (hbT (gF (yr - 1)) (gE (yr - 1)) gS yn 1)) (orE (xo ISE (hbL (gF (yr - 1)) (gE (yr - 1)) gS 6 ((hbT (gF (yr - 1)) (gE (yr - 1)) gS yn 1).getD 0) (wnt gK gI gO (yr - 1 - x.toNatClampNeg)))) (rmE ((hbL (gF (yr - 1)) (gE (yr - 1)) gS 6 ((hbT (gF (yr - 1)) (gE (yr - 1)) gS yn 1).getD 0) (wnt gK gI gO (yr - 1 - x.toNatClampNeg))).getD 0 + szL 6 (wnt gK gI gO (yr - 1 - x.toNatClampNeg)))))) = some ISE := by rw [ex]; exact es _
        exact W.iret hx hb hrt (fun t ht9 _ => ⟨⟨cpn gS (cpn gQ gS yn) yn, gK, gI, gO, gF, gE, cpn gQ gS yn, 2, yn, yr, ym, yd, yn, (tA (gF (yr - 1)) (gE (yr - 1)) gS 6 (wnt gK gI gO (yr - 1 - x.toNatClampNeg)) (tkn (gF (yr - 1)) yn, tk1 (gF (yr - 1)) yn gS, tkc (tk1 (gF (yr - 1)) yn gS) 1 (tkb (gF (yr - 1)) (gE (yr - 1)) yn 0))).2.2, (tA (gF (yr - 1)) (gE (yr - 1)) gS 6 (wnt gK gI gO (yr - 1 - x.toNatClampNeg)) (tkn (gF (yr - 1)) yn, tk1 (gF (yr - 1)) yn gS, tkc (tk1 (gF (yr - 1)) yn gS) 1 (tkb (gF (yr - 1)) (gE (yr - 1)) yn 0))).2.1, some (.int (nI 0)), rfl, ⟨fun he => (by rw [her] at he; cases he), fun E he => by rw [her] at he; cases he; exact ⟨by decide +kernel, rfl, rel_undo⟩⟩, im_undo hi giS, by rw [ht9]; exact hP, hD⟩, hS.F ht9⟩) hS.2.2 d_M_leapIf_56
    · skip
      exfalso; omega
  · skip
    have ex : xf yr x = some NSE := nl_no h6
    refine lv_iconst (v := nI 1) hx hb d_M_leapIf_9 (by decide) ?_
    refine lv_goto hx hb d_M_leapIf_10 (tgt := 14) (by decide) ?_
    refine va_put (D := D) (ci := 1) (C := RM) (T := FM) (N := 15) (v := .int (nI 1)) (ty := .int) hx hb hw inM tM tM_ok nM hown hK hP hD hS 0 rfl rfl 0 (by decide) (hw _ kF_M_36) (fun _ h9 => h9) rfl (by decide +kernel) rfl rfl (Nat.le_of_ble_eq_true rfl) d_M_leapIf_14 (fun H locs hP hD hS => ?_)
    have hP : va_P D cls2 (wM u cI cZ gS gK gI gO gF gE gQ 1 yn yr ym yd yk yb yc) H := hP
    have hD : va_D (va_A (wM u cI cZ gS gK gI gO gF gE gQ yt yn yr ym yd yk yb yc) s.heap.size) (wM u cI cZ gS gK gI gO gF gE gQ 1 yn yr ym yd yk yb yc) := hD
    refine lv_aload_n hx hb d_M_leapIf_17 rfl (lv_at hl 0 rfl) ?_
    refine va_get (D := D) (ci := 1) (C := RM) (T := FM) (N := 15) (v := .int (nI 1)) hx hb hw inM hown hK hP 0 rfl rfl 0 (by decide) (hw _ kF_M_36) (fun _ h9 => h9) rfl d_M_leapIf_18 ?_
    refine nw_ifle hx hb (tgt := 26) d_M_leapIf_21 (by decide) (by omega) (fun h21 => ?_) (fun h21 => ?_)
    · skip
      exfalso; omega
    · skip
      refine lv_iconst (v := nI 0) hx hb d_M_leapIf_24 (by decide) ?_
      have her : orE (xf yr x) (orE (xo ISE (hbT (gF (yr - 1)) (gE (yr - 1)) gS yn 1)) (orE (xo ISE (hbL (gF (yr - 1)) (gE (yr - 1)) gS 6 ((hbT (gF (yr - 1)) (gE (yr - 1)) gS yn 1).getD 0) (wnt gK gI gO (yr - 1 - x.toNatClampNeg)))) (rmE ((hbL (gF (yr - 1)) (gE (yr - 1)) gS 6 ((hbT (gF (yr - 1)) (gE (yr - 1)) gS yn 1).getD 0) (wnt gK gI gO (yr - 1 - x.toNatClampNeg))).getD 0 + szL 6 (wnt gK gI gO (yr - 1 - x.toNatClampNeg)))))) = some NSE := by simp only [orE, ex]
      exact W.iret hx hb hrt (fun t ht9 _ => ⟨⟨gS, gK, gI, gO, gF, gE, gQ, 1, yn, yr, ym, yd, yk, yb, yc, some (.int (nI 0)), rfl, ⟨fun he => (by rw [her] at he; cases he), fun E he => by rw [her] at he; cases he; exact ⟨by decide +kernel, rfl, rel_rf⟩⟩, hi, by rw [ht9]; exact hP, hD⟩, hS.F ht9⟩) hS.2.2 d_M_leapIf_25

set_option maxHeartbeats 4000000 in
set_option maxRecDepth 100000 in
theorem c_M_table (l : Launch) (D : va_G) (u : Nat → Nat) (cI cZ : ClassId) (gS gK gI gO gF gE gQ : Nat → Nat) (yt yn yr ym yd yk yb yc : Nat) (hi : IM gS gK gI gO gF gE yn ym yr) (x y : Int32) (hfl : 1 ≤ yr → gF (yr - 1) ≤ yn) (hmo : yn ≤ ym) (sz : Nat) : Met l y_M_table w_M_table (rmR 4) (PW D [(cI, .int), (cZ, .boolean)] (wM u cI cZ gS gK gI gO gF gE gQ yt yn yr ym yd yk yb yc) sz [.ref (u 0), .int x, .int y]) (QM D u cI cZ (wM u cI cZ gS gK gI gO gF gE gQ yt yn yr ym yd yk yb yc) sz (PMo (orE (xf yr x) (orE (xf yr y) (orE (szE (wnt gK gI gO (yr - 1 - x.toNatClampNeg)) (wnt gK gI gO (yr - 1 - y.toNatClampNeg))) (orE (xo ISE (hbT (gF (yr - 1)) (gE (yr - 1)) gS yn 1)) (orE (xo ISE (hbL (gF (yr - 1)) (gE (yr - 1)) gS 6 ((hbT (gF (yr - 1)) (gE (yr - 1)) gS yn 1).getD 0) (wnt gK gI gO (yr - 1 - x.toNatClampNeg)))) (xo ISE (hbL (gF (yr - 1)) (gE (yr - 1)) gS 6 ((hbT (gF (yr - 1)) (gE (yr - 1)) gS yn 1).getD 0) (wnt gK gI gO (yr - 1 - y.toNatClampNeg))))))))) (cdl [NSE, UOE, ISE]) (none) (none) (Rel gS gK gI gO gF (va_up gE (yr - 1) 1) (gF (yr - 1)) ym yr (yd + 1)) (Rel gS gK gI gO gF gE yn ym yr yd))) 0 0 (va_A (wM u cI cZ gS gK gI gO gF gE gQ yt yn yr ym yd yk yb yc) sz) := by
  refine Met.ofW (cc := b_M_table) (maxL := 4) (ret := none) (by decide) rfl ?_
  intro p e s m args below meth c s₁ B hml hv
  obtain ⟨rfl, hsz, hP, hK, hD0, hE⟩ := hv
  have hx := B.exec
  have hb := B.bytes
  have hrt := B.returns
  have hts := atoms_spec (ws := w_M_table) B.pre
  have hw : ∀ w ∈ bw, w.before ([.ref (u 0), .int x, .int y]).toArray s = true := fun w h => hts w (List.mem_cons_of_mem _ h)
  have hown : s.vm.findClass "TypeStackModel" = some m.cls := findClass_of_methodNamed B.named
  have hlocks := B.notSynchronized
  subst hsz
  have hD := hD0.self (sz := s.heap.size)
  have hA : ∀ q : Nat, s.heap.size ≤ q → va_A (wM u cI cZ gS gK gI gO gF gE gQ yt yn yr ym yd yk yb yc) s.heap.size q := fun q h => Or.inr h
  have hS : va_S (va_A (wM u cI cZ gS gK gI gO gF gE gQ yt yn yr ym yd yk yb yc) s.heap.size) s.heap s.heap [] := va_S.rf
  have hK0 := hK.sub (tys' := []) [] rfl
  have hl := lv_entry ([.ref (u 0), .int x, .int y]) (n := 4) (Nat.le_of_ble_eq_true rfl)
  rw [lg_entry_eq]
  generalize (lg_sl ([.ref (u 0), .int x, .int y]) ++ List.replicate (4 - (lg_sl ([.ref (u 0), .int x, .int y])).length) Slot.unset).toArray = ls at hl ⊢
  have hl : lv_has ls 4 [(0, .ref (u 0)), (1, .int x), (2, .int y)] := hl
  obtain ⟨giS, giK, giI, giO, giF, giE, gin, gim, gir⟩ := id hi
  refine lv_aload_n hx hb d_M_table_0 rfl (lv_at hl 0 rfl) ?_
  refine lv_aload_n hx hb d_M_table_1 rfl (lv_at hl 0 rfl) ?_
  refine lv_iload_n hx hb d_M_table_2 rfl (lv_at hl 1 rfl) ?_
  refine cl_r (v := some (.int (nI (nlb yr x)))) (W.runV (b := u 0) (C := "TypeStackModel") (As := [.int x]) (rest := [.ref (u 0)]) ⟨hx, hb, hml, hown, hw⟩ (c_M_noLabel l D u cI cZ gS gK gI gO gF gE gQ yt yn yr ym yd yk yb yc x s.heap.size) (cwV 1 hw g_M_103 rfl rfl rfl ⟨rfl, by decide, by decide, by decide +kernel⟩ ⟨by decide, by decide⟩) ⟨PW.blind, va_recv (q := (RM, FM, 15)) (ci := 1) (q0 := 0) hK hP rfl rfl, PW.pre hP hK hD hS hA hE⟩ rfl rfl hl.1 rfl (lv_room (Nat.le_of_ble_eq_true rfl)) d_M_table_3 ⟨by decide, by decide⟩) ?_
  have hq3 := nlb_le yr x
  refine nw_ifne hx hb (tgt := 17) d_M_table_6 (by decide) (by omega) (fun h6 => ?_) (fun h6 => ?_)
  · skip
    have ex : xf yr x = some NSE := nl_no h6
    refine lv_iconst (v := nI 1) hx hb d_M_table_17 (by decide) ?_
    refine lv_goto hx hb d_M_table_18 (tgt := 45) (by decide) ?_
    refine va_put (D := D) (ci := 1) (C := RM) (T := FM) (N := 15) (v := .int (nI 1)) (ty := .int) hx hb hw inM tM tM_ok nM hown hK hP hD hS 0 rfl rfl 0 (by decide) (hw _ kF_M_36) (fun _ h9 => h9) rfl (by decide +kernel) rfl rfl (Nat.le_of_ble_eq_true rfl) d_M_table_45 (fun H locs hP hD hS => ?_)
    have hP : va_P D cls2 (wM u cI cZ gS gK gI gO gF gE gQ 1 yn yr ym yd yk yb yc) H := hP
    have hD : va_D (va_A (wM u cI cZ gS gK gI gO gF gE gQ yt yn yr ym yd yk yb yc) s.heap.size) (wM u cI cZ gS gK gI gO gF gE gQ 1 yn yr ym yd yk yb yc) := hD
    refine lv_aload_n hx hb d_M_table_48 rfl (lv_at hl 0 rfl) ?_
    refine va_get (D := D) (ci := 1) (C := RM) (T := FM) (N := 15) (v := .int (nI 1)) hx hb hw inM hown hK hP 0 rfl rfl 0 (by decide) (hw _ kF_M_36) (fun _ h9 => h9) rfl d_M_table_49 ?_
    refine nw_ifle hx hb (tgt := 56) d_M_table_52 (by decide) (by omega) (fun h52 => ?_) (fun h52 => ?_)
    · skip
      exfalso; omega
    · skip
      have her : orE (xf yr x) (orE (xf yr y) (orE (szE (wnt gK gI gO (yr - 1 - x.toNatClampNeg)) (wnt gK gI gO (yr - 1 - y.toNatClampNeg))) (orE (xo ISE (hbT (gF (yr - 1)) (gE (yr - 1)) gS yn 1)) (orE (xo ISE (hbL (gF (yr - 1)) (gE (yr - 1)) gS 6 ((hbT (gF (yr - 1)) (gE (yr - 1)) gS yn 1).getD 0) (wnt gK gI gO (yr - 1 - x.toNatClampNeg)))) (xo ISE (hbL (gF (yr - 1)) (gE (yr - 1)) gS 6 ((hbT (gF (yr - 1)) (gE (yr - 1)) gS yn 1).getD 0) (wnt gK gI gO (yr - 1 - y.toNatClampNeg)))))))) = some NSE := by simp only [orE, ex]
      exact W.vret hx hb hrt (fun t ht9 _ => ⟨⟨gS, gK, gI, gO, gF, gE, gQ, 1, yn, yr, ym, yd, yk, yb, yc, none, rfl, ⟨fun he => (by rw [her] at he; cases he), fun E he => by rw [her] at he; cases he; exact ⟨by decide +kernel, rfl, rel_rf⟩⟩, hi, by rw [ht9]; exact hP, hD⟩, hS.F ht9⟩) hS.2.2 d_M_table_55
  · skip
    have ex : xf yr x = none := nl_ok h6
    refine lv_aload_n hx hb d_M_table_9 rfl (lv_at hl 0 rfl) ?_
    refine lv_iload_n hx hb d_M_table_10 rfl (lv_at hl 2 rfl) ?_
    refine cl_r (v := some (.int (nI (nlb yr y)))) (W.runV (b := u 0) (C := "TypeStackModel") (As := [.int y]) (rest := [.ref (u 0)]) ⟨hx, hb, hml, hown, hw⟩ (c_M_noLabel l D u cI cZ gS gK gI gO gF gE gQ yt yn yr ym yd yk yb yc y s.heap.size) (cwV 1 hw g_M_103 rfl rfl rfl ⟨rfl, by decide, by decide, by decide +kernel⟩ ⟨by decide, by decide⟩) ⟨PW.blind, va_recv (q := (RM, FM, 15)) (ci := 1) (q0 := 0) hK hP rfl rfl, PW.pre hP hK hD hS hA hE⟩ rfl rfl hl.1 rfl (lv_room (Nat.le_of_ble_eq_true rfl)) d_M_table_11 ⟨by decide, by decide⟩) ?_
    have hq11 := nlb_le yr y
    refine nw_ifeq hx hb (tgt := 21) d_M_table_14 (by decide) (by omega) (fun h14 => ?_) (fun h14 => ?_)
    · skip
      have ey : xf yr y = none := nl_ok h14
      have hjx := xf_pos ex
      have hrx := xf_r ex
      have hwx := wnt_lt gK giI giO (yr - 1 - x.toNatClampNeg)
      have hjy := xf_pos ey
      have hwy := wnt_lt gK giI giO (yr - 1 - y.toNatClampNeg)
      have hf1 := giF (yr - 1)
      have hsx := szL_le 6 (wnt gK gI gO (yr - 1 - x.toNatClampNeg))
      have hsy := szL_le 6 (wnt gK gI gO (yr - 1 - y.toNatClampNeg))
      refine lv_aload_n hx hb d_M_table_21 rfl (lv_at hl 0 rfl) ?_
      refine lv_iload_n hx hb d_M_table_22 rfl (lv_at hl 1 rfl) ?_
      refine nw_is (y := nI x.toNatClampNeg) (xf_eq ex) ?_
      refine cl_r (v := some (.int (nI (wnt gK gI gO (yr - 1 - x.toNatClampNeg))))) (W.runV (b := u 0) (C := "TypeStackModel") (As := [.int (nI x.toNatClampNeg)]) (rest := [.ref (u 0)]) ⟨hx, hb, hml, hown, hw⟩ (c_M_wants l D u cI cZ gS gK gI gO gF gE gQ yt yn yr ym yd yk yb yc x.toNatClampNeg (by omega) (by omega) giK s.heap.size) (cwV 1 hw g_M_106 rfl rfl rfl ⟨rfl, by decide, by decide, by decide +kernel⟩ ⟨by decide, by decide⟩) ⟨PW.blind, va_recv (q := (RM, FM, 15)) (ci := 1) (q0 := 0) hK hP rfl rfl, PW.pre hP hK hD hS hA hE⟩ rfl rfl hl.1 rfl (lv_room (Nat.le_of_ble_eq_true rfl)) d_M_table_23 ⟨by decide, by decide⟩) ?_
      refine cl_r (v := some (.int (nI (szL 6 (wnt gK gI gO (yr - 1 - x.toNatClampNeg)))))) (W.runS (As := [.int (nI (wnt gK gI gO (yr - 1 - x.toNatClampNeg)))]) (rest := [.ref (u 0)]) ⟨hx, hb, hml, hown, hw⟩ (c_M_length l D (wnt gK gI gO (yr - 1 - x.toNatClampNeg)) (by omega) s.heap.size) (va_cwS 1 hw g_M_100 rfl rfl rfl ⟨by decide, by decide, by decide +kernel⟩ ⟨by decide, by decide⟩) ⟨PW.blind, PW.pre va_P.nil hK0 va_D.nil hS hA hE⟩ rfl rfl hl.1 rfl (lv_room (Nat.le_of_ble_eq_true rfl)) d_M_table_26 ⟨by decide, by decide⟩) ?_
      have hs26 := szL_le 6 (wnt gK gI gO (yr - 1 - x.toNatClampNeg))
      refine lv_aload_n hx hb d_M_table_29 rfl (lv_at hl 0 rfl) ?_
      refine lv_iload_n hx hb d_M_table_30 rfl (lv_at hl 2 rfl) ?_
      refine nw_is (y := nI y.toNatClampNeg) (xf_eq ey) ?_
      refine cl_r (v := some (.int (nI (wnt gK gI gO (yr - 1 - y.toNatClampNeg))))) (W.runV (b := u 0) (C := "TypeStackModel") (As := [.int (nI y.toNatClampNeg)]) (rest := [.int (nI (szL 6 (wnt gK gI gO (yr - 1 - x.toNatClampNeg)))), .ref (u 0)]) ⟨hx, hb, hml, hown, hw⟩ (c_M_wants l D u cI cZ gS gK gI gO gF gE gQ yt yn yr ym yd yk yb yc y.toNatClampNeg (by omega) (by omega) giK s.heap.size) (cwV 1 hw g_M_106 rfl rfl rfl ⟨rfl, by decide, by decide, by decide +kernel⟩ ⟨by decide, by decide⟩) ⟨PW.blind, va_recv (q := (RM, FM, 15)) (ci := 1) (q0 := 0) hK hP rfl rfl, PW.pre hP hK hD hS hA hE⟩ rfl rfl hl.1 rfl (lv_room (Nat.le_of_ble_eq_true rfl)) d_M_table_31 ⟨by decide, by decide⟩) ?_
      refine cl_r (v := some (.int (nI (szL 6 (wnt gK gI gO (yr - 1 - y.toNatClampNeg)))))) (W.runS (As := [.int (nI (wnt gK gI gO (yr - 1 - y.toNatClampNeg)))]) (rest := [.int (nI (szL 6 (wnt gK gI gO (yr - 1 - x.toNatClampNeg)))), .ref (u 0)]) ⟨hx, hb, hml, hown, hw⟩ (c_M_length l D (wnt gK gI gO (yr - 1 - y.toNatClampNeg)) (by omega) s.heap.size) (va_cwS 1 hw g_M_100 rfl rfl rfl ⟨by decide, by decide, by decide +kernel⟩ ⟨by decide, by decide⟩) ⟨PW.blind, PW.pre va_P.nil hK0 va_D.nil hS hA hE⟩ rfl rfl hl.1 rfl (lv_room (Nat.le_of_ble_eq_true rfl)) d_M_table_34 ⟨by decide, by decide⟩) ?_
      have hs34 := szL_le 6 (wnt gK gI gO (yr - 1 - y.toNatClampNeg))
      refine nw_eq hx hb (tgt := 44) d_M_table_37 (by decide) (by omega) (by omega) (fun h37 => ?_) (fun h37 => ?_)
      · skip
        have es0 : szE (wnt gK gI gO (yr - 1 - x.toNatClampNeg)) (wnt gK gI gO (yr - 1 - y.toNatClampNeg)) = none := if_pos h37
        refine lv_iconst (v := nI 0) hx hb d_M_table_44 (by decide) ?_
        refine va_put (D := D) (ci := 1) (C := RM) (T := FM) (N := 15) (v := .int (nI 0)) (ty := .int) hx hb hw inM tM tM_ok nM hown hK hP hD hS 0 rfl rfl 0 (by decide) (hw _ kF_M_36) (fun _ h9 => h9) rfl (by decide +kernel) rfl rfl (Nat.le_of_ble_eq_true rfl) d_M_table_45 (fun H locs hP hD hS => ?_)
        have hP : va_P D cls2 (wM u cI cZ gS gK gI gO gF gE gQ 0 yn yr ym yd yk yb yc) H := hP
        have hD : va_D (va_A (wM u cI cZ gS gK gI gO gF gE gQ yt yn yr ym yd yk yb yc) s.heap.size) (wM u cI cZ gS gK gI gO gF gE gQ 0 yn yr ym yd yk yb yc) := hD
        refine lv_aload_n hx hb d_M_table_48 rfl (lv_at hl 0 rfl) ?_
        refine va_get (D := D) (ci := 1) (C := RM) (T := FM) (N := 15) (v := .int (nI 0)) hx hb hw inM hown hK hP 0 rfl rfl 0 (by decide) (hw _ kF_M_36) (fun _ h9 => h9) rfl d_M_table_49 ?_
        refine nw_ifle hx hb (tgt := 56) d_M_table_52 (by decide) (by omega) (fun h52 => ?_) (fun h52 => ?_)
        · skip
          refine lv_aload_n hx hb d_M_table_56 rfl (lv_at hl 0 rfl) ?_
          refine cl_w (v := none) hD hS hA (W.runV (b := u 0) (C := "TypeStackModel") (As := []) (rest := []) ⟨hx, hb, hml, hown, hw⟩ (c_M_keep l D u cI cZ gS gK gI gO gF gE gQ 0 yn yr ym yd yk yb yc (by omega) H.size) (cwV 0 hw g_M_84 rfl rfl rfl ⟨rfl, by decide, by decide, by decide +kernel⟩ ⟨by decide, by decide⟩) ⟨PW.blind, va_recv (q := (RM, FM, 15)) (ci := 1) (q0 := 0) hK hP rfl rfl, PW.pre hP hK hD hS hA hE⟩ rfl rfl hl.1 rfl (lv_room (Nat.le_of_ble_eq_true rfl)) d_M_table_57 ⟨by decide, by decide⟩) (fun H locs hP hD hS => ?_)
          have hP : va_P D cls2 (wM u cI cZ gS gK gI gO gF gE (cpn gQ gS yn) 0 yn yr ym yd yn 0 yc) H := hP
          have hD : va_D (va_A (wM u cI cZ gS gK gI gO gF gE gQ yt yn yr ym yd yk yb yc) s.heap.size) (wM u cI cZ gS gK gI gO gF gE (cpn gQ gS yn) 0 yn yr ym yd yn 0 yc) := hD
          refine lv_aload_n hx hb d_M_table_60 rfl (lv_at hl 0 rfl) ?_
          refine lv_iconst (v := nI 1) hx hb d_M_table_61 (by decide) ?_
          refine cl_w (v := none) hD hS hA (W.runV (b := u 0) (C := "TypeStackModel") (As := [.int (nI 1)]) (rest := []) ⟨hx, hb, hml, hown, hw⟩ (c_M_take1 l D u cI cZ gS gK gI gO gF gE (cpn gQ gS yn) 0 yn yr ym yd yn 0 yc 1 (by omega) (by omega) (by omega) (by omega) giF giE giS H.size) (cwV 1 hw g_M_75 rfl rfl rfl ⟨rfl, by decide, by decide, by decide +kernel⟩ ⟨by decide, by decide⟩) ⟨PW.blind, va_recv (q := (RM, FM, 15)) (ci := 1) (q0 := 0) hK hP rfl rfl, PW.pre hP hK hD hS hA hE⟩ rfl rfl hl.1 rfl (lv_room (Nat.le_of_ble_eq_true rfl)) d_M_table_62 ⟨by decide, by decide⟩) (fun H locs hP hD hS => ?_)
          have hP : va_P D cls2 (wM u cI cZ gS gK gI gO gF gE (cpn gQ gS yn) 0 (tkn (gF (yr - 1)) yn) yr ym yd yn (tkc (tk1 (gF (yr - 1)) yn gS) 1 (tkb (gF (yr - 1)) (gE (yr - 1)) yn 0)) (tk1 (gF (yr - 1)) yn gS)) H := hP
          have hD : va_D (va_A (wM u cI cZ gS gK gI gO gF gE gQ yt yn yr ym yd yk yb yc) s.heap.size) (wM u cI cZ gS gK gI gO gF gE (cpn gQ gS yn) 0 (tkn (gF (yr - 1)) yn) yr ym yd yn (tkc (tk1 (gF (yr - 1)) yn gS) 1 (tkb (gF (yr - 1)) (gE (yr - 1)) yn 0)) (tk1 (gF (yr - 1)) yn gS)) := hD
          have hn1 := tkn_le (gF (yr - 1)) yn
          have hb1 : tkc (tk1 (gF (yr - 1)) yn gS) 1 (tkb (gF (yr - 1)) (gE (yr - 1)) yn 0) ≤ 1 := tkc_le (tkb_le (Nat.zero_le 1))
          refine lv_aload_n hx hb d_M_table_65 rfl (lv_at hl 0 rfl) ?_
          refine va_get (D := D) (ci := 1) (C := RM) (T := FM) (N := 15) (v := .int (nI (tkn (gF (yr - 1)) yn))) hx hb hw inM hown hK hP 0 rfl rfl 7 (by decide) (hw _ kF_M_40) (fun _ h9 => h9) rfl d_M_table_66 ?_
          refine lv_istore_n (lv' := [(3, .int (nI (tkn (gF (yr - 1)) yn))), (0, .ref (u 0)), (1, .int x), (2, .int y)]) hx hb d_M_table_69 rfl hl (by decide) rfl (fun ls hl => ?_)
          refine lv_aload_n hx hb d_M_table_70 rfl (lv_at hl 1 rfl) ?_
          refine lv_aload_n hx hb d_M_table_71 rfl (lv_at hl 1 rfl) ?_
          refine lv_iload_n hx hb d_M_table_72 rfl (lv_at hl 2 rfl) ?_
          refine nw_is (y := nI x.toNatClampNeg) (xf_eq ex) ?_
          refine cl_r (v := some (.int (nI (wnt gK gI gO (yr - 1 - x.toNatClampNeg))))) (W.runV (b := u 0) (C := "TypeStackModel") (As := [.int (nI x.toNatClampNeg)]) (rest := [.ref (u 0)]) ⟨hx, hb, hml, hown, hw⟩ (c_M_wants l D u cI cZ gS gK gI gO gF gE (cpn gQ gS yn) 0 (tkn (gF (yr - 1)) yn) yr ym yd yn (tkc (tk1 (gF (yr - 1)) yn gS) 1 (tkb (gF (yr - 1)) (gE (yr - 1)) yn 0)) (tk1 (gF (yr - 1)) yn gS) x.toNatClampNeg (by omega) (by omega) giK H.size) (cwV 1 hw g_M_106 rfl rfl rfl ⟨rfl, by decide, by decide, by decide +kernel⟩ ⟨by decide, by decide⟩) ⟨PW.blind, va_recv (q := (RM, FM, 15)) (ci := 1) (q0 := 0) hK hP rfl rfl, PW.pre hP hK hD hS hA hE⟩ rfl rfl hl.1 rfl (lv_room (Nat.le_of_ble_eq_true rfl)) d_M_table_73 ⟨by decide, by decide⟩) ?_
          refine cl_w (v := none) hD hS hA (W.runV (b := u 0) (C := "TypeStackModel") (As := [.int (nI (wnt gK gI gO (yr - 1 - x.toNatClampNeg)))]) (rest := []) ⟨hx, hb, hml, hown, hw⟩ (c_M_takeAll l D u cI cZ gS gK gI gO gF gE (cpn gQ gS yn) 0 (tkn (gF (yr - 1)) yn) yr ym yd yn (tkc (tk1 (gF (yr - 1)) yn gS) 1 (tkb (gF (yr - 1)) (gE (yr - 1)) yn 0)) (tk1 (gF (yr - 1)) yn gS) (wnt gK gI gO (yr - 1 - x.toNatClampNeg)) (by omega) (by omega) (by omega) (by omega) giF giE giS H.size) (cwV 1 hw g_M_87 rfl rfl rfl ⟨rfl, by decide, by decide, by decide +kernel⟩ ⟨by decide, by decide⟩) ⟨PW.blind, va_recv (q := (RM, FM, 15)) (ci := 1) (q0 := 0) hK hP rfl rfl, PW.pre hP hK hD hS hA hE⟩ rfl rfl hl.1 rfl (lv_room (Nat.le_of_ble_eq_true rfl)) d_M_table_76 ⟨by decide, by decide⟩) (fun H locs hP hD hS => ?_)
          have hP : va_P D cls2 (wM u cI cZ gS gK gI gO gF gE (cpn gQ gS yn) 0 ((tA (gF (yr - 1)) (gE (yr - 1)) gS 6 (wnt gK gI gO (yr - 1 - x.toNatClampNeg)) (tkn (gF (yr - 1)) yn, tk1 (gF (yr - 1)) yn gS, tkc (tk1 (gF (yr - 1)) yn gS) 1 (tkb (gF (yr - 1)) (gE (yr - 1)) yn 0))).1) yr ym yd yn ((tA (gF (yr - 1)) (gE (yr - 1)) gS 6 (wnt gK gI gO (yr - 1 - x.toNatClampNeg)) (tkn (gF (yr - 1)) yn, tk1 (gF (yr - 1)) yn gS, tkc (tk1 (gF (yr - 1)) yn gS) 1 (tkb (gF (yr - 1)) (gE (yr - 1)) yn 0))).2.2) ((tA (gF (yr - 1)) (gE (yr - 1)) gS 6 (wnt gK gI gO (yr - 1 - x.toNatClampNeg)) (tkn (gF (yr - 1)) yn, tk1 (gF (yr - 1)) yn gS, tkc (tk1 (gF (yr - 1)) yn gS) 1 (tkb (gF (yr - 1)) (gE (yr - 1)) yn 0))).2.1)) H := hP
          have hD : va_D (va_A (wM u cI cZ gS gK gI gO gF gE gQ yt yn yr ym yd yk yb yc) s.heap.size) (wM u cI cZ gS gK gI gO gF gE (cpn gQ gS yn) 0 ((tA (gF (yr - 1)) (gE (yr - 1)) gS 6 (wnt gK gI gO (yr - 1 - x.toNatClampNeg)) (tkn (gF (yr - 1)) yn, tk1 (gF (yr - 1)) yn gS, tkc (tk1 (gF (yr - 1)) yn gS) 1 (tkb (gF (yr - 1)) (gE (yr - 1)) yn 0))).1) yr ym yd yn ((tA (gF (yr - 1)) (gE (yr - 1)) gS 6 (wnt gK gI gO (yr - 1 - x.toNatClampNeg)) (tkn (gF (yr - 1)) yn, tk1 (gF (yr - 1)) yn gS, tkc (tk1 (gF (yr - 1)) yn gS) 1 (tkb (gF (yr - 1)) (gE (yr - 1)) yn 0))).2.2) ((tA (gF (yr - 1)) (gE (yr - 1)) gS 6 (wnt gK gI gO (yr - 1 - x.toNatClampNeg)) (tkn (gF (yr - 1)) yn, tk1 (gF (yr - 1)) yn gS, tkc (tk1 (gF (yr - 1)) yn gS) 1 (tkb (gF (yr - 1)) (gE (yr - 1)) yn 0))).2.1)) := hD
          have hta := tA_le (gF (yr - 1)) (gE (yr - 1)) gS 6 (wnt gK gI gO (yr - 1 - x.toNatClampNeg)) (tkn (gF (yr - 1)) yn) (tk1 (gF (yr - 1)) yn gS) (tkc (tk1 (gF (yr - 1)) yn gS) 1 (tkb (gF (yr - 1)) (gE (yr - 1)) yn 0)) hb1
          refine lv_aload_n hx hb d_M_table_79 rfl (lv_at hl 1 rfl) ?_
          refine lv_iload_n hx hb d_M_table_80 rfl (lv_at hl 0 rfl) ?_
          refine va_put (D := D) (ci := 1) (C := RM) (T := FM) (N := 15) (v := .int (nI (tkn (gF (yr - 1)) yn))) (ty := .int) hx hb hw inM tM tM_ok nM hown hK hP hD hS 0 rfl rfl 7 (by decide) (hw _ kF_M_40) (fun _ h9 => h9) rfl (by decide +kernel) rfl rfl (Nat.le_of_ble_eq_true rfl) d_M_table_81 (fun H locs hP hD hS => ?_)
          have hP : va_P D cls2 (wM u cI cZ gS gK gI gO gF gE (cpn gQ gS yn) 0 (tkn (gF (yr - 1)) yn) yr ym yd yn ((tA (gF (yr - 1)) (gE (yr - 1)) gS 6 (wnt gK gI gO (yr - 1 - x.toNatClampNeg)) (tkn (gF (yr - 1)) yn, tk1 (gF (yr - 1)) yn gS, tkc (tk1 (gF (yr - 1)) yn gS) 1 (tkb (gF (yr - 1)) (gE (yr - 1)) yn 0))).2.2) ((tA (gF (yr - 1)) (gE (yr - 1)) gS 6 (wnt gK gI gO (yr - 1 - x.toNatClampNeg)) (tkn (gF (yr - 1)) yn, tk1 (gF (yr - 1)) yn gS, tkc (tk1 (gF (yr - 1)) yn gS) 1 (tkb (gF (yr - 1)) (gE (yr - 1)) yn 0))).2.1)) H := hP
          have hD : va_D (va_A (wM u cI cZ gS gK gI gO gF gE gQ yt yn yr ym yd yk yb yc) s.heap.size) (wM u cI cZ gS gK gI gO gF gE (cpn gQ gS yn) 0 (tkn (gF (yr - 1)) yn) yr ym yd yn ((tA (gF (yr - 1)) (gE (yr - 1)) gS 6 (wnt gK gI gO (yr - 1 - x.toNatClampNeg)) (tkn (gF (yr - 1)) yn, tk1 (gF (yr - 1)) yn gS, tkc (tk1 (gF (yr - 1)) yn gS) 1 (tkb (gF (yr - 1)) (gE (yr - 1)) yn 0))).2.2) ((tA (gF (yr - 1)) (gE (yr - 1)) gS 6 (wnt gK gI gO (yr - 1 - x.toNatClampNeg)) (tkn (gF (yr - 1)) yn, tk1 (gF (yr - 1)) yn gS, tkc (tk1 (gF (yr - 1)) yn gS) 1 (tkb (gF (yr - 1)) (gE (yr - 1)) yn 0))).2.1)) := hD
          refine lv_aload_n hx hb d_M_table_84 rfl (lv_at hl 1 rfl) ?_
          refine lv_aload_n hx hb d_M_table_85 rfl (lv_at hl 1 rfl) ?_
          refine lv_iload_n hx hb d_M_table_86 rfl (lv_at hl 3 rfl) ?_
          refine nw_is (y := nI y.toNatClampNeg) (xf_eq ey) ?_
          refine cl_r (v := some (.int (nI (wnt gK gI gO (yr - 1 - y.toNatClampNeg))))) (W.runV (b := u 0) (C := "TypeStackModel") (As := [.int (nI y.toNatClampNeg)]) (rest := [.ref (u 0)]) ⟨hx, hb, hml, hown, hw⟩ (c_M_wants l D u cI cZ gS gK gI gO gF gE (cpn gQ gS yn) 0 (tkn (gF (yr - 1)) yn) yr ym yd yn ((tA (gF (yr - 1)) (gE (yr - 1)) gS 6 (wnt gK gI gO (yr - 1 - x.toNatClampNeg)) (tkn (gF (yr - 1)) yn, tk1 (gF (yr - 1)) yn gS, tkc (tk1 (gF (yr - 1)) yn gS) 1 (tkb (gF (yr - 1)) (gE (yr - 1)) yn 0))).2.2) ((tA (gF (yr - 1)) (gE (yr - 1)) gS 6 (wnt gK gI gO (yr - 1 - x.toNatClampNeg)) (tkn (gF (yr - 1)) yn, tk1 (gF (yr - 1)) yn gS, tkc (tk1 (gF (yr - 1)) yn gS) 1 (tkb (gF (yr - 1)) (gE (yr - 1)) yn 0))).2.1) y.toNatClampNeg (by omega) (by omega) giK H.size) (cwV 1 hw g_M_106 rfl rfl rfl ⟨rfl, by decide, by decide, by decide +kernel⟩ ⟨by decide, by decide⟩) ⟨PW.blind, va_recv (q := (RM, FM, 15)) (ci := 1) (q0 := 0) hK hP rfl rfl, PW.pre hP hK hD hS hA hE⟩ rfl rfl hl.1 rfl (lv_room (Nat.le_of_ble_eq_true rfl)) d_M_table_87 ⟨by decide, by decide⟩) ?_
          refine cl_w (v := none) hD hS hA (W.runV (b := u 0) (C := "TypeStackModel") (As := [.int (nI (wnt gK gI gO (yr - 1 - y.toNatClampNeg)))]) (rest := []) ⟨hx, hb, hml, hown, hw⟩ (c_M_takeAll l D u cI cZ gS gK gI gO gF gE (cpn gQ gS yn) 0 (tkn (gF (yr - 1)) yn) yr ym yd yn ((tA (gF (yr - 1)) (gE (yr - 1)) gS 6 (wnt gK gI gO (yr - 1 - x.toNatClampNeg)) (tkn (gF (yr - 1)) yn, tk1 (gF (yr - 1)) yn gS, tkc (tk1 (gF (yr - 1)) yn gS) 1 (tkb (gF (yr - 1)) (gE (yr - 1)) yn 0))).2.2) ((tA (gF (yr - 1)) (gE (yr - 1)) gS 6 (wnt gK gI gO (yr - 1 - x.toNatClampNeg)) (tkn (gF (yr - 1)) yn, tk1 (gF (yr - 1)) yn gS, tkc (tk1 (gF (yr - 1)) yn gS) 1 (tkb (gF (yr - 1)) (gE (yr - 1)) yn 0))).2.1) (wnt gK gI gO (yr - 1 - y.toNatClampNeg)) (by omega) (by omega) (by omega) (by omega) giF giE giS H.size) (cwV 1 hw g_M_87 rfl rfl rfl ⟨rfl, by decide, by decide, by decide +kernel⟩ ⟨by decide, by decide⟩) ⟨PW.blind, va_recv (q := (RM, FM, 15)) (ci := 1) (q0 := 0) hK hP rfl rfl, PW.pre hP hK hD hS hA hE⟩ rfl rfl hl.1 rfl (lv_room (Nat.le_of_ble_eq_true rfl)) d_M_table_90 ⟨by decide, by decide⟩) (fun H locs hP hD hS => ?_)
          have hP : va_P D cls2 (wM u cI cZ gS gK gI gO gF gE (cpn gQ gS yn) 0 ((tA (gF (yr - 1)) (gE (yr - 1)) gS 6 (wnt gK gI gO (yr - 1 - y.toNatClampNeg)) (tkn (gF (yr - 1)) yn, (tA (gF (yr - 1)) (gE (yr - 1)) gS 6 (wnt gK gI gO (yr - 1 - x.toNatClampNeg)) (tkn (gF (yr - 1)) yn, tk1 (gF (yr - 1)) yn gS, tkc (tk1 (gF (yr - 1)) yn gS) 1 (tkb (gF (yr - 1)) (gE (yr - 1)) yn 0))).2.1, (tA (gF (yr - 1)) (gE (yr - 1)) gS 6 (wnt gK gI gO (yr - 1 - x.toNatClampNeg)) (tkn (gF (yr - 1)) yn, tk1 (gF (yr - 1)) yn gS, tkc (tk1 (gF (yr - 1)) yn gS) 1 (tkb (gF (yr - 1)) (gE (yr - 1)) yn 0))).2.2)).1) yr ym yd yn ((tA (gF (yr - 1)) (gE (yr - 1)) gS 6 (wnt gK gI gO (yr - 1 - y.toNatClampNeg)) (tkn (gF (yr - 1)) yn, (tA (gF (yr - 1)) (gE (yr - 1)) gS 6 (wnt gK gI gO (yr - 1 - x.toNatClampNeg)) (tkn (gF (yr - 1)) yn, tk1 (gF (yr - 1)) yn gS, tkc (tk1 (gF (yr - 1)) yn gS) 1 (tkb (gF (yr - 1)) (gE (yr - 1)) yn 0))).2.1, (tA (gF (yr - 1)) (gE (yr - 1)) gS 6 (wnt gK gI gO (yr - 1 - x.toNatClampNeg)) (tkn (gF (yr - 1)) yn, tk1 (gF (yr - 1)) yn gS, tkc (tk1 (gF (yr - 1)) yn gS) 1 (tkb (gF (yr - 1)) (gE (yr - 1)) yn 0))).2.2)).2.2) ((tA (gF (yr - 1)) (gE (yr - 1)) gS 6 (wnt gK gI gO (yr - 1 - y.toNatClampNeg)) (tkn (gF (yr - 1)) yn, (tA (gF (yr - 1)) (gE (yr - 1)) gS 6 (wnt gK gI gO (yr - 1 - x.toNatClampNeg)) (tkn (gF (yr - 1)) yn, tk1 (gF (yr - 1)) yn gS, tkc (tk1 (gF (yr - 1)) yn gS) 1 (tkb (gF (yr - 1)) (gE (yr - 1)) yn 0))).2.1, (tA (gF (yr - 1)) (gE (yr - 1)) gS 6 (wnt gK gI gO (yr - 1 - x.toNatClampNeg)) (tkn (gF (yr - 1)) yn, tk1 (gF (yr - 1)) yn gS, tkc (tk1 (gF (yr - 1)) yn gS) 1 (tkb (gF (yr - 1)) (gE (yr - 1)) yn 0))).2.2)).2.1)) H := hP
          have hD : va_D (va_A (wM u cI cZ gS gK gI gO gF gE gQ yt yn yr ym yd yk yb yc) s.heap.size) (wM u cI cZ gS gK gI gO gF gE (cpn gQ gS yn) 0 ((tA (gF (yr - 1)) (gE (yr - 1)) gS 6 (wnt gK gI gO (yr - 1 - y.toNatClampNeg)) (tkn (gF (yr - 1)) yn, (tA (gF (yr - 1)) (gE (yr - 1)) gS 6 (wnt gK gI gO (yr - 1 - x.toNatClampNeg)) (tkn (gF (yr - 1)) yn, tk1 (gF (yr - 1)) yn gS, tkc (tk1 (gF (yr - 1)) yn gS) 1 (tkb (gF (yr - 1)) (gE (yr - 1)) yn 0))).2.1, (tA (gF (yr - 1)) (gE (yr - 1)) gS 6 (wnt gK gI gO (yr - 1 - x.toNatClampNeg)) (tkn (gF (yr - 1)) yn, tk1 (gF (yr - 1)) yn gS, tkc (tk1 (gF (yr - 1)) yn gS) 1 (tkb (gF (yr - 1)) (gE (yr - 1)) yn 0))).2.2)).1) yr ym yd yn ((tA (gF (yr - 1)) (gE (yr - 1)) gS 6 (wnt gK gI gO (yr - 1 - y.toNatClampNeg)) (tkn (gF (yr - 1)) yn, (tA (gF (yr - 1)) (gE (yr - 1)) gS 6 (wnt gK gI gO (yr - 1 - x.toNatClampNeg)) (tkn (gF (yr - 1)) yn, tk1 (gF (yr - 1)) yn gS, tkc (tk1 (gF (yr - 1)) yn gS) 1 (tkb (gF (yr - 1)) (gE (yr - 1)) yn 0))).2.1, (tA (gF (yr - 1)) (gE (yr - 1)) gS 6 (wnt gK gI gO (yr - 1 - x.toNatClampNeg)) (tkn (gF (yr - 1)) yn, tk1 (gF (yr - 1)) yn gS, tkc (tk1 (gF (yr - 1)) yn gS) 1 (tkb (gF (yr - 1)) (gE (yr - 1)) yn 0))).2.2)).2.2) ((tA (gF (yr - 1)) (gE (yr - 1)) gS 6 (wnt gK gI gO (yr - 1 - y.toNatClampNeg)) (tkn (gF (yr - 1)) yn, (tA (gF (yr - 1)) (gE (yr - 1)) gS 6 (wnt gK gI gO (yr - 1 - x.toNatClampNeg)) (tkn (gF (yr - 1)) yn, tk1 (gF (yr - 1)) yn gS, tkc (tk1 (gF (yr - 1)) yn gS) 1 (tkb (gF (yr - 1)) (gE (yr - 1)) yn 0))).2.1, (tA (gF (yr - 1)) (gE (yr - 1)) gS 6 (wnt gK gI gO (yr - 1 - x.toNatClampNeg)) (tkn (gF (yr - 1)) yn, tk1 (gF (yr - 1)) yn gS, tkc (tk1 (gF (yr - 1)) yn gS) 1 (tkb (gF (yr - 1)) (gE (yr - 1)) yn 0))).2.2)).2.1)) := hD
          have htb := tA_le (gF (yr - 1)) (gE (yr - 1)) gS 6 (wnt gK gI gO (yr - 1 - y.toNatClampNeg)) (tkn (gF (yr - 1)) yn) ((tA (gF (yr - 1)) (gE (yr - 1)) gS 6 (wnt gK gI gO (yr - 1 - x.toNatClampNeg)) (tkn (gF (yr - 1)) yn, tk1 (gF (yr - 1)) yn gS, tkc (tk1 (gF (yr - 1)) yn gS) 1 (tkb (gF (yr - 1)) (gE (yr - 1)) yn 0))).2.1) ((tA (gF (yr - 1)) (gE (yr - 1)) gS 6 (wnt gK gI gO (yr - 1 - x.toNatClampNeg)) (tkn (gF (yr - 1)) yn, tk1 (gF (yr - 1)) yn gS, tkc (tk1 (gF (yr - 1)) yn gS) 1 (tkb (gF (yr - 1)) (gE (yr - 1)) yn 0))).2.2) hta.2
          refine lv_aload_n hx hb d_M_table_93 rfl (lv_at hl 1 rfl) ?_
          refine va_get (D := D) (ci := 1) (C := RM) (T := FM) (N := 15) (v := .int (nI ((tA (gF (yr - 1)) (gE (yr - 1)) gS 6 (wnt gK gI gO (yr - 1 - y.toNatClampNeg)) (tkn (gF (yr - 1)) yn, (tA (gF (yr - 1)) (gE (yr - 1)) gS 6 (wnt gK gI gO (yr - 1 - x.toNatClampNeg)) (tkn (gF (yr - 1)) yn, tk1 (gF (yr - 1)) yn gS, tkc (tk1 (gF (yr - 1)) yn gS) 1 (tkb (gF (yr - 1)) (gE (yr - 1)) yn 0))).2.1, (tA (gF (yr - 1)) (gE (yr - 1)) gS 6 (wnt gK gI gO (yr - 1 - x.toNatClampNeg)) (tkn (gF (yr - 1)) yn, tk1 (gF (yr - 1)) yn gS, tkc (tk1 (gF (yr - 1)) yn gS) 1 (tkb (gF (yr - 1)) (gE (yr - 1)) yn 0))).2.2)).2.2))) hx hb hw inM hown hK hP 0 rfl rfl 13 (by decide) (hw _ kF_M_55) (fun _ h9 => h9) rfl d_M_table_94 ?_
          refine nw_ifeq hx hb (tgt := 107) d_M_table_97 (by decide) (by omega) (fun h97 => ?_) (fun h97 => ?_)
          · skip
            obtain ⟨⟨e1, p1⟩, e2, e3⟩ := ta2_ok h97
            refine lv_aload_n hx hb d_M_table_107 rfl (lv_at hl 1 rfl) ?_
            refine cl_w (v := none) hD hS hA (W.runV (b := u 0) (C := "TypeStackModel") (As := []) (rest := []) ⟨hx, hb, hml, hown, hw⟩ (c_M_die l D u cI cZ gS gK gI gO gF gE (cpn gQ gS yn) 0 ((tA (gF (yr - 1)) (gE (yr - 1)) gS 6 (wnt gK gI gO (yr - 1 - y.toNatClampNeg)) (tkn (gF (yr - 1)) yn, (tA (gF (yr - 1)) (gE (yr - 1)) gS 6 (wnt gK gI gO (yr - 1 - x.toNatClampNeg)) (tkn (gF (yr - 1)) yn, tk1 (gF (yr - 1)) yn gS, tkc (tk1 (gF (yr - 1)) yn gS) 1 (tkb (gF (yr - 1)) (gE (yr - 1)) yn 0))).2.1, (tA (gF (yr - 1)) (gE (yr - 1)) gS 6 (wnt gK gI gO (yr - 1 - x.toNatClampNeg)) (tkn (gF (yr - 1)) yn, tk1 (gF (yr - 1)) yn gS, tkc (tk1 (gF (yr - 1)) yn gS) 1 (tkb (gF (yr - 1)) (gE (yr - 1)) yn 0))).2.2)).1) yr ym yd yn ((tA (gF (yr - 1)) (gE (yr - 1)) gS 6 (wnt gK gI gO (yr - 1 - y.toNatClampNeg)) (tkn (gF (yr - 1)) yn, (tA (gF (yr - 1)) (gE (yr - 1)) gS 6 (wnt gK gI gO (yr - 1 - x.toNatClampNeg)) (tkn (gF (yr - 1)) yn, tk1 (gF (yr - 1)) yn gS, tkc (tk1 (gF (yr - 1)) yn gS) 1 (tkb (gF (yr - 1)) (gE (yr - 1)) yn 0))).2.1, (tA (gF (yr - 1)) (gE (yr - 1)) gS 6 (wnt gK gI gO (yr - 1 - x.toNatClampNeg)) (tkn (gF (yr - 1)) yn, tk1 (gF (yr - 1)) yn gS, tkc (tk1 (gF (yr - 1)) yn gS) 1 (tkb (gF (yr - 1)) (gE (yr - 1)) yn 0))).2.2)).2.2) ((tA (gF (yr - 1)) (gE (yr - 1)) gS 6 (wnt gK gI gO (yr - 1 - y.toNatClampNeg)) (tkn (gF (yr - 1)) yn, (tA (gF (yr - 1)) (gE (yr - 1)) gS 6 (wnt gK gI gO (yr - 1 - x.toNatClampNeg)) (tkn (gF (yr - 1)) yn, tk1 (gF (yr - 1)) yn gS, tkc (tk1 (gF (yr - 1)) yn gS) 1 (tkb (gF (yr - 1)) (gE (yr - 1)) yn 0))).2.1, (tA (gF (yr - 1)) (gE (yr - 1)) gS 6 (wnt gK gI gO (yr - 1 - x.toNatClampNeg)) (tkn (gF (yr - 1)) yn, tk1 (gF (yr - 1)) yn gS, tkc (tk1 (gF (yr - 1)) yn gS) 1 (tkb (gF (yr - 1)) (gE (yr - 1)) yn 0))).2.2)).2.1) (by omega) (by omega) H.size) (cwV 0 hw g_M_109 rfl rfl rfl ⟨rfl, by decide, by decide, by decide +kernel⟩ ⟨by decide, by decide⟩) ⟨PW.blind, va_recv (q := (RM, FM, 15)) (ci := 1) (q0 := 0) hK hP rfl rfl, PW.pre hP hK hD hS hA hE⟩ rfl rfl hl.1 rfl (lv_room (Nat.le_of_ble_eq_true rfl)) d_M_table_108 ⟨by decide, by decide⟩) (fun H locs hP hD hS => ?_)
            have hP : va_P D cls2 (wM u cI cZ gS gK gI gO gF (va_up gE (yr - 1) 1) (cpn gQ gS yn) 0 (gF (yr - 1)) yr ym yd yn ((tA (gF (yr - 1)) (gE (yr - 1)) gS 6 (wnt gK gI gO (yr - 1 - y.toNatClampNeg)) (tkn (gF (yr - 1)) yn, (tA (gF (yr - 1)) (gE (yr - 1)) gS 6 (wnt gK gI gO (yr - 1 - x.toNatClampNeg)) (tkn (gF (yr - 1)) yn, tk1 (gF (yr - 1)) yn gS, tkc (tk1 (gF (yr - 1)) yn gS) 1 (tkb (gF (yr - 1)) (gE (yr - 1)) yn 0))).2.1, (tA (gF (yr - 1)) (gE (yr - 1)) gS 6 (wnt gK gI gO (yr - 1 - x.toNatClampNeg)) (tkn (gF (yr - 1)) yn, tk1 (gF (yr - 1)) yn gS, tkc (tk1 (gF (yr - 1)) yn gS) 1 (tkb (gF (yr - 1)) (gE (yr - 1)) yn 0))).2.2)).2.2) ((tA (gF (yr - 1)) (gE (yr - 1)) gS 6 (wnt gK gI gO (yr - 1 - y.toNatClampNeg)) (tkn (gF (yr - 1)) yn, (tA (gF (yr - 1)) (gE (yr - 1)) gS 6 (wnt gK gI gO (yr - 1 - x.toNatClampNeg)) (tkn (gF (yr - 1)) yn, tk1 (gF (yr - 1)) yn gS, tkc (tk1 (gF (yr - 1)) yn gS) 1 (tkb (gF (yr - 1)) (gE (yr - 1)) yn 0))).2.1, (tA (gF (yr - 1)) (gE (yr - 1)) gS 6 (wnt gK gI gO (yr - 1 - x.toNatClampNeg)) (tkn (gF (yr - 1)) yn, tk1 (gF (yr - 1)) yn gS, tkc (tk1 (gF (yr - 1)) yn gS) 1 (tkb (gF (yr - 1)) (gE (yr - 1)) yn 0))).2.2)).2.1)) H := hP
            have hD : va_D (va_A (wM u cI cZ gS gK gI gO gF gE gQ yt yn yr ym yd yk yb yc) s.heap.size) (wM u cI cZ gS gK gI gO gF (va_up gE (yr - 1) 1) (cpn gQ gS yn) 0 (gF (yr - 1)) yr ym yd yn ((tA (gF (yr - 1)) (gE (yr - 1)) gS 6 (wnt gK gI gO (yr - 1 - y.toNatClampNeg)) (tkn (gF (yr - 1)) yn, (tA (gF (yr - 1)) (gE (yr - 1)) gS 6 (wnt gK gI gO (yr - 1 - x.toNatClampNeg)) (tkn (gF (yr - 1)) yn, tk1 (gF (yr - 1)) yn gS, tkc (tk1 (gF (yr - 1)) yn gS) 1 (tkb (gF (yr - 1)) (gE (yr - 1)) yn 0))).2.1, (tA (gF (yr - 1)) (gE (yr - 1)) gS 6 (wnt gK gI gO (yr - 1 - x.toNatClampNeg)) (tkn (gF (yr - 1)) yn, tk1 (gF (yr - 1)) yn gS, tkc (tk1 (gF (yr - 1)) yn gS) 1 (tkb (gF (yr - 1)) (gE (yr - 1)) yn 0))).2.2)).2.2) ((tA (gF (yr - 1)) (gE (yr - 1)) gS 6 (wnt gK gI gO (yr - 1 - y.toNatClampNeg)) (tkn (gF (yr - 1)) yn, (tA (gF (yr - 1)) (gE (yr - 1)) gS 6 (wnt gK gI gO (yr - 1 - x.toNatClampNeg)) (tkn (gF (yr - 1)) yn, tk1 (gF (yr - 1)) yn gS, tkc (tk1 (gF (yr - 1)) yn gS) 1 (tkb (gF (yr - 1)) (gE (yr - 1)) yn 0))).2.1, (tA (gF (yr - 1)) (gE (yr - 1)) gS 6 (wnt gK gI gO (yr - 1 - x.toNatClampNeg)) (tkn (gF (yr - 1)) yn, tk1 (gF (yr - 1)) yn gS, tkc (tk1 (gF (yr - 1)) yn gS) 1 (tkb (gF (yr - 1)) (gE (yr - 1)) yn 0))).2.2)).2.1)) := hD
            refine lv_aload_n hx hb d_M_table_111 rfl (lv_at hl 1 rfl) ?_
            refine cl_w (v := none) hD hS hA (W.runV (b := u 0) (C := "TypeStackModel") (As := []) (rest := []) ⟨hx, hb, hml, hown, hw⟩ (c_M_well l D u cI cZ gS gK gI gO gF (va_up gE (yr - 1) 1) (cpn gQ gS yn) 0 (gF (yr - 1)) yr ym yd yn ((tA (gF (yr - 1)) (gE (yr - 1)) gS 6 (wnt gK gI gO (yr - 1 - y.toNatClampNeg)) (tkn (gF (yr - 1)) yn, (tA (gF (yr - 1)) (gE (yr - 1)) gS 6 (wnt gK gI gO (yr - 1 - x.toNatClampNeg)) (tkn (gF (yr - 1)) yn, tk1 (gF (yr - 1)) yn gS, tkc (tk1 (gF (yr - 1)) yn gS) 1 (tkb (gF (yr - 1)) (gE (yr - 1)) yn 0))).2.1, (tA (gF (yr - 1)) (gE (yr - 1)) gS 6 (wnt gK gI gO (yr - 1 - x.toNatClampNeg)) (tkn (gF (yr - 1)) yn, tk1 (gF (yr - 1)) yn gS, tkc (tk1 (gF (yr - 1)) yn gS) 1 (tkb (gF (yr - 1)) (gE (yr - 1)) yn 0))).2.2)).2.2) ((tA (gF (yr - 1)) (gE (yr - 1)) gS 6 (wnt gK gI gO (yr - 1 - y.toNatClampNeg)) (tkn (gF (yr - 1)) yn, (tA (gF (yr - 1)) (gE (yr - 1)) gS 6 (wnt gK gI gO (yr - 1 - x.toNatClampNeg)) (tkn (gF (yr - 1)) yn, tk1 (gF (yr - 1)) yn gS, tkc (tk1 (gF (yr - 1)) yn gS) 1 (tkb (gF (yr - 1)) (gE (yr - 1)) yn 0))).2.1, (tA (gF (yr - 1)) (gE (yr - 1)) gS 6 (wnt gK gI gO (yr - 1 - x.toNatClampNeg)) (tkn (gF (yr - 1)) yn, tk1 (gF (yr - 1)) yn gS, tkc (tk1 (gF (yr - 1)) yn gS) 1 (tkb (gF (yr - 1)) (gE (yr - 1)) yn 0))).2.2)).2.1) (by omega) (by omega) H.size) (cwV 0 hw g_M_97 rfl rfl rfl ⟨rfl, by decide, by decide, by decide +kernel⟩ ⟨by decide, by decide⟩) ⟨PW.blind, va_recv (q := (RM, FM, 15)) (ci := 1) (q0 := 0) hK hP rfl rfl, PW.pre hP hK hD hS hA hE⟩ rfl rfl hl.1 rfl (lv_room (Nat.le_of_ble_eq_true rfl)) d_M_table_112 ⟨by decide, by decide⟩) (fun H locs hP hD hS => ?_)
            have hP : va_P D cls2 (wM u cI cZ gS gK gI gO gF (va_up gE (yr - 1) 1) (cpn gQ gS yn) 0 (gF (yr - 1)) yr (max ym (gF (yr - 1))) (yd + 1) yn ((tA (gF (yr - 1)) (gE (yr - 1)) gS 6 (wnt gK gI gO (yr - 1 - y.toNatClampNeg)) (tkn (gF (yr - 1)) yn, (tA (gF (yr - 1)) (gE (yr - 1)) gS 6 (wnt gK gI gO (yr - 1 - x.toNatClampNeg)) (tkn (gF (yr - 1)) yn, tk1 (gF (yr - 1)) yn gS, tkc (tk1 (gF (yr - 1)) yn gS) 1 (tkb (gF (yr - 1)) (gE (yr - 1)) yn 0))).2.1, (tA (gF (yr - 1)) (gE (yr - 1)) gS 6 (wnt gK gI gO (yr - 1 - x.toNatClampNeg)) (tkn (gF (yr - 1)) yn, tk1 (gF (yr - 1)) yn gS, tkc (tk1 (gF (yr - 1)) yn gS) 1 (tkb (gF (yr - 1)) (gE (yr - 1)) yn 0))).2.2)).2.2) ((tA (gF (yr - 1)) (gE (yr - 1)) gS 6 (wnt gK gI gO (yr - 1 - y.toNatClampNeg)) (tkn (gF (yr - 1)) yn, (tA (gF (yr - 1)) (gE (yr - 1)) gS 6 (wnt gK gI gO (yr - 1 - x.toNatClampNeg)) (tkn (gF (yr - 1)) yn, tk1 (gF (yr - 1)) yn gS, tkc (tk1 (gF (yr - 1)) yn gS) 1 (tkb (gF (yr - 1)) (gE (yr - 1)) yn 0))).2.1, (tA (gF (yr - 1)) (gE (yr - 1)) gS 6 (wnt gK gI gO (yr - 1 - x.toNatClampNeg)) (tkn (gF (yr - 1)) yn, tk1 (gF (yr - 1)) yn gS, tkc (tk1 (gF (yr - 1)) yn gS) 1 (tkb (gF (yr - 1)) (gE (yr - 1)) yn 0))).2.2)).2.1)) H := hP
            have hD : va_D (va_A (wM u cI cZ gS gK gI gO gF gE gQ yt yn yr ym yd yk yb yc) s.heap.size) (wM u cI cZ gS gK gI gO gF (va_up gE (yr - 1) 1) (cpn gQ gS yn) 0 (gF (yr - 1)) yr (max ym (gF (yr - 1))) (yd + 1) yn ((tA (gF (yr - 1)) (gE (yr - 1)) gS 6 (wnt gK gI gO (yr - 1 - y.toNatClampNeg)) (tkn (gF (yr - 1)) yn, (tA (gF (yr - 1)) (gE (yr - 1)) gS 6 (wnt gK gI gO (yr - 1 - x.toNatClampNeg)) (tkn (gF (yr - 1)) yn, tk1 (gF (yr - 1)) yn gS, tkc (tk1 (gF (yr - 1)) yn gS) 1 (tkb (gF (yr - 1)) (gE (yr - 1)) yn 0))).2.1, (tA (gF (yr - 1)) (gE (yr - 1)) gS 6 (wnt gK gI gO (yr - 1 - x.toNatClampNeg)) (tkn (gF (yr - 1)) yn, tk1 (gF (yr - 1)) yn gS, tkc (tk1 (gF (yr - 1)) yn gS) 1 (tkb (gF (yr - 1)) (gE (yr - 1)) yn 0))).2.2)).2.2) ((tA (gF (yr - 1)) (gE (yr - 1)) gS 6 (wnt gK gI gO (yr - 1 - y.toNatClampNeg)) (tkn (gF (yr - 1)) yn, (tA (gF (yr - 1)) (gE (yr - 1)) gS 6 (wnt gK gI gO (yr - 1 - x.toNatClampNeg)) (tkn (gF (yr - 1)) yn, tk1 (gF (yr - 1)) yn gS, tkc (tk1 (gF (yr - 1)) yn gS) 1 (tkb (gF (yr - 1)) (gE (yr - 1)) yn 0))).2.1, (tA (gF (yr - 1)) (gE (yr - 1)) gS 6 (wnt gK gI gO (yr - 1 - x.toNatClampNeg)) (tkn (gF (yr - 1)) yn, tk1 (gF (yr - 1)) yn gS, tkc (tk1 (gF (yr - 1)) yn gS) 1 (tkb (gF (yr - 1)) (gE (yr - 1)) yn 0))).2.2)).2.1)) := hD
            have her : orE (xf yr x) (orE (xf yr y) (orE (szE (wnt gK gI gO (yr - 1 - x.toNatClampNeg)) (wnt gK gI gO (yr - 1 - y.toNatClampNeg))) (orE (xo ISE (hbT (gF (yr - 1)) (gE (yr - 1)) gS yn 1)) (orE (xo ISE (hbL (gF (yr - 1)) (gE (yr - 1)) gS 6 ((hbT (gF (yr - 1)) (gE (yr - 1)) gS yn 1).getD 0) (wnt gK gI gO (yr - 1 - x.toNatClampNeg)))) (xo ISE (hbL (gF (yr - 1)) (gE (yr - 1)) gS 6 ((hbT (gF (yr - 1)) (gE (yr - 1)) gS yn 1).getD 0) (wnt gK gI gO (yr - 1 - y.toNatClampNeg)))))))) = none := by rw [ex, ey, es0, e1, p1, e2, e3] <;> rfl
            exact W.vret hx hb hrt (fun t ht9 _ => ⟨⟨gS, gK, gI, gO, gF, va_up gE (yr - 1) 1, cpn gQ gS yn, 0, gF (yr - 1), yr, max ym (gF (yr - 1)), yd + 1, yn, (tA (gF (yr - 1)) (gE (yr - 1)) gS 6 (wnt gK gI gO (yr - 1 - y.toNatClampNeg)) (tkn (gF (yr - 1)) yn, (tA (gF (yr - 1)) (gE (yr - 1)) gS 6 (wnt gK gI gO (yr - 1 - x.toNatClampNeg)) (tkn (gF (yr - 1)) yn, tk1 (gF (yr - 1)) yn gS, tkc (tk1 (gF (yr - 1)) yn gS) 1 (tkb (gF (yr - 1)) (gE (yr - 1)) yn 0))).2.1, (tA (gF (yr - 1)) (gE (yr - 1)) gS 6 (wnt gK gI gO (yr - 1 - x.toNatClampNeg)) (tkn (gF (yr - 1)) yn, tk1 (gF (yr - 1)) yn gS, tkc (tk1 (gF (yr - 1)) yn gS) 1 (tkb (gF (yr - 1)) (gE (yr - 1)) yn 0))).2.2)).2.2, (tA (gF (yr - 1)) (gE (yr - 1)) gS 6 (wnt gK gI gO (yr - 1 - y.toNatClampNeg)) (tkn (gF (yr - 1)) yn, (tA (gF (yr - 1)) (gE (yr - 1)) gS 6 (wnt gK gI gO (yr - 1 - x.toNatClampNeg)) (tkn (gF (yr - 1)) yn, tk1 (gF (yr - 1)) yn gS, tkc (tk1 (gF (yr - 1)) yn gS) 1 (tkb (gF (yr - 1)) (gE (yr - 1)) yn 0))).2.1, (tA (gF (yr - 1)) (gE (yr - 1)) gS 6 (wnt gK gI gO (yr - 1 - x.toNatClampNeg)) (tkn (gF (yr - 1)) yn, tk1 (gF (yr - 1)) yn gS, tkc (tk1 (gF (yr - 1)) yn gS) 1 (tkb (gF (yr - 1)) (gE (yr - 1)) yn 0))).2.2)).2.1, none, rfl, ⟨fun _ => ⟨rfl, rfl, rel_m (Nat.le_trans (hfl (by omega)) hmo)⟩, fun E he => by rw [her] at he; cases he⟩, ⟨giS, giK, giI, giO, giF, im_up giE (by decide), giF _, by have := giF (yr - 1); omega, gir⟩, by rw [ht9]; exact hP, hD⟩, hS.F ht9⟩) hS.2.2 d_M_table_115
          · skip
            have es := ta2_no h97
            refine lv_aload_n hx hb d_M_table_100 rfl (lv_at hl 1 rfl) ?_
            refine lv_iconst (v := nI 3) hx hb d_M_table_101 (by decide) ?_
            refine cl_w (v := some (.int (nI 0))) hD hS hA (W.runV (b := u 0) (C := "TypeStackModel") (As := [.int (nI 3)]) (rest := []) ⟨hx, hb, hml, hown, hw⟩ (c_M_undo l D u cI cZ gS gK gI gO gF gE (cpn gQ gS yn) 0 ((tA (gF (yr - 1)) (gE (yr - 1)) gS 6 (wnt gK gI gO (yr - 1 - y.toNatClampNeg)) (tkn (gF (yr - 1)) yn, (tA (gF (yr - 1)) (gE (yr - 1)) gS 6 (wnt gK gI gO (yr - 1 - x.toNatClampNeg)) (tkn (gF (yr - 1)) yn, tk1 (gF (yr - 1)) yn gS, tkc (tk1 (gF (yr - 1)) yn gS) 1 (tkb (gF (yr - 1)) (gE (yr - 1)) yn 0))).2.1, (tA (gF (yr - 1)) (gE (yr - 1)) gS 6 (wnt gK gI gO (yr - 1 - x.toNatClampNeg)) (tkn (gF (yr - 1)) yn, tk1 (gF (yr - 1)) yn gS, tkc (tk1 (gF (yr - 1)) yn gS) 1 (tkb (gF (yr - 1)) (gE (yr - 1)) yn 0))).2.2)).1) yr ym yd yn ((tA (gF (yr - 1)) (gE (yr - 1)) gS 6 (wnt gK gI gO (yr - 1 - y.toNatClampNeg)) (tkn (gF (yr - 1)) yn, (tA (gF (yr - 1)) (gE (yr - 1)) gS 6 (wnt gK gI gO (yr - 1 - x.toNatClampNeg)) (tkn (gF (yr - 1)) yn, tk1 (gF (yr - 1)) yn gS, tkc (tk1 (gF (yr - 1)) yn gS) 1 (tkb (gF (yr - 1)) (gE (yr - 1)) yn 0))).2.1, (tA (gF (yr - 1)) (gE (yr - 1)) gS 6 (wnt gK gI gO (yr - 1 - x.toNatClampNeg)) (tkn (gF (yr - 1)) yn, tk1 (gF (yr - 1)) yn gS, tkc (tk1 (gF (yr - 1)) yn gS) 1 (tkb (gF (yr - 1)) (gE (yr - 1)) yn 0))).2.2)).2.2) ((tA (gF (yr - 1)) (gE (yr - 1)) gS 6 (wnt gK gI gO (yr - 1 - y.toNatClampNeg)) (tkn (gF (yr - 1)) yn, (tA (gF (yr - 1)) (gE (yr - 1)) gS 6 (wnt gK gI gO (yr - 1 - x.toNatClampNeg)) (tkn (gF (yr - 1)) yn, tk1 (gF (yr - 1)) yn gS, tkc (tk1 (gF (yr - 1)) yn gS) 1 (tkb (gF (yr - 1)) (gE (yr - 1)) yn 0))).2.1, (tA (gF (yr - 1)) (gE (yr - 1)) gS 6 (wnt gK gI gO (yr - 1 - x.toNatClampNeg)) (tkn (gF (yr - 1)) yn, tk1 (gF (yr - 1)) yn gS, tkc (tk1 (gF (yr - 1)) yn gS) 1 (tkb (gF (yr - 1)) (gE (yr - 1)) yn 0))).2.2)).2.1) 3 (by omega) H.size) (cwV 1 hw g_M_90 rfl rfl rfl ⟨rfl, by decide, by decide, by decide +kernel⟩ ⟨by decide, by decide⟩) ⟨PW.blind, va_recv (q := (RM, FM, 15)) (ci := 1) (q0 := 0) hK hP rfl rfl, PW.pre hP hK hD hS hA hE⟩ rfl rfl hl.1 rfl (lv_room (Nat.le_of_ble_eq_true rfl)) d_M_table_102 ⟨by decide, by decide⟩) (fun H locs hP hD hS => ?_)
            have hP : va_P D cls2 (wM u cI cZ (cpn gS (cpn gQ gS yn) yn) gK gI gO gF gE (cpn gQ gS yn) 3 yn yr ym yd yn ((tA (gF (yr - 1)) (gE (yr - 1)) gS 6 (wnt gK gI gO (yr - 1 - y.toNatClampNeg)) (tkn (gF (yr - 1)) yn, (tA (gF (yr - 1)) (gE (yr - 1)) gS 6 (wnt gK gI gO (yr - 1 - x.toNatClampNeg)) (tkn (gF (yr - 1)) yn, tk1 (gF (yr - 1)) yn gS, tkc (tk1 (gF (yr - 1)) yn gS) 1 (tkb (gF (yr - 1)) (gE (yr - 1)) yn 0))).2.1, (tA (gF (yr - 1)) (gE (yr - 1)) gS 6 (wnt gK gI gO (yr - 1 - x.toNatClampNeg)) (tkn (gF (yr - 1)) yn, tk1 (gF (yr - 1)) yn gS, tkc (tk1 (gF (yr - 1)) yn gS) 1 (tkb (gF (yr - 1)) (gE (yr - 1)) yn 0))).2.2)).2.2) ((tA (gF (yr - 1)) (gE (yr - 1)) gS 6 (wnt gK gI gO (yr - 1 - y.toNatClampNeg)) (tkn (gF (yr - 1)) yn, (tA (gF (yr - 1)) (gE (yr - 1)) gS 6 (wnt gK gI gO (yr - 1 - x.toNatClampNeg)) (tkn (gF (yr - 1)) yn, tk1 (gF (yr - 1)) yn gS, tkc (tk1 (gF (yr - 1)) yn gS) 1 (tkb (gF (yr - 1)) (gE (yr - 1)) yn 0))).2.1, (tA (gF (yr - 1)) (gE (yr - 1)) gS 6 (wnt gK gI gO (yr - 1 - x.toNatClampNeg)) (tkn (gF (yr - 1)) yn, tk1 (gF (yr - 1)) yn gS, tkc (tk1 (gF (yr - 1)) yn gS) 1 (tkb (gF (yr - 1)) (gE (yr - 1)) yn 0))).2.2)).2.1)) H := hP
            have hD : va_D (va_A (wM u cI cZ gS gK gI gO gF gE gQ yt yn yr ym yd yk yb yc) s.heap.size) (wM u cI cZ (cpn gS (cpn gQ gS yn) yn) gK gI gO gF gE (cpn gQ gS yn) 3 yn yr ym yd yn ((tA (gF (yr - 1)) (gE (yr - 1)) gS 6 (wnt gK gI gO (yr - 1 - y.toNatClampNeg)) (tkn (gF (yr - 1)) yn, (tA (gF (yr - 1)) (gE (yr - 1)) gS 6 (wnt gK gI gO (yr - 1 - x.toNatClampNeg)) (tkn (gF (yr - 1)) yn, tk1 (gF (yr - 1)) yn gS, tkc (tk1 (gF (yr - 1)) yn gS) 1 (tkb (gF (yr - 1)) (gE (yr - 1)) yn 0))).2.1, (tA (gF (yr - 1)) (gE (yr - 1)) gS 6 (wnt gK gI gO (yr - 1 - x.toNatClampNeg)) (tkn (gF (yr - 1)) yn, tk1 (gF (yr - 1)) yn gS, tkc (tk1 (gF (yr - 1)) yn gS) 1 (tkb (gF (yr - 1)) (gE (yr - 1)) yn 0))).2.2)).2.2) ((tA (gF (yr - 1)) (gE (yr - 1)) gS 6 (wnt gK gI gO (yr - 1 - y.toNatClampNeg)) (tkn (gF (yr - 1)) yn, (tA (gF (yr - 1)) (gE (yr - 1)) gS 6 (wnt gK gI gO (yr - 1 - x.toNatClampNeg)) (tkn (gF (yr - 1)) yn, tk1 (gF (yr - 1)) yn gS, tkc (tk1 (gF (yr - 1)) yn gS) 1 (tkb (gF (yr - 1)) (gE (yr - 1)) yn 0))).2.1, (tA (gF (yr - 1)) (gE (yr - 1)) gS 6 (wnt gK gI gO (yr - 1 - x.toNatClampNeg)) (tkn (gF (yr - 1)) yn, tk1 (gF (yr - 1)) yn gS, tkc (tk1 (gF (yr - 1)) yn gS) 1 (tkb (gF (yr - 1)) (gE (yr - 1)) yn 0))).2.2)).2.1)) := hD
            refine lv_pop hx hb d_M_table_105 rfl ?_
            have her : orE (xf yr x) (orE (xf yr y) (orE (szE (wnt gK gI gO (yr - 1 - x.toNatClampNeg)) (wnt gK gI gO (yr - 1 - y.toNatClampNeg))) (orE (xo ISE (hbT (gF (yr - 1)) (gE (yr - 1)) gS yn 1)) (orE (xo ISE (hbL (gF (yr - 1)) (gE (yr - 1)) gS 6 ((hbT (gF (yr - 1)) (gE (yr - 1)) gS yn 1).getD 0) (wnt gK gI gO (yr - 1 - x.toNatClampNeg)))) (xo ISE (hbL (gF (yr - 1)) (gE (yr - 1)) gS 6 ((hbT (gF (yr - 1)) (gE (yr - 1)) gS yn 1).getD 0) (wnt gK gI gO (yr - 1 - y.toNatClampNeg)))))))) = some ISE := by rw [ex, ey, es0]; exact es
            exact W.vret hx hb hrt (fun t ht9 _ => ⟨⟨cpn gS (cpn gQ gS yn) yn, gK, gI, gO, gF, gE, cpn gQ gS yn, 3, yn, yr, ym, yd, yn, (tA (gF (yr - 1)) (gE (yr - 1)) gS 6 (wnt gK gI gO (yr - 1 - y.toNatClampNeg)) (tkn (gF (yr - 1)) yn, (tA (gF (yr - 1)) (gE (yr - 1)) gS 6 (wnt gK gI gO (yr - 1 - x.toNatClampNeg)) (tkn (gF (yr - 1)) yn, tk1 (gF (yr - 1)) yn gS, tkc (tk1 (gF (yr - 1)) yn gS) 1 (tkb (gF (yr - 1)) (gE (yr - 1)) yn 0))).2.1, (tA (gF (yr - 1)) (gE (yr - 1)) gS 6 (wnt gK gI gO (yr - 1 - x.toNatClampNeg)) (tkn (gF (yr - 1)) yn, tk1 (gF (yr - 1)) yn gS, tkc (tk1 (gF (yr - 1)) yn gS) 1 (tkb (gF (yr - 1)) (gE (yr - 1)) yn 0))).2.2)).2.2, (tA (gF (yr - 1)) (gE (yr - 1)) gS 6 (wnt gK gI gO (yr - 1 - y.toNatClampNeg)) (tkn (gF (yr - 1)) yn, (tA (gF (yr - 1)) (gE (yr - 1)) gS 6 (wnt gK gI gO (yr - 1 - x.toNatClampNeg)) (tkn (gF (yr - 1)) yn, tk1 (gF (yr - 1)) yn gS, tkc (tk1 (gF (yr - 1)) yn gS) 1 (tkb (gF (yr - 1)) (gE (yr - 1)) yn 0))).2.1, (tA (gF (yr - 1)) (gE (yr - 1)) gS 6 (wnt gK gI gO (yr - 1 - x.toNatClampNeg)) (tkn (gF (yr - 1)) yn, tk1 (gF (yr - 1)) yn gS, tkc (tk1 (gF (yr - 1)) yn gS) 1 (tkb (gF (yr - 1)) (gE (yr - 1)) yn 0))).2.2)).2.1, none, rfl, ⟨fun he => (by rw [her] at he; cases he), fun E he => by rw [her] at he; cases he; exact ⟨by decide +kernel, rfl, rel_undo⟩⟩, im_undo hi giS, by rw [ht9]; exact hP, hD⟩, hS.F ht9⟩) hS.2.2 d_M_table_106
        · skip
          exfalso; omega
      · skip
        have es0 : szE (wnt gK gI gO (yr - 1 - x.toNatClampNeg)) (wnt gK gI gO (yr - 1 - y.toNatClampNeg)) = some UOE := if_neg h37
        refine lv_iconst (v := nI 2) hx hb d_M_table_40 (by decide) ?_
        refine lv_goto hx hb d_M_table_41 (tgt := 45) (by decide) ?_
        refine va_put (D := D) (ci := 1) (C := RM) (T := FM) (N := 15) (v := .int (nI 2)) (ty := .int) hx hb hw inM tM tM_ok nM hown hK hP hD hS 0 rfl rfl 0 (by decide) (hw _ kF_M_36) (fun _ h9 => h9) rfl (by decide +kernel) rfl rfl (Nat.le_of_ble_eq_true rfl) d_M_table_45 (fun H locs hP hD hS => ?_)
        have hP : va_P D cls2 (wM u cI cZ gS gK gI gO gF gE gQ 2 yn yr ym yd yk yb yc) H := hP
        have hD : va_D (va_A (wM u cI cZ gS gK gI gO gF gE gQ yt yn yr ym yd yk yb yc) s.heap.size) (wM u cI cZ gS gK gI gO gF gE gQ 2 yn yr ym yd yk yb yc) := hD
        refine lv_aload_n hx hb d_M_table_48 rfl (lv_at hl 0 rfl) ?_
        refine va_get (D := D) (ci := 1) (C := RM) (T := FM) (N := 15) (v := .int (nI 2)) hx hb hw inM hown hK hP 0 rfl rfl 0 (by decide) (hw _ kF_M_36) (fun _ h9 => h9) rfl d_M_table_49 ?_
        refine nw_ifle hx hb (tgt := 56) d_M_table_52 (by decide) (by omega) (fun h52 => ?_) (fun h52 => ?_)
        · skip
          exfalso; omega
        · skip
          have her : orE (xf yr x) (orE (xf yr y) (orE (szE (wnt gK gI gO (yr - 1 - x.toNatClampNeg)) (wnt gK gI gO (yr - 1 - y.toNatClampNeg))) (orE (xo ISE (hbT (gF (yr - 1)) (gE (yr - 1)) gS yn 1)) (orE (xo ISE (hbL (gF (yr - 1)) (gE (yr - 1)) gS 6 ((hbT (gF (yr - 1)) (gE (yr - 1)) gS yn 1).getD 0) (wnt gK gI gO (yr - 1 - x.toNatClampNeg)))) (xo ISE (hbL (gF (yr - 1)) (gE (yr - 1)) gS 6 ((hbT (gF (yr - 1)) (gE (yr - 1)) gS yn 1).getD 0) (wnt gK gI gO (yr - 1 - y.toNatClampNeg)))))))) = some UOE := by simp only [orE, ex, ey, es0]
          exact W.vret hx hb hrt (fun t ht9 _ => ⟨⟨gS, gK, gI, gO, gF, gE, gQ, 2, yn, yr, ym, yd, yk, yb, yc, none, rfl, ⟨fun he => (by rw [her] at he; cases he), fun E he => by rw [her] at he; cases he; exact ⟨by decide +kernel, rfl, rel_rf⟩⟩, hi, by rw [ht9]; exact hP, hD⟩, hS.F ht9⟩) hS.2.2 d_M_table_55
    · skip
      have ey : xf yr y = some NSE := nl_no h14
      refine lv_iconst (v := nI 1) hx hb d_M_table_17 (by decide) ?_
      refine lv_goto hx hb d_M_table_18 (tgt := 45) (by decide) ?_
      refine va_put (D := D) (ci := 1) (C := RM) (T := FM) (N := 15) (v := .int (nI 1)) (ty := .int) hx hb hw inM tM tM_ok nM hown hK hP hD hS 0 rfl rfl 0 (by decide) (hw _ kF_M_36) (fun _ h9 => h9) rfl (by decide +kernel) rfl rfl (Nat.le_of_ble_eq_true rfl) d_M_table_45 (fun H locs hP hD hS => ?_)
      have hP : va_P D cls2 (wM u cI cZ gS gK gI gO gF gE gQ 1 yn yr ym yd yk yb yc) H := hP
      have hD : va_D (va_A (wM u cI cZ gS gK gI gO gF gE gQ yt yn yr ym yd yk yb yc) s.heap.size) (wM u cI cZ gS gK gI gO gF gE gQ 1 yn yr ym yd yk yb yc) := hD
      refine lv_aload_n hx hb d_M_table_48 rfl (lv_at hl 0 rfl) ?_
      refine va_get (D := D) (ci := 1) (C := RM) (T := FM) (N := 15) (v := .int (nI 1)) hx hb hw inM hown hK hP 0 rfl rfl 0 (by decide) (hw _ kF_M_36) (fun _ h9 => h9) rfl d_M_table_49 ?_
      refine nw_ifle hx hb (tgt := 56) d_M_table_52 (by decide) (by omega) (fun h52 => ?_) (fun h52 => ?_)
      · skip
        exfalso; omega
      · skip
        have her : orE (xf yr x) (orE (xf yr y) (orE (szE (wnt gK gI gO (yr - 1 - x.toNatClampNeg)) (wnt gK gI gO (yr - 1 - y.toNatClampNeg))) (orE (xo ISE (hbT (gF (yr - 1)) (gE (yr - 1)) gS yn 1)) (orE (xo ISE (hbL (gF (yr - 1)) (gE (yr - 1)) gS 6 ((hbT (gF (yr - 1)) (gE (yr - 1)) gS yn 1).getD 0) (wnt gK gI gO (yr - 1 - x.toNatClampNeg)))) (xo ISE (hbL (gF (yr - 1)) (gE (yr - 1)) gS 6 ((hbT (gF (yr - 1)) (gE (yr - 1)) gS yn 1).getD 0) (wnt gK gI gO (yr - 1 - y.toNatClampNeg)))))))) = some NSE := by simp only [orE, ex, ey]
        exact W.vret hx hb hrt (fun t ht9 _ => ⟨⟨gS, gK, gI, gO, gF, gE, gQ, 1, yn, yr, ym, yd, yk, yb, yc, none, rfl, ⟨fun he => (by rw [her] at he; cases he), fun E he => by rw [her] at he; cases he; exact ⟨by decide +kernel, rfl, rel_rf⟩⟩, hi, by rw [ht9]; exact hP, hD⟩, hS.F ht9⟩) hS.2.2 d_M_table_55

set_option maxHeartbeats 4000000 in
set_option maxRecDepth 100000 in
theorem c_M_top (l : Launch) (D : va_G) (u : Nat → Nat) (cI cZ : ClassId) (gS gK gI gO gF gE gQ : Nat → Nat) (yt yn yr ym yd yk yb yc : Nat) (hi : IM gS gK gI gO gF gE yn ym yr) (x : Int32) (sz : Nat) : Met l y_M_top w_M_top (rmR 4) (PW D [(cI, .int), (cZ, .boolean)] (wM u cI cZ gS gK gI gO gF gE gQ yt yn yr ym yd yk yb yc) sz [.ref (u 0), .int x]) (QM D u cI cZ (wM u cI cZ gS gK gI gO gF gE gQ yt yn yr ym yd yk yb yc) sz (PMo (none) (cdl []) (some (.int (tpv yn gS x))) (some (.int (nI 0))) (Rel gS gK gI gO gF gE yn ym yr yd) (Rel gS gK gI gO gF gE yn ym yr yd))) 0 0 (va_A (wM u cI cZ gS gK gI gO gF gE gQ yt yn yr ym yd yk yb yc) sz) := by
  refine Met.ofW (cc := b_M_top) (maxL := 2) (ret := (some .int)) (by decide) rfl ?_
  intro p e s m args below meth c s₁ B hml hv
  obtain ⟨rfl, hsz, hP, hK, hD0, hE⟩ := hv
  have hx := B.exec
  have hb := B.bytes
  have hrt := B.returns
  have hts := atoms_spec (ws := w_M_top) B.pre
  have hw : ∀ w ∈ bw, w.before ([.ref (u 0), .int x]).toArray s = true := fun w h => hts w (List.mem_cons_of_mem _ h)
  have hown : s.vm.findClass "TypeStackModel" = some m.cls := findClass_of_methodNamed B.named
  have hlocks := B.notSynchronized
  subst hsz
  have hD := hD0.self (sz := s.heap.size)
  have hA : ∀ q : Nat, s.heap.size ≤ q → va_A (wM u cI cZ gS gK gI gO gF gE gQ yt yn yr ym yd yk yb yc) s.heap.size q := fun q h => Or.inr h
  have hS : va_S (va_A (wM u cI cZ gS gK gI gO gF gE gQ yt yn yr ym yd yk yb yc) s.heap.size) s.heap s.heap [] := va_S.rf
  have hK0 := hK.sub (tys' := []) [] rfl
  have hl := lv_entry ([.ref (u 0), .int x]) (n := 2) (Nat.le_of_ble_eq_true rfl)
  rw [lg_entry_eq]
  generalize (lg_sl ([.ref (u 0), .int x]) ++ List.replicate (2 - (lg_sl ([.ref (u 0), .int x])).length) Slot.unset).toArray = ls at hl ⊢
  have hl : lv_has ls 2 [(0, .ref (u 0)), (1, .int x)] := hl
  obtain ⟨giS, giK, giI, giO, giF, giE, gin, gim, gir⟩ := id hi
  refine lv_aload_n hx hb d_M_top_0 rfl (lv_at hl 0 rfl) ?_
  refine lv_iconst (v := nI 0) hx hb d_M_top_1 (by decide) ?_
  refine va_put (D := D) (ci := 1) (C := RM) (T := FM) (N := 15) (v := .int (nI 0)) (ty := .int) hx hb hw inM tM tM_ok nM hown hK hP hD hS 0 rfl rfl 0 (by decide) (hw _ kF_M_36) (fun _ h9 => h9) rfl (by decide +kernel) rfl rfl (Nat.le_of_ble_eq_true rfl) d_M_top_2 (fun H locs hP hD hS => ?_)
  have hP : va_P D cls2 (wM u cI cZ gS gK gI gO gF gE gQ 0 yn yr ym yd yk yb yc) H := hP
  have hD : va_D (va_A (wM u cI cZ gS gK gI gO gF gE gQ yt yn yr ym yd yk yb yc) s.heap.size) (wM u cI cZ gS gK gI gO gF gE gQ 0 yn yr ym yd yk yb yc) := hD
  refine lv_iload_n hx hb d_M_top_5 rfl (lv_at hl 1 rfl) ?_
  refine lv_if_lt hx hb (tgt := 17) d_M_top_6 (by decide) (fun h6 => ?_) (fun h6 => ?_)
  · skip
    refine lv_iconst (v := -1) hx hb d_M_top_17 (by decide) ?_
    refine lv_goto hx hb d_M_top_18 (tgt := 34) (by decide) ?_
    have her : (none : Option String) = none := rfl
    exact W.iret hx hb hrt (fun t ht9 _ => ⟨⟨gS, gK, gI, gO, gF, gE, gQ, 0, yn, yr, ym, yd, yk, yb, yc, some (.int (-1)), rfl, ⟨fun _ => ⟨rfl, by rw [tpv_lo h6], rel_rf⟩, fun E he => by rw [her] at he; cases he⟩, hi, by rw [ht9]; exact hP, hD⟩, hS.F ht9⟩) hS.2.2 d_M_top_34
  · skip
    refine lv_iload_n hx hb d_M_top_9 rfl (lv_at hl 1 rfl) ?_
    refine lv_aload_n hx hb d_M_top_10 rfl (lv_at hl 0 rfl) ?_
    refine va_get (D := D) (ci := 1) (C := RM) (T := FM) (N := 15) (v := .int (nI yn)) hx hb hw inM hown hK hP 0 rfl rfl 7 (by decide) (hw _ kF_M_40) (fun _ h9 => h9) rfl d_M_top_11 ?_
    refine lv_icmp_lt hx hb (tgt := 21) d_M_top_14 (by decide) (fun h14 => ?_) (fun h14 => ?_)
    · skip
      obtain ⟨j, hj, hxj⟩ := ilt (n := yn) (by omega) h6 h14
      refine lv_aload_n hx hb d_M_top_21 rfl (lv_at hl 0 rfl) ?_
      refine va_get (D := D) (ci := 1) (C := RM) (T := FM) (N := 15) (v := .ref (u 1)) hx hb hw inM hown hK hP 0 rfl rfl 1 (by decide) (hw _ kF_M_9) (fun _ h9 => h9) rfl d_M_top_22 ?_
      refine lv_aload_n hx hb d_M_top_25 rfl (lv_at hl 0 rfl) ?_
      refine va_get (D := D) (ci := 1) (C := RM) (T := FM) (N := 15) (v := .int (nI yn)) hx hb hw inM hown hK hP 0 rfl rfl 7 (by decide) (hw _ kF_M_40) (fun _ h9 => h9) rfl d_M_top_26 ?_
      refine lv_iconst (v := nI 1) hx hb d_M_top_29 (by decide) ?_
      refine nw_sub hx hb (by omega) d_M_top_30 ?_
      refine lv_iload_n hx hb d_M_top_31 rfl (lv_at hl 1 rfl) ?_
      refine nw_is (y := nI j) hxj ?_
      refine nw_sub hx hb (by omega) d_M_top_32 ?_
      refine nw_iald hx hb hK hP 1 0 rfl rfl (k := (yn - 1) - j) (by omega) (by decide) d_M_top_33 ?_
      have her : (none : Option String) = none := rfl
      exact W.iret hx hb hrt (fun t ht9 _ => ⟨⟨gS, gK, gI, gO, gF, gE, gQ, 0, yn, yr, ym, yd, yk, yb, yc, some (.int (nI (gS ((yn - 1) - j)))), rfl, ⟨fun _ => ⟨rfl, by rw [tpv_in h6 h14, hxj, nI_clamp (by omega)], rel_rf⟩, fun E he => by rw [her] at he; cases he⟩, hi, by rw [ht9]; exact hP, hD⟩, hS.F ht9⟩) hS.2.2 d_M_top_34
    · skip
      refine lv_iconst (v := -1) hx hb d_M_top_17 (by decide) ?_
      refine lv_goto hx hb d_M_top_18 (tgt := 34) (by decide) ?_
      have her : (none : Option String) = none := rfl
      exact W.iret hx hb hrt (fun t ht9 _ => ⟨⟨gS, gK, gI, gO, gF, gE, gQ, 0, yn, yr, ym, yd, yk, yb, yc, some (.int (-1)), rfl, ⟨fun _ => ⟨rfl, by rw [tpv_hi h14], rel_rf⟩, fun E he => by rw [her] at he; cases he⟩, hi, by rw [ht9]; exact hP, hD⟩, hS.F ht9⟩) hS.2.2 d_M_top_34

set_option maxHeartbeats 4000000 in
set_option maxRecDepth 100000 in
theorem c_M_frame (l : Launch) (D : va_G) (u : Nat → Nat) (cI cZ : ClassId) (gS gK gI gO gF gE gQ : Nat → Nat) (yt yn yr ym yd yk yb yc : Nat) (hi : IM gS gK gI gO gF gE yn ym yr) (x y : Int32) (sz : Nat) : Met l y_M_frame w_M_frame (rmR 4) (PW D [(cI, .int), (cZ, .boolean)] (wM u cI cZ gS gK gI gO gF gE gQ yt yn yr ym yd yk yb yc) sz [.ref (u 0), .int x, .int y]) (QM D u cI cZ (wM u cI cZ gS gK gI gO gF gE gQ yt yn yr ym yd yk yb yc) sz (PMo (orE (xf yr x) (x6 y)) (cdl [NSE, IAE]) (some (.int (nI (frv y gK gI gO gF gE (yr - 1 - x.toNatClampNeg))))) (some (.int (nI 0))) (Rel gS gK gI gO gF gE yn ym yr yd) (Rel gS gK gI gO gF gE yn ym yr yd))) 0 0 (va_A (wM u cI cZ gS gK gI gO gF gE gQ yt yn yr ym yd yk yb yc) sz) := by
  refine Met.ofW (cc := b_M_frame) (maxL := 4) (ret := (some .int)) (by decide) rfl ?_
  intro p e s m args below meth c s₁ B hml hv
  obtain ⟨rfl, hsz, hP, hK, hD0, hE⟩ := hv
  have hx := B.exec
  have hb := B.bytes
  have hrt := B.returns
  have hts := atoms_spec (ws := w_M_frame) B.pre
  have hw : ∀ w ∈ bw, w.before ([.ref (u 0), .int x, .int y]).toArray s = true := fun w h => hts w (List.mem_cons_of_mem _ h)
  have hown : s.vm.findClass "TypeStackModel" = some m.cls := findClass_of_methodNamed B.named
  have hlocks := B.notSynchronized
  subst hsz
  have hD := hD0.self (sz := s.heap.size)
  have hA : ∀ q : Nat, s.heap.size ≤ q → va_A (wM u cI cZ gS gK gI gO gF gE gQ yt yn yr ym yd yk yb yc) s.heap.size q := fun q h => Or.inr h
  have hS : va_S (va_A (wM u cI cZ gS gK gI gO gF gE gQ yt yn yr ym yd yk yb yc) s.heap.size) s.heap s.heap [] := va_S.rf
  have hK0 := hK.sub (tys' := []) [] rfl
  have hl := lv_entry ([.ref (u 0), .int x, .int y]) (n := 4) (Nat.le_of_ble_eq_true rfl)
  rw [lg_entry_eq]
  generalize (lg_sl ([.ref (u 0), .int x, .int y]) ++ List.replicate (4 - (lg_sl ([.ref (u 0), .int x, .int y])).length) Slot.unset).toArray = ls at hl ⊢
  have hl : lv_has ls 4 [(0, .ref (u 0)), (1, .int x), (2, .int y)] := hl
  obtain ⟨giS, giK, giI, giO, giF, giE, gin, gim, gir⟩ := id hi
  refine lv_aload_n hx hb d_M_frame_0 rfl (lv_at hl 0 rfl) ?_
  refine lv_aload_n hx hb d_M_frame_1 rfl (lv_at hl 0 rfl) ?_
  refine lv_iload_n hx hb d_M_frame_2 rfl (lv_at hl 1 rfl) ?_
  refine cl_r (v := some (.int (nI (nlb yr x)))) (W.runV (b := u 0) (C := "TypeStackModel") (As := [.int x]) (rest := [.ref (u 0)]) ⟨hx, hb, hml, hown, hw⟩ (c_M_noLabel l D u cI cZ gS gK gI gO gF gE gQ yt yn yr ym yd yk yb yc x s.heap.size) (cwV 1 hw g_M_103 rfl rfl rfl ⟨rfl, by decide, by decide, by decide +kernel⟩ ⟨by decide, by decide⟩) ⟨PW.blind, va_recv (q := (RM, FM, 15)) (ci := 1) (q0 := 0) hK hP rfl rfl, PW.pre hP hK hD hS hA hE⟩ rfl rfl hl.1 rfl (lv_room (Nat.le_of_ble_eq_true rfl)) d_M_frame_3 ⟨by decide, by decide⟩) ?_
  have hq3 := nlb_le yr x
  refine nw_ifeq hx hb (tgt := 13) d_M_frame_6 (by decide) (by omega) (fun h6 => ?_) (fun h6 => ?_)
  · skip
    have ex : xf yr x = none := nl_ok h6
    refine lv_iload_n hx hb d_M_frame_13 rfl (lv_at hl 2 rfl) ?_
    refine lv_if_lt hx hb (tgt := 22) d_M_frame_14 (by decide) (fun h14 => ?_) (fun h14 => ?_)
    · skip
      have ey : x6 y = some IAE := x6_lo h14
      refine lv_iconst (v := nI 2) hx hb d_M_frame_22 (by decide) ?_
      refine lv_goto hx hb d_M_frame_23 (tgt := 27) (by decide) ?_
      refine va_put (D := D) (ci := 1) (C := RM) (T := FM) (N := 15) (v := .int (nI 2)) (ty := .int) hx hb hw inM tM tM_ok nM hown hK hP hD hS 0 rfl rfl 0 (by decide) (hw _ kF_M_36) (fun _ h9 => h9) rfl (by decide +kernel) rfl rfl (Nat.le_of_ble_eq_true rfl) d_M_frame_27 (fun H locs hP hD hS => ?_)
      have hP : va_P D cls2 (wM u cI cZ gS gK gI gO gF gE gQ 2 yn yr ym yd yk yb yc) H := hP
      have hD : va_D (va_A (wM u cI cZ gS gK gI gO gF gE gQ yt yn yr ym yd yk yb yc) s.heap.size) (wM u cI cZ gS gK gI gO gF gE gQ 2 yn yr ym yd yk yb yc) := hD
      refine lv_aload_n hx hb d_M_frame_30 rfl (lv_at hl 0 rfl) ?_
      refine va_get (D := D) (ci := 1) (C := RM) (T := FM) (N := 15) (v := .int (nI 2)) hx hb hw inM hown hK hP 0 rfl rfl 0 (by decide) (hw _ kF_M_36) (fun _ h9 => h9) rfl d_M_frame_31 ?_
      refine nw_ifle hx hb (tgt := 39) d_M_frame_34 (by decide) (by omega) (fun h34 => ?_) (fun h34 => ?_)
      · skip
        exfalso; omega
      · skip
        refine lv_iconst (v := nI 0) hx hb d_M_frame_37 (by decide) ?_
        have her : orE (xf yr x) (x6 y) = some IAE := by simp only [orE, ex, ey]
        exact W.iret hx hb hrt (fun t ht9 _ => ⟨⟨gS, gK, gI, gO, gF, gE, gQ, 2, yn, yr, ym, yd, yk, yb, yc, some (.int (nI 0)), rfl, ⟨fun he => (by rw [her] at he; cases he), fun E he => by rw [her] at he; cases he; exact ⟨by decide +kernel, rfl, rel_rf⟩⟩, hi, by rw [ht9]; exact hP, hD⟩, hS.F ht9⟩) hS.2.2 d_M_frame_38
    · skip
      refine lv_iload_n hx hb d_M_frame_17 rfl (lv_at hl 2 rfl) ?_
      refine lv_iconst (v := nI 5) hx hb d_M_frame_18 (by decide) ?_
      refine lv_icmp_le hx hb (tgt := 26) d_M_frame_19 (by decide) (fun h19 => ?_) (fun h19 => ?_)
      · skip
        have ey : x6 y = none := x6_in h14 h19
        refine lv_iconst (v := nI 0) hx hb d_M_frame_26 (by decide) ?_
        refine va_put (D := D) (ci := 1) (C := RM) (T := FM) (N := 15) (v := .int (nI 0)) (ty := .int) hx hb hw inM tM tM_ok nM hown hK hP hD hS 0 rfl rfl 0 (by decide) (hw _ kF_M_36) (fun _ h9 => h9) rfl (by decide +kernel) rfl rfl (Nat.le_of_ble_eq_true rfl) d_M_frame_27 (fun H locs hP hD hS => ?_)
        have hP : va_P D cls2 (wM u cI cZ gS gK gI gO gF gE gQ 0 yn yr ym yd yk yb yc) H := hP
        have hD : va_D (va_A (wM u cI cZ gS gK gI gO gF gE gQ yt yn yr ym yd yk yb yc) s.heap.size) (wM u cI cZ gS gK gI gO gF gE gQ 0 yn yr ym yd yk yb yc) := hD
        refine lv_aload_n hx hb d_M_frame_30 rfl (lv_at hl 0 rfl) ?_
        refine va_get (D := D) (ci := 1) (C := RM) (T := FM) (N := 15) (v := .int (nI 0)) hx hb hw inM hown hK hP 0 rfl rfl 0 (by decide) (hw _ kF_M_36) (fun _ h9 => h9) rfl d_M_frame_31 ?_
        refine nw_ifle hx hb (tgt := 39) d_M_frame_34 (by decide) (by omega) (fun h34 => ?_) (fun h34 => ?_)
        · skip
          have hjx := xf_pos ex
          have hrx := xf_r ex
          have hwx := wnt_lt gK giI giO (yr - 1 - x.toNatClampNeg)
          refine lv_aload_n hx hb d_M_frame_39 rfl (lv_at hl 0 rfl) ?_
          refine va_get (D := D) (ci := 1) (C := RM) (T := FM) (N := 15) (v := .int (nI yr)) hx hb hw inM hown hK hP 0 rfl rfl 8 (by decide) (hw _ kF_M_43) (fun _ h9 => h9) rfl d_M_frame_40 ?_
          refine lv_iconst (v := nI 1) hx hb d_M_frame_43 (by decide) ?_
          refine nw_sub hx hb (by omega) d_M_frame_44 ?_
          refine lv_iload_n hx hb d_M_frame_45 rfl (lv_at hl 1 rfl) ?_
          refine nw_is (y := nI x.toNatClampNeg) (xf_eq ex) ?_
          refine nw_sub hx hb (by omega) d_M_frame_46 ?_
          refine lv_istore_n (lv' := [(3, .int (nI ((yr - 1) - x.toNatClampNeg))), (0, .ref (u 0)), (1, .int x), (2, .int y)]) hx hb d_M_frame_47 rfl hl (by decide) rfl (fun ls hl => ?_)
          refine lv_iload_n hx hb d_M_frame_48 rfl (lv_at hl 3 rfl) ?_
          rcases sw4 y with hv | hv | hv | hv | hv | hv
          · skip
            refine nw_is (y := nI 0) hv ?_
            refine lv_tableIn hx hb (off := 35) (tgt := 84) d_M_frame_49 (by decide) (by decide) (by decide) (by decide) ?_
            refine lv_aload_n hx hb d_M_frame_84 rfl (lv_at hl 1 rfl) ?_
            refine va_get (D := D) (ci := 1) (C := RM) (T := FM) (N := 15) (v := .ref (u 2)) hx hb hw inM hown hK hP 0 rfl rfl 2 (by decide) (hw _ kF_M_13) (fun _ h9 => h9) rfl d_M_frame_85 ?_
            refine lv_iload_n hx hb d_M_frame_88 rfl (lv_at hl 0 rfl) ?_
            refine nw_iald hx hb hK hP 2 0 rfl rfl (k := (yr - 1) - x.toNatClampNeg) (by omega) (by decide) d_M_frame_89 ?_
            have her : orE (xf yr x) (x6 y) = none := by rw [ex, ey] <;> rfl
            exact W.iret hx hb hrt (fun t ht9 _ => ⟨⟨gS, gK, gI, gO, gF, gE, gQ, 0, yn, yr, ym, yd, yk, yb, yc, some (.int (nI (gK ((yr - 1) - x.toNatClampNeg)))), rfl, ⟨fun _ => ⟨rfl, by rw [frv_0 hv], rel_rf⟩, fun E he => by rw [her] at he; cases he⟩, hi, by rw [ht9]; exact hP, hD⟩, hS.F ht9⟩) hS.2.2 d_M_frame_90
          · skip
            refine nw_is (y := nI 1) hv ?_
            refine lv_tableIn hx hb (off := 42) (tgt := 91) d_M_frame_49 (by decide) (by decide) (by decide) (by decide) ?_
            refine lv_aload_n hx hb d_M_frame_91 rfl (lv_at hl 1 rfl) ?_
            refine va_get (D := D) (ci := 1) (C := RM) (T := FM) (N := 15) (v := .ref (u 3)) hx hb hw inM hown hK hP 0 rfl rfl 3 (by decide) (hw _ kF_M_16) (fun _ h9 => h9) rfl d_M_frame_92 ?_
            refine lv_iload_n hx hb d_M_frame_95 rfl (lv_at hl 0 rfl) ?_
            refine nw_iald hx hb hK hP 3 0 rfl rfl (k := (yr - 1) - x.toNatClampNeg) (by omega) (by decide) d_M_frame_96 ?_
            have her : orE (xf yr x) (x6 y) = none := by rw [ex, ey] <;> rfl
            exact W.iret hx hb hrt (fun t ht9 _ => ⟨⟨gS, gK, gI, gO, gF, gE, gQ, 0, yn, yr, ym, yd, yk, yb, yc, some (.int (nI (gI ((yr - 1) - x.toNatClampNeg)))), rfl, ⟨fun _ => ⟨rfl, by rw [frv_1 hv], rel_rf⟩, fun E he => by rw [her] at he; cases he⟩, hi, by rw [ht9]; exact hP, hD⟩, hS.F ht9⟩) hS.2.2 d_M_frame_97
          · skip
            refine nw_is (y := nI 2) hv ?_
            refine lv_tableIn hx hb (off := 49) (tgt := 98) d_M_frame_49 (by decide) (by decide) (by decide) (by decide) ?_
            refine lv_aload_n hx hb d_M_frame_98 rfl (lv_at hl 1 rfl) ?_
            refine va_get (D := D) (ci := 1) (C := RM) (T := FM) (N := 15) (v := .ref (u 4)) hx hb hw inM hown hK hP 0 rfl rfl 4 (by decide) (hw _ kF_M_19) (fun _ h9 => h9) rfl d_M_frame_99 ?_
            refine lv_iload_n hx hb d_M_frame_102 rfl (lv_at hl 0 rfl) ?_
            refine nw_iald hx hb hK hP 4 0 rfl rfl (k := (yr - 1) - x.toNatClampNeg) (by omega) (by decide) d_M_frame_103 ?_
            have her : orE (xf yr x) (x6 y) = none := by rw [ex, ey] <;> rfl
            exact W.iret hx hb hrt (fun t ht9 _ => ⟨⟨gS, gK, gI, gO, gF, gE, gQ, 0, yn, yr, ym, yd, yk, yb, yc, some (.int (nI (gO ((yr - 1) - x.toNatClampNeg)))), rfl, ⟨fun _ => ⟨rfl, by rw [frv_2 hv], rel_rf⟩, fun E he => by rw [her] at he; cases he⟩, hi, by rw [ht9]; exact hP, hD⟩, hS.F ht9⟩) hS.2.2 d_M_frame_104
          · skip
            refine nw_is (y := nI 3) hv ?_
            refine lv_tableIn hx hb (off := 56) (tgt := 105) d_M_frame_49 (by decide) (by decide) (by decide) (by decide) ?_
            refine lv_aload_n hx hb d_M_frame_105 rfl (lv_at hl 1 rfl) ?_
            refine va_get (D := D) (ci := 1) (C := RM) (T := FM) (N := 15) (v := .ref (u 5)) hx hb hw inM hown hK hP 0 rfl rfl 5 (by decide) (hw _ kF_M_22) (fun _ h9 => h9) rfl d_M_frame_106 ?_
            refine lv_iload_n hx hb d_M_frame_109 rfl (lv_at hl 0 rfl) ?_
            refine nw_iald hx hb hK hP 5 0 rfl rfl (k := (yr - 1) - x.toNatClampNeg) (by omega) (by decide) d_M_frame_110 ?_
            have her : orE (xf yr x) (x6 y) = none := by rw [ex, ey] <;> rfl
            exact W.iret hx hb hrt (fun t ht9 _ => ⟨⟨gS, gK, gI, gO, gF, gE, gQ, 0, yn, yr, ym, yd, yk, yb, yc, some (.int (nI (gF ((yr - 1) - x.toNatClampNeg)))), rfl, ⟨fun _ => ⟨rfl, by rw [frv_3 hv], rel_rf⟩, fun E he => by rw [her] at he; cases he⟩, hi, by rw [ht9]; exact hP, hD⟩, hS.F ht9⟩) hS.2.2 d_M_frame_111
          · skip
            refine nw_is (y := nI 4) hv ?_
            refine lv_tableIn hx hb (off := 63) (tgt := 112) d_M_frame_49 (by decide) (by decide) (by decide) (by decide) ?_
            refine lv_aload_n hx hb d_M_frame_112 rfl (lv_at hl 1 rfl) ?_
            refine va_get (D := D) (ci := 1) (C := RM) (T := FM) (N := 15) (v := .ref (u 6)) hx hb hw inM hown hK hP 0 rfl rfl 6 (by decide) (hw _ kF_M_25) (fun _ h9 => h9) rfl d_M_frame_113 ?_
            refine lv_iload_n hx hb d_M_frame_116 rfl (lv_at hl 0 rfl) ?_
            refine nw_zald hx hb hK hP 6 1 rfl rfl (k := (yr - 1) - x.toNatClampNeg) (by omega) (by decide) d_M_frame_117 ?_
            have b117 := giE ((yr - 1) - x.toNatClampNeg)
            refine nw_ifeq hx hb (tgt := 125) d_M_frame_118 (by decide) (by omega) (fun h118 => ?_) (fun h118 => ?_)
            · skip
              refine lv_iconst (v := nI 0) hx hb d_M_frame_125 (by decide) ?_
              have her : orE (xf yr x) (x6 y) = none := by rw [ex, ey] <;> rfl
              exact W.iret hx hb hrt (fun t ht9 _ => ⟨⟨gS, gK, gI, gO, gF, gE, gQ, 0, yn, yr, ym, yd, yk, yb, yc, some (.int (nI 0)), rfl, ⟨fun _ => ⟨rfl, by rw [frv_4 hv]; have := giE (yr - 1 - x.toNatClampNeg); congr 3; omega, rel_rf⟩, fun E he => by rw [her] at he; cases he⟩, hi, by rw [ht9]; exact hP, hD⟩, hS.F ht9⟩) hS.2.2 d_M_frame_126
            · skip
              refine lv_iconst (v := nI 1) hx hb d_M_frame_121 (by decide) ?_
              refine lv_goto hx hb d_M_frame_122 (tgt := 126) (by decide) ?_
              have her : orE (xf yr x) (x6 y) = none := by rw [ex, ey] <;> rfl
              exact W.iret hx hb hrt (fun t ht9 _ => ⟨⟨gS, gK, gI, gO, gF, gE, gQ, 0, yn, yr, ym, yd, yk, yb, yc, some (.int (nI 1)), rfl, ⟨fun _ => ⟨rfl, by rw [frv_4 hv]; have := giE (yr - 1 - x.toNatClampNeg); congr 3; omega, rel_rf⟩, fun E he => by rw [her] at he; cases he⟩, hi, by rw [ht9]; exact hP, hD⟩, hS.F ht9⟩) hS.2.2 d_M_frame_126
          · skip
            refine lv_tableOut hx hb (tgt := 127) d_M_frame_49 hv (by decide) ?_
            refine lv_aload_n hx hb d_M_frame_127 rfl (lv_at hl 1 rfl) ?_
            refine lv_iload_n hx hb d_M_frame_128 rfl (lv_at hl 2 rfl) ?_
            refine nw_is (y := nI x.toNatClampNeg) (xf_eq ex) ?_
            refine cl_r (v := some (.int (nI (wnt gK gI gO (yr - 1 - x.toNatClampNeg))))) (W.runV (b := u 0) (C := "TypeStackModel") (As := [.int (nI x.toNatClampNeg)]) (rest := []) ⟨hx, hb, hml, hown, hw⟩ (c_M_wants l D u cI cZ gS gK gI gO gF gE gQ 0 yn yr ym yd yk yb yc x.toNatClampNeg (by omega) (by omega) giK H.size) (cwV 1 hw g_M_106 rfl rfl rfl ⟨rfl, by decide, by decide, by decide +kernel⟩ ⟨by decide, by decide⟩) ⟨PW.blind, va_recv (q := (RM, FM, 15)) (ci := 1) (q0 := 0) hK hP rfl rfl, PW.pre hP hK hD hS hA hE⟩ rfl rfl hl.1 rfl (lv_room (Nat.le_of_ble_eq_true rfl)) d_M_frame_129 ⟨by decide, by decide⟩) ?_
            have her : orE (xf yr x) (x6 y) = none := by rw [ex, ey] <;> rfl
            exact W.iret hx hb hrt (fun t ht9 _ => ⟨⟨gS, gK, gI, gO, gF, gE, gQ, 0, yn, yr, ym, yd, yk, yb, yc, some (.int (nI (wnt gK gI gO (yr - 1 - x.toNatClampNeg)))), rfl, ⟨fun _ => ⟨rfl, by rw [frv_d hv], rel_rf⟩, fun E he => by rw [her] at he; cases he⟩, hi, by rw [ht9]; exact hP, hD⟩, hS.F ht9⟩) hS.2.2 d_M_frame_132
        · skip
          exfalso; omega
      · skip
        have ey : x6 y = some IAE := x6_hi h19
        refine lv_iconst (v := nI 2) hx hb d_M_frame_22 (by decide) ?_
        refine lv_goto hx hb d_M_frame_23 (tgt := 27) (by decide) ?_
        refine va_put (D := D) (ci := 1) (C := RM) (T := FM) (N := 15) (v := .int (nI 2)) (ty := .int) hx hb hw inM tM tM_ok nM hown hK hP hD hS 0 rfl rfl 0 (by decide) (hw _ kF_M_36) (fun _ h9 => h9) rfl (by decide +kernel) rfl rfl (Nat.le_of_ble_eq_true rfl) d_M_frame_27 (fun H locs hP hD hS => ?_)
        have hP : va_P D cls2 (wM u cI cZ gS gK gI gO gF gE gQ 2 yn yr ym yd yk yb yc) H := hP
        have hD : va_D (va_A (wM u cI cZ gS gK gI gO gF gE gQ yt yn yr ym yd yk yb yc) s.heap.size) (wM u cI cZ gS gK gI gO gF gE gQ 2 yn yr ym yd yk yb yc) := hD
        refine lv_aload_n hx hb d_M_frame_30 rfl (lv_at hl 0 rfl) ?_
        refine va_get (D := D) (ci := 1) (C := RM) (T := FM) (N := 15) (v := .int (nI 2)) hx hb hw inM hown hK hP 0 rfl rfl 0 (by decide) (hw _ kF_M_36) (fun _ h9 => h9) rfl d_M_frame_31 ?_
        refine nw_ifle hx hb (tgt := 39) d_M_frame_34 (by decide) (by omega) (fun h34 => ?_) (fun h34 => ?_)
        · skip
          exfalso; omega
        · skip
          refine lv_iconst (v := nI 0) hx hb d_M_frame_37 (by decide) ?_
          have her : orE (xf yr x) (x6 y) = some IAE := by simp only [orE, ex, ey]
          exact W.iret hx hb hrt (fun t ht9 _ => ⟨⟨gS, gK, gI, gO, gF, gE, gQ, 2, yn, yr, ym, yd, yk, yb, yc, some (.int (nI 0)), rfl, ⟨fun he => (by rw [her] at he; cases he), fun E he => by rw [her] at he; cases he; exact ⟨by decide +kernel, rfl, rel_rf⟩⟩, hi, by rw [ht9]; exact hP, hD⟩, hS.F ht9⟩) hS.2.2 d_M_frame_38
  · skip
    have ex : xf yr x = some NSE := nl_no h6
    refine lv_iconst (v := nI 1) hx hb d_M_frame_9 (by decide) ?_
    refine lv_goto hx hb d_M_frame_10 (tgt := 27) (by decide) ?_
    refine va_put (D := D) (ci := 1) (C := RM) (T := FM) (N := 15) (v := .int (nI 1)) (ty := .int) hx hb hw inM tM tM_ok nM hown hK hP hD hS 0 rfl rfl 0 (by decide) (hw _ kF_M_36) (fun _ h9 => h9) rfl (by decide +kernel) rfl rfl (Nat.le_of_ble_eq_true rfl) d_M_frame_27 (fun H locs hP hD hS => ?_)
    have hP : va_P D cls2 (wM u cI cZ gS gK gI gO gF gE gQ 1 yn yr ym yd yk yb yc) H := hP
    have hD : va_D (va_A (wM u cI cZ gS gK gI gO gF gE gQ yt yn yr ym yd yk yb yc) s.heap.size) (wM u cI cZ gS gK gI gO gF gE gQ 1 yn yr ym yd yk yb yc) := hD
    refine lv_aload_n hx hb d_M_frame_30 rfl (lv_at hl 0 rfl) ?_
    refine va_get (D := D) (ci := 1) (C := RM) (T := FM) (N := 15) (v := .int (nI 1)) hx hb hw inM hown hK hP 0 rfl rfl 0 (by decide) (hw _ kF_M_36) (fun _ h9 => h9) rfl d_M_frame_31 ?_
    refine nw_ifle hx hb (tgt := 39) d_M_frame_34 (by decide) (by omega) (fun h34 => ?_) (fun h34 => ?_)
    · skip
      exfalso; omega
    · skip
      refine lv_iconst (v := nI 0) hx hb d_M_frame_37 (by decide) ?_
      have her : orE (xf yr x) (x6 y) = some NSE := by simp only [orE, ex]
      exact W.iret hx hb hrt (fun t ht9 _ => ⟨⟨gS, gK, gI, gO, gF, gE, gQ, 1, yn, yr, ym, yd, yk, yb, yc, some (.int (nI 0)), rfl, ⟨fun he => (by rw [her] at he; cases he), fun E he => by rw [her] at he; cases he; exact ⟨by decide +kernel, rfl, rel_rf⟩⟩, hi, by rw [ht9]; exact hP, hD⟩, hS.F ht9⟩) hS.2.2 d_M_frame_38

set_option maxHeartbeats 4000000 in
set_option maxRecDepth 100000 in
theorem c_M_count (l : Launch) (D : va_G) (u : Nat → Nat) (cI cZ : ClassId) (gS gK gI gO gF gE gQ : Nat → Nat) (yt yn yr ym yd yk yb yc : Nat) (hi : IM gS gK gI gO gF gE yn ym yr) (x : Int32) (sz : Nat) : Met l y_M_count w_M_count (rmR 4) (PW D [(cI, .int), (cZ, .boolean)] (wM u cI cZ gS gK gI gO gF gE gQ yt yn yr ym yd yk yb yc) sz [.ref (u 0), .int x]) (QM D u cI cZ (wM u cI cZ gS gK gI gO gF gE gQ yt yn yr ym yd yk yb yc) sz (PMo (none) (cdl []) (some (.int (cnv x yn yr ym yd))) (some (.int (nI 0))) (Rel gS gK gI gO gF gE yn ym yr yd) (Rel gS gK gI gO gF gE yn ym yr yd))) 0 0 (va_A (wM u cI cZ gS gK gI gO gF gE gQ yt yn yr ym yd yk yb yc) sz) := by
  refine Met.ofW (cc := b_M_count) (maxL := 2) (ret := (some .int)) (by decide) rfl ?_
  intro p e s m args below meth c s₁ B hml hv
  obtain ⟨rfl, hsz, hP, hK, hD0, hE⟩ := hv
  have hx := B.exec
  have hb := B.bytes
  have hrt := B.returns
  have hts := atoms_spec (ws := w_M_count) B.pre
  have hw : ∀ w ∈ bw, w.before ([.ref (u 0), .int x]).toArray s = true := fun w h => hts w (List.mem_cons_of_mem _ h)
  have hown : s.vm.findClass "TypeStackModel" = some m.cls := findClass_of_methodNamed B.named
  have hlocks := B.notSynchronized
  subst hsz
  have hD := hD0.self (sz := s.heap.size)
  have hA : ∀ q : Nat, s.heap.size ≤ q → va_A (wM u cI cZ gS gK gI gO gF gE gQ yt yn yr ym yd yk yb yc) s.heap.size q := fun q h => Or.inr h
  have hS : va_S (va_A (wM u cI cZ gS gK gI gO gF gE gQ yt yn yr ym yd yk yb yc) s.heap.size) s.heap s.heap [] := va_S.rf
  have hK0 := hK.sub (tys' := []) [] rfl
  have hl := lv_entry ([.ref (u 0), .int x]) (n := 2) (Nat.le_of_ble_eq_true rfl)
  rw [lg_entry_eq]
  generalize (lg_sl ([.ref (u 0), .int x]) ++ List.replicate (2 - (lg_sl ([.ref (u 0), .int x])).length) Slot.unset).toArray = ls at hl ⊢
  have hl : lv_has ls 2 [(0, .ref (u 0)), (1, .int x)] := hl
  obtain ⟨giS, giK, giI, giO, giF, giE, gin, gim, gir⟩ := id hi
  refine lv_aload_n hx hb d_M_count_0 rfl (lv_at hl 0 rfl) ?_
  refine lv_iconst (v := nI 0) hx hb d_M_count_1 (by decide) ?_
  refine va_put (D := D) (ci := 1) (C := RM) (T := FM) (N := 15) (v := .int (nI 0)) (ty := .int) hx hb hw inM tM tM_ok nM hown hK hP hD hS 0 rfl rfl 0 (by decide) (hw _ kF_M_36) (fun _ h9 => h9) rfl (by decide +kernel) rfl rfl (Nat.le_of_ble_eq_true rfl) d_M_count_2 (fun H locs hP hD hS => ?_)
  have hP : va_P D cls2 (wM u cI cZ gS gK gI gO gF gE gQ 0 yn yr ym yd yk yb yc) H := hP
  have hD : va_D (va_A (wM u cI cZ gS gK gI gO gF gE gQ yt yn yr ym yd yk yb yc) s.heap.size) (wM u cI cZ gS gK gI gO gF gE gQ 0 yn yr ym yd yk yb yc) := hD
  refine lv_iload_n hx hb d_M_count_5 rfl (lv_at hl 1 rfl) ?_
  rcases sw3 x with hv | hv | hv | hv | hv
  · skip
    refine nw_is (y := nI 0) hv ?_
    refine lv_tableIn hx hb (off := 30) (tgt := 36) d_M_count_6 (by decide) (by decide) (by decide) (by decide) ?_
    refine lv_aload_n hx hb d_M_count_36 rfl (lv_at hl 0 rfl) ?_
    refine va_get (D := D) (ci := 1) (C := RM) (T := FM) (N := 15) (v := .int (nI yn)) hx hb hw inM hown hK hP 0 rfl rfl 7 (by decide) (hw _ kF_M_40) (fun _ h9 => h9) rfl d_M_count_37 ?_
    have her : (none : Option String) = none := rfl
    exact W.iret hx hb hrt (fun t ht9 _ => ⟨⟨gS, gK, gI, gO, gF, gE, gQ, 0, yn, yr, ym, yd, yk, yb, yc, some (.int (nI yn)), rfl, ⟨fun _ => ⟨rfl, by rw [cnv_0 hv], rel_rf⟩, fun E he => by rw [her] at he; cases he⟩, hi, by rw [ht9]; exact hP, hD⟩, hS.F ht9⟩) hS.2.2 d_M_count_40
  · skip
    refine nw_is (y := nI 1) hv ?_
    refine lv_tableIn hx hb (off := 35) (tgt := 41) d_M_count_6 (by decide) (by decide) (by decide) (by decide) ?_
    refine lv_aload_n hx hb d_M_count_41 rfl (lv_at hl 0 rfl) ?_
    refine va_get (D := D) (ci := 1) (C := RM) (T := FM) (N := 15) (v := .int (nI yr)) hx hb hw inM hown hK hP 0 rfl rfl 8 (by decide) (hw _ kF_M_43) (fun _ h9 => h9) rfl d_M_count_42 ?_
    have her : (none : Option String) = none := rfl
    exact W.iret hx hb hrt (fun t ht9 _ => ⟨⟨gS, gK, gI, gO, gF, gE, gQ, 0, yn, yr, ym, yd, yk, yb, yc, some (.int (nI yr)), rfl, ⟨fun _ => ⟨rfl, by rw [cnv_1 hv], rel_rf⟩, fun E he => by rw [her] at he; cases he⟩, hi, by rw [ht9]; exact hP, hD⟩, hS.F ht9⟩) hS.2.2 d_M_count_45
  · skip
    refine nw_is (y := nI 2) hv ?_
    refine lv_tableIn hx hb (off := 40) (tgt := 46) d_M_count_6 (by decide) (by decide) (by decide) (by decide) ?_
    refine lv_aload_n hx hb d_M_count_46 rfl (lv_at hl 0 rfl) ?_
    refine va_get (D := D) (ci := 1) (C := RM) (T := FM) (N := 15) (v := .int (nI ym)) hx hb hw inM hown hK hP 0 rfl rfl 9 (by decide) (hw _ kF_M_46) (fun _ h9 => h9) rfl d_M_count_47 ?_
    have her : (none : Option String) = none := rfl
    exact W.iret hx hb hrt (fun t ht9 _ => ⟨⟨gS, gK, gI, gO, gF, gE, gQ, 0, yn, yr, ym, yd, yk, yb, yc, some (.int (nI ym)), rfl, ⟨fun _ => ⟨rfl, by rw [cnv_2 hv], rel_rf⟩, fun E he => by rw [her] at he; cases he⟩, hi, by rw [ht9]; exact hP, hD⟩, hS.F ht9⟩) hS.2.2 d_M_count_50
  · skip
    refine nw_is (y := nI 3) hv ?_
    refine lv_tableIn hx hb (off := 45) (tgt := 51) d_M_count_6 (by decide) (by decide) (by decide) (by decide) ?_
    refine lv_aload_n hx hb d_M_count_51 rfl (lv_at hl 0 rfl) ?_
    refine va_get (D := D) (ci := 1) (C := RM) (T := FM) (N := 15) (v := .int (nI yd)) hx hb hw inM hown hK hP 0 rfl rfl 10 (by decide) (hw _ kF_M_49) (fun _ h9 => h9) rfl d_M_count_52 ?_
    have her : (none : Option String) = none := rfl
    exact W.iret hx hb hrt (fun t ht9 _ => ⟨⟨gS, gK, gI, gO, gF, gE, gQ, 0, yn, yr, ym, yd, yk, yb, yc, some (.int (nI yd)), rfl, ⟨fun _ => ⟨rfl, by rw [cnv_3 hv], rel_rf⟩, fun E he => by rw [her] at he; cases he⟩, hi, by rw [ht9]; exact hP, hD⟩, hS.F ht9⟩) hS.2.2 d_M_count_55
  · skip
    refine lv_tableOut hx hb (tgt := 56) d_M_count_6 hv (by decide) ?_
    refine lv_iconst (v := -1) hx hb d_M_count_56 (by decide) ?_
    have her : (none : Option String) = none := rfl
    exact W.iret hx hb hrt (fun t ht9 _ => ⟨⟨gS, gK, gI, gO, gF, gE, gQ, 0, yn, yr, ym, yd, yk, yb, yc, some (.int (-1)), rfl, ⟨fun _ => ⟨rfl, by rw [cnv_o hv], rel_rf⟩, fun E he => by rw [her] at he; cases he⟩, hi, by rw [ht9]; exact hP, hD⟩, hS.F ht9⟩) hS.2.2 d_M_count_57
