set_option maxHeartbeats 4000000 in
set_option maxRecDepth 100000 in
theorem c_M_thrown (l : Launch) (D : va_G) (u : Nat → Nat) (cI cZ : ClassId) (gS gK gI gO gF gE gQ : Nat → Nat) (yt yn yr ym yd yk yb yc : Nat) (sz : Nat) : Met l y_M_thrown w_M_thrown (rmR 0) (PW D [(cI, .int), (cZ, .boolean)] (wM u cI cZ gS gK gI gO gF gE gQ yt yn yr ym yd yk yb yc) sz [.ref (u 0)]) (QR (some (.int (nI yt)))) 0 0 (fun _ => False) := by
  refine Met.ofW (cc := b_M_thrown) (maxL := 1) (ret := (some .int)) (by decide) rfl ?_
  intro p e s m args below meth c s₁ B hml hv
  obtain ⟨rfl, hsz, hP, hK, hD0, hE⟩ := hv
  have hx := B.exec
  have hb := B.bytes
  have hrt := B.returns
  have hts := atoms_spec (ws := w_M_thrown) B.pre
  have hw : ∀ w ∈ bw, w.before ([.ref (u 0)]).toArray s = true := fun w h => hts w (List.mem_cons_of_mem _ h)
  have hown : s.vm.findClass "TypeStackModel" = some m.cls := findClass_of_methodNamed B.named
  have hlocks := B.notSynchronized
  subst hsz
  have hD := hD0.self (sz := s.heap.size)
  have hA : ∀ q : Nat, s.heap.size ≤ q → va_A (wM u cI cZ gS gK gI gO gF gE gQ yt yn yr ym yd yk yb yc) s.heap.size q := fun q h => Or.inr h
  have hS : va_S (va_A (wM u cI cZ gS gK gI gO gF gE gQ yt yn yr ym yd yk yb yc) s.heap.size) s.heap s.heap [] := va_S.rf
  have hK0 := hK.sub (tys' := []) [] rfl
  have hl := lv_entry ([.ref (u 0)]) (n := 1) (Nat.le_of_ble_eq_true rfl)
  rw [lg_entry_eq]
  generalize (lg_sl ([.ref (u 0)]) ++ List.replicate (1 - (lg_sl ([.ref (u 0)])).length) Slot.unset).toArray = ls at hl ⊢
  have hl : lv_has ls 1 [(0, .ref (u 0))] := hl
  refine lv_aload_n hx hb d_M_thrown_0 rfl (lv_at hl 0 rfl) ?_
  refine va_get (D := D) (ci := 1) (C := RM) (T := FM) (N := 15) (v := .int (nI yt)) hx hb hw inM hown hK hP 0 rfl rfl 0 (by decide) (hw _ kF_M_36) (fun _ h9 => h9) rfl d_M_thrown_1 ?_
  exact W.iret hx hb hrt (fun t ht _ => ⟨rfl, ht⟩) (fun q h => nomatch h) d_M_thrown_4

set_option maxHeartbeats 4000000 in
set_option maxRecDepth 100000 in
theorem c_M_inner (l : Launch) (D : va_G) (u : Nat → Nat) (cI cZ : ClassId) (gS gK gI gO gF gE gQ : Nat → Nat) (yt yn yr ym yd yk yb yc : Nat) (hr1 : 1 ≤ yr) (sz : Nat) : Met l y_M_inner w_M_inner (rmR 0) (PW D [(cI, .int), (cZ, .boolean)] (wM u cI cZ gS gK gI gO gF gE gQ yt yn yr ym yd yk yb yc) sz [.ref (u 0)]) (QR (some (.int (nI (yr - 1))))) 0 0 (fun _ => False) := by
  refine Met.ofW (cc := b_M_inner) (maxL := 1) (ret := (some .int)) (by decide) rfl ?_
  intro p e s m args below meth c s₁ B hml hv
  obtain ⟨rfl, hsz, hP, hK, hD0, hE⟩ := hv
  have hx := B.exec
  have hb := B.bytes
  have hrt := B.returns
  have hts := atoms_spec (ws := w_M_inner) B.pre
  have hw : ∀ w ∈ bw, w.before ([.ref (u 0)]).toArray s = true := fun w h => hts w (List.mem_cons_of_mem _ h)
  have hown : s.vm.findClass "TypeStackModel" = some m.cls := findClass_of_methodNamed B.named
  have hlocks := B.notSynchronized
  subst hsz
  have hD := hD0.self (sz := s.heap.size)
  have hA : ∀ q : Nat, s.heap.size ≤ q → va_A (wM u cI cZ gS gK gI gO gF gE gQ yt yn yr ym yd yk yb yc) s.heap.size q := fun q h => Or.inr h
  have hS : va_S (va_A (wM u cI cZ gS gK gI gO gF gE gQ yt yn yr ym yd yk yb yc) s.heap.size) s.heap s.heap [] := va_S.rf
  have hK0 := hK.sub (tys' := []) [] rfl
  have hl := lv_entry ([.ref (u 0)]) (n := 1) (Nat.le_of_ble_eq_true rfl)
  rw [lg_entry_eq]
  generalize (lg_sl ([.ref (u 0)]) ++ List.replicate (1 - (lg_sl ([.ref (u 0)])).length) Slot.unset).toArray = ls at hl ⊢
  have hl : lv_has ls 1 [(0, .ref (u 0))] := hl
  refine lv_aload_n hx hb d_M_inner_0 rfl (lv_at hl 0 rfl) ?_
  refine va_get (D := D) (ci := 1) (C := RM) (T := FM) (N := 15) (v := .int (nI yr)) hx hb hw inM hown hK hP 0 rfl rfl 8 (by decide) (hw _ kF_M_43) (fun _ h9 => h9) rfl d_M_inner_1 ?_
  refine lv_iconst (v := nI 1) hx hb d_M_inner_4 (by decide) ?_
  refine nw_sub hx hb (by omega) d_M_inner_5 ?_
  exact W.iret hx hb hrt (fun t ht _ => ⟨rfl, ht⟩) (fun q h => nomatch h) d_M_inner_6

set_option maxHeartbeats 4000000 in
set_option maxRecDepth 100000 in
theorem c_M_isList (l : Launch) (D : va_G) (x : Int32) (sz : Nat) : Met l y_M_isList w_M_isList (rmR 0) (PW D [] ([]) sz [.int x]) (QR (some (.int (nI (lok x).toNat)))) 0 0 (fun _ => False) := by
  refine Met.ofW (cc := b_M_isList) (maxL := 2) (ret := (some .boolean)) (by decide) rfl ?_
  intro p e s m args below meth c s₁ B hml hv
  obtain ⟨rfl, hsz, hP, hK, hD0, hE⟩ := hv
  have hx := B.exec
  have hb := B.bytes
  have hrt := B.returns
  have hts := atoms_spec (ws := w_M_isList) B.pre
  have hw : ∀ w ∈ bw, w.before ([.int x]).toArray s = true := fun w h => hts w (List.mem_cons_of_mem _ h)
  have hown : s.vm.findClass "TypeStackModel" = some m.cls := findClass_of_methodNamed B.named
  have hlocks := B.notSynchronized
  subst hsz
  have hD := hD0.self (sz := s.heap.size)
  have hA : ∀ q : Nat, s.heap.size ≤ q → va_A ([]) s.heap.size q := fun q h => Or.inr h
  have hS : va_S (va_A ([]) s.heap.size) s.heap s.heap [] := va_S.rf
  have hK0 := hK.sub (tys' := []) [] rfl
  have hl := lv_entry ([.int x]) (n := 2) (Nat.le_of_ble_eq_true rfl)
  rw [lg_entry_eq]
  generalize (lg_sl ([.int x]) ++ List.replicate (2 - (lg_sl ([.int x])).length) Slot.unset).toArray = ls at hl ⊢
  have hl : lv_has ls 2 [(0, .int x)] := hl
  refine lv_iload_n hx hb d_M_isList_0 rfl (lv_at hl 0 rfl) ?_
  refine lv_if_lt hx hb (tgt := 11) d_M_isList_1 (by decide) (fun h1 => ?_) (fun h1 => ?_)
  · skip
    refine lv_iconst (v := nI 0) hx hb d_M_isList_11 (by decide) ?_
    refine nw_is (y := nI (lok x).toNat) (by rw [lok_lo h1]; rfl) ?_
    exact W.zret hx hb hrt (zn _) (fun t ht _ => ⟨rfl, ht⟩) (fun q h => nomatch h) d_M_isList_12
  · skip
    refine lv_iload_n hx hb d_M_isList_4 rfl (lv_at hl 0 rfl) ?_
    refine lv_sipush (v := nI 15625) hx hb d_M_isList_5 (by decide) ?_
    refine lv_icmp_lt hx hb (tgt := 13) d_M_isList_8 (by decide) (fun h8 => ?_) (fun h8 => ?_)
    · skip
      obtain ⟨j, hj, hxj⟩ := ilt (n := 15625) (by decide) h1 h8
      refine lv_iload_n hx hb d_M_isList_13 rfl (lv_at hl 0 rfl) ?_
      refine nw_is (y := nI j) hxj ?_
      refine lv_istore_n (lv' := [(1, .int (nI j)), (0, .int x)]) hx hb d_M_isList_14 rfl hl (by decide) rfl (fun ls hl => ?_)
      have lo : ∀ (k : Nat) (d : Nat), k ≤ 6 → d < 5 ^ k → okL k d = lok x → ∀ ls : Array Slot, lv_has ls 2 [(1, .int (nI d)), (0, .int x)] → W p l e (headSpec w_M_isList (rmR 0)).room s m ([.int x] : List Value).toArray below meth c s.heap [] 0 0 (MQ below (QR (some (.int (nI (lok x).toNat)))) ([.int x] : List Value).toArray s 0 0 (fun _ => False)) (F0 m 15 ls []) := by
        intro k
        induction k with
        | zero =>
          intro d hk hd hq ls hl
          refine lv_iload_n hx hb d_M_isList_15 rfl (lv_at hl 0 rfl) ?_
          have h5k : d < 2 ^ 31 := Nat.lt_of_lt_of_le hd (five_le hk)
          refine nw_ifle hx hb (tgt := 34) d_M_isList_16 (by decide) (by omega) (fun h16 => ?_) (fun h16 => ?_)
          · skip
            refine lv_iconst (v := nI 1) hx hb d_M_isList_34 (by decide) ?_
            refine nw_is (y := nI (lok x).toNat) (by rw [← hq]; rfl) ?_
            exact W.zret hx hb hrt (zn _) (fun t ht _ => ⟨rfl, ht⟩) (fun q h => nomatch h) d_M_isList_35
          · skip
            exfalso; omega
        | succ k ih =>
          intro d hk hd hq ls hl
          refine lv_iload_n hx hb d_M_isList_15 rfl (lv_at hl 0 rfl) ?_
          have h5k : d < 2 ^ 31 := Nat.lt_of_lt_of_le hd (five_le hk)
          refine nw_ifle hx hb (tgt := 34) d_M_isList_16 (by decide) (by omega) (fun h16 => ?_) (fun h16 => ?_)
          · skip
            refine lv_iconst (v := nI 1) hx hb d_M_isList_34 (by decide) ?_
            refine nw_is (y := nI (lok x).toNat) (by rw [← hq, h16, okL_zero]; rfl) ?_
            exact W.zret hx hb hrt (zn _) (fun t ht _ => ⟨rfl, ht⟩) (fun q h => nomatch h) d_M_isList_35
          · skip
            refine lv_iload_n hx hb d_M_isList_19 rfl (lv_at hl 0 rfl) ?_
            refine lv_iconst (v := nI 5) hx hb d_M_isList_20 (by decide) ?_
            refine nw_rem hx hb (by omega) (by omega) (by omega) d_M_isList_21 ?_
            refine nw_ifne hx hb (tgt := 27) d_M_isList_22 (by decide) (by omega) (fun h22 => ?_) (fun h22 => ?_)
            · skip
              refine lv_iload_n hx hb d_M_isList_27 rfl (lv_at hl 0 rfl) ?_
              refine lv_iconst (v := nI 5) hx hb d_M_isList_28 (by decide) ?_
              refine nw_div hx hb (by omega) (by omega) (by omega) d_M_isList_29 ?_
              refine lv_istore_n (lv' := [(1, .int (nI (d / 5))), (0, .int x)]) hx hb d_M_isList_30 rfl hl (by decide) rfl (fun ls hl => ?_)
              refine lv_goto hx hb d_M_isList_31 (tgt := 15) (by decide) ?_
              refine ih (d / 5) (by omega) (d5 hd) ((okL_succ h16 h22).symm.trans hq) ls ?_
              exact lv_sub hl [0, 1] rfl
            · skip
              refine lv_iconst (v := nI 0) hx hb d_M_isList_25 (by decide) ?_
              refine nw_is (y := nI (lok x).toNat) (by rw [← hq, okL_no h16 h22]; rfl) ?_
              exact W.zret hx hb hrt (zn _) (fun t ht _ => ⟨rfl, ht⟩) (fun q h => nomatch h) d_M_isList_26
      exact lo 6 j (Nat.le_refl _) (by omega) (lok_in h1 h8 hj hxj).symm ls hl
    · skip
      refine lv_iconst (v := nI 0) hx hb d_M_isList_11 (by decide) ?_
      refine nw_is (y := nI (lok x).toNat) (by rw [lok_hi h8]; rfl) ?_
      exact W.zret hx hb hrt (zn _) (fun t ht _ => ⟨rfl, ht⟩) (fun q h => nomatch h) d_M_isList_12

set_option maxHeartbeats 4000000 in
set_option maxRecDepth 100000 in
theorem c_M_length (l : Launch) (D : va_G) (x : Nat) (hx0 : x < 15625) (sz : Nat) : Met l y_M_length w_M_length (rmR 0) (PW D [] ([]) sz [.int (nI x)]) (QR (some (.int (nI (szL 6 x))))) 0 0 (fun _ => False) := by
  refine Met.ofW (cc := b_M_length) (maxL := 3) (ret := (some .int)) (by decide) rfl ?_
  intro p e s m args below meth c s₁ B hml hv
  obtain ⟨rfl, hsz, hP, hK, hD0, hE⟩ := hv
  have hx := B.exec
  have hb := B.bytes
  have hrt := B.returns
  have hts := atoms_spec (ws := w_M_length) B.pre
  have hw : ∀ w ∈ bw, w.before ([.int (nI x)]).toArray s = true := fun w h => hts w (List.mem_cons_of_mem _ h)
  have hown : s.vm.findClass "TypeStackModel" = some m.cls := findClass_of_methodNamed B.named
  have hlocks := B.notSynchronized
  subst hsz
  have hD := hD0.self (sz := s.heap.size)
  have hA : ∀ q : Nat, s.heap.size ≤ q → va_A ([]) s.heap.size q := fun q h => Or.inr h
  have hS : va_S (va_A ([]) s.heap.size) s.heap s.heap [] := va_S.rf
  have hK0 := hK.sub (tys' := []) [] rfl
  have hl := lv_entry ([.int (nI x)]) (n := 3) (Nat.le_of_ble_eq_true rfl)
  rw [lg_entry_eq]
  generalize (lg_sl ([.int (nI x)]) ++ List.replicate (3 - (lg_sl ([.int (nI x)])).length) Slot.unset).toArray = ls at hl ⊢
  have hl : lv_has ls 3 [(0, .int (nI x))] := hl
  refine lv_iconst (v := nI 0) hx hb d_M_length_0 (by decide) ?_
  refine lv_istore_n (lv' := [(1, .int (nI 0)), (0, .int (nI x))]) hx hb d_M_length_1 rfl hl (by decide) rfl (fun ls hl => ?_)
  refine lv_iload_n hx hb d_M_length_2 rfl (lv_at hl 1 rfl) ?_
  refine lv_istore_n (lv' := [(2, .int (nI x)), (1, .int (nI 0)), (0, .int (nI x))]) hx hb d_M_length_3 rfl hl (by decide) rfl (fun ls hl => ?_)
  have lo : ∀ (k : Nat) (a d : Nat), k ≤ 6 → d < 5 ^ k → a + szL k d = szL 6 x → ∀ ls : Array Slot, lv_has ls 3 [(2, .int (nI d)), (1, .int (nI a)), (0, .int (nI x))] → W p l e (headSpec w_M_length (rmR 0)).room s m ([.int (nI x)] : List Value).toArray below meth c s.heap [] 0 0 (MQ below (QR (some (.int (nI (szL 6 x))))) ([.int (nI x)] : List Value).toArray s 0 0 (fun _ => False)) (F0 m 4 ls []) := by
    intro k
    induction k with
    | zero =>
      intro a d hk hd hq ls hl
      refine lv_iload_n hx hb d_M_length_4 rfl (lv_at hl 0 rfl) ?_
      have h5k : d < 2 ^ 31 := Nat.lt_of_lt_of_le hd (five_le hk)
      refine nw_ifle hx hb (tgt := 18) d_M_length_5 (by decide) (by omega) (fun h5 => ?_) (fun h5 => ?_)
      · skip
        refine lv_iload_n hx hb d_M_length_18 rfl (lv_at hl 1 rfl) ?_
        refine nw_is (y := nI (szL 6 x)) (by rw [← hq]; rfl) ?_
        exact W.iret hx hb hrt (fun t ht _ => ⟨rfl, ht⟩) (fun q h => nomatch h) d_M_length_19
      · skip
        exfalso; omega
    | succ k ih =>
      intro a d hk hd hq ls hl
      refine lv_iload_n hx hb d_M_length_4 rfl (lv_at hl 0 rfl) ?_
      have h5k : d < 2 ^ 31 := Nat.lt_of_lt_of_le hd (five_le hk)
      refine nw_ifle hx hb (tgt := 18) d_M_length_5 (by decide) (by omega) (fun h5 => ?_) (fun h5 => ?_)
      · skip
        refine lv_iload_n hx hb d_M_length_18 rfl (lv_at hl 1 rfl) ?_
        refine nw_is (y := nI (szL 6 x)) (by rw [← hq, h5, szL_zero]; rfl) ?_
        exact W.iret hx hb hrt (fun t ht _ => ⟨rfl, ht⟩) (fun q h => nomatch h) d_M_length_19
      · skip
        refine lv_iinc (k := 1) (v := nI (a + 1)) (lv' := [(1, .int (nI (a + 1))), (2, .int (nI d)), (0, .int (nI x))]) hx hb d_M_length_8 hl rfl (by rw [show Int32.ofInt 1 = nI 1 from rfl, nI_add]) (by decide) rfl (fun ls hl => ?_)
        refine lv_iload_n hx hb d_M_length_11 rfl (lv_at hl 1 rfl) ?_
        refine lv_iconst (v := nI 5) hx hb d_M_length_12 (by decide) ?_
        refine nw_div hx hb (by omega) (by omega) (by omega) d_M_length_13 ?_
        refine lv_istore_n (lv' := [(2, .int (nI (d / 5))), (1, .int (nI (a + 1))), (0, .int (nI x))]) hx hb d_M_length_14 rfl hl (by decide) rfl (fun ls hl => ?_)
        refine lv_goto hx hb d_M_length_15 (tgt := 4) (by decide) ?_
        refine ih (a + 1) (d / 5) (by omega) (d5 hd) (by rw [← hq, szL_succ h5]; omega) ls ?_
        exact lv_sub hl [0, 1, 2] rfl
  exact lo 6 0 x (Nat.le_refl _) (by omega) (Nat.zero_add _) ls hl

set_option maxHeartbeats 4000000 in
set_option maxRecDepth 100000 in
theorem c_M_keep (l : Launch) (D : va_G) (u : Nat → Nat) (cI cZ : ClassId) (gS gK gI gO gF gE gQ : Nat → Nat) (yt yn yr ym yd yk yb yc : Nat) (hn : yn ≤ 400) (sz : Nat) : Met l y_M_keep w_M_keep (rmR 0) (PW D [(cI, .int), (cZ, .boolean)] (wM u cI cZ gS gK gI gO gF gE gQ yt yn yr ym yd yk yb yc) sz [.ref (u 0)]) (QW D [(cI, .int), (cZ, .boolean)] (wM u cI cZ gS gK gI gO gF gE gQ yt yn yr ym yd yk yb yc) (wM u cI cZ gS gK gI gO gF gE (cpn gQ gS yn) yt yn yr ym yd yn 0 yc) sz (none)) 0 0 (va_A (wM u cI cZ gS gK gI gO gF gE gQ yt yn yr ym yd yk yb yc) sz) := by
  refine Met.ofW (cc := b_M_keep) (maxL := 2) (ret := none) (by decide) rfl ?_
  intro p e s m args below meth c s₁ B hml hv
  obtain ⟨rfl, hsz, hP, hK, hD0, hE⟩ := hv
  have hx := B.exec
  have hb := B.bytes
  have hrt := B.returns
  have hts := atoms_spec (ws := w_M_keep) B.pre
  have hw : ∀ w ∈ bw, w.before ([.ref (u 0)]).toArray s = true := fun w h => hts w (List.mem_cons_of_mem _ h)
  have hown : s.vm.findClass "TypeStackModel" = some m.cls := findClass_of_methodNamed B.named
  have hlocks := B.notSynchronized
  subst hsz
  have hD := hD0.self (sz := s.heap.size)
  have hA : ∀ q : Nat, s.heap.size ≤ q → va_A (wM u cI cZ gS gK gI gO gF gE gQ yt yn yr ym yd yk yb yc) s.heap.size q := fun q h => Or.inr h
  have hS : va_S (va_A (wM u cI cZ gS gK gI gO gF gE gQ yt yn yr ym yd yk yb yc) s.heap.size) s.heap s.heap [] := va_S.rf
  have hK0 := hK.sub (tys' := []) [] rfl
  skip
  have hl := lv_entry ([.ref (u 0)]) (n := 2) (Nat.le_of_ble_eq_true rfl)
  rw [lg_entry_eq]
  generalize (lg_sl ([.ref (u 0)]) ++ List.replicate (2 - (lg_sl ([.ref (u 0)])).length) Slot.unset).toArray = ls at hl ⊢
  have hl : lv_has ls 2 [(0, .ref (u 0))] := hl
  refine lv_aload_n hx hb d_M_keep_0 rfl (lv_at hl 0 rfl) ?_
  refine lv_aload_n hx hb d_M_keep_1 rfl (lv_at hl 0 rfl) ?_
  refine va_get (D := D) (ci := 1) (C := RM) (T := FM) (N := 15) (v := .int (nI yn)) hx hb hw inM hown hK hP 0 rfl rfl 7 (by decide) (hw _ kF_M_40) (fun _ h9 => h9) rfl d_M_keep_2 ?_
  refine va_put (D := D) (ci := 1) (C := RM) (T := FM) (N := 15) (v := .int (nI yn)) (ty := .int) hx hb hw inM tM tM_ok nM hown hK hP hD hS 0 rfl rfl 12 (by decide) (hw _ kF_M_52) (fun _ h9 => h9) rfl (by decide +kernel) rfl rfl (Nat.le_of_ble_eq_true rfl) d_M_keep_5 (fun H locs hP hD hS => ?_)
  have hP : va_P D cls2 (wM u cI cZ gS gK gI gO gF gE gQ yt yn yr ym yd yn yb yc) H := hP
  have hD : va_D (va_A (wM u cI cZ gS gK gI gO gF gE gQ yt yn yr ym yd yk yb yc) s.heap.size) (wM u cI cZ gS gK gI gO gF gE gQ yt yn yr ym yd yn yb yc) := hD
  refine lv_iconst (v := nI 0) hx hb d_M_keep_8 (by decide) ?_
  refine lv_istore_n (lv' := [(1, .int (nI 0)), (0, .ref (u 0))]) hx hb d_M_keep_9 rfl hl (by decide) rfl (fun ls hl => ?_)
  have lo : ∀ (k : Nat) (f : Nat → Nat) (H : Heap) (locs : List Loc), k ≤ yn → cpk f gS yn k = cpn gQ gS yn → va_P D cls2 (wM u cI cZ gS gK gI gO gF gE f yt yn yr ym yd yn yb yc) H → va_D (va_A (wM u cI cZ gS gK gI gO gF gE gQ yt yn yr ym yd yk yb yc) s.heap.size) (wM u cI cZ gS gK gI gO gF gE f yt yn yr ym yd yn yb yc) → va_S (va_A (wM u cI cZ gS gK gI gO gF gE gQ yt yn yr ym yd yk yb yc) s.heap.size) s.heap H locs → ∀ ls : Array Slot, lv_has ls 2 [(1, .int (nI (yn - k))), (0, .ref (u 0))] → W p l e (headSpec w_M_keep (rmR 0)).room s m ([.ref (u 0)] : List Value).toArray below meth c H locs 0 0 (MQ below (QW D [(cI, .int), (cZ, .boolean)] (wM u cI cZ gS gK gI gO gF gE gQ yt yn yr ym yd yk yb yc) (wM u cI cZ gS gK gI gO gF gE (cpn gQ gS yn) yt yn yr ym yd yn 0 yc) s.heap.size (none)) ([.ref (u 0)] : List Value).toArray s 0 0 (va_A (wM u cI cZ gS gK gI gO gF gE gQ yt yn yr ym yd yk yb yc) s.heap.size)) (F0 m 10 ls []) := by
    intro k
    induction k with
    | zero =>
      intro f H locs hk hq hP hD hS ls hl
      refine lv_iload_n hx hb d_M_keep_10 rfl (lv_at hl 0 rfl) ?_
      refine lv_aload_n hx hb d_M_keep_11 rfl (lv_at hl 1 rfl) ?_
      refine va_get (D := D) (ci := 1) (C := RM) (T := FM) (N := 15) (v := .int (nI yn)) hx hb hw inM hown hK hP 0 rfl rfl 7 (by decide) (hw _ kF_M_40) (fun _ h9 => h9) rfl d_M_keep_12 ?_
      refine nw_ge hx hb (tgt := 36) d_M_keep_15 (by decide) (by omega) (by omega) (fun h15 => ?_) (fun h15 => ?_)
      · skip
        refine lv_aload_n hx hb d_M_keep_36 rfl (lv_at hl 1 rfl) ?_
        refine lv_iconst (v := nI 0) hx hb d_M_keep_37 (by decide) ?_
        refine va_put (D := D) (ci := 1) (C := RM) (T := FM) (N := 15) (v := .int (nI 0)) (ty := .boolean) hx hb hw inM tM tM_ok nM hown hK hP hD hS 0 rfl rfl 13 (by decide) (hw _ kF_M_55) (fun _ h9 => h9) rfl (by decide +kernel) rfl rfl (Nat.le_of_ble_eq_true rfl) d_M_keep_38 (fun H locs hP hD hS => ?_)
        have hP : va_P D cls2 (wM u cI cZ gS gK gI gO gF gE f yt yn yr ym yd yn 0 yc) H := hP
        have hD : va_D (va_A (wM u cI cZ gS gK gI gO gF gE gQ yt yn yr ym yd yk yb yc) s.heap.size) (wM u cI cZ gS gK gI gO gF gE f yt yn yr ym yd yn 0 yc) := hD
        have hP : va_P D cls2 (wM u cI cZ gS gK gI gO gF gE (cpn gQ gS yn) yt yn yr ym yd yn 0 yc) H := by rw [← hq]; exact hP
        have hD : va_D (va_A (wM u cI cZ gS gK gI gO gF gE gQ yt yn yr ym yd yk yb yc) s.heap.size) (wM u cI cZ gS gK gI gO gF gE (cpn gQ gS yn) yt yn yr ym yd yn 0 yc) := by rw [← hq]; exact hD
        exact W.vret hx hb hrt (fun t ht _ => ⟨⟨rfl, by rw [ht]; exact hP, hD⟩, hS.F ht⟩) hS.2.2 d_M_keep_41
      · skip
        exfalso; omega
    | succ k ih =>
      intro f H locs hk hq hP hD hS ls hl
      refine lv_iload_n hx hb d_M_keep_10 rfl (lv_at hl 0 rfl) ?_
      refine lv_aload_n hx hb d_M_keep_11 rfl (lv_at hl 1 rfl) ?_
      refine va_get (D := D) (ci := 1) (C := RM) (T := FM) (N := 15) (v := .int (nI yn)) hx hb hw inM hown hK hP 0 rfl rfl 7 (by decide) (hw _ kF_M_40) (fun _ h9 => h9) rfl d_M_keep_12 ?_
      refine nw_ge hx hb (tgt := 36) d_M_keep_15 (by decide) (by omega) (by omega) (fun h15 => ?_) (fun h15 => ?_)
      · skip
        exfalso; omega
      · skip
        refine lv_aload_n hx hb d_M_keep_18 rfl (lv_at hl 1 rfl) ?_
        refine va_get (D := D) (ci := 1) (C := RM) (T := FM) (N := 15) (v := .ref (u 7)) hx hb hw inM hown hK hP 0 rfl rfl 11 (by decide) (hw _ kF_M_29) (fun _ h9 => h9) rfl d_M_keep_19 ?_
        refine lv_iload_n hx hb d_M_keep_22 rfl (lv_at hl 0 rfl) ?_
        refine lv_aload_n hx hb d_M_keep_23 rfl (lv_at hl 1 rfl) ?_
        refine va_get (D := D) (ci := 1) (C := RM) (T := FM) (N := 15) (v := .ref (u 1)) hx hb hw inM hown hK hP 0 rfl rfl 1 (by decide) (hw _ kF_M_9) (fun _ h9 => h9) rfl d_M_keep_24 ?_
        refine lv_iload_n hx hb d_M_keep_27 rfl (lv_at hl 0 rfl) ?_
        refine nw_iald hx hb hK hP 1 0 rfl rfl (k := yn - (k + 1)) (by omega) (by decide) d_M_keep_28 ?_
        refine nw_iast hx hb hK hP hD hS 7 0 rfl rfl (k := yn - (k + 1)) (x := gS (yn - (k + 1))) (by omega) (by decide) d_M_keep_29 (fun H locs hP hD hS => ?_)
        have hP : va_P D cls2 (wM u cI cZ gS gK gI gO gF gE (va_up f (yn - (k + 1)) (gS (yn - (k + 1)))) yt yn yr ym yd yn yb yc) H := hP
        have hD : va_D (va_A (wM u cI cZ gS gK gI gO gF gE gQ yt yn yr ym yd yk yb yc) s.heap.size) (wM u cI cZ gS gK gI gO gF gE (va_up f (yn - (k + 1)) (gS (yn - (k + 1)))) yt yn yr ym yd yn yb yc) := hD
        refine lv_iinc (k := 0) (v := nI (yn - (k + 1) + 1)) (lv' := [(1, .int (nI (yn - (k + 1) + 1))), (0, .ref (u 0))]) hx hb d_M_keep_30 hl rfl (by rw [show Int32.ofInt 1 = nI 1 from rfl, nI_add]) (by decide) rfl (fun ls hl => ?_)
        refine lv_goto hx hb d_M_keep_33 (tgt := 10) (by decide) ?_
        refine ih (va_up f (yn - (k + 1)) (gS (yn - (k + 1)))) H locs (by omega) hq hP hD hS ls ?_
        rw [show yn - k = yn - (k + 1) + 1 by omega]; exact lv_sub hl [0, 1] rfl
  exact lo yn gQ H locs (Nat.le_refl _) (cpk_all gQ gS yn) hP hD hS ls (by rw [Nat.sub_self]; exact hl)

set_option maxHeartbeats 4000000 in
set_option maxRecDepth 100000 in
theorem c_M_undo (l : Launch) (D : va_G) (u : Nat → Nat) (cI cZ : ClassId) (gS gK gI gO gF gE gQ : Nat → Nat) (yt yn yr ym yd yk yb yc : Nat) (a : Nat) (hn : yk ≤ 400) (sz : Nat) : Met l y_M_undo w_M_undo (rmR 0) (PW D [(cI, .int), (cZ, .boolean)] (wM u cI cZ gS gK gI gO gF gE gQ yt yn yr ym yd yk yb yc) sz [.ref (u 0), .int (nI a)]) (QW D [(cI, .int), (cZ, .boolean)] (wM u cI cZ gS gK gI gO gF gE gQ yt yn yr ym yd yk yb yc) (wM u cI cZ (cpn gS gQ yk) gK gI gO gF gE gQ a yk yr ym yd yk yb yc) sz (some (.int (nI 0)))) 0 0 (va_A (wM u cI cZ gS gK gI gO gF gE gQ yt yn yr ym yd yk yb yc) sz) := by
  refine Met.ofW (cc := b_M_undo) (maxL := 3) (ret := (some .int)) (by decide) rfl ?_
  intro p e s m args below meth c s₁ B hml hv
  obtain ⟨rfl, hsz, hP, hK, hD0, hE⟩ := hv
  have hx := B.exec
  have hb := B.bytes
  have hrt := B.returns
  have hts := atoms_spec (ws := w_M_undo) B.pre
  have hw : ∀ w ∈ bw, w.before ([.ref (u 0), .int (nI a)]).toArray s = true := fun w h => hts w (List.mem_cons_of_mem _ h)
  have hown : s.vm.findClass "TypeStackModel" = some m.cls := findClass_of_methodNamed B.named
  have hlocks := B.notSynchronized
  subst hsz
  have hD := hD0.self (sz := s.heap.size)
  have hA : ∀ q : Nat, s.heap.size ≤ q → va_A (wM u cI cZ gS gK gI gO gF gE gQ yt yn yr ym yd yk yb yc) s.heap.size q := fun q h => Or.inr h
  have hS : va_S (va_A (wM u cI cZ gS gK gI gO gF gE gQ yt yn yr ym yd yk yb yc) s.heap.size) s.heap s.heap [] := va_S.rf
  have hK0 := hK.sub (tys' := []) [] rfl
  skip
  have hl := lv_entry ([.ref (u 0), .int (nI a)]) (n := 3) (Nat.le_of_ble_eq_true rfl)
  rw [lg_entry_eq]
  generalize (lg_sl ([.ref (u 0), .int (nI a)]) ++ List.replicate (3 - (lg_sl ([.ref (u 0), .int (nI a)])).length) Slot.unset).toArray = ls at hl ⊢
  have hl : lv_has ls 3 [(0, .ref (u 0)), (1, .int (nI a))] := hl
  refine lv_aload_n hx hb d_M_undo_0 rfl (lv_at hl 0 rfl) ?_
  refine lv_aload_n hx hb d_M_undo_1 rfl (lv_at hl 0 rfl) ?_
  refine va_get (D := D) (ci := 1) (C := RM) (T := FM) (N := 15) (v := .int (nI yk)) hx hb hw inM hown hK hP 0 rfl rfl 12 (by decide) (hw _ kF_M_52) (fun _ h9 => h9) rfl d_M_undo_2 ?_
  refine va_put (D := D) (ci := 1) (C := RM) (T := FM) (N := 15) (v := .int (nI yk)) (ty := .int) hx hb hw inM tM tM_ok nM hown hK hP hD hS 0 rfl rfl 7 (by decide) (hw _ kF_M_40) (fun _ h9 => h9) rfl (by decide +kernel) rfl rfl (Nat.le_of_ble_eq_true rfl) d_M_undo_5 (fun H locs hP hD hS => ?_)
  have hP : va_P D cls2 (wM u cI cZ gS gK gI gO gF gE gQ yt yk yr ym yd yk yb yc) H := hP
  have hD : va_D (va_A (wM u cI cZ gS gK gI gO gF gE gQ yt yn yr ym yd yk yb yc) s.heap.size) (wM u cI cZ gS gK gI gO gF gE gQ yt yk yr ym yd yk yb yc) := hD
  refine lv_iconst (v := nI 0) hx hb d_M_undo_8 (by decide) ?_
  refine lv_istore_n (lv' := [(2, .int (nI 0)), (0, .ref (u 0)), (1, .int (nI a))]) hx hb d_M_undo_9 rfl hl (by decide) rfl (fun ls hl => ?_)
  have lo : ∀ (k : Nat) (f : Nat → Nat) (H : Heap) (locs : List Loc), k ≤ yk → cpk f gQ yk k = cpn gS gQ yk → va_P D cls2 (wM u cI cZ f gK gI gO gF gE gQ yt yk yr ym yd yk yb yc) H → va_D (va_A (wM u cI cZ gS gK gI gO gF gE gQ yt yn yr ym yd yk yb yc) s.heap.size) (wM u cI cZ f gK gI gO gF gE gQ yt yk yr ym yd yk yb yc) → va_S (va_A (wM u cI cZ gS gK gI gO gF gE gQ yt yn yr ym yd yk yb yc) s.heap.size) s.heap H locs → ∀ ls : Array Slot, lv_has ls 3 [(2, .int (nI (yk - k))), (0, .ref (u 0)), (1, .int (nI a))] → W p l e (headSpec w_M_undo (rmR 0)).room s m ([.ref (u 0), .int (nI a)] : List Value).toArray below meth c H locs 0 0 (MQ below (QW D [(cI, .int), (cZ, .boolean)] (wM u cI cZ gS gK gI gO gF gE gQ yt yn yr ym yd yk yb yc) (wM u cI cZ (cpn gS gQ yk) gK gI gO gF gE gQ a yk yr ym yd yk yb yc) s.heap.size (some (.int (nI 0)))) ([.ref (u 0), .int (nI a)] : List Value).toArray s 0 0 (va_A (wM u cI cZ gS gK gI gO gF gE gQ yt yn yr ym yd yk yb yc) s.heap.size)) (F0 m 10 ls []) := by
    intro k
    induction k with
    | zero =>
      intro f H locs hk hq hP hD hS ls hl
      refine lv_iload_n hx hb d_M_undo_10 rfl (lv_at hl 0 rfl) ?_
      refine lv_aload_n hx hb d_M_undo_11 rfl (lv_at hl 1 rfl) ?_
      refine va_get (D := D) (ci := 1) (C := RM) (T := FM) (N := 15) (v := .int (nI yk)) hx hb hw inM hown hK hP 0 rfl rfl 7 (by decide) (hw _ kF_M_40) (fun _ h9 => h9) rfl d_M_undo_12 ?_
      refine nw_ge hx hb (tgt := 36) d_M_undo_15 (by decide) (by omega) (by omega) (fun h15 => ?_) (fun h15 => ?_)
      · skip
        refine lv_aload_n hx hb d_M_undo_36 rfl (lv_at hl 1 rfl) ?_
        refine lv_iload_n hx hb d_M_undo_37 rfl (lv_at hl 2 rfl) ?_
        refine va_put (D := D) (ci := 1) (C := RM) (T := FM) (N := 15) (v := .int (nI a)) (ty := .int) hx hb hw inM tM tM_ok nM hown hK hP hD hS 0 rfl rfl 0 (by decide) (hw _ kF_M_36) (fun _ h9 => h9) rfl (by decide +kernel) rfl rfl (Nat.le_of_ble_eq_true rfl) d_M_undo_38 (fun H locs hP hD hS => ?_)
        have hP : va_P D cls2 (wM u cI cZ f gK gI gO gF gE gQ a yk yr ym yd yk yb yc) H := hP
        have hD : va_D (va_A (wM u cI cZ gS gK gI gO gF gE gQ yt yn yr ym yd yk yb yc) s.heap.size) (wM u cI cZ f gK gI gO gF gE gQ a yk yr ym yd yk yb yc) := hD
        refine lv_iconst (v := nI 0) hx hb d_M_undo_41 (by decide) ?_
        have hP : va_P D cls2 (wM u cI cZ (cpn gS gQ yk) gK gI gO gF gE gQ a yk yr ym yd yk yb yc) H := by rw [← hq]; exact hP
        have hD : va_D (va_A (wM u cI cZ gS gK gI gO gF gE gQ yt yn yr ym yd yk yb yc) s.heap.size) (wM u cI cZ (cpn gS gQ yk) gK gI gO gF gE gQ a yk yr ym yd yk yb yc) := by rw [← hq]; exact hD
        exact W.iret hx hb hrt (fun t ht _ => ⟨⟨rfl, by rw [ht]; exact hP, hD⟩, hS.F ht⟩) hS.2.2 d_M_undo_42
      · skip
        exfalso; omega
    | succ k ih =>
      intro f H locs hk hq hP hD hS ls hl
      refine lv_iload_n hx hb d_M_undo_10 rfl (lv_at hl 0 rfl) ?_
      refine lv_aload_n hx hb d_M_undo_11 rfl (lv_at hl 1 rfl) ?_
      refine va_get (D := D) (ci := 1) (C := RM) (T := FM) (N := 15) (v := .int (nI yk)) hx hb hw inM hown hK hP 0 rfl rfl 7 (by decide) (hw _ kF_M_40) (fun _ h9 => h9) rfl d_M_undo_12 ?_
      refine nw_ge hx hb (tgt := 36) d_M_undo_15 (by decide) (by omega) (by omega) (fun h15 => ?_) (fun h15 => ?_)
      · skip
        exfalso; omega
      · skip
        refine lv_aload_n hx hb d_M_undo_18 rfl (lv_at hl 1 rfl) ?_
        refine va_get (D := D) (ci := 1) (C := RM) (T := FM) (N := 15) (v := .ref (u 1)) hx hb hw inM hown hK hP 0 rfl rfl 1 (by decide) (hw _ kF_M_9) (fun _ h9 => h9) rfl d_M_undo_19 ?_
        refine lv_iload_n hx hb d_M_undo_22 rfl (lv_at hl 0 rfl) ?_
        refine lv_aload_n hx hb d_M_undo_23 rfl (lv_at hl 1 rfl) ?_
        refine va_get (D := D) (ci := 1) (C := RM) (T := FM) (N := 15) (v := .ref (u 7)) hx hb hw inM hown hK hP 0 rfl rfl 11 (by decide) (hw _ kF_M_29) (fun _ h9 => h9) rfl d_M_undo_24 ?_
        refine lv_iload_n hx hb d_M_undo_27 rfl (lv_at hl 0 rfl) ?_
        refine nw_iald hx hb hK hP 7 0 rfl rfl (k := yk - (k + 1)) (by omega) (by decide) d_M_undo_28 ?_
        refine nw_iast hx hb hK hP hD hS 1 0 rfl rfl (k := yk - (k + 1)) (x := gQ (yk - (k + 1))) (by omega) (by decide) d_M_undo_29 (fun H locs hP hD hS => ?_)
        have hP : va_P D cls2 (wM u cI cZ (va_up f (yk - (k + 1)) (gQ (yk - (k + 1)))) gK gI gO gF gE gQ yt yk yr ym yd yk yb yc) H := hP
        have hD : va_D (va_A (wM u cI cZ gS gK gI gO gF gE gQ yt yn yr ym yd yk yb yc) s.heap.size) (wM u cI cZ (va_up f (yk - (k + 1)) (gQ (yk - (k + 1)))) gK gI gO gF gE gQ yt yk yr ym yd yk yb yc) := hD
        refine lv_iinc (k := 0) (v := nI (yk - (k + 1) + 1)) (lv' := [(2, .int (nI (yk - (k + 1) + 1))), (0, .ref (u 0)), (1, .int (nI a))]) hx hb d_M_undo_30 hl rfl (by rw [show Int32.ofInt 1 = nI 1 from rfl, nI_add]) (by decide) rfl (fun ls hl => ?_)
        refine lv_goto hx hb d_M_undo_33 (tgt := 10) (by decide) ?_
        refine ih (va_up f (yk - (k + 1)) (gQ (yk - (k + 1)))) H locs (by omega) hq hP hD hS ls ?_
        rw [show yk - k = yk - (k + 1) + 1 by omega]; exact lv_sub hl [0, 1, 2] rfl
  exact lo yk gS H locs (Nat.le_refl _) (cpk_all gS gQ yk) hP hD hS ls (by rw [Nat.sub_self]; exact hl)

set_option maxHeartbeats 4000000 in
set_option maxRecDepth 100000 in
theorem c_M_well (l : Launch) (D : va_G) (u : Nat → Nat) (cI cZ : ClassId) (gS gK gI gO gF gE gQ : Nat → Nat) (yt yn yr ym yd yk yb yc : Nat) (hn : yn < 2 ^ 31) (hm : ym < 2 ^ 31) (sz : Nat) : Met l y_M_well w_M_well (rmR 1) (PW D [(cI, .int), (cZ, .boolean)] (wM u cI cZ gS gK gI gO gF gE gQ yt yn yr ym yd yk yb yc) sz [.ref (u 0)]) (QW D [(cI, .int), (cZ, .boolean)] (wM u cI cZ gS gK gI gO gF gE gQ yt yn yr ym yd yk yb yc) (wM u cI cZ gS gK gI gO gF gE gQ yt yn yr (max ym yn) (yd + 1) yk yb yc) sz (none)) 0 0 (va_A (wM u cI cZ gS gK gI gO gF gE gQ yt yn yr ym yd yk yb yc) sz) := by
  refine Met.ofW (cc := b_M_well) (maxL := 1) (ret := none) (by decide) rfl ?_
  intro p e s m args below meth c s₁ B hml hv
  obtain ⟨rfl, hsz, hP, hK, hD0, hE⟩ := hv
  have hx := B.exec
  have hb := B.bytes
  have hrt := B.returns
  have hts := atoms_spec (ws := w_M_well) B.pre
  have hw : ∀ w ∈ bw, w.before ([.ref (u 0)]).toArray s = true := fun w h => hts w (List.mem_cons_of_mem _ h)
  have hown : s.vm.findClass "TypeStackModel" = some m.cls := findClass_of_methodNamed B.named
  have hlocks := B.notSynchronized
  subst hsz
  have hD := hD0.self (sz := s.heap.size)
  have hA : ∀ q : Nat, s.heap.size ≤ q → va_A (wM u cI cZ gS gK gI gO gF gE gQ yt yn yr ym yd yk yb yc) s.heap.size q := fun q h => Or.inr h
  have hS : va_S (va_A (wM u cI cZ gS gK gI gO gF gE gQ yt yn yr ym yd yk yb yc) s.heap.size) s.heap s.heap [] := va_S.rf
  have hK0 := hK.sub (tys' := []) [] rfl
  skip
  have hl := lv_entry ([.ref (u 0)]) (n := 1) (Nat.le_of_ble_eq_true rfl)
  rw [lg_entry_eq]
  generalize (lg_sl ([.ref (u 0)]) ++ List.replicate (1 - (lg_sl ([.ref (u 0)])).length) Slot.unset).toArray = ls at hl ⊢
  have hl : lv_has ls 1 [(0, .ref (u 0))] := hl
  refine lv_aload_n hx hb d_M_well_0 rfl (lv_at hl 0 rfl) ?_
  refine lv_dup hx hb d_M_well_1 rfl ?_
  refine va_get (D := D) (ci := 1) (C := RM) (T := FM) (N := 15) (v := .int (nI yd)) hx hb hw inM hown hK hP 0 rfl rfl 10 (by decide) (hw _ kF_M_49) (fun _ h9 => h9) rfl d_M_well_2 ?_
  refine lv_iconst (v := nI 1) hx hb d_M_well_5 (by decide) ?_
  refine nw_add hx hb d_M_well_6 ?_
  refine va_put (D := D) (ci := 1) (C := RM) (T := FM) (N := 15) (v := .int (nI (yd + 1))) (ty := .int) hx hb hw inM tM tM_ok nM hown hK hP hD hS 0 rfl rfl 10 (by decide) (hw _ kF_M_49) (fun _ h9 => h9) rfl (by decide +kernel) rfl rfl (Nat.le_of_ble_eq_true rfl) d_M_well_7 (fun H locs hP hD hS => ?_)
  have hP : va_P D cls2 (wM u cI cZ gS gK gI gO gF gE gQ yt yn yr ym (yd + 1) yk yb yc) H := hP
  have hD : va_D (va_A (wM u cI cZ gS gK gI gO gF gE gQ yt yn yr ym yd yk yb yc) s.heap.size) (wM u cI cZ gS gK gI gO gF gE gQ yt yn yr ym (yd + 1) yk yb yc) := hD
  refine lv_aload_n hx hb d_M_well_10 rfl (lv_at hl 0 rfl) ?_
  refine lv_aload_n hx hb d_M_well_11 rfl (lv_at hl 0 rfl) ?_
  refine va_get (D := D) (ci := 1) (C := RM) (T := FM) (N := 15) (v := .int (nI ym)) hx hb hw inM hown hK hP 0 rfl rfl 9 (by decide) (hw _ kF_M_46) (fun _ h9 => h9) rfl d_M_well_12 ?_
  refine lv_aload_n hx hb d_M_well_15 rfl (lv_at hl 0 rfl) ?_
  refine va_get (D := D) (ci := 1) (C := RM) (T := FM) (N := 15) (v := .int (nI yn)) hx hb hw inM hown hK hP 0 rfl rfl 7 (by decide) (hw _ kF_M_40) (fun _ h9 => h9) rfl d_M_well_16 ?_
  refine va_mmax hx hb (hml.trans hl.1.symm) hown (hw _ kL_M_59) (hw _ kS_max) (hw _ kN_Math) (hw _ kW_max) (by first | decide | exact Nat.le_of_ble_eq_true rfl) (by first | decide | exact Nat.le_of_ble_eq_true rfl) (by first | decide | exact Nat.le_of_ble_eq_true rfl) (by first | decide | exact Nat.le_of_ble_eq_true rfl) d_M_well_19 ?_
  refine nw_is (y := nI (max ym yn)) (nmax (by omega) (by omega)) ?_
  refine va_put (D := D) (ci := 1) (C := RM) (T := FM) (N := 15) (v := .int (nI (max ym yn))) (ty := .int) hx hb hw inM tM tM_ok nM hown hK hP hD hS 0 rfl rfl 9 (by decide) (hw _ kF_M_46) (fun _ h9 => h9) rfl (by decide +kernel) rfl rfl (Nat.le_of_ble_eq_true rfl) d_M_well_22 (fun H locs hP hD hS => ?_)
  have hP : va_P D cls2 (wM u cI cZ gS gK gI gO gF gE gQ yt yn yr (max ym yn) (yd + 1) yk yb yc) H := hP
  have hD : va_D (va_A (wM u cI cZ gS gK gI gO gF gE gQ yt yn yr ym yd yk yb yc) s.heap.size) (wM u cI cZ gS gK gI gO gF gE gQ yt yn yr (max ym yn) (yd + 1) yk yb yc) := hD
  have hP : va_P D cls2 (wM u cI cZ gS gK gI gO gF gE gQ yt yn yr (max ym yn) (yd + 1) yk yb yc) H := by exact hP
  have hD : va_D (va_A (wM u cI cZ gS gK gI gO gF gE gQ yt yn yr ym yd yk yb yc) s.heap.size) (wM u cI cZ gS gK gI gO gF gE gQ yt yn yr (max ym yn) (yd + 1) yk yb yc) := by exact hD
  exact W.vret hx hb hrt (fun t ht _ => ⟨⟨rfl, by rw [ht]; exact hP, hD⟩, hS.F ht⟩) hS.2.2 d_M_well_25

set_option maxHeartbeats 4000000 in
set_option maxRecDepth 100000 in
theorem c_M_take (l : Launch) (D : va_G) (u : Nat → Nat) (cI cZ : ClassId) (gS gK gI gO gF gE gQ : Nat → Nat) (yt yn yr ym yd yk yb yc : Nat) (hr1 : 1 ≤ yr) (hr2 : yr ≤ 41) (hn : yn ≤ 400) (giF : ∀ j, gF j ≤ 300) (giE : ∀ j, gE j ≤ 1) (sz : Nat) : Met l y_M_take w_M_take (rmR 1) (PW D [(cI, .int), (cZ, .boolean)] (wM u cI cZ gS gK gI gO gF gE gQ yt yn yr ym yd yk yb yc) sz [.ref (u 0)]) (QW D [(cI, .int), (cZ, .boolean)] (wM u cI cZ gS gK gI gO gF gE gQ yt yn yr ym yd yk yb yc) (wM u cI cZ gS gK gI gO gF gE gQ yt (tkn (gF (yr - 1)) yn) yr ym yd yk (tkb (gF (yr - 1)) (gE (yr - 1)) yn yb) (tk1 (gF (yr - 1)) yn gS)) sz (none)) 0 0 (va_A (wM u cI cZ gS gK gI gO gF gE gQ yt yn yr ym yd yk yb yc) sz) := by
  refine Met.ofW (cc := b_M_take) (maxL := 1) (ret := none) (by decide) rfl ?_
  intro p e s m args below meth c s₁ B hml hv
  obtain ⟨rfl, hsz, hP, hK, hD0, hE⟩ := hv
  have hx := B.exec
  have hb := B.bytes
  have hrt := B.returns
  have hts := atoms_spec (ws := w_M_take) B.pre
  have hw : ∀ w ∈ bw, w.before ([.ref (u 0)]).toArray s = true := fun w h => hts w (List.mem_cons_of_mem _ h)
  have hown : s.vm.findClass "TypeStackModel" = some m.cls := findClass_of_methodNamed B.named
  have hlocks := B.notSynchronized
  subst hsz
  have hD := hD0.self (sz := s.heap.size)
  have hA : ∀ q : Nat, s.heap.size ≤ q → va_A (wM u cI cZ gS gK gI gO gF gE gQ yt yn yr ym yd yk yb yc) s.heap.size q := fun q h => Or.inr h
  have hS : va_S (va_A (wM u cI cZ gS gK gI gO gF gE gQ yt yn yr ym yd yk yb yc) s.heap.size) s.heap s.heap [] := va_S.rf
  have hK0 := hK.sub (tys' := []) [] rfl
  skip
  have hl := lv_entry ([.ref (u 0)]) (n := 1) (Nat.le_of_ble_eq_true rfl)
  rw [lg_entry_eq]
  generalize (lg_sl ([.ref (u 0)]) ++ List.replicate (1 - (lg_sl ([.ref (u 0)])).length) Slot.unset).toArray = ls at hl ⊢
  have hl : lv_has ls 1 [(0, .ref (u 0))] := hl
  refine lv_aload_n hx hb d_M_take_0 rfl (lv_at hl 0 rfl) ?_
  refine lv_iconst (v := nI 0) hx hb d_M_take_1 (by decide) ?_
  refine va_put (D := D) (ci := 1) (C := RM) (T := FM) (N := 15) (v := .int (nI 0)) (ty := .int) hx hb hw inM tM tM_ok nM hown hK hP hD hS 0 rfl rfl 14 (by decide) (hw _ kF_M_65) (fun _ h9 => h9) rfl (by decide +kernel) rfl rfl (Nat.le_of_ble_eq_true rfl) d_M_take_2 (fun H locs hP hD hS => ?_)
  have hP : va_P D cls2 (wM u cI cZ gS gK gI gO gF gE gQ yt yn yr ym yd yk yb 0) H := hP
  have hD : va_D (va_A (wM u cI cZ gS gK gI gO gF gE gQ yt yn yr ym yd yk yb yc) s.heap.size) (wM u cI cZ gS gK gI gO gF gE gQ yt yn yr ym yd yk yb 0) := hD
  refine lv_aload_n hx hb d_M_take_5 rfl (lv_at hl 0 rfl) ?_
  refine va_get (D := D) (ci := 1) (C := RM) (T := FM) (N := 15) (v := .int (nI yn)) hx hb hw inM hown hK hP 0 rfl rfl 7 (by decide) (hw _ kF_M_40) (fun _ h9 => h9) rfl d_M_take_6 ?_
  refine lv_aload_n hx hb d_M_take_9 rfl (lv_at hl 0 rfl) ?_
  refine va_get (D := D) (ci := 1) (C := RM) (T := FM) (N := 15) (v := .ref (u 5)) hx hb hw inM hown hK hP 0 rfl rfl 5 (by decide) (hw _ kF_M_22) (fun _ h9 => h9) rfl d_M_take_10 ?_
  refine lv_aload_n hx hb d_M_take_13 rfl (lv_at hl 0 rfl) ?_
  refine cl_r (v := some (.int (nI (yr - 1)))) (W.runV (b := u 0) (C := "TypeStackModel") (As := []) (rest := [.ref (u 5), .int (nI yn)]) ⟨hx, hb, hml, hown, hw⟩ (c_M_inner l D u cI cZ gS gK gI gO gF gE gQ yt yn yr ym yd yk yb 0 (by omega) H.size) (cwV 0 hw g_M_68 rfl rfl rfl ⟨rfl, by decide, by decide, by decide +kernel⟩ ⟨by decide, by decide⟩) ⟨PW.blind, va_recv (q := (RM, FM, 15)) (ci := 1) (q0 := 0) hK hP rfl rfl, PW.pre hP hK hD hS hA hE⟩ rfl rfl hl.1 rfl (lv_room (Nat.le_of_ble_eq_true rfl)) d_M_take_14 ⟨by decide, by decide⟩) ?_
  refine nw_iald hx hb hK hP 5 0 rfl rfl (k := yr - 1) (by omega) (by decide) d_M_take_17 ?_
  have b17 := giF (yr - 1)
  refine nw_le hx hb (tgt := 47) d_M_take_18 (by decide) (by omega) (by omega) (fun h18 => ?_) (fun h18 => ?_)
  · skip
    refine lv_aload_n hx hb d_M_take_47 rfl (lv_at hl 0 rfl) ?_
    refine va_get (D := D) (ci := 1) (C := RM) (T := FM) (N := 15) (v := .ref (u 6)) hx hb hw inM hown hK hP 0 rfl rfl 6 (by decide) (hw _ kF_M_25) (fun _ h9 => h9) rfl d_M_take_48 ?_
    refine lv_aload_n hx hb d_M_take_51 rfl (lv_at hl 0 rfl) ?_
    refine cl_r (v := some (.int (nI (yr - 1)))) (W.runV (b := u 0) (C := "TypeStackModel") (As := []) (rest := [.ref (u 6)]) ⟨hx, hb, hml, hown, hw⟩ (c_M_inner l D u cI cZ gS gK gI gO gF gE gQ yt yn yr ym yd yk yb 0 (by omega) H.size) (cwV 0 hw g_M_68 rfl rfl rfl ⟨rfl, by decide, by decide, by decide +kernel⟩ ⟨by decide, by decide⟩) ⟨PW.blind, va_recv (q := (RM, FM, 15)) (ci := 1) (q0 := 0) hK hP rfl rfl, PW.pre hP hK hD hS hA hE⟩ rfl rfl hl.1 rfl (lv_room (Nat.le_of_ble_eq_true rfl)) d_M_take_52 ⟨by decide, by decide⟩) ?_
    refine nw_zald hx hb hK hP 6 1 rfl rfl (k := yr - 1) (by omega) (by decide) d_M_take_55 ?_
    have b55 := giE (yr - 1)
    refine nw_ifne hx hb (tgt := 64) d_M_take_56 (by decide) (by omega) (fun h56 => ?_) (fun h56 => ?_)
    · skip
      have hP : va_P D cls2 (wM u cI cZ gS gK gI gO gF gE gQ yt (tkn (gF (yr - 1)) yn) yr ym yd yk (tkb (gF (yr - 1)) (gE (yr - 1)) yn yb) (tk1 (gF (yr - 1)) yn gS)) H := by rw [tk1_out h18, tkn_out h18, tkb_dead h18 h56]; exact hP
      have hD : va_D (va_A (wM u cI cZ gS gK gI gO gF gE gQ yt yn yr ym yd yk yb yc) s.heap.size) (wM u cI cZ gS gK gI gO gF gE gQ yt (tkn (gF (yr - 1)) yn) yr ym yd yk (tkb (gF (yr - 1)) (gE (yr - 1)) yn yb) (tk1 (gF (yr - 1)) yn gS)) := by rw [tk1_out h18, tkn_out h18, tkb_dead h18 h56]; exact hD
      exact W.vret hx hb hrt (fun t ht _ => ⟨⟨rfl, by rw [ht]; exact hP, hD⟩, hS.F ht⟩) hS.2.2 d_M_take_64
    · skip
      refine lv_aload_n hx hb d_M_take_59 rfl (lv_at hl 0 rfl) ?_
      refine lv_iconst (v := nI 1) hx hb d_M_take_60 (by decide) ?_
      refine va_put (D := D) (ci := 1) (C := RM) (T := FM) (N := 15) (v := .int (nI 1)) (ty := .boolean) hx hb hw inM tM tM_ok nM hown hK hP hD hS 0 rfl rfl 13 (by decide) (hw _ kF_M_55) (fun _ h9 => h9) rfl (by decide +kernel) rfl rfl (Nat.le_of_ble_eq_true rfl) d_M_take_61 (fun H locs hP hD hS => ?_)
      have hP : va_P D cls2 (wM u cI cZ gS gK gI gO gF gE gQ yt yn yr ym yd yk 1 0) H := hP
      have hD : va_D (va_A (wM u cI cZ gS gK gI gO gF gE gQ yt yn yr ym yd yk yb yc) s.heap.size) (wM u cI cZ gS gK gI gO gF gE gQ yt yn yr ym yd yk 1 0) := hD
      have hP : va_P D cls2 (wM u cI cZ gS gK gI gO gF gE gQ yt (tkn (gF (yr - 1)) yn) yr ym yd yk (tkb (gF (yr - 1)) (gE (yr - 1)) yn yb) (tk1 (gF (yr - 1)) yn gS)) H := by rw [tk1_out h18, tkn_out h18, tkb_no h18 h56]; exact hP
      have hD : va_D (va_A (wM u cI cZ gS gK gI gO gF gE gQ yt yn yr ym yd yk yb yc) s.heap.size) (wM u cI cZ gS gK gI gO gF gE gQ yt (tkn (gF (yr - 1)) yn) yr ym yd yk (tkb (gF (yr - 1)) (gE (yr - 1)) yn yb) (tk1 (gF (yr - 1)) yn gS)) := by rw [tk1_out h18, tkn_out h18, tkb_no h18 h56]; exact hD
      exact W.vret hx hb hrt (fun t ht _ => ⟨⟨rfl, by rw [ht]; exact hP, hD⟩, hS.F ht⟩) hS.2.2 d_M_take_64
  · skip
    refine lv_aload_n hx hb d_M_take_21 rfl (lv_at hl 0 rfl) ?_
    refine lv_dup hx hb d_M_take_22 rfl ?_
    refine va_get (D := D) (ci := 1) (C := RM) (T := FM) (N := 15) (v := .int (nI yn)) hx hb hw inM hown hK hP 0 rfl rfl 7 (by decide) (hw _ kF_M_40) (fun _ h9 => h9) rfl d_M_take_23 ?_
    refine lv_iconst (v := nI 1) hx hb d_M_take_26 (by decide) ?_
    refine nw_sub hx hb (by omega) d_M_take_27 ?_
    refine va_put (D := D) (ci := 1) (C := RM) (T := FM) (N := 15) (v := .int (nI (yn - 1))) (ty := .int) hx hb hw inM tM tM_ok nM hown hK hP hD hS 0 rfl rfl 7 (by decide) (hw _ kF_M_40) (fun _ h9 => h9) rfl (by decide +kernel) rfl rfl (Nat.le_of_ble_eq_true rfl) d_M_take_28 (fun H locs hP hD hS => ?_)
    have hP : va_P D cls2 (wM u cI cZ gS gK gI gO gF gE gQ yt (yn - 1) yr ym yd yk yb 0) H := hP
    have hD : va_D (va_A (wM u cI cZ gS gK gI gO gF gE gQ yt yn yr ym yd yk yb yc) s.heap.size) (wM u cI cZ gS gK gI gO gF gE gQ yt (yn - 1) yr ym yd yk yb 0) := hD
    refine lv_aload_n hx hb d_M_take_31 rfl (lv_at hl 0 rfl) ?_
    refine lv_aload_n hx hb d_M_take_32 rfl (lv_at hl 0 rfl) ?_
    refine va_get (D := D) (ci := 1) (C := RM) (T := FM) (N := 15) (v := .ref (u 1)) hx hb hw inM hown hK hP 0 rfl rfl 1 (by decide) (hw _ kF_M_9) (fun _ h9 => h9) rfl d_M_take_33 ?_
    refine lv_aload_n hx hb d_M_take_36 rfl (lv_at hl 0 rfl) ?_
    refine va_get (D := D) (ci := 1) (C := RM) (T := FM) (N := 15) (v := .int (nI (yn - 1))) hx hb hw inM hown hK hP 0 rfl rfl 7 (by decide) (hw _ kF_M_40) (fun _ h9 => h9) rfl d_M_take_37 ?_
    refine nw_iald hx hb hK hP 1 0 rfl rfl (k := yn - 1) (by omega) (by decide) d_M_take_40 ?_
    refine va_put (D := D) (ci := 1) (C := RM) (T := FM) (N := 15) (v := .int (nI (gS (yn - 1)))) (ty := .int) hx hb hw inM tM tM_ok nM hown hK hP hD hS 0 rfl rfl 14 (by decide) (hw _ kF_M_65) (fun _ h9 => h9) rfl (by decide +kernel) rfl rfl (Nat.le_of_ble_eq_true rfl) d_M_take_41 (fun H locs hP hD hS => ?_)
    have hP : va_P D cls2 (wM u cI cZ gS gK gI gO gF gE gQ yt (yn - 1) yr ym yd yk yb (gS (yn - 1))) H := hP
    have hD : va_D (va_A (wM u cI cZ gS gK gI gO gF gE gQ yt yn yr ym yd yk yb yc) s.heap.size) (wM u cI cZ gS gK gI gO gF gE gQ yt (yn - 1) yr ym yd yk yb (gS (yn - 1))) := hD
    refine lv_goto hx hb d_M_take_44 (tgt := 64) (by decide) ?_
    have hP : va_P D cls2 (wM u cI cZ gS gK gI gO gF gE gQ yt (tkn (gF (yr - 1)) yn) yr ym yd yk (tkb (gF (yr - 1)) (gE (yr - 1)) yn yb) (tk1 (gF (yr - 1)) yn gS)) H := by rw [tk1_in h18, tkn_in h18, tkb_in h18]; exact hP
    have hD : va_D (va_A (wM u cI cZ gS gK gI gO gF gE gQ yt yn yr ym yd yk yb yc) s.heap.size) (wM u cI cZ gS gK gI gO gF gE gQ yt (tkn (gF (yr - 1)) yn) yr ym yd yk (tkb (gF (yr - 1)) (gE (yr - 1)) yn yb) (tk1 (gF (yr - 1)) yn gS)) := by rw [tk1_in h18, tkn_in h18, tkb_in h18]; exact hD
    exact W.vret hx hb hrt (fun t ht _ => ⟨⟨rfl, by rw [ht]; exact hP, hD⟩, hS.F ht⟩) hS.2.2 d_M_take_64

set_option maxHeartbeats 4000000 in
set_option maxRecDepth 100000 in
theorem c_M_take1 (l : Launch) (D : va_G) (u : Nat → Nat) (cI cZ : ClassId) (gS gK gI gO gF gE gQ : Nat → Nat) (yt yn yr ym yd yk yb yc : Nat) (a : Nat) (ha : a < 5) (hr1 : 1 ≤ yr) (hr2 : yr ≤ 41) (hn : yn ≤ 400) (giF : ∀ j, gF j ≤ 300) (giE : ∀ j, gE j ≤ 1) (giS : ∀ j, gS j < 5) (sz : Nat) : Met l y_M_take1 w_M_take1 (rmR 2) (PW D [(cI, .int), (cZ, .boolean)] (wM u cI cZ gS gK gI gO gF gE gQ yt yn yr ym yd yk yb yc) sz [.ref (u 0), .int (nI a)]) (QW D [(cI, .int), (cZ, .boolean)] (wM u cI cZ gS gK gI gO gF gE gQ yt yn yr ym yd yk yb yc) (wM u cI cZ gS gK gI gO gF gE gQ yt (tkn (gF (yr - 1)) yn) yr ym yd yk (tkc (tk1 (gF (yr - 1)) yn gS) a (tkb (gF (yr - 1)) (gE (yr - 1)) yn yb)) (tk1 (gF (yr - 1)) yn gS)) sz (none)) 0 0 (va_A (wM u cI cZ gS gK gI gO gF gE gQ yt yn yr ym yd yk yb yc) sz) := by
  refine Met.ofW (cc := b_M_take1) (maxL := 2) (ret := none) (by decide) rfl ?_
  intro p e s m args below meth c s₁ B hml hv
  obtain ⟨rfl, hsz, hP, hK, hD0, hE⟩ := hv
  have hx := B.exec
  have hb := B.bytes
  have hrt := B.returns
  have hts := atoms_spec (ws := w_M_take1) B.pre
  have hw : ∀ w ∈ bw, w.before ([.ref (u 0), .int (nI a)]).toArray s = true := fun w h => hts w (List.mem_cons_of_mem _ h)
  have hown : s.vm.findClass "TypeStackModel" = some m.cls := findClass_of_methodNamed B.named
  have hlocks := B.notSynchronized
  subst hsz
  have hD := hD0.self (sz := s.heap.size)
  have hA : ∀ q : Nat, s.heap.size ≤ q → va_A (wM u cI cZ gS gK gI gO gF gE gQ yt yn yr ym yd yk yb yc) s.heap.size q := fun q h => Or.inr h
  have hS : va_S (va_A (wM u cI cZ gS gK gI gO gF gE gQ yt yn yr ym yd yk yb yc) s.heap.size) s.heap s.heap [] := va_S.rf
  have hK0 := hK.sub (tys' := []) [] rfl
  skip
  have hl := lv_entry ([.ref (u 0), .int (nI a)]) (n := 2) (Nat.le_of_ble_eq_true rfl)
  rw [lg_entry_eq]
  generalize (lg_sl ([.ref (u 0), .int (nI a)]) ++ List.replicate (2 - (lg_sl ([.ref (u 0), .int (nI a)])).length) Slot.unset).toArray = ls at hl ⊢
  have hl : lv_has ls 2 [(0, .ref (u 0)), (1, .int (nI a))] := hl
  refine lv_aload_n hx hb d_M_take1_0 rfl (lv_at hl 0 rfl) ?_
  refine cl_w (v := none) hD hS hA (W.runV (b := u 0) (C := "TypeStackModel") (As := []) (rest := []) ⟨hx, hb, hml, hown, hw⟩ (c_M_take l D u cI cZ gS gK gI gO gF gE gQ yt yn yr ym yd yk yb yc (by omega) (by omega) (by omega) giF giE s.heap.size) (cwV 0 hw g_M_72 rfl rfl rfl ⟨rfl, by decide, by decide, by decide +kernel⟩ ⟨by decide, by decide⟩) ⟨PW.blind, va_recv (q := (RM, FM, 15)) (ci := 1) (q0 := 0) hK hP rfl rfl, PW.pre hP hK hD hS hA hE⟩ rfl rfl hl.1 rfl (lv_room (Nat.le_of_ble_eq_true rfl)) d_M_take1_1 ⟨by decide, by decide⟩) (fun H locs hP hD hS => ?_)
  have hP : va_P D cls2 (wM u cI cZ gS gK gI gO gF gE gQ yt (tkn (gF (yr - 1)) yn) yr ym yd yk (tkb (gF (yr - 1)) (gE (yr - 1)) yn yb) (tk1 (gF (yr - 1)) yn gS)) H := hP
  have hD : va_D (va_A (wM u cI cZ gS gK gI gO gF gE gQ yt yn yr ym yd yk yb yc) s.heap.size) (wM u cI cZ gS gK gI gO gF gE gQ yt (tkn (gF (yr - 1)) yn) yr ym yd yk (tkb (gF (yr - 1)) (gE (yr - 1)) yn yb) (tk1 (gF (yr - 1)) yn gS)) := hD
  have htk : tk1 (gF (yr - 1)) yn gS < 5 := tk1_lt giS
  refine lv_aload_n hx hb d_M_take1_4 rfl (lv_at hl 0 rfl) ?_
  refine va_get (D := D) (ci := 1) (C := RM) (T := FM) (N := 15) (v := .int (nI (tk1 (gF (yr - 1)) yn gS))) hx hb hw inM hown hK hP 0 rfl rfl 14 (by decide) (hw _ kF_M_65) (fun _ h9 => h9) rfl d_M_take1_5 ?_
  refine nw_ifeq hx hb (tgt := 24) d_M_take1_8 (by decide) (by omega) (fun h8 => ?_) (fun h8 => ?_)
  · skip
    have hP : va_P D cls2 (wM u cI cZ gS gK gI gO gF gE gQ yt (tkn (gF (yr - 1)) yn) yr ym yd yk (tkc (tk1 (gF (yr - 1)) yn gS) a (tkb (gF (yr - 1)) (gE (yr - 1)) yn yb)) (tk1 (gF (yr - 1)) yn gS)) H := by rw [tkc_0 h8]; exact hP
    have hD : va_D (va_A (wM u cI cZ gS gK gI gO gF gE gQ yt yn yr ym yd yk yb yc) s.heap.size) (wM u cI cZ gS gK gI gO gF gE gQ yt (tkn (gF (yr - 1)) yn) yr ym yd yk (tkc (tk1 (gF (yr - 1)) yn gS) a (tkb (gF (yr - 1)) (gE (yr - 1)) yn yb)) (tk1 (gF (yr - 1)) yn gS)) := by rw [tkc_0 h8]; exact hD
    exact W.vret hx hb hrt (fun t ht _ => ⟨⟨rfl, by rw [ht]; exact hP, hD⟩, hS.F ht⟩) hS.2.2 d_M_take1_24
  · skip
    refine lv_aload_n hx hb d_M_take1_11 rfl (lv_at hl 0 rfl) ?_
    refine va_get (D := D) (ci := 1) (C := RM) (T := FM) (N := 15) (v := .int (nI (tk1 (gF (yr - 1)) yn gS))) hx hb hw inM hown hK hP 0 rfl rfl 14 (by decide) (hw _ kF_M_65) (fun _ h9 => h9) rfl d_M_take1_12 ?_
    refine lv_iload_n hx hb d_M_take1_15 rfl (lv_at hl 1 rfl) ?_
    refine nw_eq hx hb (tgt := 24) d_M_take1_16 (by decide) (by omega) (by omega) (fun h16 => ?_) (fun h16 => ?_)
    · skip
      have hP : va_P D cls2 (wM u cI cZ gS gK gI gO gF gE gQ yt (tkn (gF (yr - 1)) yn) yr ym yd yk (tkc (tk1 (gF (yr - 1)) yn gS) a (tkb (gF (yr - 1)) (gE (yr - 1)) yn yb)) (tk1 (gF (yr - 1)) yn gS)) H := by rw [tkc_eq h16]; exact hP
      have hD : va_D (va_A (wM u cI cZ gS gK gI gO gF gE gQ yt yn yr ym yd yk yb yc) s.heap.size) (wM u cI cZ gS gK gI gO gF gE gQ yt (tkn (gF (yr - 1)) yn) yr ym yd yk (tkc (tk1 (gF (yr - 1)) yn gS) a (tkb (gF (yr - 1)) (gE (yr - 1)) yn yb)) (tk1 (gF (yr - 1)) yn gS)) := by rw [tkc_eq h16]; exact hD
      exact W.vret hx hb hrt (fun t ht _ => ⟨⟨rfl, by rw [ht]; exact hP, hD⟩, hS.F ht⟩) hS.2.2 d_M_take1_24
    · skip
      refine lv_aload_n hx hb d_M_take1_19 rfl (lv_at hl 0 rfl) ?_
      refine lv_iconst (v := nI 1) hx hb d_M_take1_20 (by decide) ?_
      refine va_put (D := D) (ci := 1) (C := RM) (T := FM) (N := 15) (v := .int (nI 1)) (ty := .boolean) hx hb hw inM tM tM_ok nM hown hK hP hD hS 0 rfl rfl 13 (by decide) (hw _ kF_M_55) (fun _ h9 => h9) rfl (by decide +kernel) rfl rfl (Nat.le_of_ble_eq_true rfl) d_M_take1_21 (fun H locs hP hD hS => ?_)
      have hP : va_P D cls2 (wM u cI cZ gS gK gI gO gF gE gQ yt (tkn (gF (yr - 1)) yn) yr ym yd yk 1 (tk1 (gF (yr - 1)) yn gS)) H := hP
      have hD : va_D (va_A (wM u cI cZ gS gK gI gO gF gE gQ yt yn yr ym yd yk yb yc) s.heap.size) (wM u cI cZ gS gK gI gO gF gE gQ yt (tkn (gF (yr - 1)) yn) yr ym yd yk 1 (tk1 (gF (yr - 1)) yn gS)) := hD
      have hP : va_P D cls2 (wM u cI cZ gS gK gI gO gF gE gQ yt (tkn (gF (yr - 1)) yn) yr ym yd yk (tkc (tk1 (gF (yr - 1)) yn gS) a (tkb (gF (yr - 1)) (gE (yr - 1)) yn yb)) (tk1 (gF (yr - 1)) yn gS)) H := by rw [tkc_no h8 h16]; exact hP
      have hD : va_D (va_A (wM u cI cZ gS gK gI gO gF gE gQ yt yn yr ym yd yk yb yc) s.heap.size) (wM u cI cZ gS gK gI gO gF gE gQ yt (tkn (gF (yr - 1)) yn) yr ym yd yk (tkc (tk1 (gF (yr - 1)) yn gS) a (tkb (gF (yr - 1)) (gE (yr - 1)) yn yb)) (tk1 (gF (yr - 1)) yn gS)) := by rw [tkc_no h8 h16]; exact hD
      exact W.vret hx hb hrt (fun t ht _ => ⟨⟨rfl, by rw [ht]; exact hP, hD⟩, hS.F ht⟩) hS.2.2 d_M_take1_24

set_option maxHeartbeats 4000000 in
set_option maxRecDepth 100000 in
theorem c_M_takeAll (l : Launch) (D : va_G) (u : Nat → Nat) (cI cZ : ClassId) (gS gK gI gO gF gE gQ : Nat → Nat) (yt yn yr ym yd yk yb yc : Nat) (a : Nat) (ha : a < 15625) (hr1 : 1 ≤ yr) (hr2 : yr ≤ 41) (hn : yn ≤ 400) (giF : ∀ j, gF j ≤ 300) (giE : ∀ j, gE j ≤ 1) (giS : ∀ j, gS j < 5) (sz : Nat) : Met l y_M_takeAll w_M_takeAll (rmR 3) (PW D [(cI, .int), (cZ, .boolean)] (wM u cI cZ gS gK gI gO gF gE gQ yt yn yr ym yd yk yb yc) sz [.ref (u 0), .int (nI a)]) (QW D [(cI, .int), (cZ, .boolean)] (wM u cI cZ gS gK gI gO gF gE gQ yt yn yr ym yd yk yb yc) (wM u cI cZ gS gK gI gO gF gE gQ yt ((tA (gF (yr - 1)) (gE (yr - 1)) gS 6 a (yn, yc, yb)).1) yr ym yd yk ((tA (gF (yr - 1)) (gE (yr - 1)) gS 6 a (yn, yc, yb)).2.2) ((tA (gF (yr - 1)) (gE (yr - 1)) gS 6 a (yn, yc, yb)).2.1)) sz (none)) 0 0 (va_A (wM u cI cZ gS gK gI gO gF gE gQ yt yn yr ym yd yk yb yc) sz) := by
  refine Met.ofW (cc := b_M_takeAll) (maxL := 3) (ret := none) (by decide) rfl ?_
  intro p e s m args below meth c s₁ B hml hv
  obtain ⟨rfl, hsz, hP, hK, hD0, hE⟩ := hv
  have hx := B.exec
  have hb := B.bytes
  have hrt := B.returns
  have hts := atoms_spec (ws := w_M_takeAll) B.pre
  have hw : ∀ w ∈ bw, w.before ([.ref (u 0), .int (nI a)]).toArray s = true := fun w h => hts w (List.mem_cons_of_mem _ h)
  have hown : s.vm.findClass "TypeStackModel" = some m.cls := findClass_of_methodNamed B.named
  have hlocks := B.notSynchronized
  subst hsz
  have hD := hD0.self (sz := s.heap.size)
  have hA : ∀ q : Nat, s.heap.size ≤ q → va_A (wM u cI cZ gS gK gI gO gF gE gQ yt yn yr ym yd yk yb yc) s.heap.size q := fun q h => Or.inr h
  have hS : va_S (va_A (wM u cI cZ gS gK gI gO gF gE gQ yt yn yr ym yd yk yb yc) s.heap.size) s.heap s.heap [] := va_S.rf
  have hK0 := hK.sub (tys' := []) [] rfl
  skip
  have hl := lv_entry ([.ref (u 0), .int (nI a)]) (n := 3) (Nat.le_of_ble_eq_true rfl)
  rw [lg_entry_eq]
  generalize (lg_sl ([.ref (u 0), .int (nI a)]) ++ List.replicate (3 - (lg_sl ([.ref (u 0), .int (nI a)])).length) Slot.unset).toArray = ls at hl ⊢
  have hl : lv_has ls 3 [(0, .ref (u 0)), (1, .int (nI a))] := hl
  refine lv_iload_n hx hb d_M_takeAll_0 rfl (lv_at hl 1 rfl) ?_
  refine lv_istore_n (lv' := [(2, .int (nI a)), (0, .ref (u 0)), (1, .int (nI a))]) hx hb d_M_takeAll_1 rfl hl (by decide) rfl (fun ls hl => ?_)
  have lo : ∀ (k : Nat) (d i j q : Nat) (H : Heap) (locs : List Loc), k ≤ 6 → d < 5 ^ k → i ≤ 400 → tA (gF (yr - 1)) (gE (yr - 1)) gS k d (i, j, q) = tA (gF (yr - 1)) (gE (yr - 1)) gS 6 a (yn, yc, yb) → va_P D cls2 (wM u cI cZ gS gK gI gO gF gE gQ yt i yr ym yd yk q j) H → va_D (va_A (wM u cI cZ gS gK gI gO gF gE gQ yt yn yr ym yd yk yb yc) s.heap.size) (wM u cI cZ gS gK gI gO gF gE gQ yt i yr ym yd yk q j) → va_S (va_A (wM u cI cZ gS gK gI gO gF gE gQ yt yn yr ym yd yk yb yc) s.heap.size) s.heap H locs → ∀ ls : Array Slot, lv_has ls 3 [(2, .int (nI d)), (0, .ref (u 0)), (1, .int (nI a))] → W p l e (headSpec w_M_takeAll (rmR 3)).room s m ([.ref (u 0), .int (nI a)] : List Value).toArray below meth c H locs 0 0 (MQ below (QW D [(cI, .int), (cZ, .boolean)] (wM u cI cZ gS gK gI gO gF gE gQ yt yn yr ym yd yk yb yc) (wM u cI cZ gS gK gI gO gF gE gQ yt ((tA (gF (yr - 1)) (gE (yr - 1)) gS 6 a (yn, yc, yb)).1) yr ym yd yk ((tA (gF (yr - 1)) (gE (yr - 1)) gS 6 a (yn, yc, yb)).2.2) ((tA (gF (yr - 1)) (gE (yr - 1)) gS 6 a (yn, yc, yb)).2.1)) s.heap.size (none)) ([.ref (u 0), .int (nI a)] : List Value).toArray s 0 0 (va_A (wM u cI cZ gS gK gI gO gF gE gQ yt yn yr ym yd yk yb yc) s.heap.size)) (F0 m 2 ls []) := by
    intro k
    induction k with
    | zero =>
      intro d i j q H locs hk hd hi4 hq hP hD hS ls hl
      refine lv_iload_n hx hb d_M_takeAll_2 rfl (lv_at hl 0 rfl) ?_
      have h5k : d < 2 ^ 31 := Nat.lt_of_lt_of_le hd (five_le hk)
      refine nw_ifle hx hb (tgt := 20) d_M_takeAll_3 (by decide) (by omega) (fun h3 => ?_) (fun h3 => ?_)
      · skip
        have hP : va_P D cls2 (wM u cI cZ gS gK gI gO gF gE gQ yt ((tA (gF (yr - 1)) (gE (yr - 1)) gS 6 a (yn, yc, yb)).1) yr ym yd yk ((tA (gF (yr - 1)) (gE (yr - 1)) gS 6 a (yn, yc, yb)).2.2) ((tA (gF (yr - 1)) (gE (yr - 1)) gS 6 a (yn, yc, yb)).2.1)) H := by rw [← hq]; exact hP
        have hD : va_D (va_A (wM u cI cZ gS gK gI gO gF gE gQ yt yn yr ym yd yk yb yc) s.heap.size) (wM u cI cZ gS gK gI gO gF gE gQ yt ((tA (gF (yr - 1)) (gE (yr - 1)) gS 6 a (yn, yc, yb)).1) yr ym yd yk ((tA (gF (yr - 1)) (gE (yr - 1)) gS 6 a (yn, yc, yb)).2.2) ((tA (gF (yr - 1)) (gE (yr - 1)) gS 6 a (yn, yc, yb)).2.1)) := by rw [← hq]; exact hD
        exact W.vret hx hb hrt (fun t ht _ => ⟨⟨rfl, by rw [ht]; exact hP, hD⟩, hS.F ht⟩) hS.2.2 d_M_takeAll_20
      · skip
        exfalso; omega
    | succ k ih =>
      intro d i j q H locs hk hd hi4 hq hP hD hS ls hl
      refine lv_iload_n hx hb d_M_takeAll_2 rfl (lv_at hl 0 rfl) ?_
      have h5k : d < 2 ^ 31 := Nat.lt_of_lt_of_le hd (five_le hk)
      refine nw_ifle hx hb (tgt := 20) d_M_takeAll_3 (by decide) (by omega) (fun h3 => ?_) (fun h3 => ?_)
      · skip
        have hP : va_P D cls2 (wM u cI cZ gS gK gI gO gF gE gQ yt ((tA (gF (yr - 1)) (gE (yr - 1)) gS 6 a (yn, yc, yb)).1) yr ym yd yk ((tA (gF (yr - 1)) (gE (yr - 1)) gS 6 a (yn, yc, yb)).2.2) ((tA (gF (yr - 1)) (gE (yr - 1)) gS 6 a (yn, yc, yb)).2.1)) H := by rw [← hq, h3, tA_zero]; exact hP
        have hD : va_D (va_A (wM u cI cZ gS gK gI gO gF gE gQ yt yn yr ym yd yk yb yc) s.heap.size) (wM u cI cZ gS gK gI gO gF gE gQ yt ((tA (gF (yr - 1)) (gE (yr - 1)) gS 6 a (yn, yc, yb)).1) yr ym yd yk ((tA (gF (yr - 1)) (gE (yr - 1)) gS 6 a (yn, yc, yb)).2.2) ((tA (gF (yr - 1)) (gE (yr - 1)) gS 6 a (yn, yc, yb)).2.1)) := by rw [← hq, h3, tA_zero]; exact hD
        exact W.vret hx hb hrt (fun t ht _ => ⟨⟨rfl, by rw [ht]; exact hP, hD⟩, hS.F ht⟩) hS.2.2 d_M_takeAll_20
      · skip
        refine lv_aload_n hx hb d_M_takeAll_6 rfl (lv_at hl 1 rfl) ?_
        refine lv_iload_n hx hb d_M_takeAll_7 rfl (lv_at hl 0 rfl) ?_
        refine lv_iconst (v := nI 5) hx hb d_M_takeAll_8 (by decide) ?_
        refine nw_rem hx hb (by omega) (by omega) (by omega) d_M_takeAll_9 ?_
        refine cl_w (v := none) hD hS hA (W.runV (b := u 0) (C := "TypeStackModel") (As := [.int (nI (d % 5))]) (rest := []) ⟨hx, hb, hml, hown, hw⟩ (c_M_take1 l D u cI cZ gS gK gI gO gF gE gQ yt i yr ym yd yk q j (d % 5) (by omega) (by omega) (by omega) (by omega) giF giE giS H.size) (cwV 1 hw g_M_75 rfl rfl rfl ⟨rfl, by decide, by decide, by decide +kernel⟩ ⟨by decide, by decide⟩) ⟨PW.blind, va_recv (q := (RM, FM, 15)) (ci := 1) (q0 := 0) hK hP rfl rfl, PW.pre hP hK hD hS hA hE⟩ rfl rfl hl.1 rfl (lv_room (Nat.le_of_ble_eq_true rfl)) d_M_takeAll_10 ⟨by decide, by decide⟩) (fun H locs hP hD hS => ?_)
        have hP : va_P D cls2 (wM u cI cZ gS gK gI gO gF gE gQ yt (tkn (gF (yr - 1)) i) yr ym yd yk (tkc (tk1 (gF (yr - 1)) i gS) (d % 5) (tkb (gF (yr - 1)) (gE (yr - 1)) i q)) (tk1 (gF (yr - 1)) i gS)) H := hP
        have hD : va_D (va_A (wM u cI cZ gS gK gI gO gF gE gQ yt yn yr ym yd yk yb yc) s.heap.size) (wM u cI cZ gS gK gI gO gF gE gQ yt (tkn (gF (yr - 1)) i) yr ym yd yk (tkc (tk1 (gF (yr - 1)) i gS) (d % 5) (tkb (gF (yr - 1)) (gE (yr - 1)) i q)) (tk1 (gF (yr - 1)) i gS)) := hD
        refine lv_iload_n hx hb d_M_takeAll_13 rfl (lv_at hl 0 rfl) ?_
        refine lv_iconst (v := nI 5) hx hb d_M_takeAll_14 (by decide) ?_
        refine nw_div hx hb (by omega) (by omega) (by omega) d_M_takeAll_15 ?_
        refine lv_istore_n (lv' := [(2, .int (nI (d / 5))), (0, .ref (u 0)), (1, .int (nI a))]) hx hb d_M_takeAll_16 rfl hl (by decide) rfl (fun ls hl => ?_)
        refine lv_goto hx hb d_M_takeAll_17 (tgt := 2) (by decide) ?_
        refine ih (d / 5) _ _ _ H locs (by omega) (d5 hd) (Nat.le_trans (tkn_le _ _) hi4) ((tA_succ h3).symm.trans hq) hP hD hS ls ?_
        exact lv_sub hl [0, 1, 2] rfl
  exact lo 6 a yn yc yb s.heap [] (Nat.le_refl _) (by omega) hn rfl hP hD hS ls hl

set_option maxHeartbeats 4000000 in
set_option maxRecDepth 100000 in
theorem c_M_put (l : Launch) (D : va_G) (u : Nat → Nat) (cI cZ : ClassId) (gS gK gI gO gF gE gQ : Nat → Nat) (yt yn yr ym yd yk yb yc : Nat) (a : Nat) (hn : yn < 400) (sz : Nat) : Met l y_M_put w_M_put (rmR 0) (PW D [(cI, .int), (cZ, .boolean)] (wM u cI cZ gS gK gI gO gF gE gQ yt yn yr ym yd yk yb yc) sz [.ref (u 0), .int (nI a)]) (QW D [(cI, .int), (cZ, .boolean)] (wM u cI cZ gS gK gI gO gF gE gQ yt yn yr ym yd yk yb yc) (wM u cI cZ (va_up gS yn a) gK gI gO gF gE gQ yt (yn + 1) yr ym yd yk yb yc) sz (none)) 0 0 (va_A (wM u cI cZ gS gK gI gO gF gE gQ yt yn yr ym yd yk yb yc) sz) := by
  refine Met.ofW (cc := b_M_put) (maxL := 2) (ret := none) (by decide) rfl ?_
  intro p e s m args below meth c s₁ B hml hv
  obtain ⟨rfl, hsz, hP, hK, hD0, hE⟩ := hv
  have hx := B.exec
  have hb := B.bytes
  have hrt := B.returns
  have hts := atoms_spec (ws := w_M_put) B.pre
  have hw : ∀ w ∈ bw, w.before ([.ref (u 0), .int (nI a)]).toArray s = true := fun w h => hts w (List.mem_cons_of_mem _ h)
  have hown : s.vm.findClass "TypeStackModel" = some m.cls := findClass_of_methodNamed B.named
  have hlocks := B.notSynchronized
  subst hsz
  have hD := hD0.self (sz := s.heap.size)
  have hA : ∀ q : Nat, s.heap.size ≤ q → va_A (wM u cI cZ gS gK gI gO gF gE gQ yt yn yr ym yd yk yb yc) s.heap.size q := fun q h => Or.inr h
  have hS : va_S (va_A (wM u cI cZ gS gK gI gO gF gE gQ yt yn yr ym yd yk yb yc) s.heap.size) s.heap s.heap [] := va_S.rf
  have hK0 := hK.sub (tys' := []) [] rfl
  skip
  have hl := lv_entry ([.ref (u 0), .int (nI a)]) (n := 2) (Nat.le_of_ble_eq_true rfl)
  rw [lg_entry_eq]
  generalize (lg_sl ([.ref (u 0), .int (nI a)]) ++ List.replicate (2 - (lg_sl ([.ref (u 0), .int (nI a)])).length) Slot.unset).toArray = ls at hl ⊢
  have hl : lv_has ls 2 [(0, .ref (u 0)), (1, .int (nI a))] := hl
  refine lv_aload_n hx hb d_M_put_0 rfl (lv_at hl 0 rfl) ?_
  refine va_get (D := D) (ci := 1) (C := RM) (T := FM) (N := 15) (v := .int (nI yn)) hx hb hw inM hown hK hP 0 rfl rfl 7 (by decide) (hw _ kF_M_40) (fun _ h9 => h9) rfl d_M_put_1 ?_
  refine lv_sipush (v := nI 400) hx hb d_M_put_4 (by decide) ?_
  refine nw_ge hx hb (tgt := 20) d_M_put_7 (by decide) (by omega) (by omega) (fun h7 => ?_) (fun h7 => ?_)
  · skip
    exfalso; omega
  · skip
    refine lv_aload_n hx hb d_M_put_10 rfl (lv_at hl 0 rfl) ?_
    refine va_get (D := D) (ci := 1) (C := RM) (T := FM) (N := 15) (v := .ref (u 1)) hx hb hw inM hown hK hP 0 rfl rfl 1 (by decide) (hw _ kF_M_9) (fun _ h9 => h9) rfl d_M_put_11 ?_
    refine lv_aload_n hx hb d_M_put_14 rfl (lv_at hl 0 rfl) ?_
    refine va_get (D := D) (ci := 1) (C := RM) (T := FM) (N := 15) (v := .int (nI yn)) hx hb hw inM hown hK hP 0 rfl rfl 7 (by decide) (hw _ kF_M_40) (fun _ h9 => h9) rfl d_M_put_15 ?_
    refine lv_iload_n hx hb d_M_put_18 rfl (lv_at hl 1 rfl) ?_
    refine nw_iast hx hb hK hP hD hS 1 0 rfl rfl (k := yn) (x := a) (by omega) (by decide) d_M_put_19 (fun H locs hP hD hS => ?_)
    have hP : va_P D cls2 (wM u cI cZ (va_up gS yn a) gK gI gO gF gE gQ yt yn yr ym yd yk yb yc) H := hP
    have hD : va_D (va_A (wM u cI cZ gS gK gI gO gF gE gQ yt yn yr ym yd yk yb yc) s.heap.size) (wM u cI cZ (va_up gS yn a) gK gI gO gF gE gQ yt yn yr ym yd yk yb yc) := hD
    refine lv_aload_n hx hb d_M_put_20 rfl (lv_at hl 0 rfl) ?_
    refine lv_dup hx hb d_M_put_21 rfl ?_
    refine va_get (D := D) (ci := 1) (C := RM) (T := FM) (N := 15) (v := .int (nI yn)) hx hb hw inM hown hK hP 0 rfl rfl 7 (by decide) (hw _ kF_M_40) (fun _ h9 => h9) rfl d_M_put_22 ?_
    refine lv_iconst (v := nI 1) hx hb d_M_put_25 (by decide) ?_
    refine nw_add hx hb d_M_put_26 ?_
    refine va_put (D := D) (ci := 1) (C := RM) (T := FM) (N := 15) (v := .int (nI (yn + 1))) (ty := .int) hx hb hw inM tM tM_ok nM hown hK hP hD hS 0 rfl rfl 7 (by decide) (hw _ kF_M_40) (fun _ h9 => h9) rfl (by decide +kernel) rfl rfl (Nat.le_of_ble_eq_true rfl) d_M_put_27 (fun H locs hP hD hS => ?_)
    have hP : va_P D cls2 (wM u cI cZ (va_up gS yn a) gK gI gO gF gE gQ yt (yn + 1) yr ym yd yk yb yc) H := hP
    have hD : va_D (va_A (wM u cI cZ gS gK gI gO gF gE gQ yt yn yr ym yd yk yb yc) s.heap.size) (wM u cI cZ (va_up gS yn a) gK gI gO gF gE gQ yt (yn + 1) yr ym yd yk yb yc) := hD
    have hP : va_P D cls2 (wM u cI cZ (va_up gS yn a) gK gI gO gF gE gQ yt (yn + 1) yr ym yd yk yb yc) H := by exact hP
    have hD : va_D (va_A (wM u cI cZ gS gK gI gO gF gE gQ yt yn yr ym yd yk yb yc) s.heap.size) (wM u cI cZ (va_up gS yn a) gK gI gO gF gE gQ yt (yn + 1) yr ym yd yk yb yc) := by exact hD
    exact W.vret hx hb hrt (fun t ht _ => ⟨⟨rfl, by rw [ht]; exact hP, hD⟩, hS.F ht⟩) hS.2.2 d_M_put_30

set_option maxHeartbeats 4000000 in
set_option maxRecDepth 100000 in
theorem c_M_putAll (l : Launch) (D : va_G) (u : Nat → Nat) (cI cZ : ClassId) (gS gK gI gO gF gE gQ : Nat → Nat) (yt yn yr ym yd yk yb yc : Nat) (a : Nat) (ha : a < 15625) (hn : yn + 6 < 400) (sz : Nat) : Met l y_M_putAll w_M_putAll (rmR 1) (PW D [(cI, .int), (cZ, .boolean)] (wM u cI cZ gS gK gI gO gF gE gQ yt yn yr ym yd yk yb yc) sz [.ref (u 0), .int (nI a)]) (QW D [(cI, .int), (cZ, .boolean)] (wM u cI cZ gS gK gI gO gF gE gQ yt yn yr ym yd yk yb yc) (wM u cI cZ (pl gS yn (szL 6 a) a) gK gI gO gF gE gQ yt (yn + szL 6 a) yr ym yd yk yb yc) sz (none)) 0 0 (va_A (wM u cI cZ gS gK gI gO gF gE gQ yt yn yr ym yd yk yb yc) sz) := by
  refine Met.ofW (cc := b_M_putAll) (maxL := 4) (ret := none) (by decide) rfl ?_
  intro p e s m args below meth c s₁ B hml hv
  obtain ⟨rfl, hsz, hP, hK, hD0, hE⟩ := hv
  have hx := B.exec
  have hb := B.bytes
  have hrt := B.returns
  have hts := atoms_spec (ws := w_M_putAll) B.pre
  have hw : ∀ w ∈ bw, w.before ([.ref (u 0), .int (nI a)]).toArray s = true := fun w h => hts w (List.mem_cons_of_mem _ h)
  have hown : s.vm.findClass "TypeStackModel" = some m.cls := findClass_of_methodNamed B.named
  have hlocks := B.notSynchronized
  subst hsz
  have hD := hD0.self (sz := s.heap.size)
  have hA : ∀ q : Nat, s.heap.size ≤ q → va_A (wM u cI cZ gS gK gI gO gF gE gQ yt yn yr ym yd yk yb yc) s.heap.size q := fun q h => Or.inr h
  have hS : va_S (va_A (wM u cI cZ gS gK gI gO gF gE gQ yt yn yr ym yd yk yb yc) s.heap.size) s.heap s.heap [] := va_S.rf
  have hK0 := hK.sub (tys' := []) [] rfl
  skip
  have hl := lv_entry ([.ref (u 0), .int (nI a)]) (n := 4) (Nat.le_of_ble_eq_true rfl)
  rw [lg_entry_eq]
  generalize (lg_sl ([.ref (u 0), .int (nI a)]) ++ List.replicate (4 - (lg_sl ([.ref (u 0), .int (nI a)])).length) Slot.unset).toArray = ls at hl ⊢
  have hl : lv_has ls 4 [(0, .ref (u 0)), (1, .int (nI a))] := hl
  have hs6 := szL_le 6 a
  refine lv_iconst (v := nI 1) hx hb d_M_putAll_0 (by decide) ?_
  refine lv_istore_n (lv' := [(2, .int (nI 1)), (0, .ref (u 0)), (1, .int (nI a))]) hx hb d_M_putAll_1 rfl hl (by decide) rfl (fun ls hl => ?_)
  have lo : ∀ (k : Nat) , k ≤ szL 6 a - 1 → ∀ ls : Array Slot, lv_has ls 4 [(2, .int (nI (5 ^ (szL 6 a - 1 - k)))), (0, .ref (u 0)), (1, .int (nI a))] → W p l e (headSpec w_M_putAll (rmR 1)).room s m ([.ref (u 0), .int (nI a)] : List Value).toArray below meth c s.heap [] 0 0 (MQ below (QW D [(cI, .int), (cZ, .boolean)] (wM u cI cZ gS gK gI gO gF gE gQ yt yn yr ym yd yk yb yc) (wM u cI cZ (pl gS yn (szL 6 a) a) gK gI gO gF gE gQ yt (yn + szL 6 a) yr ym yd yk yb yc) s.heap.size (none)) ([.ref (u 0), .int (nI a)] : List Value).toArray s 0 0 (va_A (wM u cI cZ gS gK gI gO gF gE gQ yt yn yr ym yd yk yb yc) s.heap.size)) (F0 m 2 ls []) := by
    intro k
    induction k with
    | zero =>
      intro hk ls hl
      refine lv_iload_n hx hb d_M_putAll_2 rfl (lv_at hl 0 rfl) ?_
      refine lv_iload_n hx hb d_M_putAll_3 rfl (lv_at hl 2 rfl) ?_
      refine lv_iconst (v := nI 5) hx hb d_M_putAll_4 (by decide) ?_
      refine nw_div hx hb (by omega) (by omega) (by omega) d_M_putAll_5 ?_
      refine nw_gt hx hb (tgt := 16) d_M_putAll_6 (by decide) (pw_lt _) (by omega) (fun h6 => ?_) (fun h6 => ?_)
      · skip
        refine lv_iload_n hx hb d_M_putAll_16 rfl (lv_at hl 0 rfl) ?_
        refine lv_istore_n (lv' := [(3, .int (nI (5 ^ (szL 6 a - 1 - 0)))), (2, .int (nI (5 ^ (szL 6 a - 1 - 0)))), (0, .ref (u 0)), (1, .int (nI a))]) hx hb d_M_putAll_17 rfl hl (by decide) rfl (fun ls hl => ?_)
        rcases Nat.eq_zero_or_pos a with ha0 | ha0
        · skip
          refine lv_iload_n hx hb d_M_putAll_18 rfl (lv_at hl 3 rfl) ?_
          have hf0 : fv 0 = 0 := rfl
          skip
          refine nw_ifle hx hb (tgt := 42) d_M_putAll_19 (by decide) (by omega) (fun h19 => ?_) (fun h19 => ?_)
          · skip
            have hP : va_P D cls2 (wM u cI cZ (pl gS yn (szL 6 a) a) gK gI gO gF gE gQ yt (yn + szL 6 a) yr ym yd yk yb yc) s.heap := by rw [ha0]; exact hP
            have hD : va_D (va_A (wM u cI cZ gS gK gI gO gF gE gQ yt yn yr ym yd yk yb yc) s.heap.size) (wM u cI cZ (pl gS yn (szL 6 a) a) gK gI gO gF gE gQ yt (yn + szL 6 a) yr ym yd yk yb yc) := by rw [ha0]; exact hD
            exact W.vret hx hb hrt (fun t ht _ => ⟨⟨rfl, by rw [ht]; exact hP, hD⟩, hS.F ht⟩) hS.2.2 d_M_putAll_42
          · skip
            exfalso; omega
        · skip
          have lo2 : ∀ (k : Nat) (f : Nat → Nat) (i : Nat) (H : Heap) (locs : List Loc), k ≤ 6 → i + k = yn + szL 6 a → pu f i a k = pl gS yn (szL 6 a) a → va_P D cls2 (wM u cI cZ f gK gI gO gF gE gQ yt i yr ym yd yk yb yc) H → va_D (va_A (wM u cI cZ gS gK gI gO gF gE gQ yt yn yr ym yd yk yb yc) s.heap.size) (wM u cI cZ f gK gI gO gF gE gQ yt i yr ym yd yk yb yc) → va_S (va_A (wM u cI cZ gS gK gI gO gF gE gQ yt yn yr ym yd yk yb yc) s.heap.size) s.heap H locs → ∀ ls : Array Slot, lv_has ls 4 [(3, .int (nI (fv k))), (2, .int (nI (5 ^ (szL 6 a - 1 - 0)))), (0, .ref (u 0)), (1, .int (nI a))] → W p l e (headSpec w_M_putAll (rmR 1)).room s m ([.ref (u 0), .int (nI a)] : List Value).toArray below meth c H locs 0 0 (MQ below (QW D [(cI, .int), (cZ, .boolean)] (wM u cI cZ gS gK gI gO gF gE gQ yt yn yr ym yd yk yb yc) (wM u cI cZ (pl gS yn (szL 6 a) a) gK gI gO gF gE gQ yt (yn + szL 6 a) yr ym yd yk yb yc) s.heap.size (none)) ([.ref (u 0), .int (nI a)] : List Value).toArray s 0 0 (va_A (wM u cI cZ gS gK gI gO gF gE gQ yt yn yr ym yd yk yb yc) s.heap.size)) (F0 m 18 ls []) := by
            intro k
            induction k with
            | zero =>
              intro f i H locs hk hi1 hq hP hD hS ls hl
              refine lv_iload_n hx hb d_M_putAll_18 rfl (lv_at hl 3 rfl) ?_
              have hf0 : fv 0 = 0 := rfl
              skip
              refine nw_ifle hx hb (tgt := 42) d_M_putAll_19 (by decide) (by omega) (fun h19 => ?_) (fun h19 => ?_)
              · skip
                exfalso; omega
              · skip
                refine lv_iload_n hx hb d_M_putAll_22 rfl (lv_at hl 0 rfl) ?_
                refine nw_ifle hx hb (tgt := 42) d_M_putAll_23 (by decide) (by omega) (fun h23 => ?_) (fun h23 => ?_)
                · skip
                  have hP : va_P D cls2 (wM u cI cZ (pl gS yn (szL 6 a) a) gK gI gO gF gE gQ yt (yn + szL 6 a) yr ym yd yk yb yc) H := by rw [← hq, ← hi1]; exact hP
                  have hD : va_D (va_A (wM u cI cZ gS gK gI gO gF gE gQ yt yn yr ym yd yk yb yc) s.heap.size) (wM u cI cZ (pl gS yn (szL 6 a) a) gK gI gO gF gE gQ yt (yn + szL 6 a) yr ym yd yk yb yc) := by rw [← hq, ← hi1]; exact hD
                  exact W.vret hx hb hrt (fun t ht _ => ⟨⟨rfl, by rw [ht]; exact hP, hD⟩, hS.F ht⟩) hS.2.2 d_M_putAll_42
                · skip
                  exfalso; omega
            | succ k ih =>
              intro f i H locs hk hi1 hq hP hD hS ls hl
              refine lv_iload_n hx hb d_M_putAll_18 rfl (lv_at hl 3 rfl) ?_
              have hf0 : fv 0 = 0 := rfl
              have hf1 := fv_pos k
              have hf2 := fv_lt hk
              refine nw_ifle hx hb (tgt := 42) d_M_putAll_19 (by decide) (by omega) (fun h19 => ?_) (fun h19 => ?_)
              · skip
                exfalso; omega
              · skip
                refine lv_iload_n hx hb d_M_putAll_22 rfl (lv_at hl 0 rfl) ?_
                refine nw_ifle hx hb (tgt := 42) d_M_putAll_23 (by decide) (by omega) (fun h23 => ?_) (fun h23 => ?_)
                · skip
                  exfalso; omega
                · skip
                  refine lv_aload_n hx hb d_M_putAll_26 rfl (lv_at hl 2 rfl) ?_
                  refine lv_iload_n hx hb d_M_putAll_27 rfl (lv_at hl 3 rfl) ?_
                  refine lv_iload_n hx hb d_M_putAll_28 rfl (lv_at hl 0 rfl) ?_
                  refine nw_div hx hb (by omega) (by omega) (by omega) d_M_putAll_29 ?_
                  have hdv := Nat.div_le_self a (fv (k + 1))
                  refine lv_iconst (v := nI 5) hx hb d_M_putAll_30 (by decide) ?_
                  refine nw_rem hx hb (by omega) (by omega) (by omega) d_M_putAll_31 ?_
                  refine cl_w (v := none) hD hS hA (W.runV (b := u 0) (C := "TypeStackModel") (As := [.int (nI ((a / (fv (k + 1))) % 5))]) (rest := []) ⟨hx, hb, hml, hown, hw⟩ (c_M_put l D u cI cZ f gK gI gO gF gE gQ yt i yr ym yd yk yb yc ((a / (fv (k + 1))) % 5) (by omega) H.size) (cwV 1 hw g_M_77 rfl rfl rfl ⟨rfl, by decide, by decide, by decide +kernel⟩ ⟨by decide, by decide⟩) ⟨PW.blind, va_recv (q := (RM, FM, 15)) (ci := 1) (q0 := 0) hK hP rfl rfl, PW.pre hP hK hD hS hA hE⟩ rfl rfl hl.1 rfl (lv_room (Nat.le_of_ble_eq_true rfl)) d_M_putAll_32 ⟨by decide, by decide⟩) (fun H locs hP hD hS => ?_)
                  have hP : va_P D cls2 (wM u cI cZ (va_up f i ((a / (fv (k + 1))) % 5)) gK gI gO gF gE gQ yt (i + 1) yr ym yd yk yb yc) H := hP
                  have hD : va_D (va_A (wM u cI cZ gS gK gI gO gF gE gQ yt yn yr ym yd yk yb yc) s.heap.size) (wM u cI cZ (va_up f i ((a / (fv (k + 1))) % 5)) gK gI gO gF gE gQ yt (i + 1) yr ym yd yk yb yc) := hD
                  refine lv_iload_n hx hb d_M_putAll_35 rfl (lv_at hl 0 rfl) ?_
                  refine lv_iconst (v := nI 5) hx hb d_M_putAll_36 (by decide) ?_
                  refine nw_div hx hb (by omega) (by omega) (by omega) d_M_putAll_37 ?_
                  refine lv_istore_n (lv' := [(3, .int (nI ((fv (k + 1)) / 5))), (2, .int (nI (5 ^ (szL 6 a - 1 - 0)))), (0, .ref (u 0)), (1, .int (nI a))]) hx hb d_M_putAll_38 rfl hl (by decide) rfl (fun ls hl => ?_)
                  refine lv_goto hx hb d_M_putAll_39 (tgt := 18) (by decide) ?_
                  refine ih (va_up f i (a / fv (k + 1) % 5)) (i + 1) H locs (by omega) (by omega) hq hP hD hS ls ?_
                  rw [← fv_div k]; exact lv_sub hl [0, 1, 2, 3] rfl
          refine lo2 (szL 6 a) gS yn s.heap [] (szL_le 6 a) rfl (pu_pl gS yn a _) hP hD hS ls ?_
          rw [fv_at (szL_pos ha0)]; exact lv_sub hl [0, 1, 2, 3] rfl
      · skip
        exact absurd (pw_gt ha) (Nat.not_lt.mpr h6)
    | succ k ih =>
      intro hk ls hl
      refine lv_iload_n hx hb d_M_putAll_2 rfl (lv_at hl 0 rfl) ?_
      refine lv_iload_n hx hb d_M_putAll_3 rfl (lv_at hl 2 rfl) ?_
      refine lv_iconst (v := nI 5) hx hb d_M_putAll_4 (by decide) ?_
      refine nw_div hx hb (by omega) (by omega) (by omega) d_M_putAll_5 ?_
      refine nw_gt hx hb (tgt := 16) d_M_putAll_6 (by decide) (pw_lt _) (by omega) (fun h6 => ?_) (fun h6 => ?_)
      · skip
        exact absurd h6 (Nat.not_lt.mpr (pw_le ha hk))
      · skip
        refine lv_iload_n hx hb d_M_putAll_9 rfl (lv_at hl 0 rfl) ?_
        refine lv_iconst (v := nI 5) hx hb d_M_putAll_10 (by decide) ?_
        refine nw_mul hx hb d_M_putAll_11 ?_
        refine lv_istore_n (lv' := [(2, .int (nI ((5 ^ (szL 6 a - 1 - (k + 1))) * 5))), (0, .ref (u 0)), (1, .int (nI a))]) hx hb d_M_putAll_12 rfl hl (by decide) rfl (fun ls hl => ?_)
        refine lv_goto hx hb d_M_putAll_13 (tgt := 2) (by decide) ?_
        refine ih (by omega) ls ?_
        rw [pw_step hk]; exact lv_sub hl [0, 1, 2] rfl
  exact lo (szL 6 a - 1) (Nat.le_refl _) ls (by rw [Nat.sub_self]; exact hl)

set_option maxHeartbeats 4000000 in
set_option maxRecDepth 100000 in
theorem c_M_die (l : Launch) (D : va_G) (u : Nat → Nat) (cI cZ : ClassId) (gS gK gI gO gF gE gQ : Nat → Nat) (yt yn yr ym yd yk yb yc : Nat) (hr1 : 1 ≤ yr) (hr2 : yr ≤ 41) (sz : Nat) : Met l y_M_die w_M_die (rmR 1) (PW D [(cI, .int), (cZ, .boolean)] (wM u cI cZ gS gK gI gO gF gE gQ yt yn yr ym yd yk yb yc) sz [.ref (u 0)]) (QW D [(cI, .int), (cZ, .boolean)] (wM u cI cZ gS gK gI gO gF gE gQ yt yn yr ym yd yk yb yc) (wM u cI cZ gS gK gI gO gF (va_up gE (yr - 1) 1) gQ yt (gF (yr - 1)) yr ym yd yk yb yc) sz (none)) 0 0 (va_A (wM u cI cZ gS gK gI gO gF gE gQ yt yn yr ym yd yk yb yc) sz) := by
  refine Met.ofW (cc := b_M_die) (maxL := 1) (ret := none) (by decide) rfl ?_
  intro p e s m args below meth c s₁ B hml hv
  obtain ⟨rfl, hsz, hP, hK, hD0, hE⟩ := hv
  have hx := B.exec
  have hb := B.bytes
  have hrt := B.returns
  have hts := atoms_spec (ws := w_M_die) B.pre
  have hw : ∀ w ∈ bw, w.before ([.ref (u 0)]).toArray s = true := fun w h => hts w (List.mem_cons_of_mem _ h)
  have hown : s.vm.findClass "TypeStackModel" = some m.cls := findClass_of_methodNamed B.named
  have hlocks := B.notSynchronized
  subst hsz
  have hD := hD0.self (sz := s.heap.size)
  have hA : ∀ q : Nat, s.heap.size ≤ q → va_A (wM u cI cZ gS gK gI gO gF gE gQ yt yn yr ym yd yk yb yc) s.heap.size q := fun q h => Or.inr h
  have hS : va_S (va_A (wM u cI cZ gS gK gI gO gF gE gQ yt yn yr ym yd yk yb yc) s.heap.size) s.heap s.heap [] := va_S.rf
  have hK0 := hK.sub (tys' := []) [] rfl
  skip
  have hl := lv_entry ([.ref (u 0)]) (n := 1) (Nat.le_of_ble_eq_true rfl)
  rw [lg_entry_eq]
  generalize (lg_sl ([.ref (u 0)]) ++ List.replicate (1 - (lg_sl ([.ref (u 0)])).length) Slot.unset).toArray = ls at hl ⊢
  have hl : lv_has ls 1 [(0, .ref (u 0))] := hl
  refine lv_aload_n hx hb d_M_die_0 rfl (lv_at hl 0 rfl) ?_
  refine lv_aload_n hx hb d_M_die_1 rfl (lv_at hl 0 rfl) ?_
  refine va_get (D := D) (ci := 1) (C := RM) (T := FM) (N := 15) (v := .ref (u 5)) hx hb hw inM hown hK hP 0 rfl rfl 5 (by decide) (hw _ kF_M_22) (fun _ h9 => h9) rfl d_M_die_2 ?_
  refine lv_aload_n hx hb d_M_die_5 rfl (lv_at hl 0 rfl) ?_
  refine cl_r (v := some (.int (nI (yr - 1)))) (W.runV (b := u 0) (C := "TypeStackModel") (As := []) (rest := [.ref (u 5), .ref (u 0)]) ⟨hx, hb, hml, hown, hw⟩ (c_M_inner l D u cI cZ gS gK gI gO gF gE gQ yt yn yr ym yd yk yb yc (by omega) s.heap.size) (cwV 0 hw g_M_68 rfl rfl rfl ⟨rfl, by decide, by decide, by decide +kernel⟩ ⟨by decide, by decide⟩) ⟨PW.blind, va_recv (q := (RM, FM, 15)) (ci := 1) (q0 := 0) hK hP rfl rfl, PW.pre hP hK hD hS hA hE⟩ rfl rfl hl.1 rfl (lv_room (Nat.le_of_ble_eq_true rfl)) d_M_die_6 ⟨by decide, by decide⟩) ?_
  refine nw_iald hx hb hK hP 5 0 rfl rfl (k := yr - 1) (by omega) (by decide) d_M_die_9 ?_
  refine va_put (D := D) (ci := 1) (C := RM) (T := FM) (N := 15) (v := .int (nI (gF (yr - 1)))) (ty := .int) hx hb hw inM tM tM_ok nM hown hK hP hD hS 0 rfl rfl 7 (by decide) (hw _ kF_M_40) (fun _ h9 => h9) rfl (by decide +kernel) rfl rfl (Nat.le_of_ble_eq_true rfl) d_M_die_10 (fun H locs hP hD hS => ?_)
  have hP : va_P D cls2 (wM u cI cZ gS gK gI gO gF gE gQ yt (gF (yr - 1)) yr ym yd yk yb yc) H := hP
  have hD : va_D (va_A (wM u cI cZ gS gK gI gO gF gE gQ yt yn yr ym yd yk yb yc) s.heap.size) (wM u cI cZ gS gK gI gO gF gE gQ yt (gF (yr - 1)) yr ym yd yk yb yc) := hD
  refine lv_aload_n hx hb d_M_die_13 rfl (lv_at hl 0 rfl) ?_
  refine va_get (D := D) (ci := 1) (C := RM) (T := FM) (N := 15) (v := .ref (u 6)) hx hb hw inM hown hK hP 0 rfl rfl 6 (by decide) (hw _ kF_M_25) (fun _ h9 => h9) rfl d_M_die_14 ?_
  refine lv_aload_n hx hb d_M_die_17 rfl (lv_at hl 0 rfl) ?_
  refine cl_r (v := some (.int (nI (yr - 1)))) (W.runV (b := u 0) (C := "TypeStackModel") (As := []) (rest := [.ref (u 6)]) ⟨hx, hb, hml, hown, hw⟩ (c_M_inner l D u cI cZ gS gK gI gO gF gE gQ yt (gF (yr - 1)) yr ym yd yk yb yc (by omega) H.size) (cwV 0 hw g_M_68 rfl rfl rfl ⟨rfl, by decide, by decide, by decide +kernel⟩ ⟨by decide, by decide⟩) ⟨PW.blind, va_recv (q := (RM, FM, 15)) (ci := 1) (q0 := 0) hK hP rfl rfl, PW.pre hP hK hD hS hA hE⟩ rfl rfl hl.1 rfl (lv_room (Nat.le_of_ble_eq_true rfl)) d_M_die_18 ⟨by decide, by decide⟩) ?_
  refine lv_iconst (v := nI 1) hx hb d_M_die_21 (by decide) ?_
  refine nw_zast hx hb hK hP hD hS 6 1 rfl rfl (k := yr - 1) (x := 1) (by omega) (by decide) (by decide) d_M_die_22 (fun H locs hP hD hS => ?_)
  have hP : va_P D cls2 (wM u cI cZ gS gK gI gO gF (va_up gE (yr - 1) 1) gQ yt (gF (yr - 1)) yr ym yd yk yb yc) H := hP
  have hD : va_D (va_A (wM u cI cZ gS gK gI gO gF gE gQ yt yn yr ym yd yk yb yc) s.heap.size) (wM u cI cZ gS gK gI gO gF (va_up gE (yr - 1) 1) gQ yt (gF (yr - 1)) yr ym yd yk yb yc) := hD
  have hP : va_P D cls2 (wM u cI cZ gS gK gI gO gF (va_up gE (yr - 1) 1) gQ yt (gF (yr - 1)) yr ym yd yk yb yc) H := by exact hP
  have hD : va_D (va_A (wM u cI cZ gS gK gI gO gF gE gQ yt yn yr ym yd yk yb yc) s.heap.size) (wM u cI cZ gS gK gI gO gF (va_up gE (yr - 1) 1) gQ yt (gF (yr - 1)) yr ym yd yk yb yc) := by exact hD
  exact W.vret hx hb hrt (fun t ht _ => ⟨⟨rfl, by rw [ht]; exact hP, hD⟩, hS.F ht⟩) hS.2.2 d_M_die_23

set_option maxHeartbeats 4000000 in
set_option maxRecDepth 100000 in
theorem c_M_start (l : Launch) (D : va_G) (u : Nat → Nat) (cI cZ : ClassId) (gS gK gI gO gF gE gQ : Nat → Nat) (yt yn yr ym yd yk yb yc : Nat) (a : Nat) (sz : Nat) : Met l y_M_start w_M_start (rmR 0) (PW D [(cI, .int), (cZ, .boolean)] (wM u cI cZ gS gK gI gO gF gE gQ yt yn yr ym yd yk yb yc) sz [.ref (u 0), .int (nI a)]) (QW D [(cI, .int), (cZ, .boolean)] (wM u cI cZ gS gK gI gO gF gE gQ yt yn yr ym yd yk yb yc) (wM u cI cZ gS (va_up gK 0 0) (va_up gI 0 0) (va_up gO 0 a) (va_up gF 0 0) (va_up gE 0 0) gQ yt 0 1 0 0 yk yb yc) sz (none)) 0 0 (va_A (wM u cI cZ gS gK gI gO gF gE gQ yt yn yr ym yd yk yb yc) sz) := by
  refine Met.ofW (cc := b_M_start) (maxL := 2) (ret := none) (by decide) rfl ?_
  intro p e s m args below meth c s₁ B hml hv
  obtain ⟨rfl, hsz, hP, hK, hD0, hE⟩ := hv
  have hx := B.exec
  have hb := B.bytes
  have hrt := B.returns
  have hts := atoms_spec (ws := w_M_start) B.pre
  have hw : ∀ w ∈ bw, w.before ([.ref (u 0), .int (nI a)]).toArray s = true := fun w h => hts w (List.mem_cons_of_mem _ h)
  have hown : s.vm.findClass "TypeStackModel" = some m.cls := findClass_of_methodNamed B.named
  have hlocks := B.notSynchronized
  subst hsz
  have hD := hD0.self (sz := s.heap.size)
  have hA : ∀ q : Nat, s.heap.size ≤ q → va_A (wM u cI cZ gS gK gI gO gF gE gQ yt yn yr ym yd yk yb yc) s.heap.size q := fun q h => Or.inr h
  have hS : va_S (va_A (wM u cI cZ gS gK gI gO gF gE gQ yt yn yr ym yd yk yb yc) s.heap.size) s.heap s.heap [] := va_S.rf
  have hK0 := hK.sub (tys' := []) [] rfl
  skip
  have hl := lv_entry ([.ref (u 0), .int (nI a)]) (n := 2) (Nat.le_of_ble_eq_true rfl)
  rw [lg_entry_eq]
  generalize (lg_sl ([.ref (u 0), .int (nI a)]) ++ List.replicate (2 - (lg_sl ([.ref (u 0), .int (nI a)])).length) Slot.unset).toArray = ls at hl ⊢
  have hl : lv_has ls 2 [(0, .ref (u 0)), (1, .int (nI a))] := hl
  refine lv_aload_n hx hb d_M_start_0 rfl (lv_at hl 0 rfl) ?_
  refine lv_iconst (v := nI 0) hx hb d_M_start_1 (by decide) ?_
  refine va_put (D := D) (ci := 1) (C := RM) (T := FM) (N := 15) (v := .int (nI 0)) (ty := .int) hx hb hw inM tM tM_ok nM hown hK hP hD hS 0 rfl rfl 7 (by decide) (hw _ kF_M_40) (fun _ h9 => h9) rfl (by decide +kernel) rfl rfl (Nat.le_of_ble_eq_true rfl) d_M_start_2 (fun H locs hP hD hS => ?_)
  have hP : va_P D cls2 (wM u cI cZ gS gK gI gO gF gE gQ yt 0 yr ym yd yk yb yc) H := hP
  have hD : va_D (va_A (wM u cI cZ gS gK gI gO gF gE gQ yt yn yr ym yd yk yb yc) s.heap.size) (wM u cI cZ gS gK gI gO gF gE gQ yt 0 yr ym yd yk yb yc) := hD
  refine lv_aload_n hx hb d_M_start_5 rfl (lv_at hl 0 rfl) ?_
  refine lv_iconst (v := nI 1) hx hb d_M_start_6 (by decide) ?_
  refine va_put (D := D) (ci := 1) (C := RM) (T := FM) (N := 15) (v := .int (nI 1)) (ty := .int) hx hb hw inM tM tM_ok nM hown hK hP hD hS 0 rfl rfl 8 (by decide) (hw _ kF_M_43) (fun _ h9 => h9) rfl (by decide +kernel) rfl rfl (Nat.le_of_ble_eq_true rfl) d_M_start_7 (fun H locs hP hD hS => ?_)
  have hP : va_P D cls2 (wM u cI cZ gS gK gI gO gF gE gQ yt 0 1 ym yd yk yb yc) H := hP
  have hD : va_D (va_A (wM u cI cZ gS gK gI gO gF gE gQ yt yn yr ym yd yk yb yc) s.heap.size) (wM u cI cZ gS gK gI gO gF gE gQ yt 0 1 ym yd yk yb yc) := hD
  refine lv_aload_n hx hb d_M_start_10 rfl (lv_at hl 0 rfl) ?_
  refine va_get (D := D) (ci := 1) (C := RM) (T := FM) (N := 15) (v := .ref (u 2)) hx hb hw inM hown hK hP 0 rfl rfl 2 (by decide) (hw _ kF_M_13) (fun _ h9 => h9) rfl d_M_start_11 ?_
  refine lv_iconst (v := nI 0) hx hb d_M_start_14 (by decide) ?_
  refine lv_iconst (v := nI 0) hx hb d_M_start_15 (by decide) ?_
  refine nw_iast hx hb hK hP hD hS 2 0 rfl rfl (k := 0) (x := 0) (by omega) (by decide) d_M_start_16 (fun H locs hP hD hS => ?_)
  have hP : va_P D cls2 (wM u cI cZ gS (va_up gK 0 0) gI gO gF gE gQ yt 0 1 ym yd yk yb yc) H := hP
  have hD : va_D (va_A (wM u cI cZ gS gK gI gO gF gE gQ yt yn yr ym yd yk yb yc) s.heap.size) (wM u cI cZ gS (va_up gK 0 0) gI gO gF gE gQ yt 0 1 ym yd yk yb yc) := hD
  refine lv_aload_n hx hb d_M_start_17 rfl (lv_at hl 0 rfl) ?_
  refine va_get (D := D) (ci := 1) (C := RM) (T := FM) (N := 15) (v := .ref (u 3)) hx hb hw inM hown hK hP 0 rfl rfl 3 (by decide) (hw _ kF_M_16) (fun _ h9 => h9) rfl d_M_start_18 ?_
  refine lv_iconst (v := nI 0) hx hb d_M_start_21 (by decide) ?_
  refine lv_iconst (v := nI 0) hx hb d_M_start_22 (by decide) ?_
  refine nw_iast hx hb hK hP hD hS 3 0 rfl rfl (k := 0) (x := 0) (by omega) (by decide) d_M_start_23 (fun H locs hP hD hS => ?_)
  have hP : va_P D cls2 (wM u cI cZ gS (va_up gK 0 0) (va_up gI 0 0) gO gF gE gQ yt 0 1 ym yd yk yb yc) H := hP
  have hD : va_D (va_A (wM u cI cZ gS gK gI gO gF gE gQ yt yn yr ym yd yk yb yc) s.heap.size) (wM u cI cZ gS (va_up gK 0 0) (va_up gI 0 0) gO gF gE gQ yt 0 1 ym yd yk yb yc) := hD
  refine lv_aload_n hx hb d_M_start_24 rfl (lv_at hl 0 rfl) ?_
  refine va_get (D := D) (ci := 1) (C := RM) (T := FM) (N := 15) (v := .ref (u 4)) hx hb hw inM hown hK hP 0 rfl rfl 4 (by decide) (hw _ kF_M_19) (fun _ h9 => h9) rfl d_M_start_25 ?_
  refine lv_iconst (v := nI 0) hx hb d_M_start_28 (by decide) ?_
  refine lv_iload_n hx hb d_M_start_29 rfl (lv_at hl 1 rfl) ?_
  refine nw_iast hx hb hK hP hD hS 4 0 rfl rfl (k := 0) (x := a) (by omega) (by decide) d_M_start_30 (fun H locs hP hD hS => ?_)
  have hP : va_P D cls2 (wM u cI cZ gS (va_up gK 0 0) (va_up gI 0 0) (va_up gO 0 a) gF gE gQ yt 0 1 ym yd yk yb yc) H := hP
  have hD : va_D (va_A (wM u cI cZ gS gK gI gO gF gE gQ yt yn yr ym yd yk yb yc) s.heap.size) (wM u cI cZ gS (va_up gK 0 0) (va_up gI 0 0) (va_up gO 0 a) gF gE gQ yt 0 1 ym yd yk yb yc) := hD
  refine lv_aload_n hx hb d_M_start_31 rfl (lv_at hl 0 rfl) ?_
  refine va_get (D := D) (ci := 1) (C := RM) (T := FM) (N := 15) (v := .ref (u 5)) hx hb hw inM hown hK hP 0 rfl rfl 5 (by decide) (hw _ kF_M_22) (fun _ h9 => h9) rfl d_M_start_32 ?_
  refine lv_iconst (v := nI 0) hx hb d_M_start_35 (by decide) ?_
  refine lv_iconst (v := nI 0) hx hb d_M_start_36 (by decide) ?_
  refine nw_iast hx hb hK hP hD hS 5 0 rfl rfl (k := 0) (x := 0) (by omega) (by decide) d_M_start_37 (fun H locs hP hD hS => ?_)
  have hP : va_P D cls2 (wM u cI cZ gS (va_up gK 0 0) (va_up gI 0 0) (va_up gO 0 a) (va_up gF 0 0) gE gQ yt 0 1 ym yd yk yb yc) H := hP
  have hD : va_D (va_A (wM u cI cZ gS gK gI gO gF gE gQ yt yn yr ym yd yk yb yc) s.heap.size) (wM u cI cZ gS (va_up gK 0 0) (va_up gI 0 0) (va_up gO 0 a) (va_up gF 0 0) gE gQ yt 0 1 ym yd yk yb yc) := hD
  refine lv_aload_n hx hb d_M_start_38 rfl (lv_at hl 0 rfl) ?_
  refine va_get (D := D) (ci := 1) (C := RM) (T := FM) (N := 15) (v := .ref (u 6)) hx hb hw inM hown hK hP 0 rfl rfl 6 (by decide) (hw _ kF_M_25) (fun _ h9 => h9) rfl d_M_start_39 ?_
  refine lv_iconst (v := nI 0) hx hb d_M_start_42 (by decide) ?_
  refine lv_iconst (v := nI 0) hx hb d_M_start_43 (by decide) ?_
  refine nw_zast hx hb hK hP hD hS 6 1 rfl rfl (k := 0) (x := 0) (by omega) (by decide) (by decide) d_M_start_44 (fun H locs hP hD hS => ?_)
  have hP : va_P D cls2 (wM u cI cZ gS (va_up gK 0 0) (va_up gI 0 0) (va_up gO 0 a) (va_up gF 0 0) (va_up gE 0 0) gQ yt 0 1 ym yd yk yb yc) H := hP
  have hD : va_D (va_A (wM u cI cZ gS gK gI gO gF gE gQ yt yn yr ym yd yk yb yc) s.heap.size) (wM u cI cZ gS (va_up gK 0 0) (va_up gI 0 0) (va_up gO 0 a) (va_up gF 0 0) (va_up gE 0 0) gQ yt 0 1 ym yd yk yb yc) := hD
  refine lv_aload_n hx hb d_M_start_45 rfl (lv_at hl 0 rfl) ?_
  refine lv_iconst (v := nI 0) hx hb d_M_start_46 (by decide) ?_
  refine va_put (D := D) (ci := 1) (C := RM) (T := FM) (N := 15) (v := .int (nI 0)) (ty := .int) hx hb hw inM tM tM_ok nM hown hK hP hD hS 0 rfl rfl 9 (by decide) (hw _ kF_M_46) (fun _ h9 => h9) rfl (by decide +kernel) rfl rfl (Nat.le_of_ble_eq_true rfl) d_M_start_47 (fun H locs hP hD hS => ?_)
  have hP : va_P D cls2 (wM u cI cZ gS (va_up gK 0 0) (va_up gI 0 0) (va_up gO 0 a) (va_up gF 0 0) (va_up gE 0 0) gQ yt 0 1 0 yd yk yb yc) H := hP
  have hD : va_D (va_A (wM u cI cZ gS gK gI gO gF gE gQ yt yn yr ym yd yk yb yc) s.heap.size) (wM u cI cZ gS (va_up gK 0 0) (va_up gI 0 0) (va_up gO 0 a) (va_up gF 0 0) (va_up gE 0 0) gQ yt 0 1 0 yd yk yb yc) := hD
  refine lv_aload_n hx hb d_M_start_50 rfl (lv_at hl 0 rfl) ?_
  refine lv_iconst (v := nI 0) hx hb d_M_start_51 (by decide) ?_
  refine va_put (D := D) (ci := 1) (C := RM) (T := FM) (N := 15) (v := .int (nI 0)) (ty := .int) hx hb hw inM tM tM_ok nM hown hK hP hD hS 0 rfl rfl 10 (by decide) (hw _ kF_M_49) (fun _ h9 => h9) rfl (by decide +kernel) rfl rfl (Nat.le_of_ble_eq_true rfl) d_M_start_52 (fun H locs hP hD hS => ?_)
  have hP : va_P D cls2 (wM u cI cZ gS (va_up gK 0 0) (va_up gI 0 0) (va_up gO 0 a) (va_up gF 0 0) (va_up gE 0 0) gQ yt 0 1 0 0 yk yb yc) H := hP
  have hD : va_D (va_A (wM u cI cZ gS gK gI gO gF gE gQ yt yn yr ym yd yk yb yc) s.heap.size) (wM u cI cZ gS (va_up gK 0 0) (va_up gI 0 0) (va_up gO 0 a) (va_up gF 0 0) (va_up gE 0 0) gQ yt 0 1 0 0 yk yb yc) := hD
  have hP : va_P D cls2 (wM u cI cZ gS (va_up gK 0 0) (va_up gI 0 0) (va_up gO 0 a) (va_up gF 0 0) (va_up gE 0 0) gQ yt 0 1 0 0 yk yb yc) H := by exact hP
  have hD : va_D (va_A (wM u cI cZ gS gK gI gO gF gE gQ yt yn yr ym yd yk yb yc) s.heap.size) (wM u cI cZ gS (va_up gK 0 0) (va_up gI 0 0) (va_up gO 0 a) (va_up gF 0 0) (va_up gE 0 0) gQ yt 0 1 0 0 yk yb yc) := by exact hD
  exact W.vret hx hb hrt (fun t ht _ => ⟨⟨rfl, by rw [ht]; exact hP, hD⟩, hS.F ht⟩) hS.2.2 d_M_start_55

set_option maxHeartbeats 4000000 in
set_option maxRecDepth 100000 in
theorem c_M_noLabel (l : Launch) (D : va_G) (u : Nat → Nat) (cI cZ : ClassId) (gS gK gI gO gF gE gQ : Nat → Nat) (yt yn yr ym yd yk yb yc : Nat) (x : Int32) (sz : Nat) : Met l y_M_noLabel w_M_noLabel (rmR 0) (PW D [(cI, .int), (cZ, .boolean)] (wM u cI cZ gS gK gI gO gF gE gQ yt yn yr ym yd yk yb yc) sz [.ref (u 0), .int x]) (QR (some (.int (nI (nlb yr x))))) 0 0 (fun _ => False) := by
  refine Met.ofW (cc := b_M_noLabel) (maxL := 2) (ret := (some .boolean)) (by decide) rfl ?_
  intro p e s m args below meth c s₁ B hml hv
  obtain ⟨rfl, hsz, hP, hK, hD0, hE⟩ := hv
  have hx := B.exec
  have hb := B.bytes
  have hrt := B.returns
  have hts := atoms_spec (ws := w_M_noLabel) B.pre
  have hw : ∀ w ∈ bw, w.before ([.ref (u 0), .int x]).toArray s = true := fun w h => hts w (List.mem_cons_of_mem _ h)
  have hown : s.vm.findClass "TypeStackModel" = some m.cls := findClass_of_methodNamed B.named
  have hlocks := B.notSynchronized
  subst hsz
  have hD := hD0.self (sz := s.heap.size)
  have hA : ∀ q : Nat, s.heap.size ≤ q → va_A (wM u cI cZ gS gK gI gO gF gE gQ yt yn yr ym yd yk yb yc) s.heap.size q := fun q h => Or.inr h
  have hS : va_S (va_A (wM u cI cZ gS gK gI gO gF gE gQ yt yn yr ym yd yk yb yc) s.heap.size) s.heap s.heap [] := va_S.rf
  have hK0 := hK.sub (tys' := []) [] rfl
  have hl := lv_entry ([.ref (u 0), .int x]) (n := 2) (Nat.le_of_ble_eq_true rfl)
  rw [lg_entry_eq]
  generalize (lg_sl ([.ref (u 0), .int x]) ++ List.replicate (2 - (lg_sl ([.ref (u 0), .int x])).length) Slot.unset).toArray = ls at hl ⊢
  have hl : lv_has ls 2 [(0, .ref (u 0)), (1, .int x)] := hl
  refine lv_iload_n hx hb d_M_noLabel_0 rfl (lv_at hl 1 rfl) ?_
  refine lv_if_lt hx hb (tgt := 12) d_M_noLabel_1 (by decide) (fun h1 => ?_) (fun h1 => ?_)
  · skip
    refine lv_iconst (v := nI 1) hx hb d_M_noLabel_12 (by decide) ?_
    refine lv_goto hx hb d_M_noLabel_13 (tgt := 17) (by decide) ?_
    refine nw_is (y := nI (nlb yr x)) ((nlb_lo h1).symm) ?_
    exact W.zret hx hb hrt (zn2 (nlb_le _ _)) (fun t ht _ => ⟨rfl, ht⟩) (fun q h => nomatch h) d_M_noLabel_17
  · skip
    refine lv_iload_n hx hb d_M_noLabel_4 rfl (lv_at hl 1 rfl) ?_
    refine lv_aload_n hx hb d_M_noLabel_5 rfl (lv_at hl 0 rfl) ?_
    refine va_get (D := D) (ci := 1) (C := RM) (T := FM) (N := 15) (v := .int (nI yr)) hx hb hw inM hown hK hP 0 rfl rfl 8 (by decide) (hw _ kF_M_43) (fun _ h9 => h9) rfl d_M_noLabel_6 ?_
    refine lv_icmp_lt hx hb (tgt := 16) d_M_noLabel_9 (by decide) (fun h9 => ?_) (fun h9 => ?_)
    · skip
      refine lv_iconst (v := nI 0) hx hb d_M_noLabel_16 (by decide) ?_
      refine nw_is (y := nI (nlb yr x)) ((nlb_in h1 h9).symm) ?_
      exact W.zret hx hb hrt (zn2 (nlb_le _ _)) (fun t ht _ => ⟨rfl, ht⟩) (fun q h => nomatch h) d_M_noLabel_17
    · skip
      refine lv_iconst (v := nI 1) hx hb d_M_noLabel_12 (by decide) ?_
      refine lv_goto hx hb d_M_noLabel_13 (tgt := 17) (by decide) ?_
      refine nw_is (y := nI (nlb yr x)) ((nlb_hi h9).symm) ?_
      exact W.zret hx hb hrt (zn2 (nlb_le _ _)) (fun t ht _ => ⟨rfl, ht⟩) (fun q h => nomatch h) d_M_noLabel_17

set_option maxHeartbeats 4000000 in
set_option maxRecDepth 100000 in
theorem c_M_wants (l : Launch) (D : va_G) (u : Nat → Nat) (cI cZ : ClassId) (gS gK gI gO gF gE gQ : Nat → Nat) (yt yn yr ym yd yk yb yc : Nat) (a : Nat) (ha : a < yr) (hr2 : yr ≤ 41) (giK : ∀ j, gK j < 4) (sz : Nat) : Met l y_M_wants w_M_wants (rmR 0) (PW D [(cI, .int), (cZ, .boolean)] (wM u cI cZ gS gK gI gO gF gE gQ yt yn yr ym yd yk yb yc) sz [.ref (u 0), .int (nI a)]) (QR (some (.int (nI (wnt gK gI gO (yr - 1 - a)))))) 0 0 (fun _ => False) := by
  refine Met.ofW (cc := b_M_wants) (maxL := 3) (ret := (some .int)) (by decide) rfl ?_
  intro p e s m args below meth c s₁ B hml hv
  obtain ⟨rfl, hsz, hP, hK, hD0, hE⟩ := hv
  have hx := B.exec
  have hb := B.bytes
  have hrt := B.returns
  have hts := atoms_spec (ws := w_M_wants) B.pre
  have hw : ∀ w ∈ bw, w.before ([.ref (u 0), .int (nI a)]).toArray s = true := fun w h => hts w (List.mem_cons_of_mem _ h)
  have hown : s.vm.findClass "TypeStackModel" = some m.cls := findClass_of_methodNamed B.named
  have hlocks := B.notSynchronized
  subst hsz
  have hD := hD0.self (sz := s.heap.size)
  have hA : ∀ q : Nat, s.heap.size ≤ q → va_A (wM u cI cZ gS gK gI gO gF gE gQ yt yn yr ym yd yk yb yc) s.heap.size q := fun q h => Or.inr h
  have hS : va_S (va_A (wM u cI cZ gS gK gI gO gF gE gQ yt yn yr ym yd yk yb yc) s.heap.size) s.heap s.heap [] := va_S.rf
  have hK0 := hK.sub (tys' := []) [] rfl
  have hl := lv_entry ([.ref (u 0), .int (nI a)]) (n := 3) (Nat.le_of_ble_eq_true rfl)
  rw [lg_entry_eq]
  generalize (lg_sl ([.ref (u 0), .int (nI a)]) ++ List.replicate (3 - (lg_sl ([.ref (u 0), .int (nI a)])).length) Slot.unset).toArray = ls at hl ⊢
  have hl : lv_has ls 3 [(0, .ref (u 0)), (1, .int (nI a))] := hl
  refine lv_aload_n hx hb d_M_wants_0 rfl (lv_at hl 0 rfl) ?_
  refine va_get (D := D) (ci := 1) (C := RM) (T := FM) (N := 15) (v := .int (nI yr)) hx hb hw inM hown hK hP 0 rfl rfl 8 (by decide) (hw _ kF_M_43) (fun _ h9 => h9) rfl d_M_wants_1 ?_
  refine lv_iconst (v := nI 1) hx hb d_M_wants_4 (by decide) ?_
  refine nw_sub hx hb (by omega) d_M_wants_5 ?_
  refine lv_iload_n hx hb d_M_wants_6 rfl (lv_at hl 1 rfl) ?_
  refine nw_sub hx hb (by omega) d_M_wants_7 ?_
  refine lv_istore_n (lv' := [(2, .int (nI ((yr - 1) - a))), (0, .ref (u 0)), (1, .int (nI a))]) hx hb d_M_wants_8 rfl hl (by decide) rfl (fun ls hl => ?_)
  refine lv_aload_n hx hb d_M_wants_9 rfl (lv_at hl 1 rfl) ?_
  refine va_get (D := D) (ci := 1) (C := RM) (T := FM) (N := 15) (v := .ref (u 2)) hx hb hw inM hown hK hP 0 rfl rfl 2 (by decide) (hw _ kF_M_13) (fun _ h9 => h9) rfl d_M_wants_10 ?_
  refine lv_iload_n hx hb d_M_wants_13 rfl (lv_at hl 0 rfl) ?_
  refine nw_iald hx hb hK hP 2 0 rfl rfl (k := (yr - 1) - a) (by omega) (by decide) d_M_wants_14 ?_
  have b14 := giK ((yr - 1) - a)
  refine lv_iconst (v := nI 1) hx hb d_M_wants_15 (by decide) ?_
  refine nw_ne hx hb (tgt := 28) d_M_wants_16 (by decide) (by omega) (by omega) (fun h16 => ?_) (fun h16 => ?_)
  · skip
    refine lv_aload_n hx hb d_M_wants_28 rfl (lv_at hl 1 rfl) ?_
    refine va_get (D := D) (ci := 1) (C := RM) (T := FM) (N := 15) (v := .ref (u 4)) hx hb hw inM hown hK hP 0 rfl rfl 4 (by decide) (hw _ kF_M_19) (fun _ h9 => h9) rfl d_M_wants_29 ?_
    refine lv_iload_n hx hb d_M_wants_32 rfl (lv_at hl 0 rfl) ?_
    refine nw_iald hx hb hK hP 4 0 rfl rfl (k := (yr - 1) - a) (by omega) (by decide) d_M_wants_33 ?_
    refine nw_is (y := nI (wnt gK gI gO (yr - 1 - a))) (by unfold wnt; (repeat' split) <;> first | rfl | (exfalso; omega)) ?_
    exact W.iret hx hb hrt (fun t ht _ => ⟨rfl, ht⟩) (fun q h => nomatch h) d_M_wants_34
  · skip
    refine lv_aload_n hx hb d_M_wants_19 rfl (lv_at hl 1 rfl) ?_
    refine va_get (D := D) (ci := 1) (C := RM) (T := FM) (N := 15) (v := .ref (u 3)) hx hb hw inM hown hK hP 0 rfl rfl 3 (by decide) (hw _ kF_M_16) (fun _ h9 => h9) rfl d_M_wants_20 ?_
    refine lv_iload_n hx hb d_M_wants_23 rfl (lv_at hl 0 rfl) ?_
    refine nw_iald hx hb hK hP 3 0 rfl rfl (k := (yr - 1) - a) (by omega) (by decide) d_M_wants_24 ?_
    refine lv_goto hx hb d_M_wants_25 (tgt := 34) (by decide) ?_
    refine nw_is (y := nI (wnt gK gI gO (yr - 1 - a))) (by unfold wnt; (repeat' split) <;> first | rfl | (exfalso; omega)) ?_
    exact W.iret hx hb hrt (fun t ht _ => ⟨rfl, ht⟩) (fun q h => nomatch h) d_M_wants_34
