/-! The law's loop, case by case. -/
abbrev lwW (z u : Nat → Nat) (o : Nat) (cI cZ cL : ClassId) (fT fK fA fB fF fE : Nat → Nat) (xh xg xr xn : Nat) (gS gK gI gO gF gE gQ : Nat → Nat) (yt yn yr ym yd yk yb yc : Nat) (g : Nat → Int64) : va_W :=
  (o, .inl (cL, 1, .inr (.inl g))) :: (wM u cI cZ gS gK gI gO gF gE gQ yt yn yr ym yd yk yb yc ++ wT z cI cZ fT fK fA fB fF fE xh xg xr xn)
/-- what holds at the loop's head -/
def LW (D : va_G) (z u : Nat → Nat) (o : Nat) (cI cZ cL : ClassId) (s : State) (H : Heap) (locs : List Loc) : Prop :=
  ∃ fT fK fA fB fF fE : Nat → Nat, ∃ xh xg xr xn : Nat, ∃ gS gK gI gO gF gE gQ : Nat → Nat, ∃ yt yn yr ym yd yk yb yc : Nat, ∃ g : Nat → Int64,
    IT fT fK fA fB fF fE xh xg xr ∧ IV fA fF xh xg xr ∧ IM gS gK gI gO gF gE yn ym yr ∧ Rel fT fK fA fB fF fE xh xg xr xn gS gK gI gO gF gE yn ym yr yd ∧
    va_P D cls2 (lwW z u o cI cZ cL fT fK fA fB fF fE xh xg xr xn gS gK gI gO gF gE gQ yt yn yr ym yd yk yb yc g) H ∧ va_D (fun q => s.heap.size ≤ q) (lwW z u o cI cZ cL fT fK fA fB fF fE xh xg xr xn gS gK gI gO gF gE gQ yt yn yr ym yd yk yb yc g) ∧ va_S (fun q => s.heap.size ≤ q) s.heap H locs
def LC (l : Launch) (p : Program) (s : State) (m : MethodId) (meth : Method) (c : Code) (b L : Nat) (xs : Nat → Int32) (D : va_G) (cI cZ cL : ClassId) : Prop :=
  l.stackTraces = false ∧ p.tables.exec = Jvm.exec ∧ c.code = code ∧ c.maxLocals = 7 ∧ s.vm.findClass "TypeStackLaw" = some m.cls ∧ (∀ w ∈ bw, w.before #[Value.ref b] s = true) ∧ va_X b L xs s s.heap ∧ b < s.heap.size ∧ Ev (fun q => s.heap.size ≤ q) s ∧ Nc s ∧ va_K D cls2 [(cI, .int), (cZ, .boolean), (cL, .long)] s
theorem rel_t {a b c d e f gS gK gI gO gF gE hS hK hI hO hF' hE : Nat → Nat} {k m n o yn ym yr yd zn zm zr zd : Nat} (p : Rel a b c d e f k m n o gS gK gI gO gF gE yn ym yr yd) (q : Rel gS gK gI gO gF gE yn ym yr yd hS hK hI hO hF' hE zn zm zr zd) : Rel a b c d e f k m n o hS hK hI hO hF' hE zn zm zr zd :=
  rel_tr (g := a) (h := a) (i := a) (j := a) p q
theorem opt_cs (a : Option String) : a = none ∨ ∃ E, a = some E := by
  cases a with
  | none => exact Or.inl rfl
  | some E => exact Or.inr ⟨E, rfl⟩
theorem cdl_in : ∀ (l : List String) (e : String), cdl l e ≤ l.length := by
  intro l
  induction l with
  | nil => intro e; exact Nat.le_refl _
  | cons a l ih => intro e; unfold cdl; split
                   · exact Nat.succ_le_succ (Nat.zero_le _)
                   · exact Nat.succ_le_succ (ih e)
theorem cdl_pos (a : String) (l : List String) (e : String) : 0 < cdl (a :: l) e := by
  unfold cdl; split
  · decide
  · exact Nat.succ_pos _
theorem lgc (x : Int64) : lg_cmp x x = nI 0 := by simp [lg_cmp]; rfl
section LAW
variable {p : Program} {l : Launch} {e : Env} {s : State} {m : MethodId} {below : List Frame} {meth : Method} {c : Code} {H : Heap} {locs : List Loc} {Q : State → Prop}
variable {b L i j : Nat} {xs : Nat → Int32} {D : va_G} {z u : Nat → Nat} {o : Nat} {cI cZ cL : ClassId} {ls : Array Slot}
theorem nw_sld {R : Room} {args : Array Value} {A : Nat → Prop} {cells slots pc k : Nat} {cc : ByteArray} {rest : List Value} {H0 : Heap} (hx : p.tables.exec = Jvm.exec) (hb : c.code = cc) (hX : va_X b L xs s H0) (hbl : b < H0.size) (hbA : ¬ A b) (hS : va_S A H0 H locs) (hk : k < L) (hL : L < 2 ^ 31) (d : decode cc pc = .ok (.iaload, 1))
    (kk : W p l e R s m args below meth c H locs cells slots Q (F0 m (pc + 1) ls (.int (xs k) :: rest))) : W p l e R s m args below meth c H locs cells slots Q (F0 m pc ls (.int (nI k) :: .ref b :: rest)) :=
  va_sld hx hb hX hbl hbA hS (vp_in_nI hk hL) d (by rw [nI_clamp (Nat.lt_trans hk hL)]; exact kk)
set_option maxHeartbeats 1000000 in
set_option maxRecDepth 100000 in
theorem law_begin (K : LC l p s m meth c b L xs D cI cZ cL) (hi4 : i + 4 ≤ L) (hL : L ≤ 2048) (hj : j < 512) (hw0 : LW D z u o cI cZ cL s H locs) (hl : lv_has ls 7 [(4, .int (nI i)), (3, .ref o), (2, .ref (u 0)), (1, .ref (z 0)), (0, .ref b)])
    (kk : ∀ (H : Heap) (locs : List Loc) (ls : Array Slot), LW D z u o cI cZ cL s H locs → lv_has ls 7 [(4, .int (nI i)), (3, .ref o), (2, .ref (u 0)), (1, .ref (z 0)), (0, .ref b)] → W p l e room_1 s m #[Value.ref b] below meth c H locs (16 + (j + 1)) (1531 + 6 * (j + 1)) Q (F0 m 758 ls [])) : W p l e room_1 s m #[Value.ref b] below meth c H locs (16 + j) (1531 + 6 * j) Q (F0 m 112 ls []) := by
  obtain ⟨hl0, hx, hb, hml, hown, hw, hX, hbl, hE, hN, hK⟩ := K
  obtain ⟨fT, fK, fA, fB, fF, fE, xh, xg, xr, xn, gS, gK, gI, gO, gF, gE, gQ, yt, yn, yr, ym, yd, yk, yb, yc, g, hi0, hv0, hm0, hrel0, hP, hD, hS⟩ := hw0
  obtain ⟨rfl, rfl, rfl, rfl, hT, hF⟩ := hrel0
  have hA : ∀ q : Nat, s.heap.size ≤ q → (fun q => s.heap.size ≤ q) q := fun q h => h
  have hbA : ¬ (fun q => s.heap.size ≤ q) b := Nat.not_le.mpr hbl
  have hfl : 1 ≤ xr → gF (xr - 1) ≤ xh := fun h => by rw [← (hF (xr - 1) (by omega)).2.2.2.1]; exact hv0.2.1 h
  have hmo : xh ≤ xg := hv0.2.2.2
  have hro : ∀ j, j < xr → gF j + szL 6 (gI j) ≤ 300 := fun j h => by rw [← (hF j h).2.2.2.1, ← (hF j h).2.1]; exact hv0.2.2.1 j h
  have hK2 := hK.sub (tys' := [(cI, .int), (cZ, .boolean)]) [0, 1] rfl
  refine lv_aload_n hx hb d_L_law_112 rfl (lv_at hl 3 rfl) ?_
  refine lv_aload_n hx hb d_L_law_113 rfl (lv_at hl 4 rfl) ?_
  refine lv_iload hx hb d_L_law_114 (lv_at hl 0 rfl) ?_
  refine lv_iconst (v := nI 1) hx hb d_L_law_116 (by decide) ?_
  refine nw_add hx hb d_L_law_117 ?_
  refine nw_sld hx hb hX hbl hbA hS (k := i + 1) (by omega) (by omega) d_L_law_118 ?_
  have hPc := hP.sub (ws' := (wT z cI cZ fT fK fA fB fF fE xh xg xr xn)) [9, 10, 11, 12, 13, 14, 15] rfl
  have hDc := hD.sub (ws' := (wT z cI cZ fT fK fA fB fF fE xh xg xr xn)) [9, 10, 11, 12, 13, 14, 15] (by decide) rfl
  refine cl_j (Wc := (wT z cI cZ fT fK fA fB fF fE xh xg xr xn)) (Wr := ((o, .inl (cL, 1, .inr (.inl g))) :: wM u cI cZ gS gK gI gO gF gE gQ yt xh xr xg xn yk yb yc)) hP hD hS hA [9, 10, 11, 12, 13, 14, 15] [0, 1, 2, 3, 4, 5, 6, 7, 8] rfl rfl (by decide) (by decide) (vx_runSW (As := [.ref (z 0), .int (xs (i + 1))]) (rest := []) ⟨hx, hb, hml, hown, hw⟩ (c_L_begin l hl0 D z cI cZ fT fK fA fB fF fE xh xg xr xn hi0 (xs (i + 1)) cL H.size) (vx_cwSW 2 hw g_L_68 rfl rfl rfl ⟨by decide, by decide, by decide +kernel⟩ ⟨by decide, by decide⟩) ⟨PL.blind, PL.pre hPc hK hDc hS hA hE hN⟩ rfl rfl hl.1 rfl (lv_room (Nat.le_of_ble_eq_true rfl)) d_L_law_119 ⟨by show _ ≤ 1054; omega, by show _ ≤ 9807; omega⟩) (fun _ _ _ h => h.2) (fun v1 st1 t1 H locs hq ht hJ hS hvm => ?_)
  obtain ⟨⟨q1, q2⟩, -⟩ := hq
  rcases opt_cs (xl (xs (i + 1))) with her | ⟨E, her⟩
  · skip
    obtain ⟨hr1, hP1, hD1⟩ := q1 her
    cases hr1
    rw [ht] at hP1
    obtain ⟨hP, hD⟩ := hJ _ hP1 hD1
    have hP := hP.sub (ws' := ((o, .inl (cL, 1, .inr (.inl g))) :: (wM u cI cZ gS gK gI gO gF gE gQ yt xh xr xg xn yk yb yc ++ wT z cI cZ fT (va_up fK 0 0) (va_up fA 0 0) (va_up fB 0 (xs (i + 1)).toNatClampNeg) (va_up fF 0 0) (va_up fE 0 0) 0 0 (0 + 1) 0))) [0, 1, 2, 3, 4, 5, 6, 7, 8, 9, 10, 11, 12, 13, 14, 15] rfl
    have hD := hD.sub (ws' := ((o, .inl (cL, 1, .inr (.inl g))) :: (wM u cI cZ gS gK gI gO gF gE gQ yt xh xr xg xn yk yb yc ++ wT z cI cZ fT (va_up fK 0 0) (va_up fA 0 0) (va_up fB 0 (xs (i + 1)).toNatClampNeg) (va_up fF 0 0) (va_up fE 0 0) 0 0 (0 + 1) 0))) [0, 1, 2, 3, 4, 5, 6, 7, 8, 9, 10, 11, 12, 13, 14, 15] (by decide) rfl
    refine lv_istore (lv' := [(5, .int (nI 0)), (4, .int (nI i)), (3, .ref o), (2, .ref (u 0)), (1, .ref (z 0)), (0, .ref b)]) hx hb d_L_law_122 hl (by decide) rfl (fun ls hl => ?_)
    refine lv_aload_n hx hb d_L_law_124 rfl (lv_at hl 3 rfl) ?_
    refine lv_aload_n hx hb d_L_law_125 rfl (lv_at hl 5 rfl) ?_
    refine lv_iload hx hb d_L_law_126 (lv_at hl 1 rfl) ?_
    refine lv_iconst (v := nI 1) hx hb d_L_law_128 (by decide) ?_
    refine nw_add hx hb d_L_law_129 ?_
    refine nw_sld hx hb hX hbl hbA hS (k := i + 1) (by omega) (by omega) d_L_law_130 ?_
    have hPm := hP.sub (ws' := (wM u cI cZ gS gK gI gO gF gE gQ yt xh xr xg xn yk yb yc)) [1, 2, 3, 4, 5, 6, 7, 8] rfl
    have hDm := hD.sub (ws' := (wM u cI cZ gS gK gI gO gF gE gQ yt xh xr xg xn yk yb yc)) [1, 2, 3, 4, 5, 6, 7, 8] (by decide) rfl
    refine cl_j (Wc := (wM u cI cZ gS gK gI gO gF gE gQ yt xh xr xg xn yk yb yc)) (Wr := ((o, .inl (cL, 1, .inr (.inl g))) :: wT z cI cZ fT (va_up fK 0 0) (va_up fA 0 0) (va_up fB 0 (xs (i + 1)).toNatClampNeg) (va_up fF 0 0) (va_up fE 0 0) 0 0 (0 + 1) 0)) hP hD hS hA [1, 2, 3, 4, 5, 6, 7, 8] [0, 9, 10, 11, 12, 13, 14, 15] rfl rfl (by decide) (by decide) (va_runV (b := u 0) (C := "TypeStackModel") (As := [.int (xs (i + 1))]) (rest := []) ⟨hx, hb, hml, hown, hw⟩ (c_M_begin l D u cI cZ gS gK gI gO gF gE gQ yt xh xr xg xn yk yb yc hm0 (xs (i + 1)) H.size) (cwV 1 hw g_L_73 rfl rfl rfl ⟨rfl, by decide, by decide, by decide +kernel⟩ ⟨by decide, by decide⟩) ⟨PW.blind, va_recv (q := (RM, FM, 15)) (ci := 1) (q0 := 0) hK2 hPm rfl rfl, PW.pre hPm hK2 hDm hS hA hE⟩ rfl rfl hl.1 rfl (lv_room (Nat.le_of_ble_eq_true rfl)) d_L_law_131 ⟨by show _ ≤ 1054; omega, by show _ ≤ 9807; omega⟩) (fun _ _ _ h => h.2) (fun v2 st2 t2 H locs hq ht hJ hS hvm2 => ?_)
    obtain ⟨⟨gS1, gK1, gI1, gO1, gF1, gE1, gQ1, yt1, yn1, yr1, ym1, yd1, yk1, yb1, yc1, v3, hr2, hpo, hm1, hP1, hD1⟩, -⟩ := hq
    cases hr2
    rw [ht] at hP1
    obtain ⟨hP, hD⟩ := hJ _ hP1 hD1
    have hP := hP.sub (ws' := ((o, .inl (cL, 1, .inr (.inl g))) :: (wM u cI cZ gS1 gK1 gI1 gO1 gF1 gE1 gQ1 yt1 yn1 yr1 ym1 yd1 yk1 yb1 yc1 ++ wT z cI cZ fT (va_up fK 0 0) (va_up fA 0 0) (va_up fB 0 (xs (i + 1)).toNatClampNeg) (va_up fF 0 0) (va_up fE 0 0) 0 0 (0 + 1) 0))) [0, 8, 9, 10, 11, 12, 13, 14, 15, 1, 2, 3, 4, 5, 6, 7] rfl
    have hD := hD.sub (ws' := ((o, .inl (cL, 1, .inr (.inl g))) :: (wM u cI cZ gS1 gK1 gI1 gO1 gF1 gE1 gQ1 yt1 yn1 yr1 ym1 yd1 yk1 yb1 yc1 ++ wT z cI cZ fT (va_up fK 0 0) (va_up fA 0 0) (va_up fB 0 (xs (i + 1)).toNatClampNeg) (va_up fF 0 0) (va_up fE 0 0) 0 0 (0 + 1) 0))) [0, 8, 9, 10, 11, 12, 13, 14, 15, 1, 2, 3, 4, 5, 6, 7] (by decide) rfl
    obtain ⟨hyt, hvv, hrel⟩ := hpo.1 ((A_begin hT hF (xs (i + 1))).symm.trans her)
    subst hvv
    obtain ⟨hi1, hv1⟩ := D_begin hi0 hv0 (xs (i + 1)) her
    have hrel_ := rel_t (C_begin hT hF (xs (i + 1)) her) hrel
    refine lv_aload_n hx hb d_L_law_134 rfl (lv_at hl 3 rfl) ?_
    have hPm := hP.sub (ws' := (wM u cI cZ gS1 gK1 gI1 gO1 gF1 gE1 gQ1 yt1 yn1 yr1 ym1 yd1 yk1 yb1 yc1)) [1, 2, 3, 4, 5, 6, 7, 8] rfl
    have hDm := hD.sub (ws' := (wM u cI cZ gS1 gK1 gI1 gO1 gF1 gE1 gQ1 yt1 yn1 yr1 ym1 yd1 yk1 yb1 yc1)) [1, 2, 3, 4, 5, 6, 7, 8] (by decide) rfl
    refine cl_r (v := some (.int (nI yt1))) (W.runV (b := u 0) (C := "TypeStackModel") (As := []) (rest := []) ⟨hx, hb, hml, hown, hw⟩ (c_M_thrown l D u cI cZ gS1 gK1 gI1 gO1 gF1 gE1 gQ1 yt1 yn1 yr1 ym1 yd1 yk1 yb1 yc1 H.size) (cwV 0 hw g_L_74 rfl rfl rfl ⟨rfl, by decide, by decide, by decide +kernel⟩ ⟨by decide, by decide⟩) ⟨PW.blind, va_recv (q := (RM, FM, 15)) (ci := 1) (q0 := 0) hK2 hPm rfl rfl, PW.pre hPm hK2 hDm hS hA hE⟩ rfl rfl hl.1 rfl (lv_room (Nat.le_of_ble_eq_true rfl)) d_L_law_135 ⟨by show _ ≤ 1054; omega, by show _ ≤ 9807; omega⟩) ?_
    refine lv_iload hx hb d_L_law_138 (lv_at hl 0 rfl) ?_
    have hkl : 0 < 2 ^ 31 := by decide
    refine nw_eq hx hb (tgt := 145) d_L_law_140 (by decide) (by omega) hkl (fun h => ?_) (fun h => absurd hyt h)
    refine lv_goto hx hb d_L_law_145 (tgt := 758) (by decide) ?_
    refine W.widen (k := 16 + (j + 1)) (n := 1531 + 6 * (j + 1)) (by omega) (by omega) ?_
    exact kk _ _ _ ⟨fT, (va_up fK 0 0), (va_up fA 0 0), (va_up fB 0 (xs (i + 1)).toNatClampNeg), (va_up fF 0 0), (va_up fE 0 0), 0, 0, (0 + 1), 0, gS1, gK1, gI1, gO1, gF1, gE1, gQ1, yt1, yn1, yr1, ym1, yd1, yk1, yb1, yc1, g, hi1, hv1, hm1, hrel_, hP, hD, hS⟩ (lv_sub hl [1, 2, 3, 4, 5] rfl)
  · skip
    obtain ⟨hr1, hP1, hD1⟩ := q2 E her
    cases hr1
    rw [ht] at hP1
    obtain ⟨hP, hD⟩ := hJ _ hP1 hD1
    have hP := hP.sub (ws' := ((o, .inl (cL, 1, .inr (.inl g))) :: (wM u cI cZ gS gK gI gO gF gE gQ yt xh xr xg xn yk yb yc ++ wT z cI cZ fT fK fA fB fF fE xh xg xr xn))) [0, 1, 2, 3, 4, 5, 6, 7, 8, 9, 10, 11, 12, 13, 14, 15] rfl
    have hD := hD.sub (ws' := ((o, .inl (cL, 1, .inr (.inl g))) :: (wM u cI cZ gS gK gI gO gF gE gQ yt xh xr xg xn yk yb yc ++ wT z cI cZ fT fK fA fB fF fE xh xg xr xn))) [0, 1, 2, 3, 4, 5, 6, 7, 8, 9, 10, 11, 12, 13, 14, 15] (by decide) rfl
    refine lv_istore (lv' := [(5, .int (nI (cdl [IAE] E))), (4, .int (nI i)), (3, .ref o), (2, .ref (u 0)), (1, .ref (z 0)), (0, .ref b)]) hx hb d_L_law_122 hl (by decide) rfl (fun ls hl => ?_)
    refine lv_aload_n hx hb d_L_law_124 rfl (lv_at hl 3 rfl) ?_
    refine lv_aload_n hx hb d_L_law_125 rfl (lv_at hl 5 rfl) ?_
    refine lv_iload hx hb d_L_law_126 (lv_at hl 1 rfl) ?_
    refine lv_iconst (v := nI 1) hx hb d_L_law_128 (by decide) ?_
    refine nw_add hx hb d_L_law_129 ?_
    refine nw_sld hx hb hX hbl hbA hS (k := i + 1) (by omega) (by omega) d_L_law_130 ?_
    have hPm := hP.sub (ws' := (wM u cI cZ gS gK gI gO gF gE gQ yt xh xr xg xn yk yb yc)) [1, 2, 3, 4, 5, 6, 7, 8] rfl
    have hDm := hD.sub (ws' := (wM u cI cZ gS gK gI gO gF gE gQ yt xh xr xg xn yk yb yc)) [1, 2, 3, 4, 5, 6, 7, 8] (by decide) rfl
    refine cl_j (Wc := (wM u cI cZ gS gK gI gO gF gE gQ yt xh xr xg xn yk yb yc)) (Wr := ((o, .inl (cL, 1, .inr (.inl g))) :: wT z cI cZ fT fK fA fB fF fE xh xg xr xn)) hP hD hS hA [1, 2, 3, 4, 5, 6, 7, 8] [0, 9, 10, 11, 12, 13, 14, 15] rfl rfl (by decide) (by decide) (va_runV (b := u 0) (C := "TypeStackModel") (As := [.int (xs (i + 1))]) (rest := []) ⟨hx, hb, hml, hown, hw⟩ (c_M_begin l D u cI cZ gS gK gI gO gF gE gQ yt xh xr xg xn yk yb yc hm0 (xs (i + 1)) H.size) (cwV 1 hw g_L_73 rfl rfl rfl ⟨rfl, by decide, by decide, by decide +kernel⟩ ⟨by decide, by decide⟩) ⟨PW.blind, va_recv (q := (RM, FM, 15)) (ci := 1) (q0 := 0) hK2 hPm rfl rfl, PW.pre hPm hK2 hDm hS hA hE⟩ rfl rfl hl.1 rfl (lv_room (Nat.le_of_ble_eq_true rfl)) d_L_law_131 ⟨by show _ ≤ 1054; omega, by show _ ≤ 9807; omega⟩) (fun _ _ _ h => h.2) (fun v2 st2 t2 H locs hq ht hJ hS hvm2 => ?_)
    obtain ⟨⟨gS1, gK1, gI1, gO1, gF1, gE1, gQ1, yt1, yn1, yr1, ym1, yd1, yk1, yb1, yc1, v3, hr2, hpo, hm1, hP1, hD1⟩, -⟩ := hq
    cases hr2
    rw [ht] at hP1
    obtain ⟨hP, hD⟩ := hJ _ hP1 hD1
    have hP := hP.sub (ws' := ((o, .inl (cL, 1, .inr (.inl g))) :: (wM u cI cZ gS1 gK1 gI1 gO1 gF1 gE1 gQ1 yt1 yn1 yr1 ym1 yd1 yk1 yb1 yc1 ++ wT z cI cZ fT fK fA fB fF fE xh xg xr xn))) [0, 8, 9, 10, 11, 12, 13, 14, 15, 1, 2, 3, 4, 5, 6, 7] rfl
    have hD := hD.sub (ws' := ((o, .inl (cL, 1, .inr (.inl g))) :: (wM u cI cZ gS1 gK1 gI1 gO1 gF1 gE1 gQ1 yt1 yn1 yr1 ym1 yd1 yk1 yb1 yc1 ++ wT z cI cZ fT fK fA fB fF fE xh xg xr xn))) [0, 8, 9, 10, 11, 12, 13, 14, 15, 1, 2, 3, 4, 5, 6, 7] (by decide) rfl
    obtain ⟨hyt, hvv, hrel⟩ := hpo.2 E ((A_begin hT hF (xs (i + 1))).symm.trans her)
    subst hvv
    have hrel_ := rel_t ⟨rfl, rfl, rfl, rfl, hT, hF⟩ hrel
    refine lv_aload_n hx hb d_L_law_134 rfl (lv_at hl 3 rfl) ?_
    have hPm := hP.sub (ws' := (wM u cI cZ gS1 gK1 gI1 gO1 gF1 gE1 gQ1 yt1 yn1 yr1 ym1 yd1 yk1 yb1 yc1)) [1, 2, 3, 4, 5, 6, 7, 8] rfl
    have hDm := hD.sub (ws' := (wM u cI cZ gS1 gK1 gI1 gO1 gF1 gE1 gQ1 yt1 yn1 yr1 ym1 yd1 yk1 yb1 yc1)) [1, 2, 3, 4, 5, 6, 7, 8] (by decide) rfl
    refine cl_r (v := some (.int (nI yt1))) (W.runV (b := u 0) (C := "TypeStackModel") (As := []) (rest := []) ⟨hx, hb, hml, hown, hw⟩ (c_M_thrown l D u cI cZ gS1 gK1 gI1 gO1 gF1 gE1 gQ1 yt1 yn1 yr1 ym1 yd1 yk1 yb1 yc1 H.size) (cwV 0 hw g_L_74 rfl rfl rfl ⟨rfl, by decide, by decide, by decide +kernel⟩ ⟨by decide, by decide⟩) ⟨PW.blind, va_recv (q := (RM, FM, 15)) (ci := 1) (q0 := 0) hK2 hPm rfl rfl, PW.pre hPm hK2 hDm hS hA hE⟩ rfl rfl hl.1 rfl (lv_room (Nat.le_of_ble_eq_true rfl)) d_L_law_135 ⟨by show _ ≤ 1054; omega, by show _ ≤ 9807; omega⟩) ?_
    refine lv_iload hx hb d_L_law_138 (lv_at hl 0 rfl) ?_
    have hkl : cdl [IAE] E < 2 ^ 31 := Nat.lt_of_le_of_lt (cdl_in _ _) (by decide)
    refine nw_eq hx hb (tgt := 145) d_L_law_140 (by decide) (by omega) hkl (fun h => ?_) (fun h => absurd hyt h)
    refine lv_goto hx hb d_L_law_145 (tgt := 758) (by decide) ?_
    refine W.widen (k := 16 + (j + 1)) (n := 1531 + 6 * (j + 1)) (by omega) (by omega) ?_
    exact kk _ _ _ ⟨fT, fK, fA, fB, fF, fE, xh, xg, xr, xn, gS1, gK1, gI1, gO1, gF1, gE1, gQ1, yt1, yn1, yr1, ym1, yd1, yk1, yb1, yc1, g, hi0, hv0, hm1, hrel_, hP, hD, hS⟩ (lv_sub hl [1, 2, 3, 4, 5] rfl)

set_option maxHeartbeats 1000000 in
set_option maxRecDepth 100000 in
theorem law_apply (K : LC l p s m meth c b L xs D cI cZ cL) (hi4 : i + 4 ≤ L) (hL : L ≤ 2048) (hj : j < 512) (hw0 : LW D z u o cI cZ cL s H locs) (hl : lv_has ls 7 [(4, .int (nI i)), (3, .ref o), (2, .ref (u 0)), (1, .ref (z 0)), (0, .ref b)])
    (kk : ∀ (H : Heap) (locs : List Loc) (ls : Array Slot), LW D z u o cI cZ cL s H locs → lv_has ls 7 [(4, .int (nI i)), (3, .ref o), (2, .ref (u 0)), (1, .ref (z 0)), (0, .ref b)] → W p l e room_1 s m #[Value.ref b] below meth c H locs (16 + (j + 1)) (1531 + 6 * (j + 1)) Q (F0 m 758 ls [])) : W p l e room_1 s m #[Value.ref b] below meth c H locs (16 + j) (1531 + 6 * j) Q (F0 m 148 ls []) := by
  obtain ⟨hl0, hx, hb, hml, hown, hw, hX, hbl, hE, hN, hK⟩ := K
  obtain ⟨fT, fK, fA, fB, fF, fE, xh, xg, xr, xn, gS, gK, gI, gO, gF, gE, gQ, yt, yn, yr, ym, yd, yk, yb, yc, g, hi0, hv0, hm0, hrel0, hP, hD, hS⟩ := hw0
  obtain ⟨rfl, rfl, rfl, rfl, hT, hF⟩ := hrel0
  have hA : ∀ q : Nat, s.heap.size ≤ q → (fun q => s.heap.size ≤ q) q := fun q h => h
  have hbA : ¬ (fun q => s.heap.size ≤ q) b := Nat.not_le.mpr hbl
  have hfl : 1 ≤ xr → gF (xr - 1) ≤ xh := fun h => by rw [← (hF (xr - 1) (by omega)).2.2.2.1]; exact hv0.2.1 h
  have hmo : xh ≤ xg := hv0.2.2.2
  have hro : ∀ j, j < xr → gF j + szL 6 (gI j) ≤ 300 := fun j h => by rw [← (hF j h).2.2.2.1, ← (hF j h).2.1]; exact hv0.2.2.1 j h
  have hK2 := hK.sub (tys' := [(cI, .int), (cZ, .boolean)]) [0, 1] rfl
  refine lv_aload_n hx hb d_L_law_148 rfl (lv_at hl 3 rfl) ?_
  refine lv_aload_n hx hb d_L_law_149 rfl (lv_at hl 4 rfl) ?_
  refine lv_iload hx hb d_L_law_150 (lv_at hl 0 rfl) ?_
  refine lv_iconst (v := nI 1) hx hb d_L_law_152 (by decide) ?_
  refine nw_add hx hb d_L_law_153 ?_
  refine nw_sld hx hb hX hbl hbA hS (k := i + 1) (by omega) (by omega) d_L_law_154 ?_
  refine lv_aload_n hx hb d_L_law_155 rfl (lv_at hl 4 rfl) ?_
  refine lv_iload hx hb d_L_law_156 (lv_at hl 0 rfl) ?_
  refine lv_iconst (v := nI 2) hx hb d_L_law_158 (by decide) ?_
  refine nw_add hx hb d_L_law_159 ?_
  refine nw_sld hx hb hX hbl hbA hS (k := i + 2) (by omega) (by omega) d_L_law_160 ?_
  refine lv_aload_n hx hb d_L_law_161 rfl (lv_at hl 1 rfl) ?_
  have hPc := hP.sub (ws' := ((o, .inl (cL, 1, .inr (.inl g))) :: wT z cI cZ fT fK fA fB fF fE xh xg xr xn)) [0, 9, 10, 11, 12, 13, 14, 15] rfl
  have hDc := hD.sub (ws' := ((o, .inl (cL, 1, .inr (.inl g))) :: wT z cI cZ fT fK fA fB fF fE xh xg xr xn)) [0, 9, 10, 11, 12, 13, 14, 15] (by decide) rfl
  refine cl_j (Wc := ((o, .inl (cL, 1, .inr (.inl g))) :: wT z cI cZ fT fK fA fB fF fE xh xg xr xn)) (Wr := (wM u cI cZ gS gK gI gO gF gE gQ yt xh xr xg xn yk yb yc)) hP hD hS hA [0, 9, 10, 11, 12, 13, 14, 15] [1, 2, 3, 4, 5, 6, 7, 8] rfl rfl (by decide) (by decide) (vx_runSW (As := [.ref (z 0), .int (xs (i + 1)), .int (xs (i + 2)), .ref o]) (rest := []) ⟨hx, hb, hml, hown, hw⟩ (c_L_apply l hl0 D z cI cZ fT fK fA fB fF fE xh xg xr xn hi0 (xs (i + 1)) (xs (i + 2)) cL o g H.size) (vx_cwSW 4 hw g_L_77 rfl rfl rfl ⟨by decide, by decide, by decide +kernel⟩ ⟨by decide, by decide⟩) ⟨PL.blind, PL.pre hPc hK hDc hS hA hE hN⟩ rfl rfl hl.1 rfl (lv_room (Nat.le_of_ble_eq_true rfl)) d_L_law_162 ⟨by show _ ≤ 1054; omega, by show _ ≤ 9807; omega⟩) (fun _ _ _ h => h.2) (fun v1 st1 t1 H locs hq ht hJ hS hvm => ?_)
  obtain ⟨⟨q1, q2⟩, -⟩ := hq
  rcases opt_cs (orE (xl (xs (i + 1))) (orE (xl (xs (i + 2))) (orE (nf xr) (orE (xo ISE (hbL (fF (xr - 1)) (fE (xr - 1)) fT 6 xh (xs (i + 1)).toNatClampNeg)) (rmE ((hbL (fF (xr - 1)) (fE (xr - 1)) fT 6 xh (xs (i + 1)).toNatClampNeg).getD 0 + szL 6 (xs (i + 2)).toNatClampNeg)))))) with her | ⟨E, her⟩
  · skip
    obtain ⟨hr1, hP1, hD1⟩ := q1 her
    cases hr1
    rw [ht] at hP1
    obtain ⟨hP, hD⟩ := hJ _ hP1 hD1
    have hP := hP.sub (ws' := ((o, .inl (cL, 1, .inr (.inl (vp_updL g 0 (nI ((hbL (fF (xr - 1)) (fE (xr - 1)) fT 6 xh (xs (i + 1)).toNatClampNeg).getD 0 + szL 6 (xs (i + 2)).toNatClampNeg)).toInt64)))) :: (wM u cI cZ gS gK gI gO gF gE gQ yt xh xr xg xn yk yb yc ++ wT z cI cZ (pl fT ((hbL (fF (xr - 1)) (fE (xr - 1)) fT 6 xh (xs (i + 1)).toNatClampNeg).getD 0) (szL 6 (xs (i + 2)).toNatClampNeg) (xs (i + 2)).toNatClampNeg) fK fA fB fF fE (((hbL (fF (xr - 1)) (fE (xr - 1)) fT 6 xh (xs (i + 1)).toNatClampNeg).getD 0) + szL 6 (xs (i + 2)).toNatClampNeg) (max xg (((hbL (fF (xr - 1)) (fE (xr - 1)) fT 6 xh (xs (i + 1)).toNatClampNeg).getD 0) + szL 6 (xs (i + 2)).toNatClampNeg)) xr (xn + 1)))) [8, 0, 1, 2, 3, 4, 5, 6, 7, 9, 10, 11, 12, 13, 14, 15] rfl
    have hD := hD.sub (ws' := ((o, .inl (cL, 1, .inr (.inl (vp_updL g 0 (nI ((hbL (fF (xr - 1)) (fE (xr - 1)) fT 6 xh (xs (i + 1)).toNatClampNeg).getD 0 + szL 6 (xs (i + 2)).toNatClampNeg)).toInt64)))) :: (wM u cI cZ gS gK gI gO gF gE gQ yt xh xr xg xn yk yb yc ++ wT z cI cZ (pl fT ((hbL (fF (xr - 1)) (fE (xr - 1)) fT 6 xh (xs (i + 1)).toNatClampNeg).getD 0) (szL 6 (xs (i + 2)).toNatClampNeg) (xs (i + 2)).toNatClampNeg) fK fA fB fF fE (((hbL (fF (xr - 1)) (fE (xr - 1)) fT 6 xh (xs (i + 1)).toNatClampNeg).getD 0) + szL 6 (xs (i + 2)).toNatClampNeg) (max xg (((hbL (fF (xr - 1)) (fE (xr - 1)) fT 6 xh (xs (i + 1)).toNatClampNeg).getD 0) + szL 6 (xs (i + 2)).toNatClampNeg)) xr (xn + 1)))) [8, 0, 1, 2, 3, 4, 5, 6, 7, 9, 10, 11, 12, 13, 14, 15] (by decide) rfl
    refine lv_istore (lv' := [(5, .int (nI 0)), (4, .int (nI i)), (3, .ref o), (2, .ref (u 0)), (1, .ref (z 0)), (0, .ref b)]) hx hb d_L_law_165 hl (by decide) rfl (fun ls hl => ?_)
    refine lv_aload_n hx hb d_L_law_167 rfl (lv_at hl 3 rfl) ?_
    refine lv_aload_n hx hb d_L_law_168 rfl (lv_at hl 5 rfl) ?_
    refine lv_iload hx hb d_L_law_169 (lv_at hl 1 rfl) ?_
    refine lv_iconst (v := nI 1) hx hb d_L_law_171 (by decide) ?_
    refine nw_add hx hb d_L_law_172 ?_
    refine nw_sld hx hb hX hbl hbA hS (k := i + 1) (by omega) (by omega) d_L_law_173 ?_
    refine lv_aload_n hx hb d_L_law_174 rfl (lv_at hl 5 rfl) ?_
    refine lv_iload hx hb d_L_law_175 (lv_at hl 1 rfl) ?_
    refine lv_iconst (v := nI 2) hx hb d_L_law_177 (by decide) ?_
    refine nw_add hx hb d_L_law_178 ?_
    refine nw_sld hx hb hX hbl hbA hS (k := i + 2) (by omega) (by omega) d_L_law_179 ?_
    have hPm := hP.sub (ws' := (wM u cI cZ gS gK gI gO gF gE gQ yt xh xr xg xn yk yb yc)) [1, 2, 3, 4, 5, 6, 7, 8] rfl
    have hDm := hD.sub (ws' := (wM u cI cZ gS gK gI gO gF gE gQ yt xh xr xg xn yk yb yc)) [1, 2, 3, 4, 5, 6, 7, 8] (by decide) rfl
    refine cl_j (Wc := (wM u cI cZ gS gK gI gO gF gE gQ yt xh xr xg xn yk yb yc)) (Wr := ((o, .inl (cL, 1, .inr (.inl (vp_updL g 0 (nI ((hbL (fF (xr - 1)) (fE (xr - 1)) fT 6 xh (xs (i + 1)).toNatClampNeg).getD 0 + szL 6 (xs (i + 2)).toNatClampNeg)).toInt64)))) :: wT z cI cZ (pl fT ((hbL (fF (xr - 1)) (fE (xr - 1)) fT 6 xh (xs (i + 1)).toNatClampNeg).getD 0) (szL 6 (xs (i + 2)).toNatClampNeg) (xs (i + 2)).toNatClampNeg) fK fA fB fF fE (((hbL (fF (xr - 1)) (fE (xr - 1)) fT 6 xh (xs (i + 1)).toNatClampNeg).getD 0) + szL 6 (xs (i + 2)).toNatClampNeg) (max xg (((hbL (fF (xr - 1)) (fE (xr - 1)) fT 6 xh (xs (i + 1)).toNatClampNeg).getD 0) + szL 6 (xs (i + 2)).toNatClampNeg)) xr (xn + 1))) hP hD hS hA [1, 2, 3, 4, 5, 6, 7, 8] [0, 9, 10, 11, 12, 13, 14, 15] rfl rfl (by decide) (by decide) (va_runV (b := u 0) (C := "TypeStackModel") (As := [.int (xs (i + 1)), .int (xs (i + 2))]) (rest := []) ⟨hx, hb, hml, hown, hw⟩ (c_M_apply l D u cI cZ gS gK gI gO gF gE gQ yt xh xr xg xn yk yb yc hm0 (xs (i + 1)) (xs (i + 2)) H.size) (cwV 2 hw g_L_80 rfl rfl rfl ⟨rfl, by decide, by decide, by decide +kernel⟩ ⟨by decide, by decide⟩) ⟨PW.blind, va_recv (q := (RM, FM, 15)) (ci := 1) (q0 := 0) hK2 hPm rfl rfl, PW.pre hPm hK2 hDm hS hA hE⟩ rfl rfl hl.1 rfl (lv_room (Nat.le_of_ble_eq_true rfl)) d_L_law_180 ⟨by show _ ≤ 1054; omega, by show _ ≤ 9807; omega⟩) (fun _ _ _ h => h.2) (fun v2 st2 t2 H locs hq ht hJ hS hvm2 => ?_)
    obtain ⟨⟨gS1, gK1, gI1, gO1, gF1, gE1, gQ1, yt1, yn1, yr1, ym1, yd1, yk1, yb1, yc1, v3, hr2, hpo, hm1, hP1, hD1⟩, -⟩ := hq
    cases hr2
    rw [ht] at hP1
    obtain ⟨hP, hD⟩ := hJ _ hP1 hD1
    have hP := hP.sub (ws' := ((o, .inl (cL, 1, .inr (.inl (vp_updL g 0 (nI ((hbL (fF (xr - 1)) (fE (xr - 1)) fT 6 xh (xs (i + 1)).toNatClampNeg).getD 0 + szL 6 (xs (i + 2)).toNatClampNeg)).toInt64)))) :: (wM u cI cZ gS1 gK1 gI1 gO1 gF1 gE1 gQ1 yt1 yn1 yr1 ym1 yd1 yk1 yb1 yc1 ++ wT z cI cZ (pl fT ((hbL (fF (xr - 1)) (fE (xr - 1)) fT 6 xh (xs (i + 1)).toNatClampNeg).getD 0) (szL 6 (xs (i + 2)).toNatClampNeg) (xs (i + 2)).toNatClampNeg) fK fA fB fF fE (((hbL (fF (xr - 1)) (fE (xr - 1)) fT 6 xh (xs (i + 1)).toNatClampNeg).getD 0) + szL 6 (xs (i + 2)).toNatClampNeg) (max xg (((hbL (fF (xr - 1)) (fE (xr - 1)) fT 6 xh (xs (i + 1)).toNatClampNeg).getD 0) + szL 6 (xs (i + 2)).toNatClampNeg)) xr (xn + 1)))) [0, 8, 9, 10, 11, 12, 13, 14, 15, 1, 2, 3, 4, 5, 6, 7] rfl
    have hD := hD.sub (ws' := ((o, .inl (cL, 1, .inr (.inl (vp_updL g 0 (nI ((hbL (fF (xr - 1)) (fE (xr - 1)) fT 6 xh (xs (i + 1)).toNatClampNeg).getD 0 + szL 6 (xs (i + 2)).toNatClampNeg)).toInt64)))) :: (wM u cI cZ gS1 gK1 gI1 gO1 gF1 gE1 gQ1 yt1 yn1 yr1 ym1 yd1 yk1 yb1 yc1 ++ wT z cI cZ (pl fT ((hbL (fF (xr - 1)) (fE (xr - 1)) fT 6 xh (xs (i + 1)).toNatClampNeg).getD 0) (szL 6 (xs (i + 2)).toNatClampNeg) (xs (i + 2)).toNatClampNeg) fK fA fB fF fE (((hbL (fF (xr - 1)) (fE (xr - 1)) fT 6 xh (xs (i + 1)).toNatClampNeg).getD 0) + szL 6 (xs (i + 2)).toNatClampNeg) (max xg (((hbL (fF (xr - 1)) (fE (xr - 1)) fT 6 xh (xs (i + 1)).toNatClampNeg).getD 0) + szL 6 (xs (i + 2)).toNatClampNeg)) xr (xn + 1)))) [0, 8, 9, 10, 11, 12, 13, 14, 15, 1, 2, 3, 4, 5, 6, 7] (by decide) rfl
    obtain ⟨hyt, hvv, hrel⟩ := hpo.1 ((A_apply hT hF (xs (i + 1)) (xs (i + 2))).symm.trans her)
    subst hvv
    obtain ⟨hi1, hv1⟩ := D_apply hi0 hv0 (xs (i + 1)) (xs (i + 2)) her
    have hrel_ := rel_t (C_apply hT hF (xs (i + 1)) (xs (i + 2)) her) hrel
    have hB := B_apply hT hF (xs (i + 1)) (xs (i + 2)) her
    refine lv_istore (lv' := [(6, .int (nI ((hbL (gF (xr - 1)) (gE (xr - 1)) gS 6 xh (xs (i + 1)).toNatClampNeg).getD 0 + szL 6 (xs (i + 2)).toNatClampNeg))), (5, .int (nI 0)), (4, .int (nI i)), (3, .ref o), (2, .ref (u 0)), (1, .ref (z 0)), (0, .ref b)]) hx hb d_L_law_183 hl (by decide) rfl (fun ls hl => ?_)
    refine lv_aload_n hx hb d_L_law_185 rfl (lv_at hl 4 rfl) ?_
    have hPm := hP.sub (ws' := (wM u cI cZ gS1 gK1 gI1 gO1 gF1 gE1 gQ1 yt1 yn1 yr1 ym1 yd1 yk1 yb1 yc1)) [1, 2, 3, 4, 5, 6, 7, 8] rfl
    have hDm := hD.sub (ws' := (wM u cI cZ gS1 gK1 gI1 gO1 gF1 gE1 gQ1 yt1 yn1 yr1 ym1 yd1 yk1 yb1 yc1)) [1, 2, 3, 4, 5, 6, 7, 8] (by decide) rfl
    refine cl_r (v := some (.int (nI yt1))) (W.runV (b := u 0) (C := "TypeStackModel") (As := []) (rest := []) ⟨hx, hb, hml, hown, hw⟩ (c_M_thrown l D u cI cZ gS1 gK1 gI1 gO1 gF1 gE1 gQ1 yt1 yn1 yr1 ym1 yd1 yk1 yb1 yc1 H.size) (cwV 0 hw g_L_74 rfl rfl rfl ⟨rfl, by decide, by decide, by decide +kernel⟩ ⟨by decide, by decide⟩) ⟨PW.blind, va_recv (q := (RM, FM, 15)) (ci := 1) (q0 := 0) hK2 hPm rfl rfl, PW.pre hPm hK2 hDm hS hA hE⟩ rfl rfl hl.1 rfl (lv_room (Nat.le_of_ble_eq_true rfl)) d_L_law_186 ⟨by show _ ≤ 1054; omega, by show _ ≤ 9807; omega⟩) ?_
    refine lv_iload hx hb d_L_law_189 (lv_at hl 1 rfl) ?_
    have hkl : 0 < 2 ^ 31 := by decide
    refine nw_eq hx hb (tgt := 196) d_L_law_191 (by decide) (by omega) hkl (fun h => ?_) (fun h => absurd hyt h)
    refine lv_iload hx hb d_L_law_196 (lv_at hl 1 rfl) ?_
    refine nw_ifne hx hb (tgt := 213) d_L_law_198 (by decide) (by decide) (fun h => absurd h (Nat.lt_irrefl 0)) (fun h => ?_)
    refine lv_aload_n hx hb d_L_law_201 rfl (lv_at hl 3 rfl) ?_
    refine lv_iconst (v := nI 0) hx hb d_L_law_202 (by decide) ?_
    refine va_lald hx hb hK hP 0 2 rfl rfl (i := nI 0) (vp_in_nI (by decide) (by decide)) d_L_law_203 ?_
    refine lv_iload hx hb d_L_law_204 (lv_at hl 0 rfl) ?_
    refine lv_i2l (v := (nI ((hbL (fF (xr - 1)) (fE (xr - 1)) fT 6 xh (xs (i + 1)).toNatClampNeg).getD 0 + szL 6 (xs (i + 2)).toNatClampNeg)).toInt64) hx hb d_L_law_206 (by rw [hB]) ?_
    refine W.lcmp hx hb d_L_law_207 ?_
    refine nw_is (y := nI 0) (lgc _) ?_
    refine nw_ifeq hx hb (tgt := 213) d_L_law_208 (by decide) (by decide) (fun h => ?_) (fun h => absurd h (Nat.lt_irrefl 0))
    refine lv_goto hx hb d_L_law_213 (tgt := 758) (by decide) ?_
    refine W.widen (k := 16 + (j + 1)) (n := 1531 + 6 * (j + 1)) (by omega) (by omega) ?_
    exact kk _ _ _ ⟨(pl fT ((hbL (fF (xr - 1)) (fE (xr - 1)) fT 6 xh (xs (i + 1)).toNatClampNeg).getD 0) (szL 6 (xs (i + 2)).toNatClampNeg) (xs (i + 2)).toNatClampNeg), fK, fA, fB, fF, fE, (((hbL (fF (xr - 1)) (fE (xr - 1)) fT 6 xh (xs (i + 1)).toNatClampNeg).getD 0) + szL 6 (xs (i + 2)).toNatClampNeg), (max xg (((hbL (fF (xr - 1)) (fE (xr - 1)) fT 6 xh (xs (i + 1)).toNatClampNeg).getD 0) + szL 6 (xs (i + 2)).toNatClampNeg)), xr, (xn + 1), gS1, gK1, gI1, gO1, gF1, gE1, gQ1, yt1, yn1, yr1, ym1, yd1, yk1, yb1, yc1, (vp_updL g 0 (nI ((hbL (fF (xr - 1)) (fE (xr - 1)) fT 6 xh (xs (i + 1)).toNatClampNeg).getD 0 + szL 6 (xs (i + 2)).toNatClampNeg)).toInt64), hi1, hv1, hm1, hrel_, hP, hD, hS⟩ (lv_sub hl [2, 3, 4, 5, 6] rfl)
  · skip
    obtain ⟨hr1, hP1, hD1⟩ := q2 E her
    cases hr1
    rw [ht] at hP1
    obtain ⟨hP, hD⟩ := hJ _ hP1 hD1
    have hP := hP.sub (ws' := ((o, .inl (cL, 1, .inr (.inl g))) :: (wM u cI cZ gS gK gI gO gF gE gQ yt xh xr xg xn yk yb yc ++ wT z cI cZ fT fK fA fB fF fE xh xg xr xn))) [8, 0, 1, 2, 3, 4, 5, 6, 7, 9, 10, 11, 12, 13, 14, 15] rfl
    have hD := hD.sub (ws' := ((o, .inl (cL, 1, .inr (.inl g))) :: (wM u cI cZ gS gK gI gO gF gE gQ yt xh xr xg xn yk yb yc ++ wT z cI cZ fT fK fA fB fF fE xh xg xr xn))) [8, 0, 1, 2, 3, 4, 5, 6, 7, 9, 10, 11, 12, 13, 14, 15] (by decide) rfl
    refine lv_istore (lv' := [(5, .int (nI (cdl [IAE, NSE, ISE, AE] E))), (4, .int (nI i)), (3, .ref o), (2, .ref (u 0)), (1, .ref (z 0)), (0, .ref b)]) hx hb d_L_law_165 hl (by decide) rfl (fun ls hl => ?_)
    refine lv_aload_n hx hb d_L_law_167 rfl (lv_at hl 3 rfl) ?_
    refine lv_aload_n hx hb d_L_law_168 rfl (lv_at hl 5 rfl) ?_
    refine lv_iload hx hb d_L_law_169 (lv_at hl 1 rfl) ?_
    refine lv_iconst (v := nI 1) hx hb d_L_law_171 (by decide) ?_
    refine nw_add hx hb d_L_law_172 ?_
    refine nw_sld hx hb hX hbl hbA hS (k := i + 1) (by omega) (by omega) d_L_law_173 ?_
    refine lv_aload_n hx hb d_L_law_174 rfl (lv_at hl 5 rfl) ?_
    refine lv_iload hx hb d_L_law_175 (lv_at hl 1 rfl) ?_
    refine lv_iconst (v := nI 2) hx hb d_L_law_177 (by decide) ?_
    refine nw_add hx hb d_L_law_178 ?_
    refine nw_sld hx hb hX hbl hbA hS (k := i + 2) (by omega) (by omega) d_L_law_179 ?_
    have hPm := hP.sub (ws' := (wM u cI cZ gS gK gI gO gF gE gQ yt xh xr xg xn yk yb yc)) [1, 2, 3, 4, 5, 6, 7, 8] rfl
    have hDm := hD.sub (ws' := (wM u cI cZ gS gK gI gO gF gE gQ yt xh xr xg xn yk yb yc)) [1, 2, 3, 4, 5, 6, 7, 8] (by decide) rfl
    refine cl_j (Wc := (wM u cI cZ gS gK gI gO gF gE gQ yt xh xr xg xn yk yb yc)) (Wr := ((o, .inl (cL, 1, .inr (.inl g))) :: wT z cI cZ fT fK fA fB fF fE xh xg xr xn)) hP hD hS hA [1, 2, 3, 4, 5, 6, 7, 8] [0, 9, 10, 11, 12, 13, 14, 15] rfl rfl (by decide) (by decide) (va_runV (b := u 0) (C := "TypeStackModel") (As := [.int (xs (i + 1)), .int (xs (i + 2))]) (rest := []) ⟨hx, hb, hml, hown, hw⟩ (c_M_apply l D u cI cZ gS gK gI gO gF gE gQ yt xh xr xg xn yk yb yc hm0 (xs (i + 1)) (xs (i + 2)) H.size) (cwV 2 hw g_L_80 rfl rfl rfl ⟨rfl, by decide, by decide, by decide +kernel⟩ ⟨by decide, by decide⟩) ⟨PW.blind, va_recv (q := (RM, FM, 15)) (ci := 1) (q0 := 0) hK2 hPm rfl rfl, PW.pre hPm hK2 hDm hS hA hE⟩ rfl rfl hl.1 rfl (lv_room (Nat.le_of_ble_eq_true rfl)) d_L_law_180 ⟨by show _ ≤ 1054; omega, by show _ ≤ 9807; omega⟩) (fun _ _ _ h => h.2) (fun v2 st2 t2 H locs hq ht hJ hS hvm2 => ?_)
    obtain ⟨⟨gS1, gK1, gI1, gO1, gF1, gE1, gQ1, yt1, yn1, yr1, ym1, yd1, yk1, yb1, yc1, v3, hr2, hpo, hm1, hP1, hD1⟩, -⟩ := hq
    cases hr2
    rw [ht] at hP1
    obtain ⟨hP, hD⟩ := hJ _ hP1 hD1
    have hP := hP.sub (ws' := ((o, .inl (cL, 1, .inr (.inl g))) :: (wM u cI cZ gS1 gK1 gI1 gO1 gF1 gE1 gQ1 yt1 yn1 yr1 ym1 yd1 yk1 yb1 yc1 ++ wT z cI cZ fT fK fA fB fF fE xh xg xr xn))) [0, 8, 9, 10, 11, 12, 13, 14, 15, 1, 2, 3, 4, 5, 6, 7] rfl
    have hD := hD.sub (ws' := ((o, .inl (cL, 1, .inr (.inl g))) :: (wM u cI cZ gS1 gK1 gI1 gO1 gF1 gE1 gQ1 yt1 yn1 yr1 ym1 yd1 yk1 yb1 yc1 ++ wT z cI cZ fT fK fA fB fF fE xh xg xr xn))) [0, 8, 9, 10, 11, 12, 13, 14, 15, 1, 2, 3, 4, 5, 6, 7] (by decide) rfl
    obtain ⟨hyt, hvv, hrel⟩ := hpo.2 E ((A_apply hT hF (xs (i + 1)) (xs (i + 2))).symm.trans her)
    subst hvv
    have hrel_ := rel_t ⟨rfl, rfl, rfl, rfl, hT, hF⟩ hrel
    refine lv_istore (lv' := [(6, .int (nI 0)), (5, .int (nI (cdl [IAE, NSE, ISE, AE] E))), (4, .int (nI i)), (3, .ref o), (2, .ref (u 0)), (1, .ref (z 0)), (0, .ref b)]) hx hb d_L_law_183 hl (by decide) rfl (fun ls hl => ?_)
    refine lv_aload_n hx hb d_L_law_185 rfl (lv_at hl 4 rfl) ?_
    have hPm := hP.sub (ws' := (wM u cI cZ gS1 gK1 gI1 gO1 gF1 gE1 gQ1 yt1 yn1 yr1 ym1 yd1 yk1 yb1 yc1)) [1, 2, 3, 4, 5, 6, 7, 8] rfl
    have hDm := hD.sub (ws' := (wM u cI cZ gS1 gK1 gI1 gO1 gF1 gE1 gQ1 yt1 yn1 yr1 ym1 yd1 yk1 yb1 yc1)) [1, 2, 3, 4, 5, 6, 7, 8] (by decide) rfl
    refine cl_r (v := some (.int (nI yt1))) (W.runV (b := u 0) (C := "TypeStackModel") (As := []) (rest := []) ⟨hx, hb, hml, hown, hw⟩ (c_M_thrown l D u cI cZ gS1 gK1 gI1 gO1 gF1 gE1 gQ1 yt1 yn1 yr1 ym1 yd1 yk1 yb1 yc1 H.size) (cwV 0 hw g_L_74 rfl rfl rfl ⟨rfl, by decide, by decide, by decide +kernel⟩ ⟨by decide, by decide⟩) ⟨PW.blind, va_recv (q := (RM, FM, 15)) (ci := 1) (q0 := 0) hK2 hPm rfl rfl, PW.pre hPm hK2 hDm hS hA hE⟩ rfl rfl hl.1 rfl (lv_room (Nat.le_of_ble_eq_true rfl)) d_L_law_186 ⟨by show _ ≤ 1054; omega, by show _ ≤ 9807; omega⟩) ?_
    refine lv_iload hx hb d_L_law_189 (lv_at hl 1 rfl) ?_
    have hkl : cdl [IAE, NSE, ISE, AE] E < 2 ^ 31 := Nat.lt_of_le_of_lt (cdl_in _ _) (by decide)
    refine nw_eq hx hb (tgt := 196) d_L_law_191 (by decide) (by omega) hkl (fun h => ?_) (fun h => absurd hyt h)
    refine lv_iload hx hb d_L_law_196 (lv_at hl 1 rfl) ?_
    refine nw_ifne hx hb (tgt := 213) d_L_law_198 (by decide) hkl (fun h => ?_) (fun h => absurd h (Nat.ne_of_gt (cdl_pos _ _ _)))
    refine lv_goto hx hb d_L_law_213 (tgt := 758) (by decide) ?_
    refine W.widen (k := 16 + (j + 1)) (n := 1531 + 6 * (j + 1)) (by omega) (by omega) ?_
    exact kk _ _ _ ⟨fT, fK, fA, fB, fF, fE, xh, xg, xr, xn, gS1, gK1, gI1, gO1, gF1, gE1, gQ1, yt1, yn1, yr1, ym1, yd1, yk1, yb1, yc1, g, hi0, hv0, hm1, hrel_, hP, hD, hS⟩ (lv_sub hl [2, 3, 4, 5, 6] rfl)

set_option maxHeartbeats 1000000 in
set_option maxRecDepth 100000 in
theorem law_drop (K : LC l p s m meth c b L xs D cI cZ cL) (hi4 : i + 4 ≤ L) (hL : L ≤ 2048) (hj : j < 512) (hw0 : LW D z u o cI cZ cL s H locs) (hl : lv_has ls 7 [(4, .int (nI i)), (3, .ref o), (2, .ref (u 0)), (1, .ref (z 0)), (0, .ref b)])
    (kk : ∀ (H : Heap) (locs : List Loc) (ls : Array Slot), LW D z u o cI cZ cL s H locs → lv_has ls 7 [(4, .int (nI i)), (3, .ref o), (2, .ref (u 0)), (1, .ref (z 0)), (0, .ref b)] → W p l e room_1 s m #[Value.ref b] below meth c H locs (16 + (j + 1)) (1531 + 6 * (j + 1)) Q (F0 m 758 ls [])) : W p l e room_1 s m #[Value.ref b] below meth c H locs (16 + j) (1531 + 6 * j) Q (F0 m 216 ls []) := by
  obtain ⟨hl0, hx, hb, hml, hown, hw, hX, hbl, hE, hN, hK⟩ := K
  obtain ⟨fT, fK, fA, fB, fF, fE, xh, xg, xr, xn, gS, gK, gI, gO, gF, gE, gQ, yt, yn, yr, ym, yd, yk, yb, yc, g, hi0, hv0, hm0, hrel0, hP, hD, hS⟩ := hw0
  obtain ⟨rfl, rfl, rfl, rfl, hT, hF⟩ := hrel0
  have hA : ∀ q : Nat, s.heap.size ≤ q → (fun q => s.heap.size ≤ q) q := fun q h => h
  have hbA : ¬ (fun q => s.heap.size ≤ q) b := Nat.not_le.mpr hbl
  have hfl : 1 ≤ xr → gF (xr - 1) ≤ xh := fun h => by rw [← (hF (xr - 1) (by omega)).2.2.2.1]; exact hv0.2.1 h
  have hmo : xh ≤ xg := hv0.2.2.2
  have hro : ∀ j, j < xr → gF j + szL 6 (gI j) ≤ 300 := fun j h => by rw [← (hF j h).2.2.2.1, ← (hF j h).2.1]; exact hv0.2.2.1 j h
  have hK2 := hK.sub (tys' := [(cI, .int), (cZ, .boolean)]) [0, 1] rfl
  refine lv_aload_n hx hb d_L_law_216 rfl (lv_at hl 3 rfl) ?_
  refine lv_aload_n hx hb d_L_law_217 rfl (lv_at hl 1 rfl) ?_
  have hPc := hP.sub (ws' := ((o, .inl (cL, 1, .inr (.inl g))) :: wT z cI cZ fT fK fA fB fF fE xh xg xr xn)) [0, 9, 10, 11, 12, 13, 14, 15] rfl
  have hDc := hD.sub (ws' := ((o, .inl (cL, 1, .inr (.inl g))) :: wT z cI cZ fT fK fA fB fF fE xh xg xr xn)) [0, 9, 10, 11, 12, 13, 14, 15] (by decide) rfl
  refine cl_j (Wc := ((o, .inl (cL, 1, .inr (.inl g))) :: wT z cI cZ fT fK fA fB fF fE xh xg xr xn)) (Wr := (wM u cI cZ gS gK gI gO gF gE gQ yt xh xr xg xn yk yb yc)) hP hD hS hA [0, 9, 10, 11, 12, 13, 14, 15] [1, 2, 3, 4, 5, 6, 7, 8] rfl rfl (by decide) (by decide) (vx_runSW (As := [.ref (z 0), .ref o]) (rest := []) ⟨hx, hb, hml, hown, hw⟩ (c_L_drop l hl0 D z cI cZ fT fK fA fB fF fE xh xg xr xn hi0 cL o g H.size) (vx_cwSW 2 hw g_L_81 rfl rfl rfl ⟨by decide, by decide, by decide +kernel⟩ ⟨by decide, by decide⟩) ⟨PL.blind, PL.pre hPc hK hDc hS hA hE hN⟩ rfl rfl hl.1 rfl (lv_room (Nat.le_of_ble_eq_true rfl)) d_L_law_218 ⟨by show _ ≤ 1054; omega, by show _ ≤ 9807; omega⟩) (fun _ _ _ h => h.2) (fun v1 st1 t1 H locs hq ht hJ hS hvm => ?_)
  obtain ⟨⟨q1, q2⟩, -⟩ := hq
  rcases opt_cs (orE (nf xr) (xo ISE (hb1 (fF (xr - 1)) (fE (xr - 1)) xh))) with her | ⟨E, her⟩
  · skip
    obtain ⟨hr1, hP1, hD1⟩ := q1 her
    cases hr1
    rw [ht] at hP1
    obtain ⟨hP, hD⟩ := hJ _ hP1 hD1
    have hP := hP.sub (ws' := ((o, .inl (cL, 1, .inr (.inl (vp_updL g 0 (nI (tk1 (fF (xr - 1)) xh fT)).toInt64)))) :: (wM u cI cZ gS gK gI gO gF gE gQ yt xh xr xg xn yk yb yc ++ wT z cI cZ fT fK fA fB fF fE ((hb1 (fF (xr - 1)) (fE (xr - 1)) xh).getD 0) xg xr (xn + 1)))) [8, 0, 1, 2, 3, 4, 5, 6, 7, 9, 10, 11, 12, 13, 14, 15] rfl
    have hD := hD.sub (ws' := ((o, .inl (cL, 1, .inr (.inl (vp_updL g 0 (nI (tk1 (fF (xr - 1)) xh fT)).toInt64)))) :: (wM u cI cZ gS gK gI gO gF gE gQ yt xh xr xg xn yk yb yc ++ wT z cI cZ fT fK fA fB fF fE ((hb1 (fF (xr - 1)) (fE (xr - 1)) xh).getD 0) xg xr (xn + 1)))) [8, 0, 1, 2, 3, 4, 5, 6, 7, 9, 10, 11, 12, 13, 14, 15] (by decide) rfl
    refine lv_istore (lv' := [(5, .int (nI 0)), (4, .int (nI i)), (3, .ref o), (2, .ref (u 0)), (1, .ref (z 0)), (0, .ref b)]) hx hb d_L_law_221 hl (by decide) rfl (fun ls hl => ?_)
    refine lv_aload_n hx hb d_L_law_223 rfl (lv_at hl 3 rfl) ?_
    have hPm := hP.sub (ws' := (wM u cI cZ gS gK gI gO gF gE gQ yt xh xr xg xn yk yb yc)) [1, 2, 3, 4, 5, 6, 7, 8] rfl
    have hDm := hD.sub (ws' := (wM u cI cZ gS gK gI gO gF gE gQ yt xh xr xg xn yk yb yc)) [1, 2, 3, 4, 5, 6, 7, 8] (by decide) rfl
    refine cl_j (Wc := (wM u cI cZ gS gK gI gO gF gE gQ yt xh xr xg xn yk yb yc)) (Wr := ((o, .inl (cL, 1, .inr (.inl (vp_updL g 0 (nI (tk1 (fF (xr - 1)) xh fT)).toInt64)))) :: wT z cI cZ fT fK fA fB fF fE ((hb1 (fF (xr - 1)) (fE (xr - 1)) xh).getD 0) xg xr (xn + 1))) hP hD hS hA [1, 2, 3, 4, 5, 6, 7, 8] [0, 9, 10, 11, 12, 13, 14, 15] rfl rfl (by decide) (by decide) (va_runV (b := u 0) (C := "TypeStackModel") (As := []) (rest := []) ⟨hx, hb, hml, hown, hw⟩ (c_M_drop l D u cI cZ gS gK gI gO gF gE gQ yt xh xr xg xn yk yb yc hm0 hfl hmo H.size) (cwV 0 hw g_L_84 rfl rfl rfl ⟨rfl, by decide, by decide, by decide +kernel⟩ ⟨by decide, by decide⟩) ⟨PW.blind, va_recv (q := (RM, FM, 15)) (ci := 1) (q0 := 0) hK2 hPm rfl rfl, PW.pre hPm hK2 hDm hS hA hE⟩ rfl rfl hl.1 rfl (lv_room (Nat.le_of_ble_eq_true rfl)) d_L_law_224 ⟨by show _ ≤ 1054; omega, by show _ ≤ 9807; omega⟩) (fun _ _ _ h => h.2) (fun v2 st2 t2 H locs hq ht hJ hS hvm2 => ?_)
    obtain ⟨⟨gS1, gK1, gI1, gO1, gF1, gE1, gQ1, yt1, yn1, yr1, ym1, yd1, yk1, yb1, yc1, v3, hr2, hpo, hm1, hP1, hD1⟩, -⟩ := hq
    cases hr2
    rw [ht] at hP1
    obtain ⟨hP, hD⟩ := hJ _ hP1 hD1
    have hP := hP.sub (ws' := ((o, .inl (cL, 1, .inr (.inl (vp_updL g 0 (nI (tk1 (fF (xr - 1)) xh fT)).toInt64)))) :: (wM u cI cZ gS1 gK1 gI1 gO1 gF1 gE1 gQ1 yt1 yn1 yr1 ym1 yd1 yk1 yb1 yc1 ++ wT z cI cZ fT fK fA fB fF fE ((hb1 (fF (xr - 1)) (fE (xr - 1)) xh).getD 0) xg xr (xn + 1)))) [0, 8, 9, 10, 11, 12, 13, 14, 15, 1, 2, 3, 4, 5, 6, 7] rfl
    have hD := hD.sub (ws' := ((o, .inl (cL, 1, .inr (.inl (vp_updL g 0 (nI (tk1 (fF (xr - 1)) xh fT)).toInt64)))) :: (wM u cI cZ gS1 gK1 gI1 gO1 gF1 gE1 gQ1 yt1 yn1 yr1 ym1 yd1 yk1 yb1 yc1 ++ wT z cI cZ fT fK fA fB fF fE ((hb1 (fF (xr - 1)) (fE (xr - 1)) xh).getD 0) xg xr (xn + 1)))) [0, 8, 9, 10, 11, 12, 13, 14, 15, 1, 2, 3, 4, 5, 6, 7] (by decide) rfl
    obtain ⟨hyt, hvv, hrel⟩ := hpo.1 ((A_drop hT hF).symm.trans her)
    subst hvv
    obtain ⟨hi1, hv1⟩ := D_drop hi0 hv0 her
    have hrel_ := rel_t (C_drop hT hF her) hrel
    have hB := B_drop hT hF her
    refine lv_istore (lv' := [(6, .int (nI (tk1 (gF (xr - 1)) xh gS))), (5, .int (nI 0)), (4, .int (nI i)), (3, .ref o), (2, .ref (u 0)), (1, .ref (z 0)), (0, .ref b)]) hx hb d_L_law_227 hl (by decide) rfl (fun ls hl => ?_)
    refine lv_aload_n hx hb d_L_law_229 rfl (lv_at hl 4 rfl) ?_
    have hPm := hP.sub (ws' := (wM u cI cZ gS1 gK1 gI1 gO1 gF1 gE1 gQ1 yt1 yn1 yr1 ym1 yd1 yk1 yb1 yc1)) [1, 2, 3, 4, 5, 6, 7, 8] rfl
    have hDm := hD.sub (ws' := (wM u cI cZ gS1 gK1 gI1 gO1 gF1 gE1 gQ1 yt1 yn1 yr1 ym1 yd1 yk1 yb1 yc1)) [1, 2, 3, 4, 5, 6, 7, 8] (by decide) rfl
    refine cl_r (v := some (.int (nI yt1))) (W.runV (b := u 0) (C := "TypeStackModel") (As := []) (rest := []) ⟨hx, hb, hml, hown, hw⟩ (c_M_thrown l D u cI cZ gS1 gK1 gI1 gO1 gF1 gE1 gQ1 yt1 yn1 yr1 ym1 yd1 yk1 yb1 yc1 H.size) (cwV 0 hw g_L_74 rfl rfl rfl ⟨rfl, by decide, by decide, by decide +kernel⟩ ⟨by decide, by decide⟩) ⟨PW.blind, va_recv (q := (RM, FM, 15)) (ci := 1) (q0 := 0) hK2 hPm rfl rfl, PW.pre hPm hK2 hDm hS hA hE⟩ rfl rfl hl.1 rfl (lv_room (Nat.le_of_ble_eq_true rfl)) d_L_law_230 ⟨by show _ ≤ 1054; omega, by show _ ≤ 9807; omega⟩) ?_
    refine lv_iload hx hb d_L_law_233 (lv_at hl 1 rfl) ?_
    have hkl : 0 < 2 ^ 31 := by decide
    refine nw_eq hx hb (tgt := 240) d_L_law_235 (by decide) (by omega) hkl (fun h => ?_) (fun h => absurd hyt h)
    refine lv_iload hx hb d_L_law_240 (lv_at hl 1 rfl) ?_
    refine nw_ifne hx hb (tgt := 257) d_L_law_242 (by decide) (by decide) (fun h => absurd h (Nat.lt_irrefl 0)) (fun h => ?_)
    refine lv_aload_n hx hb d_L_law_245 rfl (lv_at hl 3 rfl) ?_
    refine lv_iconst (v := nI 0) hx hb d_L_law_246 (by decide) ?_
    refine va_lald hx hb hK hP 0 2 rfl rfl (i := nI 0) (vp_in_nI (by decide) (by decide)) d_L_law_247 ?_
    refine lv_iload hx hb d_L_law_248 (lv_at hl 0 rfl) ?_
    refine lv_i2l (v := (nI (tk1 (fF (xr - 1)) xh fT)).toInt64) hx hb d_L_law_250 (by rw [hB]) ?_
    refine W.lcmp hx hb d_L_law_251 ?_
    refine nw_is (y := nI 0) (lgc _) ?_
    refine nw_ifeq hx hb (tgt := 257) d_L_law_252 (by decide) (by decide) (fun h => ?_) (fun h => absurd h (Nat.lt_irrefl 0))
    refine lv_goto hx hb d_L_law_257 (tgt := 758) (by decide) ?_
    refine W.widen (k := 16 + (j + 1)) (n := 1531 + 6 * (j + 1)) (by omega) (by omega) ?_
    exact kk _ _ _ ⟨fT, fK, fA, fB, fF, fE, ((hb1 (fF (xr - 1)) (fE (xr - 1)) xh).getD 0), xg, xr, (xn + 1), gS1, gK1, gI1, gO1, gF1, gE1, gQ1, yt1, yn1, yr1, ym1, yd1, yk1, yb1, yc1, (vp_updL g 0 (nI (tk1 (fF (xr - 1)) xh fT)).toInt64), hi1, hv1, hm1, hrel_, hP, hD, hS⟩ (lv_sub hl [2, 3, 4, 5, 6] rfl)
  · skip
    obtain ⟨hr1, hP1, hD1⟩ := q2 E her
    cases hr1
    rw [ht] at hP1
    obtain ⟨hP, hD⟩ := hJ _ hP1 hD1
    have hP := hP.sub (ws' := ((o, .inl (cL, 1, .inr (.inl g))) :: (wM u cI cZ gS gK gI gO gF gE gQ yt xh xr xg xn yk yb yc ++ wT z cI cZ fT fK fA fB fF fE xh xg xr xn))) [8, 0, 1, 2, 3, 4, 5, 6, 7, 9, 10, 11, 12, 13, 14, 15] rfl
    have hD := hD.sub (ws' := ((o, .inl (cL, 1, .inr (.inl g))) :: (wM u cI cZ gS gK gI gO gF gE gQ yt xh xr xg xn yk yb yc ++ wT z cI cZ fT fK fA fB fF fE xh xg xr xn))) [8, 0, 1, 2, 3, 4, 5, 6, 7, 9, 10, 11, 12, 13, 14, 15] (by decide) rfl
    refine lv_istore (lv' := [(5, .int (nI (cdl [NSE, ISE] E))), (4, .int (nI i)), (3, .ref o), (2, .ref (u 0)), (1, .ref (z 0)), (0, .ref b)]) hx hb d_L_law_221 hl (by decide) rfl (fun ls hl => ?_)
    refine lv_aload_n hx hb d_L_law_223 rfl (lv_at hl 3 rfl) ?_
    have hPm := hP.sub (ws' := (wM u cI cZ gS gK gI gO gF gE gQ yt xh xr xg xn yk yb yc)) [1, 2, 3, 4, 5, 6, 7, 8] rfl
    have hDm := hD.sub (ws' := (wM u cI cZ gS gK gI gO gF gE gQ yt xh xr xg xn yk yb yc)) [1, 2, 3, 4, 5, 6, 7, 8] (by decide) rfl
    refine cl_j (Wc := (wM u cI cZ gS gK gI gO gF gE gQ yt xh xr xg xn yk yb yc)) (Wr := ((o, .inl (cL, 1, .inr (.inl g))) :: wT z cI cZ fT fK fA fB fF fE xh xg xr xn)) hP hD hS hA [1, 2, 3, 4, 5, 6, 7, 8] [0, 9, 10, 11, 12, 13, 14, 15] rfl rfl (by decide) (by decide) (va_runV (b := u 0) (C := "TypeStackModel") (As := []) (rest := []) ⟨hx, hb, hml, hown, hw⟩ (c_M_drop l D u cI cZ gS gK gI gO gF gE gQ yt xh xr xg xn yk yb yc hm0 hfl hmo H.size) (cwV 0 hw g_L_84 rfl rfl rfl ⟨rfl, by decide, by decide, by decide +kernel⟩ ⟨by decide, by decide⟩) ⟨PW.blind, va_recv (q := (RM, FM, 15)) (ci := 1) (q0 := 0) hK2 hPm rfl rfl, PW.pre hPm hK2 hDm hS hA hE⟩ rfl rfl hl.1 rfl (lv_room (Nat.le_of_ble_eq_true rfl)) d_L_law_224 ⟨by show _ ≤ 1054; omega, by show _ ≤ 9807; omega⟩) (fun _ _ _ h => h.2) (fun v2 st2 t2 H locs hq ht hJ hS hvm2 => ?_)
    obtain ⟨⟨gS1, gK1, gI1, gO1, gF1, gE1, gQ1, yt1, yn1, yr1, ym1, yd1, yk1, yb1, yc1, v3, hr2, hpo, hm1, hP1, hD1⟩, -⟩ := hq
    cases hr2
    rw [ht] at hP1
    obtain ⟨hP, hD⟩ := hJ _ hP1 hD1
    have hP := hP.sub (ws' := ((o, .inl (cL, 1, .inr (.inl g))) :: (wM u cI cZ gS1 gK1 gI1 gO1 gF1 gE1 gQ1 yt1 yn1 yr1 ym1 yd1 yk1 yb1 yc1 ++ wT z cI cZ fT fK fA fB fF fE xh xg xr xn))) [0, 8, 9, 10, 11, 12, 13, 14, 15, 1, 2, 3, 4, 5, 6, 7] rfl
    have hD := hD.sub (ws' := ((o, .inl (cL, 1, .inr (.inl g))) :: (wM u cI cZ gS1 gK1 gI1 gO1 gF1 gE1 gQ1 yt1 yn1 yr1 ym1 yd1 yk1 yb1 yc1 ++ wT z cI cZ fT fK fA fB fF fE xh xg xr xn))) [0, 8, 9, 10, 11, 12, 13, 14, 15, 1, 2, 3, 4, 5, 6, 7] (by decide) rfl
    obtain ⟨hyt, hvv, hrel⟩ := hpo.2 E ((A_drop hT hF).symm.trans her)
    subst hvv
    have hrel_ := rel_t ⟨rfl, rfl, rfl, rfl, hT, hF⟩ hrel
    refine lv_istore (lv' := [(6, .int (nI 0)), (5, .int (nI (cdl [NSE, ISE] E))), (4, .int (nI i)), (3, .ref o), (2, .ref (u 0)), (1, .ref (z 0)), (0, .ref b)]) hx hb d_L_law_227 hl (by decide) rfl (fun ls hl => ?_)
    refine lv_aload_n hx hb d_L_law_229 rfl (lv_at hl 4 rfl) ?_
    have hPm := hP.sub (ws' := (wM u cI cZ gS1 gK1 gI1 gO1 gF1 gE1 gQ1 yt1 yn1 yr1 ym1 yd1 yk1 yb1 yc1)) [1, 2, 3, 4, 5, 6, 7, 8] rfl
    have hDm := hD.sub (ws' := (wM u cI cZ gS1 gK1 gI1 gO1 gF1 gE1 gQ1 yt1 yn1 yr1 ym1 yd1 yk1 yb1 yc1)) [1, 2, 3, 4, 5, 6, 7, 8] (by decide) rfl
    refine cl_r (v := some (.int (nI yt1))) (W.runV (b := u 0) (C := "TypeStackModel") (As := []) (rest := []) ⟨hx, hb, hml, hown, hw⟩ (c_M_thrown l D u cI cZ gS1 gK1 gI1 gO1 gF1 gE1 gQ1 yt1 yn1 yr1 ym1 yd1 yk1 yb1 yc1 H.size) (cwV 0 hw g_L_74 rfl rfl rfl ⟨rfl, by decide, by decide, by decide +kernel⟩ ⟨by decide, by decide⟩) ⟨PW.blind, va_recv (q := (RM, FM, 15)) (ci := 1) (q0 := 0) hK2 hPm rfl rfl, PW.pre hPm hK2 hDm hS hA hE⟩ rfl rfl hl.1 rfl (lv_room (Nat.le_of_ble_eq_true rfl)) d_L_law_230 ⟨by show _ ≤ 1054; omega, by show _ ≤ 9807; omega⟩) ?_
    refine lv_iload hx hb d_L_law_233 (lv_at hl 1 rfl) ?_
    have hkl : cdl [NSE, ISE] E < 2 ^ 31 := Nat.lt_of_le_of_lt (cdl_in _ _) (by decide)
    refine nw_eq hx hb (tgt := 240) d_L_law_235 (by decide) (by omega) hkl (fun h => ?_) (fun h => absurd hyt h)
    refine lv_iload hx hb d_L_law_240 (lv_at hl 1 rfl) ?_
    refine nw_ifne hx hb (tgt := 257) d_L_law_242 (by decide) hkl (fun h => ?_) (fun h => absurd h (Nat.ne_of_gt (cdl_pos _ _ _)))
    refine lv_goto hx hb d_L_law_257 (tgt := 758) (by decide) ?_
    refine W.widen (k := 16 + (j + 1)) (n := 1531 + 6 * (j + 1)) (by omega) (by omega) ?_
    exact kk _ _ _ ⟨fT, fK, fA, fB, fF, fE, xh, xg, xr, xn, gS1, gK1, gI1, gO1, gF1, gE1, gQ1, yt1, yn1, yr1, ym1, yd1, yk1, yb1, yc1, g, hi0, hv0, hm1, hrel_, hP, hD, hS⟩ (lv_sub hl [2, 3, 4, 5, 6] rfl)

set_option maxHeartbeats 1000000 in
set_option maxRecDepth 100000 in
theorem law_select (K : LC l p s m meth c b L xs D cI cZ cL) (hi4 : i + 4 ≤ L) (hL : L ≤ 2048) (hj : j < 512) (hw0 : LW D z u o cI cZ cL s H locs) (hl : lv_has ls 7 [(4, .int (nI i)), (3, .ref o), (2, .ref (u 0)), (1, .ref (z 0)), (0, .ref b)])
    (kk : ∀ (H : Heap) (locs : List Loc) (ls : Array Slot), LW D z u o cI cZ cL s H locs → lv_has ls 7 [(4, .int (nI i)), (3, .ref o), (2, .ref (u 0)), (1, .ref (z 0)), (0, .ref b)] → W p l e room_1 s m #[Value.ref b] below meth c H locs (16 + (j + 1)) (1531 + 6 * (j + 1)) Q (F0 m 758 ls [])) : W p l e room_1 s m #[Value.ref b] below meth c H locs (16 + j) (1531 + 6 * j) Q (F0 m 260 ls []) := by
  obtain ⟨hl0, hx, hb, hml, hown, hw, hX, hbl, hE, hN, hK⟩ := K
  obtain ⟨fT, fK, fA, fB, fF, fE, xh, xg, xr, xn, gS, gK, gI, gO, gF, gE, gQ, yt, yn, yr, ym, yd, yk, yb, yc, g, hi0, hv0, hm0, hrel0, hP, hD, hS⟩ := hw0
  obtain ⟨rfl, rfl, rfl, rfl, hT, hF⟩ := hrel0
  have hA : ∀ q : Nat, s.heap.size ≤ q → (fun q => s.heap.size ≤ q) q := fun q h => h
  have hbA : ¬ (fun q => s.heap.size ≤ q) b := Nat.not_le.mpr hbl
  have hfl : 1 ≤ xr → gF (xr - 1) ≤ xh := fun h => by rw [← (hF (xr - 1) (by omega)).2.2.2.1]; exact hv0.2.1 h
  have hmo : xh ≤ xg := hv0.2.2.2
  have hro : ∀ j, j < xr → gF j + szL 6 (gI j) ≤ 300 := fun j h => by rw [← (hF j h).2.2.2.1, ← (hF j h).2.1]; exact hv0.2.2.1 j h
  have hK2 := hK.sub (tys' := [(cI, .int), (cZ, .boolean)]) [0, 1] rfl
  refine lv_aload_n hx hb d_L_law_260 rfl (lv_at hl 3 rfl) ?_
  refine lv_aload_n hx hb d_L_law_261 rfl (lv_at hl 1 rfl) ?_
  have hPc := hP.sub (ws' := ((o, .inl (cL, 1, .inr (.inl g))) :: wT z cI cZ fT fK fA fB fF fE xh xg xr xn)) [0, 9, 10, 11, 12, 13, 14, 15] rfl
  have hDc := hD.sub (ws' := ((o, .inl (cL, 1, .inr (.inl g))) :: wT z cI cZ fT fK fA fB fF fE xh xg xr xn)) [0, 9, 10, 11, 12, 13, 14, 15] (by decide) rfl
  refine cl_j (Wc := ((o, .inl (cL, 1, .inr (.inl g))) :: wT z cI cZ fT fK fA fB fF fE xh xg xr xn)) (Wr := (wM u cI cZ gS gK gI gO gF gE gQ yt xh xr xg xn yk yb yc)) hP hD hS hA [0, 9, 10, 11, 12, 13, 14, 15] [1, 2, 3, 4, 5, 6, 7, 8] rfl rfl (by decide) (by decide) (vx_runSW (As := [.ref (z 0), .ref o]) (rest := []) ⟨hx, hb, hml, hown, hw⟩ (c_L_select l hl0 D z cI cZ fT fK fA fB fF fE xh xg xr xn hi0 cL o g H.size) (vx_cwSW 2 hw g_L_85 rfl rfl rfl ⟨by decide, by decide, by decide +kernel⟩ ⟨by decide, by decide⟩) ⟨PL.blind, PL.pre hPc hK hDc hS hA hE hN⟩ rfl rfl hl.1 rfl (lv_room (Nat.le_of_ble_eq_true rfl)) d_L_law_262 ⟨by show _ ≤ 1054; omega, by show _ ≤ 9807; omega⟩) (fun _ _ _ h => h.2) (fun v1 st1 t1 H locs hq ht hJ hS hvm => ?_)
  obtain ⟨⟨q1, q2⟩, -⟩ := hq
  rcases opt_cs (orE (nf xr) (orE (xo ISE (hbT (fF (xr - 1)) (fE (xr - 1)) fT xh 1)) (orE (xo ISE (hb1 (fF (xr - 1)) (fE (xr - 1)) ((hbT (fF (xr - 1)) (fE (xr - 1)) fT xh 1).getD 0))) (orE (xo ISE (hb1 (fF (xr - 1)) (fE (xr - 1)) ((hb1 (fF (xr - 1)) (fE (xr - 1)) ((hbT (fF (xr - 1)) (fE (xr - 1)) fT xh 1).getD 0)).getD 0))) (orE (xo UOE (cty (tk1 (fF (xr - 1)) ((hbT (fF (xr - 1)) (fE (xr - 1)) fT xh 1).getD 0) fT) (tk1 (fF (xr - 1)) ((hb1 (fF (xr - 1)) (fE (xr - 1)) ((hbT (fF (xr - 1)) (fE (xr - 1)) fT xh 1).getD 0)).getD 0) fT))) (rmE ((hb1 (fF (xr - 1)) (fE (xr - 1)) ((hb1 (fF (xr - 1)) (fE (xr - 1)) ((hbT (fF (xr - 1)) (fE (xr - 1)) fT xh 1).getD 0)).getD 0)).getD 0 + 1))))))) with her | ⟨E, her⟩
  · skip
    obtain ⟨hr1, hP1, hD1⟩ := q1 her
    cases hr1
    rw [ht] at hP1
    obtain ⟨hP, hD⟩ := hJ _ hP1 hD1
    have hP := hP.sub (ws' := ((o, .inl (cL, 1, .inr (.inl (vp_updL g 0 (nI ((cty (tk1 (fF (xr - 1)) ((hbT (fF (xr - 1)) (fE (xr - 1)) fT xh 1).getD 0) fT) (tk1 (fF (xr - 1)) ((hb1 (fF (xr - 1)) (fE (xr - 1)) ((hbT (fF (xr - 1)) (fE (xr - 1)) fT xh 1).getD 0)).getD 0) fT)).getD 0)).toInt64)))) :: (wM u cI cZ gS gK gI gO gF gE gQ yt xh xr xg xn yk yb yc ++ wT z cI cZ (va_up fT ((hb1 (fF (xr - 1)) (fE (xr - 1)) ((hb1 (fF (xr - 1)) (fE (xr - 1)) ((hbT (fF (xr - 1)) (fE (xr - 1)) fT xh 1).getD 0)).getD 0)).getD 0) ((cty (tk1 (fF (xr - 1)) ((hbT (fF (xr - 1)) (fE (xr - 1)) fT xh 1).getD 0) fT) (tk1 (fF (xr - 1)) ((hb1 (fF (xr - 1)) (fE (xr - 1)) ((hbT (fF (xr - 1)) (fE (xr - 1)) fT xh 1).getD 0)).getD 0) fT)).getD 0)) fK fA fB fF fE ((hb1 (fF (xr - 1)) (fE (xr - 1)) ((hb1 (fF (xr - 1)) (fE (xr - 1)) ((hbT (fF (xr - 1)) (fE (xr - 1)) fT xh 1).getD 0)).getD 0)).getD 0 + 1) (max xg ((hb1 (fF (xr - 1)) (fE (xr - 1)) ((hb1 (fF (xr - 1)) (fE (xr - 1)) ((hbT (fF (xr - 1)) (fE (xr - 1)) fT xh 1).getD 0)).getD 0)).getD 0 + 1)) xr (xn + 1)))) [8, 0, 1, 2, 3, 4, 5, 6, 7, 9, 10, 11, 12, 13, 14, 15] rfl
    have hD := hD.sub (ws' := ((o, .inl (cL, 1, .inr (.inl (vp_updL g 0 (nI ((cty (tk1 (fF (xr - 1)) ((hbT (fF (xr - 1)) (fE (xr - 1)) fT xh 1).getD 0) fT) (tk1 (fF (xr - 1)) ((hb1 (fF (xr - 1)) (fE (xr - 1)) ((hbT (fF (xr - 1)) (fE (xr - 1)) fT xh 1).getD 0)).getD 0) fT)).getD 0)).toInt64)))) :: (wM u cI cZ gS gK gI gO gF gE gQ yt xh xr xg xn yk yb yc ++ wT z cI cZ (va_up fT ((hb1 (fF (xr - 1)) (fE (xr - 1)) ((hb1 (fF (xr - 1)) (fE (xr - 1)) ((hbT (fF (xr - 1)) (fE (xr - 1)) fT xh 1).getD 0)).getD 0)).getD 0) ((cty (tk1 (fF (xr - 1)) ((hbT (fF (xr - 1)) (fE (xr - 1)) fT xh 1).getD 0) fT) (tk1 (fF (xr - 1)) ((hb1 (fF (xr - 1)) (fE (xr - 1)) ((hbT (fF (xr - 1)) (fE (xr - 1)) fT xh 1).getD 0)).getD 0) fT)).getD 0)) fK fA fB fF fE ((hb1 (fF (xr - 1)) (fE (xr - 1)) ((hb1 (fF (xr - 1)) (fE (xr - 1)) ((hbT (fF (xr - 1)) (fE (xr - 1)) fT xh 1).getD 0)).getD 0)).getD 0 + 1) (max xg ((hb1 (fF (xr - 1)) (fE (xr - 1)) ((hb1 (fF (xr - 1)) (fE (xr - 1)) ((hbT (fF (xr - 1)) (fE (xr - 1)) fT xh 1).getD 0)).getD 0)).getD 0 + 1)) xr (xn + 1)))) [8, 0, 1, 2, 3, 4, 5, 6, 7, 9, 10, 11, 12, 13, 14, 15] (by decide) rfl
    refine lv_istore (lv' := [(5, .int (nI 0)), (4, .int (nI i)), (3, .ref o), (2, .ref (u 0)), (1, .ref (z 0)), (0, .ref b)]) hx hb d_L_law_265 hl (by decide) rfl (fun ls hl => ?_)
    refine lv_aload_n hx hb d_L_law_267 rfl (lv_at hl 3 rfl) ?_
    have hPm := hP.sub (ws' := (wM u cI cZ gS gK gI gO gF gE gQ yt xh xr xg xn yk yb yc)) [1, 2, 3, 4, 5, 6, 7, 8] rfl
    have hDm := hD.sub (ws' := (wM u cI cZ gS gK gI gO gF gE gQ yt xh xr xg xn yk yb yc)) [1, 2, 3, 4, 5, 6, 7, 8] (by decide) rfl
    refine cl_j (Wc := (wM u cI cZ gS gK gI gO gF gE gQ yt xh xr xg xn yk yb yc)) (Wr := ((o, .inl (cL, 1, .inr (.inl (vp_updL g 0 (nI ((cty (tk1 (fF (xr - 1)) ((hbT (fF (xr - 1)) (fE (xr - 1)) fT xh 1).getD 0) fT) (tk1 (fF (xr - 1)) ((hb1 (fF (xr - 1)) (fE (xr - 1)) ((hbT (fF (xr - 1)) (fE (xr - 1)) fT xh 1).getD 0)).getD 0) fT)).getD 0)).toInt64)))) :: wT z cI cZ (va_up fT ((hb1 (fF (xr - 1)) (fE (xr - 1)) ((hb1 (fF (xr - 1)) (fE (xr - 1)) ((hbT (fF (xr - 1)) (fE (xr - 1)) fT xh 1).getD 0)).getD 0)).getD 0) ((cty (tk1 (fF (xr - 1)) ((hbT (fF (xr - 1)) (fE (xr - 1)) fT xh 1).getD 0) fT) (tk1 (fF (xr - 1)) ((hb1 (fF (xr - 1)) (fE (xr - 1)) ((hbT (fF (xr - 1)) (fE (xr - 1)) fT xh 1).getD 0)).getD 0) fT)).getD 0)) fK fA fB fF fE ((hb1 (fF (xr - 1)) (fE (xr - 1)) ((hb1 (fF (xr - 1)) (fE (xr - 1)) ((hbT (fF (xr - 1)) (fE (xr - 1)) fT xh 1).getD 0)).getD 0)).getD 0 + 1) (max xg ((hb1 (fF (xr - 1)) (fE (xr - 1)) ((hb1 (fF (xr - 1)) (fE (xr - 1)) ((hbT (fF (xr - 1)) (fE (xr - 1)) fT xh 1).getD 0)).getD 0)).getD 0 + 1)) xr (xn + 1))) hP hD hS hA [1, 2, 3, 4, 5, 6, 7, 8] [0, 9, 10, 11, 12, 13, 14, 15] rfl rfl (by decide) (by decide) (va_runV (b := u 0) (C := "TypeStackModel") (As := []) (rest := []) ⟨hx, hb, hml, hown, hw⟩ (c_M_select l D u cI cZ gS gK gI gO gF gE gQ yt xh xr xg xn yk yb yc hm0 hfl hmo H.size) (cwV 0 hw g_L_87 rfl rfl rfl ⟨rfl, by decide, by decide, by decide +kernel⟩ ⟨by decide, by decide⟩) ⟨PW.blind, va_recv (q := (RM, FM, 15)) (ci := 1) (q0 := 0) hK2 hPm rfl rfl, PW.pre hPm hK2 hDm hS hA hE⟩ rfl rfl hl.1 rfl (lv_room (Nat.le_of_ble_eq_true rfl)) d_L_law_268 ⟨by show _ ≤ 1054; omega, by show _ ≤ 9807; omega⟩) (fun _ _ _ h => h.2) (fun v2 st2 t2 H locs hq ht hJ hS hvm2 => ?_)
    obtain ⟨⟨gS1, gK1, gI1, gO1, gF1, gE1, gQ1, yt1, yn1, yr1, ym1, yd1, yk1, yb1, yc1, v3, hr2, hpo, hm1, hP1, hD1⟩, -⟩ := hq
    cases hr2
    rw [ht] at hP1
    obtain ⟨hP, hD⟩ := hJ _ hP1 hD1
    have hP := hP.sub (ws' := ((o, .inl (cL, 1, .inr (.inl (vp_updL g 0 (nI ((cty (tk1 (fF (xr - 1)) ((hbT (fF (xr - 1)) (fE (xr - 1)) fT xh 1).getD 0) fT) (tk1 (fF (xr - 1)) ((hb1 (fF (xr - 1)) (fE (xr - 1)) ((hbT (fF (xr - 1)) (fE (xr - 1)) fT xh 1).getD 0)).getD 0) fT)).getD 0)).toInt64)))) :: (wM u cI cZ gS1 gK1 gI1 gO1 gF1 gE1 gQ1 yt1 yn1 yr1 ym1 yd1 yk1 yb1 yc1 ++ wT z cI cZ (va_up fT ((hb1 (fF (xr - 1)) (fE (xr - 1)) ((hb1 (fF (xr - 1)) (fE (xr - 1)) ((hbT (fF (xr - 1)) (fE (xr - 1)) fT xh 1).getD 0)).getD 0)).getD 0) ((cty (tk1 (fF (xr - 1)) ((hbT (fF (xr - 1)) (fE (xr - 1)) fT xh 1).getD 0) fT) (tk1 (fF (xr - 1)) ((hb1 (fF (xr - 1)) (fE (xr - 1)) ((hbT (fF (xr - 1)) (fE (xr - 1)) fT xh 1).getD 0)).getD 0) fT)).getD 0)) fK fA fB fF fE ((hb1 (fF (xr - 1)) (fE (xr - 1)) ((hb1 (fF (xr - 1)) (fE (xr - 1)) ((hbT (fF (xr - 1)) (fE (xr - 1)) fT xh 1).getD 0)).getD 0)).getD 0 + 1) (max xg ((hb1 (fF (xr - 1)) (fE (xr - 1)) ((hb1 (fF (xr - 1)) (fE (xr - 1)) ((hbT (fF (xr - 1)) (fE (xr - 1)) fT xh 1).getD 0)).getD 0)).getD 0 + 1)) xr (xn + 1)))) [0, 8, 9, 10, 11, 12, 13, 14, 15, 1, 2, 3, 4, 5, 6, 7] rfl
    have hD := hD.sub (ws' := ((o, .inl (cL, 1, .inr (.inl (vp_updL g 0 (nI ((cty (tk1 (fF (xr - 1)) ((hbT (fF (xr - 1)) (fE (xr - 1)) fT xh 1).getD 0) fT) (tk1 (fF (xr - 1)) ((hb1 (fF (xr - 1)) (fE (xr - 1)) ((hbT (fF (xr - 1)) (fE (xr - 1)) fT xh 1).getD 0)).getD 0) fT)).getD 0)).toInt64)))) :: (wM u cI cZ gS1 gK1 gI1 gO1 gF1 gE1 gQ1 yt1 yn1 yr1 ym1 yd1 yk1 yb1 yc1 ++ wT z cI cZ (va_up fT ((hb1 (fF (xr - 1)) (fE (xr - 1)) ((hb1 (fF (xr - 1)) (fE (xr - 1)) ((hbT (fF (xr - 1)) (fE (xr - 1)) fT xh 1).getD 0)).getD 0)).getD 0) ((cty (tk1 (fF (xr - 1)) ((hbT (fF (xr - 1)) (fE (xr - 1)) fT xh 1).getD 0) fT) (tk1 (fF (xr - 1)) ((hb1 (fF (xr - 1)) (fE (xr - 1)) ((hbT (fF (xr - 1)) (fE (xr - 1)) fT xh 1).getD 0)).getD 0) fT)).getD 0)) fK fA fB fF fE ((hb1 (fF (xr - 1)) (fE (xr - 1)) ((hb1 (fF (xr - 1)) (fE (xr - 1)) ((hbT (fF (xr - 1)) (fE (xr - 1)) fT xh 1).getD 0)).getD 0)).getD 0 + 1) (max xg ((hb1 (fF (xr - 1)) (fE (xr - 1)) ((hb1 (fF (xr - 1)) (fE (xr - 1)) ((hbT (fF (xr - 1)) (fE (xr - 1)) fT xh 1).getD 0)).getD 0)).getD 0 + 1)) xr (xn + 1)))) [0, 8, 9, 10, 11, 12, 13, 14, 15, 1, 2, 3, 4, 5, 6, 7] (by decide) rfl
    obtain ⟨hyt, hvv, hrel⟩ := hpo.1 ((A_select hT hF).symm.trans her)
    subst hvv
    obtain ⟨hi1, hv1⟩ := D_select hi0 hv0 her
    have hrel_ := rel_t (C_select hT hF her) hrel
    have hB := B_select hT hF her
    refine lv_istore (lv' := [(6, .int (nI ((cty (tk1 (gF (xr - 1)) ((hbT (gF (xr - 1)) (gE (xr - 1)) gS xh 1).getD 0) gS) (tk1 (gF (xr - 1)) ((hb1 (gF (xr - 1)) (gE (xr - 1)) ((hbT (gF (xr - 1)) (gE (xr - 1)) gS xh 1).getD 0)).getD 0) gS)).getD 0))), (5, .int (nI 0)), (4, .int (nI i)), (3, .ref o), (2, .ref (u 0)), (1, .ref (z 0)), (0, .ref b)]) hx hb d_L_law_271 hl (by decide) rfl (fun ls hl => ?_)
    refine lv_aload_n hx hb d_L_law_273 rfl (lv_at hl 4 rfl) ?_
    have hPm := hP.sub (ws' := (wM u cI cZ gS1 gK1 gI1 gO1 gF1 gE1 gQ1 yt1 yn1 yr1 ym1 yd1 yk1 yb1 yc1)) [1, 2, 3, 4, 5, 6, 7, 8] rfl
    have hDm := hD.sub (ws' := (wM u cI cZ gS1 gK1 gI1 gO1 gF1 gE1 gQ1 yt1 yn1 yr1 ym1 yd1 yk1 yb1 yc1)) [1, 2, 3, 4, 5, 6, 7, 8] (by decide) rfl
    refine cl_r (v := some (.int (nI yt1))) (W.runV (b := u 0) (C := "TypeStackModel") (As := []) (rest := []) ⟨hx, hb, hml, hown, hw⟩ (c_M_thrown l D u cI cZ gS1 gK1 gI1 gO1 gF1 gE1 gQ1 yt1 yn1 yr1 ym1 yd1 yk1 yb1 yc1 H.size) (cwV 0 hw g_L_74 rfl rfl rfl ⟨rfl, by decide, by decide, by decide +kernel⟩ ⟨by decide, by decide⟩) ⟨PW.blind, va_recv (q := (RM, FM, 15)) (ci := 1) (q0 := 0) hK2 hPm rfl rfl, PW.pre hPm hK2 hDm hS hA hE⟩ rfl rfl hl.1 rfl (lv_room (Nat.le_of_ble_eq_true rfl)) d_L_law_274 ⟨by show _ ≤ 1054; omega, by show _ ≤ 9807; omega⟩) ?_
    refine lv_iload hx hb d_L_law_277 (lv_at hl 1 rfl) ?_
    have hkl : 0 < 2 ^ 31 := by decide
    refine nw_eq hx hb (tgt := 284) d_L_law_279 (by decide) (by omega) hkl (fun h => ?_) (fun h => absurd hyt h)
    refine lv_iload hx hb d_L_law_284 (lv_at hl 1 rfl) ?_
    refine nw_ifne hx hb (tgt := 301) d_L_law_286 (by decide) (by decide) (fun h => absurd h (Nat.lt_irrefl 0)) (fun h => ?_)
    refine lv_aload_n hx hb d_L_law_289 rfl (lv_at hl 3 rfl) ?_
    refine lv_iconst (v := nI 0) hx hb d_L_law_290 (by decide) ?_
    refine va_lald hx hb hK hP 0 2 rfl rfl (i := nI 0) (vp_in_nI (by decide) (by decide)) d_L_law_291 ?_
    refine lv_iload hx hb d_L_law_292 (lv_at hl 0 rfl) ?_
    refine lv_i2l (v := (nI ((cty (tk1 (fF (xr - 1)) ((hbT (fF (xr - 1)) (fE (xr - 1)) fT xh 1).getD 0) fT) (tk1 (fF (xr - 1)) ((hb1 (fF (xr - 1)) (fE (xr - 1)) ((hbT (fF (xr - 1)) (fE (xr - 1)) fT xh 1).getD 0)).getD 0) fT)).getD 0)).toInt64) hx hb d_L_law_294 (by rw [hB]) ?_
    refine W.lcmp hx hb d_L_law_295 ?_
    refine nw_is (y := nI 0) (lgc _) ?_
    refine nw_ifeq hx hb (tgt := 301) d_L_law_296 (by decide) (by decide) (fun h => ?_) (fun h => absurd h (Nat.lt_irrefl 0))
    refine lv_goto hx hb d_L_law_301 (tgt := 758) (by decide) ?_
    refine W.widen (k := 16 + (j + 1)) (n := 1531 + 6 * (j + 1)) (by omega) (by omega) ?_
    exact kk _ _ _ ⟨(va_up fT ((hb1 (fF (xr - 1)) (fE (xr - 1)) ((hb1 (fF (xr - 1)) (fE (xr - 1)) ((hbT (fF (xr - 1)) (fE (xr - 1)) fT xh 1).getD 0)).getD 0)).getD 0) ((cty (tk1 (fF (xr - 1)) ((hbT (fF (xr - 1)) (fE (xr - 1)) fT xh 1).getD 0) fT) (tk1 (fF (xr - 1)) ((hb1 (fF (xr - 1)) (fE (xr - 1)) ((hbT (fF (xr - 1)) (fE (xr - 1)) fT xh 1).getD 0)).getD 0) fT)).getD 0)), fK, fA, fB, fF, fE, ((hb1 (fF (xr - 1)) (fE (xr - 1)) ((hb1 (fF (xr - 1)) (fE (xr - 1)) ((hbT (fF (xr - 1)) (fE (xr - 1)) fT xh 1).getD 0)).getD 0)).getD 0 + 1), (max xg ((hb1 (fF (xr - 1)) (fE (xr - 1)) ((hb1 (fF (xr - 1)) (fE (xr - 1)) ((hbT (fF (xr - 1)) (fE (xr - 1)) fT xh 1).getD 0)).getD 0)).getD 0 + 1)), xr, (xn + 1), gS1, gK1, gI1, gO1, gF1, gE1, gQ1, yt1, yn1, yr1, ym1, yd1, yk1, yb1, yc1, (vp_updL g 0 (nI ((cty (tk1 (fF (xr - 1)) ((hbT (fF (xr - 1)) (fE (xr - 1)) fT xh 1).getD 0) fT) (tk1 (fF (xr - 1)) ((hb1 (fF (xr - 1)) (fE (xr - 1)) ((hbT (fF (xr - 1)) (fE (xr - 1)) fT xh 1).getD 0)).getD 0) fT)).getD 0)).toInt64), hi1, hv1, hm1, hrel_, hP, hD, hS⟩ (lv_sub hl [2, 3, 4, 5, 6] rfl)
  · skip
    obtain ⟨hr1, hP1, hD1⟩ := q2 E her
    cases hr1
    rw [ht] at hP1
    obtain ⟨hP, hD⟩ := hJ _ hP1 hD1
    have hP := hP.sub (ws' := ((o, .inl (cL, 1, .inr (.inl g))) :: (wM u cI cZ gS gK gI gO gF gE gQ yt xh xr xg xn yk yb yc ++ wT z cI cZ fT fK fA fB fF fE xh xg xr xn))) [8, 0, 1, 2, 3, 4, 5, 6, 7, 9, 10, 11, 12, 13, 14, 15] rfl
    have hD := hD.sub (ws' := ((o, .inl (cL, 1, .inr (.inl g))) :: (wM u cI cZ gS gK gI gO gF gE gQ yt xh xr xg xn yk yb yc ++ wT z cI cZ fT fK fA fB fF fE xh xg xr xn))) [8, 0, 1, 2, 3, 4, 5, 6, 7, 9, 10, 11, 12, 13, 14, 15] (by decide) rfl
    refine lv_istore (lv' := [(5, .int (nI (cdl [NSE, ISE, UOE, AE] E))), (4, .int (nI i)), (3, .ref o), (2, .ref (u 0)), (1, .ref (z 0)), (0, .ref b)]) hx hb d_L_law_265 hl (by decide) rfl (fun ls hl => ?_)
    refine lv_aload_n hx hb d_L_law_267 rfl (lv_at hl 3 rfl) ?_
    have hPm := hP.sub (ws' := (wM u cI cZ gS gK gI gO gF gE gQ yt xh xr xg xn yk yb yc)) [1, 2, 3, 4, 5, 6, 7, 8] rfl
    have hDm := hD.sub (ws' := (wM u cI cZ gS gK gI gO gF gE gQ yt xh xr xg xn yk yb yc)) [1, 2, 3, 4, 5, 6, 7, 8] (by decide) rfl
    refine cl_j (Wc := (wM u cI cZ gS gK gI gO gF gE gQ yt xh xr xg xn yk yb yc)) (Wr := ((o, .inl (cL, 1, .inr (.inl g))) :: wT z cI cZ fT fK fA fB fF fE xh xg xr xn)) hP hD hS hA [1, 2, 3, 4, 5, 6, 7, 8] [0, 9, 10, 11, 12, 13, 14, 15] rfl rfl (by decide) (by decide) (va_runV (b := u 0) (C := "TypeStackModel") (As := []) (rest := []) ⟨hx, hb, hml, hown, hw⟩ (c_M_select l D u cI cZ gS gK gI gO gF gE gQ yt xh xr xg xn yk yb yc hm0 hfl hmo H.size) (cwV 0 hw g_L_87 rfl rfl rfl ⟨rfl, by decide, by decide, by decide +kernel⟩ ⟨by decide, by decide⟩) ⟨PW.blind, va_recv (q := (RM, FM, 15)) (ci := 1) (q0 := 0) hK2 hPm rfl rfl, PW.pre hPm hK2 hDm hS hA hE⟩ rfl rfl hl.1 rfl (lv_room (Nat.le_of_ble_eq_true rfl)) d_L_law_268 ⟨by show _ ≤ 1054; omega, by show _ ≤ 9807; omega⟩) (fun _ _ _ h => h.2) (fun v2 st2 t2 H locs hq ht hJ hS hvm2 => ?_)
    obtain ⟨⟨gS1, gK1, gI1, gO1, gF1, gE1, gQ1, yt1, yn1, yr1, ym1, yd1, yk1, yb1, yc1, v3, hr2, hpo, hm1, hP1, hD1⟩, -⟩ := hq
    cases hr2
    rw [ht] at hP1
    obtain ⟨hP, hD⟩ := hJ _ hP1 hD1
    have hP := hP.sub (ws' := ((o, .inl (cL, 1, .inr (.inl g))) :: (wM u cI cZ gS1 gK1 gI1 gO1 gF1 gE1 gQ1 yt1 yn1 yr1 ym1 yd1 yk1 yb1 yc1 ++ wT z cI cZ fT fK fA fB fF fE xh xg xr xn))) [0, 8, 9, 10, 11, 12, 13, 14, 15, 1, 2, 3, 4, 5, 6, 7] rfl
    have hD := hD.sub (ws' := ((o, .inl (cL, 1, .inr (.inl g))) :: (wM u cI cZ gS1 gK1 gI1 gO1 gF1 gE1 gQ1 yt1 yn1 yr1 ym1 yd1 yk1 yb1 yc1 ++ wT z cI cZ fT fK fA fB fF fE xh xg xr xn))) [0, 8, 9, 10, 11, 12, 13, 14, 15, 1, 2, 3, 4, 5, 6, 7] (by decide) rfl
    obtain ⟨hyt, hvv, hrel⟩ := hpo.2 E ((A_select hT hF).symm.trans her)
    subst hvv
    have hrel_ := rel_t ⟨rfl, rfl, rfl, rfl, hT, hF⟩ hrel
    refine lv_istore (lv' := [(6, .int (nI 0)), (5, .int (nI (cdl [NSE, ISE, UOE, AE] E))), (4, .int (nI i)), (3, .ref o), (2, .ref (u 0)), (1, .ref (z 0)), (0, .ref b)]) hx hb d_L_law_271 hl (by decide) rfl (fun ls hl => ?_)
    refine lv_aload_n hx hb d_L_law_273 rfl (lv_at hl 4 rfl) ?_
    have hPm := hP.sub (ws' := (wM u cI cZ gS1 gK1 gI1 gO1 gF1 gE1 gQ1 yt1 yn1 yr1 ym1 yd1 yk1 yb1 yc1)) [1, 2, 3, 4, 5, 6, 7, 8] rfl
    have hDm := hD.sub (ws' := (wM u cI cZ gS1 gK1 gI1 gO1 gF1 gE1 gQ1 yt1 yn1 yr1 ym1 yd1 yk1 yb1 yc1)) [1, 2, 3, 4, 5, 6, 7, 8] (by decide) rfl
    refine cl_r (v := some (.int (nI yt1))) (W.runV (b := u 0) (C := "TypeStackModel") (As := []) (rest := []) ⟨hx, hb, hml, hown, hw⟩ (c_M_thrown l D u cI cZ gS1 gK1 gI1 gO1 gF1 gE1 gQ1 yt1 yn1 yr1 ym1 yd1 yk1 yb1 yc1 H.size) (cwV 0 hw g_L_74 rfl rfl rfl ⟨rfl, by decide, by decide, by decide +kernel⟩ ⟨by decide, by decide⟩) ⟨PW.blind, va_recv (q := (RM, FM, 15)) (ci := 1) (q0 := 0) hK2 hPm rfl rfl, PW.pre hPm hK2 hDm hS hA hE⟩ rfl rfl hl.1 rfl (lv_room (Nat.le_of_ble_eq_true rfl)) d_L_law_274 ⟨by show _ ≤ 1054; omega, by show _ ≤ 9807; omega⟩) ?_
    refine lv_iload hx hb d_L_law_277 (lv_at hl 1 rfl) ?_
    have hkl : cdl [NSE, ISE, UOE, AE] E < 2 ^ 31 := Nat.lt_of_le_of_lt (cdl_in _ _) (by decide)
    refine nw_eq hx hb (tgt := 284) d_L_law_279 (by decide) (by omega) hkl (fun h => ?_) (fun h => absurd hyt h)
    refine lv_iload hx hb d_L_law_284 (lv_at hl 1 rfl) ?_
    refine nw_ifne hx hb (tgt := 301) d_L_law_286 (by decide) hkl (fun h => ?_) (fun h => absurd h (Nat.ne_of_gt (cdl_pos _ _ _)))
    refine lv_goto hx hb d_L_law_301 (tgt := 758) (by decide) ?_
    refine W.widen (k := 16 + (j + 1)) (n := 1531 + 6 * (j + 1)) (by omega) (by omega) ?_
    exact kk _ _ _ ⟨fT, fK, fA, fB, fF, fE, xh, xg, xr, xn, gS1, gK1, gI1, gO1, gF1, gE1, gQ1, yt1, yn1, yr1, ym1, yd1, yk1, yb1, yc1, g, hi0, hv0, hm1, hrel_, hP, hD, hS⟩ (lv_sub hl [2, 3, 4, 5, 6] rfl)

set_option maxHeartbeats 1000000 in
set_option maxRecDepth 100000 in
theorem law_block (K : LC l p s m meth c b L xs D cI cZ cL) (hi4 : i + 4 ≤ L) (hL : L ≤ 2048) (hj : j < 512) (hw0 : LW D z u o cI cZ cL s H locs) (hl : lv_has ls 7 [(4, .int (nI i)), (3, .ref o), (2, .ref (u 0)), (1, .ref (z 0)), (0, .ref b)])
    (kk : ∀ (H : Heap) (locs : List Loc) (ls : Array Slot), LW D z u o cI cZ cL s H locs → lv_has ls 7 [(4, .int (nI i)), (3, .ref o), (2, .ref (u 0)), (1, .ref (z 0)), (0, .ref b)] → W p l e room_1 s m #[Value.ref b] below meth c H locs (16 + (j + 1)) (1531 + 6 * (j + 1)) Q (F0 m 758 ls [])) : W p l e room_1 s m #[Value.ref b] below meth c H locs (16 + j) (1531 + 6 * j) Q (F0 m 304 ls []) := by
  obtain ⟨hl0, hx, hb, hml, hown, hw, hX, hbl, hE, hN, hK⟩ := K
  obtain ⟨fT, fK, fA, fB, fF, fE, xh, xg, xr, xn, gS, gK, gI, gO, gF, gE, gQ, yt, yn, yr, ym, yd, yk, yb, yc, g, hi0, hv0, hm0, hrel0, hP, hD, hS⟩ := hw0
  obtain ⟨rfl, rfl, rfl, rfl, hT, hF⟩ := hrel0
  have hA : ∀ q : Nat, s.heap.size ≤ q → (fun q => s.heap.size ≤ q) q := fun q h => h
  have hbA : ¬ (fun q => s.heap.size ≤ q) b := Nat.not_le.mpr hbl
  have hfl : 1 ≤ xr → gF (xr - 1) ≤ xh := fun h => by rw [← (hF (xr - 1) (by omega)).2.2.2.1]; exact hv0.2.1 h
  have hmo : xh ≤ xg := hv0.2.2.2
  have hro : ∀ j, j < xr → gF j + szL 6 (gI j) ≤ 300 := fun j h => by rw [← (hF j h).2.2.2.1, ← (hF j h).2.1]; exact hv0.2.2.1 j h
  have hK2 := hK.sub (tys' := [(cI, .int), (cZ, .boolean)]) [0, 1] rfl
  refine lv_aload_n hx hb d_L_law_304 rfl (lv_at hl 3 rfl) ?_
  refine lv_aload_n hx hb d_L_law_305 rfl (lv_at hl 4 rfl) ?_
  refine lv_iload hx hb d_L_law_306 (lv_at hl 0 rfl) ?_
  refine lv_iconst (v := nI 1) hx hb d_L_law_308 (by decide) ?_
  refine nw_add hx hb d_L_law_309 ?_
  refine nw_sld hx hb hX hbl hbA hS (k := i + 1) (by omega) (by omega) d_L_law_310 ?_
  refine lv_aload_n hx hb d_L_law_311 rfl (lv_at hl 4 rfl) ?_
  refine lv_iload hx hb d_L_law_312 (lv_at hl 0 rfl) ?_
  refine lv_iconst (v := nI 2) hx hb d_L_law_314 (by decide) ?_
  refine nw_add hx hb d_L_law_315 ?_
  refine nw_sld hx hb hX hbl hbA hS (k := i + 2) (by omega) (by omega) d_L_law_316 ?_
  refine lv_aload_n hx hb d_L_law_317 rfl (lv_at hl 4 rfl) ?_
  refine lv_iload hx hb d_L_law_318 (lv_at hl 0 rfl) ?_
  refine lv_iconst (v := nI 3) hx hb d_L_law_320 (by decide) ?_
  refine nw_add hx hb d_L_law_321 ?_
  refine nw_sld hx hb hX hbl hbA hS (k := i + 3) (by omega) (by omega) d_L_law_322 ?_
  refine lv_aload_n hx hb d_L_law_323 rfl (lv_at hl 1 rfl) ?_
  have hPc := hP.sub (ws' := ((o, .inl (cL, 1, .inr (.inl g))) :: wT z cI cZ fT fK fA fB fF fE xh xg xr xn)) [0, 9, 10, 11, 12, 13, 14, 15] rfl
  have hDc := hD.sub (ws' := ((o, .inl (cL, 1, .inr (.inl g))) :: wT z cI cZ fT fK fA fB fF fE xh xg xr xn)) [0, 9, 10, 11, 12, 13, 14, 15] (by decide) rfl
  refine cl_j (Wc := ((o, .inl (cL, 1, .inr (.inl g))) :: wT z cI cZ fT fK fA fB fF fE xh xg xr xn)) (Wr := (wM u cI cZ gS gK gI gO gF gE gQ yt xh xr xg xn yk yb yc)) hP hD hS hA [0, 9, 10, 11, 12, 13, 14, 15] [1, 2, 3, 4, 5, 6, 7, 8] rfl rfl (by decide) (by decide) (vx_runSW (As := [.ref (z 0), .int (xs (i + 1)), .int (xs (i + 2)), .int (xs (i + 3)), .ref o]) (rest := []) ⟨hx, hb, hml, hown, hw⟩ (c_L_block l hl0 D z cI cZ fT fK fA fB fF fE xh xg xr xn hi0 (xs (i + 1)) (xs (i + 2)) (xs (i + 3)) cL o g H.size) (vx_cwSW 5 hw g_L_88 rfl rfl rfl ⟨by decide, by decide, by decide +kernel⟩ ⟨by decide, by decide⟩) ⟨PL.blind, PL.pre hPc hK hDc hS hA hE hN⟩ rfl rfl hl.1 rfl (lv_room (Nat.le_of_ble_eq_true rfl)) d_L_law_324 ⟨by show _ ≤ 1054; omega, by show _ ≤ 9807; omega⟩) (fun _ _ _ h => h.2) (fun v1 st1 t1 H locs hq ht hJ hS hvm => ?_)
  obtain ⟨⟨q1, q2⟩, -⟩ := hq
  rcases opt_cs (orE (xk (xs (i + 1))) (orE (xl (xs (i + 2))) (orE (xl (xs (i + 3))) (orE (nf xr) (orE (xo ISE (bel (xs (i + 1)) (fF (xr - 1)) (fE (xr - 1)) fT xh)) (orE (xo ISE (hbL (fF (xr - 1)) (fE (xr - 1)) fT 6 (bl (xs (i + 1)) (fF (xr - 1)) (fE (xr - 1)) fT xh) (xs (i + 2)).toNatClampNeg)) (orE (rmE ((hbL (fF (xr - 1)) (fE (xr - 1)) fT 6 (bl (xs (i + 1)) (fF (xr - 1)) (fE (xr - 1)) fT xh) (xs (i + 2)).toNatClampNeg).getD 0 + szL 6 (xs (i + 2)).toNatClampNeg)) (f40 xr)))))))) with her | ⟨E, her⟩
  · skip
    obtain ⟨hr1, hP1, hD1⟩ := q1 her
    cases hr1
    rw [ht] at hP1
    obtain ⟨hP, hD⟩ := hJ _ hP1 hD1
    have hP := hP.sub (ws' := ((o, .inl (cL, 1, .inr (.inl (vp_updL g 0 (nI (xr + 1)).toInt64)))) :: (wM u cI cZ gS gK gI gO gF gE gQ yt xh xr xg xn yk yb yc ++ wT z cI cZ (pl fT ((hbL (fF (xr - 1)) (fE (xr - 1)) fT 6 (bl (xs (i + 1)) (fF (xr - 1)) (fE (xr - 1)) fT xh) (xs (i + 2)).toNatClampNeg).getD 0) (szL 6 (xs (i + 2)).toNatClampNeg) (xs (i + 2)).toNatClampNeg) (va_up fK xr (xs (i + 1)).toNatClampNeg) (va_up fA xr (xs (i + 2)).toNatClampNeg) (va_up fB xr (xs (i + 3)).toNatClampNeg) (va_up fF xr ((hbL (fF (xr - 1)) (fE (xr - 1)) fT 6 (bl (xs (i + 1)) (fF (xr - 1)) (fE (xr - 1)) fT xh) (xs (i + 2)).toNatClampNeg).getD 0)) (va_up fE xr 0) (((hbL (fF (xr - 1)) (fE (xr - 1)) fT 6 (bl (xs (i + 1)) (fF (xr - 1)) (fE (xr - 1)) fT xh) (xs (i + 2)).toNatClampNeg).getD 0) + szL 6 (xs (i + 2)).toNatClampNeg) (max xg (((hbL (fF (xr - 1)) (fE (xr - 1)) fT 6 (bl (xs (i + 1)) (fF (xr - 1)) (fE (xr - 1)) fT xh) (xs (i + 2)).toNatClampNeg).getD 0) + szL 6 (xs (i + 2)).toNatClampNeg)) (xr + 1) (xn + 1)))) [8, 0, 1, 2, 3, 4, 5, 6, 7, 9, 10, 11, 12, 13, 14, 15] rfl
    have hD := hD.sub (ws' := ((o, .inl (cL, 1, .inr (.inl (vp_updL g 0 (nI (xr + 1)).toInt64)))) :: (wM u cI cZ gS gK gI gO gF gE gQ yt xh xr xg xn yk yb yc ++ wT z cI cZ (pl fT ((hbL (fF (xr - 1)) (fE (xr - 1)) fT 6 (bl (xs (i + 1)) (fF (xr - 1)) (fE (xr - 1)) fT xh) (xs (i + 2)).toNatClampNeg).getD 0) (szL 6 (xs (i + 2)).toNatClampNeg) (xs (i + 2)).toNatClampNeg) (va_up fK xr (xs (i + 1)).toNatClampNeg) (va_up fA xr (xs (i + 2)).toNatClampNeg) (va_up fB xr (xs (i + 3)).toNatClampNeg) (va_up fF xr ((hbL (fF (xr - 1)) (fE (xr - 1)) fT 6 (bl (xs (i + 1)) (fF (xr - 1)) (fE (xr - 1)) fT xh) (xs (i + 2)).toNatClampNeg).getD 0)) (va_up fE xr 0) (((hbL (fF (xr - 1)) (fE (xr - 1)) fT 6 (bl (xs (i + 1)) (fF (xr - 1)) (fE (xr - 1)) fT xh) (xs (i + 2)).toNatClampNeg).getD 0) + szL 6 (xs (i + 2)).toNatClampNeg) (max xg (((hbL (fF (xr - 1)) (fE (xr - 1)) fT 6 (bl (xs (i + 1)) (fF (xr - 1)) (fE (xr - 1)) fT xh) (xs (i + 2)).toNatClampNeg).getD 0) + szL 6 (xs (i + 2)).toNatClampNeg)) (xr + 1) (xn + 1)))) [8, 0, 1, 2, 3, 4, 5, 6, 7, 9, 10, 11, 12, 13, 14, 15] (by decide) rfl
    refine lv_istore (lv' := [(5, .int (nI 0)), (4, .int (nI i)), (3, .ref o), (2, .ref (u 0)), (1, .ref (z 0)), (0, .ref b)]) hx hb d_L_law_327 hl (by decide) rfl (fun ls hl => ?_)
    refine lv_aload_n hx hb d_L_law_329 rfl (lv_at hl 3 rfl) ?_
    refine lv_aload_n hx hb d_L_law_330 rfl (lv_at hl 5 rfl) ?_
    refine lv_iload hx hb d_L_law_331 (lv_at hl 1 rfl) ?_
    refine lv_iconst (v := nI 1) hx hb d_L_law_333 (by decide) ?_
    refine nw_add hx hb d_L_law_334 ?_
    refine nw_sld hx hb hX hbl hbA hS (k := i + 1) (by omega) (by omega) d_L_law_335 ?_
    refine lv_aload_n hx hb d_L_law_336 rfl (lv_at hl 5 rfl) ?_
    refine lv_iload hx hb d_L_law_337 (lv_at hl 1 rfl) ?_
    refine lv_iconst (v := nI 2) hx hb d_L_law_339 (by decide) ?_
    refine nw_add hx hb d_L_law_340 ?_
    refine nw_sld hx hb hX hbl hbA hS (k := i + 2) (by omega) (by omega) d_L_law_341 ?_
    refine lv_aload_n hx hb d_L_law_342 rfl (lv_at hl 5 rfl) ?_
    refine lv_iload hx hb d_L_law_343 (lv_at hl 1 rfl) ?_
    refine lv_iconst (v := nI 3) hx hb d_L_law_345 (by decide) ?_
    refine nw_add hx hb d_L_law_346 ?_
    refine nw_sld hx hb hX hbl hbA hS (k := i + 3) (by omega) (by omega) d_L_law_347 ?_
    have hPm := hP.sub (ws' := (wM u cI cZ gS gK gI gO gF gE gQ yt xh xr xg xn yk yb yc)) [1, 2, 3, 4, 5, 6, 7, 8] rfl
    have hDm := hD.sub (ws' := (wM u cI cZ gS gK gI gO gF gE gQ yt xh xr xg xn yk yb yc)) [1, 2, 3, 4, 5, 6, 7, 8] (by decide) rfl
    refine cl_j (Wc := (wM u cI cZ gS gK gI gO gF gE gQ yt xh xr xg xn yk yb yc)) (Wr := ((o, .inl (cL, 1, .inr (.inl (vp_updL g 0 (nI (xr + 1)).toInt64)))) :: wT z cI cZ (pl fT ((hbL (fF (xr - 1)) (fE (xr - 1)) fT 6 (bl (xs (i + 1)) (fF (xr - 1)) (fE (xr - 1)) fT xh) (xs (i + 2)).toNatClampNeg).getD 0) (szL 6 (xs (i + 2)).toNatClampNeg) (xs (i + 2)).toNatClampNeg) (va_up fK xr (xs (i + 1)).toNatClampNeg) (va_up fA xr (xs (i + 2)).toNatClampNeg) (va_up fB xr (xs (i + 3)).toNatClampNeg) (va_up fF xr ((hbL (fF (xr - 1)) (fE (xr - 1)) fT 6 (bl (xs (i + 1)) (fF (xr - 1)) (fE (xr - 1)) fT xh) (xs (i + 2)).toNatClampNeg).getD 0)) (va_up fE xr 0) (((hbL (fF (xr - 1)) (fE (xr - 1)) fT 6 (bl (xs (i + 1)) (fF (xr - 1)) (fE (xr - 1)) fT xh) (xs (i + 2)).toNatClampNeg).getD 0) + szL 6 (xs (i + 2)).toNatClampNeg) (max xg (((hbL (fF (xr - 1)) (fE (xr - 1)) fT 6 (bl (xs (i + 1)) (fF (xr - 1)) (fE (xr - 1)) fT xh) (xs (i + 2)).toNatClampNeg).getD 0) + szL 6 (xs (i + 2)).toNatClampNeg)) (xr + 1) (xn + 1))) hP hD hS hA [1, 2, 3, 4, 5, 6, 7, 8] [0, 9, 10, 11, 12, 13, 14, 15] rfl rfl (by decide) (by decide) (va_runV (b := u 0) (C := "TypeStackModel") (As := [.int (xs (i + 1)), .int (xs (i + 2)), .int (xs (i + 3))]) (rest := []) ⟨hx, hb, hml, hown, hw⟩ (c_M_block l D u cI cZ gS gK gI gO gF gE gQ yt xh xr xg xn yk yb yc hm0 (xs (i + 1)) (xs (i + 2)) (xs (i + 3)) hfl hmo H.size) (cwV 3 hw g_L_91 rfl rfl rfl ⟨rfl, by decide, by decide, by decide +kernel⟩ ⟨by decide, by decide⟩) ⟨PW.blind, va_recv (q := (RM, FM, 15)) (ci := 1) (q0 := 0) hK2 hPm rfl rfl, PW.pre hPm hK2 hDm hS hA hE⟩ rfl rfl hl.1 rfl (lv_room (Nat.le_of_ble_eq_true rfl)) d_L_law_348 ⟨by show _ ≤ 1054; omega, by show _ ≤ 9807; omega⟩) (fun _ _ _ h => h.2) (fun v2 st2 t2 H locs hq ht hJ hS hvm2 => ?_)
    obtain ⟨⟨gS1, gK1, gI1, gO1, gF1, gE1, gQ1, yt1, yn1, yr1, ym1, yd1, yk1, yb1, yc1, v3, hr2, hpo, hm1, hP1, hD1⟩, -⟩ := hq
    cases hr2
    rw [ht] at hP1
    obtain ⟨hP, hD⟩ := hJ _ hP1 hD1
    have hP := hP.sub (ws' := ((o, .inl (cL, 1, .inr (.inl (vp_updL g 0 (nI (xr + 1)).toInt64)))) :: (wM u cI cZ gS1 gK1 gI1 gO1 gF1 gE1 gQ1 yt1 yn1 yr1 ym1 yd1 yk1 yb1 yc1 ++ wT z cI cZ (pl fT ((hbL (fF (xr - 1)) (fE (xr - 1)) fT 6 (bl (xs (i + 1)) (fF (xr - 1)) (fE (xr - 1)) fT xh) (xs (i + 2)).toNatClampNeg).getD 0) (szL 6 (xs (i + 2)).toNatClampNeg) (xs (i + 2)).toNatClampNeg) (va_up fK xr (xs (i + 1)).toNatClampNeg) (va_up fA xr (xs (i + 2)).toNatClampNeg) (va_up fB xr (xs (i + 3)).toNatClampNeg) (va_up fF xr ((hbL (fF (xr - 1)) (fE (xr - 1)) fT 6 (bl (xs (i + 1)) (fF (xr - 1)) (fE (xr - 1)) fT xh) (xs (i + 2)).toNatClampNeg).getD 0)) (va_up fE xr 0) (((hbL (fF (xr - 1)) (fE (xr - 1)) fT 6 (bl (xs (i + 1)) (fF (xr - 1)) (fE (xr - 1)) fT xh) (xs (i + 2)).toNatClampNeg).getD 0) + szL 6 (xs (i + 2)).toNatClampNeg) (max xg (((hbL (fF (xr - 1)) (fE (xr - 1)) fT 6 (bl (xs (i + 1)) (fF (xr - 1)) (fE (xr - 1)) fT xh) (xs (i + 2)).toNatClampNeg).getD 0) + szL 6 (xs (i + 2)).toNatClampNeg)) (xr + 1) (xn + 1)))) [0, 8, 9, 10, 11, 12, 13, 14, 15, 1, 2, 3, 4, 5, 6, 7] rfl
    have hD := hD.sub (ws' := ((o, .inl (cL, 1, .inr (.inl (vp_updL g 0 (nI (xr + 1)).toInt64)))) :: (wM u cI cZ gS1 gK1 gI1 gO1 gF1 gE1 gQ1 yt1 yn1 yr1 ym1 yd1 yk1 yb1 yc1 ++ wT z cI cZ (pl fT ((hbL (fF (xr - 1)) (fE (xr - 1)) fT 6 (bl (xs (i + 1)) (fF (xr - 1)) (fE (xr - 1)) fT xh) (xs (i + 2)).toNatClampNeg).getD 0) (szL 6 (xs (i + 2)).toNatClampNeg) (xs (i + 2)).toNatClampNeg) (va_up fK xr (xs (i + 1)).toNatClampNeg) (va_up fA xr (xs (i + 2)).toNatClampNeg) (va_up fB xr (xs (i + 3)).toNatClampNeg) (va_up fF xr ((hbL (fF (xr - 1)) (fE (xr - 1)) fT 6 (bl (xs (i + 1)) (fF (xr - 1)) (fE (xr - 1)) fT xh) (xs (i + 2)).toNatClampNeg).getD 0)) (va_up fE xr 0) (((hbL (fF (xr - 1)) (fE (xr - 1)) fT 6 (bl (xs (i + 1)) (fF (xr - 1)) (fE (xr - 1)) fT xh) (xs (i + 2)).toNatClampNeg).getD 0) + szL 6 (xs (i + 2)).toNatClampNeg) (max xg (((hbL (fF (xr - 1)) (fE (xr - 1)) fT 6 (bl (xs (i + 1)) (fF (xr - 1)) (fE (xr - 1)) fT xh) (xs (i + 2)).toNatClampNeg).getD 0) + szL 6 (xs (i + 2)).toNatClampNeg)) (xr + 1) (xn + 1)))) [0, 8, 9, 10, 11, 12, 13, 14, 15, 1, 2, 3, 4, 5, 6, 7] (by decide) rfl
    obtain ⟨hyt, hvv, hrel⟩ := hpo.1 ((A_block hT hF (xs (i + 1)) (xs (i + 2)) (xs (i + 3))).symm.trans her)
    subst hvv
    obtain ⟨hi1, hv1⟩ := D_block hi0 hv0 (xs (i + 1)) (xs (i + 2)) (xs (i + 3)) her
    have hrel_ := rel_t (C_block hT hF (xs (i + 1)) (xs (i + 2)) (xs (i + 3)) her) hrel
    have hB := B_block hT hF (xs (i + 1)) (xs (i + 2)) (xs (i + 3)) her
    refine lv_istore (lv' := [(6, .int (nI (xr + 1))), (5, .int (nI 0)), (4, .int (nI i)), (3, .ref o), (2, .ref (u 0)), (1, .ref (z 0)), (0, .ref b)]) hx hb d_L_law_351 hl (by decide) rfl (fun ls hl => ?_)
    refine lv_aload_n hx hb d_L_law_353 rfl (lv_at hl 4 rfl) ?_
    have hPm := hP.sub (ws' := (wM u cI cZ gS1 gK1 gI1 gO1 gF1 gE1 gQ1 yt1 yn1 yr1 ym1 yd1 yk1 yb1 yc1)) [1, 2, 3, 4, 5, 6, 7, 8] rfl
    have hDm := hD.sub (ws' := (wM u cI cZ gS1 gK1 gI1 gO1 gF1 gE1 gQ1 yt1 yn1 yr1 ym1 yd1 yk1 yb1 yc1)) [1, 2, 3, 4, 5, 6, 7, 8] (by decide) rfl
    refine cl_r (v := some (.int (nI yt1))) (W.runV (b := u 0) (C := "TypeStackModel") (As := []) (rest := []) ⟨hx, hb, hml, hown, hw⟩ (c_M_thrown l D u cI cZ gS1 gK1 gI1 gO1 gF1 gE1 gQ1 yt1 yn1 yr1 ym1 yd1 yk1 yb1 yc1 H.size) (cwV 0 hw g_L_74 rfl rfl rfl ⟨rfl, by decide, by decide, by decide +kernel⟩ ⟨by decide, by decide⟩) ⟨PW.blind, va_recv (q := (RM, FM, 15)) (ci := 1) (q0 := 0) hK2 hPm rfl rfl, PW.pre hPm hK2 hDm hS hA hE⟩ rfl rfl hl.1 rfl (lv_room (Nat.le_of_ble_eq_true rfl)) d_L_law_354 ⟨by show _ ≤ 1054; omega, by show _ ≤ 9807; omega⟩) ?_
    refine lv_iload hx hb d_L_law_357 (lv_at hl 1 rfl) ?_
    have hkl : 0 < 2 ^ 31 := by decide
    refine nw_eq hx hb (tgt := 364) d_L_law_359 (by decide) (by omega) hkl (fun h => ?_) (fun h => absurd hyt h)
    refine lv_iload hx hb d_L_law_364 (lv_at hl 1 rfl) ?_
    refine nw_ifne hx hb (tgt := 381) d_L_law_366 (by decide) (by decide) (fun h => absurd h (Nat.lt_irrefl 0)) (fun h => ?_)
    refine lv_aload_n hx hb d_L_law_369 rfl (lv_at hl 3 rfl) ?_
    refine lv_iconst (v := nI 0) hx hb d_L_law_370 (by decide) ?_
    refine va_lald hx hb hK hP 0 2 rfl rfl (i := nI 0) (vp_in_nI (by decide) (by decide)) d_L_law_371 ?_
    refine lv_iload hx hb d_L_law_372 (lv_at hl 0 rfl) ?_
    refine lv_i2l (v := (nI (xr + 1)).toInt64) hx hb d_L_law_374 (by rw [hB]) ?_
    refine W.lcmp hx hb d_L_law_375 ?_
    refine nw_is (y := nI 0) (lgc _) ?_
    refine nw_ifeq hx hb (tgt := 381) d_L_law_376 (by decide) (by decide) (fun h => ?_) (fun h => absurd h (Nat.lt_irrefl 0))
    refine lv_goto hx hb d_L_law_381 (tgt := 758) (by decide) ?_
    refine W.widen (k := 16 + (j + 1)) (n := 1531 + 6 * (j + 1)) (by omega) (by omega) ?_
    exact kk _ _ _ ⟨(pl fT ((hbL (fF (xr - 1)) (fE (xr - 1)) fT 6 (bl (xs (i + 1)) (fF (xr - 1)) (fE (xr - 1)) fT xh) (xs (i + 2)).toNatClampNeg).getD 0) (szL 6 (xs (i + 2)).toNatClampNeg) (xs (i + 2)).toNatClampNeg), (va_up fK xr (xs (i + 1)).toNatClampNeg), (va_up fA xr (xs (i + 2)).toNatClampNeg), (va_up fB xr (xs (i + 3)).toNatClampNeg), (va_up fF xr ((hbL (fF (xr - 1)) (fE (xr - 1)) fT 6 (bl (xs (i + 1)) (fF (xr - 1)) (fE (xr - 1)) fT xh) (xs (i + 2)).toNatClampNeg).getD 0)), (va_up fE xr 0), (((hbL (fF (xr - 1)) (fE (xr - 1)) fT 6 (bl (xs (i + 1)) (fF (xr - 1)) (fE (xr - 1)) fT xh) (xs (i + 2)).toNatClampNeg).getD 0) + szL 6 (xs (i + 2)).toNatClampNeg), (max xg (((hbL (fF (xr - 1)) (fE (xr - 1)) fT 6 (bl (xs (i + 1)) (fF (xr - 1)) (fE (xr - 1)) fT xh) (xs (i + 2)).toNatClampNeg).getD 0) + szL 6 (xs (i + 2)).toNatClampNeg)), (xr + 1), (xn + 1), gS1, gK1, gI1, gO1, gF1, gE1, gQ1, yt1, yn1, yr1, ym1, yd1, yk1, yb1, yc1, (vp_updL g 0 (nI (xr + 1)).toInt64), hi1, hv1, hm1, hrel_, hP, hD, hS⟩ (lv_sub hl [2, 3, 4, 5, 6] rfl)
  · skip
    obtain ⟨hr1, hP1, hD1⟩ := q2 E her
    cases hr1
    rw [ht] at hP1
    obtain ⟨hP, hD⟩ := hJ _ hP1 hD1
    have hP := hP.sub (ws' := ((o, .inl (cL, 1, .inr (.inl g))) :: (wM u cI cZ gS gK gI gO gF gE gQ yt xh xr xg xn yk yb yc ++ wT z cI cZ fT fK fA fB fF fE xh xg xr xn))) [8, 0, 1, 2, 3, 4, 5, 6, 7, 9, 10, 11, 12, 13, 14, 15] rfl
    have hD := hD.sub (ws' := ((o, .inl (cL, 1, .inr (.inl g))) :: (wM u cI cZ gS gK gI gO gF gE gQ yt xh xr xg xn yk yb yc ++ wT z cI cZ fT fK fA fB fF fE xh xg xr xn))) [8, 0, 1, 2, 3, 4, 5, 6, 7, 9, 10, 11, 12, 13, 14, 15] (by decide) rfl
    refine lv_istore (lv' := [(5, .int (nI (cdl [IAE, NSE, ISE, AE] E))), (4, .int (nI i)), (3, .ref o), (2, .ref (u 0)), (1, .ref (z 0)), (0, .ref b)]) hx hb d_L_law_327 hl (by decide) rfl (fun ls hl => ?_)
    refine lv_aload_n hx hb d_L_law_329 rfl (lv_at hl 3 rfl) ?_
    refine lv_aload_n hx hb d_L_law_330 rfl (lv_at hl 5 rfl) ?_
    refine lv_iload hx hb d_L_law_331 (lv_at hl 1 rfl) ?_
    refine lv_iconst (v := nI 1) hx hb d_L_law_333 (by decide) ?_
    refine nw_add hx hb d_L_law_334 ?_
    refine nw_sld hx hb hX hbl hbA hS (k := i + 1) (by omega) (by omega) d_L_law_335 ?_
    refine lv_aload_n hx hb d_L_law_336 rfl (lv_at hl 5 rfl) ?_
    refine lv_iload hx hb d_L_law_337 (lv_at hl 1 rfl) ?_
    refine lv_iconst (v := nI 2) hx hb d_L_law_339 (by decide) ?_
    refine nw_add hx hb d_L_law_340 ?_
    refine nw_sld hx hb hX hbl hbA hS (k := i + 2) (by omega) (by omega) d_L_law_341 ?_
    refine lv_aload_n hx hb d_L_law_342 rfl (lv_at hl 5 rfl) ?_
    refine lv_iload hx hb d_L_law_343 (lv_at hl 1 rfl) ?_
    refine lv_iconst (v := nI 3) hx hb d_L_law_345 (by decide) ?_
    refine nw_add hx hb d_L_law_346 ?_
    refine nw_sld hx hb hX hbl hbA hS (k := i + 3) (by omega) (by omega) d_L_law_347 ?_
    have hPm := hP.sub (ws' := (wM u cI cZ gS gK gI gO gF gE gQ yt xh xr xg xn yk yb yc)) [1, 2, 3, 4, 5, 6, 7, 8] rfl
    have hDm := hD.sub (ws' := (wM u cI cZ gS gK gI gO gF gE gQ yt xh xr xg xn yk yb yc)) [1, 2, 3, 4, 5, 6, 7, 8] (by decide) rfl
    refine cl_j (Wc := (wM u cI cZ gS gK gI gO gF gE gQ yt xh xr xg xn yk yb yc)) (Wr := ((o, .inl (cL, 1, .inr (.inl g))) :: wT z cI cZ fT fK fA fB fF fE xh xg xr xn)) hP hD hS hA [1, 2, 3, 4, 5, 6, 7, 8] [0, 9, 10, 11, 12, 13, 14, 15] rfl rfl (by decide) (by decide) (va_runV (b := u 0) (C := "TypeStackModel") (As := [.int (xs (i + 1)), .int (xs (i + 2)), .int (xs (i + 3))]) (rest := []) ⟨hx, hb, hml, hown, hw⟩ (c_M_block l D u cI cZ gS gK gI gO gF gE gQ yt xh xr xg xn yk yb yc hm0 (xs (i + 1)) (xs (i + 2)) (xs (i + 3)) hfl hmo H.size) (cwV 3 hw g_L_91 rfl rfl rfl ⟨rfl, by decide, by decide, by decide +kernel⟩ ⟨by decide, by decide⟩) ⟨PW.blind, va_recv (q := (RM, FM, 15)) (ci := 1) (q0 := 0) hK2 hPm rfl rfl, PW.pre hPm hK2 hDm hS hA hE⟩ rfl rfl hl.1 rfl (lv_room (Nat.le_of_ble_eq_true rfl)) d_L_law_348 ⟨by show _ ≤ 1054; omega, by show _ ≤ 9807; omega⟩) (fun _ _ _ h => h.2) (fun v2 st2 t2 H locs hq ht hJ hS hvm2 => ?_)
    obtain ⟨⟨gS1, gK1, gI1, gO1, gF1, gE1, gQ1, yt1, yn1, yr1, ym1, yd1, yk1, yb1, yc1, v3, hr2, hpo, hm1, hP1, hD1⟩, -⟩ := hq
    cases hr2
    rw [ht] at hP1
    obtain ⟨hP, hD⟩ := hJ _ hP1 hD1
    have hP := hP.sub (ws' := ((o, .inl (cL, 1, .inr (.inl g))) :: (wM u cI cZ gS1 gK1 gI1 gO1 gF1 gE1 gQ1 yt1 yn1 yr1 ym1 yd1 yk1 yb1 yc1 ++ wT z cI cZ fT fK fA fB fF fE xh xg xr xn))) [0, 8, 9, 10, 11, 12, 13, 14, 15, 1, 2, 3, 4, 5, 6, 7] rfl
    have hD := hD.sub (ws' := ((o, .inl (cL, 1, .inr (.inl g))) :: (wM u cI cZ gS1 gK1 gI1 gO1 gF1 gE1 gQ1 yt1 yn1 yr1 ym1 yd1 yk1 yb1 yc1 ++ wT z cI cZ fT fK fA fB fF fE xh xg xr xn))) [0, 8, 9, 10, 11, 12, 13, 14, 15, 1, 2, 3, 4, 5, 6, 7] (by decide) rfl
    obtain ⟨hyt, hvv, hrel⟩ := hpo.2 E ((A_block hT hF (xs (i + 1)) (xs (i + 2)) (xs (i + 3))).symm.trans her)
    subst hvv
    have hrel_ := rel_t ⟨rfl, rfl, rfl, rfl, hT, hF⟩ hrel
    refine lv_istore (lv' := [(6, .int (nI 0)), (5, .int (nI (cdl [IAE, NSE, ISE, AE] E))), (4, .int (nI i)), (3, .ref o), (2, .ref (u 0)), (1, .ref (z 0)), (0, .ref b)]) hx hb d_L_law_351 hl (by decide) rfl (fun ls hl => ?_)
    refine lv_aload_n hx hb d_L_law_353 rfl (lv_at hl 4 rfl) ?_
    have hPm := hP.sub (ws' := (wM u cI cZ gS1 gK1 gI1 gO1 gF1 gE1 gQ1 yt1 yn1 yr1 ym1 yd1 yk1 yb1 yc1)) [1, 2, 3, 4, 5, 6, 7, 8] rfl
    have hDm := hD.sub (ws' := (wM u cI cZ gS1 gK1 gI1 gO1 gF1 gE1 gQ1 yt1 yn1 yr1 ym1 yd1 yk1 yb1 yc1)) [1, 2, 3, 4, 5, 6, 7, 8] (by decide) rfl
    refine cl_r (v := some (.int (nI yt1))) (W.runV (b := u 0) (C := "TypeStackModel") (As := []) (rest := []) ⟨hx, hb, hml, hown, hw⟩ (c_M_thrown l D u cI cZ gS1 gK1 gI1 gO1 gF1 gE1 gQ1 yt1 yn1 yr1 ym1 yd1 yk1 yb1 yc1 H.size) (cwV 0 hw g_L_74 rfl rfl rfl ⟨rfl, by decide, by decide, by decide +kernel⟩ ⟨by decide, by decide⟩) ⟨PW.blind, va_recv (q := (RM, FM, 15)) (ci := 1) (q0 := 0) hK2 hPm rfl rfl, PW.pre hPm hK2 hDm hS hA hE⟩ rfl rfl hl.1 rfl (lv_room (Nat.le_of_ble_eq_true rfl)) d_L_law_354 ⟨by show _ ≤ 1054; omega, by show _ ≤ 9807; omega⟩) ?_
    refine lv_iload hx hb d_L_law_357 (lv_at hl 1 rfl) ?_
    have hkl : cdl [IAE, NSE, ISE, AE] E < 2 ^ 31 := Nat.lt_of_le_of_lt (cdl_in _ _) (by decide)
    refine nw_eq hx hb (tgt := 364) d_L_law_359 (by decide) (by omega) hkl (fun h => ?_) (fun h => absurd hyt h)
    refine lv_iload hx hb d_L_law_364 (lv_at hl 1 rfl) ?_
    refine nw_ifne hx hb (tgt := 381) d_L_law_366 (by decide) hkl (fun h => ?_) (fun h => absurd h (Nat.ne_of_gt (cdl_pos _ _ _)))
    refine lv_goto hx hb d_L_law_381 (tgt := 758) (by decide) ?_
    refine W.widen (k := 16 + (j + 1)) (n := 1531 + 6 * (j + 1)) (by omega) (by omega) ?_
    exact kk _ _ _ ⟨fT, fK, fA, fB, fF, fE, xh, xg, xr, xn, gS1, gK1, gI1, gO1, gF1, gE1, gQ1, yt1, yn1, yr1, ym1, yd1, yk1, yb1, yc1, g, hi0, hv0, hm1, hrel_, hP, hD, hS⟩ (lv_sub hl [2, 3, 4, 5, 6] rfl)

set_option maxHeartbeats 1000000 in
set_option maxRecDepth 100000 in
theorem law_otherwise (K : LC l p s m meth c b L xs D cI cZ cL) (hi4 : i + 4 ≤ L) (hL : L ≤ 2048) (hj : j < 512) (hw0 : LW D z u o cI cZ cL s H locs) (hl : lv_has ls 7 [(4, .int (nI i)), (3, .ref o), (2, .ref (u 0)), (1, .ref (z 0)), (0, .ref b)])
    (kk : ∀ (H : Heap) (locs : List Loc) (ls : Array Slot), LW D z u o cI cZ cL s H locs → lv_has ls 7 [(4, .int (nI i)), (3, .ref o), (2, .ref (u 0)), (1, .ref (z 0)), (0, .ref b)] → W p l e room_1 s m #[Value.ref b] below meth c H locs (16 + (j + 1)) (1531 + 6 * (j + 1)) Q (F0 m 758 ls [])) : W p l e room_1 s m #[Value.ref b] below meth c H locs (16 + j) (1531 + 6 * j) Q (F0 m 384 ls []) := by
  obtain ⟨hl0, hx, hb, hml, hown, hw, hX, hbl, hE, hN, hK⟩ := K
  obtain ⟨fT, fK, fA, fB, fF, fE, xh, xg, xr, xn, gS, gK, gI, gO, gF, gE, gQ, yt, yn, yr, ym, yd, yk, yb, yc, g, hi0, hv0, hm0, hrel0, hP, hD, hS⟩ := hw0
  obtain ⟨rfl, rfl, rfl, rfl, hT, hF⟩ := hrel0
  have hA : ∀ q : Nat, s.heap.size ≤ q → (fun q => s.heap.size ≤ q) q := fun q h => h
  have hbA : ¬ (fun q => s.heap.size ≤ q) b := Nat.not_le.mpr hbl
  have hfl : 1 ≤ xr → gF (xr - 1) ≤ xh := fun h => by rw [← (hF (xr - 1) (by omega)).2.2.2.1]; exact hv0.2.1 h
  have hmo : xh ≤ xg := hv0.2.2.2
  have hro : ∀ j, j < xr → gF j + szL 6 (gI j) ≤ 300 := fun j h => by rw [← (hF j h).2.2.2.1, ← (hF j h).2.1]; exact hv0.2.2.1 j h
  have hK2 := hK.sub (tys' := [(cI, .int), (cZ, .boolean)]) [0, 1] rfl
  refine lv_aload_n hx hb d_L_law_384 rfl (lv_at hl 3 rfl) ?_
  have hPc := hP.sub (ws' := (wT z cI cZ fT fK fA fB fF fE xh xg xr xn)) [9, 10, 11, 12, 13, 14, 15] rfl
  have hDc := hD.sub (ws' := (wT z cI cZ fT fK fA fB fF fE xh xg xr xn)) [9, 10, 11, 12, 13, 14, 15] (by decide) rfl
  refine cl_j (Wc := (wT z cI cZ fT fK fA fB fF fE xh xg xr xn)) (Wr := ((o, .inl (cL, 1, .inr (.inl g))) :: wM u cI cZ gS gK gI gO gF gE gQ yt xh xr xg xn yk yb yc)) hP hD hS hA [9, 10, 11, 12, 13, 14, 15] [0, 1, 2, 3, 4, 5, 6, 7, 8] rfl rfl (by decide) (by decide) (vx_runSW (As := [.ref (z 0)]) (rest := []) ⟨hx, hb, hml, hown, hw⟩ (c_L_otherwise l hl0 D z cI cZ fT fK fA fB fF fE xh xg xr xn hi0 hv0.2.2.1 cL H.size) (vx_cwSW 1 hw g_L_92 rfl rfl rfl ⟨by decide, by decide, by decide +kernel⟩ ⟨by decide, by decide⟩) ⟨PL.blind, PL.pre hPc hK hDc hS hA hE hN⟩ rfl rfl hl.1 rfl (lv_room (Nat.le_of_ble_eq_true rfl)) d_L_law_385 ⟨by show _ ≤ 1054; omega, by show _ ≤ 9807; omega⟩) (fun _ _ _ h => h.2) (fun v1 st1 t1 H locs hq ht hJ hS hvm => ?_)
  obtain ⟨⟨q1, q2⟩, -⟩ := hq
  rcases opt_cs (orE (nf xr) (orE (ifE (fK (xr - 1))) (jw (fF (xr - 1)) (hbL (fF (xr - 1)) (fE (xr - 1)) fT 6 xh (fB (xr - 1)))))) with her | ⟨E, her⟩
  · skip
    obtain ⟨hr1, hP1, hD1⟩ := q1 her
    cases hr1
    rw [ht] at hP1
    obtain ⟨hP, hD⟩ := hJ _ hP1 hD1
    have hP := hP.sub (ws' := ((o, .inl (cL, 1, .inr (.inl g))) :: (wM u cI cZ gS gK gI gO gF gE gQ yt xh xr xg xn yk yb yc ++ wT z cI cZ (pl fT (fF (xr - 1)) (szL 6 (fA (xr - 1))) (fA (xr - 1))) (va_up fK (xr - 1) 3) fA fB fF (va_up fE (xr - 1) 0) ((fF (xr - 1)) + szL 6 (fA (xr - 1))) (max xg ((fF (xr - 1)) + szL 6 (fA (xr - 1)))) xr (xn + 1)))) [0, 1, 2, 3, 4, 5, 6, 7, 8, 9, 10, 11, 12, 13, 14, 15] rfl
    have hD := hD.sub (ws' := ((o, .inl (cL, 1, .inr (.inl g))) :: (wM u cI cZ gS gK gI gO gF gE gQ yt xh xr xg xn yk yb yc ++ wT z cI cZ (pl fT (fF (xr - 1)) (szL 6 (fA (xr - 1))) (fA (xr - 1))) (va_up fK (xr - 1) 3) fA fB fF (va_up fE (xr - 1) 0) ((fF (xr - 1)) + szL 6 (fA (xr - 1))) (max xg ((fF (xr - 1)) + szL 6 (fA (xr - 1)))) xr (xn + 1)))) [0, 1, 2, 3, 4, 5, 6, 7, 8, 9, 10, 11, 12, 13, 14, 15] (by decide) rfl
    refine lv_istore (lv' := [(5, .int (nI 0)), (4, .int (nI i)), (3, .ref o), (2, .ref (u 0)), (1, .ref (z 0)), (0, .ref b)]) hx hb d_L_law_388 hl (by decide) rfl (fun ls hl => ?_)
    refine lv_aload_n hx hb d_L_law_390 rfl (lv_at hl 3 rfl) ?_
    have hPm := hP.sub (ws' := (wM u cI cZ gS gK gI gO gF gE gQ yt xh xr xg xn yk yb yc)) [1, 2, 3, 4, 5, 6, 7, 8] rfl
    have hDm := hD.sub (ws' := (wM u cI cZ gS gK gI gO gF gE gQ yt xh xr xg xn yk yb yc)) [1, 2, 3, 4, 5, 6, 7, 8] (by decide) rfl
    refine cl_j (Wc := (wM u cI cZ gS gK gI gO gF gE gQ yt xh xr xg xn yk yb yc)) (Wr := ((o, .inl (cL, 1, .inr (.inl g))) :: wT z cI cZ (pl fT (fF (xr - 1)) (szL 6 (fA (xr - 1))) (fA (xr - 1))) (va_up fK (xr - 1) 3) fA fB fF (va_up fE (xr - 1) 0) ((fF (xr - 1)) + szL 6 (fA (xr - 1))) (max xg ((fF (xr - 1)) + szL 6 (fA (xr - 1)))) xr (xn + 1))) hP hD hS hA [1, 2, 3, 4, 5, 6, 7, 8] [0, 9, 10, 11, 12, 13, 14, 15] rfl rfl (by decide) (by decide) (va_runV (b := u 0) (C := "TypeStackModel") (As := []) (rest := []) ⟨hx, hb, hml, hown, hw⟩ (c_M_otherwise l D u cI cZ gS gK gI gO gF gE gQ yt xh xr xg xn yk yb yc hm0 hfl hmo hro H.size) (cwV 0 hw g_L_95 rfl rfl rfl ⟨rfl, by decide, by decide, by decide +kernel⟩ ⟨by decide, by decide⟩) ⟨PW.blind, va_recv (q := (RM, FM, 15)) (ci := 1) (q0 := 0) hK2 hPm rfl rfl, PW.pre hPm hK2 hDm hS hA hE⟩ rfl rfl hl.1 rfl (lv_room (Nat.le_of_ble_eq_true rfl)) d_L_law_391 ⟨by show _ ≤ 1054; omega, by show _ ≤ 9807; omega⟩) (fun _ _ _ h => h.2) (fun v2 st2 t2 H locs hq ht hJ hS hvm2 => ?_)
    obtain ⟨⟨gS1, gK1, gI1, gO1, gF1, gE1, gQ1, yt1, yn1, yr1, ym1, yd1, yk1, yb1, yc1, v3, hr2, hpo, hm1, hP1, hD1⟩, -⟩ := hq
    cases hr2
    rw [ht] at hP1
    obtain ⟨hP, hD⟩ := hJ _ hP1 hD1
    have hP := hP.sub (ws' := ((o, .inl (cL, 1, .inr (.inl g))) :: (wM u cI cZ gS1 gK1 gI1 gO1 gF1 gE1 gQ1 yt1 yn1 yr1 ym1 yd1 yk1 yb1 yc1 ++ wT z cI cZ (pl fT (fF (xr - 1)) (szL 6 (fA (xr - 1))) (fA (xr - 1))) (va_up fK (xr - 1) 3) fA fB fF (va_up fE (xr - 1) 0) ((fF (xr - 1)) + szL 6 (fA (xr - 1))) (max xg ((fF (xr - 1)) + szL 6 (fA (xr - 1)))) xr (xn + 1)))) [0, 8, 9, 10, 11, 12, 13, 14, 15, 1, 2, 3, 4, 5, 6, 7] rfl
    have hD := hD.sub (ws' := ((o, .inl (cL, 1, .inr (.inl g))) :: (wM u cI cZ gS1 gK1 gI1 gO1 gF1 gE1 gQ1 yt1 yn1 yr1 ym1 yd1 yk1 yb1 yc1 ++ wT z cI cZ (pl fT (fF (xr - 1)) (szL 6 (fA (xr - 1))) (fA (xr - 1))) (va_up fK (xr - 1) 3) fA fB fF (va_up fE (xr - 1) 0) ((fF (xr - 1)) + szL 6 (fA (xr - 1))) (max xg ((fF (xr - 1)) + szL 6 (fA (xr - 1)))) xr (xn + 1)))) [0, 8, 9, 10, 11, 12, 13, 14, 15, 1, 2, 3, 4, 5, 6, 7] (by decide) rfl
    obtain ⟨hyt, hvv, hrel⟩ := hpo.1 ((A_otherwise hT hF).symm.trans her)
    subst hvv
    obtain ⟨hi1, hv1⟩ := D_otherwise hi0 hv0 her
    have hrel_ := rel_t (C_otherwise hT hF hv0.2.1 her) hrel
    refine lv_aload_n hx hb d_L_law_394 rfl (lv_at hl 3 rfl) ?_
    have hPm := hP.sub (ws' := (wM u cI cZ gS1 gK1 gI1 gO1 gF1 gE1 gQ1 yt1 yn1 yr1 ym1 yd1 yk1 yb1 yc1)) [1, 2, 3, 4, 5, 6, 7, 8] rfl
    have hDm := hD.sub (ws' := (wM u cI cZ gS1 gK1 gI1 gO1 gF1 gE1 gQ1 yt1 yn1 yr1 ym1 yd1 yk1 yb1 yc1)) [1, 2, 3, 4, 5, 6, 7, 8] (by decide) rfl
    refine cl_r (v := some (.int (nI yt1))) (W.runV (b := u 0) (C := "TypeStackModel") (As := []) (rest := []) ⟨hx, hb, hml, hown, hw⟩ (c_M_thrown l D u cI cZ gS1 gK1 gI1 gO1 gF1 gE1 gQ1 yt1 yn1 yr1 ym1 yd1 yk1 yb1 yc1 H.size) (cwV 0 hw g_L_74 rfl rfl rfl ⟨rfl, by decide, by decide, by decide +kernel⟩ ⟨by decide, by decide⟩) ⟨PW.blind, va_recv (q := (RM, FM, 15)) (ci := 1) (q0 := 0) hK2 hPm rfl rfl, PW.pre hPm hK2 hDm hS hA hE⟩ rfl rfl hl.1 rfl (lv_room (Nat.le_of_ble_eq_true rfl)) d_L_law_395 ⟨by show _ ≤ 1054; omega, by show _ ≤ 9807; omega⟩) ?_
    refine lv_iload hx hb d_L_law_398 (lv_at hl 0 rfl) ?_
    have hkl : 0 < 2 ^ 31 := by decide
    refine nw_eq hx hb (tgt := 405) d_L_law_400 (by decide) (by omega) hkl (fun h => ?_) (fun h => absurd hyt h)
    refine lv_goto hx hb d_L_law_405 (tgt := 758) (by decide) ?_
    refine W.widen (k := 16 + (j + 1)) (n := 1531 + 6 * (j + 1)) (by omega) (by omega) ?_
    exact kk _ _ _ ⟨(pl fT (fF (xr - 1)) (szL 6 (fA (xr - 1))) (fA (xr - 1))), (va_up fK (xr - 1) 3), fA, fB, fF, (va_up fE (xr - 1) 0), ((fF (xr - 1)) + szL 6 (fA (xr - 1))), (max xg ((fF (xr - 1)) + szL 6 (fA (xr - 1)))), xr, (xn + 1), gS1, gK1, gI1, gO1, gF1, gE1, gQ1, yt1, yn1, yr1, ym1, yd1, yk1, yb1, yc1, g, hi1, hv1, hm1, hrel_, hP, hD, hS⟩ (lv_sub hl [1, 2, 3, 4, 5] rfl)
  · skip
    obtain ⟨hr1, hP1, hD1⟩ := q2 E her
    cases hr1
    rw [ht] at hP1
    obtain ⟨hP, hD⟩ := hJ _ hP1 hD1
    have hP := hP.sub (ws' := ((o, .inl (cL, 1, .inr (.inl g))) :: (wM u cI cZ gS gK gI gO gF gE gQ yt xh xr xg xn yk yb yc ++ wT z cI cZ fT fK fA fB fF fE xh xg xr xn))) [0, 1, 2, 3, 4, 5, 6, 7, 8, 9, 10, 11, 12, 13, 14, 15] rfl
    have hD := hD.sub (ws' := ((o, .inl (cL, 1, .inr (.inl g))) :: (wM u cI cZ gS gK gI gO gF gE gQ yt xh xr xg xn yk yb yc ++ wT z cI cZ fT fK fA fB fF fE xh xg xr xn))) [0, 1, 2, 3, 4, 5, 6, 7, 8, 9, 10, 11, 12, 13, 14, 15] (by decide) rfl
    refine lv_istore (lv' := [(5, .int (nI (cdl [NSE, UOE, ISE] E))), (4, .int (nI i)), (3, .ref o), (2, .ref (u 0)), (1, .ref (z 0)), (0, .ref b)]) hx hb d_L_law_388 hl (by decide) rfl (fun ls hl => ?_)
    refine lv_aload_n hx hb d_L_law_390 rfl (lv_at hl 3 rfl) ?_
    have hPm := hP.sub (ws' := (wM u cI cZ gS gK gI gO gF gE gQ yt xh xr xg xn yk yb yc)) [1, 2, 3, 4, 5, 6, 7, 8] rfl
    have hDm := hD.sub (ws' := (wM u cI cZ gS gK gI gO gF gE gQ yt xh xr xg xn yk yb yc)) [1, 2, 3, 4, 5, 6, 7, 8] (by decide) rfl
    refine cl_j (Wc := (wM u cI cZ gS gK gI gO gF gE gQ yt xh xr xg xn yk yb yc)) (Wr := ((o, .inl (cL, 1, .inr (.inl g))) :: wT z cI cZ fT fK fA fB fF fE xh xg xr xn)) hP hD hS hA [1, 2, 3, 4, 5, 6, 7, 8] [0, 9, 10, 11, 12, 13, 14, 15] rfl rfl (by decide) (by decide) (va_runV (b := u 0) (C := "TypeStackModel") (As := []) (rest := []) ⟨hx, hb, hml, hown, hw⟩ (c_M_otherwise l D u cI cZ gS gK gI gO gF gE gQ yt xh xr xg xn yk yb yc hm0 hfl hmo hro H.size) (cwV 0 hw g_L_95 rfl rfl rfl ⟨rfl, by decide, by decide, by decide +kernel⟩ ⟨by decide, by decide⟩) ⟨PW.blind, va_recv (q := (RM, FM, 15)) (ci := 1) (q0 := 0) hK2 hPm rfl rfl, PW.pre hPm hK2 hDm hS hA hE⟩ rfl rfl hl.1 rfl (lv_room (Nat.le_of_ble_eq_true rfl)) d_L_law_391 ⟨by show _ ≤ 1054; omega, by show _ ≤ 9807; omega⟩) (fun _ _ _ h => h.2) (fun v2 st2 t2 H locs hq ht hJ hS hvm2 => ?_)
    obtain ⟨⟨gS1, gK1, gI1, gO1, gF1, gE1, gQ1, yt1, yn1, yr1, ym1, yd1, yk1, yb1, yc1, v3, hr2, hpo, hm1, hP1, hD1⟩, -⟩ := hq
    cases hr2
    rw [ht] at hP1
    obtain ⟨hP, hD⟩ := hJ _ hP1 hD1
    have hP := hP.sub (ws' := ((o, .inl (cL, 1, .inr (.inl g))) :: (wM u cI cZ gS1 gK1 gI1 gO1 gF1 gE1 gQ1 yt1 yn1 yr1 ym1 yd1 yk1 yb1 yc1 ++ wT z cI cZ fT fK fA fB fF fE xh xg xr xn))) [0, 8, 9, 10, 11, 12, 13, 14, 15, 1, 2, 3, 4, 5, 6, 7] rfl
    have hD := hD.sub (ws' := ((o, .inl (cL, 1, .inr (.inl g))) :: (wM u cI cZ gS1 gK1 gI1 gO1 gF1 gE1 gQ1 yt1 yn1 yr1 ym1 yd1 yk1 yb1 yc1 ++ wT z cI cZ fT fK fA fB fF fE xh xg xr xn))) [0, 8, 9, 10, 11, 12, 13, 14, 15, 1, 2, 3, 4, 5, 6, 7] (by decide) rfl
    obtain ⟨hyt, hvv, hrel⟩ := hpo.2 E ((A_otherwise hT hF).symm.trans her)
    subst hvv
    have hrel_ := rel_t ⟨rfl, rfl, rfl, rfl, hT, hF⟩ hrel
    refine lv_aload_n hx hb d_L_law_394 rfl (lv_at hl 3 rfl) ?_
    have hPm := hP.sub (ws' := (wM u cI cZ gS1 gK1 gI1 gO1 gF1 gE1 gQ1 yt1 yn1 yr1 ym1 yd1 yk1 yb1 yc1)) [1, 2, 3, 4, 5, 6, 7, 8] rfl
    have hDm := hD.sub (ws' := (wM u cI cZ gS1 gK1 gI1 gO1 gF1 gE1 gQ1 yt1 yn1 yr1 ym1 yd1 yk1 yb1 yc1)) [1, 2, 3, 4, 5, 6, 7, 8] (by decide) rfl
    refine cl_r (v := some (.int (nI yt1))) (W.runV (b := u 0) (C := "TypeStackModel") (As := []) (rest := []) ⟨hx, hb, hml, hown, hw⟩ (c_M_thrown l D u cI cZ gS1 gK1 gI1 gO1 gF1 gE1 gQ1 yt1 yn1 yr1 ym1 yd1 yk1 yb1 yc1 H.size) (cwV 0 hw g_L_74 rfl rfl rfl ⟨rfl, by decide, by decide, by decide +kernel⟩ ⟨by decide, by decide⟩) ⟨PW.blind, va_recv (q := (RM, FM, 15)) (ci := 1) (q0 := 0) hK2 hPm rfl rfl, PW.pre hPm hK2 hDm hS hA hE⟩ rfl rfl hl.1 rfl (lv_room (Nat.le_of_ble_eq_true rfl)) d_L_law_395 ⟨by show _ ≤ 1054; omega, by show _ ≤ 9807; omega⟩) ?_
    refine lv_iload hx hb d_L_law_398 (lv_at hl 0 rfl) ?_
    have hkl : cdl [NSE, UOE, ISE] E < 2 ^ 31 := Nat.lt_of_le_of_lt (cdl_in _ _) (by decide)
    refine nw_eq hx hb (tgt := 405) d_L_law_400 (by decide) (by omega) hkl (fun h => ?_) (fun h => absurd hyt h)
    refine lv_goto hx hb d_L_law_405 (tgt := 758) (by decide) ?_
    refine W.widen (k := 16 + (j + 1)) (n := 1531 + 6 * (j + 1)) (by omega) (by omega) ?_
    exact kk _ _ _ ⟨fT, fK, fA, fB, fF, fE, xh, xg, xr, xn, gS1, gK1, gI1, gO1, gF1, gE1, gQ1, yt1, yn1, yr1, ym1, yd1, yk1, yb1, yc1, g, hi0, hv0, hm1, hrel_, hP, hD, hS⟩ (lv_sub hl [1, 2, 3, 4, 5] rfl)

set_option maxHeartbeats 1000000 in
set_option maxRecDepth 100000 in
theorem law_end (K : LC l p s m meth c b L xs D cI cZ cL) (hi4 : i + 4 ≤ L) (hL : L ≤ 2048) (hj : j < 512) (hw0 : LW D z u o cI cZ cL s H locs) (hl : lv_has ls 7 [(4, .int (nI i)), (3, .ref o), (2, .ref (u 0)), (1, .ref (z 0)), (0, .ref b)])
    (kk : ∀ (H : Heap) (locs : List Loc) (ls : Array Slot), LW D z u o cI cZ cL s H locs → lv_has ls 7 [(4, .int (nI i)), (3, .ref o), (2, .ref (u 0)), (1, .ref (z 0)), (0, .ref b)] → W p l e room_1 s m #[Value.ref b] below meth c H locs (16 + (j + 1)) (1531 + 6 * (j + 1)) Q (F0 m 758 ls [])) : W p l e room_1 s m #[Value.ref b] below meth c H locs (16 + j) (1531 + 6 * j) Q (F0 m 408 ls []) := by
  obtain ⟨hl0, hx, hb, hml, hown, hw, hX, hbl, hE, hN, hK⟩ := K
  obtain ⟨fT, fK, fA, fB, fF, fE, xh, xg, xr, xn, gS, gK, gI, gO, gF, gE, gQ, yt, yn, yr, ym, yd, yk, yb, yc, g, hi0, hv0, hm0, hrel0, hP, hD, hS⟩ := hw0
  obtain ⟨rfl, rfl, rfl, rfl, hT, hF⟩ := hrel0
  have hA : ∀ q : Nat, s.heap.size ≤ q → (fun q => s.heap.size ≤ q) q := fun q h => h
  have hbA : ¬ (fun q => s.heap.size ≤ q) b := Nat.not_le.mpr hbl
  have hfl : 1 ≤ xr → gF (xr - 1) ≤ xh := fun h => by rw [← (hF (xr - 1) (by omega)).2.2.2.1]; exact hv0.2.1 h
  have hmo : xh ≤ xg := hv0.2.2.2
  have hro : ∀ j, j < xr → gF j + szL 6 (gI j) ≤ 300 := fun j h => by rw [← (hF j h).2.2.2.1, ← (hF j h).2.1]; exact hv0.2.2.1 j h
  have hK2 := hK.sub (tys' := [(cI, .int), (cZ, .boolean)]) [0, 1] rfl
  refine lv_aload_n hx hb d_L_law_408 rfl (lv_at hl 3 rfl) ?_
  refine lv_aload_n hx hb d_L_law_409 rfl (lv_at hl 1 rfl) ?_
  have hPc := hP.sub (ws' := ((o, .inl (cL, 1, .inr (.inl g))) :: wT z cI cZ fT fK fA fB fF fE xh xg xr xn)) [0, 9, 10, 11, 12, 13, 14, 15] rfl
  have hDc := hD.sub (ws' := ((o, .inl (cL, 1, .inr (.inl g))) :: wT z cI cZ fT fK fA fB fF fE xh xg xr xn)) [0, 9, 10, 11, 12, 13, 14, 15] (by decide) rfl
  refine cl_j (Wc := ((o, .inl (cL, 1, .inr (.inl g))) :: wT z cI cZ fT fK fA fB fF fE xh xg xr xn)) (Wr := (wM u cI cZ gS gK gI gO gF gE gQ yt xh xr xg xn yk yb yc)) hP hD hS hA [0, 9, 10, 11, 12, 13, 14, 15] [1, 2, 3, 4, 5, 6, 7, 8] rfl rfl (by decide) (by decide) (vx_runSW (As := [.ref (z 0), .ref o]) (rest := []) ⟨hx, hb, hml, hown, hw⟩ (c_L_end l hl0 D z cI cZ fT fK fA fB fF fE xh xg xr xn hi0 cL o g H.size) (vx_cwSW 2 hw g_L_96 rfl rfl rfl ⟨by decide, by decide, by decide +kernel⟩ ⟨by decide, by decide⟩) ⟨PL.blind, PL.pre hPc hK hDc hS hA hE hN⟩ rfl rfl hl.1 rfl (lv_room (Nat.le_of_ble_eq_true rfl)) d_L_law_410 ⟨by show _ ≤ 1054; omega, by show _ ≤ 9807; omega⟩) (fun _ _ _ h => h.2) (fun v1 st1 t1 H locs hq ht hJ hS hvm => ?_)
  obtain ⟨⟨q1, q2⟩, -⟩ := hq
  rcases opt_cs (orE (nf xr) (orE (ifL (fK (xr - 1)) (fA (xr - 1)) (fB (xr - 1))) (orE (jw (fF (xr - 1)) (hbL (fF (xr - 1)) (fE (xr - 1)) fT 6 xh (fB (xr - 1)))) (rmE (fF (xr - 1) + szL 6 (fB (xr - 1))))))) with her | ⟨E, her⟩
  · skip
    obtain ⟨hr1, hP1, hD1⟩ := q1 her
    cases hr1
    rw [ht] at hP1
    obtain ⟨hP, hD⟩ := hJ _ hP1 hD1
    have hP := hP.sub (ws' := ((o, .inl (cL, 1, .inr (.inl (vp_updL g 0 (nI (xr - 1)).toInt64)))) :: (wM u cI cZ gS gK gI gO gF gE gQ yt xh xr xg xn yk yb yc ++ wT z cI cZ (pl fT (fF (xr - 1)) (szL 6 (fB (xr - 1))) (fB (xr - 1))) fK fA fB fF fE ((fF (xr - 1)) + szL 6 (fB (xr - 1))) (max xg ((fF (xr - 1)) + szL 6 (fB (xr - 1)))) (xr - 1) (xn + 1)))) [8, 0, 1, 2, 3, 4, 5, 6, 7, 9, 10, 11, 12, 13, 14, 15] rfl
    have hD := hD.sub (ws' := ((o, .inl (cL, 1, .inr (.inl (vp_updL g 0 (nI (xr - 1)).toInt64)))) :: (wM u cI cZ gS gK gI gO gF gE gQ yt xh xr xg xn yk yb yc ++ wT z cI cZ (pl fT (fF (xr - 1)) (szL 6 (fB (xr - 1))) (fB (xr - 1))) fK fA fB fF fE ((fF (xr - 1)) + szL 6 (fB (xr - 1))) (max xg ((fF (xr - 1)) + szL 6 (fB (xr - 1)))) (xr - 1) (xn + 1)))) [8, 0, 1, 2, 3, 4, 5, 6, 7, 9, 10, 11, 12, 13, 14, 15] (by decide) rfl
    refine lv_istore (lv' := [(5, .int (nI 0)), (4, .int (nI i)), (3, .ref o), (2, .ref (u 0)), (1, .ref (z 0)), (0, .ref b)]) hx hb d_L_law_413 hl (by decide) rfl (fun ls hl => ?_)
    refine lv_aload_n hx hb d_L_law_415 rfl (lv_at hl 3 rfl) ?_
    have hPm := hP.sub (ws' := (wM u cI cZ gS gK gI gO gF gE gQ yt xh xr xg xn yk yb yc)) [1, 2, 3, 4, 5, 6, 7, 8] rfl
    have hDm := hD.sub (ws' := (wM u cI cZ gS gK gI gO gF gE gQ yt xh xr xg xn yk yb yc)) [1, 2, 3, 4, 5, 6, 7, 8] (by decide) rfl
    refine cl_j (Wc := (wM u cI cZ gS gK gI gO gF gE gQ yt xh xr xg xn yk yb yc)) (Wr := ((o, .inl (cL, 1, .inr (.inl (vp_updL g 0 (nI (xr - 1)).toInt64)))) :: wT z cI cZ (pl fT (fF (xr - 1)) (szL 6 (fB (xr - 1))) (fB (xr - 1))) fK fA fB fF fE ((fF (xr - 1)) + szL 6 (fB (xr - 1))) (max xg ((fF (xr - 1)) + szL 6 (fB (xr - 1)))) (xr - 1) (xn + 1))) hP hD hS hA [1, 2, 3, 4, 5, 6, 7, 8] [0, 9, 10, 11, 12, 13, 14, 15] rfl rfl (by decide) (by decide) (va_runV (b := u 0) (C := "TypeStackModel") (As := []) (rest := []) ⟨hx, hb, hml, hown, hw⟩ (c_M_end l D u cI cZ gS gK gI gO gF gE gQ yt xh xr xg xn yk yb yc hm0 hfl hmo H.size) (cwV 0 hw g_L_98 rfl rfl rfl ⟨rfl, by decide, by decide, by decide +kernel⟩ ⟨by decide, by decide⟩) ⟨PW.blind, va_recv (q := (RM, FM, 15)) (ci := 1) (q0 := 0) hK2 hPm rfl rfl, PW.pre hPm hK2 hDm hS hA hE⟩ rfl rfl hl.1 rfl (lv_room (Nat.le_of_ble_eq_true rfl)) d_L_law_416 ⟨by show _ ≤ 1054; omega, by show _ ≤ 9807; omega⟩) (fun _ _ _ h => h.2) (fun v2 st2 t2 H locs hq ht hJ hS hvm2 => ?_)
    obtain ⟨⟨gS1, gK1, gI1, gO1, gF1, gE1, gQ1, yt1, yn1, yr1, ym1, yd1, yk1, yb1, yc1, v3, hr2, hpo, hm1, hP1, hD1⟩, -⟩ := hq
    cases hr2
    rw [ht] at hP1
    obtain ⟨hP, hD⟩ := hJ _ hP1 hD1
    have hP := hP.sub (ws' := ((o, .inl (cL, 1, .inr (.inl (vp_updL g 0 (nI (xr - 1)).toInt64)))) :: (wM u cI cZ gS1 gK1 gI1 gO1 gF1 gE1 gQ1 yt1 yn1 yr1 ym1 yd1 yk1 yb1 yc1 ++ wT z cI cZ (pl fT (fF (xr - 1)) (szL 6 (fB (xr - 1))) (fB (xr - 1))) fK fA fB fF fE ((fF (xr - 1)) + szL 6 (fB (xr - 1))) (max xg ((fF (xr - 1)) + szL 6 (fB (xr - 1)))) (xr - 1) (xn + 1)))) [0, 8, 9, 10, 11, 12, 13, 14, 15, 1, 2, 3, 4, 5, 6, 7] rfl
    have hD := hD.sub (ws' := ((o, .inl (cL, 1, .inr (.inl (vp_updL g 0 (nI (xr - 1)).toInt64)))) :: (wM u cI cZ gS1 gK1 gI1 gO1 gF1 gE1 gQ1 yt1 yn1 yr1 ym1 yd1 yk1 yb1 yc1 ++ wT z cI cZ (pl fT (fF (xr - 1)) (szL 6 (fB (xr - 1))) (fB (xr - 1))) fK fA fB fF fE ((fF (xr - 1)) + szL 6 (fB (xr - 1))) (max xg ((fF (xr - 1)) + szL 6 (fB (xr - 1)))) (xr - 1) (xn + 1)))) [0, 8, 9, 10, 11, 12, 13, 14, 15, 1, 2, 3, 4, 5, 6, 7] (by decide) rfl
    obtain ⟨hyt, hvv, hrel⟩ := hpo.1 ((A_end hT hF).symm.trans her)
    subst hvv
    obtain ⟨hi1, hv1⟩ := D_end hi0 hv0 her
    have hrel_ := rel_t (C_end hT hF hv0.2.1 her) hrel
    have hB := B_end hT hF her
    refine lv_istore (lv' := [(6, .int (nI (xr - 1))), (5, .int (nI 0)), (4, .int (nI i)), (3, .ref o), (2, .ref (u 0)), (1, .ref (z 0)), (0, .ref b)]) hx hb d_L_law_419 hl (by decide) rfl (fun ls hl => ?_)
    refine lv_aload_n hx hb d_L_law_421 rfl (lv_at hl 4 rfl) ?_
    have hPm := hP.sub (ws' := (wM u cI cZ gS1 gK1 gI1 gO1 gF1 gE1 gQ1 yt1 yn1 yr1 ym1 yd1 yk1 yb1 yc1)) [1, 2, 3, 4, 5, 6, 7, 8] rfl
    have hDm := hD.sub (ws' := (wM u cI cZ gS1 gK1 gI1 gO1 gF1 gE1 gQ1 yt1 yn1 yr1 ym1 yd1 yk1 yb1 yc1)) [1, 2, 3, 4, 5, 6, 7, 8] (by decide) rfl
    refine cl_r (v := some (.int (nI yt1))) (W.runV (b := u 0) (C := "TypeStackModel") (As := []) (rest := []) ⟨hx, hb, hml, hown, hw⟩ (c_M_thrown l D u cI cZ gS1 gK1 gI1 gO1 gF1 gE1 gQ1 yt1 yn1 yr1 ym1 yd1 yk1 yb1 yc1 H.size) (cwV 0 hw g_L_74 rfl rfl rfl ⟨rfl, by decide, by decide, by decide +kernel⟩ ⟨by decide, by decide⟩) ⟨PW.blind, va_recv (q := (RM, FM, 15)) (ci := 1) (q0 := 0) hK2 hPm rfl rfl, PW.pre hPm hK2 hDm hS hA hE⟩ rfl rfl hl.1 rfl (lv_room (Nat.le_of_ble_eq_true rfl)) d_L_law_422 ⟨by show _ ≤ 1054; omega, by show _ ≤ 9807; omega⟩) ?_
    refine lv_iload hx hb d_L_law_425 (lv_at hl 1 rfl) ?_
    have hkl : 0 < 2 ^ 31 := by decide
    refine nw_eq hx hb (tgt := 432) d_L_law_427 (by decide) (by omega) hkl (fun h => ?_) (fun h => absurd hyt h)
    refine lv_iload hx hb d_L_law_432 (lv_at hl 1 rfl) ?_
    refine nw_ifne hx hb (tgt := 449) d_L_law_434 (by decide) (by decide) (fun h => absurd h (Nat.lt_irrefl 0)) (fun h => ?_)
    refine lv_aload_n hx hb d_L_law_437 rfl (lv_at hl 3 rfl) ?_
    refine lv_iconst (v := nI 0) hx hb d_L_law_438 (by decide) ?_
    refine va_lald hx hb hK hP 0 2 rfl rfl (i := nI 0) (vp_in_nI (by decide) (by decide)) d_L_law_439 ?_
    refine lv_iload hx hb d_L_law_440 (lv_at hl 0 rfl) ?_
    refine lv_i2l (v := (nI (xr - 1)).toInt64) hx hb d_L_law_442 (by rw [hB]) ?_
    refine W.lcmp hx hb d_L_law_443 ?_
    refine nw_is (y := nI 0) (lgc _) ?_
    refine nw_ifeq hx hb (tgt := 449) d_L_law_444 (by decide) (by decide) (fun h => ?_) (fun h => absurd h (Nat.lt_irrefl 0))
    refine lv_goto hx hb d_L_law_449 (tgt := 758) (by decide) ?_
    refine W.widen (k := 16 + (j + 1)) (n := 1531 + 6 * (j + 1)) (by omega) (by omega) ?_
    exact kk _ _ _ ⟨(pl fT (fF (xr - 1)) (szL 6 (fB (xr - 1))) (fB (xr - 1))), fK, fA, fB, fF, fE, ((fF (xr - 1)) + szL 6 (fB (xr - 1))), (max xg ((fF (xr - 1)) + szL 6 (fB (xr - 1)))), (xr - 1), (xn + 1), gS1, gK1, gI1, gO1, gF1, gE1, gQ1, yt1, yn1, yr1, ym1, yd1, yk1, yb1, yc1, (vp_updL g 0 (nI (xr - 1)).toInt64), hi1, hv1, hm1, hrel_, hP, hD, hS⟩ (lv_sub hl [2, 3, 4, 5, 6] rfl)
  · skip
    obtain ⟨hr1, hP1, hD1⟩ := q2 E her
    cases hr1
    rw [ht] at hP1
    obtain ⟨hP, hD⟩ := hJ _ hP1 hD1
    have hP := hP.sub (ws' := ((o, .inl (cL, 1, .inr (.inl g))) :: (wM u cI cZ gS gK gI gO gF gE gQ yt xh xr xg xn yk yb yc ++ wT z cI cZ fT fK fA fB fF fE xh xg xr xn))) [8, 0, 1, 2, 3, 4, 5, 6, 7, 9, 10, 11, 12, 13, 14, 15] rfl
    have hD := hD.sub (ws' := ((o, .inl (cL, 1, .inr (.inl g))) :: (wM u cI cZ gS gK gI gO gF gE gQ yt xh xr xg xn yk yb yc ++ wT z cI cZ fT fK fA fB fF fE xh xg xr xn))) [8, 0, 1, 2, 3, 4, 5, 6, 7, 9, 10, 11, 12, 13, 14, 15] (by decide) rfl
    refine lv_istore (lv' := [(5, .int (nI (cdl [NSE, UOE, ISE, AE] E))), (4, .int (nI i)), (3, .ref o), (2, .ref (u 0)), (1, .ref (z 0)), (0, .ref b)]) hx hb d_L_law_413 hl (by decide) rfl (fun ls hl => ?_)
    refine lv_aload_n hx hb d_L_law_415 rfl (lv_at hl 3 rfl) ?_
    have hPm := hP.sub (ws' := (wM u cI cZ gS gK gI gO gF gE gQ yt xh xr xg xn yk yb yc)) [1, 2, 3, 4, 5, 6, 7, 8] rfl
    have hDm := hD.sub (ws' := (wM u cI cZ gS gK gI gO gF gE gQ yt xh xr xg xn yk yb yc)) [1, 2, 3, 4, 5, 6, 7, 8] (by decide) rfl
    refine cl_j (Wc := (wM u cI cZ gS gK gI gO gF gE gQ yt xh xr xg xn yk yb yc)) (Wr := ((o, .inl (cL, 1, .inr (.inl g))) :: wT z cI cZ fT fK fA fB fF fE xh xg xr xn)) hP hD hS hA [1, 2, 3, 4, 5, 6, 7, 8] [0, 9, 10, 11, 12, 13, 14, 15] rfl rfl (by decide) (by decide) (va_runV (b := u 0) (C := "TypeStackModel") (As := []) (rest := []) ⟨hx, hb, hml, hown, hw⟩ (c_M_end l D u cI cZ gS gK gI gO gF gE gQ yt xh xr xg xn yk yb yc hm0 hfl hmo H.size) (cwV 0 hw g_L_98 rfl rfl rfl ⟨rfl, by decide, by decide, by decide +kernel⟩ ⟨by decide, by decide⟩) ⟨PW.blind, va_recv (q := (RM, FM, 15)) (ci := 1) (q0 := 0) hK2 hPm rfl rfl, PW.pre hPm hK2 hDm hS hA hE⟩ rfl rfl hl.1 rfl (lv_room (Nat.le_of_ble_eq_true rfl)) d_L_law_416 ⟨by show _ ≤ 1054; omega, by show _ ≤ 9807; omega⟩) (fun _ _ _ h => h.2) (fun v2 st2 t2 H locs hq ht hJ hS hvm2 => ?_)
    obtain ⟨⟨gS1, gK1, gI1, gO1, gF1, gE1, gQ1, yt1, yn1, yr1, ym1, yd1, yk1, yb1, yc1, v3, hr2, hpo, hm1, hP1, hD1⟩, -⟩ := hq
    cases hr2
    rw [ht] at hP1
    obtain ⟨hP, hD⟩ := hJ _ hP1 hD1
    have hP := hP.sub (ws' := ((o, .inl (cL, 1, .inr (.inl g))) :: (wM u cI cZ gS1 gK1 gI1 gO1 gF1 gE1 gQ1 yt1 yn1 yr1 ym1 yd1 yk1 yb1 yc1 ++ wT z cI cZ fT fK fA fB fF fE xh xg xr xn))) [0, 8, 9, 10, 11, 12, 13, 14, 15, 1, 2, 3, 4, 5, 6, 7] rfl
    have hD := hD.sub (ws' := ((o, .inl (cL, 1, .inr (.inl g))) :: (wM u cI cZ gS1 gK1 gI1 gO1 gF1 gE1 gQ1 yt1 yn1 yr1 ym1 yd1 yk1 yb1 yc1 ++ wT z cI cZ fT fK fA fB fF fE xh xg xr xn))) [0, 8, 9, 10, 11, 12, 13, 14, 15, 1, 2, 3, 4, 5, 6, 7] (by decide) rfl
    obtain ⟨hyt, hvv, hrel⟩ := hpo.2 E ((A_end hT hF).symm.trans her)
    subst hvv
    have hrel_ := rel_t ⟨rfl, rfl, rfl, rfl, hT, hF⟩ hrel
    refine lv_istore (lv' := [(6, .int (nI 0)), (5, .int (nI (cdl [NSE, UOE, ISE, AE] E))), (4, .int (nI i)), (3, .ref o), (2, .ref (u 0)), (1, .ref (z 0)), (0, .ref b)]) hx hb d_L_law_419 hl (by decide) rfl (fun ls hl => ?_)
    refine lv_aload_n hx hb d_L_law_421 rfl (lv_at hl 4 rfl) ?_
    have hPm := hP.sub (ws' := (wM u cI cZ gS1 gK1 gI1 gO1 gF1 gE1 gQ1 yt1 yn1 yr1 ym1 yd1 yk1 yb1 yc1)) [1, 2, 3, 4, 5, 6, 7, 8] rfl
    have hDm := hD.sub (ws' := (wM u cI cZ gS1 gK1 gI1 gO1 gF1 gE1 gQ1 yt1 yn1 yr1 ym1 yd1 yk1 yb1 yc1)) [1, 2, 3, 4, 5, 6, 7, 8] (by decide) rfl
    refine cl_r (v := some (.int (nI yt1))) (W.runV (b := u 0) (C := "TypeStackModel") (As := []) (rest := []) ⟨hx, hb, hml, hown, hw⟩ (c_M_thrown l D u cI cZ gS1 gK1 gI1 gO1 gF1 gE1 gQ1 yt1 yn1 yr1 ym1 yd1 yk1 yb1 yc1 H.size) (cwV 0 hw g_L_74 rfl rfl rfl ⟨rfl, by decide, by decide, by decide +kernel⟩ ⟨by decide, by decide⟩) ⟨PW.blind, va_recv (q := (RM, FM, 15)) (ci := 1) (q0 := 0) hK2 hPm rfl rfl, PW.pre hPm hK2 hDm hS hA hE⟩ rfl rfl hl.1 rfl (lv_room (Nat.le_of_ble_eq_true rfl)) d_L_law_422 ⟨by show _ ≤ 1054; omega, by show _ ≤ 9807; omega⟩) ?_
    refine lv_iload hx hb d_L_law_425 (lv_at hl 1 rfl) ?_
    have hkl : cdl [NSE, UOE, ISE, AE] E < 2 ^ 31 := Nat.lt_of_le_of_lt (cdl_in _ _) (by decide)
    refine nw_eq hx hb (tgt := 432) d_L_law_427 (by decide) (by omega) hkl (fun h => ?_) (fun h => absurd hyt h)
    refine lv_iload hx hb d_L_law_432 (lv_at hl 1 rfl) ?_
    refine nw_ifne hx hb (tgt := 449) d_L_law_434 (by decide) hkl (fun h => ?_) (fun h => absurd h (Nat.ne_of_gt (cdl_pos _ _ _)))
    refine lv_goto hx hb d_L_law_449 (tgt := 758) (by decide) ?_
    refine W.widen (k := 16 + (j + 1)) (n := 1531 + 6 * (j + 1)) (by omega) (by omega) ?_
    exact kk _ _ _ ⟨fT, fK, fA, fB, fF, fE, xh, xg, xr, xn, gS1, gK1, gI1, gO1, gF1, gE1, gQ1, yt1, yn1, yr1, ym1, yd1, yk1, yb1, yc1, g, hi0, hv0, hm1, hrel_, hP, hD, hS⟩ (lv_sub hl [2, 3, 4, 5, 6] rfl)

set_option maxHeartbeats 1000000 in
set_option maxRecDepth 100000 in
theorem law_leap (K : LC l p s m meth c b L xs D cI cZ cL) (hi4 : i + 4 ≤ L) (hL : L ≤ 2048) (hj : j < 512) (hw0 : LW D z u o cI cZ cL s H locs) (hl : lv_has ls 7 [(4, .int (nI i)), (3, .ref o), (2, .ref (u 0)), (1, .ref (z 0)), (0, .ref b)])
    (kk : ∀ (H : Heap) (locs : List Loc) (ls : Array Slot), LW D z u o cI cZ cL s H locs → lv_has ls 7 [(4, .int (nI i)), (3, .ref o), (2, .ref (u 0)), (1, .ref (z 0)), (0, .ref b)] → W p l e room_1 s m #[Value.ref b] below meth c H locs (16 + (j + 1)) (1531 + 6 * (j + 1)) Q (F0 m 758 ls [])) : W p l e room_1 s m #[Value.ref b] below meth c H locs (16 + j) (1531 + 6 * j) Q (F0 m 452 ls []) := by
  obtain ⟨hl0, hx, hb, hml, hown, hw, hX, hbl, hE, hN, hK⟩ := K
  obtain ⟨fT, fK, fA, fB, fF, fE, xh, xg, xr, xn, gS, gK, gI, gO, gF, gE, gQ, yt, yn, yr, ym, yd, yk, yb, yc, g, hi0, hv0, hm0, hrel0, hP, hD, hS⟩ := hw0
  obtain ⟨rfl, rfl, rfl, rfl, hT, hF⟩ := hrel0
  have hA : ∀ q : Nat, s.heap.size ≤ q → (fun q => s.heap.size ≤ q) q := fun q h => h
  have hbA : ¬ (fun q => s.heap.size ≤ q) b := Nat.not_le.mpr hbl
  have hfl : 1 ≤ xr → gF (xr - 1) ≤ xh := fun h => by rw [← (hF (xr - 1) (by omega)).2.2.2.1]; exact hv0.2.1 h
  have hmo : xh ≤ xg := hv0.2.2.2
  have hro : ∀ j, j < xr → gF j + szL 6 (gI j) ≤ 300 := fun j h => by rw [← (hF j h).2.2.2.1, ← (hF j h).2.1]; exact hv0.2.2.1 j h
  have hK2 := hK.sub (tys' := [(cI, .int), (cZ, .boolean)]) [0, 1] rfl
  refine lv_aload_n hx hb d_L_law_452 rfl (lv_at hl 3 rfl) ?_
  refine lv_aload_n hx hb d_L_law_453 rfl (lv_at hl 4 rfl) ?_
  refine lv_iload hx hb d_L_law_454 (lv_at hl 0 rfl) ?_
  refine lv_iconst (v := nI 1) hx hb d_L_law_456 (by decide) ?_
  refine nw_add hx hb d_L_law_457 ?_
  refine nw_sld hx hb hX hbl hbA hS (k := i + 1) (by omega) (by omega) d_L_law_458 ?_
  have hPc := hP.sub (ws' := (wT z cI cZ fT fK fA fB fF fE xh xg xr xn)) [9, 10, 11, 12, 13, 14, 15] rfl
  have hDc := hD.sub (ws' := (wT z cI cZ fT fK fA fB fF fE xh xg xr xn)) [9, 10, 11, 12, 13, 14, 15] (by decide) rfl
  refine cl_j (Wc := (wT z cI cZ fT fK fA fB fF fE xh xg xr xn)) (Wr := ((o, .inl (cL, 1, .inr (.inl g))) :: wM u cI cZ gS gK gI gO gF gE gQ yt xh xr xg xn yk yb yc)) hP hD hS hA [9, 10, 11, 12, 13, 14, 15] [0, 1, 2, 3, 4, 5, 6, 7, 8] rfl rfl (by decide) (by decide) (vx_runSW (As := [.ref (z 0), .int (xs (i + 1))]) (rest := []) ⟨hx, hb, hml, hown, hw⟩ (c_L_leap l hl0 D z cI cZ fT fK fA fB fF fE xh xg xr xn hi0 (xs (i + 1)) cL H.size) (vx_cwSW 2 hw g_L_99 rfl rfl rfl ⟨by decide, by decide, by decide +kernel⟩ ⟨by decide, by decide⟩) ⟨PL.blind, PL.pre hPc hK hDc hS hA hE hN⟩ rfl rfl hl.1 rfl (lv_room (Nat.le_of_ble_eq_true rfl)) d_L_law_459 ⟨by show _ ≤ 1054; omega, by show _ ≤ 9807; omega⟩) (fun _ _ _ h => h.2) (fun v1 st1 t1 H locs hq ht hJ hS hvm => ?_)
  obtain ⟨⟨q1, q2⟩, -⟩ := hq
  rcases opt_cs (orE (xf xr (xs (i + 1))) (xo ISE (hbL (fF (xr - 1)) (fE (xr - 1)) fT 6 xh (wnt fK fA fB (xr - 1 - (xs (i + 1)).toNatClampNeg))))) with her | ⟨E, her⟩
  · skip
    obtain ⟨hr1, hP1, hD1⟩ := q1 her
    cases hr1
    rw [ht] at hP1
    obtain ⟨hP, hD⟩ := hJ _ hP1 hD1
    have hP := hP.sub (ws' := ((o, .inl (cL, 1, .inr (.inl g))) :: (wM u cI cZ gS gK gI gO gF gE gQ yt xh xr xg xn yk yb yc ++ wT z cI cZ fT fK fA fB fF (va_up fE (xr - 1) 1) (fF (xr - 1)) xg xr (xn + 1)))) [0, 1, 2, 3, 4, 5, 6, 7, 8, 9, 10, 11, 12, 13, 14, 15] rfl
    have hD := hD.sub (ws' := ((o, .inl (cL, 1, .inr (.inl g))) :: (wM u cI cZ gS gK gI gO gF gE gQ yt xh xr xg xn yk yb yc ++ wT z cI cZ fT fK fA fB fF (va_up fE (xr - 1) 1) (fF (xr - 1)) xg xr (xn + 1)))) [0, 1, 2, 3, 4, 5, 6, 7, 8, 9, 10, 11, 12, 13, 14, 15] (by decide) rfl
    refine lv_istore (lv' := [(5, .int (nI 0)), (4, .int (nI i)), (3, .ref o), (2, .ref (u 0)), (1, .ref (z 0)), (0, .ref b)]) hx hb d_L_law_462 hl (by decide) rfl (fun ls hl => ?_)
    refine lv_aload_n hx hb d_L_law_464 rfl (lv_at hl 3 rfl) ?_
    refine lv_aload_n hx hb d_L_law_465 rfl (lv_at hl 5 rfl) ?_
    refine lv_iload hx hb d_L_law_466 (lv_at hl 1 rfl) ?_
    refine lv_iconst (v := nI 1) hx hb d_L_law_468 (by decide) ?_
    refine nw_add hx hb d_L_law_469 ?_
    refine nw_sld hx hb hX hbl hbA hS (k := i + 1) (by omega) (by omega) d_L_law_470 ?_
    have hPm := hP.sub (ws' := (wM u cI cZ gS gK gI gO gF gE gQ yt xh xr xg xn yk yb yc)) [1, 2, 3, 4, 5, 6, 7, 8] rfl
    have hDm := hD.sub (ws' := (wM u cI cZ gS gK gI gO gF gE gQ yt xh xr xg xn yk yb yc)) [1, 2, 3, 4, 5, 6, 7, 8] (by decide) rfl
    refine cl_j (Wc := (wM u cI cZ gS gK gI gO gF gE gQ yt xh xr xg xn yk yb yc)) (Wr := ((o, .inl (cL, 1, .inr (.inl g))) :: wT z cI cZ fT fK fA fB fF (va_up fE (xr - 1) 1) (fF (xr - 1)) xg xr (xn + 1))) hP hD hS hA [1, 2, 3, 4, 5, 6, 7, 8] [0, 9, 10, 11, 12, 13, 14, 15] rfl rfl (by decide) (by decide) (va_runV (b := u 0) (C := "TypeStackModel") (As := [.int (xs (i + 1))]) (rest := []) ⟨hx, hb, hml, hown, hw⟩ (c_M_leap l D u cI cZ gS gK gI gO gF gE gQ yt xh xr xg xn yk yb yc hm0 (xs (i + 1)) hfl hmo H.size) (cwV 1 hw g_L_101 rfl rfl rfl ⟨rfl, by decide, by decide, by decide +kernel⟩ ⟨by decide, by decide⟩) ⟨PW.blind, va_recv (q := (RM, FM, 15)) (ci := 1) (q0 := 0) hK2 hPm rfl rfl, PW.pre hPm hK2 hDm hS hA hE⟩ rfl rfl hl.1 rfl (lv_room (Nat.le_of_ble_eq_true rfl)) d_L_law_471 ⟨by show _ ≤ 1054; omega, by show _ ≤ 9807; omega⟩) (fun _ _ _ h => h.2) (fun v2 st2 t2 H locs hq ht hJ hS hvm2 => ?_)
    obtain ⟨⟨gS1, gK1, gI1, gO1, gF1, gE1, gQ1, yt1, yn1, yr1, ym1, yd1, yk1, yb1, yc1, v3, hr2, hpo, hm1, hP1, hD1⟩, -⟩ := hq
    cases hr2
    rw [ht] at hP1
    obtain ⟨hP, hD⟩ := hJ _ hP1 hD1
    have hP := hP.sub (ws' := ((o, .inl (cL, 1, .inr (.inl g))) :: (wM u cI cZ gS1 gK1 gI1 gO1 gF1 gE1 gQ1 yt1 yn1 yr1 ym1 yd1 yk1 yb1 yc1 ++ wT z cI cZ fT fK fA fB fF (va_up fE (xr - 1) 1) (fF (xr - 1)) xg xr (xn + 1)))) [0, 8, 9, 10, 11, 12, 13, 14, 15, 1, 2, 3, 4, 5, 6, 7] rfl
    have hD := hD.sub (ws' := ((o, .inl (cL, 1, .inr (.inl g))) :: (wM u cI cZ gS1 gK1 gI1 gO1 gF1 gE1 gQ1 yt1 yn1 yr1 ym1 yd1 yk1 yb1 yc1 ++ wT z cI cZ fT fK fA fB fF (va_up fE (xr - 1) 1) (fF (xr - 1)) xg xr (xn + 1)))) [0, 8, 9, 10, 11, 12, 13, 14, 15, 1, 2, 3, 4, 5, 6, 7] (by decide) rfl
    obtain ⟨hyt, hvv, hrel⟩ := hpo.1 ((A_leap hT hF (xs (i + 1))).symm.trans her)
    subst hvv
    obtain ⟨hi1, hv1⟩ := D_leap hi0 hv0 (xs (i + 1)) her
    have hrel_ := rel_t (C_leap hT hF hv0.2.1 (xs (i + 1)) her) hrel
    refine lv_aload_n hx hb d_L_law_474 rfl (lv_at hl 3 rfl) ?_
    have hPm := hP.sub (ws' := (wM u cI cZ gS1 gK1 gI1 gO1 gF1 gE1 gQ1 yt1 yn1 yr1 ym1 yd1 yk1 yb1 yc1)) [1, 2, 3, 4, 5, 6, 7, 8] rfl
    have hDm := hD.sub (ws' := (wM u cI cZ gS1 gK1 gI1 gO1 gF1 gE1 gQ1 yt1 yn1 yr1 ym1 yd1 yk1 yb1 yc1)) [1, 2, 3, 4, 5, 6, 7, 8] (by decide) rfl
    refine cl_r (v := some (.int (nI yt1))) (W.runV (b := u 0) (C := "TypeStackModel") (As := []) (rest := []) ⟨hx, hb, hml, hown, hw⟩ (c_M_thrown l D u cI cZ gS1 gK1 gI1 gO1 gF1 gE1 gQ1 yt1 yn1 yr1 ym1 yd1 yk1 yb1 yc1 H.size) (cwV 0 hw g_L_74 rfl rfl rfl ⟨rfl, by decide, by decide, by decide +kernel⟩ ⟨by decide, by decide⟩) ⟨PW.blind, va_recv (q := (RM, FM, 15)) (ci := 1) (q0 := 0) hK2 hPm rfl rfl, PW.pre hPm hK2 hDm hS hA hE⟩ rfl rfl hl.1 rfl (lv_room (Nat.le_of_ble_eq_true rfl)) d_L_law_475 ⟨by show _ ≤ 1054; omega, by show _ ≤ 9807; omega⟩) ?_
    refine lv_iload hx hb d_L_law_478 (lv_at hl 0 rfl) ?_
    have hkl : 0 < 2 ^ 31 := by decide
    refine nw_eq hx hb (tgt := 485) d_L_law_480 (by decide) (by omega) hkl (fun h => ?_) (fun h => absurd hyt h)
    refine lv_goto hx hb d_L_law_485 (tgt := 758) (by decide) ?_
    refine W.widen (k := 16 + (j + 1)) (n := 1531 + 6 * (j + 1)) (by omega) (by omega) ?_
    exact kk _ _ _ ⟨fT, fK, fA, fB, fF, (va_up fE (xr - 1) 1), (fF (xr - 1)), xg, xr, (xn + 1), gS1, gK1, gI1, gO1, gF1, gE1, gQ1, yt1, yn1, yr1, ym1, yd1, yk1, yb1, yc1, g, hi1, hv1, hm1, hrel_, hP, hD, hS⟩ (lv_sub hl [1, 2, 3, 4, 5] rfl)
  · skip
    obtain ⟨hr1, hP1, hD1⟩ := q2 E her
    cases hr1
    rw [ht] at hP1
    obtain ⟨hP, hD⟩ := hJ _ hP1 hD1
    have hP := hP.sub (ws' := ((o, .inl (cL, 1, .inr (.inl g))) :: (wM u cI cZ gS gK gI gO gF gE gQ yt xh xr xg xn yk yb yc ++ wT z cI cZ fT fK fA fB fF fE xh xg xr xn))) [0, 1, 2, 3, 4, 5, 6, 7, 8, 9, 10, 11, 12, 13, 14, 15] rfl
    have hD := hD.sub (ws' := ((o, .inl (cL, 1, .inr (.inl g))) :: (wM u cI cZ gS gK gI gO gF gE gQ yt xh xr xg xn yk yb yc ++ wT z cI cZ fT fK fA fB fF fE xh xg xr xn))) [0, 1, 2, 3, 4, 5, 6, 7, 8, 9, 10, 11, 12, 13, 14, 15] (by decide) rfl
    refine lv_istore (lv' := [(5, .int (nI (cdl [NSE, ISE] E))), (4, .int (nI i)), (3, .ref o), (2, .ref (u 0)), (1, .ref (z 0)), (0, .ref b)]) hx hb d_L_law_462 hl (by decide) rfl (fun ls hl => ?_)
    refine lv_aload_n hx hb d_L_law_464 rfl (lv_at hl 3 rfl) ?_
    refine lv_aload_n hx hb d_L_law_465 rfl (lv_at hl 5 rfl) ?_
    refine lv_iload hx hb d_L_law_466 (lv_at hl 1 rfl) ?_
    refine lv_iconst (v := nI 1) hx hb d_L_law_468 (by decide) ?_
    refine nw_add hx hb d_L_law_469 ?_
    refine nw_sld hx hb hX hbl hbA hS (k := i + 1) (by omega) (by omega) d_L_law_470 ?_
    have hPm := hP.sub (ws' := (wM u cI cZ gS gK gI gO gF gE gQ yt xh xr xg xn yk yb yc)) [1, 2, 3, 4, 5, 6, 7, 8] rfl
    have hDm := hD.sub (ws' := (wM u cI cZ gS gK gI gO gF gE gQ yt xh xr xg xn yk yb yc)) [1, 2, 3, 4, 5, 6, 7, 8] (by decide) rfl
    refine cl_j (Wc := (wM u cI cZ gS gK gI gO gF gE gQ yt xh xr xg xn yk yb yc)) (Wr := ((o, .inl (cL, 1, .inr (.inl g))) :: wT z cI cZ fT fK fA fB fF fE xh xg xr xn)) hP hD hS hA [1, 2, 3, 4, 5, 6, 7, 8] [0, 9, 10, 11, 12, 13, 14, 15] rfl rfl (by decide) (by decide) (va_runV (b := u 0) (C := "TypeStackModel") (As := [.int (xs (i + 1))]) (rest := []) ⟨hx, hb, hml, hown, hw⟩ (c_M_leap l D u cI cZ gS gK gI gO gF gE gQ yt xh xr xg xn yk yb yc hm0 (xs (i + 1)) hfl hmo H.size) (cwV 1 hw g_L_101 rfl rfl rfl ⟨rfl, by decide, by decide, by decide +kernel⟩ ⟨by decide, by decide⟩) ⟨PW.blind, va_recv (q := (RM, FM, 15)) (ci := 1) (q0 := 0) hK2 hPm rfl rfl, PW.pre hPm hK2 hDm hS hA hE⟩ rfl rfl hl.1 rfl (lv_room (Nat.le_of_ble_eq_true rfl)) d_L_law_471 ⟨by show _ ≤ 1054; omega, by show _ ≤ 9807; omega⟩) (fun _ _ _ h => h.2) (fun v2 st2 t2 H locs hq ht hJ hS hvm2 => ?_)
    obtain ⟨⟨gS1, gK1, gI1, gO1, gF1, gE1, gQ1, yt1, yn1, yr1, ym1, yd1, yk1, yb1, yc1, v3, hr2, hpo, hm1, hP1, hD1⟩, -⟩ := hq
    cases hr2
    rw [ht] at hP1
    obtain ⟨hP, hD⟩ := hJ _ hP1 hD1
    have hP := hP.sub (ws' := ((o, .inl (cL, 1, .inr (.inl g))) :: (wM u cI cZ gS1 gK1 gI1 gO1 gF1 gE1 gQ1 yt1 yn1 yr1 ym1 yd1 yk1 yb1 yc1 ++ wT z cI cZ fT fK fA fB fF fE xh xg xr xn))) [0, 8, 9, 10, 11, 12, 13, 14, 15, 1, 2, 3, 4, 5, 6, 7] rfl
    have hD := hD.sub (ws' := ((o, .inl (cL, 1, .inr (.inl g))) :: (wM u cI cZ gS1 gK1 gI1 gO1 gF1 gE1 gQ1 yt1 yn1 yr1 ym1 yd1 yk1 yb1 yc1 ++ wT z cI cZ fT fK fA fB fF fE xh xg xr xn))) [0, 8, 9, 10, 11, 12, 13, 14, 15, 1, 2, 3, 4, 5, 6, 7] (by decide) rfl
    obtain ⟨hyt, hvv, hrel⟩ := hpo.2 E ((A_leap hT hF (xs (i + 1))).symm.trans her)
    subst hvv
    have hrel_ := rel_t ⟨rfl, rfl, rfl, rfl, hT, hF⟩ hrel
    refine lv_aload_n hx hb d_L_law_474 rfl (lv_at hl 3 rfl) ?_
    have hPm := hP.sub (ws' := (wM u cI cZ gS1 gK1 gI1 gO1 gF1 gE1 gQ1 yt1 yn1 yr1 ym1 yd1 yk1 yb1 yc1)) [1, 2, 3, 4, 5, 6, 7, 8] rfl
    have hDm := hD.sub (ws' := (wM u cI cZ gS1 gK1 gI1 gO1 gF1 gE1 gQ1 yt1 yn1 yr1 ym1 yd1 yk1 yb1 yc1)) [1, 2, 3, 4, 5, 6, 7, 8] (by decide) rfl
    refine cl_r (v := some (.int (nI yt1))) (W.runV (b := u 0) (C := "TypeStackModel") (As := []) (rest := []) ⟨hx, hb, hml, hown, hw⟩ (c_M_thrown l D u cI cZ gS1 gK1 gI1 gO1 gF1 gE1 gQ1 yt1 yn1 yr1 ym1 yd1 yk1 yb1 yc1 H.size) (cwV 0 hw g_L_74 rfl rfl rfl ⟨rfl, by decide, by decide, by decide +kernel⟩ ⟨by decide, by decide⟩) ⟨PW.blind, va_recv (q := (RM, FM, 15)) (ci := 1) (q0 := 0) hK2 hPm rfl rfl, PW.pre hPm hK2 hDm hS hA hE⟩ rfl rfl hl.1 rfl (lv_room (Nat.le_of_ble_eq_true rfl)) d_L_law_475 ⟨by show _ ≤ 1054; omega, by show _ ≤ 9807; omega⟩) ?_
    refine lv_iload hx hb d_L_law_478 (lv_at hl 0 rfl) ?_
    have hkl : cdl [NSE, ISE] E < 2 ^ 31 := Nat.lt_of_le_of_lt (cdl_in _ _) (by decide)
    refine nw_eq hx hb (tgt := 485) d_L_law_480 (by decide) (by omega) hkl (fun h => ?_) (fun h => absurd hyt h)
    refine lv_goto hx hb d_L_law_485 (tgt := 758) (by decide) ?_
    refine W.widen (k := 16 + (j + 1)) (n := 1531 + 6 * (j + 1)) (by omega) (by omega) ?_
    exact kk _ _ _ ⟨fT, fK, fA, fB, fF, fE, xh, xg, xr, xn, gS1, gK1, gI1, gO1, gF1, gE1, gQ1, yt1, yn1, yr1, ym1, yd1, yk1, yb1, yc1, g, hi0, hv0, hm1, hrel_, hP, hD, hS⟩ (lv_sub hl [1, 2, 3, 4, 5] rfl)

set_option maxHeartbeats 1000000 in
set_option maxRecDepth 100000 in
theorem law_leapIf (K : LC l p s m meth c b L xs D cI cZ cL) (hi4 : i + 4 ≤ L) (hL : L ≤ 2048) (hj : j < 512) (hw0 : LW D z u o cI cZ cL s H locs) (hl : lv_has ls 7 [(4, .int (nI i)), (3, .ref o), (2, .ref (u 0)), (1, .ref (z 0)), (0, .ref b)])
    (kk : ∀ (H : Heap) (locs : List Loc) (ls : Array Slot), LW D z u o cI cZ cL s H locs → lv_has ls 7 [(4, .int (nI i)), (3, .ref o), (2, .ref (u 0)), (1, .ref (z 0)), (0, .ref b)] → W p l e room_1 s m #[Value.ref b] below meth c H locs (16 + (j + 1)) (1531 + 6 * (j + 1)) Q (F0 m 758 ls [])) : W p l e room_1 s m #[Value.ref b] below meth c H locs (16 + j) (1531 + 6 * j) Q (F0 m 488 ls []) := by
  obtain ⟨hl0, hx, hb, hml, hown, hw, hX, hbl, hE, hN, hK⟩ := K
  obtain ⟨fT, fK, fA, fB, fF, fE, xh, xg, xr, xn, gS, gK, gI, gO, gF, gE, gQ, yt, yn, yr, ym, yd, yk, yb, yc, g, hi0, hv0, hm0, hrel0, hP, hD, hS⟩ := hw0
  obtain ⟨rfl, rfl, rfl, rfl, hT, hF⟩ := hrel0
  have hA : ∀ q : Nat, s.heap.size ≤ q → (fun q => s.heap.size ≤ q) q := fun q h => h
  have hbA : ¬ (fun q => s.heap.size ≤ q) b := Nat.not_le.mpr hbl
  have hfl : 1 ≤ xr → gF (xr - 1) ≤ xh := fun h => by rw [← (hF (xr - 1) (by omega)).2.2.2.1]; exact hv0.2.1 h
  have hmo : xh ≤ xg := hv0.2.2.2
  have hro : ∀ j, j < xr → gF j + szL 6 (gI j) ≤ 300 := fun j h => by rw [← (hF j h).2.2.2.1, ← (hF j h).2.1]; exact hv0.2.2.1 j h
  have hK2 := hK.sub (tys' := [(cI, .int), (cZ, .boolean)]) [0, 1] rfl
  refine lv_aload_n hx hb d_L_law_488 rfl (lv_at hl 3 rfl) ?_
  refine lv_aload_n hx hb d_L_law_489 rfl (lv_at hl 4 rfl) ?_
  refine lv_iload hx hb d_L_law_490 (lv_at hl 0 rfl) ?_
  refine lv_iconst (v := nI 1) hx hb d_L_law_492 (by decide) ?_
  refine nw_add hx hb d_L_law_493 ?_
  refine nw_sld hx hb hX hbl hbA hS (k := i + 1) (by omega) (by omega) d_L_law_494 ?_
  refine lv_aload_n hx hb d_L_law_495 rfl (lv_at hl 1 rfl) ?_
  have hPc := hP.sub (ws' := ((o, .inl (cL, 1, .inr (.inl g))) :: wT z cI cZ fT fK fA fB fF fE xh xg xr xn)) [0, 9, 10, 11, 12, 13, 14, 15] rfl
  have hDc := hD.sub (ws' := ((o, .inl (cL, 1, .inr (.inl g))) :: wT z cI cZ fT fK fA fB fF fE xh xg xr xn)) [0, 9, 10, 11, 12, 13, 14, 15] (by decide) rfl
  refine cl_j (Wc := ((o, .inl (cL, 1, .inr (.inl g))) :: wT z cI cZ fT fK fA fB fF fE xh xg xr xn)) (Wr := (wM u cI cZ gS gK gI gO gF gE gQ yt xh xr xg xn yk yb yc)) hP hD hS hA [0, 9, 10, 11, 12, 13, 14, 15] [1, 2, 3, 4, 5, 6, 7, 8] rfl rfl (by decide) (by decide) (vx_runSW (As := [.ref (z 0), .int (xs (i + 1)), .ref o]) (rest := []) ⟨hx, hb, hml, hown, hw⟩ (c_L_leapIf l hl0 D z cI cZ fT fK fA fB fF fE xh xg xr xn hi0 (xs (i + 1)) cL o g H.size) (vx_cwSW 3 hw g_L_102 rfl rfl rfl ⟨by decide, by decide, by decide +kernel⟩ ⟨by decide, by decide⟩) ⟨PL.blind, PL.pre hPc hK hDc hS hA hE hN⟩ rfl rfl hl.1 rfl (lv_room (Nat.le_of_ble_eq_true rfl)) d_L_law_496 ⟨by show _ ≤ 1054; omega, by show _ ≤ 9807; omega⟩) (fun _ _ _ h => h.2) (fun v1 st1 t1 H locs hq ht hJ hS hvm => ?_)
  obtain ⟨⟨q1, q2⟩, -⟩ := hq
  rcases opt_cs (orE (xf xr (xs (i + 1))) (orE (xo ISE (hbT (fF (xr - 1)) (fE (xr - 1)) fT xh 1)) (orE (xo ISE (hbL (fF (xr - 1)) (fE (xr - 1)) fT 6 ((hbT (fF (xr - 1)) (fE (xr - 1)) fT xh 1).getD 0) (wnt fK fA fB (xr - 1 - (xs (i + 1)).toNatClampNeg)))) (rmE ((hbL (fF (xr - 1)) (fE (xr - 1)) fT 6 ((hbT (fF (xr - 1)) (fE (xr - 1)) fT xh 1).getD 0) (wnt fK fA fB (xr - 1 - (xs (i + 1)).toNatClampNeg))).getD 0 + szL 6 (wnt fK fA fB (xr - 1 - (xs (i + 1)).toNatClampNeg))))))) with her | ⟨E, her⟩
  · skip
    obtain ⟨hr1, hP1, hD1⟩ := q1 her
    cases hr1
    rw [ht] at hP1
    obtain ⟨hP, hD⟩ := hJ _ hP1 hD1
    have hP := hP.sub (ws' := ((o, .inl (cL, 1, .inr (.inl (vp_updL g 0 (nI ((hbL (fF (xr - 1)) (fE (xr - 1)) fT 6 ((hbT (fF (xr - 1)) (fE (xr - 1)) fT xh 1).getD 0) (wnt fK fA fB (xr - 1 - (xs (i + 1)).toNatClampNeg))).getD 0 + szL 6 (wnt fK fA fB (xr - 1 - (xs (i + 1)).toNatClampNeg)))).toInt64)))) :: (wM u cI cZ gS gK gI gO gF gE gQ yt xh xr xg xn yk yb yc ++ wT z cI cZ (pl fT ((hbL (fF (xr - 1)) (fE (xr - 1)) fT 6 ((hbT (fF (xr - 1)) (fE (xr - 1)) fT xh 1).getD 0) (wnt fK fA fB (xr - 1 - (xs (i + 1)).toNatClampNeg))).getD 0) (szL 6 (wnt fK fA fB (xr - 1 - (xs (i + 1)).toNatClampNeg))) (wnt fK fA fB (xr - 1 - (xs (i + 1)).toNatClampNeg))) fK fA fB fF fE (((hbL (fF (xr - 1)) (fE (xr - 1)) fT 6 ((hbT (fF (xr - 1)) (fE (xr - 1)) fT xh 1).getD 0) (wnt fK fA fB (xr - 1 - (xs (i + 1)).toNatClampNeg))).getD 0) + szL 6 (wnt fK fA fB (xr - 1 - (xs (i + 1)).toNatClampNeg))) (max xg (((hbL (fF (xr - 1)) (fE (xr - 1)) fT 6 ((hbT (fF (xr - 1)) (fE (xr - 1)) fT xh 1).getD 0) (wnt fK fA fB (xr - 1 - (xs (i + 1)).toNatClampNeg))).getD 0) + szL 6 (wnt fK fA fB (xr - 1 - (xs (i + 1)).toNatClampNeg)))) xr (xn + 1)))) [8, 0, 1, 2, 3, 4, 5, 6, 7, 9, 10, 11, 12, 13, 14, 15] rfl
    have hD := hD.sub (ws' := ((o, .inl (cL, 1, .inr (.inl (vp_updL g 0 (nI ((hbL (fF (xr - 1)) (fE (xr - 1)) fT 6 ((hbT (fF (xr - 1)) (fE (xr - 1)) fT xh 1).getD 0) (wnt fK fA fB (xr - 1 - (xs (i + 1)).toNatClampNeg))).getD 0 + szL 6 (wnt fK fA fB (xr - 1 - (xs (i + 1)).toNatClampNeg)))).toInt64)))) :: (wM u cI cZ gS gK gI gO gF gE gQ yt xh xr xg xn yk yb yc ++ wT z cI cZ (pl fT ((hbL (fF (xr - 1)) (fE (xr - 1)) fT 6 ((hbT (fF (xr - 1)) (fE (xr - 1)) fT xh 1).getD 0) (wnt fK fA fB (xr - 1 - (xs (i + 1)).toNatClampNeg))).getD 0) (szL 6 (wnt fK fA fB (xr - 1 - (xs (i + 1)).toNatClampNeg))) (wnt fK fA fB (xr - 1 - (xs (i + 1)).toNatClampNeg))) fK fA fB fF fE (((hbL (fF (xr - 1)) (fE (xr - 1)) fT 6 ((hbT (fF (xr - 1)) (fE (xr - 1)) fT xh 1).getD 0) (wnt fK fA fB (xr - 1 - (xs (i + 1)).toNatClampNeg))).getD 0) + szL 6 (wnt fK fA fB (xr - 1 - (xs (i + 1)).toNatClampNeg))) (max xg (((hbL (fF (xr - 1)) (fE (xr - 1)) fT 6 ((hbT (fF (xr - 1)) (fE (xr - 1)) fT xh 1).getD 0) (wnt fK fA fB (xr - 1 - (xs (i + 1)).toNatClampNeg))).getD 0) + szL 6 (wnt fK fA fB (xr - 1 - (xs (i + 1)).toNatClampNeg)))) xr (xn + 1)))) [8, 0, 1, 2, 3, 4, 5, 6, 7, 9, 10, 11, 12, 13, 14, 15] (by decide) rfl
    refine lv_istore (lv' := [(5, .int (nI 0)), (4, .int (nI i)), (3, .ref o), (2, .ref (u 0)), (1, .ref (z 0)), (0, .ref b)]) hx hb d_L_law_499 hl (by decide) rfl (fun ls hl => ?_)
    refine lv_aload_n hx hb d_L_law_501 rfl (lv_at hl 3 rfl) ?_
    refine lv_aload_n hx hb d_L_law_502 rfl (lv_at hl 5 rfl) ?_
    refine lv_iload hx hb d_L_law_503 (lv_at hl 1 rfl) ?_
    refine lv_iconst (v := nI 1) hx hb d_L_law_505 (by decide) ?_
    refine nw_add hx hb d_L_law_506 ?_
    refine nw_sld hx hb hX hbl hbA hS (k := i + 1) (by omega) (by omega) d_L_law_507 ?_
    have hPm := hP.sub (ws' := (wM u cI cZ gS gK gI gO gF gE gQ yt xh xr xg xn yk yb yc)) [1, 2, 3, 4, 5, 6, 7, 8] rfl
    have hDm := hD.sub (ws' := (wM u cI cZ gS gK gI gO gF gE gQ yt xh xr xg xn yk yb yc)) [1, 2, 3, 4, 5, 6, 7, 8] (by decide) rfl
    refine cl_j (Wc := (wM u cI cZ gS gK gI gO gF gE gQ yt xh xr xg xn yk yb yc)) (Wr := ((o, .inl (cL, 1, .inr (.inl (vp_updL g 0 (nI ((hbL (fF (xr - 1)) (fE (xr - 1)) fT 6 ((hbT (fF (xr - 1)) (fE (xr - 1)) fT xh 1).getD 0) (wnt fK fA fB (xr - 1 - (xs (i + 1)).toNatClampNeg))).getD 0 + szL 6 (wnt fK fA fB (xr - 1 - (xs (i + 1)).toNatClampNeg)))).toInt64)))) :: wT z cI cZ (pl fT ((hbL (fF (xr - 1)) (fE (xr - 1)) fT 6 ((hbT (fF (xr - 1)) (fE (xr - 1)) fT xh 1).getD 0) (wnt fK fA fB (xr - 1 - (xs (i + 1)).toNatClampNeg))).getD 0) (szL 6 (wnt fK fA fB (xr - 1 - (xs (i + 1)).toNatClampNeg))) (wnt fK fA fB (xr - 1 - (xs (i + 1)).toNatClampNeg))) fK fA fB fF fE (((hbL (fF (xr - 1)) (fE (xr - 1)) fT 6 ((hbT (fF (xr - 1)) (fE (xr - 1)) fT xh 1).getD 0) (wnt fK fA fB (xr - 1 - (xs (i + 1)).toNatClampNeg))).getD 0) + szL 6 (wnt fK fA fB (xr - 1 - (xs (i + 1)).toNatClampNeg))) (max xg (((hbL (fF (xr - 1)) (fE (xr - 1)) fT 6 ((hbT (fF (xr - 1)) (fE (xr - 1)) fT xh 1).getD 0) (wnt fK fA fB (xr - 1 - (xs (i + 1)).toNatClampNeg))).getD 0) + szL 6 (wnt fK fA fB (xr - 1 - (xs (i + 1)).toNatClampNeg)))) xr (xn + 1))) hP hD hS hA [1, 2, 3, 4, 5, 6, 7, 8] [0, 9, 10, 11, 12, 13, 14, 15] rfl rfl (by decide) (by decide) (va_runV (b := u 0) (C := "TypeStackModel") (As := [.int (xs (i + 1))]) (rest := []) ⟨hx, hb, hml, hown, hw⟩ (c_M_leapIf l D u cI cZ gS gK gI gO gF gE gQ yt xh xr xg xn yk yb yc hm0 (xs (i + 1)) hfl hmo H.size) (cwV 1 hw g_L_105 rfl rfl rfl ⟨rfl, by decide, by decide, by decide +kernel⟩ ⟨by decide, by decide⟩) ⟨PW.blind, va_recv (q := (RM, FM, 15)) (ci := 1) (q0 := 0) hK2 hPm rfl rfl, PW.pre hPm hK2 hDm hS hA hE⟩ rfl rfl hl.1 rfl (lv_room (Nat.le_of_ble_eq_true rfl)) d_L_law_508 ⟨by show _ ≤ 1054; omega, by show _ ≤ 9807; omega⟩) (fun _ _ _ h => h.2) (fun v2 st2 t2 H locs hq ht hJ hS hvm2 => ?_)
    obtain ⟨⟨gS1, gK1, gI1, gO1, gF1, gE1, gQ1, yt1, yn1, yr1, ym1, yd1, yk1, yb1, yc1, v3, hr2, hpo, hm1, hP1, hD1⟩, -⟩ := hq
    cases hr2
    rw [ht] at hP1
    obtain ⟨hP, hD⟩ := hJ _ hP1 hD1
    have hP := hP.sub (ws' := ((o, .inl (cL, 1, .inr (.inl (vp_updL g 0 (nI ((hbL (fF (xr - 1)) (fE (xr - 1)) fT 6 ((hbT (fF (xr - 1)) (fE (xr - 1)) fT xh 1).getD 0) (wnt fK fA fB (xr - 1 - (xs (i + 1)).toNatClampNeg))).getD 0 + szL 6 (wnt fK fA fB (xr - 1 - (xs (i + 1)).toNatClampNeg)))).toInt64)))) :: (wM u cI cZ gS1 gK1 gI1 gO1 gF1 gE1 gQ1 yt1 yn1 yr1 ym1 yd1 yk1 yb1 yc1 ++ wT z cI cZ (pl fT ((hbL (fF (xr - 1)) (fE (xr - 1)) fT 6 ((hbT (fF (xr - 1)) (fE (xr - 1)) fT xh 1).getD 0) (wnt fK fA fB (xr - 1 - (xs (i + 1)).toNatClampNeg))).getD 0) (szL 6 (wnt fK fA fB (xr - 1 - (xs (i + 1)).toNatClampNeg))) (wnt fK fA fB (xr - 1 - (xs (i + 1)).toNatClampNeg))) fK fA fB fF fE (((hbL (fF (xr - 1)) (fE (xr - 1)) fT 6 ((hbT (fF (xr - 1)) (fE (xr - 1)) fT xh 1).getD 0) (wnt fK fA fB (xr - 1 - (xs (i + 1)).toNatClampNeg))).getD 0) + szL 6 (wnt fK fA fB (xr - 1 - (xs (i + 1)).toNatClampNeg))) (max xg (((hbL (fF (xr - 1)) (fE (xr - 1)) fT 6 ((hbT (fF (xr - 1)) (fE (xr - 1)) fT xh 1).getD 0) (wnt fK fA fB (xr - 1 - (xs (i + 1)).toNatClampNeg))).getD 0) + szL 6 (wnt fK fA fB (xr - 1 - (xs (i + 1)).toNatClampNeg)))) xr (xn + 1)))) [0, 8, 9, 10, 11, 12, 13, 14, 15, 1, 2, 3, 4, 5, 6, 7] rfl
    have hD := hD.sub (ws' := ((o, .inl (cL, 1, .inr (.inl (vp_updL g 0 (nI ((hbL (fF (xr - 1)) (fE (xr - 1)) fT 6 ((hbT (fF (xr - 1)) (fE (xr - 1)) fT xh 1).getD 0) (wnt fK fA fB (xr - 1 - (xs (i + 1)).toNatClampNeg))).getD 0 + szL 6 (wnt fK fA fB (xr - 1 - (xs (i + 1)).toNatClampNeg)))).toInt64)))) :: (wM u cI cZ gS1 gK1 gI1 gO1 gF1 gE1 gQ1 yt1 yn1 yr1 ym1 yd1 yk1 yb1 yc1 ++ wT z cI cZ (pl fT ((hbL (fF (xr - 1)) (fE (xr - 1)) fT 6 ((hbT (fF (xr - 1)) (fE (xr - 1)) fT xh 1).getD 0) (wnt fK fA fB (xr - 1 - (xs (i + 1)).toNatClampNeg))).getD 0) (szL 6 (wnt fK fA fB (xr - 1 - (xs (i + 1)).toNatClampNeg))) (wnt fK fA fB (xr - 1 - (xs (i + 1)).toNatClampNeg))) fK fA fB fF fE (((hbL (fF (xr - 1)) (fE (xr - 1)) fT 6 ((hbT (fF (xr - 1)) (fE (xr - 1)) fT xh 1).getD 0) (wnt fK fA fB (xr - 1 - (xs (i + 1)).toNatClampNeg))).getD 0) + szL 6 (wnt fK fA fB (xr - 1 - (xs (i + 1)).toNatClampNeg))) (max xg (((hbL (fF (xr - 1)) (fE (xr - 1)) fT 6 ((hbT (fF (xr - 1)) (fE (xr - 1)) fT xh 1).getD 0) (wnt fK fA fB (xr - 1 - (xs (i + 1)).toNatClampNeg))).getD 0) + szL 6 (wnt fK fA fB (xr - 1 - (xs (i + 1)).toNatClampNeg)))) xr (xn + 1)))) [0, 8, 9, 10, 11, 12, 13, 14, 15, 1, 2, 3, 4, 5, 6, 7] (by decide) rfl
    obtain ⟨hyt, hvv, hrel⟩ := hpo.1 ((A_leapIf hT hF (xs (i + 1))).symm.trans her)
    subst hvv
    obtain ⟨hi1, hv1⟩ := D_leapIf hi0 hv0 (xs (i + 1)) her
    have hrel_ := rel_t (C_leapIf hT hF (xs (i + 1)) her) hrel
    have hB := B_leapIf hT hF (xs (i + 1)) her
    refine lv_istore (lv' := [(6, .int (nI ((hbL (gF (xr - 1)) (gE (xr - 1)) gS 6 ((hbT (gF (xr - 1)) (gE (xr - 1)) gS xh 1).getD 0) (wnt gK gI gO (xr - 1 - (xs (i + 1)).toNatClampNeg))).getD 0 + szL 6 (wnt gK gI gO (xr - 1 - (xs (i + 1)).toNatClampNeg))))), (5, .int (nI 0)), (4, .int (nI i)), (3, .ref o), (2, .ref (u 0)), (1, .ref (z 0)), (0, .ref b)]) hx hb d_L_law_511 hl (by decide) rfl (fun ls hl => ?_)
    refine lv_aload_n hx hb d_L_law_513 rfl (lv_at hl 4 rfl) ?_
    have hPm := hP.sub (ws' := (wM u cI cZ gS1 gK1 gI1 gO1 gF1 gE1 gQ1 yt1 yn1 yr1 ym1 yd1 yk1 yb1 yc1)) [1, 2, 3, 4, 5, 6, 7, 8] rfl
    have hDm := hD.sub (ws' := (wM u cI cZ gS1 gK1 gI1 gO1 gF1 gE1 gQ1 yt1 yn1 yr1 ym1 yd1 yk1 yb1 yc1)) [1, 2, 3, 4, 5, 6, 7, 8] (by decide) rfl
    refine cl_r (v := some (.int (nI yt1))) (W.runV (b := u 0) (C := "TypeStackModel") (As := []) (rest := []) ⟨hx, hb, hml, hown, hw⟩ (c_M_thrown l D u cI cZ gS1 gK1 gI1 gO1 gF1 gE1 gQ1 yt1 yn1 yr1 ym1 yd1 yk1 yb1 yc1 H.size) (cwV 0 hw g_L_74 rfl rfl rfl ⟨rfl, by decide, by decide, by decide +kernel⟩ ⟨by decide, by decide⟩) ⟨PW.blind, va_recv (q := (RM, FM, 15)) (ci := 1) (q0 := 0) hK2 hPm rfl rfl, PW.pre hPm hK2 hDm hS hA hE⟩ rfl rfl hl.1 rfl (lv_room (Nat.le_of_ble_eq_true rfl)) d_L_law_514 ⟨by show _ ≤ 1054; omega, by show _ ≤ 9807; omega⟩) ?_
    refine lv_iload hx hb d_L_law_517 (lv_at hl 1 rfl) ?_
    have hkl : 0 < 2 ^ 31 := by decide
    refine nw_eq hx hb (tgt := 524) d_L_law_519 (by decide) (by omega) hkl (fun h => ?_) (fun h => absurd hyt h)
    refine lv_iload hx hb d_L_law_524 (lv_at hl 1 rfl) ?_
    refine nw_ifne hx hb (tgt := 541) d_L_law_526 (by decide) (by decide) (fun h => absurd h (Nat.lt_irrefl 0)) (fun h => ?_)
    refine lv_aload_n hx hb d_L_law_529 rfl (lv_at hl 3 rfl) ?_
    refine lv_iconst (v := nI 0) hx hb d_L_law_530 (by decide) ?_
    refine va_lald hx hb hK hP 0 2 rfl rfl (i := nI 0) (vp_in_nI (by decide) (by decide)) d_L_law_531 ?_
    refine lv_iload hx hb d_L_law_532 (lv_at hl 0 rfl) ?_
    refine lv_i2l (v := (nI ((hbL (fF (xr - 1)) (fE (xr - 1)) fT 6 ((hbT (fF (xr - 1)) (fE (xr - 1)) fT xh 1).getD 0) (wnt fK fA fB (xr - 1 - (xs (i + 1)).toNatClampNeg))).getD 0 + szL 6 (wnt fK fA fB (xr - 1 - (xs (i + 1)).toNatClampNeg)))).toInt64) hx hb d_L_law_534 (by rw [hB]) ?_
    refine W.lcmp hx hb d_L_law_535 ?_
    refine nw_is (y := nI 0) (lgc _) ?_
    refine nw_ifeq hx hb (tgt := 541) d_L_law_536 (by decide) (by decide) (fun h => ?_) (fun h => absurd h (Nat.lt_irrefl 0))
    refine lv_goto hx hb d_L_law_541 (tgt := 758) (by decide) ?_
    refine W.widen (k := 16 + (j + 1)) (n := 1531 + 6 * (j + 1)) (by omega) (by omega) ?_
    exact kk _ _ _ ⟨(pl fT ((hbL (fF (xr - 1)) (fE (xr - 1)) fT 6 ((hbT (fF (xr - 1)) (fE (xr - 1)) fT xh 1).getD 0) (wnt fK fA fB (xr - 1 - (xs (i + 1)).toNatClampNeg))).getD 0) (szL 6 (wnt fK fA fB (xr - 1 - (xs (i + 1)).toNatClampNeg))) (wnt fK fA fB (xr - 1 - (xs (i + 1)).toNatClampNeg))), fK, fA, fB, fF, fE, (((hbL (fF (xr - 1)) (fE (xr - 1)) fT 6 ((hbT (fF (xr - 1)) (fE (xr - 1)) fT xh 1).getD 0) (wnt fK fA fB (xr - 1 - (xs (i + 1)).toNatClampNeg))).getD 0) + szL 6 (wnt fK fA fB (xr - 1 - (xs (i + 1)).toNatClampNeg))), (max xg (((hbL (fF (xr - 1)) (fE (xr - 1)) fT 6 ((hbT (fF (xr - 1)) (fE (xr - 1)) fT xh 1).getD 0) (wnt fK fA fB (xr - 1 - (xs (i + 1)).toNatClampNeg))).getD 0) + szL 6 (wnt fK fA fB (xr - 1 - (xs (i + 1)).toNatClampNeg)))), xr, (xn + 1), gS1, gK1, gI1, gO1, gF1, gE1, gQ1, yt1, yn1, yr1, ym1, yd1, yk1, yb1, yc1, (vp_updL g 0 (nI ((hbL (fF (xr - 1)) (fE (xr - 1)) fT 6 ((hbT (fF (xr - 1)) (fE (xr - 1)) fT xh 1).getD 0) (wnt fK fA fB (xr - 1 - (xs (i + 1)).toNatClampNeg))).getD 0 + szL 6 (wnt fK fA fB (xr - 1 - (xs (i + 1)).toNatClampNeg)))).toInt64), hi1, hv1, hm1, hrel_, hP, hD, hS⟩ (lv_sub hl [2, 3, 4, 5, 6] rfl)
  · skip
    obtain ⟨hr1, hP1, hD1⟩ := q2 E her
    cases hr1
    rw [ht] at hP1
    obtain ⟨hP, hD⟩ := hJ _ hP1 hD1
    have hP := hP.sub (ws' := ((o, .inl (cL, 1, .inr (.inl g))) :: (wM u cI cZ gS gK gI gO gF gE gQ yt xh xr xg xn yk yb yc ++ wT z cI cZ fT fK fA fB fF fE xh xg xr xn))) [8, 0, 1, 2, 3, 4, 5, 6, 7, 9, 10, 11, 12, 13, 14, 15] rfl
    have hD := hD.sub (ws' := ((o, .inl (cL, 1, .inr (.inl g))) :: (wM u cI cZ gS gK gI gO gF gE gQ yt xh xr xg xn yk yb yc ++ wT z cI cZ fT fK fA fB fF fE xh xg xr xn))) [8, 0, 1, 2, 3, 4, 5, 6, 7, 9, 10, 11, 12, 13, 14, 15] (by decide) rfl
    refine lv_istore (lv' := [(5, .int (nI (cdl [NSE, ISE, AE] E))), (4, .int (nI i)), (3, .ref o), (2, .ref (u 0)), (1, .ref (z 0)), (0, .ref b)]) hx hb d_L_law_499 hl (by decide) rfl (fun ls hl => ?_)
    refine lv_aload_n hx hb d_L_law_501 rfl (lv_at hl 3 rfl) ?_
    refine lv_aload_n hx hb d_L_law_502 rfl (lv_at hl 5 rfl) ?_
    refine lv_iload hx hb d_L_law_503 (lv_at hl 1 rfl) ?_
    refine lv_iconst (v := nI 1) hx hb d_L_law_505 (by decide) ?_
    refine nw_add hx hb d_L_law_506 ?_
    refine nw_sld hx hb hX hbl hbA hS (k := i + 1) (by omega) (by omega) d_L_law_507 ?_
    have hPm := hP.sub (ws' := (wM u cI cZ gS gK gI gO gF gE gQ yt xh xr xg xn yk yb yc)) [1, 2, 3, 4, 5, 6, 7, 8] rfl
    have hDm := hD.sub (ws' := (wM u cI cZ gS gK gI gO gF gE gQ yt xh xr xg xn yk yb yc)) [1, 2, 3, 4, 5, 6, 7, 8] (by decide) rfl
    refine cl_j (Wc := (wM u cI cZ gS gK gI gO gF gE gQ yt xh xr xg xn yk yb yc)) (Wr := ((o, .inl (cL, 1, .inr (.inl g))) :: wT z cI cZ fT fK fA fB fF fE xh xg xr xn)) hP hD hS hA [1, 2, 3, 4, 5, 6, 7, 8] [0, 9, 10, 11, 12, 13, 14, 15] rfl rfl (by decide) (by decide) (va_runV (b := u 0) (C := "TypeStackModel") (As := [.int (xs (i + 1))]) (rest := []) ⟨hx, hb, hml, hown, hw⟩ (c_M_leapIf l D u cI cZ gS gK gI gO gF gE gQ yt xh xr xg xn yk yb yc hm0 (xs (i + 1)) hfl hmo H.size) (cwV 1 hw g_L_105 rfl rfl rfl ⟨rfl, by decide, by decide, by decide +kernel⟩ ⟨by decide, by decide⟩) ⟨PW.blind, va_recv (q := (RM, FM, 15)) (ci := 1) (q0 := 0) hK2 hPm rfl rfl, PW.pre hPm hK2 hDm hS hA hE⟩ rfl rfl hl.1 rfl (lv_room (Nat.le_of_ble_eq_true rfl)) d_L_law_508 ⟨by show _ ≤ 1054; omega, by show _ ≤ 9807; omega⟩) (fun _ _ _ h => h.2) (fun v2 st2 t2 H locs hq ht hJ hS hvm2 => ?_)
    obtain ⟨⟨gS1, gK1, gI1, gO1, gF1, gE1, gQ1, yt1, yn1, yr1, ym1, yd1, yk1, yb1, yc1, v3, hr2, hpo, hm1, hP1, hD1⟩, -⟩ := hq
    cases hr2
    rw [ht] at hP1
    obtain ⟨hP, hD⟩ := hJ _ hP1 hD1
    have hP := hP.sub (ws' := ((o, .inl (cL, 1, .inr (.inl g))) :: (wM u cI cZ gS1 gK1 gI1 gO1 gF1 gE1 gQ1 yt1 yn1 yr1 ym1 yd1 yk1 yb1 yc1 ++ wT z cI cZ fT fK fA fB fF fE xh xg xr xn))) [0, 8, 9, 10, 11, 12, 13, 14, 15, 1, 2, 3, 4, 5, 6, 7] rfl
    have hD := hD.sub (ws' := ((o, .inl (cL, 1, .inr (.inl g))) :: (wM u cI cZ gS1 gK1 gI1 gO1 gF1 gE1 gQ1 yt1 yn1 yr1 ym1 yd1 yk1 yb1 yc1 ++ wT z cI cZ fT fK fA fB fF fE xh xg xr xn))) [0, 8, 9, 10, 11, 12, 13, 14, 15, 1, 2, 3, 4, 5, 6, 7] (by decide) rfl
    obtain ⟨hyt, hvv, hrel⟩ := hpo.2 E ((A_leapIf hT hF (xs (i + 1))).symm.trans her)
    subst hvv
    have hrel_ := rel_t ⟨rfl, rfl, rfl, rfl, hT, hF⟩ hrel
    refine lv_istore (lv' := [(6, .int (nI 0)), (5, .int (nI (cdl [NSE, ISE, AE] E))), (4, .int (nI i)), (3, .ref o), (2, .ref (u 0)), (1, .ref (z 0)), (0, .ref b)]) hx hb d_L_law_511 hl (by decide) rfl (fun ls hl => ?_)
    refine lv_aload_n hx hb d_L_law_513 rfl (lv_at hl 4 rfl) ?_
    have hPm := hP.sub (ws' := (wM u cI cZ gS1 gK1 gI1 gO1 gF1 gE1 gQ1 yt1 yn1 yr1 ym1 yd1 yk1 yb1 yc1)) [1, 2, 3, 4, 5, 6, 7, 8] rfl
    have hDm := hD.sub (ws' := (wM u cI cZ gS1 gK1 gI1 gO1 gF1 gE1 gQ1 yt1 yn1 yr1 ym1 yd1 yk1 yb1 yc1)) [1, 2, 3, 4, 5, 6, 7, 8] (by decide) rfl
    refine cl_r (v := some (.int (nI yt1))) (W.runV (b := u 0) (C := "TypeStackModel") (As := []) (rest := []) ⟨hx, hb, hml, hown, hw⟩ (c_M_thrown l D u cI cZ gS1 gK1 gI1 gO1 gF1 gE1 gQ1 yt1 yn1 yr1 ym1 yd1 yk1 yb1 yc1 H.size) (cwV 0 hw g_L_74 rfl rfl rfl ⟨rfl, by decide, by decide, by decide +kernel⟩ ⟨by decide, by decide⟩) ⟨PW.blind, va_recv (q := (RM, FM, 15)) (ci := 1) (q0 := 0) hK2 hPm rfl rfl, PW.pre hPm hK2 hDm hS hA hE⟩ rfl rfl hl.1 rfl (lv_room (Nat.le_of_ble_eq_true rfl)) d_L_law_514 ⟨by show _ ≤ 1054; omega, by show _ ≤ 9807; omega⟩) ?_
    refine lv_iload hx hb d_L_law_517 (lv_at hl 1 rfl) ?_
    have hkl : cdl [NSE, ISE, AE] E < 2 ^ 31 := Nat.lt_of_le_of_lt (cdl_in _ _) (by decide)
    refine nw_eq hx hb (tgt := 524) d_L_law_519 (by decide) (by omega) hkl (fun h => ?_) (fun h => absurd hyt h)
    refine lv_iload hx hb d_L_law_524 (lv_at hl 1 rfl) ?_
    refine nw_ifne hx hb (tgt := 541) d_L_law_526 (by decide) hkl (fun h => ?_) (fun h => absurd h (Nat.ne_of_gt (cdl_pos _ _ _)))
    refine lv_goto hx hb d_L_law_541 (tgt := 758) (by decide) ?_
    refine W.widen (k := 16 + (j + 1)) (n := 1531 + 6 * (j + 1)) (by omega) (by omega) ?_
    exact kk _ _ _ ⟨fT, fK, fA, fB, fF, fE, xh, xg, xr, xn, gS1, gK1, gI1, gO1, gF1, gE1, gQ1, yt1, yn1, yr1, ym1, yd1, yk1, yb1, yc1, g, hi0, hv0, hm1, hrel_, hP, hD, hS⟩ (lv_sub hl [2, 3, 4, 5, 6] rfl)

set_option maxHeartbeats 1000000 in
set_option maxRecDepth 100000 in
theorem law_table (K : LC l p s m meth c b L xs D cI cZ cL) (hi4 : i + 4 ≤ L) (hL : L ≤ 2048) (hj : j < 512) (hw0 : LW D z u o cI cZ cL s H locs) (hl : lv_has ls 7 [(4, .int (nI i)), (3, .ref o), (2, .ref (u 0)), (1, .ref (z 0)), (0, .ref b)])
    (kk : ∀ (H : Heap) (locs : List Loc) (ls : Array Slot), LW D z u o cI cZ cL s H locs → lv_has ls 7 [(4, .int (nI i)), (3, .ref o), (2, .ref (u 0)), (1, .ref (z 0)), (0, .ref b)] → W p l e room_1 s m #[Value.ref b] below meth c H locs (16 + (j + 1)) (1531 + 6 * (j + 1)) Q (F0 m 758 ls [])) : W p l e room_1 s m #[Value.ref b] below meth c H locs (16 + j) (1531 + 6 * j) Q (F0 m 544 ls []) := by
  obtain ⟨hl0, hx, hb, hml, hown, hw, hX, hbl, hE, hN, hK⟩ := K
  obtain ⟨fT, fK, fA, fB, fF, fE, xh, xg, xr, xn, gS, gK, gI, gO, gF, gE, gQ, yt, yn, yr, ym, yd, yk, yb, yc, g, hi0, hv0, hm0, hrel0, hP, hD, hS⟩ := hw0
  obtain ⟨rfl, rfl, rfl, rfl, hT, hF⟩ := hrel0
  have hA : ∀ q : Nat, s.heap.size ≤ q → (fun q => s.heap.size ≤ q) q := fun q h => h
  have hbA : ¬ (fun q => s.heap.size ≤ q) b := Nat.not_le.mpr hbl
  have hfl : 1 ≤ xr → gF (xr - 1) ≤ xh := fun h => by rw [← (hF (xr - 1) (by omega)).2.2.2.1]; exact hv0.2.1 h
  have hmo : xh ≤ xg := hv0.2.2.2
  have hro : ∀ j, j < xr → gF j + szL 6 (gI j) ≤ 300 := fun j h => by rw [← (hF j h).2.2.2.1, ← (hF j h).2.1]; exact hv0.2.2.1 j h
  have hK2 := hK.sub (tys' := [(cI, .int), (cZ, .boolean)]) [0, 1] rfl
  refine lv_aload_n hx hb d_L_law_544 rfl (lv_at hl 3 rfl) ?_
  refine lv_aload_n hx hb d_L_law_545 rfl (lv_at hl 4 rfl) ?_
  refine lv_iload hx hb d_L_law_546 (lv_at hl 0 rfl) ?_
  refine lv_iconst (v := nI 1) hx hb d_L_law_548 (by decide) ?_
  refine nw_add hx hb d_L_law_549 ?_
  refine nw_sld hx hb hX hbl hbA hS (k := i + 1) (by omega) (by omega) d_L_law_550 ?_
  refine lv_aload_n hx hb d_L_law_551 rfl (lv_at hl 4 rfl) ?_
  refine lv_iload hx hb d_L_law_552 (lv_at hl 0 rfl) ?_
  refine lv_iconst (v := nI 2) hx hb d_L_law_554 (by decide) ?_
  refine nw_add hx hb d_L_law_555 ?_
  refine nw_sld hx hb hX hbl hbA hS (k := i + 2) (by omega) (by omega) d_L_law_556 ?_
  have hPc := hP.sub (ws' := (wT z cI cZ fT fK fA fB fF fE xh xg xr xn)) [9, 10, 11, 12, 13, 14, 15] rfl
  have hDc := hD.sub (ws' := (wT z cI cZ fT fK fA fB fF fE xh xg xr xn)) [9, 10, 11, 12, 13, 14, 15] (by decide) rfl
  refine cl_j (Wc := (wT z cI cZ fT fK fA fB fF fE xh xg xr xn)) (Wr := ((o, .inl (cL, 1, .inr (.inl g))) :: wM u cI cZ gS gK gI gO gF gE gQ yt xh xr xg xn yk yb yc)) hP hD hS hA [9, 10, 11, 12, 13, 14, 15] [0, 1, 2, 3, 4, 5, 6, 7, 8] rfl rfl (by decide) (by decide) (vx_runSW (As := [.ref (z 0), .int (xs (i + 1)), .int (xs (i + 2))]) (rest := []) ⟨hx, hb, hml, hown, hw⟩ (c_L_table l hl0 D z cI cZ fT fK fA fB fF fE xh xg xr xn hi0 (xs (i + 1)) (xs (i + 2)) cL H.size) (vx_cwSW 3 hw g_L_106 rfl rfl rfl ⟨by decide, by decide, by decide +kernel⟩ ⟨by decide, by decide⟩) ⟨PL.blind, PL.pre hPc hK hDc hS hA hE hN⟩ rfl rfl hl.1 rfl (lv_room (Nat.le_of_ble_eq_true rfl)) d_L_law_557 ⟨by show _ ≤ 1054; omega, by show _ ≤ 9807; omega⟩) (fun _ _ _ h => h.2) (fun v1 st1 t1 H locs hq ht hJ hS hvm => ?_)
  obtain ⟨⟨q1, q2⟩, -⟩ := hq
  rcases opt_cs (orE (xf xr (xs (i + 1))) (orE (xf xr (xs (i + 2))) (orE (szE (wnt fK fA fB (xr - 1 - (xs (i + 1)).toNatClampNeg)) (wnt fK fA fB (xr - 1 - (xs (i + 2)).toNatClampNeg))) (orE (xo ISE (hbT (fF (xr - 1)) (fE (xr - 1)) fT xh 1)) (orE (xo ISE (hbL (fF (xr - 1)) (fE (xr - 1)) fT 6 ((hbT (fF (xr - 1)) (fE (xr - 1)) fT xh 1).getD 0) (wnt fK fA fB (xr - 1 - (xs (i + 1)).toNatClampNeg)))) (xo ISE (hbL (fF (xr - 1)) (fE (xr - 1)) fT 6 ((hbT (fF (xr - 1)) (fE (xr - 1)) fT xh 1).getD 0) (wnt fK fA fB (xr - 1 - (xs (i + 2)).toNatClampNeg))))))))) with her | ⟨E, her⟩
  · skip
    obtain ⟨hr1, hP1, hD1⟩ := q1 her
    cases hr1
    rw [ht] at hP1
    obtain ⟨hP, hD⟩ := hJ _ hP1 hD1
    have hP := hP.sub (ws' := ((o, .inl (cL, 1, .inr (.inl g))) :: (wM u cI cZ gS gK gI gO gF gE gQ yt xh xr xg xn yk yb yc ++ wT z cI cZ fT fK fA fB fF (va_up fE (xr - 1) 1) (fF (xr - 1)) xg xr (xn + 1)))) [0, 1, 2, 3, 4, 5, 6, 7, 8, 9, 10, 11, 12, 13, 14, 15] rfl
    have hD := hD.sub (ws' := ((o, .inl (cL, 1, .inr (.inl g))) :: (wM u cI cZ gS gK gI gO gF gE gQ yt xh xr xg xn yk yb yc ++ wT z cI cZ fT fK fA fB fF (va_up fE (xr - 1) 1) (fF (xr - 1)) xg xr (xn + 1)))) [0, 1, 2, 3, 4, 5, 6, 7, 8, 9, 10, 11, 12, 13, 14, 15] (by decide) rfl
    refine lv_istore (lv' := [(5, .int (nI 0)), (4, .int (nI i)), (3, .ref o), (2, .ref (u 0)), (1, .ref (z 0)), (0, .ref b)]) hx hb d_L_law_560 hl (by decide) rfl (fun ls hl => ?_)
    refine lv_aload_n hx hb d_L_law_562 rfl (lv_at hl 3 rfl) ?_
    refine lv_aload_n hx hb d_L_law_563 rfl (lv_at hl 5 rfl) ?_
    refine lv_iload hx hb d_L_law_564 (lv_at hl 1 rfl) ?_
    refine lv_iconst (v := nI 1) hx hb d_L_law_566 (by decide) ?_
    refine nw_add hx hb d_L_law_567 ?_
    refine nw_sld hx hb hX hbl hbA hS (k := i + 1) (by omega) (by omega) d_L_law_568 ?_
    refine lv_aload_n hx hb d_L_law_569 rfl (lv_at hl 5 rfl) ?_
    refine lv_iload hx hb d_L_law_570 (lv_at hl 1 rfl) ?_
    refine lv_iconst (v := nI 2) hx hb d_L_law_572 (by decide) ?_
    refine nw_add hx hb d_L_law_573 ?_
    refine nw_sld hx hb hX hbl hbA hS (k := i + 2) (by omega) (by omega) d_L_law_574 ?_
    have hPm := hP.sub (ws' := (wM u cI cZ gS gK gI gO gF gE gQ yt xh xr xg xn yk yb yc)) [1, 2, 3, 4, 5, 6, 7, 8] rfl
    have hDm := hD.sub (ws' := (wM u cI cZ gS gK gI gO gF gE gQ yt xh xr xg xn yk yb yc)) [1, 2, 3, 4, 5, 6, 7, 8] (by decide) rfl
    refine cl_j (Wc := (wM u cI cZ gS gK gI gO gF gE gQ yt xh xr xg xn yk yb yc)) (Wr := ((o, .inl (cL, 1, .inr (.inl g))) :: wT z cI cZ fT fK fA fB fF (va_up fE (xr - 1) 1) (fF (xr - 1)) xg xr (xn + 1))) hP hD hS hA [1, 2, 3, 4, 5, 6, 7, 8] [0, 9, 10, 11, 12, 13, 14, 15] rfl rfl (by decide) (by decide) (va_runV (b := u 0) (C := "TypeStackModel") (As := [.int (xs (i + 1)), .int (xs (i + 2))]) (rest := []) ⟨hx, hb, hml, hown, hw⟩ (c_M_table l D u cI cZ gS gK gI gO gF gE gQ yt xh xr xg xn yk yb yc hm0 (xs (i + 1)) (xs (i + 2)) hfl hmo H.size) (cwV 2 hw g_L_109 rfl rfl rfl ⟨rfl, by decide, by decide, by decide +kernel⟩ ⟨by decide, by decide⟩) ⟨PW.blind, va_recv (q := (RM, FM, 15)) (ci := 1) (q0 := 0) hK2 hPm rfl rfl, PW.pre hPm hK2 hDm hS hA hE⟩ rfl rfl hl.1 rfl (lv_room (Nat.le_of_ble_eq_true rfl)) d_L_law_575 ⟨by show _ ≤ 1054; omega, by show _ ≤ 9807; omega⟩) (fun _ _ _ h => h.2) (fun v2 st2 t2 H locs hq ht hJ hS hvm2 => ?_)
    obtain ⟨⟨gS1, gK1, gI1, gO1, gF1, gE1, gQ1, yt1, yn1, yr1, ym1, yd1, yk1, yb1, yc1, v3, hr2, hpo, hm1, hP1, hD1⟩, -⟩ := hq
    cases hr2
    rw [ht] at hP1
    obtain ⟨hP, hD⟩ := hJ _ hP1 hD1
    have hP := hP.sub (ws' := ((o, .inl (cL, 1, .inr (.inl g))) :: (wM u cI cZ gS1 gK1 gI1 gO1 gF1 gE1 gQ1 yt1 yn1 yr1 ym1 yd1 yk1 yb1 yc1 ++ wT z cI cZ fT fK fA fB fF (va_up fE (xr - 1) 1) (fF (xr - 1)) xg xr (xn + 1)))) [0, 8, 9, 10, 11, 12, 13, 14, 15, 1, 2, 3, 4, 5, 6, 7] rfl
    have hD := hD.sub (ws' := ((o, .inl (cL, 1, .inr (.inl g))) :: (wM u cI cZ gS1 gK1 gI1 gO1 gF1 gE1 gQ1 yt1 yn1 yr1 ym1 yd1 yk1 yb1 yc1 ++ wT z cI cZ fT fK fA fB fF (va_up fE (xr - 1) 1) (fF (xr - 1)) xg xr (xn + 1)))) [0, 8, 9, 10, 11, 12, 13, 14, 15, 1, 2, 3, 4, 5, 6, 7] (by decide) rfl
    obtain ⟨hyt, hvv, hrel⟩ := hpo.1 ((A_table hT hF (xs (i + 1)) (xs (i + 2))).symm.trans her)
    subst hvv
    obtain ⟨hi1, hv1⟩ := D_table hi0 hv0 (xs (i + 1)) (xs (i + 2)) her
    have hrel_ := rel_t (C_table hT hF hv0.2.1 (xs (i + 1)) (xs (i + 2)) her) hrel
    refine lv_aload_n hx hb d_L_law_578 rfl (lv_at hl 3 rfl) ?_
    have hPm := hP.sub (ws' := (wM u cI cZ gS1 gK1 gI1 gO1 gF1 gE1 gQ1 yt1 yn1 yr1 ym1 yd1 yk1 yb1 yc1)) [1, 2, 3, 4, 5, 6, 7, 8] rfl
    have hDm := hD.sub (ws' := (wM u cI cZ gS1 gK1 gI1 gO1 gF1 gE1 gQ1 yt1 yn1 yr1 ym1 yd1 yk1 yb1 yc1)) [1, 2, 3, 4, 5, 6, 7, 8] (by decide) rfl
    refine cl_r (v := some (.int (nI yt1))) (W.runV (b := u 0) (C := "TypeStackModel") (As := []) (rest := []) ⟨hx, hb, hml, hown, hw⟩ (c_M_thrown l D u cI cZ gS1 gK1 gI1 gO1 gF1 gE1 gQ1 yt1 yn1 yr1 ym1 yd1 yk1 yb1 yc1 H.size) (cwV 0 hw g_L_74 rfl rfl rfl ⟨rfl, by decide, by decide, by decide +kernel⟩ ⟨by decide, by decide⟩) ⟨PW.blind, va_recv (q := (RM, FM, 15)) (ci := 1) (q0 := 0) hK2 hPm rfl rfl, PW.pre hPm hK2 hDm hS hA hE⟩ rfl rfl hl.1 rfl (lv_room (Nat.le_of_ble_eq_true rfl)) d_L_law_579 ⟨by show _ ≤ 1054; omega, by show _ ≤ 9807; omega⟩) ?_
    refine lv_iload hx hb d_L_law_582 (lv_at hl 0 rfl) ?_
    have hkl : 0 < 2 ^ 31 := by decide
    refine nw_eq hx hb (tgt := 589) d_L_law_584 (by decide) (by omega) hkl (fun h => ?_) (fun h => absurd hyt h)
    refine lv_goto hx hb d_L_law_589 (tgt := 758) (by decide) ?_
    refine W.widen (k := 16 + (j + 1)) (n := 1531 + 6 * (j + 1)) (by omega) (by omega) ?_
    exact kk _ _ _ ⟨fT, fK, fA, fB, fF, (va_up fE (xr - 1) 1), (fF (xr - 1)), xg, xr, (xn + 1), gS1, gK1, gI1, gO1, gF1, gE1, gQ1, yt1, yn1, yr1, ym1, yd1, yk1, yb1, yc1, g, hi1, hv1, hm1, hrel_, hP, hD, hS⟩ (lv_sub hl [1, 2, 3, 4, 5] rfl)
  · skip
    obtain ⟨hr1, hP1, hD1⟩ := q2 E her
    cases hr1
    rw [ht] at hP1
    obtain ⟨hP, hD⟩ := hJ _ hP1 hD1
    have hP := hP.sub (ws' := ((o, .inl (cL, 1, .inr (.inl g))) :: (wM u cI cZ gS gK gI gO gF gE gQ yt xh xr xg xn yk yb yc ++ wT z cI cZ fT fK fA fB fF fE xh xg xr xn))) [0, 1, 2, 3, 4, 5, 6, 7, 8, 9, 10, 11, 12, 13, 14, 15] rfl
    have hD := hD.sub (ws' := ((o, .inl (cL, 1, .inr (.inl g))) :: (wM u cI cZ gS gK gI gO gF gE gQ yt xh xr xg xn yk yb yc ++ wT z cI cZ fT fK fA fB fF fE xh xg xr xn))) [0, 1, 2, 3, 4, 5, 6, 7, 8, 9, 10, 11, 12, 13, 14, 15] (by decide) rfl
    refine lv_istore (lv' := [(5, .int (nI (cdl [NSE, UOE, ISE] E))), (4, .int (nI i)), (3, .ref o), (2, .ref (u 0)), (1, .ref (z 0)), (0, .ref b)]) hx hb d_L_law_560 hl (by decide) rfl (fun ls hl => ?_)
    refine lv_aload_n hx hb d_L_law_562 rfl (lv_at hl 3 rfl) ?_
    refine lv_aload_n hx hb d_L_law_563 rfl (lv_at hl 5 rfl) ?_
    refine lv_iload hx hb d_L_law_564 (lv_at hl 1 rfl) ?_
    refine lv_iconst (v := nI 1) hx hb d_L_law_566 (by decide) ?_
    refine nw_add hx hb d_L_law_567 ?_
    refine nw_sld hx hb hX hbl hbA hS (k := i + 1) (by omega) (by omega) d_L_law_568 ?_
    refine lv_aload_n hx hb d_L_law_569 rfl (lv_at hl 5 rfl) ?_
    refine lv_iload hx hb d_L_law_570 (lv_at hl 1 rfl) ?_
    refine lv_iconst (v := nI 2) hx hb d_L_law_572 (by decide) ?_
    refine nw_add hx hb d_L_law_573 ?_
    refine nw_sld hx hb hX hbl hbA hS (k := i + 2) (by omega) (by omega) d_L_law_574 ?_
    have hPm := hP.sub (ws' := (wM u cI cZ gS gK gI gO gF gE gQ yt xh xr xg xn yk yb yc)) [1, 2, 3, 4, 5, 6, 7, 8] rfl
    have hDm := hD.sub (ws' := (wM u cI cZ gS gK gI gO gF gE gQ yt xh xr xg xn yk yb yc)) [1, 2, 3, 4, 5, 6, 7, 8] (by decide) rfl
    refine cl_j (Wc := (wM u cI cZ gS gK gI gO gF gE gQ yt xh xr xg xn yk yb yc)) (Wr := ((o, .inl (cL, 1, .inr (.inl g))) :: wT z cI cZ fT fK fA fB fF fE xh xg xr xn)) hP hD hS hA [1, 2, 3, 4, 5, 6, 7, 8] [0, 9, 10, 11, 12, 13, 14, 15] rfl rfl (by decide) (by decide) (va_runV (b := u 0) (C := "TypeStackModel") (As := [.int (xs (i + 1)), .int (xs (i + 2))]) (rest := []) ⟨hx, hb, hml, hown, hw⟩ (c_M_table l D u cI cZ gS gK gI gO gF gE gQ yt xh xr xg xn yk yb yc hm0 (xs (i + 1)) (xs (i + 2)) hfl hmo H.size) (cwV 2 hw g_L_109 rfl rfl rfl ⟨rfl, by decide, by decide, by decide +kernel⟩ ⟨by decide, by decide⟩) ⟨PW.blind, va_recv (q := (RM, FM, 15)) (ci := 1) (q0 := 0) hK2 hPm rfl rfl, PW.pre hPm hK2 hDm hS hA hE⟩ rfl rfl hl.1 rfl (lv_room (Nat.le_of_ble_eq_true rfl)) d_L_law_575 ⟨by show _ ≤ 1054; omega, by show _ ≤ 9807; omega⟩) (fun _ _ _ h => h.2) (fun v2 st2 t2 H locs hq ht hJ hS hvm2 => ?_)
    obtain ⟨⟨gS1, gK1, gI1, gO1, gF1, gE1, gQ1, yt1, yn1, yr1, ym1, yd1, yk1, yb1, yc1, v3, hr2, hpo, hm1, hP1, hD1⟩, -⟩ := hq
    cases hr2
    rw [ht] at hP1
    obtain ⟨hP, hD⟩ := hJ _ hP1 hD1
    have hP := hP.sub (ws' := ((o, .inl (cL, 1, .inr (.inl g))) :: (wM u cI cZ gS1 gK1 gI1 gO1 gF1 gE1 gQ1 yt1 yn1 yr1 ym1 yd1 yk1 yb1 yc1 ++ wT z cI cZ fT fK fA fB fF fE xh xg xr xn))) [0, 8, 9, 10, 11, 12, 13, 14, 15, 1, 2, 3, 4, 5, 6, 7] rfl
    have hD := hD.sub (ws' := ((o, .inl (cL, 1, .inr (.inl g))) :: (wM u cI cZ gS1 gK1 gI1 gO1 gF1 gE1 gQ1 yt1 yn1 yr1 ym1 yd1 yk1 yb1 yc1 ++ wT z cI cZ fT fK fA fB fF fE xh xg xr xn))) [0, 8, 9, 10, 11, 12, 13, 14, 15, 1, 2, 3, 4, 5, 6, 7] (by decide) rfl
    obtain ⟨hyt, hvv, hrel⟩ := hpo.2 E ((A_table hT hF (xs (i + 1)) (xs (i + 2))).symm.trans her)
    subst hvv
    have hrel_ := rel_t ⟨rfl, rfl, rfl, rfl, hT, hF⟩ hrel
    refine lv_aload_n hx hb d_L_law_578 rfl (lv_at hl 3 rfl) ?_
    have hPm := hP.sub (ws' := (wM u cI cZ gS1 gK1 gI1 gO1 gF1 gE1 gQ1 yt1 yn1 yr1 ym1 yd1 yk1 yb1 yc1)) [1, 2, 3, 4, 5, 6, 7, 8] rfl
    have hDm := hD.sub (ws' := (wM u cI cZ gS1 gK1 gI1 gO1 gF1 gE1 gQ1 yt1 yn1 yr1 ym1 yd1 yk1 yb1 yc1)) [1, 2, 3, 4, 5, 6, 7, 8] (by decide) rfl
    refine cl_r (v := some (.int (nI yt1))) (W.runV (b := u 0) (C := "TypeStackModel") (As := []) (rest := []) ⟨hx, hb, hml, hown, hw⟩ (c_M_thrown l D u cI cZ gS1 gK1 gI1 gO1 gF1 gE1 gQ1 yt1 yn1 yr1 ym1 yd1 yk1 yb1 yc1 H.size) (cwV 0 hw g_L_74 rfl rfl rfl ⟨rfl, by decide, by decide, by decide +kernel⟩ ⟨by decide, by decide⟩) ⟨PW.blind, va_recv (q := (RM, FM, 15)) (ci := 1) (q0 := 0) hK2 hPm rfl rfl, PW.pre hPm hK2 hDm hS hA hE⟩ rfl rfl hl.1 rfl (lv_room (Nat.le_of_ble_eq_true rfl)) d_L_law_579 ⟨by show _ ≤ 1054; omega, by show _ ≤ 9807; omega⟩) ?_
    refine lv_iload hx hb d_L_law_582 (lv_at hl 0 rfl) ?_
    have hkl : cdl [NSE, UOE, ISE] E < 2 ^ 31 := Nat.lt_of_le_of_lt (cdl_in _ _) (by decide)
    refine nw_eq hx hb (tgt := 589) d_L_law_584 (by decide) (by omega) hkl (fun h => ?_) (fun h => absurd hyt h)
    refine lv_goto hx hb d_L_law_589 (tgt := 758) (by decide) ?_
    refine W.widen (k := 16 + (j + 1)) (n := 1531 + 6 * (j + 1)) (by omega) (by omega) ?_
    exact kk _ _ _ ⟨fT, fK, fA, fB, fF, fE, xh, xg, xr, xn, gS1, gK1, gI1, gO1, gF1, gE1, gQ1, yt1, yn1, yr1, ym1, yd1, yk1, yb1, yc1, g, hi0, hv0, hm1, hrel_, hP, hD, hS⟩ (lv_sub hl [1, 2, 3, 4, 5] rfl)

set_option maxHeartbeats 1000000 in
set_option maxRecDepth 100000 in
theorem law_back (K : LC l p s m meth c b L xs D cI cZ cL) (hi4 : i + 4 ≤ L) (hL : L ≤ 2048) (hj : j < 512) (hw0 : LW D z u o cI cZ cL s H locs) (hl : lv_has ls 7 [(4, .int (nI i)), (3, .ref o), (2, .ref (u 0)), (1, .ref (z 0)), (0, .ref b)])
    (kk : ∀ (H : Heap) (locs : List Loc) (ls : Array Slot), LW D z u o cI cZ cL s H locs → lv_has ls 7 [(4, .int (nI i)), (3, .ref o), (2, .ref (u 0)), (1, .ref (z 0)), (0, .ref b)] → W p l e room_1 s m #[Value.ref b] below meth c H locs (16 + (j + 1)) (1531 + 6 * (j + 1)) Q (F0 m 758 ls [])) : W p l e room_1 s m #[Value.ref b] below meth c H locs (16 + j) (1531 + 6 * j) Q (F0 m 592 ls []) := by
  obtain ⟨hl0, hx, hb, hml, hown, hw, hX, hbl, hE, hN, hK⟩ := K
  obtain ⟨fT, fK, fA, fB, fF, fE, xh, xg, xr, xn, gS, gK, gI, gO, gF, gE, gQ, yt, yn, yr, ym, yd, yk, yb, yc, g, hi0, hv0, hm0, hrel0, hP, hD, hS⟩ := hw0
  obtain ⟨rfl, rfl, rfl, rfl, hT, hF⟩ := hrel0
  have hA : ∀ q : Nat, s.heap.size ≤ q → (fun q => s.heap.size ≤ q) q := fun q h => h
  have hbA : ¬ (fun q => s.heap.size ≤ q) b := Nat.not_le.mpr hbl
  have hfl : 1 ≤ xr → gF (xr - 1) ≤ xh := fun h => by rw [← (hF (xr - 1) (by omega)).2.2.2.1]; exact hv0.2.1 h
  have hmo : xh ≤ xg := hv0.2.2.2
  have hro : ∀ j, j < xr → gF j + szL 6 (gI j) ≤ 300 := fun j h => by rw [← (hF j h).2.2.2.1, ← (hF j h).2.1]; exact hv0.2.2.1 j h
  have hK2 := hK.sub (tys' := [(cI, .int), (cZ, .boolean)]) [0, 1] rfl
  refine lv_aload_n hx hb d_L_law_592 rfl (lv_at hl 3 rfl) ?_
  have hPc := hP.sub (ws' := (wT z cI cZ fT fK fA fB fF fE xh xg xr xn)) [9, 10, 11, 12, 13, 14, 15] rfl
  have hDc := hD.sub (ws' := (wT z cI cZ fT fK fA fB fF fE xh xg xr xn)) [9, 10, 11, 12, 13, 14, 15] (by decide) rfl
  refine cl_j (Wc := (wT z cI cZ fT fK fA fB fF fE xh xg xr xn)) (Wr := ((o, .inl (cL, 1, .inr (.inl g))) :: wM u cI cZ gS gK gI gO gF gE gQ yt xh xr xg xn yk yb yc)) hP hD hS hA [9, 10, 11, 12, 13, 14, 15] [0, 1, 2, 3, 4, 5, 6, 7, 8] rfl rfl (by decide) (by decide) (vx_runSW (As := [.ref (z 0)]) (rest := []) ⟨hx, hb, hml, hown, hw⟩ (c_L_back l hl0 D z cI cZ fT fK fA fB fF fE xh xg xr xn hi0 cL H.size) (vx_cwSW 1 hw g_L_110 rfl rfl rfl ⟨by decide, by decide, by decide +kernel⟩ ⟨by decide, by decide⟩) ⟨PL.blind, PL.pre hPc hK hDc hS hA hE hN⟩ rfl rfl hl.1 rfl (lv_room (Nat.le_of_ble_eq_true rfl)) d_L_law_593 ⟨by show _ ≤ 1054; omega, by show _ ≤ 9807; omega⟩) (fun _ _ _ h => h.2) (fun v1 st1 t1 H locs hq ht hJ hS hvm => ?_)
  obtain ⟨⟨q1, q2⟩, -⟩ := hq
  rcases opt_cs (orE (nf xr) (xo ISE (hbL (fF (xr - 1)) (fE (xr - 1)) fT 6 xh (fB 0)))) with her | ⟨E, her⟩
  · skip
    obtain ⟨hr1, hP1, hD1⟩ := q1 her
    cases hr1
    rw [ht] at hP1
    obtain ⟨hP, hD⟩ := hJ _ hP1 hD1
    have hP := hP.sub (ws' := ((o, .inl (cL, 1, .inr (.inl g))) :: (wM u cI cZ gS gK gI gO gF gE gQ yt xh xr xg xn yk yb yc ++ wT z cI cZ fT fK fA fB fF (va_up fE (xr - 1) 1) (fF (xr - 1)) xg xr (xn + 1)))) [0, 1, 2, 3, 4, 5, 6, 7, 8, 9, 10, 11, 12, 13, 14, 15] rfl
    have hD := hD.sub (ws' := ((o, .inl (cL, 1, .inr (.inl g))) :: (wM u cI cZ gS gK gI gO gF gE gQ yt xh xr xg xn yk yb yc ++ wT z cI cZ fT fK fA fB fF (va_up fE (xr - 1) 1) (fF (xr - 1)) xg xr (xn + 1)))) [0, 1, 2, 3, 4, 5, 6, 7, 8, 9, 10, 11, 12, 13, 14, 15] (by decide) rfl
    refine lv_istore (lv' := [(5, .int (nI 0)), (4, .int (nI i)), (3, .ref o), (2, .ref (u 0)), (1, .ref (z 0)), (0, .ref b)]) hx hb d_L_law_596 hl (by decide) rfl (fun ls hl => ?_)
    refine lv_aload_n hx hb d_L_law_598 rfl (lv_at hl 3 rfl) ?_
    have hPm := hP.sub (ws' := (wM u cI cZ gS gK gI gO gF gE gQ yt xh xr xg xn yk yb yc)) [1, 2, 3, 4, 5, 6, 7, 8] rfl
    have hDm := hD.sub (ws' := (wM u cI cZ gS gK gI gO gF gE gQ yt xh xr xg xn yk yb yc)) [1, 2, 3, 4, 5, 6, 7, 8] (by decide) rfl
    refine cl_j (Wc := (wM u cI cZ gS gK gI gO gF gE gQ yt xh xr xg xn yk yb yc)) (Wr := ((o, .inl (cL, 1, .inr (.inl g))) :: wT z cI cZ fT fK fA fB fF (va_up fE (xr - 1) 1) (fF (xr - 1)) xg xr (xn + 1))) hP hD hS hA [1, 2, 3, 4, 5, 6, 7, 8] [0, 9, 10, 11, 12, 13, 14, 15] rfl rfl (by decide) (by decide) (va_runV (b := u 0) (C := "TypeStackModel") (As := []) (rest := []) ⟨hx, hb, hml, hown, hw⟩ (c_M_back l D u cI cZ gS gK gI gO gF gE gQ yt xh xr xg xn yk yb yc hm0 hfl hmo H.size) (cwV 0 hw g_L_112 rfl rfl rfl ⟨rfl, by decide, by decide, by decide +kernel⟩ ⟨by decide, by decide⟩) ⟨PW.blind, va_recv (q := (RM, FM, 15)) (ci := 1) (q0 := 0) hK2 hPm rfl rfl, PW.pre hPm hK2 hDm hS hA hE⟩ rfl rfl hl.1 rfl (lv_room (Nat.le_of_ble_eq_true rfl)) d_L_law_599 ⟨by show _ ≤ 1054; omega, by show _ ≤ 9807; omega⟩) (fun _ _ _ h => h.2) (fun v2 st2 t2 H locs hq ht hJ hS hvm2 => ?_)
    obtain ⟨⟨gS1, gK1, gI1, gO1, gF1, gE1, gQ1, yt1, yn1, yr1, ym1, yd1, yk1, yb1, yc1, v3, hr2, hpo, hm1, hP1, hD1⟩, -⟩ := hq
    cases hr2
    rw [ht] at hP1
    obtain ⟨hP, hD⟩ := hJ _ hP1 hD1
    have hP := hP.sub (ws' := ((o, .inl (cL, 1, .inr (.inl g))) :: (wM u cI cZ gS1 gK1 gI1 gO1 gF1 gE1 gQ1 yt1 yn1 yr1 ym1 yd1 yk1 yb1 yc1 ++ wT z cI cZ fT fK fA fB fF (va_up fE (xr - 1) 1) (fF (xr - 1)) xg xr (xn + 1)))) [0, 8, 9, 10, 11, 12, 13, 14, 15, 1, 2, 3, 4, 5, 6, 7] rfl
    have hD := hD.sub (ws' := ((o, .inl (cL, 1, .inr (.inl g))) :: (wM u cI cZ gS1 gK1 gI1 gO1 gF1 gE1 gQ1 yt1 yn1 yr1 ym1 yd1 yk1 yb1 yc1 ++ wT z cI cZ fT fK fA fB fF (va_up fE (xr - 1) 1) (fF (xr - 1)) xg xr (xn + 1)))) [0, 8, 9, 10, 11, 12, 13, 14, 15, 1, 2, 3, 4, 5, 6, 7] (by decide) rfl
    obtain ⟨hyt, hvv, hrel⟩ := hpo.1 ((A_back hT hF).symm.trans her)
    subst hvv
    obtain ⟨hi1, hv1⟩ := D_back hi0 hv0 her
    have hrel_ := rel_t (C_back hT hF hv0.2.1 her) hrel
    refine lv_aload_n hx hb d_L_law_602 rfl (lv_at hl 3 rfl) ?_
    have hPm := hP.sub (ws' := (wM u cI cZ gS1 gK1 gI1 gO1 gF1 gE1 gQ1 yt1 yn1 yr1 ym1 yd1 yk1 yb1 yc1)) [1, 2, 3, 4, 5, 6, 7, 8] rfl
    have hDm := hD.sub (ws' := (wM u cI cZ gS1 gK1 gI1 gO1 gF1 gE1 gQ1 yt1 yn1 yr1 ym1 yd1 yk1 yb1 yc1)) [1, 2, 3, 4, 5, 6, 7, 8] (by decide) rfl
    refine cl_r (v := some (.int (nI yt1))) (W.runV (b := u 0) (C := "TypeStackModel") (As := []) (rest := []) ⟨hx, hb, hml, hown, hw⟩ (c_M_thrown l D u cI cZ gS1 gK1 gI1 gO1 gF1 gE1 gQ1 yt1 yn1 yr1 ym1 yd1 yk1 yb1 yc1 H.size) (cwV 0 hw g_L_74 rfl rfl rfl ⟨rfl, by decide, by decide, by decide +kernel⟩ ⟨by decide, by decide⟩) ⟨PW.blind, va_recv (q := (RM, FM, 15)) (ci := 1) (q0 := 0) hK2 hPm rfl rfl, PW.pre hPm hK2 hDm hS hA hE⟩ rfl rfl hl.1 rfl (lv_room (Nat.le_of_ble_eq_true rfl)) d_L_law_603 ⟨by show _ ≤ 1054; omega, by show _ ≤ 9807; omega⟩) ?_
    refine lv_iload hx hb d_L_law_606 (lv_at hl 0 rfl) ?_
    have hkl : 0 < 2 ^ 31 := by decide
    refine nw_eq hx hb (tgt := 613) d_L_law_608 (by decide) (by omega) hkl (fun h => ?_) (fun h => absurd hyt h)
    refine lv_goto hx hb d_L_law_613 (tgt := 758) (by decide) ?_
    refine W.widen (k := 16 + (j + 1)) (n := 1531 + 6 * (j + 1)) (by omega) (by omega) ?_
    exact kk _ _ _ ⟨fT, fK, fA, fB, fF, (va_up fE (xr - 1) 1), (fF (xr - 1)), xg, xr, (xn + 1), gS1, gK1, gI1, gO1, gF1, gE1, gQ1, yt1, yn1, yr1, ym1, yd1, yk1, yb1, yc1, g, hi1, hv1, hm1, hrel_, hP, hD, hS⟩ (lv_sub hl [1, 2, 3, 4, 5] rfl)
  · skip
    obtain ⟨hr1, hP1, hD1⟩ := q2 E her
    cases hr1
    rw [ht] at hP1
    obtain ⟨hP, hD⟩ := hJ _ hP1 hD1
    have hP := hP.sub (ws' := ((o, .inl (cL, 1, .inr (.inl g))) :: (wM u cI cZ gS gK gI gO gF gE gQ yt xh xr xg xn yk yb yc ++ wT z cI cZ fT fK fA fB fF fE xh xg xr xn))) [0, 1, 2, 3, 4, 5, 6, 7, 8, 9, 10, 11, 12, 13, 14, 15] rfl
    have hD := hD.sub (ws' := ((o, .inl (cL, 1, .inr (.inl g))) :: (wM u cI cZ gS gK gI gO gF gE gQ yt xh xr xg xn yk yb yc ++ wT z cI cZ fT fK fA fB fF fE xh xg xr xn))) [0, 1, 2, 3, 4, 5, 6, 7, 8, 9, 10, 11, 12, 13, 14, 15] (by decide) rfl
    refine lv_istore (lv' := [(5, .int (nI (cdl [NSE, ISE] E))), (4, .int (nI i)), (3, .ref o), (2, .ref (u 0)), (1, .ref (z 0)), (0, .ref b)]) hx hb d_L_law_596 hl (by decide) rfl (fun ls hl => ?_)
    refine lv_aload_n hx hb d_L_law_598 rfl (lv_at hl 3 rfl) ?_
    have hPm := hP.sub (ws' := (wM u cI cZ gS gK gI gO gF gE gQ yt xh xr xg xn yk yb yc)) [1, 2, 3, 4, 5, 6, 7, 8] rfl
    have hDm := hD.sub (ws' := (wM u cI cZ gS gK gI gO gF gE gQ yt xh xr xg xn yk yb yc)) [1, 2, 3, 4, 5, 6, 7, 8] (by decide) rfl
    refine cl_j (Wc := (wM u cI cZ gS gK gI gO gF gE gQ yt xh xr xg xn yk yb yc)) (Wr := ((o, .inl (cL, 1, .inr (.inl g))) :: wT z cI cZ fT fK fA fB fF fE xh xg xr xn)) hP hD hS hA [1, 2, 3, 4, 5, 6, 7, 8] [0, 9, 10, 11, 12, 13, 14, 15] rfl rfl (by decide) (by decide) (va_runV (b := u 0) (C := "TypeStackModel") (As := []) (rest := []) ⟨hx, hb, hml, hown, hw⟩ (c_M_back l D u cI cZ gS gK gI gO gF gE gQ yt xh xr xg xn yk yb yc hm0 hfl hmo H.size) (cwV 0 hw g_L_112 rfl rfl rfl ⟨rfl, by decide, by decide, by decide +kernel⟩ ⟨by decide, by decide⟩) ⟨PW.blind, va_recv (q := (RM, FM, 15)) (ci := 1) (q0 := 0) hK2 hPm rfl rfl, PW.pre hPm hK2 hDm hS hA hE⟩ rfl rfl hl.1 rfl (lv_room (Nat.le_of_ble_eq_true rfl)) d_L_law_599 ⟨by show _ ≤ 1054; omega, by show _ ≤ 9807; omega⟩) (fun _ _ _ h => h.2) (fun v2 st2 t2 H locs hq ht hJ hS hvm2 => ?_)
    obtain ⟨⟨gS1, gK1, gI1, gO1, gF1, gE1, gQ1, yt1, yn1, yr1, ym1, yd1, yk1, yb1, yc1, v3, hr2, hpo, hm1, hP1, hD1⟩, -⟩ := hq
    cases hr2
    rw [ht] at hP1
    obtain ⟨hP, hD⟩ := hJ _ hP1 hD1
    have hP := hP.sub (ws' := ((o, .inl (cL, 1, .inr (.inl g))) :: (wM u cI cZ gS1 gK1 gI1 gO1 gF1 gE1 gQ1 yt1 yn1 yr1 ym1 yd1 yk1 yb1 yc1 ++ wT z cI cZ fT fK fA fB fF fE xh xg xr xn))) [0, 8, 9, 10, 11, 12, 13, 14, 15, 1, 2, 3, 4, 5, 6, 7] rfl
    have hD := hD.sub (ws' := ((o, .inl (cL, 1, .inr (.inl g))) :: (wM u cI cZ gS1 gK1 gI1 gO1 gF1 gE1 gQ1 yt1 yn1 yr1 ym1 yd1 yk1 yb1 yc1 ++ wT z cI cZ fT fK fA fB fF fE xh xg xr xn))) [0, 8, 9, 10, 11, 12, 13, 14, 15, 1, 2, 3, 4, 5, 6, 7] (by decide) rfl
    obtain ⟨hyt, hvv, hrel⟩ := hpo.2 E ((A_back hT hF).symm.trans her)
    subst hvv
    have hrel_ := rel_t ⟨rfl, rfl, rfl, rfl, hT, hF⟩ hrel
    refine lv_aload_n hx hb d_L_law_602 rfl (lv_at hl 3 rfl) ?_
    have hPm := hP.sub (ws' := (wM u cI cZ gS1 gK1 gI1 gO1 gF1 gE1 gQ1 yt1 yn1 yr1 ym1 yd1 yk1 yb1 yc1)) [1, 2, 3, 4, 5, 6, 7, 8] rfl
    have hDm := hD.sub (ws' := (wM u cI cZ gS1 gK1 gI1 gO1 gF1 gE1 gQ1 yt1 yn1 yr1 ym1 yd1 yk1 yb1 yc1)) [1, 2, 3, 4, 5, 6, 7, 8] (by decide) rfl
    refine cl_r (v := some (.int (nI yt1))) (W.runV (b := u 0) (C := "TypeStackModel") (As := []) (rest := []) ⟨hx, hb, hml, hown, hw⟩ (c_M_thrown l D u cI cZ gS1 gK1 gI1 gO1 gF1 gE1 gQ1 yt1 yn1 yr1 ym1 yd1 yk1 yb1 yc1 H.size) (cwV 0 hw g_L_74 rfl rfl rfl ⟨rfl, by decide, by decide, by decide +kernel⟩ ⟨by decide, by decide⟩) ⟨PW.blind, va_recv (q := (RM, FM, 15)) (ci := 1) (q0 := 0) hK2 hPm rfl rfl, PW.pre hPm hK2 hDm hS hA hE⟩ rfl rfl hl.1 rfl (lv_room (Nat.le_of_ble_eq_true rfl)) d_L_law_603 ⟨by show _ ≤ 1054; omega, by show _ ≤ 9807; omega⟩) ?_
    refine lv_iload hx hb d_L_law_606 (lv_at hl 0 rfl) ?_
    have hkl : cdl [NSE, ISE] E < 2 ^ 31 := Nat.lt_of_le_of_lt (cdl_in _ _) (by decide)
    refine nw_eq hx hb (tgt := 613) d_L_law_608 (by decide) (by omega) hkl (fun h => ?_) (fun h => absurd hyt h)
    refine lv_goto hx hb d_L_law_613 (tgt := 758) (by decide) ?_
    refine W.widen (k := 16 + (j + 1)) (n := 1531 + 6 * (j + 1)) (by omega) (by omega) ?_
    exact kk _ _ _ ⟨fT, fK, fA, fB, fF, fE, xh, xg, xr, xn, gS1, gK1, gI1, gO1, gF1, gE1, gQ1, yt1, yn1, yr1, ym1, yd1, yk1, yb1, yc1, g, hi0, hv0, hm1, hrel_, hP, hD, hS⟩ (lv_sub hl [1, 2, 3, 4, 5] rfl)

set_option maxHeartbeats 1000000 in
set_option maxRecDepth 100000 in
theorem law_never (K : LC l p s m meth c b L xs D cI cZ cL) (hi4 : i + 4 ≤ L) (hL : L ≤ 2048) (hj : j < 512) (hw0 : LW D z u o cI cZ cL s H locs) (hl : lv_has ls 7 [(4, .int (nI i)), (3, .ref o), (2, .ref (u 0)), (1, .ref (z 0)), (0, .ref b)])
    (kk : ∀ (H : Heap) (locs : List Loc) (ls : Array Slot), LW D z u o cI cZ cL s H locs → lv_has ls 7 [(4, .int (nI i)), (3, .ref o), (2, .ref (u 0)), (1, .ref (z 0)), (0, .ref b)] → W p l e room_1 s m #[Value.ref b] below meth c H locs (16 + (j + 1)) (1531 + 6 * (j + 1)) Q (F0 m 758 ls [])) : W p l e room_1 s m #[Value.ref b] below meth c H locs (16 + j) (1531 + 6 * j) Q (F0 m 616 ls []) := by
  obtain ⟨hl0, hx, hb, hml, hown, hw, hX, hbl, hE, hN, hK⟩ := K
  obtain ⟨fT, fK, fA, fB, fF, fE, xh, xg, xr, xn, gS, gK, gI, gO, gF, gE, gQ, yt, yn, yr, ym, yd, yk, yb, yc, g, hi0, hv0, hm0, hrel0, hP, hD, hS⟩ := hw0
  obtain ⟨rfl, rfl, rfl, rfl, hT, hF⟩ := hrel0
  have hA : ∀ q : Nat, s.heap.size ≤ q → (fun q => s.heap.size ≤ q) q := fun q h => h
  have hbA : ¬ (fun q => s.heap.size ≤ q) b := Nat.not_le.mpr hbl
  have hfl : 1 ≤ xr → gF (xr - 1) ≤ xh := fun h => by rw [← (hF (xr - 1) (by omega)).2.2.2.1]; exact hv0.2.1 h
  have hmo : xh ≤ xg := hv0.2.2.2
  have hro : ∀ j, j < xr → gF j + szL 6 (gI j) ≤ 300 := fun j h => by rw [← (hF j h).2.2.2.1, ← (hF j h).2.1]; exact hv0.2.2.1 j h
  have hK2 := hK.sub (tys' := [(cI, .int), (cZ, .boolean)]) [0, 1] rfl
  refine lv_aload_n hx hb d_L_law_616 rfl (lv_at hl 3 rfl) ?_
  have hPc := hP.sub (ws' := (wT z cI cZ fT fK fA fB fF fE xh xg xr xn)) [9, 10, 11, 12, 13, 14, 15] rfl
  have hDc := hD.sub (ws' := (wT z cI cZ fT fK fA fB fF fE xh xg xr xn)) [9, 10, 11, 12, 13, 14, 15] (by decide) rfl
  refine cl_j (Wc := (wT z cI cZ fT fK fA fB fF fE xh xg xr xn)) (Wr := ((o, .inl (cL, 1, .inr (.inl g))) :: wM u cI cZ gS gK gI gO gF gE gQ yt xh xr xg xn yk yb yc)) hP hD hS hA [9, 10, 11, 12, 13, 14, 15] [0, 1, 2, 3, 4, 5, 6, 7, 8] rfl rfl (by decide) (by decide) (vx_runSW (As := [.ref (z 0)]) (rest := []) ⟨hx, hb, hml, hown, hw⟩ (c_L_never l hl0 D z cI cZ fT fK fA fB fF fE xh xg xr xn hi0 cL H.size) (vx_cwSW 1 hw g_L_113 rfl rfl rfl ⟨by decide, by decide, by decide +kernel⟩ ⟨by decide, by decide⟩) ⟨PL.blind, PL.pre hPc hK hDc hS hA hE hN⟩ rfl rfl hl.1 rfl (lv_room (Nat.le_of_ble_eq_true rfl)) d_L_law_617 ⟨by show _ ≤ 1054; omega, by show _ ≤ 9807; omega⟩) (fun _ _ _ h => h.2) (fun v1 st1 t1 H locs hq ht hJ hS hvm => ?_)
  obtain ⟨⟨q1, q2⟩, -⟩ := hq
  rcases opt_cs (nf xr) with her | ⟨E, her⟩
  · skip
    obtain ⟨hr1, hP1, hD1⟩ := q1 her
    cases hr1
    rw [ht] at hP1
    obtain ⟨hP, hD⟩ := hJ _ hP1 hD1
    have hP := hP.sub (ws' := ((o, .inl (cL, 1, .inr (.inl g))) :: (wM u cI cZ gS gK gI gO gF gE gQ yt xh xr xg xn yk yb yc ++ wT z cI cZ fT fK fA fB fF (va_up fE (xr - 1) 1) (fF (xr - 1)) xg xr (xn + 1)))) [0, 1, 2, 3, 4, 5, 6, 7, 8, 9, 10, 11, 12, 13, 14, 15] rfl
    have hD := hD.sub (ws' := ((o, .inl (cL, 1, .inr (.inl g))) :: (wM u cI cZ gS gK gI gO gF gE gQ yt xh xr xg xn yk yb yc ++ wT z cI cZ fT fK fA fB fF (va_up fE (xr - 1) 1) (fF (xr - 1)) xg xr (xn + 1)))) [0, 1, 2, 3, 4, 5, 6, 7, 8, 9, 10, 11, 12, 13, 14, 15] (by decide) rfl
    refine lv_istore (lv' := [(5, .int (nI 0)), (4, .int (nI i)), (3, .ref o), (2, .ref (u 0)), (1, .ref (z 0)), (0, .ref b)]) hx hb d_L_law_620 hl (by decide) rfl (fun ls hl => ?_)
    refine lv_aload_n hx hb d_L_law_622 rfl (lv_at hl 3 rfl) ?_
    have hPm := hP.sub (ws' := (wM u cI cZ gS gK gI gO gF gE gQ yt xh xr xg xn yk yb yc)) [1, 2, 3, 4, 5, 6, 7, 8] rfl
    have hDm := hD.sub (ws' := (wM u cI cZ gS gK gI gO gF gE gQ yt xh xr xg xn yk yb yc)) [1, 2, 3, 4, 5, 6, 7, 8] (by decide) rfl
    refine cl_j (Wc := (wM u cI cZ gS gK gI gO gF gE gQ yt xh xr xg xn yk yb yc)) (Wr := ((o, .inl (cL, 1, .inr (.inl g))) :: wT z cI cZ fT fK fA fB fF (va_up fE (xr - 1) 1) (fF (xr - 1)) xg xr (xn + 1))) hP hD hS hA [1, 2, 3, 4, 5, 6, 7, 8] [0, 9, 10, 11, 12, 13, 14, 15] rfl rfl (by decide) (by decide) (va_runV (b := u 0) (C := "TypeStackModel") (As := []) (rest := []) ⟨hx, hb, hml, hown, hw⟩ (c_M_never l D u cI cZ gS gK gI gO gF gE gQ yt xh xr xg xn yk yb yc hm0 hfl hmo H.size) (cwV 0 hw g_L_115 rfl rfl rfl ⟨rfl, by decide, by decide, by decide +kernel⟩ ⟨by decide, by decide⟩) ⟨PW.blind, va_recv (q := (RM, FM, 15)) (ci := 1) (q0 := 0) hK2 hPm rfl rfl, PW.pre hPm hK2 hDm hS hA hE⟩ rfl rfl hl.1 rfl (lv_room (Nat.le_of_ble_eq_true rfl)) d_L_law_623 ⟨by show _ ≤ 1054; omega, by show _ ≤ 9807; omega⟩) (fun _ _ _ h => h.2) (fun v2 st2 t2 H locs hq ht hJ hS hvm2 => ?_)
    obtain ⟨⟨gS1, gK1, gI1, gO1, gF1, gE1, gQ1, yt1, yn1, yr1, ym1, yd1, yk1, yb1, yc1, v3, hr2, hpo, hm1, hP1, hD1⟩, -⟩ := hq
    cases hr2
    rw [ht] at hP1
    obtain ⟨hP, hD⟩ := hJ _ hP1 hD1
    have hP := hP.sub (ws' := ((o, .inl (cL, 1, .inr (.inl g))) :: (wM u cI cZ gS1 gK1 gI1 gO1 gF1 gE1 gQ1 yt1 yn1 yr1 ym1 yd1 yk1 yb1 yc1 ++ wT z cI cZ fT fK fA fB fF (va_up fE (xr - 1) 1) (fF (xr - 1)) xg xr (xn + 1)))) [0, 8, 9, 10, 11, 12, 13, 14, 15, 1, 2, 3, 4, 5, 6, 7] rfl
    have hD := hD.sub (ws' := ((o, .inl (cL, 1, .inr (.inl g))) :: (wM u cI cZ gS1 gK1 gI1 gO1 gF1 gE1 gQ1 yt1 yn1 yr1 ym1 yd1 yk1 yb1 yc1 ++ wT z cI cZ fT fK fA fB fF (va_up fE (xr - 1) 1) (fF (xr - 1)) xg xr (xn + 1)))) [0, 8, 9, 10, 11, 12, 13, 14, 15, 1, 2, 3, 4, 5, 6, 7] (by decide) rfl
    obtain ⟨hyt, hvv, hrel⟩ := hpo.1 ((A_never hT hF).symm.trans her)
    subst hvv
    obtain ⟨hi1, hv1⟩ := D_never hi0 hv0 her
    have hrel_ := rel_t (C_never hT hF hv0.2.1 her) hrel
    refine lv_aload_n hx hb d_L_law_626 rfl (lv_at hl 3 rfl) ?_
    have hPm := hP.sub (ws' := (wM u cI cZ gS1 gK1 gI1 gO1 gF1 gE1 gQ1 yt1 yn1 yr1 ym1 yd1 yk1 yb1 yc1)) [1, 2, 3, 4, 5, 6, 7, 8] rfl
    have hDm := hD.sub (ws' := (wM u cI cZ gS1 gK1 gI1 gO1 gF1 gE1 gQ1 yt1 yn1 yr1 ym1 yd1 yk1 yb1 yc1)) [1, 2, 3, 4, 5, 6, 7, 8] (by decide) rfl
    refine cl_r (v := some (.int (nI yt1))) (W.runV (b := u 0) (C := "TypeStackModel") (As := []) (rest := []) ⟨hx, hb, hml, hown, hw⟩ (c_M_thrown l D u cI cZ gS1 gK1 gI1 gO1 gF1 gE1 gQ1 yt1 yn1 yr1 ym1 yd1 yk1 yb1 yc1 H.size) (cwV 0 hw g_L_74 rfl rfl rfl ⟨rfl, by decide, by decide, by decide +kernel⟩ ⟨by decide, by decide⟩) ⟨PW.blind, va_recv (q := (RM, FM, 15)) (ci := 1) (q0 := 0) hK2 hPm rfl rfl, PW.pre hPm hK2 hDm hS hA hE⟩ rfl rfl hl.1 rfl (lv_room (Nat.le_of_ble_eq_true rfl)) d_L_law_627 ⟨by show _ ≤ 1054; omega, by show _ ≤ 9807; omega⟩) ?_
    refine lv_iload hx hb d_L_law_630 (lv_at hl 0 rfl) ?_
    have hkl : 0 < 2 ^ 31 := by decide
    refine nw_eq hx hb (tgt := 637) d_L_law_632 (by decide) (by omega) hkl (fun h => ?_) (fun h => absurd hyt h)
    refine lv_goto hx hb d_L_law_637 (tgt := 758) (by decide) ?_
    refine W.widen (k := 16 + (j + 1)) (n := 1531 + 6 * (j + 1)) (by omega) (by omega) ?_
    exact kk _ _ _ ⟨fT, fK, fA, fB, fF, (va_up fE (xr - 1) 1), (fF (xr - 1)), xg, xr, (xn + 1), gS1, gK1, gI1, gO1, gF1, gE1, gQ1, yt1, yn1, yr1, ym1, yd1, yk1, yb1, yc1, g, hi1, hv1, hm1, hrel_, hP, hD, hS⟩ (lv_sub hl [1, 2, 3, 4, 5] rfl)
  · skip
    obtain ⟨hr1, hP1, hD1⟩ := q2 E her
    cases hr1
    rw [ht] at hP1
    obtain ⟨hP, hD⟩ := hJ _ hP1 hD1
    have hP := hP.sub (ws' := ((o, .inl (cL, 1, .inr (.inl g))) :: (wM u cI cZ gS gK gI gO gF gE gQ yt xh xr xg xn yk yb yc ++ wT z cI cZ fT fK fA fB fF fE xh xg xr xn))) [0, 1, 2, 3, 4, 5, 6, 7, 8, 9, 10, 11, 12, 13, 14, 15] rfl
    have hD := hD.sub (ws' := ((o, .inl (cL, 1, .inr (.inl g))) :: (wM u cI cZ gS gK gI gO gF gE gQ yt xh xr xg xn yk yb yc ++ wT z cI cZ fT fK fA fB fF fE xh xg xr xn))) [0, 1, 2, 3, 4, 5, 6, 7, 8, 9, 10, 11, 12, 13, 14, 15] (by decide) rfl
    refine lv_istore (lv' := [(5, .int (nI (cdl [NSE] E))), (4, .int (nI i)), (3, .ref o), (2, .ref (u 0)), (1, .ref (z 0)), (0, .ref b)]) hx hb d_L_law_620 hl (by decide) rfl (fun ls hl => ?_)
    refine lv_aload_n hx hb d_L_law_622 rfl (lv_at hl 3 rfl) ?_
    have hPm := hP.sub (ws' := (wM u cI cZ gS gK gI gO gF gE gQ yt xh xr xg xn yk yb yc)) [1, 2, 3, 4, 5, 6, 7, 8] rfl
    have hDm := hD.sub (ws' := (wM u cI cZ gS gK gI gO gF gE gQ yt xh xr xg xn yk yb yc)) [1, 2, 3, 4, 5, 6, 7, 8] (by decide) rfl
    refine cl_j (Wc := (wM u cI cZ gS gK gI gO gF gE gQ yt xh xr xg xn yk yb yc)) (Wr := ((o, .inl (cL, 1, .inr (.inl g))) :: wT z cI cZ fT fK fA fB fF fE xh xg xr xn)) hP hD hS hA [1, 2, 3, 4, 5, 6, 7, 8] [0, 9, 10, 11, 12, 13, 14, 15] rfl rfl (by decide) (by decide) (va_runV (b := u 0) (C := "TypeStackModel") (As := []) (rest := []) ⟨hx, hb, hml, hown, hw⟩ (c_M_never l D u cI cZ gS gK gI gO gF gE gQ yt xh xr xg xn yk yb yc hm0 hfl hmo H.size) (cwV 0 hw g_L_115 rfl rfl rfl ⟨rfl, by decide, by decide, by decide +kernel⟩ ⟨by decide, by decide⟩) ⟨PW.blind, va_recv (q := (RM, FM, 15)) (ci := 1) (q0 := 0) hK2 hPm rfl rfl, PW.pre hPm hK2 hDm hS hA hE⟩ rfl rfl hl.1 rfl (lv_room (Nat.le_of_ble_eq_true rfl)) d_L_law_623 ⟨by show _ ≤ 1054; omega, by show _ ≤ 9807; omega⟩) (fun _ _ _ h => h.2) (fun v2 st2 t2 H locs hq ht hJ hS hvm2 => ?_)
    obtain ⟨⟨gS1, gK1, gI1, gO1, gF1, gE1, gQ1, yt1, yn1, yr1, ym1, yd1, yk1, yb1, yc1, v3, hr2, hpo, hm1, hP1, hD1⟩, -⟩ := hq
    cases hr2
    rw [ht] at hP1
    obtain ⟨hP, hD⟩ := hJ _ hP1 hD1
    have hP := hP.sub (ws' := ((o, .inl (cL, 1, .inr (.inl g))) :: (wM u cI cZ gS1 gK1 gI1 gO1 gF1 gE1 gQ1 yt1 yn1 yr1 ym1 yd1 yk1 yb1 yc1 ++ wT z cI cZ fT fK fA fB fF fE xh xg xr xn))) [0, 8, 9, 10, 11, 12, 13, 14, 15, 1, 2, 3, 4, 5, 6, 7] rfl
    have hD := hD.sub (ws' := ((o, .inl (cL, 1, .inr (.inl g))) :: (wM u cI cZ gS1 gK1 gI1 gO1 gF1 gE1 gQ1 yt1 yn1 yr1 ym1 yd1 yk1 yb1 yc1 ++ wT z cI cZ fT fK fA fB fF fE xh xg xr xn))) [0, 8, 9, 10, 11, 12, 13, 14, 15, 1, 2, 3, 4, 5, 6, 7] (by decide) rfl
    obtain ⟨hyt, hvv, hrel⟩ := hpo.2 E ((A_never hT hF).symm.trans her)
    subst hvv
    have hrel_ := rel_t ⟨rfl, rfl, rfl, rfl, hT, hF⟩ hrel
    refine lv_aload_n hx hb d_L_law_626 rfl (lv_at hl 3 rfl) ?_
    have hPm := hP.sub (ws' := (wM u cI cZ gS1 gK1 gI1 gO1 gF1 gE1 gQ1 yt1 yn1 yr1 ym1 yd1 yk1 yb1 yc1)) [1, 2, 3, 4, 5, 6, 7, 8] rfl
    have hDm := hD.sub (ws' := (wM u cI cZ gS1 gK1 gI1 gO1 gF1 gE1 gQ1 yt1 yn1 yr1 ym1 yd1 yk1 yb1 yc1)) [1, 2, 3, 4, 5, 6, 7, 8] (by decide) rfl
    refine cl_r (v := some (.int (nI yt1))) (W.runV (b := u 0) (C := "TypeStackModel") (As := []) (rest := []) ⟨hx, hb, hml, hown, hw⟩ (c_M_thrown l D u cI cZ gS1 gK1 gI1 gO1 gF1 gE1 gQ1 yt1 yn1 yr1 ym1 yd1 yk1 yb1 yc1 H.size) (cwV 0 hw g_L_74 rfl rfl rfl ⟨rfl, by decide, by decide, by decide +kernel⟩ ⟨by decide, by decide⟩) ⟨PW.blind, va_recv (q := (RM, FM, 15)) (ci := 1) (q0 := 0) hK2 hPm rfl rfl, PW.pre hPm hK2 hDm hS hA hE⟩ rfl rfl hl.1 rfl (lv_room (Nat.le_of_ble_eq_true rfl)) d_L_law_627 ⟨by show _ ≤ 1054; omega, by show _ ≤ 9807; omega⟩) ?_
    refine lv_iload hx hb d_L_law_630 (lv_at hl 0 rfl) ?_
    have hkl : cdl [NSE] E < 2 ^ 31 := Nat.lt_of_le_of_lt (cdl_in _ _) (by decide)
    refine nw_eq hx hb (tgt := 637) d_L_law_632 (by decide) (by omega) hkl (fun h => ?_) (fun h => absurd hyt h)
    refine lv_goto hx hb d_L_law_637 (tgt := 758) (by decide) ?_
    refine W.widen (k := 16 + (j + 1)) (n := 1531 + 6 * (j + 1)) (by omega) (by omega) ?_
    exact kk _ _ _ ⟨fT, fK, fA, fB, fF, fE, xh, xg, xr, xn, gS1, gK1, gI1, gO1, gF1, gE1, gQ1, yt1, yn1, yr1, ym1, yd1, yk1, yb1, yc1, g, hi0, hv0, hm1, hrel_, hP, hD, hS⟩ (lv_sub hl [1, 2, 3, 4, 5] rfl)

set_option maxHeartbeats 1000000 in
set_option maxRecDepth 100000 in
theorem law_top (K : LC l p s m meth c b L xs D cI cZ cL) (hi4 : i + 4 ≤ L) (hL : L ≤ 2048) (hj : j < 512) (hw0 : LW D z u o cI cZ cL s H locs) (hl : lv_has ls 7 [(4, .int (nI i)), (3, .ref o), (2, .ref (u 0)), (1, .ref (z 0)), (0, .ref b)])
    (kk : ∀ (H : Heap) (locs : List Loc) (ls : Array Slot), LW D z u o cI cZ cL s H locs → lv_has ls 7 [(4, .int (nI i)), (3, .ref o), (2, .ref (u 0)), (1, .ref (z 0)), (0, .ref b)] → W p l e room_1 s m #[Value.ref b] below meth c H locs (16 + (j + 1)) (1531 + 6 * (j + 1)) Q (F0 m 758 ls [])) : W p l e room_1 s m #[Value.ref b] below meth c H locs (16 + j) (1531 + 6 * j) Q (F0 m 640 ls []) := by
  obtain ⟨hl0, hx, hb, hml, hown, hw, hX, hbl, hE, hN, hK⟩ := K
  obtain ⟨fT, fK, fA, fB, fF, fE, xh, xg, xr, xn, gS, gK, gI, gO, gF, gE, gQ, yt, yn, yr, ym, yd, yk, yb, yc, g, hi0, hv0, hm0, hrel0, hP, hD, hS⟩ := hw0
  obtain ⟨rfl, rfl, rfl, rfl, hT, hF⟩ := hrel0
  have hA : ∀ q : Nat, s.heap.size ≤ q → (fun q => s.heap.size ≤ q) q := fun q h => h
  have hbA : ¬ (fun q => s.heap.size ≤ q) b := Nat.not_le.mpr hbl
  have hfl : 1 ≤ xr → gF (xr - 1) ≤ xh := fun h => by rw [← (hF (xr - 1) (by omega)).2.2.2.1]; exact hv0.2.1 h
  have hmo : xh ≤ xg := hv0.2.2.2
  have hro : ∀ j, j < xr → gF j + szL 6 (gI j) ≤ 300 := fun j h => by rw [← (hF j h).2.2.2.1, ← (hF j h).2.1]; exact hv0.2.2.1 j h
  have hK2 := hK.sub (tys' := [(cI, .int), (cZ, .boolean)]) [0, 1] rfl
  refine lv_aload_n hx hb d_L_law_640 rfl (lv_at hl 3 rfl) ?_
  refine lv_aload_n hx hb d_L_law_641 rfl (lv_at hl 4 rfl) ?_
  refine lv_iload hx hb d_L_law_642 (lv_at hl 0 rfl) ?_
  refine lv_iconst (v := nI 1) hx hb d_L_law_644 (by decide) ?_
  refine nw_add hx hb d_L_law_645 ?_
  refine nw_sld hx hb hX hbl hbA hS (k := i + 1) (by omega) (by omega) d_L_law_646 ?_
  have hPc := hP.sub (ws' := (wT z cI cZ fT fK fA fB fF fE xh xg xr xn)) [9, 10, 11, 12, 13, 14, 15] rfl
  have hDc := hD.sub (ws' := (wT z cI cZ fT fK fA fB fF fE xh xg xr xn)) [9, 10, 11, 12, 13, 14, 15] (by decide) rfl
  refine cl_r (v := some (.int (tpv xh fT (xs (i + 1))))) (W.runV (b := z 0) (C := "TypeStack") (As := [.int (xs (i + 1))]) (rest := []) ⟨hx, hb, hml, hown, hw⟩ (c_T_top l D z cI cZ fT fK fA fB fF fE xh xg xr xn hi0 (xs (i + 1)) H.size) (cwV 1 hw g_L_116 rfl rfl rfl ⟨rfl, by decide, by decide, by decide +kernel⟩ ⟨by decide, by decide⟩) ⟨PW.blind, va_recv (q := (RT, FT, 10)) (ci := 0) (q0 := 0) hK2 hPc rfl rfl, PW.pre hPc hK2 hDc hS hA hE⟩ rfl rfl hl.1 rfl (lv_room (Nat.le_of_ble_eq_true rfl)) d_L_law_647 ⟨by show _ ≤ 1054; omega, by show _ ≤ 9807; omega⟩) ?_
  refine lv_aload_n hx hb d_L_law_650 rfl (lv_at hl 2 rfl) ?_
  refine lv_aload_n hx hb d_L_law_651 rfl (lv_at hl 4 rfl) ?_
  refine lv_iload hx hb d_L_law_652 (lv_at hl 0 rfl) ?_
  refine lv_iconst (v := nI 1) hx hb d_L_law_654 (by decide) ?_
  refine nw_add hx hb d_L_law_655 ?_
  refine nw_sld hx hb hX hbl hbA hS (k := i + 1) (by omega) (by omega) d_L_law_656 ?_
  have hPm := hP.sub (ws' := (wM u cI cZ gS gK gI gO gF gE gQ yt xh xr xg xn yk yb yc)) [1, 2, 3, 4, 5, 6, 7, 8] rfl
  have hDm := hD.sub (ws' := (wM u cI cZ gS gK gI gO gF gE gQ yt xh xr xg xn yk yb yc)) [1, 2, 3, 4, 5, 6, 7, 8] (by decide) rfl
  refine cl_j (Wc := (wM u cI cZ gS gK gI gO gF gE gQ yt xh xr xg xn yk yb yc)) (Wr := ((o, .inl (cL, 1, .inr (.inl g))) :: wT z cI cZ fT fK fA fB fF fE xh xg xr xn)) hP hD hS hA [1, 2, 3, 4, 5, 6, 7, 8] [0, 9, 10, 11, 12, 13, 14, 15] rfl rfl (by decide) (by decide) (va_runV (b := u 0) (C := "TypeStackModel") (As := [.int (xs (i + 1))]) (rest := [.int (tpv xh fT (xs (i + 1)))]) ⟨hx, hb, hml, hown, hw⟩ (c_M_top l D u cI cZ gS gK gI gO gF gE gQ yt xh xr xg xn yk yb yc hm0 (xs (i + 1)) H.size) (cwV 1 hw g_L_119 rfl rfl rfl ⟨rfl, by decide, by decide, by decide +kernel⟩ ⟨by decide, by decide⟩) ⟨PW.blind, va_recv (q := (RM, FM, 15)) (ci := 1) (q0 := 0) hK2 hPm rfl rfl, PW.pre hPm hK2 hDm hS hA hE⟩ rfl rfl hl.1 rfl (lv_room (Nat.le_of_ble_eq_true rfl)) d_L_law_657 ⟨by show _ ≤ 1054; omega, by show _ ≤ 9807; omega⟩) (fun _ _ _ h => h.2) (fun v2 st2 t2 H locs hq ht hJ hS hvm2 => ?_)
  obtain ⟨⟨gS1, gK1, gI1, gO1, gF1, gE1, gQ1, yt1, yn1, yr1, ym1, yd1, yk1, yb1, yc1, v3, hr2, hpo, hm1, hP1, hD1⟩, -⟩ := hq
  cases hr2
  rw [ht] at hP1
  obtain ⟨hP, hD⟩ := hJ _ hP1 hD1
  have hP := hP.sub (ws' := ((o, .inl (cL, 1, .inr (.inl g))) :: (wM u cI cZ gS1 gK1 gI1 gO1 gF1 gE1 gQ1 yt1 yn1 yr1 ym1 yd1 yk1 yb1 yc1 ++ wT z cI cZ fT fK fA fB fF fE xh xg xr xn))) [0, 8, 9, 10, 11, 12, 13, 14, 15, 1, 2, 3, 4, 5, 6, 7] rfl
  have hD := hD.sub (ws' := ((o, .inl (cL, 1, .inr (.inl g))) :: (wM u cI cZ gS1 gK1 gI1 gO1 gF1 gE1 gQ1 yt1 yn1 yr1 ym1 yd1 yk1 yb1 yc1 ++ wT z cI cZ fT fK fA fB fF fE xh xg xr xn))) [0, 8, 9, 10, 11, 12, 13, 14, 15, 1, 2, 3, 4, 5, 6, 7] (by decide) rfl
  obtain ⟨hyt, hvv, hrel⟩ := hpo.1 rfl
  subst hvv
  have hrel_ := rel_t ⟨rfl, rfl, rfl, rfl, hT, hF⟩ hrel
  have hB := B_top hT hF (by have := hi0.2.2.2.2.2.2.1; omega) (xs (i + 1))
  refine lv_icmp_eq hx hb (tgt := 758) d_L_law_660 (by decide) (fun h => ?_) (fun h => absurd hB h)
  refine W.widen (k := 16 + (j + 1)) (n := 1531 + 6 * (j + 1)) (by omega) (by omega) ?_
  exact kk _ _ _ ⟨fT, fK, fA, fB, fF, fE, xh, xg, xr, xn, gS1, gK1, gI1, gO1, gF1, gE1, gQ1, yt1, yn1, yr1, ym1, yd1, yk1, yb1, yc1, g, hi0, hv0, hm1, hrel_, hP, hD, hS⟩ (lv_sub hl [0, 1, 2, 3, 4] rfl)

set_option maxHeartbeats 1000000 in
set_option maxRecDepth 100000 in
theorem law_frame (K : LC l p s m meth c b L xs D cI cZ cL) (hi4 : i + 4 ≤ L) (hL : L ≤ 2048) (hj : j < 512) (hw0 : LW D z u o cI cZ cL s H locs) (hl : lv_has ls 7 [(4, .int (nI i)), (3, .ref o), (2, .ref (u 0)), (1, .ref (z 0)), (0, .ref b)])
    (kk : ∀ (H : Heap) (locs : List Loc) (ls : Array Slot), LW D z u o cI cZ cL s H locs → lv_has ls 7 [(4, .int (nI i)), (3, .ref o), (2, .ref (u 0)), (1, .ref (z 0)), (0, .ref b)] → W p l e room_1 s m #[Value.ref b] below meth c H locs (16 + (j + 1)) (1531 + 6 * (j + 1)) Q (F0 m 758 ls [])) : W p l e room_1 s m #[Value.ref b] below meth c H locs (16 + j) (1531 + 6 * j) Q (F0 m 665 ls []) := by
  obtain ⟨hl0, hx, hb, hml, hown, hw, hX, hbl, hE, hN, hK⟩ := K
  obtain ⟨fT, fK, fA, fB, fF, fE, xh, xg, xr, xn, gS, gK, gI, gO, gF, gE, gQ, yt, yn, yr, ym, yd, yk, yb, yc, g, hi0, hv0, hm0, hrel0, hP, hD, hS⟩ := hw0
  obtain ⟨rfl, rfl, rfl, rfl, hT, hF⟩ := hrel0
  have hA : ∀ q : Nat, s.heap.size ≤ q → (fun q => s.heap.size ≤ q) q := fun q h => h
  have hbA : ¬ (fun q => s.heap.size ≤ q) b := Nat.not_le.mpr hbl
  have hfl : 1 ≤ xr → gF (xr - 1) ≤ xh := fun h => by rw [← (hF (xr - 1) (by omega)).2.2.2.1]; exact hv0.2.1 h
  have hmo : xh ≤ xg := hv0.2.2.2
  have hro : ∀ j, j < xr → gF j + szL 6 (gI j) ≤ 300 := fun j h => by rw [← (hF j h).2.2.2.1, ← (hF j h).2.1]; exact hv0.2.2.1 j h
  have hK2 := hK.sub (tys' := [(cI, .int), (cZ, .boolean)]) [0, 1] rfl
  refine lv_aload_n hx hb d_L_law_665 rfl (lv_at hl 3 rfl) ?_
  refine lv_aload_n hx hb d_L_law_666 rfl (lv_at hl 4 rfl) ?_
  refine lv_iload hx hb d_L_law_667 (lv_at hl 0 rfl) ?_
  refine lv_iconst (v := nI 1) hx hb d_L_law_669 (by decide) ?_
  refine nw_add hx hb d_L_law_670 ?_
  refine nw_sld hx hb hX hbl hbA hS (k := i + 1) (by omega) (by omega) d_L_law_671 ?_
  refine lv_aload_n hx hb d_L_law_672 rfl (lv_at hl 4 rfl) ?_
  refine lv_iload hx hb d_L_law_673 (lv_at hl 0 rfl) ?_
  refine lv_iconst (v := nI 2) hx hb d_L_law_675 (by decide) ?_
  refine nw_add hx hb d_L_law_676 ?_
  refine nw_sld hx hb hX hbl hbA hS (k := i + 2) (by omega) (by omega) d_L_law_677 ?_
  refine lv_aload_n hx hb d_L_law_678 rfl (lv_at hl 1 rfl) ?_
  have hPc := hP.sub (ws' := ((o, .inl (cL, 1, .inr (.inl g))) :: wT z cI cZ fT fK fA fB fF fE xh xg xr xn)) [0, 9, 10, 11, 12, 13, 14, 15] rfl
  have hDc := hD.sub (ws' := ((o, .inl (cL, 1, .inr (.inl g))) :: wT z cI cZ fT fK fA fB fF fE xh xg xr xn)) [0, 9, 10, 11, 12, 13, 14, 15] (by decide) rfl
  refine cl_j (Wc := ((o, .inl (cL, 1, .inr (.inl g))) :: wT z cI cZ fT fK fA fB fF fE xh xg xr xn)) (Wr := (wM u cI cZ gS gK gI gO gF gE gQ yt xh xr xg xn yk yb yc)) hP hD hS hA [0, 9, 10, 11, 12, 13, 14, 15] [1, 2, 3, 4, 5, 6, 7, 8] rfl rfl (by decide) (by decide) (vx_runSW (As := [.ref (z 0), .int (xs (i + 1)), .int (xs (i + 2)), .ref o]) (rest := []) ⟨hx, hb, hml, hown, hw⟩ (c_L_frame l hl0 D z cI cZ fT fK fA fB fF fE xh xg xr xn hi0 (xs (i + 1)) (xs (i + 2)) cL o g H.size) (vx_cwSW 4 hw g_L_120 rfl rfl rfl ⟨by decide, by decide, by decide +kernel⟩ ⟨by decide, by decide⟩) ⟨PL.blind, PL.pre hPc hK hDc hS hA hE hN⟩ rfl rfl hl.1 rfl (lv_room (Nat.le_of_ble_eq_true rfl)) d_L_law_679 ⟨by show _ ≤ 1054; omega, by show _ ≤ 9807; omega⟩) (fun _ _ _ h => h.2) (fun v1 st1 t1 H locs hq ht hJ hS hvm => ?_)
  obtain ⟨⟨q1, q2⟩, -⟩ := hq
  rcases opt_cs (orE (xf xr (xs (i + 1))) (x6 (xs (i + 2)))) with her | ⟨E, her⟩
  · skip
    obtain ⟨hr1, hP1, hD1⟩ := q1 her
    cases hr1
    rw [ht] at hP1
    obtain ⟨hP, hD⟩ := hJ _ hP1 hD1
    have hP := hP.sub (ws' := ((o, .inl (cL, 1, .inr (.inl (vp_updL g 0 (nI (frv (xs (i + 2)) fK fA fB fF fE (xr - 1 - (xs (i + 1)).toNatClampNeg))).toInt64)))) :: (wM u cI cZ gS gK gI gO gF gE gQ yt xh xr xg xn yk yb yc ++ wT z cI cZ fT fK fA fB fF fE xh xg xr xn))) [8, 0, 1, 2, 3, 4, 5, 6, 7, 9, 10, 11, 12, 13, 14, 15] rfl
    have hD := hD.sub (ws' := ((o, .inl (cL, 1, .inr (.inl (vp_updL g 0 (nI (frv (xs (i + 2)) fK fA fB fF fE (xr - 1 - (xs (i + 1)).toNatClampNeg))).toInt64)))) :: (wM u cI cZ gS gK gI gO gF gE gQ yt xh xr xg xn yk yb yc ++ wT z cI cZ fT fK fA fB fF fE xh xg xr xn))) [8, 0, 1, 2, 3, 4, 5, 6, 7, 9, 10, 11, 12, 13, 14, 15] (by decide) rfl
    refine lv_istore (lv' := [(5, .int (nI 0)), (4, .int (nI i)), (3, .ref o), (2, .ref (u 0)), (1, .ref (z 0)), (0, .ref b)]) hx hb d_L_law_682 hl (by decide) rfl (fun ls hl => ?_)
    refine lv_aload_n hx hb d_L_law_684 rfl (lv_at hl 3 rfl) ?_
    refine lv_aload_n hx hb d_L_law_685 rfl (lv_at hl 5 rfl) ?_
    refine lv_iload hx hb d_L_law_686 (lv_at hl 1 rfl) ?_
    refine lv_iconst (v := nI 1) hx hb d_L_law_688 (by decide) ?_
    refine nw_add hx hb d_L_law_689 ?_
    refine nw_sld hx hb hX hbl hbA hS (k := i + 1) (by omega) (by omega) d_L_law_690 ?_
    refine lv_aload_n hx hb d_L_law_691 rfl (lv_at hl 5 rfl) ?_
    refine lv_iload hx hb d_L_law_692 (lv_at hl 1 rfl) ?_
    refine lv_iconst (v := nI 2) hx hb d_L_law_694 (by decide) ?_
    refine nw_add hx hb d_L_law_695 ?_
    refine nw_sld hx hb hX hbl hbA hS (k := i + 2) (by omega) (by omega) d_L_law_696 ?_
    have hPm := hP.sub (ws' := (wM u cI cZ gS gK gI gO gF gE gQ yt xh xr xg xn yk yb yc)) [1, 2, 3, 4, 5, 6, 7, 8] rfl
    have hDm := hD.sub (ws' := (wM u cI cZ gS gK gI gO gF gE gQ yt xh xr xg xn yk yb yc)) [1, 2, 3, 4, 5, 6, 7, 8] (by decide) rfl
    refine cl_j (Wc := (wM u cI cZ gS gK gI gO gF gE gQ yt xh xr xg xn yk yb yc)) (Wr := ((o, .inl (cL, 1, .inr (.inl (vp_updL g 0 (nI (frv (xs (i + 2)) fK fA fB fF fE (xr - 1 - (xs (i + 1)).toNatClampNeg))).toInt64)))) :: wT z cI cZ fT fK fA fB fF fE xh xg xr xn)) hP hD hS hA [1, 2, 3, 4, 5, 6, 7, 8] [0, 9, 10, 11, 12, 13, 14, 15] rfl rfl (by decide) (by decide) (va_runV (b := u 0) (C := "TypeStackModel") (As := [.int (xs (i + 1)), .int (xs (i + 2))]) (rest := []) ⟨hx, hb, hml, hown, hw⟩ (c_M_frame l D u cI cZ gS gK gI gO gF gE gQ yt xh xr xg xn yk yb yc hm0 (xs (i + 1)) (xs (i + 2)) H.size) (cwV 2 hw g_L_122 rfl rfl rfl ⟨rfl, by decide, by decide, by decide +kernel⟩ ⟨by decide, by decide⟩) ⟨PW.blind, va_recv (q := (RM, FM, 15)) (ci := 1) (q0 := 0) hK2 hPm rfl rfl, PW.pre hPm hK2 hDm hS hA hE⟩ rfl rfl hl.1 rfl (lv_room (Nat.le_of_ble_eq_true rfl)) d_L_law_697 ⟨by show _ ≤ 1054; omega, by show _ ≤ 9807; omega⟩) (fun _ _ _ h => h.2) (fun v2 st2 t2 H locs hq ht hJ hS hvm2 => ?_)
    obtain ⟨⟨gS1, gK1, gI1, gO1, gF1, gE1, gQ1, yt1, yn1, yr1, ym1, yd1, yk1, yb1, yc1, v3, hr2, hpo, hm1, hP1, hD1⟩, -⟩ := hq
    cases hr2
    rw [ht] at hP1
    obtain ⟨hP, hD⟩ := hJ _ hP1 hD1
    have hP := hP.sub (ws' := ((o, .inl (cL, 1, .inr (.inl (vp_updL g 0 (nI (frv (xs (i + 2)) fK fA fB fF fE (xr - 1 - (xs (i + 1)).toNatClampNeg))).toInt64)))) :: (wM u cI cZ gS1 gK1 gI1 gO1 gF1 gE1 gQ1 yt1 yn1 yr1 ym1 yd1 yk1 yb1 yc1 ++ wT z cI cZ fT fK fA fB fF fE xh xg xr xn))) [0, 8, 9, 10, 11, 12, 13, 14, 15, 1, 2, 3, 4, 5, 6, 7] rfl
    have hD := hD.sub (ws' := ((o, .inl (cL, 1, .inr (.inl (vp_updL g 0 (nI (frv (xs (i + 2)) fK fA fB fF fE (xr - 1 - (xs (i + 1)).toNatClampNeg))).toInt64)))) :: (wM u cI cZ gS1 gK1 gI1 gO1 gF1 gE1 gQ1 yt1 yn1 yr1 ym1 yd1 yk1 yb1 yc1 ++ wT z cI cZ fT fK fA fB fF fE xh xg xr xn))) [0, 8, 9, 10, 11, 12, 13, 14, 15, 1, 2, 3, 4, 5, 6, 7] (by decide) rfl
    obtain ⟨hyt, hvv, hrel⟩ := hpo.1 ((A_frame hT hF (xs (i + 1)) (xs (i + 2))).symm.trans her)
    subst hvv
    have hi1 := hi0
    have hv1 := hv0
    have hrel_ := rel_t ⟨rfl, rfl, rfl, rfl, hT, hF⟩ hrel
    have hB := B_frame hT hF (xs (i + 1)) (xs (i + 2)) her
    refine lv_istore (lv' := [(6, .int (nI (frv (xs (i + 2)) gK gI gO gF gE (xr - 1 - (xs (i + 1)).toNatClampNeg)))), (5, .int (nI 0)), (4, .int (nI i)), (3, .ref o), (2, .ref (u 0)), (1, .ref (z 0)), (0, .ref b)]) hx hb d_L_law_700 hl (by decide) rfl (fun ls hl => ?_)
    refine lv_aload_n hx hb d_L_law_702 rfl (lv_at hl 4 rfl) ?_
    have hPm := hP.sub (ws' := (wM u cI cZ gS1 gK1 gI1 gO1 gF1 gE1 gQ1 yt1 yn1 yr1 ym1 yd1 yk1 yb1 yc1)) [1, 2, 3, 4, 5, 6, 7, 8] rfl
    have hDm := hD.sub (ws' := (wM u cI cZ gS1 gK1 gI1 gO1 gF1 gE1 gQ1 yt1 yn1 yr1 ym1 yd1 yk1 yb1 yc1)) [1, 2, 3, 4, 5, 6, 7, 8] (by decide) rfl
    refine cl_r (v := some (.int (nI yt1))) (W.runV (b := u 0) (C := "TypeStackModel") (As := []) (rest := []) ⟨hx, hb, hml, hown, hw⟩ (c_M_thrown l D u cI cZ gS1 gK1 gI1 gO1 gF1 gE1 gQ1 yt1 yn1 yr1 ym1 yd1 yk1 yb1 yc1 H.size) (cwV 0 hw g_L_74 rfl rfl rfl ⟨rfl, by decide, by decide, by decide +kernel⟩ ⟨by decide, by decide⟩) ⟨PW.blind, va_recv (q := (RM, FM, 15)) (ci := 1) (q0 := 0) hK2 hPm rfl rfl, PW.pre hPm hK2 hDm hS hA hE⟩ rfl rfl hl.1 rfl (lv_room (Nat.le_of_ble_eq_true rfl)) d_L_law_703 ⟨by show _ ≤ 1054; omega, by show _ ≤ 9807; omega⟩) ?_
    refine lv_iload hx hb d_L_law_706 (lv_at hl 1 rfl) ?_
    have hkl : 0 < 2 ^ 31 := by decide
    refine nw_eq hx hb (tgt := 713) d_L_law_708 (by decide) (by omega) hkl (fun h => ?_) (fun h => absurd hyt h)
    refine lv_iload hx hb d_L_law_713 (lv_at hl 1 rfl) ?_
    refine nw_ifne hx hb (tgt := 730) d_L_law_715 (by decide) (by decide) (fun h => absurd h (Nat.lt_irrefl 0)) (fun h => ?_)
    refine lv_aload_n hx hb d_L_law_718 rfl (lv_at hl 3 rfl) ?_
    refine lv_iconst (v := nI 0) hx hb d_L_law_719 (by decide) ?_
    refine va_lald hx hb hK hP 0 2 rfl rfl (i := nI 0) (vp_in_nI (by decide) (by decide)) d_L_law_720 ?_
    refine lv_iload hx hb d_L_law_721 (lv_at hl 0 rfl) ?_
    refine lv_i2l (v := (nI (frv (xs (i + 2)) fK fA fB fF fE (xr - 1 - (xs (i + 1)).toNatClampNeg))).toInt64) hx hb d_L_law_723 (by rw [hB]) ?_
    refine W.lcmp hx hb d_L_law_724 ?_
    refine nw_is (y := nI 0) (lgc _) ?_
    refine nw_ifeq hx hb (tgt := 730) d_L_law_725 (by decide) (by decide) (fun h => ?_) (fun h => absurd h (Nat.lt_irrefl 0))
    refine lv_goto hx hb d_L_law_730 (tgt := 758) (by decide) ?_
    refine W.widen (k := 16 + (j + 1)) (n := 1531 + 6 * (j + 1)) (by omega) (by omega) ?_
    exact kk _ _ _ ⟨fT, fK, fA, fB, fF, fE, xh, xg, xr, xn, gS1, gK1, gI1, gO1, gF1, gE1, gQ1, yt1, yn1, yr1, ym1, yd1, yk1, yb1, yc1, (vp_updL g 0 (nI (frv (xs (i + 2)) fK fA fB fF fE (xr - 1 - (xs (i + 1)).toNatClampNeg))).toInt64), hi1, hv1, hm1, hrel_, hP, hD, hS⟩ (lv_sub hl [2, 3, 4, 5, 6] rfl)
  · skip
    obtain ⟨hr1, hP1, hD1⟩ := q2 E her
    cases hr1
    rw [ht] at hP1
    obtain ⟨hP, hD⟩ := hJ _ hP1 hD1
    have hP := hP.sub (ws' := ((o, .inl (cL, 1, .inr (.inl g))) :: (wM u cI cZ gS gK gI gO gF gE gQ yt xh xr xg xn yk yb yc ++ wT z cI cZ fT fK fA fB fF fE xh xg xr xn))) [8, 0, 1, 2, 3, 4, 5, 6, 7, 9, 10, 11, 12, 13, 14, 15] rfl
    have hD := hD.sub (ws' := ((o, .inl (cL, 1, .inr (.inl g))) :: (wM u cI cZ gS gK gI gO gF gE gQ yt xh xr xg xn yk yb yc ++ wT z cI cZ fT fK fA fB fF fE xh xg xr xn))) [8, 0, 1, 2, 3, 4, 5, 6, 7, 9, 10, 11, 12, 13, 14, 15] (by decide) rfl
    refine lv_istore (lv' := [(5, .int (nI (cdl [NSE, IAE] E))), (4, .int (nI i)), (3, .ref o), (2, .ref (u 0)), (1, .ref (z 0)), (0, .ref b)]) hx hb d_L_law_682 hl (by decide) rfl (fun ls hl => ?_)
    refine lv_aload_n hx hb d_L_law_684 rfl (lv_at hl 3 rfl) ?_
    refine lv_aload_n hx hb d_L_law_685 rfl (lv_at hl 5 rfl) ?_
    refine lv_iload hx hb d_L_law_686 (lv_at hl 1 rfl) ?_
    refine lv_iconst (v := nI 1) hx hb d_L_law_688 (by decide) ?_
    refine nw_add hx hb d_L_law_689 ?_
    refine nw_sld hx hb hX hbl hbA hS (k := i + 1) (by omega) (by omega) d_L_law_690 ?_
    refine lv_aload_n hx hb d_L_law_691 rfl (lv_at hl 5 rfl) ?_
    refine lv_iload hx hb d_L_law_692 (lv_at hl 1 rfl) ?_
    refine lv_iconst (v := nI 2) hx hb d_L_law_694 (by decide) ?_
    refine nw_add hx hb d_L_law_695 ?_
    refine nw_sld hx hb hX hbl hbA hS (k := i + 2) (by omega) (by omega) d_L_law_696 ?_
    have hPm := hP.sub (ws' := (wM u cI cZ gS gK gI gO gF gE gQ yt xh xr xg xn yk yb yc)) [1, 2, 3, 4, 5, 6, 7, 8] rfl
    have hDm := hD.sub (ws' := (wM u cI cZ gS gK gI gO gF gE gQ yt xh xr xg xn yk yb yc)) [1, 2, 3, 4, 5, 6, 7, 8] (by decide) rfl
    refine cl_j (Wc := (wM u cI cZ gS gK gI gO gF gE gQ yt xh xr xg xn yk yb yc)) (Wr := ((o, .inl (cL, 1, .inr (.inl g))) :: wT z cI cZ fT fK fA fB fF fE xh xg xr xn)) hP hD hS hA [1, 2, 3, 4, 5, 6, 7, 8] [0, 9, 10, 11, 12, 13, 14, 15] rfl rfl (by decide) (by decide) (va_runV (b := u 0) (C := "TypeStackModel") (As := [.int (xs (i + 1)), .int (xs (i + 2))]) (rest := []) ⟨hx, hb, hml, hown, hw⟩ (c_M_frame l D u cI cZ gS gK gI gO gF gE gQ yt xh xr xg xn yk yb yc hm0 (xs (i + 1)) (xs (i + 2)) H.size) (cwV 2 hw g_L_122 rfl rfl rfl ⟨rfl, by decide, by decide, by decide +kernel⟩ ⟨by decide, by decide⟩) ⟨PW.blind, va_recv (q := (RM, FM, 15)) (ci := 1) (q0 := 0) hK2 hPm rfl rfl, PW.pre hPm hK2 hDm hS hA hE⟩ rfl rfl hl.1 rfl (lv_room (Nat.le_of_ble_eq_true rfl)) d_L_law_697 ⟨by show _ ≤ 1054; omega, by show _ ≤ 9807; omega⟩) (fun _ _ _ h => h.2) (fun v2 st2 t2 H locs hq ht hJ hS hvm2 => ?_)
    obtain ⟨⟨gS1, gK1, gI1, gO1, gF1, gE1, gQ1, yt1, yn1, yr1, ym1, yd1, yk1, yb1, yc1, v3, hr2, hpo, hm1, hP1, hD1⟩, -⟩ := hq
    cases hr2
    rw [ht] at hP1
    obtain ⟨hP, hD⟩ := hJ _ hP1 hD1
    have hP := hP.sub (ws' := ((o, .inl (cL, 1, .inr (.inl g))) :: (wM u cI cZ gS1 gK1 gI1 gO1 gF1 gE1 gQ1 yt1 yn1 yr1 ym1 yd1 yk1 yb1 yc1 ++ wT z cI cZ fT fK fA fB fF fE xh xg xr xn))) [0, 8, 9, 10, 11, 12, 13, 14, 15, 1, 2, 3, 4, 5, 6, 7] rfl
    have hD := hD.sub (ws' := ((o, .inl (cL, 1, .inr (.inl g))) :: (wM u cI cZ gS1 gK1 gI1 gO1 gF1 gE1 gQ1 yt1 yn1 yr1 ym1 yd1 yk1 yb1 yc1 ++ wT z cI cZ fT fK fA fB fF fE xh xg xr xn))) [0, 8, 9, 10, 11, 12, 13, 14, 15, 1, 2, 3, 4, 5, 6, 7] (by decide) rfl
    obtain ⟨hyt, hvv, hrel⟩ := hpo.2 E ((A_frame hT hF (xs (i + 1)) (xs (i + 2))).symm.trans her)
    subst hvv
    have hrel_ := rel_t ⟨rfl, rfl, rfl, rfl, hT, hF⟩ hrel
    refine lv_istore (lv' := [(6, .int (nI 0)), (5, .int (nI (cdl [NSE, IAE] E))), (4, .int (nI i)), (3, .ref o), (2, .ref (u 0)), (1, .ref (z 0)), (0, .ref b)]) hx hb d_L_law_700 hl (by decide) rfl (fun ls hl => ?_)
    refine lv_aload_n hx hb d_L_law_702 rfl (lv_at hl 4 rfl) ?_
    have hPm := hP.sub (ws' := (wM u cI cZ gS1 gK1 gI1 gO1 gF1 gE1 gQ1 yt1 yn1 yr1 ym1 yd1 yk1 yb1 yc1)) [1, 2, 3, 4, 5, 6, 7, 8] rfl
    have hDm := hD.sub (ws' := (wM u cI cZ gS1 gK1 gI1 gO1 gF1 gE1 gQ1 yt1 yn1 yr1 ym1 yd1 yk1 yb1 yc1)) [1, 2, 3, 4, 5, 6, 7, 8] (by decide) rfl
    refine cl_r (v := some (.int (nI yt1))) (W.runV (b := u 0) (C := "TypeStackModel") (As := []) (rest := []) ⟨hx, hb, hml, hown, hw⟩ (c_M_thrown l D u cI cZ gS1 gK1 gI1 gO1 gF1 gE1 gQ1 yt1 yn1 yr1 ym1 yd1 yk1 yb1 yc1 H.size) (cwV 0 hw g_L_74 rfl rfl rfl ⟨rfl, by decide, by decide, by decide +kernel⟩ ⟨by decide, by decide⟩) ⟨PW.blind, va_recv (q := (RM, FM, 15)) (ci := 1) (q0 := 0) hK2 hPm rfl rfl, PW.pre hPm hK2 hDm hS hA hE⟩ rfl rfl hl.1 rfl (lv_room (Nat.le_of_ble_eq_true rfl)) d_L_law_703 ⟨by show _ ≤ 1054; omega, by show _ ≤ 9807; omega⟩) ?_
    refine lv_iload hx hb d_L_law_706 (lv_at hl 1 rfl) ?_
    have hkl : cdl [NSE, IAE] E < 2 ^ 31 := Nat.lt_of_le_of_lt (cdl_in _ _) (by decide)
    refine nw_eq hx hb (tgt := 713) d_L_law_708 (by decide) (by omega) hkl (fun h => ?_) (fun h => absurd hyt h)
    refine lv_iload hx hb d_L_law_713 (lv_at hl 1 rfl) ?_
    refine nw_ifne hx hb (tgt := 730) d_L_law_715 (by decide) hkl (fun h => ?_) (fun h => absurd h (Nat.ne_of_gt (cdl_pos _ _ _)))
    refine lv_goto hx hb d_L_law_730 (tgt := 758) (by decide) ?_
    refine W.widen (k := 16 + (j + 1)) (n := 1531 + 6 * (j + 1)) (by omega) (by omega) ?_
    exact kk _ _ _ ⟨fT, fK, fA, fB, fF, fE, xh, xg, xr, xn, gS1, gK1, gI1, gO1, gF1, gE1, gQ1, yt1, yn1, yr1, ym1, yd1, yk1, yb1, yc1, g, hi0, hv0, hm1, hrel_, hP, hD, hS⟩ (lv_sub hl [2, 3, 4, 5, 6] rfl)

set_option maxHeartbeats 1000000 in
set_option maxRecDepth 100000 in
theorem law_count (K : LC l p s m meth c b L xs D cI cZ cL) (hi4 : i + 4 ≤ L) (hL : L ≤ 2048) (hj : j < 512) (hw0 : LW D z u o cI cZ cL s H locs) (hl : lv_has ls 7 [(4, .int (nI i)), (3, .ref o), (2, .ref (u 0)), (1, .ref (z 0)), (0, .ref b)])
    (kk : ∀ (H : Heap) (locs : List Loc) (ls : Array Slot), LW D z u o cI cZ cL s H locs → lv_has ls 7 [(4, .int (nI i)), (3, .ref o), (2, .ref (u 0)), (1, .ref (z 0)), (0, .ref b)] → W p l e room_1 s m #[Value.ref b] below meth c H locs (16 + (j + 1)) (1531 + 6 * (j + 1)) Q (F0 m 758 ls [])) : W p l e room_1 s m #[Value.ref b] below meth c H locs (16 + j) (1531 + 6 * j) Q (F0 m 733 ls []) := by
  obtain ⟨hl0, hx, hb, hml, hown, hw, hX, hbl, hE, hN, hK⟩ := K
  obtain ⟨fT, fK, fA, fB, fF, fE, xh, xg, xr, xn, gS, gK, gI, gO, gF, gE, gQ, yt, yn, yr, ym, yd, yk, yb, yc, g, hi0, hv0, hm0, hrel0, hP, hD, hS⟩ := hw0
  obtain ⟨rfl, rfl, rfl, rfl, hT, hF⟩ := hrel0
  have hA : ∀ q : Nat, s.heap.size ≤ q → (fun q => s.heap.size ≤ q) q := fun q h => h
  have hbA : ¬ (fun q => s.heap.size ≤ q) b := Nat.not_le.mpr hbl
  have hfl : 1 ≤ xr → gF (xr - 1) ≤ xh := fun h => by rw [← (hF (xr - 1) (by omega)).2.2.2.1]; exact hv0.2.1 h
  have hmo : xh ≤ xg := hv0.2.2.2
  have hro : ∀ j, j < xr → gF j + szL 6 (gI j) ≤ 300 := fun j h => by rw [← (hF j h).2.2.2.1, ← (hF j h).2.1]; exact hv0.2.2.1 j h
  have hK2 := hK.sub (tys' := [(cI, .int), (cZ, .boolean)]) [0, 1] rfl
  refine lv_aload_n hx hb d_L_law_733 rfl (lv_at hl 3 rfl) ?_
  refine lv_aload_n hx hb d_L_law_734 rfl (lv_at hl 4 rfl) ?_
  refine lv_iload hx hb d_L_law_735 (lv_at hl 0 rfl) ?_
  refine lv_iconst (v := nI 1) hx hb d_L_law_737 (by decide) ?_
  refine nw_add hx hb d_L_law_738 ?_
  refine nw_sld hx hb hX hbl hbA hS (k := i + 1) (by omega) (by omega) d_L_law_739 ?_
  have hPc := hP.sub (ws' := (wT z cI cZ fT fK fA fB fF fE xh xg xr xn)) [9, 10, 11, 12, 13, 14, 15] rfl
  have hDc := hD.sub (ws' := (wT z cI cZ fT fK fA fB fF fE xh xg xr xn)) [9, 10, 11, 12, 13, 14, 15] (by decide) rfl
  refine cl_r (v := some (.int (cnv (xs (i + 1)) xh xr xg xn))) (W.runV (b := z 0) (C := "TypeStack") (As := [.int (xs (i + 1))]) (rest := []) ⟨hx, hb, hml, hown, hw⟩ (c_T_count l D z cI cZ fT fK fA fB fF fE xh xg xr xn hi0 (xs (i + 1)) H.size) (cwV 1 hw g_L_123 rfl rfl rfl ⟨rfl, by decide, by decide, by decide +kernel⟩ ⟨by decide, by decide⟩) ⟨PW.blind, va_recv (q := (RT, FT, 10)) (ci := 0) (q0 := 0) hK2 hPc rfl rfl, PW.pre hPc hK2 hDc hS hA hE⟩ rfl rfl hl.1 rfl (lv_room (Nat.le_of_ble_eq_true rfl)) d_L_law_740 ⟨by show _ ≤ 1054; omega, by show _ ≤ 9807; omega⟩) ?_
  refine lv_aload_n hx hb d_L_law_743 rfl (lv_at hl 2 rfl) ?_
  refine lv_aload_n hx hb d_L_law_744 rfl (lv_at hl 4 rfl) ?_
  refine lv_iload hx hb d_L_law_745 (lv_at hl 0 rfl) ?_
  refine lv_iconst (v := nI 1) hx hb d_L_law_747 (by decide) ?_
  refine nw_add hx hb d_L_law_748 ?_
  refine nw_sld hx hb hX hbl hbA hS (k := i + 1) (by omega) (by omega) d_L_law_749 ?_
  have hPm := hP.sub (ws' := (wM u cI cZ gS gK gI gO gF gE gQ yt xh xr xg xn yk yb yc)) [1, 2, 3, 4, 5, 6, 7, 8] rfl
  have hDm := hD.sub (ws' := (wM u cI cZ gS gK gI gO gF gE gQ yt xh xr xg xn yk yb yc)) [1, 2, 3, 4, 5, 6, 7, 8] (by decide) rfl
  refine cl_j (Wc := (wM u cI cZ gS gK gI gO gF gE gQ yt xh xr xg xn yk yb yc)) (Wr := ((o, .inl (cL, 1, .inr (.inl g))) :: wT z cI cZ fT fK fA fB fF fE xh xg xr xn)) hP hD hS hA [1, 2, 3, 4, 5, 6, 7, 8] [0, 9, 10, 11, 12, 13, 14, 15] rfl rfl (by decide) (by decide) (va_runV (b := u 0) (C := "TypeStackModel") (As := [.int (xs (i + 1))]) (rest := [.int (cnv (xs (i + 1)) xh xr xg xn)]) ⟨hx, hb, hml, hown, hw⟩ (c_M_count l D u cI cZ gS gK gI gO gF gE gQ yt xh xr xg xn yk yb yc hm0 (xs (i + 1)) H.size) (cwV 1 hw g_L_126 rfl rfl rfl ⟨rfl, by decide, by decide, by decide +kernel⟩ ⟨by decide, by decide⟩) ⟨PW.blind, va_recv (q := (RM, FM, 15)) (ci := 1) (q0 := 0) hK2 hPm rfl rfl, PW.pre hPm hK2 hDm hS hA hE⟩ rfl rfl hl.1 rfl (lv_room (Nat.le_of_ble_eq_true rfl)) d_L_law_750 ⟨by show _ ≤ 1054; omega, by show _ ≤ 9807; omega⟩) (fun _ _ _ h => h.2) (fun v2 st2 t2 H locs hq ht hJ hS hvm2 => ?_)
  obtain ⟨⟨gS1, gK1, gI1, gO1, gF1, gE1, gQ1, yt1, yn1, yr1, ym1, yd1, yk1, yb1, yc1, v3, hr2, hpo, hm1, hP1, hD1⟩, -⟩ := hq
  cases hr2
  rw [ht] at hP1
  obtain ⟨hP, hD⟩ := hJ _ hP1 hD1
  have hP := hP.sub (ws' := ((o, .inl (cL, 1, .inr (.inl g))) :: (wM u cI cZ gS1 gK1 gI1 gO1 gF1 gE1 gQ1 yt1 yn1 yr1 ym1 yd1 yk1 yb1 yc1 ++ wT z cI cZ fT fK fA fB fF fE xh xg xr xn))) [0, 8, 9, 10, 11, 12, 13, 14, 15, 1, 2, 3, 4, 5, 6, 7] rfl
  have hD := hD.sub (ws' := ((o, .inl (cL, 1, .inr (.inl g))) :: (wM u cI cZ gS1 gK1 gI1 gO1 gF1 gE1 gQ1 yt1 yn1 yr1 ym1 yd1 yk1 yb1 yc1 ++ wT z cI cZ fT fK fA fB fF fE xh xg xr xn))) [0, 8, 9, 10, 11, 12, 13, 14, 15, 1, 2, 3, 4, 5, 6, 7] (by decide) rfl
  obtain ⟨hyt, hvv, hrel⟩ := hpo.1 rfl
  subst hvv
  have hrel_ := rel_t ⟨rfl, rfl, rfl, rfl, hT, hF⟩ hrel
  have hB := B_count (xg := xg) (xn := xn) hT hF (xs (i + 1))
  refine lv_icmp_eq hx hb (tgt := 758) d_L_law_753 (by decide) (fun h => ?_) (fun h => absurd hB h)
  refine W.widen (k := 16 + (j + 1)) (n := 1531 + 6 * (j + 1)) (by omega) (by omega) ?_
  exact kk _ _ _ ⟨fT, fK, fA, fB, fF, fE, xh, xg, xr, xn, gS1, gK1, gI1, gO1, gF1, gE1, gQ1, yt1, yn1, yr1, ym1, yd1, yk1, yb1, yc1, g, hi0, hv0, hm1, hrel_, hP, hD, hS⟩ (lv_sub hl [0, 1, 2, 3, 4] rfl)
end LAW
