section LOOP
variable {p : Program} {l : Launch} {e : Env} {s : State} {m : MethodId} {below : List Frame} {meth : Method} {c : Code} {Q : State → Prop}
variable {b L : Nat} {xs : Nat → Int32} {D : va_G} {z u : Nat → Nat} {o : Nat} {cI cZ cL : ClassId}

set_option maxHeartbeats 4000000 in
set_option maxRecDepth 100000 in
theorem law_head {i cells slots : Nat} {H : Heap} {locs : List Loc} {ls : Array Slot} (K : LC l p s m meth c b L xs D cI cZ cL) (hL : L ≤ 2048) (hi : i ≤ 2048) (hS : va_S (fun q => s.heap.size ≤ q) s.heap H locs) (hl : lv_has ls 7 [(4, .int (nI i)), (3, .ref o), (2, .ref (u 0)), (1, .ref (z 0)), (0, .ref b)])
    (kx : ¬ i + 4 ≤ L → W p l e room_1 s m #[Value.ref b] below meth c H locs (cells) (slots) Q (F0 m 764 ls [])) (kk : i + 4 ≤ L → W p l e room_1 s m #[Value.ref b] below meth c H locs (cells) (slots) Q (F0 m 32 ls [])) : W p l e room_1 s m #[Value.ref b] below meth c H locs (cells) (slots) Q (F0 m 23 ls []) := by
  obtain ⟨hl0, hx, hb, hml, hown, hw, hX, hbl, hE, hN, hK⟩ := K
  have hbA : ¬ (fun q => s.heap.size ≤ q) b := Nat.not_le.mpr hbl
  refine lv_iload hx hb d_L_law_23 (lv_at hl 0 rfl) ?_
  refine lv_aload_n hx hb d_L_law_25 rfl (lv_at hl 4 rfl) ?_
  refine va_slen hx hb hX hbl hbA hS d_L_law_26 ?_
  refine lv_iconst (v := nI 4) hx hb d_L_law_27 (by decide) ?_
  refine lv_isub hx hb d_L_law_28 ?_
  by_cases h4 : 4 ≤ L
  · refine nw_is (y := nI (L - 4)) (pk_sub h4) ?_
    refine nw_gt hx hb (tgt := 764) d_L_law_29 (by decide) (by omega) (by omega) (fun h => kx (by omega)) (fun h => kk (by omega))
  · refine lv_icmp_gt hx hb (tgt := 764) d_L_law_29 (by decide) (fun _ => kx (by omega)) (fun h => absurd ?_ h)
    have h1 : nI L - nI 4 < 0 := pk_sneg (by decide) (by omega)
    have h2 : ¬ nI i < 0 := nI_pos (by omega)
    rw [Int32.lt_iff_toInt_lt] at h1 h2 ⊢
    show (nI L - nI 4).toInt < (nI i).toInt
    omega

set_option maxHeartbeats 4000000 in
set_option maxRecDepth 100000 in
theorem law_sw {i j : Nat} {H : Heap} {locs : List Loc} {ls : Array Slot} (K : LC l p s m meth c b L xs D cI cZ cL) (hi4 : i + 4 ≤ L) (hL : L ≤ 2048) (hj : j < 512) (hw0 : LW D z u o cI cZ cL s H locs) (hl : lv_has ls 7 [(4, .int (nI i)), (3, .ref o), (2, .ref (u 0)), (1, .ref (z 0)), (0, .ref b)])
    (kk : ∀ (H : Heap) (locs : List Loc) (ls : Array Slot), LW D z u o cI cZ cL s H locs → lv_has ls 7 [(4, .int (nI i)), (3, .ref o), (2, .ref (u 0)), (1, .ref (z 0)), (0, .ref b)] → W p l e room_1 s m #[Value.ref b] below meth c H locs (16 + (j + 1)) (1531 + 6 * (j + 1)) Q (F0 m 758 ls [])) : W p l e room_1 s m #[Value.ref b] below meth c H locs (16 + j) (1531 + 6 * j) Q (F0 m 32 ls []) := by
  have K0 := K
  obtain ⟨hl0, hx, hb, hml, hown, hw, hX, hbl, hE, hN, hK⟩ := K
  have hbA : ¬ (fun q => s.heap.size ≤ q) b := Nat.not_le.mpr hbl
  have hS : va_S (fun q => s.heap.size ≤ q) s.heap H locs := by
    obtain ⟨_, _, _, _, _, _, _, _, _, _, _, _, _, _, _, _, _, _, _, _, _, _, _, _, _, _, h⟩ := hw0
    exact h.2.2.2.2.2.2
  refine lv_aload_n hx hb d_L_law_32 rfl (lv_at hl 4 rfl) ?_
  refine lv_iload hx hb d_L_law_33 (lv_at hl 0 rfl) ?_
  refine nw_sld hx hb hX hbl hbA hS (k := i) (by omega) (by omega) d_L_law_35 ?_
  refine lv_bipush (v := nI 15) hx hb d_L_law_36 (by decide) ?_
  refine lv_iand hx hb d_L_law_38 ?_
  obtain ⟨q, hq, he⟩ := pk_andE (xs i) (m := nI 15) 4 (by decide)
  refine nw_is (y := nI q) he ?_
  rcases (show q = 0 ∨ q = 1 ∨ q = 2 ∨ q = 3 ∨ q = 4 ∨ q = 5 ∨ q = 6 ∨ q = 7 ∨ q = 8 ∨ q = 9 ∨ q = 10 ∨ q = 11 ∨ q = 12 ∨ q = 13 ∨ q = 14 ∨ q = 15 by omega) with rfl | rfl | rfl | rfl | rfl | rfl | rfl | rfl | rfl | rfl | rfl | rfl | rfl | rfl | rfl | rfl
  · refine lv_tableIn hx hb (off := 73) (tgt := 112) d_L_law_39 (by decide) (by decide) (by decide) (by decide) ?_
    exact law_begin K0 hi4 hL hj hw0 hl kk
  · refine lv_tableIn hx hb (off := 109) (tgt := 148) d_L_law_39 (by decide) (by decide) (by decide) (by decide) ?_
    exact law_apply K0 hi4 hL hj hw0 hl kk
  · refine lv_tableIn hx hb (off := 177) (tgt := 216) d_L_law_39 (by decide) (by decide) (by decide) (by decide) ?_
    exact law_drop K0 hi4 hL hj hw0 hl kk
  · refine lv_tableIn hx hb (off := 221) (tgt := 260) d_L_law_39 (by decide) (by decide) (by decide) (by decide) ?_
    exact law_select K0 hi4 hL hj hw0 hl kk
  · refine lv_tableIn hx hb (off := 265) (tgt := 304) d_L_law_39 (by decide) (by decide) (by decide) (by decide) ?_
    exact law_block K0 hi4 hL hj hw0 hl kk
  · refine lv_tableIn hx hb (off := 345) (tgt := 384) d_L_law_39 (by decide) (by decide) (by decide) (by decide) ?_
    exact law_otherwise K0 hi4 hL hj hw0 hl kk
  · refine lv_tableIn hx hb (off := 369) (tgt := 408) d_L_law_39 (by decide) (by decide) (by decide) (by decide) ?_
    exact law_end K0 hi4 hL hj hw0 hl kk
  · refine lv_tableIn hx hb (off := 413) (tgt := 452) d_L_law_39 (by decide) (by decide) (by decide) (by decide) ?_
    exact law_leap K0 hi4 hL hj hw0 hl kk
  · refine lv_tableIn hx hb (off := 449) (tgt := 488) d_L_law_39 (by decide) (by decide) (by decide) (by decide) ?_
    exact law_leapIf K0 hi4 hL hj hw0 hl kk
  · refine lv_tableIn hx hb (off := 505) (tgt := 544) d_L_law_39 (by decide) (by decide) (by decide) (by decide) ?_
    exact law_table K0 hi4 hL hj hw0 hl kk
  · refine lv_tableIn hx hb (off := 553) (tgt := 592) d_L_law_39 (by decide) (by decide) (by decide) (by decide) ?_
    exact law_back K0 hi4 hL hj hw0 hl kk
  · refine lv_tableIn hx hb (off := 577) (tgt := 616) d_L_law_39 (by decide) (by decide) (by decide) (by decide) ?_
    exact law_never K0 hi4 hL hj hw0 hl kk
  · refine lv_tableIn hx hb (off := 601) (tgt := 640) d_L_law_39 (by decide) (by decide) (by decide) (by decide) ?_
    exact law_top K0 hi4 hL hj hw0 hl kk
  · refine lv_tableIn hx hb (off := 626) (tgt := 665) d_L_law_39 (by decide) (by decide) (by decide) (by decide) ?_
    exact law_frame K0 hi4 hL hj hw0 hl kk
  · refine lv_tableIn hx hb (off := 694) (tgt := 733) d_L_law_39 (by decide) (by decide) (by decide) (by decide) ?_
    exact law_count K0 hi4 hL hj hw0 hl kk
  · refine lv_tableOut hx hb (tgt := 758) d_L_law_39 (by decide) (by decide) ?_
    exact W.widen (k := 16 + (j + 1)) (n := 1531 + 6 * (j + 1)) (by omega) (by omega) (kk _ _ _ hw0 hl)

set_option maxHeartbeats 4000000 in
set_option maxRecDepth 100000 in
/-- the loop -/
theorem law_loop (K : LC l p s m meth c b L xs D cI cZ cL) (hL : L ≤ 2048) (kx : ∀ (cells slots : Nat) (H : Heap) (locs : List Loc) (ls : Array Slot), cells ≤ 528 → slots ≤ 4603 → (∀ q ∈ locs, s.heap.size ≤ q.base) → W p l e room_1 s m #[Value.ref b] below meth c H locs (cells) (slots) Q (F0 m 764 ls [])) :
    ∀ (n j : Nat) (H : Heap) (locs : List Loc) (ls : Array Slot), j + n = L / 4 → LW D z u o cI cZ cL s H locs → lv_has ls 7 [(4, .int (nI (4 * j))), (3, .ref o), (2, .ref (u 0)), (1, .ref (z 0)), (0, .ref b)] → W p l e room_1 s m #[Value.ref b] below meth c H locs (16 + j) (1531 + 6 * j) Q (F0 m 23 ls []) := by
  have hx := K.2.1
  have hb := K.2.2.1
  intro n
  induction n with
  | zero =>
    intro j H locs ls hn hw0 hl
    have hS : va_S (fun q => s.heap.size ≤ q) s.heap H locs := by
      obtain ⟨_, _, _, _, _, _, _, _, _, _, _, _, _, _, _, _, _, _, _, _, _, _, _, _, _, _, h⟩ := id hw0
      exact h.2.2.2.2.2.2
    exact law_head K hL (by omega) hS hl (fun _ => kx _ _ _ _ _ (by omega) (by omega) hS.2.2) (fun h => by exfalso; omega)
  | succ n ih =>
    intro j H locs ls hn hw0 hl
    have hS : va_S (fun q => s.heap.size ≤ q) s.heap H locs := by
      obtain ⟨_, _, _, _, _, _, _, _, _, _, _, _, _, _, _, _, _, _, _, _, _, _, _, _, _, _, h⟩ := id hw0
      exact h.2.2.2.2.2.2
    refine law_head K hL (by omega) hS hl (fun h => by exfalso; omega) (fun h => law_sw K h hL (by omega) hw0 hl (fun H locs ls hw1 hl => ?_))
    refine lv_iinc (k := 0) (v := nI (4 * (j + 1))) (lv' := [(4, .int (nI (4 * (j + 1)))), (3, .ref o), (2, .ref (u 0)), (1, .ref (z 0)), (0, .ref b)]) hx hb d_L_law_758 hl rfl (by rw [show Int32.ofInt 4 = nI 4 from rfl, nI_add]; rfl) (by decide) rfl (fun ls hl => ?_)
    refine lv_goto hx hb d_L_law_761 (tgt := 23) (by decide) ?_
    exact ih (j + 1) H locs ls (by omega) hw1 hl
end LOOP
