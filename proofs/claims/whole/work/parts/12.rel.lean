
/-! What the class's formulas say of two tuples that agree, and that what holds at all times goes on holding. -/
def IV (fA fF : Nat → Nat) (xh xg xr : Nat) : Prop := (∀ j, j + 1 < xr → fF j ≤ fF (j + 1)) ∧ (1 ≤ xr → fF (xr - 1) ≤ xh) ∧ (∀ j, j < xr → fF j + szL 6 (fA j) ≤ 300) ∧ xh ≤ xg
theorem orE_c {a b b' : Option String} (h : a = none → b = b') : orE a b = orE a b' := by
  cases a with
  | none => exact h rfl
  | some e => rfl
theorem orE_n {a b : Option String} (h : orE a b = none) : a = none ∧ b = none := by
  cases a with
  | none => exact ⟨rfl, h⟩
  | some e => cases h
theorem xf_r {r : Nat} {x : Int32} (h : xf r x = none) : 1 ≤ r := by
  obtain ⟨h1, h2⟩ := xf_at h
  rcases Nat.eq_zero_or_pos r with h3 | h3
  · rw [h3] at h2; exact absurd h2 h1
  · exact h3
theorem tk1_c {T T' : Nat → Nat} {F n m : Nat} (hT : ∀ j, j < m → T j = T' j) (hn : n ≤ m) : tk1 F n T = tk1 F n T' := by
  unfold tk1
  by_cases h : F < n
  · rw [if_pos h, if_pos h, hT _ (by omega)]
  · rw [if_neg h, if_neg h]
theorem hbT_c {T T' : Nat → Nat} {F E n m t : Nat} (hT : ∀ j, j < m → T j = T' j) (hn : n ≤ m) : hbT F E T n t = hbT F E T' n t := by
  unfold hbT; rw [tk1_c hT hn]
theorem hbL_c {T T' : Nat → Nat} {F E m : Nat} (hT : ∀ j, j < m → T j = T' j) : ∀ {k n d : Nat}, n ≤ m → hbL F E T k n d = hbL F E T' k n d := by
  intro k
  induction k with
  | zero => intro n d h; rfl
  | succ k ih =>
    intro n d h
    show (if d = 0 then some n else match hbT F E T n (d % 5) with | none => none | some m => hbL F E T k m (d / 5)) = (if d = 0 then some n else match hbT F E T' n (d % 5) with | none => none | some m => hbL F E T' k m (d / 5))
    rw [hbT_c hT h]
    have h2 := hbT_le F E T' n (d % 5)
    cases hq : hbT F E T' n (d % 5) with
    | none => rfl
    | some q => rw [hq] at h2; exact congrArg (fun z => if d = 0 then some n else z) (ih (Nat.le_trans h2 h))
theorem bel_c {T T' : Nat → Nat} {F E n m : Nat} {x : Int32} (hT : ∀ j, j < m → T j = T' j) (hn : n ≤ m) : bel x F E T n = bel x F E T' n := by
  unfold bel; rw [hbT_c hT hn]
theorem bl_c {T T' : Nat → Nat} {F E n m : Nat} {x : Int32} (hT : ∀ j, j < m → T j = T' j) (hn : n ≤ m) : bl x F E T n = bl x F E T' n := by
  unfold bl; rw [bel_c hT hn]
theorem bl_le {T : Nat → Nat} {F E n : Nat} {x : Int32} : bl x F E T n ≤ n := by
  unfold bl bel; split
  · exact hbT_le F E T n 1
  · exact Nat.le_refl _
theorem pl_c {f g : Nat → Nat} {a k d m : Nat} (h : ∀ j, j < m → f j = g j) (ha : a ≤ m) : ∀ j, j < a + k → pl f a k d j = pl g a k d j := by
  intro j hj
  rw [pl_eq, pl_eq]
  by_cases h1 : a ≤ j ∧ j < a + k
  · rw [if_pos h1, if_pos h1]
  · rw [if_neg h1, if_neg h1]; exact h j (by omega)
theorem up_c {f g : Nat → Nat} {k v j : Nat} (h : j ≠ k → f j = g j) : va_up f k v j = va_up g k v j := by
  unfold va_up
  by_cases hj : j = k
  · rw [if_pos hj, if_pos hj]
  · rw [if_neg hj, if_neg hj, h hj]
theorem up_s {f : Nat → Nat} {k v : Nat} : va_up f k v k = v := if_pos rfl
theorem up_n {f : Nat → Nat} {k v j : Nat} (h : j ≠ k) : va_up f k v j = f j := if_neg h
theorem hb1_ge {F E n : Nat} {X : String} (h : F ≤ n) (ho : xo X (hb1 F E n) = none) : F ≤ (hb1 F E n).getD 0 := by
  obtain ⟨m, hm⟩ := xo_none ho
  rw [hm]
  unfold hb1 at hm
  by_cases h1 : F < n
  · rw [if_pos h1] at hm; cases hm; show F ≤ n - 1; omega
  · rw [if_neg h1] at hm
    by_cases h2 : E = 0
    · rw [if_pos h2] at hm; cases hm
    · rw [if_neg h2] at hm; cases hm; exact h
theorem hbT_ge {F E n t : Nat} {T : Nat → Nat} {X : String} (h : F ≤ n) (ho : xo X (hbT F E T n t) = none) : F ≤ (hbT F E T n t).getD 0 := by
  unfold hbT at ho ⊢
  by_cases h1 : tk1 F n T ≠ t ∧ tk1 F n T ≠ 0
  · rw [if_pos h1] at ho; cases ho
  · rw [if_neg h1] at ho ⊢; exact hb1_ge h ho
theorem hbL_ge {F E : Nat} {T : Nat → Nat} {X : String} : ∀ {k n d : Nat}, F ≤ n → xo X (hbL F E T k n d) = none → F ≤ (hbL F E T k n d).getD 0 := by
  intro k
  induction k with
  | zero => intro n d h _; exact h
  | succ k ih =>
    intro n d h ho
    by_cases h0 : d = 0
    · rw [h0, hbL_zero]; exact h
    · cases hq : xo X (hbT F E T n (d % 5)) with
      | some Y => rw [hbL_fail (by omega) hq] at ho; cases ho
      | none =>
        rw [hbL_step (by omega) hq] at ho ⊢
        exact ih (hbT_ge h hq) ho
theorem bl_ge {F E n : Nat} {T : Nat → Nat} {x : Int32} {X : String} (h : F ≤ n) (ho : xo X (bel x F E T n) = none) : F ≤ bl x F E T n := by
  unfold bl
  unfold bel at ho ⊢
  by_cases h1 : x = nI 2
  · rw [if_pos h1] at ho ⊢; exact hbT_ge h ho
  · rw [if_neg h1]; exact h
theorem cty_lt {a b : Nat} (ha : a < 5) (hb : b < 5) : (cty a b).getD 0 < 5 := by
  unfold cty; (repeat' split) <;> first | (show _ < 5; assumption) | (show 0 < 5; decide)
theorem xk_lt {x : Int32} (h : xk x = none) : x.toNatClampNeg < 4 := by
  unfold xk at h
  by_cases h1 : x = 0 ∨ x = nI 1 ∨ x = nI 2
  · rcases h1 with rfl | rfl | rfl <;> decide
  · rw [if_neg h1] at h; cases h
theorem f40_lt {r : Nat} (h : f40 r = none) : r < 40 := by
  unfold f40 at h
  by_cases h1 : r < 40
  · exact h1
  · rw [if_neg h1] at h; cases h
section AB
variable {fT fK fA fB fF fE gS gK gI gO gF gE : Nat → Nat} {xh xg xr xn : Nat}
theorem rel_tr {a b c d e f g h i j : Nat → Nat} {hS hK hI hO hF' hE : Nat → Nat} {k m n o yn ym yr yd zn zm zr zd : Nat} (p : Rel a b c d e f k m n o gS gK gI gO gF gE yn ym yr yd) (q : Rel gS gK gI gO gF gE yn ym yr yd hS hK hI hO hF' hE zn zm zr zd) : Rel a b c d e f k m n o hS hK hI hO hF' hE zn zm zr zd := by
  obtain ⟨rfl, rfl, rfl, rfl, p5, p6⟩ := p
  obtain ⟨rfl, rfl, rfl, rfl, q5, q6⟩ := q
  exact ⟨rfl, rfl, rfl, rfl, fun j hj => (p5 j hj).trans (q5 j hj), fun j hj => ⟨(p6 j hj).1.trans (q6 j hj).1, (p6 j hj).2.1.trans (q6 j hj).2.1, (p6 j hj).2.2.1.trans (q6 j hj).2.2.1, (p6 j hj).2.2.2.1.trans (q6 j hj).2.2.2.1, (p6 j hj).2.2.2.2.trans (q6 j hj).2.2.2.2⟩⟩
theorem wnt_c (hF : ∀ j, j < xr → fK j = gK j ∧ fA j = gI j ∧ fB j = gO j ∧ fF j = gF j ∧ fE j = gE j) {i : Nat} (h : i < xr) : wnt fK fA fB i = wnt gK gI gO i := by
  obtain ⟨h1, h2, h3, -, -⟩ := hF i h
  unfold wnt; rw [h1, h2, h3]
theorem A_begin (hT : ∀ j, j < xh → fT j = gS j) (hF : ∀ j, j < xr → fK j = gK j ∧ fA j = gI j ∧ fB j = gO j ∧ fF j = gF j ∧ fE j = gE j) (x : Int32) : xl x = xl x := by
  rfl
theorem C_begin (hT : ∀ j, j < xh → fT j = gS j) (hF : ∀ j, j < xr → fK j = gK j ∧ fA j = gI j ∧ fB j = gO j ∧ fF j = gF j ∧ fE j = gE j) (x : Int32) (he : xl x = none) : Rel fT (va_up fK 0 0) (va_up fA 0 0) (va_up fB 0 x.toNatClampNeg) (va_up fF 0 0) (va_up fE 0 0) 0 0 (0 + 1) 0 gS (va_up gK 0 0) (va_up gI 0 0) (va_up gO 0 x.toNatClampNeg) (va_up gF 0 0) (va_up gE 0 0) 0 0 (0 + 1) 0 := by
  exact ⟨rfl, rfl, rfl, rfl, fun j h => absurd h (Nat.not_lt_zero j), fun j h => by rw [show j = 0 by omega]; exact ⟨rfl, rfl, rfl, rfl, rfl⟩⟩
theorem D_begin (hi : IT fT fK fA fB fF fE xh xg xr) (hv : IV fA fF xh xg xr) (x : Int32) (he : xl x = none) : IT fT (va_up fK 0 0) (va_up fA 0 0) (va_up fB 0 x.toNatClampNeg) (va_up fF 0 0) (va_up fE 0 0) 0 0 (0 + 1) ∧ IV (va_up fA 0 0) (va_up fF 0 0) 0 0 (0 + 1) := by
  obtain ⟨hiT, hiK, hiA, hiB, hiF, hiE, hih, hig, hir⟩ := hi
  obtain ⟨hv1, hv2, hv3, hv4⟩ := hv
  exact ⟨⟨hiT, im_upl hiK (by decide), im_upl hiA (by decide), im_upl hiB (xl_lt he), im_up hiF (by decide), im_up hiE (by decide), by decide, by decide, by decide⟩, fun j h => by omega, fun _ => Nat.le_refl 0, fun j h => by rw [show j = 0 by omega]; exact (by decide : 0 + szL 6 0 ≤ 300), Nat.le_refl 0⟩
theorem A_apply (hT : ∀ j, j < xh → fT j = gS j) (hF : ∀ j, j < xr → fK j = gK j ∧ fA j = gI j ∧ fB j = gO j ∧ fF j = gF j ∧ fE j = gE j) (x y : Int32) : orE (xl x) (orE (xl y) (orE (nf xr) (orE (xo ISE (hbL (fF (xr - 1)) (fE (xr - 1)) fT 6 xh x.toNatClampNeg)) (rmE ((hbL (fF (xr - 1)) (fE (xr - 1)) fT 6 xh x.toNatClampNeg).getD 0 + szL 6 y.toNatClampNeg))))) = orE (xl x) (orE (xl y) (orE (nf xr) (orE (xo ISE (hbL (gF (xr - 1)) (gE (xr - 1)) gS 6 xh x.toNatClampNeg)) (rmE ((hbL (gF (xr - 1)) (gE (xr - 1)) gS 6 xh x.toNatClampNeg).getD 0 + szL 6 y.toNatClampNeg))))) := by
  refine orE_c fun h1 => orE_c fun h2 => orE_c fun h3 => ?_
  have hr := nf_pos h3
  obtain ⟨eK, eA, eB, eF, eE⟩ := hF (xr - 1) (by omega)
  rw [eF, eE, hbL_c hT (Nat.le_refl _)]
theorem B_apply (hT : ∀ j, j < xh → fT j = gS j) (hF : ∀ j, j < xr → fK j = gK j ∧ fA j = gI j ∧ fB j = gO j ∧ fF j = gF j ∧ fE j = gE j) (x y : Int32) (he : orE (xl x) (orE (xl y) (orE (nf xr) (orE (xo ISE (hbL (fF (xr - 1)) (fE (xr - 1)) fT 6 xh x.toNatClampNeg)) (rmE ((hbL (fF (xr - 1)) (fE (xr - 1)) fT 6 xh x.toNatClampNeg).getD 0 + szL 6 y.toNatClampNeg))))) = none) : nI ((hbL (fF (xr - 1)) (fE (xr - 1)) fT 6 xh x.toNatClampNeg).getD 0 + szL 6 y.toNatClampNeg) = nI ((hbL (gF (xr - 1)) (gE (xr - 1)) gS 6 xh x.toNatClampNeg).getD 0 + szL 6 y.toNatClampNeg) := by
  obtain ⟨h1, he⟩ := orE_n he
  obtain ⟨h2, he⟩ := orE_n he
  obtain ⟨h3, he⟩ := orE_n he
  have hr := nf_pos h3
  obtain ⟨eK, eA, eB, eF, eE⟩ := hF (xr - 1) (by omega)
  rw [eF, eE, hbL_c hT (Nat.le_refl _)]
theorem C_apply (hT : ∀ j, j < xh → fT j = gS j) (hF : ∀ j, j < xr → fK j = gK j ∧ fA j = gI j ∧ fB j = gO j ∧ fF j = gF j ∧ fE j = gE j) (x y : Int32) (he : orE (xl x) (orE (xl y) (orE (nf xr) (orE (xo ISE (hbL (fF (xr - 1)) (fE (xr - 1)) fT 6 xh x.toNatClampNeg)) (rmE ((hbL (fF (xr - 1)) (fE (xr - 1)) fT 6 xh x.toNatClampNeg).getD 0 + szL 6 y.toNatClampNeg))))) = none) : Rel (pl fT ((hbL (fF (xr - 1)) (fE (xr - 1)) fT 6 xh x.toNatClampNeg).getD 0) (szL 6 y.toNatClampNeg) y.toNatClampNeg) fK fA fB fF fE (((hbL (fF (xr - 1)) (fE (xr - 1)) fT 6 xh x.toNatClampNeg).getD 0) + szL 6 y.toNatClampNeg) (max xg (((hbL (fF (xr - 1)) (fE (xr - 1)) fT 6 xh x.toNatClampNeg).getD 0) + szL 6 y.toNatClampNeg)) xr (xn + 1) (pl gS ((hbL (gF (xr - 1)) (gE (xr - 1)) gS 6 xh x.toNatClampNeg).getD 0) (szL 6 y.toNatClampNeg) y.toNatClampNeg) gK gI gO gF gE (((hbL (gF (xr - 1)) (gE (xr - 1)) gS 6 xh x.toNatClampNeg).getD 0) + szL 6 y.toNatClampNeg) (max xg (((hbL (gF (xr - 1)) (gE (xr - 1)) gS 6 xh x.toNatClampNeg).getD 0) + szL 6 y.toNatClampNeg)) xr (xn + 1) := by
  obtain ⟨h1, he⟩ := orE_n he
  obtain ⟨h2, he⟩ := orE_n he
  obtain ⟨h3, he⟩ := orE_n he
  have hr := nf_pos h3
  obtain ⟨eK, eA, eB, eF, eE⟩ := hF (xr - 1) (by omega)
  rw [eF, eE, hbL_c hT (Nat.le_refl _)]
  exact ⟨rfl, rfl, rfl, rfl, pl_c hT (hbL_le _ _ _ _ _ _), hF⟩
theorem D_apply (hi : IT fT fK fA fB fF fE xh xg xr) (hv : IV fA fF xh xg xr) (x y : Int32) (he : orE (xl x) (orE (xl y) (orE (nf xr) (orE (xo ISE (hbL (fF (xr - 1)) (fE (xr - 1)) fT 6 xh x.toNatClampNeg)) (rmE ((hbL (fF (xr - 1)) (fE (xr - 1)) fT 6 xh x.toNatClampNeg).getD 0 + szL 6 y.toNatClampNeg))))) = none) : IT (pl fT ((hbL (fF (xr - 1)) (fE (xr - 1)) fT 6 xh x.toNatClampNeg).getD 0) (szL 6 y.toNatClampNeg) y.toNatClampNeg) fK fA fB fF fE (((hbL (fF (xr - 1)) (fE (xr - 1)) fT 6 xh x.toNatClampNeg).getD 0) + szL 6 y.toNatClampNeg) (max xg (((hbL (fF (xr - 1)) (fE (xr - 1)) fT 6 xh x.toNatClampNeg).getD 0) + szL 6 y.toNatClampNeg)) xr ∧ IV fA fF (((hbL (fF (xr - 1)) (fE (xr - 1)) fT 6 xh x.toNatClampNeg).getD 0) + szL 6 y.toNatClampNeg) (max xg (((hbL (fF (xr - 1)) (fE (xr - 1)) fT 6 xh x.toNatClampNeg).getD 0) + szL 6 y.toNatClampNeg)) xr := by
  obtain ⟨hiT, hiK, hiA, hiB, hiF, hiE, hih, hig, hir⟩ := hi
  obtain ⟨hv1, hv2, hv3, hv4⟩ := hv
  obtain ⟨h1, he⟩ := orE_n he
  obtain ⟨h2, he⟩ := orE_n he
  obtain ⟨h3, he⟩ := orE_n he
  obtain ⟨h4, h5⟩ := orE_n he
  have hr := nf_pos h3
  have h6 := rm_le h5
  have h7 := hbL_ge (hv2 hr) h4
  exact ⟨⟨pl_lt hiT, hiK, hiA, hiB, hiF, hiE, h6, Nat.max_le.mpr ⟨hig, h6⟩, hir⟩, hv1, fun _ => by omega, hv3, Nat.le_max_right _ _⟩
theorem A_drop (hT : ∀ j, j < xh → fT j = gS j) (hF : ∀ j, j < xr → fK j = gK j ∧ fA j = gI j ∧ fB j = gO j ∧ fF j = gF j ∧ fE j = gE j) : orE (nf xr) (xo ISE (hb1 (fF (xr - 1)) (fE (xr - 1)) xh)) = orE (nf xr) (xo ISE (hb1 (gF (xr - 1)) (gE (xr - 1)) xh)) := by
  refine orE_c fun h3 => ?_
  have hr := nf_pos h3
  obtain ⟨eK, eA, eB, eF, eE⟩ := hF (xr - 1) (by omega)
  rw [eF, eE]
theorem B_drop (hT : ∀ j, j < xh → fT j = gS j) (hF : ∀ j, j < xr → fK j = gK j ∧ fA j = gI j ∧ fB j = gO j ∧ fF j = gF j ∧ fE j = gE j) (he : orE (nf xr) (xo ISE (hb1 (fF (xr - 1)) (fE (xr - 1)) xh)) = none) : nI (tk1 (fF (xr - 1)) xh fT) = nI (tk1 (gF (xr - 1)) xh gS) := by
  obtain ⟨h3, he⟩ := orE_n he
  have hr := nf_pos h3
  obtain ⟨eK, eA, eB, eF, eE⟩ := hF (xr - 1) (by omega)
  rw [eF, tk1_c hT (Nat.le_refl _)]
theorem C_drop (hT : ∀ j, j < xh → fT j = gS j) (hF : ∀ j, j < xr → fK j = gK j ∧ fA j = gI j ∧ fB j = gO j ∧ fF j = gF j ∧ fE j = gE j) (he : orE (nf xr) (xo ISE (hb1 (fF (xr - 1)) (fE (xr - 1)) xh)) = none) : Rel fT fK fA fB fF fE ((hb1 (fF (xr - 1)) (fE (xr - 1)) xh).getD 0) xg xr (xn + 1) gS gK gI gO gF gE ((hb1 (gF (xr - 1)) (gE (xr - 1)) xh).getD 0) xg xr (xn + 1) := by
  obtain ⟨h3, he⟩ := orE_n he
  have hr := nf_pos h3
  obtain ⟨eK, eA, eB, eF, eE⟩ := hF (xr - 1) (by omega)
  rw [eF, eE]
  exact ⟨rfl, rfl, rfl, rfl, fun j h => hT j (Nat.lt_of_lt_of_le h (hb1_le _ _ _)), hF⟩
theorem D_drop (hi : IT fT fK fA fB fF fE xh xg xr) (hv : IV fA fF xh xg xr) (he : orE (nf xr) (xo ISE (hb1 (fF (xr - 1)) (fE (xr - 1)) xh)) = none) : IT fT fK fA fB fF fE ((hb1 (fF (xr - 1)) (fE (xr - 1)) xh).getD 0) xg xr ∧ IV fA fF ((hb1 (fF (xr - 1)) (fE (xr - 1)) xh).getD 0) xg xr := by
  obtain ⟨hiT, hiK, hiA, hiB, hiF, hiE, hih, hig, hir⟩ := hi
  obtain ⟨hv1, hv2, hv3, hv4⟩ := hv
  obtain ⟨h3, he⟩ := orE_n he
  have hr := nf_pos h3
  have h6 := hb1_le (fF (xr - 1)) (fE (xr - 1)) xh
  have h7 := hb1_ge (hv2 hr) he
  exact ⟨⟨hiT, hiK, hiA, hiB, hiF, hiE, by omega, hig, hir⟩, hv1, fun _ => h7, hv3, by omega⟩
theorem A_select (hT : ∀ j, j < xh → fT j = gS j) (hF : ∀ j, j < xr → fK j = gK j ∧ fA j = gI j ∧ fB j = gO j ∧ fF j = gF j ∧ fE j = gE j) : orE (nf xr) (orE (xo ISE (hbT (fF (xr - 1)) (fE (xr - 1)) fT xh 1)) (orE (xo ISE (hb1 (fF (xr - 1)) (fE (xr - 1)) ((hbT (fF (xr - 1)) (fE (xr - 1)) fT xh 1).getD 0))) (orE (xo ISE (hb1 (fF (xr - 1)) (fE (xr - 1)) ((hb1 (fF (xr - 1)) (fE (xr - 1)) ((hbT (fF (xr - 1)) (fE (xr - 1)) fT xh 1).getD 0)).getD 0))) (orE (xo UOE (cty (tk1 (fF (xr - 1)) ((hbT (fF (xr - 1)) (fE (xr - 1)) fT xh 1).getD 0) fT) (tk1 (fF (xr - 1)) ((hb1 (fF (xr - 1)) (fE (xr - 1)) ((hbT (fF (xr - 1)) (fE (xr - 1)) fT xh 1).getD 0)).getD 0) fT))) (rmE ((hb1 (fF (xr - 1)) (fE (xr - 1)) ((hb1 (fF (xr - 1)) (fE (xr - 1)) ((hbT (fF (xr - 1)) (fE (xr - 1)) fT xh 1).getD 0)).getD 0)).getD 0 + 1)))))) = orE (nf xr) (orE (xo ISE (hbT (gF (xr - 1)) (gE (xr - 1)) gS xh 1)) (orE (xo ISE (hb1 (gF (xr - 1)) (gE (xr - 1)) ((hbT (gF (xr - 1)) (gE (xr - 1)) gS xh 1).getD 0))) (orE (xo ISE (hb1 (gF (xr - 1)) (gE (xr - 1)) ((hb1 (gF (xr - 1)) (gE (xr - 1)) ((hbT (gF (xr - 1)) (gE (xr - 1)) gS xh 1).getD 0)).getD 0))) (orE (xo UOE (cty (tk1 (gF (xr - 1)) ((hbT (gF (xr - 1)) (gE (xr - 1)) gS xh 1).getD 0) gS) (tk1 (gF (xr - 1)) ((hb1 (gF (xr - 1)) (gE (xr - 1)) ((hbT (gF (xr - 1)) (gE (xr - 1)) gS xh 1).getD 0)).getD 0) gS))) (rmE ((hb1 (gF (xr - 1)) (gE (xr - 1)) ((hb1 (gF (xr - 1)) (gE (xr - 1)) ((hbT (gF (xr - 1)) (gE (xr - 1)) gS xh 1).getD 0)).getD 0)).getD 0 + 1)))))) := by
  refine orE_c fun h3 => ?_
  have hr := nf_pos h3
  obtain ⟨eK, eA, eB, eF, eE⟩ := hF (xr - 1) (by omega)
  rw [eF, eE, hbT_c hT (Nat.le_refl _)]
  have q1 := hbT_le (gF (xr - 1)) (gE (xr - 1)) gS xh 1
  have q2 := hb1_le (gF (xr - 1)) (gE (xr - 1)) ((hbT (gF (xr - 1)) (gE (xr - 1)) gS xh 1).getD 0)
  have q3 := hb1_le (gF (xr - 1)) (gE (xr - 1)) ((hb1 (gF (xr - 1)) (gE (xr - 1)) ((hbT (gF (xr - 1)) (gE (xr - 1)) gS xh 1).getD 0)).getD 0)
  rw [tk1_c hT q1, tk1_c hT (Nat.le_trans q2 q1)]
theorem B_select (hT : ∀ j, j < xh → fT j = gS j) (hF : ∀ j, j < xr → fK j = gK j ∧ fA j = gI j ∧ fB j = gO j ∧ fF j = gF j ∧ fE j = gE j) (he : orE (nf xr) (orE (xo ISE (hbT (fF (xr - 1)) (fE (xr - 1)) fT xh 1)) (orE (xo ISE (hb1 (fF (xr - 1)) (fE (xr - 1)) ((hbT (fF (xr - 1)) (fE (xr - 1)) fT xh 1).getD 0))) (orE (xo ISE (hb1 (fF (xr - 1)) (fE (xr - 1)) ((hb1 (fF (xr - 1)) (fE (xr - 1)) ((hbT (fF (xr - 1)) (fE (xr - 1)) fT xh 1).getD 0)).getD 0))) (orE (xo UOE (cty (tk1 (fF (xr - 1)) ((hbT (fF (xr - 1)) (fE (xr - 1)) fT xh 1).getD 0) fT) (tk1 (fF (xr - 1)) ((hb1 (fF (xr - 1)) (fE (xr - 1)) ((hbT (fF (xr - 1)) (fE (xr - 1)) fT xh 1).getD 0)).getD 0) fT))) (rmE ((hb1 (fF (xr - 1)) (fE (xr - 1)) ((hb1 (fF (xr - 1)) (fE (xr - 1)) ((hbT (fF (xr - 1)) (fE (xr - 1)) fT xh 1).getD 0)).getD 0)).getD 0 + 1)))))) = none) : nI ((cty (tk1 (fF (xr - 1)) ((hbT (fF (xr - 1)) (fE (xr - 1)) fT xh 1).getD 0) fT) (tk1 (fF (xr - 1)) ((hb1 (fF (xr - 1)) (fE (xr - 1)) ((hbT (fF (xr - 1)) (fE (xr - 1)) fT xh 1).getD 0)).getD 0) fT)).getD 0) = nI ((cty (tk1 (gF (xr - 1)) ((hbT (gF (xr - 1)) (gE (xr - 1)) gS xh 1).getD 0) gS) (tk1 (gF (xr - 1)) ((hb1 (gF (xr - 1)) (gE (xr - 1)) ((hbT (gF (xr - 1)) (gE (xr - 1)) gS xh 1).getD 0)).getD 0) gS)).getD 0) := by
  obtain ⟨h3, he⟩ := orE_n he
  have hr := nf_pos h3
  obtain ⟨eK, eA, eB, eF, eE⟩ := hF (xr - 1) (by omega)
  rw [eF, eE, hbT_c hT (Nat.le_refl _)]
  have q1 := hbT_le (gF (xr - 1)) (gE (xr - 1)) gS xh 1
  have q2 := hb1_le (gF (xr - 1)) (gE (xr - 1)) ((hbT (gF (xr - 1)) (gE (xr - 1)) gS xh 1).getD 0)
  have q3 := hb1_le (gF (xr - 1)) (gE (xr - 1)) ((hb1 (gF (xr - 1)) (gE (xr - 1)) ((hbT (gF (xr - 1)) (gE (xr - 1)) gS xh 1).getD 0)).getD 0)
  rw [tk1_c hT q1, tk1_c hT (Nat.le_trans q2 q1)]
theorem C_select (hT : ∀ j, j < xh → fT j = gS j) (hF : ∀ j, j < xr → fK j = gK j ∧ fA j = gI j ∧ fB j = gO j ∧ fF j = gF j ∧ fE j = gE j) (he : orE (nf xr) (orE (xo ISE (hbT (fF (xr - 1)) (fE (xr - 1)) fT xh 1)) (orE (xo ISE (hb1 (fF (xr - 1)) (fE (xr - 1)) ((hbT (fF (xr - 1)) (fE (xr - 1)) fT xh 1).getD 0))) (orE (xo ISE (hb1 (fF (xr - 1)) (fE (xr - 1)) ((hb1 (fF (xr - 1)) (fE (xr - 1)) ((hbT (fF (xr - 1)) (fE (xr - 1)) fT xh 1).getD 0)).getD 0))) (orE (xo UOE (cty (tk1 (fF (xr - 1)) ((hbT (fF (xr - 1)) (fE (xr - 1)) fT xh 1).getD 0) fT) (tk1 (fF (xr - 1)) ((hb1 (fF (xr - 1)) (fE (xr - 1)) ((hbT (fF (xr - 1)) (fE (xr - 1)) fT xh 1).getD 0)).getD 0) fT))) (rmE ((hb1 (fF (xr - 1)) (fE (xr - 1)) ((hb1 (fF (xr - 1)) (fE (xr - 1)) ((hbT (fF (xr - 1)) (fE (xr - 1)) fT xh 1).getD 0)).getD 0)).getD 0 + 1)))))) = none) : Rel (va_up fT ((hb1 (fF (xr - 1)) (fE (xr - 1)) ((hb1 (fF (xr - 1)) (fE (xr - 1)) ((hbT (fF (xr - 1)) (fE (xr - 1)) fT xh 1).getD 0)).getD 0)).getD 0) ((cty (tk1 (fF (xr - 1)) ((hbT (fF (xr - 1)) (fE (xr - 1)) fT xh 1).getD 0) fT) (tk1 (fF (xr - 1)) ((hb1 (fF (xr - 1)) (fE (xr - 1)) ((hbT (fF (xr - 1)) (fE (xr - 1)) fT xh 1).getD 0)).getD 0) fT)).getD 0)) fK fA fB fF fE ((hb1 (fF (xr - 1)) (fE (xr - 1)) ((hb1 (fF (xr - 1)) (fE (xr - 1)) ((hbT (fF (xr - 1)) (fE (xr - 1)) fT xh 1).getD 0)).getD 0)).getD 0 + 1) (max xg ((hb1 (fF (xr - 1)) (fE (xr - 1)) ((hb1 (fF (xr - 1)) (fE (xr - 1)) ((hbT (fF (xr - 1)) (fE (xr - 1)) fT xh 1).getD 0)).getD 0)).getD 0 + 1)) xr (xn + 1) (va_up gS ((hb1 (gF (xr - 1)) (gE (xr - 1)) ((hb1 (gF (xr - 1)) (gE (xr - 1)) ((hbT (gF (xr - 1)) (gE (xr - 1)) gS xh 1).getD 0)).getD 0)).getD 0) ((cty (tk1 (gF (xr - 1)) ((hbT (gF (xr - 1)) (gE (xr - 1)) gS xh 1).getD 0) gS) (tk1 (gF (xr - 1)) ((hb1 (gF (xr - 1)) (gE (xr - 1)) ((hbT (gF (xr - 1)) (gE (xr - 1)) gS xh 1).getD 0)).getD 0) gS)).getD 0)) gK gI gO gF gE ((hb1 (gF (xr - 1)) (gE (xr - 1)) ((hb1 (gF (xr - 1)) (gE (xr - 1)) ((hbT (gF (xr - 1)) (gE (xr - 1)) gS xh 1).getD 0)).getD 0)).getD 0 + 1) (max xg ((hb1 (gF (xr - 1)) (gE (xr - 1)) ((hb1 (gF (xr - 1)) (gE (xr - 1)) ((hbT (gF (xr - 1)) (gE (xr - 1)) gS xh 1).getD 0)).getD 0)).getD 0 + 1)) xr (xn + 1) := by
  obtain ⟨h3, he⟩ := orE_n he
  have hr := nf_pos h3
  obtain ⟨eK, eA, eB, eF, eE⟩ := hF (xr - 1) (by omega)
  rw [eF, eE, hbT_c hT (Nat.le_refl _)]
  have q1 := hbT_le (gF (xr - 1)) (gE (xr - 1)) gS xh 1
  have q2 := hb1_le (gF (xr - 1)) (gE (xr - 1)) ((hbT (gF (xr - 1)) (gE (xr - 1)) gS xh 1).getD 0)
  have q3 := hb1_le (gF (xr - 1)) (gE (xr - 1)) ((hb1 (gF (xr - 1)) (gE (xr - 1)) ((hbT (gF (xr - 1)) (gE (xr - 1)) gS xh 1).getD 0)).getD 0)
  rw [tk1_c hT q1, tk1_c hT (Nat.le_trans q2 q1)]
  exact ⟨rfl, rfl, rfl, rfl, fun j h => up_c (fun hn => hT j (by omega)), hF⟩
theorem D_select (hi : IT fT fK fA fB fF fE xh xg xr) (hv : IV fA fF xh xg xr) (he : orE (nf xr) (orE (xo ISE (hbT (fF (xr - 1)) (fE (xr - 1)) fT xh 1)) (orE (xo ISE (hb1 (fF (xr - 1)) (fE (xr - 1)) ((hbT (fF (xr - 1)) (fE (xr - 1)) fT xh 1).getD 0))) (orE (xo ISE (hb1 (fF (xr - 1)) (fE (xr - 1)) ((hb1 (fF (xr - 1)) (fE (xr - 1)) ((hbT (fF (xr - 1)) (fE (xr - 1)) fT xh 1).getD 0)).getD 0))) (orE (xo UOE (cty (tk1 (fF (xr - 1)) ((hbT (fF (xr - 1)) (fE (xr - 1)) fT xh 1).getD 0) fT) (tk1 (fF (xr - 1)) ((hb1 (fF (xr - 1)) (fE (xr - 1)) ((hbT (fF (xr - 1)) (fE (xr - 1)) fT xh 1).getD 0)).getD 0) fT))) (rmE ((hb1 (fF (xr - 1)) (fE (xr - 1)) ((hb1 (fF (xr - 1)) (fE (xr - 1)) ((hbT (fF (xr - 1)) (fE (xr - 1)) fT xh 1).getD 0)).getD 0)).getD 0 + 1)))))) = none) : IT (va_up fT ((hb1 (fF (xr - 1)) (fE (xr - 1)) ((hb1 (fF (xr - 1)) (fE (xr - 1)) ((hbT (fF (xr - 1)) (fE (xr - 1)) fT xh 1).getD 0)).getD 0)).getD 0) ((cty (tk1 (fF (xr - 1)) ((hbT (fF (xr - 1)) (fE (xr - 1)) fT xh 1).getD 0) fT) (tk1 (fF (xr - 1)) ((hb1 (fF (xr - 1)) (fE (xr - 1)) ((hbT (fF (xr - 1)) (fE (xr - 1)) fT xh 1).getD 0)).getD 0) fT)).getD 0)) fK fA fB fF fE ((hb1 (fF (xr - 1)) (fE (xr - 1)) ((hb1 (fF (xr - 1)) (fE (xr - 1)) ((hbT (fF (xr - 1)) (fE (xr - 1)) fT xh 1).getD 0)).getD 0)).getD 0 + 1) (max xg ((hb1 (fF (xr - 1)) (fE (xr - 1)) ((hb1 (fF (xr - 1)) (fE (xr - 1)) ((hbT (fF (xr - 1)) (fE (xr - 1)) fT xh 1).getD 0)).getD 0)).getD 0 + 1)) xr ∧ IV fA fF ((hb1 (fF (xr - 1)) (fE (xr - 1)) ((hb1 (fF (xr - 1)) (fE (xr - 1)) ((hbT (fF (xr - 1)) (fE (xr - 1)) fT xh 1).getD 0)).getD 0)).getD 0 + 1) (max xg ((hb1 (fF (xr - 1)) (fE (xr - 1)) ((hb1 (fF (xr - 1)) (fE (xr - 1)) ((hbT (fF (xr - 1)) (fE (xr - 1)) fT xh 1).getD 0)).getD 0)).getD 0 + 1)) xr := by
  obtain ⟨hiT, hiK, hiA, hiB, hiF, hiE, hih, hig, hir⟩ := hi
  obtain ⟨hv1, hv2, hv3, hv4⟩ := hv
  obtain ⟨h3, he⟩ := orE_n he
  have hr := nf_pos h3
  obtain ⟨h4, he⟩ := orE_n he
  obtain ⟨h5, he⟩ := orE_n he
  obtain ⟨h6, he⟩ := orE_n he
  obtain ⟨h7, he⟩ := orE_n he
  have h8 := rm_le he
  have q1 := hbT_ge (hv2 hr) h4
  have q2 := hb1_ge q1 h5
  have q3 := hb1_ge q2 h6
  exact ⟨⟨im_upl hiT (cty_lt (tk1_lt hiT) (tk1_lt hiT)), hiK, hiA, hiB, hiF, hiE, h8, Nat.max_le.mpr ⟨hig, h8⟩, hir⟩, hv1, fun _ => by omega, hv3, Nat.le_max_right _ _⟩
theorem A_block (hT : ∀ j, j < xh → fT j = gS j) (hF : ∀ j, j < xr → fK j = gK j ∧ fA j = gI j ∧ fB j = gO j ∧ fF j = gF j ∧ fE j = gE j) (x y v : Int32) : orE (xk x) (orE (xl y) (orE (xl v) (orE (nf xr) (orE (xo ISE (bel x (fF (xr - 1)) (fE (xr - 1)) fT xh)) (orE (xo ISE (hbL (fF (xr - 1)) (fE (xr - 1)) fT 6 (bl x (fF (xr - 1)) (fE (xr - 1)) fT xh) y.toNatClampNeg)) (orE (rmE ((hbL (fF (xr - 1)) (fE (xr - 1)) fT 6 (bl x (fF (xr - 1)) (fE (xr - 1)) fT xh) y.toNatClampNeg).getD 0 + szL 6 y.toNatClampNeg)) (f40 xr))))))) = orE (xk x) (orE (xl y) (orE (xl v) (orE (nf xr) (orE (xo ISE (bel x (gF (xr - 1)) (gE (xr - 1)) gS xh)) (orE (xo ISE (hbL (gF (xr - 1)) (gE (xr - 1)) gS 6 (bl x (gF (xr - 1)) (gE (xr - 1)) gS xh) y.toNatClampNeg)) (orE (rmE ((hbL (gF (xr - 1)) (gE (xr - 1)) gS 6 (bl x (gF (xr - 1)) (gE (xr - 1)) gS xh) y.toNatClampNeg).getD 0 + szL 6 y.toNatClampNeg)) (f40 xr))))))) := by
  refine orE_c fun h1 => orE_c fun h2 => orE_c fun h3 => orE_c fun h4 => ?_
  have hr := nf_pos h4
  obtain ⟨eK, eA, eB, eF, eE⟩ := hF (xr - 1) (by omega)
  rw [eF, eE, bel_c hT (Nat.le_refl _), bl_c hT (Nat.le_refl _), hbL_c hT bl_le]
theorem B_block (hT : ∀ j, j < xh → fT j = gS j) (hF : ∀ j, j < xr → fK j = gK j ∧ fA j = gI j ∧ fB j = gO j ∧ fF j = gF j ∧ fE j = gE j) (x y v : Int32) (he : orE (xk x) (orE (xl y) (orE (xl v) (orE (nf xr) (orE (xo ISE (bel x (fF (xr - 1)) (fE (xr - 1)) fT xh)) (orE (xo ISE (hbL (fF (xr - 1)) (fE (xr - 1)) fT 6 (bl x (fF (xr - 1)) (fE (xr - 1)) fT xh) y.toNatClampNeg)) (orE (rmE ((hbL (fF (xr - 1)) (fE (xr - 1)) fT 6 (bl x (fF (xr - 1)) (fE (xr - 1)) fT xh) y.toNatClampNeg).getD 0 + szL 6 y.toNatClampNeg)) (f40 xr))))))) = none) : nI (xr + 1) = nI (xr + 1) := by
  rfl
theorem C_block (hT : ∀ j, j < xh → fT j = gS j) (hF : ∀ j, j < xr → fK j = gK j ∧ fA j = gI j ∧ fB j = gO j ∧ fF j = gF j ∧ fE j = gE j) (x y v : Int32) (he : orE (xk x) (orE (xl y) (orE (xl v) (orE (nf xr) (orE (xo ISE (bel x (fF (xr - 1)) (fE (xr - 1)) fT xh)) (orE (xo ISE (hbL (fF (xr - 1)) (fE (xr - 1)) fT 6 (bl x (fF (xr - 1)) (fE (xr - 1)) fT xh) y.toNatClampNeg)) (orE (rmE ((hbL (fF (xr - 1)) (fE (xr - 1)) fT 6 (bl x (fF (xr - 1)) (fE (xr - 1)) fT xh) y.toNatClampNeg).getD 0 + szL 6 y.toNatClampNeg)) (f40 xr))))))) = none) : Rel (pl fT ((hbL (fF (xr - 1)) (fE (xr - 1)) fT 6 (bl x (fF (xr - 1)) (fE (xr - 1)) fT xh) y.toNatClampNeg).getD 0) (szL 6 y.toNatClampNeg) y.toNatClampNeg) (va_up fK xr x.toNatClampNeg) (va_up fA xr y.toNatClampNeg) (va_up fB xr v.toNatClampNeg) (va_up fF xr ((hbL (fF (xr - 1)) (fE (xr - 1)) fT 6 (bl x (fF (xr - 1)) (fE (xr - 1)) fT xh) y.toNatClampNeg).getD 0)) (va_up fE xr 0) (((hbL (fF (xr - 1)) (fE (xr - 1)) fT 6 (bl x (fF (xr - 1)) (fE (xr - 1)) fT xh) y.toNatClampNeg).getD 0) + szL 6 y.toNatClampNeg) (max xg (((hbL (fF (xr - 1)) (fE (xr - 1)) fT 6 (bl x (fF (xr - 1)) (fE (xr - 1)) fT xh) y.toNatClampNeg).getD 0) + szL 6 y.toNatClampNeg)) (xr + 1) (xn + 1) (pl gS ((hbL (gF (xr - 1)) (gE (xr - 1)) gS 6 (bl x (gF (xr - 1)) (gE (xr - 1)) gS xh) y.toNatClampNeg).getD 0) (szL 6 y.toNatClampNeg) y.toNatClampNeg) (va_up gK xr x.toNatClampNeg) (va_up gI xr y.toNatClampNeg) (va_up gO xr v.toNatClampNeg) (va_up gF xr ((hbL (gF (xr - 1)) (gE (xr - 1)) gS 6 (bl x (gF (xr - 1)) (gE (xr - 1)) gS xh) y.toNatClampNeg).getD 0)) (va_up gE xr 0) (((hbL (gF (xr - 1)) (gE (xr - 1)) gS 6 (bl x (gF (xr - 1)) (gE (xr - 1)) gS xh) y.toNatClampNeg).getD 0) + szL 6 y.toNatClampNeg) (max xg (((hbL (gF (xr - 1)) (gE (xr - 1)) gS 6 (bl x (gF (xr - 1)) (gE (xr - 1)) gS xh) y.toNatClampNeg).getD 0) + szL 6 y.toNatClampNeg)) (xr + 1) (xn + 1) := by
  obtain ⟨h1, he⟩ := orE_n he
  obtain ⟨h2, he⟩ := orE_n he
  obtain ⟨h3, he⟩ := orE_n he
  obtain ⟨h4, he⟩ := orE_n he
  have hr := nf_pos h4
  obtain ⟨eK, eA, eB, eF, eE⟩ := hF (xr - 1) (by omega)
  rw [eF, eE, bl_c hT (Nat.le_refl _), hbL_c hT bl_le]
  refine ⟨rfl, rfl, rfl, rfl, pl_c hT (Nat.le_trans (hbL_le _ _ _ _ _ _) bl_le), fun j h => ?_⟩
  exact ⟨up_c fun q => (hF j (by omega)).1, up_c fun q => (hF j (by omega)).2.1, up_c fun q => (hF j (by omega)).2.2.1, up_c fun q => (hF j (by omega)).2.2.2.1, up_c fun q => (hF j (by omega)).2.2.2.2⟩
theorem D_block (hi : IT fT fK fA fB fF fE xh xg xr) (hv : IV fA fF xh xg xr) (x y v : Int32) (he : orE (xk x) (orE (xl y) (orE (xl v) (orE (nf xr) (orE (xo ISE (bel x (fF (xr - 1)) (fE (xr - 1)) fT xh)) (orE (xo ISE (hbL (fF (xr - 1)) (fE (xr - 1)) fT 6 (bl x (fF (xr - 1)) (fE (xr - 1)) fT xh) y.toNatClampNeg)) (orE (rmE ((hbL (fF (xr - 1)) (fE (xr - 1)) fT 6 (bl x (fF (xr - 1)) (fE (xr - 1)) fT xh) y.toNatClampNeg).getD 0 + szL 6 y.toNatClampNeg)) (f40 xr))))))) = none) : IT (pl fT ((hbL (fF (xr - 1)) (fE (xr - 1)) fT 6 (bl x (fF (xr - 1)) (fE (xr - 1)) fT xh) y.toNatClampNeg).getD 0) (szL 6 y.toNatClampNeg) y.toNatClampNeg) (va_up fK xr x.toNatClampNeg) (va_up fA xr y.toNatClampNeg) (va_up fB xr v.toNatClampNeg) (va_up fF xr ((hbL (fF (xr - 1)) (fE (xr - 1)) fT 6 (bl x (fF (xr - 1)) (fE (xr - 1)) fT xh) y.toNatClampNeg).getD 0)) (va_up fE xr 0) (((hbL (fF (xr - 1)) (fE (xr - 1)) fT 6 (bl x (fF (xr - 1)) (fE (xr - 1)) fT xh) y.toNatClampNeg).getD 0) + szL 6 y.toNatClampNeg) (max xg (((hbL (fF (xr - 1)) (fE (xr - 1)) fT 6 (bl x (fF (xr - 1)) (fE (xr - 1)) fT xh) y.toNatClampNeg).getD 0) + szL 6 y.toNatClampNeg)) (xr + 1) ∧ IV (va_up fA xr y.toNatClampNeg) (va_up fF xr ((hbL (fF (xr - 1)) (fE (xr - 1)) fT 6 (bl x (fF (xr - 1)) (fE (xr - 1)) fT xh) y.toNatClampNeg).getD 0)) (((hbL (fF (xr - 1)) (fE (xr - 1)) fT 6 (bl x (fF (xr - 1)) (fE (xr - 1)) fT xh) y.toNatClampNeg).getD 0) + szL 6 y.toNatClampNeg) (max xg (((hbL (fF (xr - 1)) (fE (xr - 1)) fT 6 (bl x (fF (xr - 1)) (fE (xr - 1)) fT xh) y.toNatClampNeg).getD 0) + szL 6 y.toNatClampNeg)) (xr + 1) := by
  obtain ⟨hiT, hiK, hiA, hiB, hiF, hiE, hih, hig, hir⟩ := hi
  obtain ⟨hv1, hv2, hv3, hv4⟩ := hv
  obtain ⟨h1, he⟩ := orE_n he
  obtain ⟨h2, he⟩ := orE_n he
  obtain ⟨h3, he⟩ := orE_n he
  obtain ⟨h4, he⟩ := orE_n he
  have hr := nf_pos h4
  obtain ⟨h5, he⟩ := orE_n he
  obtain ⟨h6, he⟩ := orE_n he
  obtain ⟨h7, he⟩ := orE_n he
  have h8 := rm_le h7
  have h9 := f40_lt he
  have q1 := bl_ge (hv2 hr) h5
  have q2 := hbL_ge q1 h6
  have q3 := szL_le 6 y.toNatClampNeg
  generalize (hbL (fF (xr - 1)) (fE (xr - 1)) fT 6 (bl x (fF (xr - 1)) (fE (xr - 1)) fT xh) y.toNatClampNeg).getD 0 = L at h8 q2 ⊢
  refine ⟨⟨pl_lt hiT, im_upl hiK (xk_lt h1), im_upl hiA (xl_lt h2), im_upl hiB (xl_lt h3), im_up hiF (by omega), im_up hiE (by decide), h8, Nat.max_le.mpr ⟨hig, h8⟩, h9⟩, fun j h => ?_, fun _ => ?_, fun j h => ?_, Nat.le_max_right _ _⟩
  · rw [up_n (by omega)]
    by_cases hj : j + 1 = xr
    · rw [hj, up_s, show j = xr - 1 by omega]; exact q2
    · rw [up_n hj]; exact hv1 j (by omega)
  · rw [show xr + 1 - 1 = xr by omega, up_s]; omega
  · by_cases hj : j = xr
    · rw [hj, up_s, up_s]; exact h8
    · rw [up_n hj, up_n hj]; exact hv3 j (by omega)
theorem A_otherwise (hT : ∀ j, j < xh → fT j = gS j) (hF : ∀ j, j < xr → fK j = gK j ∧ fA j = gI j ∧ fB j = gO j ∧ fF j = gF j ∧ fE j = gE j) : orE (nf xr) (orE (ifE (fK (xr - 1))) (jw (fF (xr - 1)) (hbL (fF (xr - 1)) (fE (xr - 1)) fT 6 xh (fB (xr - 1))))) = orE (nf xr) (orE (ifE (gK (xr - 1))) (jw (gF (xr - 1)) (hbL (gF (xr - 1)) (gE (xr - 1)) gS 6 xh (gO (xr - 1))))) := by
  refine orE_c fun h1 => ?_
  have hr := nf_pos h1
  obtain ⟨eK, eA, eB, eF, eE⟩ := hF (xr - 1) (by omega)
  rw [eF, eE, eK, eB, hbL_c hT (Nat.le_refl _)]
theorem C_otherwise (hT : ∀ j, j < xh → fT j = gS j) (hF : ∀ j, j < xr → fK j = gK j ∧ fA j = gI j ∧ fB j = gO j ∧ fF j = gF j ∧ fE j = gE j) (hfl : 1 ≤ xr → fF (xr - 1) ≤ xh) (he : orE (nf xr) (orE (ifE (fK (xr - 1))) (jw (fF (xr - 1)) (hbL (fF (xr - 1)) (fE (xr - 1)) fT 6 xh (fB (xr - 1))))) = none) : Rel (pl fT (fF (xr - 1)) (szL 6 (fA (xr - 1))) (fA (xr - 1))) (va_up fK (xr - 1) 3) fA fB fF (va_up fE (xr - 1) 0) ((fF (xr - 1)) + szL 6 (fA (xr - 1))) (max xg ((fF (xr - 1)) + szL 6 (fA (xr - 1)))) xr (xn + 1) (pl gS (gF (xr - 1)) (szL 6 (gI (xr - 1))) (gI (xr - 1))) (va_up gK (xr - 1) 3) gI gO gF (va_up gE (xr - 1) 0) ((gF (xr - 1)) + szL 6 (gI (xr - 1))) (max xg ((gF (xr - 1)) + szL 6 (gI (xr - 1)))) xr (xn + 1) := by
  obtain ⟨h3, he⟩ := orE_n he
  have hr := nf_pos h3
  obtain ⟨eK, eA, eB, eF, eE⟩ := hF (xr - 1) (by omega)
  have h4 := hfl hr
  rw [eF] at h4
  rw [eF, eA]
  exact ⟨rfl, rfl, rfl, rfl, pl_c hT h4, fun j h => ⟨up_c fun q => (hF j h).1, (hF j h).2.1, (hF j h).2.2.1, (hF j h).2.2.2.1, up_c fun q => (hF j h).2.2.2.2⟩⟩
theorem D_otherwise (hi : IT fT fK fA fB fF fE xh xg xr) (hv : IV fA fF xh xg xr) (he : orE (nf xr) (orE (ifE (fK (xr - 1))) (jw (fF (xr - 1)) (hbL (fF (xr - 1)) (fE (xr - 1)) fT 6 xh (fB (xr - 1))))) = none) : IT (pl fT (fF (xr - 1)) (szL 6 (fA (xr - 1))) (fA (xr - 1))) (va_up fK (xr - 1) 3) fA fB fF (va_up fE (xr - 1) 0) ((fF (xr - 1)) + szL 6 (fA (xr - 1))) (max xg ((fF (xr - 1)) + szL 6 (fA (xr - 1)))) xr ∧ IV fA fF ((fF (xr - 1)) + szL 6 (fA (xr - 1))) (max xg ((fF (xr - 1)) + szL 6 (fA (xr - 1)))) xr := by
  obtain ⟨hiT, hiK, hiA, hiB, hiF, hiE, hih, hig, hir⟩ := hi
  obtain ⟨hv1, hv2, hv3, hv4⟩ := hv
  obtain ⟨h3, he⟩ := orE_n he
  have hr := nf_pos h3
  have h4 := hv3 (xr - 1) (by omega)
  exact ⟨⟨pl_lt hiT, im_upl hiK (by decide), hiA, hiB, hiF, im_up hiE (by decide), h4, Nat.max_le.mpr ⟨hig, h4⟩, hir⟩, hv1, fun _ => Nat.le_add_right _ _, hv3, Nat.le_max_right _ _⟩
theorem A_end (hT : ∀ j, j < xh → fT j = gS j) (hF : ∀ j, j < xr → fK j = gK j ∧ fA j = gI j ∧ fB j = gO j ∧ fF j = gF j ∧ fE j = gE j) : orE (nf xr) (orE (ifL (fK (xr - 1)) (fA (xr - 1)) (fB (xr - 1))) (orE (jw (fF (xr - 1)) (hbL (fF (xr - 1)) (fE (xr - 1)) fT 6 xh (fB (xr - 1)))) (rmE (fF (xr - 1) + szL 6 (fB (xr - 1)))))) = orE (nf xr) (orE (ifL (gK (xr - 1)) (gI (xr - 1)) (gO (xr - 1))) (orE (jw (gF (xr - 1)) (hbL (gF (xr - 1)) (gE (xr - 1)) gS 6 xh (gO (xr - 1)))) (rmE (gF (xr - 1) + szL 6 (gO (xr - 1)))))) := by
  refine orE_c fun h1 => ?_
  have hr := nf_pos h1
  obtain ⟨eK, eA, eB, eF, eE⟩ := hF (xr - 1) (by omega)
  rw [eF, eE, eK, eA, eB, hbL_c hT (Nat.le_refl _)]
theorem B_end (hT : ∀ j, j < xh → fT j = gS j) (hF : ∀ j, j < xr → fK j = gK j ∧ fA j = gI j ∧ fB j = gO j ∧ fF j = gF j ∧ fE j = gE j) (he : orE (nf xr) (orE (ifL (fK (xr - 1)) (fA (xr - 1)) (fB (xr - 1))) (orE (jw (fF (xr - 1)) (hbL (fF (xr - 1)) (fE (xr - 1)) fT 6 xh (fB (xr - 1)))) (rmE (fF (xr - 1) + szL 6 (fB (xr - 1)))))) = none) : nI (xr - 1) = nI (xr - 1) := by
  rfl
theorem C_end (hT : ∀ j, j < xh → fT j = gS j) (hF : ∀ j, j < xr → fK j = gK j ∧ fA j = gI j ∧ fB j = gO j ∧ fF j = gF j ∧ fE j = gE j) (hfl : 1 ≤ xr → fF (xr - 1) ≤ xh) (he : orE (nf xr) (orE (ifL (fK (xr - 1)) (fA (xr - 1)) (fB (xr - 1))) (orE (jw (fF (xr - 1)) (hbL (fF (xr - 1)) (fE (xr - 1)) fT 6 xh (fB (xr - 1)))) (rmE (fF (xr - 1) + szL 6 (fB (xr - 1)))))) = none) : Rel (pl fT (fF (xr - 1)) (szL 6 (fB (xr - 1))) (fB (xr - 1))) fK fA fB fF fE ((fF (xr - 1)) + szL 6 (fB (xr - 1))) (max xg ((fF (xr - 1)) + szL 6 (fB (xr - 1)))) (xr - 1) (xn + 1) (pl gS (gF (xr - 1)) (szL 6 (gO (xr - 1))) (gO (xr - 1))) gK gI gO gF gE ((gF (xr - 1)) + szL 6 (gO (xr - 1))) (max xg ((gF (xr - 1)) + szL 6 (gO (xr - 1)))) (xr - 1) (xn + 1) := by
  obtain ⟨h3, he⟩ := orE_n he
  have hr := nf_pos h3
  obtain ⟨eK, eA, eB, eF, eE⟩ := hF (xr - 1) (by omega)
  have h4 := hfl hr
  rw [eF] at h4
  rw [eF, eB]
  exact ⟨rfl, rfl, rfl, rfl, pl_c hT h4, fun j h => hF j (by omega)⟩
theorem D_end (hi : IT fT fK fA fB fF fE xh xg xr) (hv : IV fA fF xh xg xr) (he : orE (nf xr) (orE (ifL (fK (xr - 1)) (fA (xr - 1)) (fB (xr - 1))) (orE (jw (fF (xr - 1)) (hbL (fF (xr - 1)) (fE (xr - 1)) fT 6 xh (fB (xr - 1)))) (rmE (fF (xr - 1) + szL 6 (fB (xr - 1)))))) = none) : IT (pl fT (fF (xr - 1)) (szL 6 (fB (xr - 1))) (fB (xr - 1))) fK fA fB fF fE ((fF (xr - 1)) + szL 6 (fB (xr - 1))) (max xg ((fF (xr - 1)) + szL 6 (fB (xr - 1)))) (xr - 1) ∧ IV fA fF ((fF (xr - 1)) + szL 6 (fB (xr - 1))) (max xg ((fF (xr - 1)) + szL 6 (fB (xr - 1)))) (xr - 1) := by
  obtain ⟨hiT, hiK, hiA, hiB, hiF, hiE, hih, hig, hir⟩ := hi
  obtain ⟨hv1, hv2, hv3, hv4⟩ := hv
  obtain ⟨h3, he⟩ := orE_n he
  have hr := nf_pos h3
  obtain ⟨h4, he⟩ := orE_n he
  obtain ⟨h5, he⟩ := orE_n he
  have h8 := rm_le he
  refine ⟨⟨pl_lt hiT, hiK, hiA, hiB, hiF, hiE, h8, Nat.max_le.mpr ⟨hig, h8⟩, by omega⟩, fun j h => hv1 j (by omega), fun h => ?_, fun j h => hv3 j (by omega), Nat.le_max_right _ _⟩
  have := hv1 (xr - 1 - 1) (by omega)
  rw [show xr - 1 - 1 + 1 = xr - 1 by omega] at this
  omega
theorem A_leap (hT : ∀ j, j < xh → fT j = gS j) (hF : ∀ j, j < xr → fK j = gK j ∧ fA j = gI j ∧ fB j = gO j ∧ fF j = gF j ∧ fE j = gE j) (x : Int32) : orE (xf xr x) (xo ISE (hbL (fF (xr - 1)) (fE (xr - 1)) fT 6 xh (wnt fK fA fB (xr - 1 - x.toNatClampNeg)))) = orE (xf xr x) (xo ISE (hbL (gF (xr - 1)) (gE (xr - 1)) gS 6 xh (wnt gK gI gO (xr - 1 - x.toNatClampNeg)))) := by
  refine orE_c fun h1 => ?_
  obtain ⟨hx1, hx2⟩ := xf_at h1
  have hr := xf_r h1
  have wx := wnt_c hF (i := xr - 1 - x.toNatClampNeg) (by omega)
  obtain ⟨eK, eA, eB, eF, eE⟩ := hF (xr - 1) (by omega)
  rw [eF, eE, wx, hbL_c hT (Nat.le_refl _)]
theorem C_leap (hT : ∀ j, j < xh → fT j = gS j) (hF : ∀ j, j < xr → fK j = gK j ∧ fA j = gI j ∧ fB j = gO j ∧ fF j = gF j ∧ fE j = gE j) (hfl : 1 ≤ xr → fF (xr - 1) ≤ xh) (x : Int32) (he : orE (xf xr x) (xo ISE (hbL (fF (xr - 1)) (fE (xr - 1)) fT 6 xh (wnt fK fA fB (xr - 1 - x.toNatClampNeg)))) = none) : Rel fT fK fA fB fF (va_up fE (xr - 1) 1) (fF (xr - 1)) xg xr (xn + 1) gS gK gI gO gF (va_up gE (xr - 1) 1) (gF (xr - 1)) xg xr (xn + 1) := by
  obtain ⟨h3, he⟩ := orE_n he
  obtain ⟨hx1, hx2⟩ := xf_at h3
  have hr := xf_r h3
  have wx := wnt_c hF (i := xr - 1 - x.toNatClampNeg) (by omega)
  obtain ⟨eK, eA, eB, eF, eE⟩ := hF (xr - 1) (by omega)
  have h9 := hfl hr
  rw [eF] at h9
  rw [eF]
  exact ⟨rfl, rfl, rfl, rfl, fun j h => hT j (Nat.lt_of_lt_of_le h h9), fun j h => ⟨(hF j h).1, (hF j h).2.1, (hF j h).2.2.1, (hF j h).2.2.2.1, up_c fun q => (hF j h).2.2.2.2⟩⟩
theorem D_leap (hi : IT fT fK fA fB fF fE xh xg xr) (hv : IV fA fF xh xg xr) (x : Int32) (he : orE (xf xr x) (xo ISE (hbL (fF (xr - 1)) (fE (xr - 1)) fT 6 xh (wnt fK fA fB (xr - 1 - x.toNatClampNeg)))) = none) : IT fT fK fA fB fF (va_up fE (xr - 1) 1) (fF (xr - 1)) xg xr ∧ IV fA fF (fF (xr - 1)) xg xr := by
  obtain ⟨hiT, hiK, hiA, hiB, hiF, hiE, hih, hig, hir⟩ := hi
  obtain ⟨hv1, hv2, hv3, hv4⟩ := hv
  obtain ⟨h3, he⟩ := orE_n he
  have hr := xf_r h3
  exact ⟨⟨hiT, hiK, hiA, hiB, hiF, im_up hiE (by decide), hiF _, hig, hir⟩, hv1, fun _ => Nat.le_refl _, hv3, Nat.le_trans (hv2 hr) hv4⟩
theorem A_back (hT : ∀ j, j < xh → fT j = gS j) (hF : ∀ j, j < xr → fK j = gK j ∧ fA j = gI j ∧ fB j = gO j ∧ fF j = gF j ∧ fE j = gE j) : orE (nf xr) (xo ISE (hbL (fF (xr - 1)) (fE (xr - 1)) fT 6 xh (fB 0))) = orE (nf xr) (xo ISE (hbL (gF (xr - 1)) (gE (xr - 1)) gS 6 xh (gO 0))) := by
  refine orE_c fun h1 => ?_
  have hr := nf_pos h1
  obtain ⟨eK, eA, eB, eF, eE⟩ := hF (xr - 1) (by omega)
  rw [eF, eE, (hF 0 (by omega)).2.2.1, hbL_c hT (Nat.le_refl _)]
theorem C_back (hT : ∀ j, j < xh → fT j = gS j) (hF : ∀ j, j < xr → fK j = gK j ∧ fA j = gI j ∧ fB j = gO j ∧ fF j = gF j ∧ fE j = gE j) (hfl : 1 ≤ xr → fF (xr - 1) ≤ xh) (he : orE (nf xr) (xo ISE (hbL (fF (xr - 1)) (fE (xr - 1)) fT 6 xh (fB 0))) = none) : Rel fT fK fA fB fF (va_up fE (xr - 1) 1) (fF (xr - 1)) xg xr (xn + 1) gS gK gI gO gF (va_up gE (xr - 1) 1) (gF (xr - 1)) xg xr (xn + 1) := by
  obtain ⟨h3, he⟩ := orE_n he
  have hr := nf_pos h3
  obtain ⟨eK, eA, eB, eF, eE⟩ := hF (xr - 1) (by omega)
  have h9 := hfl hr
  rw [eF] at h9
  rw [eF]
  exact ⟨rfl, rfl, rfl, rfl, fun j h => hT j (Nat.lt_of_lt_of_le h h9), fun j h => ⟨(hF j h).1, (hF j h).2.1, (hF j h).2.2.1, (hF j h).2.2.2.1, up_c fun q => (hF j h).2.2.2.2⟩⟩
theorem D_back (hi : IT fT fK fA fB fF fE xh xg xr) (hv : IV fA fF xh xg xr) (he : orE (nf xr) (xo ISE (hbL (fF (xr - 1)) (fE (xr - 1)) fT 6 xh (fB 0))) = none) : IT fT fK fA fB fF (va_up fE (xr - 1) 1) (fF (xr - 1)) xg xr ∧ IV fA fF (fF (xr - 1)) xg xr := by
  obtain ⟨hiT, hiK, hiA, hiB, hiF, hiE, hih, hig, hir⟩ := hi
  obtain ⟨hv1, hv2, hv3, hv4⟩ := hv
  obtain ⟨h3, he⟩ := orE_n he
  have hr := nf_pos h3
  exact ⟨⟨hiT, hiK, hiA, hiB, hiF, im_up hiE (by decide), hiF _, hig, hir⟩, hv1, fun _ => Nat.le_refl _, hv3, Nat.le_trans (hv2 hr) hv4⟩
theorem A_never (hT : ∀ j, j < xh → fT j = gS j) (hF : ∀ j, j < xr → fK j = gK j ∧ fA j = gI j ∧ fB j = gO j ∧ fF j = gF j ∧ fE j = gE j) : nf xr = nf xr := by
  rfl
theorem C_never (hT : ∀ j, j < xh → fT j = gS j) (hF : ∀ j, j < xr → fK j = gK j ∧ fA j = gI j ∧ fB j = gO j ∧ fF j = gF j ∧ fE j = gE j) (hfl : 1 ≤ xr → fF (xr - 1) ≤ xh) (he : nf xr = none) : Rel fT fK fA fB fF (va_up fE (xr - 1) 1) (fF (xr - 1)) xg xr (xn + 1) gS gK gI gO gF (va_up gE (xr - 1) 1) (gF (xr - 1)) xg xr (xn + 1) := by
  have hr := nf_pos he
  obtain ⟨eK, eA, eB, eF, eE⟩ := hF (xr - 1) (by omega)
  have h9 := hfl hr
  rw [eF] at h9
  rw [eF]
  exact ⟨rfl, rfl, rfl, rfl, fun j h => hT j (Nat.lt_of_lt_of_le h h9), fun j h => ⟨(hF j h).1, (hF j h).2.1, (hF j h).2.2.1, (hF j h).2.2.2.1, up_c fun q => (hF j h).2.2.2.2⟩⟩
theorem D_never (hi : IT fT fK fA fB fF fE xh xg xr) (hv : IV fA fF xh xg xr) (he : nf xr = none) : IT fT fK fA fB fF (va_up fE (xr - 1) 1) (fF (xr - 1)) xg xr ∧ IV fA fF (fF (xr - 1)) xg xr := by
  obtain ⟨hiT, hiK, hiA, hiB, hiF, hiE, hih, hig, hir⟩ := hi
  obtain ⟨hv1, hv2, hv3, hv4⟩ := hv
  have hr := nf_pos he
  exact ⟨⟨hiT, hiK, hiA, hiB, hiF, im_up hiE (by decide), hiF _, hig, hir⟩, hv1, fun _ => Nat.le_refl _, hv3, Nat.le_trans (hv2 hr) hv4⟩
theorem A_table (hT : ∀ j, j < xh → fT j = gS j) (hF : ∀ j, j < xr → fK j = gK j ∧ fA j = gI j ∧ fB j = gO j ∧ fF j = gF j ∧ fE j = gE j) (x y : Int32) : orE (xf xr x) (orE (xf xr y) (orE (szE (wnt fK fA fB (xr - 1 - x.toNatClampNeg)) (wnt fK fA fB (xr - 1 - y.toNatClampNeg))) (orE (xo ISE (hbT (fF (xr - 1)) (fE (xr - 1)) fT xh 1)) (orE (xo ISE (hbL (fF (xr - 1)) (fE (xr - 1)) fT 6 ((hbT (fF (xr - 1)) (fE (xr - 1)) fT xh 1).getD 0) (wnt fK fA fB (xr - 1 - x.toNatClampNeg)))) (xo ISE (hbL (fF (xr - 1)) (fE (xr - 1)) fT 6 ((hbT (fF (xr - 1)) (fE (xr - 1)) fT xh 1).getD 0) (wnt fK fA fB (xr - 1 - y.toNatClampNeg)))))))) = orE (xf xr x) (orE (xf xr y) (orE (szE (wnt gK gI gO (xr - 1 - x.toNatClampNeg)) (wnt gK gI gO (xr - 1 - y.toNatClampNeg))) (orE (xo ISE (hbT (gF (xr - 1)) (gE (xr - 1)) gS xh 1)) (orE (xo ISE (hbL (gF (xr - 1)) (gE (xr - 1)) gS 6 ((hbT (gF (xr - 1)) (gE (xr - 1)) gS xh 1).getD 0) (wnt gK gI gO (xr - 1 - x.toNatClampNeg)))) (xo ISE (hbL (gF (xr - 1)) (gE (xr - 1)) gS 6 ((hbT (gF (xr - 1)) (gE (xr - 1)) gS xh 1).getD 0) (wnt gK gI gO (xr - 1 - y.toNatClampNeg)))))))) := by
  refine orE_c fun h1 => orE_c fun h2 => ?_
  obtain ⟨hx1, hx2⟩ := xf_at h1
  have hr := xf_r h1
  have wx := wnt_c hF (i := xr - 1 - x.toNatClampNeg) (by omega)
  obtain ⟨eK, eA, eB, eF, eE⟩ := hF (xr - 1) (by omega)
  have wy := wnt_c hF (i := xr - 1 - y.toNatClampNeg) (by omega)
  rw [eF, eE, wx, wy, hbT_c hT (Nat.le_refl _), hbL_c hT (hbT_le _ _ _ _ _), hbL_c hT (hbT_le _ _ _ _ _)]
theorem C_table (hT : ∀ j, j < xh → fT j = gS j) (hF : ∀ j, j < xr → fK j = gK j ∧ fA j = gI j ∧ fB j = gO j ∧ fF j = gF j ∧ fE j = gE j) (hfl : 1 ≤ xr → fF (xr - 1) ≤ xh) (x y : Int32) (he : orE (xf xr x) (orE (xf xr y) (orE (szE (wnt fK fA fB (xr - 1 - x.toNatClampNeg)) (wnt fK fA fB (xr - 1 - y.toNatClampNeg))) (orE (xo ISE (hbT (fF (xr - 1)) (fE (xr - 1)) fT xh 1)) (orE (xo ISE (hbL (fF (xr - 1)) (fE (xr - 1)) fT 6 ((hbT (fF (xr - 1)) (fE (xr - 1)) fT xh 1).getD 0) (wnt fK fA fB (xr - 1 - x.toNatClampNeg)))) (xo ISE (hbL (fF (xr - 1)) (fE (xr - 1)) fT 6 ((hbT (fF (xr - 1)) (fE (xr - 1)) fT xh 1).getD 0) (wnt fK fA fB (xr - 1 - y.toNatClampNeg)))))))) = none) : Rel fT fK fA fB fF (va_up fE (xr - 1) 1) (fF (xr - 1)) xg xr (xn + 1) gS gK gI gO gF (va_up gE (xr - 1) 1) (gF (xr - 1)) xg xr (xn + 1) := by
  obtain ⟨h3, he⟩ := orE_n he
  obtain ⟨hx1, hx2⟩ := xf_at h3
  have hr := xf_r h3
  have wx := wnt_c hF (i := xr - 1 - x.toNatClampNeg) (by omega)
  obtain ⟨eK, eA, eB, eF, eE⟩ := hF (xr - 1) (by omega)
  have h9 := hfl hr
  rw [eF] at h9
  rw [eF]
  exact ⟨rfl, rfl, rfl, rfl, fun j h => hT j (Nat.lt_of_lt_of_le h h9), fun j h => ⟨(hF j h).1, (hF j h).2.1, (hF j h).2.2.1, (hF j h).2.2.2.1, up_c fun q => (hF j h).2.2.2.2⟩⟩
theorem D_table (hi : IT fT fK fA fB fF fE xh xg xr) (hv : IV fA fF xh xg xr) (x y : Int32) (he : orE (xf xr x) (orE (xf xr y) (orE (szE (wnt fK fA fB (xr - 1 - x.toNatClampNeg)) (wnt fK fA fB (xr - 1 - y.toNatClampNeg))) (orE (xo ISE (hbT (fF (xr - 1)) (fE (xr - 1)) fT xh 1)) (orE (xo ISE (hbL (fF (xr - 1)) (fE (xr - 1)) fT 6 ((hbT (fF (xr - 1)) (fE (xr - 1)) fT xh 1).getD 0) (wnt fK fA fB (xr - 1 - x.toNatClampNeg)))) (xo ISE (hbL (fF (xr - 1)) (fE (xr - 1)) fT 6 ((hbT (fF (xr - 1)) (fE (xr - 1)) fT xh 1).getD 0) (wnt fK fA fB (xr - 1 - y.toNatClampNeg)))))))) = none) : IT fT fK fA fB fF (va_up fE (xr - 1) 1) (fF (xr - 1)) xg xr ∧ IV fA fF (fF (xr - 1)) xg xr := by
  obtain ⟨hiT, hiK, hiA, hiB, hiF, hiE, hih, hig, hir⟩ := hi
  obtain ⟨hv1, hv2, hv3, hv4⟩ := hv
  obtain ⟨h3, he⟩ := orE_n he
  have hr := xf_r h3
  exact ⟨⟨hiT, hiK, hiA, hiB, hiF, im_up hiE (by decide), hiF _, hig, hir⟩, hv1, fun _ => Nat.le_refl _, hv3, Nat.le_trans (hv2 hr) hv4⟩
theorem A_leapIf (hT : ∀ j, j < xh → fT j = gS j) (hF : ∀ j, j < xr → fK j = gK j ∧ fA j = gI j ∧ fB j = gO j ∧ fF j = gF j ∧ fE j = gE j) (x : Int32) : orE (xf xr x) (orE (xo ISE (hbT (fF (xr - 1)) (fE (xr - 1)) fT xh 1)) (orE (xo ISE (hbL (fF (xr - 1)) (fE (xr - 1)) fT 6 ((hbT (fF (xr - 1)) (fE (xr - 1)) fT xh 1).getD 0) (wnt fK fA fB (xr - 1 - x.toNatClampNeg)))) (rmE ((hbL (fF (xr - 1)) (fE (xr - 1)) fT 6 ((hbT (fF (xr - 1)) (fE (xr - 1)) fT xh 1).getD 0) (wnt fK fA fB (xr - 1 - x.toNatClampNeg))).getD 0 + szL 6 (wnt fK fA fB (xr - 1 - x.toNatClampNeg)))))) = orE (xf xr x) (orE (xo ISE (hbT (gF (xr - 1)) (gE (xr - 1)) gS xh 1)) (orE (xo ISE (hbL (gF (xr - 1)) (gE (xr - 1)) gS 6 ((hbT (gF (xr - 1)) (gE (xr - 1)) gS xh 1).getD 0) (wnt gK gI gO (xr - 1 - x.toNatClampNeg)))) (rmE ((hbL (gF (xr - 1)) (gE (xr - 1)) gS 6 ((hbT (gF (xr - 1)) (gE (xr - 1)) gS xh 1).getD 0) (wnt gK gI gO (xr - 1 - x.toNatClampNeg))).getD 0 + szL 6 (wnt gK gI gO (xr - 1 - x.toNatClampNeg)))))) := by
  refine orE_c fun h1 => ?_
  obtain ⟨hx1, hx2⟩ := xf_at h1
  have hr := xf_r h1
  have wx := wnt_c hF (i := xr - 1 - x.toNatClampNeg) (by omega)
  obtain ⟨eK, eA, eB, eF, eE⟩ := hF (xr - 1) (by omega)
  rw [eF, eE, wx, hbT_c hT (Nat.le_refl _), hbL_c hT (hbT_le _ _ _ _ _)]
theorem B_leapIf (hT : ∀ j, j < xh → fT j = gS j) (hF : ∀ j, j < xr → fK j = gK j ∧ fA j = gI j ∧ fB j = gO j ∧ fF j = gF j ∧ fE j = gE j) (x : Int32) (he : orE (xf xr x) (orE (xo ISE (hbT (fF (xr - 1)) (fE (xr - 1)) fT xh 1)) (orE (xo ISE (hbL (fF (xr - 1)) (fE (xr - 1)) fT 6 ((hbT (fF (xr - 1)) (fE (xr - 1)) fT xh 1).getD 0) (wnt fK fA fB (xr - 1 - x.toNatClampNeg)))) (rmE ((hbL (fF (xr - 1)) (fE (xr - 1)) fT 6 ((hbT (fF (xr - 1)) (fE (xr - 1)) fT xh 1).getD 0) (wnt fK fA fB (xr - 1 - x.toNatClampNeg))).getD 0 + szL 6 (wnt fK fA fB (xr - 1 - x.toNatClampNeg)))))) = none) : nI ((hbL (fF (xr - 1)) (fE (xr - 1)) fT 6 ((hbT (fF (xr - 1)) (fE (xr - 1)) fT xh 1).getD 0) (wnt fK fA fB (xr - 1 - x.toNatClampNeg))).getD 0 + szL 6 (wnt fK fA fB (xr - 1 - x.toNatClampNeg))) = nI ((hbL (gF (xr - 1)) (gE (xr - 1)) gS 6 ((hbT (gF (xr - 1)) (gE (xr - 1)) gS xh 1).getD 0) (wnt gK gI gO (xr - 1 - x.toNatClampNeg))).getD 0 + szL 6 (wnt gK gI gO (xr - 1 - x.toNatClampNeg))) := by
  obtain ⟨h3, he⟩ := orE_n he
  obtain ⟨hx1, hx2⟩ := xf_at h3
  have hr := xf_r h3
  have wx := wnt_c hF (i := xr - 1 - x.toNatClampNeg) (by omega)
  obtain ⟨eK, eA, eB, eF, eE⟩ := hF (xr - 1) (by omega)
  rw [eF, eE, wx, hbT_c hT (Nat.le_refl _), hbL_c hT (hbT_le _ _ _ _ _)]
theorem C_leapIf (hT : ∀ j, j < xh → fT j = gS j) (hF : ∀ j, j < xr → fK j = gK j ∧ fA j = gI j ∧ fB j = gO j ∧ fF j = gF j ∧ fE j = gE j) (x : Int32) (he : orE (xf xr x) (orE (xo ISE (hbT (fF (xr - 1)) (fE (xr - 1)) fT xh 1)) (orE (xo ISE (hbL (fF (xr - 1)) (fE (xr - 1)) fT 6 ((hbT (fF (xr - 1)) (fE (xr - 1)) fT xh 1).getD 0) (wnt fK fA fB (xr - 1 - x.toNatClampNeg)))) (rmE ((hbL (fF (xr - 1)) (fE (xr - 1)) fT 6 ((hbT (fF (xr - 1)) (fE (xr - 1)) fT xh 1).getD 0) (wnt fK fA fB (xr - 1 - x.toNatClampNeg))).getD 0 + szL 6 (wnt fK fA fB (xr - 1 - x.toNatClampNeg)))))) = none) : Rel (pl fT ((hbL (fF (xr - 1)) (fE (xr - 1)) fT 6 ((hbT (fF (xr - 1)) (fE (xr - 1)) fT xh 1).getD 0) (wnt fK fA fB (xr - 1 - x.toNatClampNeg))).getD 0) (szL 6 (wnt fK fA fB (xr - 1 - x.toNatClampNeg))) (wnt fK fA fB (xr - 1 - x.toNatClampNeg))) fK fA fB fF fE (((hbL (fF (xr - 1)) (fE (xr - 1)) fT 6 ((hbT (fF (xr - 1)) (fE (xr - 1)) fT xh 1).getD 0) (wnt fK fA fB (xr - 1 - x.toNatClampNeg))).getD 0) + szL 6 (wnt fK fA fB (xr - 1 - x.toNatClampNeg))) (max xg (((hbL (fF (xr - 1)) (fE (xr - 1)) fT 6 ((hbT (fF (xr - 1)) (fE (xr - 1)) fT xh 1).getD 0) (wnt fK fA fB (xr - 1 - x.toNatClampNeg))).getD 0) + szL 6 (wnt fK fA fB (xr - 1 - x.toNatClampNeg)))) xr (xn + 1) (pl gS ((hbL (gF (xr - 1)) (gE (xr - 1)) gS 6 ((hbT (gF (xr - 1)) (gE (xr - 1)) gS xh 1).getD 0) (wnt gK gI gO (xr - 1 - x.toNatClampNeg))).getD 0) (szL 6 (wnt gK gI gO (xr - 1 - x.toNatClampNeg))) (wnt gK gI gO (xr - 1 - x.toNatClampNeg))) gK gI gO gF gE (((hbL (gF (xr - 1)) (gE (xr - 1)) gS 6 ((hbT (gF (xr - 1)) (gE (xr - 1)) gS xh 1).getD 0) (wnt gK gI gO (xr - 1 - x.toNatClampNeg))).getD 0) + szL 6 (wnt gK gI gO (xr - 1 - x.toNatClampNeg))) (max xg (((hbL (gF (xr - 1)) (gE (xr - 1)) gS 6 ((hbT (gF (xr - 1)) (gE (xr - 1)) gS xh 1).getD 0) (wnt gK gI gO (xr - 1 - x.toNatClampNeg))).getD 0) + szL 6 (wnt gK gI gO (xr - 1 - x.toNatClampNeg)))) xr (xn + 1) := by
  obtain ⟨h3, he⟩ := orE_n he
  obtain ⟨hx1, hx2⟩ := xf_at h3
  have hr := xf_r h3
  have wx := wnt_c hF (i := xr - 1 - x.toNatClampNeg) (by omega)
  obtain ⟨eK, eA, eB, eF, eE⟩ := hF (xr - 1) (by omega)
  rw [eF, eE, wx, hbT_c hT (Nat.le_refl _), hbL_c hT (hbT_le _ _ _ _ _)]
  exact ⟨rfl, rfl, rfl, rfl, pl_c hT (Nat.le_trans (hbL_le _ _ _ _ _ _) (hbT_le _ _ _ _ _)), hF⟩
theorem D_leapIf (hi : IT fT fK fA fB fF fE xh xg xr) (hv : IV fA fF xh xg xr) (x : Int32) (he : orE (xf xr x) (orE (xo ISE (hbT (fF (xr - 1)) (fE (xr - 1)) fT xh 1)) (orE (xo ISE (hbL (fF (xr - 1)) (fE (xr - 1)) fT 6 ((hbT (fF (xr - 1)) (fE (xr - 1)) fT xh 1).getD 0) (wnt fK fA fB (xr - 1 - x.toNatClampNeg)))) (rmE ((hbL (fF (xr - 1)) (fE (xr - 1)) fT 6 ((hbT (fF (xr - 1)) (fE (xr - 1)) fT xh 1).getD 0) (wnt fK fA fB (xr - 1 - x.toNatClampNeg))).getD 0 + szL 6 (wnt fK fA fB (xr - 1 - x.toNatClampNeg)))))) = none) : IT (pl fT ((hbL (fF (xr - 1)) (fE (xr - 1)) fT 6 ((hbT (fF (xr - 1)) (fE (xr - 1)) fT xh 1).getD 0) (wnt fK fA fB (xr - 1 - x.toNatClampNeg))).getD 0) (szL 6 (wnt fK fA fB (xr - 1 - x.toNatClampNeg))) (wnt fK fA fB (xr - 1 - x.toNatClampNeg))) fK fA fB fF fE (((hbL (fF (xr - 1)) (fE (xr - 1)) fT 6 ((hbT (fF (xr - 1)) (fE (xr - 1)) fT xh 1).getD 0) (wnt fK fA fB (xr - 1 - x.toNatClampNeg))).getD 0) + szL 6 (wnt fK fA fB (xr - 1 - x.toNatClampNeg))) (max xg (((hbL (fF (xr - 1)) (fE (xr - 1)) fT 6 ((hbT (fF (xr - 1)) (fE (xr - 1)) fT xh 1).getD 0) (wnt fK fA fB (xr - 1 - x.toNatClampNeg))).getD 0) + szL 6 (wnt fK fA fB (xr - 1 - x.toNatClampNeg)))) xr ∧ IV fA fF (((hbL (fF (xr - 1)) (fE (xr - 1)) fT 6 ((hbT (fF (xr - 1)) (fE (xr - 1)) fT xh 1).getD 0) (wnt fK fA fB (xr - 1 - x.toNatClampNeg))).getD 0) + szL 6 (wnt fK fA fB (xr - 1 - x.toNatClampNeg))) (max xg (((hbL (fF (xr - 1)) (fE (xr - 1)) fT 6 ((hbT (fF (xr - 1)) (fE (xr - 1)) fT xh 1).getD 0) (wnt fK fA fB (xr - 1 - x.toNatClampNeg))).getD 0) + szL 6 (wnt fK fA fB (xr - 1 - x.toNatClampNeg)))) xr := by
  obtain ⟨hiT, hiK, hiA, hiB, hiF, hiE, hih, hig, hir⟩ := hi
  obtain ⟨hv1, hv2, hv3, hv4⟩ := hv
  obtain ⟨h3, he⟩ := orE_n he
  have hr := xf_r h3
  obtain ⟨h4, he⟩ := orE_n he
  obtain ⟨h5, he⟩ := orE_n he
  have h8 := rm_le he
  have q1 := hbT_ge (hv2 hr) h4
  have q2 := hbL_ge q1 h5
  exact ⟨⟨pl_lt hiT, hiK, hiA, hiB, hiF, hiE, h8, Nat.max_le.mpr ⟨hig, h8⟩, hir⟩, hv1, fun _ => by omega, hv3, Nat.le_max_right _ _⟩
theorem B_top (hT : ∀ j, j < xh → fT j = gS j) (hF : ∀ j, j < xr → fK j = gK j ∧ fA j = gI j ∧ fB j = gO j ∧ fF j = gF j ∧ fE j = gE j) (hh : xh < 2 ^ 31) (x : Int32) : tpv xh fT x = tpv xh gS x := by
  unfold tpv
  by_cases h : ¬ x < 0 ∧ x < nI xh
  · rw [if_pos h, if_pos h]
    obtain ⟨j, hj, rfl⟩ := ilt hh h.1 h.2
    rw [nI_clamp (by omega), hT _ (by omega)]
  · rw [if_neg h, if_neg h]
theorem A_frame (hT : ∀ j, j < xh → fT j = gS j) (hF : ∀ j, j < xr → fK j = gK j ∧ fA j = gI j ∧ fB j = gO j ∧ fF j = gF j ∧ fE j = gE j) (x y : Int32) : orE (xf xr x) (x6 y) = orE (xf xr x) (x6 y) := by
  rfl
theorem B_frame (hT : ∀ j, j < xh → fT j = gS j) (hF : ∀ j, j < xr → fK j = gK j ∧ fA j = gI j ∧ fB j = gO j ∧ fF j = gF j ∧ fE j = gE j) (x y : Int32) (he : orE (xf xr x) (x6 y) = none) : nI (frv y fK fA fB fF fE (xr - 1 - x.toNatClampNeg)) = nI (frv y gK gI gO gF gE (xr - 1 - x.toNatClampNeg)) := by
  obtain ⟨h1, h2⟩ := orE_n he
  have hr := xf_r h1
  obtain ⟨e1, e2, e3, e4, e5⟩ := hF (xr - 1 - x.toNatClampNeg) (by omega)
  unfold frv wnt
  rw [e1, e2, e3, e4, e5]
theorem B_count (hT : ∀ j, j < xh → fT j = gS j) (hF : ∀ j, j < xr → fK j = gK j ∧ fA j = gI j ∧ fB j = gO j ∧ fF j = gF j ∧ fE j = gE j) (x : Int32) : cnv x xh xr xg xn = cnv x xh xr xg xn := by
  rfl
end AB
