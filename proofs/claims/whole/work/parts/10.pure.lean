/-! The pure words: what the class's inner methods answer, as functions of numbers; rows on them. (Part 02 of the guide's plan.) -/
abbrev IAE : String := "java/lang/IllegalArgumentException"
abbrev NSE : String := "java/util/NoSuchElementException"
abbrev ISE : String := "java/lang/IllegalStateException"
abbrev AE : String := "java/lang/ArithmeticException"
abbrev UOE : String := "java/lang/UnsupportedOperationException"
/-- the first that is one -/
def orE (a b : Option String) : Option String := match a with
  | some e => some e
  | none => b
/-- nothing: that exception -/
def xo (E : String) (o : Option Nat) : Option String := match o with
  | none => some E
  | some _ => none
/-- digits in base 5, at most k -/
def szL : Nat → Nat → Nat
  | 0, _ => 0
  | k + 1, d => if d = 0 then 0 else szL k (d / 5) + 1
def okL : Nat → Nat → Bool
  | 0, _ => true
  | k + 1, d => if d = 0 then true else if d % 5 = 0 then false else okL k (d / 5)
def lok (x : Int32) : Bool := decide (¬ x < 0) && (decide (x < nI 15625) && okL 6 x.toNatClampNeg)
def xl (x : Int32) : Option String := if lok x = true then none else some IAE
def xf (r : Nat) (x : Int32) : Option String := if ¬ x < 0 ∧ x < nI r then none else some NSE
def nf (r : Nat) : Option String := if r = 0 then some NSE else none
def rmE (a : Nat) : Option String := if 300 < a then some AE else none
/-- what would be taken at n, over the floor F -/
def tk1 (F n : Nat) (T : Nat → Nat) : Nat := if F < n then T (n - 1) else 0
def hb1 (F E n : Nat) : Option Nat := if F < n then some (n - 1) else if E = 0 then none else some n
def hbT (F E : Nat) (T : Nat → Nat) (n t : Nat) : Option Nat := if tk1 F n T ≠ t ∧ tk1 F n T ≠ 0 then none else hb1 F E n
def hbL (F E : Nat) (T : Nat → Nat) : Nat → Nat → Nat → Option Nat
  | 0, n, _ => some n
  | k + 1, n, d => if d = 0 then some n else match hbT F E T n (d % 5) with
    | none => none
    | some m => hbL F E T k m (d / 5)
def cty (a b : Nat) : Option Nat := if (b = 0 ∨ b = (if a = 0 then b else a)) ∧ (if a = 0 then b else a) ≠ 4 then some (if a = 0 then b else a) else none
def wnt (K A B : Nat → Nat) (i : Nat) : Nat := if K i = 1 then A i else B i
/-- k digits of d are put from a on, the lowest on top -/
def pl (f : Nat → Nat) (a : Nat) : Nat → Nat → Nat → Nat
  | 0, _ => f
  | k + 1, d => pl (va_up f (a + k) (d % 5)) a k (d / 5)
def jw (F : Nat) (o : Option Nat) : Option String := match o with
  | none => some ISE
  | some m => if F < m then some ISE else none
def xk (x : Int32) : Option String := if x = 0 ∨ x = nI 1 ∨ x = nI 2 then none else some IAE
def bel (x : Int32) (F E : Nat) (T : Nat → Nat) (h : Nat) : Option Nat := if x = nI 2 then hbT F E T h 1 else some h
def bl (x : Int32) (F E : Nat) (T : Nat → Nat) (h : Nat) : Nat := (bel x F E T h).getD 0
def f40 (r : Nat) : Option String := if r < 40 then none else some AE
def ifE (k : Nat) : Option String := if k = 2 then none else some UOE
def ifL (k a b : Nat) : Option String := if k = 2 ∧ a ≠ b then some UOE else none
def szE (a b : Nat) : Option String := if szL 6 a = szL 6 b then none else some UOE
def tpv (h : Nat) (T : Nat → Nat) (x : Int32) : Int32 := if ¬ x < 0 ∧ x < nI h then nI (T (h - 1 - x.toNatClampNeg)) else -1
def cnv (x : Int32) (h r g n : Nat) : Int32 := if x = nI 0 then nI h else if x = nI 1 then nI r else if x = nI 2 then nI g else if x = nI 3 then nI n else -1
def frv (y : Int32) (K A B F E : Nat → Nat) (i : Nat) : Nat := if y = nI 0 then K i else if y = nI 1 then A i else if y = nI 2 then B i else if y = nI 3 then F i else if y = nI 4 then E i else wnt K A B i
def x6 (y : Int32) : Option String := if y.toInt < 0 ∨ 5 < y.toInt then some IAE else none
/-- what holds of the class's numbers at all times -/
def IT (fT fK fA fB fF fE : Nat → Nat) (xh xg xr : Nat) : Prop := (∀ j, fT j < 5) ∧ (∀ j, fK j < 4) ∧ (∀ j, fA j < 15625) ∧ (∀ j, fB j < 15625) ∧ (∀ j, fF j ≤ 300) ∧ (∀ j, fE j ≤ 1) ∧ xh ≤ 300 ∧ xg ≤ 300 ∧ xr ≤ 40
abbrev wT (z : Nat → Nat) (cI cZ : ClassId) (fT fK fA fB fF fE : Nat → Nat) (xh xg xr xn : Nat) : va_W :=
  [(z 0, .inr (0, [.ref (z 1), .int (nI xh), .int (nI xg), .ref (z 2), .ref (z 3), .ref (z 4), .ref (z 5), .ref (z 6), .int (nI xr), .int (nI xn)])),
   (z 1, .inl (cI, 300, .inl (fun j => nI (fT j)))), (z 2, .inl (cI, 40, .inl (fun j => nI (fK j)))), (z 3, .inl (cI, 40, .inl (fun j => nI (fA j)))), (z 4, .inl (cI, 40, .inl (fun j => nI (fB j)))), (z 5, .inl (cI, 40, .inl (fun j => nI (fF j)))), (z 6, .inl (cZ, 40, .inl (fun j => nI (fE j))))]
abbrev wM (u : Nat → Nat) (cI cZ : ClassId) (gS gK gI gO gF gE gQ : Nat → Nat) (yt yn yr ym yd yk yb yc : Nat) : va_W :=
  [(u 0, .inr (1, [.int (nI yt), .ref (u 1), .ref (u 2), .ref (u 3), .ref (u 4), .ref (u 5), .ref (u 6), .int (nI yn), .int (nI yr), .int (nI ym), .int (nI yd), .ref (u 7), .int (nI yk), .int (nI yb), .int (nI yc)])),
   (u 1, .inl (cI, 400, .inl (fun j => nI (gS j)))), (u 2, .inl (cI, 41, .inl (fun j => nI (gK j)))), (u 3, .inl (cI, 41, .inl (fun j => nI (gI j)))), (u 4, .inl (cI, 41, .inl (fun j => nI (gO j)))), (u 5, .inl (cI, 41, .inl (fun j => nI (gF j)))), (u 6, .inl (cZ, 41, .inl (fun j => nI (gE j)))), (u 7, .inl (cI, 400, .inl (fun j => nI (gQ j))))]
-- rows
theorem ilt {x : Int32} {n : Nat} (hn : n < 2 ^ 31) (h1 : ¬ x < 0) (h2 : x < nI n) : ∃ j : Nat, j < n ∧ x = nI j := by
  obtain ⟨j, hj, rfl⟩ := nI_of h1
  exact ⟨j, (nI_ltI hj hn).mp h2, rfl⟩
theorem szL_zero (k : Nat) : szL k 0 = 0 := by cases k <;> rfl
theorem szL_succ {k d : Nat} (h : 0 < d) : szL (k + 1) d = szL k (d / 5) + 1 := by
  show (if d = 0 then 0 else szL k (d / 5) + 1) = _
  rw [if_neg (by omega)]
theorem szL_le : ∀ (k d : Nat), szL k d ≤ k := by
  intro k
  induction k with
  | zero => intro d; exact Nat.le_refl _
  | succ k ih =>
    intro d
    by_cases h : d = 0
    · rw [h, szL_zero]; omega
    · rw [szL_succ (by omega)]; have := ih (d / 5); omega
theorem okL_zero (k : Nat) : okL k 0 = true := by cases k <;> rfl
theorem okL_succ {k d : Nat} (h : 0 < d) (h5 : 0 < d % 5) : okL (k + 1) d = okL k (d / 5) := by
  show (if d = 0 then true else if d % 5 = 0 then false else okL k (d / 5)) = _
  rw [if_neg (by omega), if_neg (by omega)]
theorem okL_no {k d : Nat} (h : 0 < d) (h5 : d % 5 = 0) : okL (k + 1) d = false := by
  show (if d = 0 then true else if d % 5 = 0 then false else okL k (d / 5)) = _
  rw [if_neg (by omega), if_pos h5]
theorem lok_in {x : Int32} {j : Nat} (h1 : ¬ x < 0) (h8 : x < nI 15625) (hj : j < 15625) (hxj : x = nI j) : lok x = okL 6 j := by
  unfold lok
  rw [decide_eq_true h1, decide_eq_true h8, Bool.true_and, Bool.true_and, hxj, nI_clamp (by omega)]
theorem lok_lo {x : Int32} (h : x < 0) : lok x = false := by
  unfold lok
  rw [decide_eq_false (fun q => q h), Bool.false_and]
theorem lok_hi {x : Int32} (h : ¬ x < nI 15625) : lok x = false := by
  unfold lok
  rw [decide_eq_false h, Bool.false_and, Bool.and_false]
theorem lok_at {x : Int32} (h : lok x = true) : ¬ x < 0 ∧ x < nI 15625 ∧ okL 6 x.toNatClampNeg = true := by
  unfold lok at h
  rw [Bool.and_eq_true, Bool.and_eq_true] at h
  exact ⟨of_decide_eq_true h.1, of_decide_eq_true h.2.1, h.2.2⟩
theorem tn_le (b : Bool) : b.toNat ≤ 1 := by cases b <;> decide
theorem zn (b : Bool) : narrow .boolean (.int (nI b.toNat)) = .int (nI b.toNat) := by cases b <;> rfl
theorem xl_ok {x : Int32} (h : 0 < (lok x).toNat) : xl x = none := by
  unfold xl
  cases hq : lok x
  · rw [hq] at h; exact absurd h (by decide)
  · rfl
theorem xl_no {x : Int32} (h : (lok x).toNat = 0) : xl x = some IAE := by
  unfold xl
  cases hq : lok x
  · rfl
  · rw [hq] at h; exact absurd h (by decide)
theorem xl_lok {x : Int32} (h : xl x = none) : lok x = true := by
  unfold xl at h
  by_cases hq : lok x = true
  · exact hq
  · rw [if_neg hq] at h; cases h
theorem xl_nat {x : Int32} (h : xl x = none) : ∃ j : Nat, j < 15625 ∧ x = nI j := by
  obtain ⟨h1, h2, -⟩ := lok_at (xl_lok h)
  exact ilt (by decide) h1 h2
theorem xl_eq {x : Int32} (h : xl x = none) : x = nI x.toNatClampNeg := by
  obtain ⟨j, hj, rfl⟩ := xl_nat h
  rw [nI_clamp (by omega)]
theorem xl_lt {x : Int32} (h : xl x = none) : x.toNatClampNeg < 15625 := by
  obtain ⟨j, hj, rfl⟩ := xl_nat h
  rw [nI_clamp (by omega)]; exact hj
theorem xf_ok {r : Nat} {x : Int32} (h1 : ¬ x < 0) (h2 : x < nI r) : xf r x = none := if_pos ⟨h1, h2⟩
theorem xf_lo {r : Nat} {x : Int32} (h1 : x < 0) : xf r x = some NSE := if_neg (fun q => q.1 h1)
theorem xf_hi {r : Nat} {x : Int32} (h2 : ¬ x < nI r) : xf r x = some NSE := if_neg (fun q => h2 q.2)
theorem xf_at {r : Nat} {x : Int32} (h : xf r x = none) : ¬ x < 0 ∧ x < nI r := by
  unfold xf at h
  by_cases hq : ¬ x < 0 ∧ x < nI r
  · exact hq
  · rw [if_neg hq] at h; cases h
theorem xf_pos {r : Nat} {x : Int32} (h : xf r x = none) (hr : r ≤ 41 := by omega) : x.toNatClampNeg < r := by
  obtain ⟨h1, h2⟩ := xf_at h
  obtain ⟨j, hj, rfl⟩ := ilt (by omega) h1 h2
  rw [nI_clamp (by omega)]; exact hj
theorem nf_pos {r : Nat} (h : nf r = none) : 1 ≤ r := by
  unfold nf at h
  by_cases hq : r = 0
  · rw [if_pos hq] at h; cases h
  · omega
theorem rm_le {a : Nat} (h : rmE a = none) : a ≤ 300 := by
  unfold rmE at h
  by_cases hq : 300 < a
  · rw [if_pos hq] at h; cases h
  · omega
theorem tk1_lt {F n : Nat} {T : Nat → Nat} (h : ∀ j, T j < 5) : tk1 F n T < 5 := by
  unfold tk1; split
  · exact h _
  · decide
theorem hb1_le (F E n : Nat) : (hb1 F E n).getD 0 ≤ n := by
  unfold hb1; (repeat' split) <;> simp
theorem hbT_le (F E : Nat) (T : Nat → Nat) (n t : Nat) : (hbT F E T n t).getD 0 ≤ n := by
  unfold hbT; split
  · exact Nat.zero_le _
  · exact hb1_le F E n
theorem xo_none {E : String} {o : Option Nat} (h : xo E o = none) : ∃ m, o = some m := by
  cases o with
  | none => cases h
  | some m => exact ⟨m, rfl⟩
theorem hbL_zero (F E : Nat) (T : Nat → Nat) (k n : Nat) : hbL F E T k n 0 = some n := by cases k <;> rfl
theorem hbL_step {F E : Nat} {T : Nat → Nat} {k n d : Nat} {X : String} (h : 0 < d) (ho : xo X (hbT F E T n (d % 5)) = none) : hbL F E T (k + 1) n d = hbL F E T k ((hbT F E T n (d % 5)).getD 0) (d / 5) := by
  obtain ⟨m, hm⟩ := xo_none ho
  show (if d = 0 then some n else match hbT F E T n (d % 5) with | none => none | some m => hbL F E T k m (d / 5)) = _
  rw [if_neg (by omega), hm]; rfl
theorem hbL_fail {F E : Nat} {T : Nat → Nat} {k n d : Nat} {X Y : String} (h : 0 < d) (ho : xo X (hbT F E T n (d % 5)) = some Y) : xo X (hbL F E T (k + 1) n d) = some Y := by
  cases hm : hbT F E T n (d % 5) with
  | some m => rw [hm] at ho; cases ho
  | none =>
    rw [hm] at ho
    show xo X (if d = 0 then some n else match hbT F E T n (d % 5) with | none => none | some m => hbL F E T k m (d / 5)) = _
    rw [if_neg (by omega), hm]; exact ho
theorem hbL_le (F E : Nat) (T : Nat → Nat) : ∀ (k n d : Nat), (hbL F E T k n d).getD 0 ≤ n := by
  intro k
  induction k with
  | zero => intro n d; exact Nat.le_refl _
  | succ k ih =>
    intro n d
    by_cases h : d = 0
    · rw [h, hbL_zero]; exact Nat.le_refl _
    · cases hm : hbT F E T n (d % 5) with
      | none =>
        show (if d = 0 then some n else match hbT F E T n (d % 5) with | none => none | some m => hbL F E T k m (d / 5)).getD 0 ≤ n
        rw [if_neg h, hm]; exact Nat.zero_le _
      | some m =>
        have h1 := hbT_le F E T n (d % 5)
        rw [hm] at h1
        show (if d = 0 then some n else match hbT F E T n (d % 5) with | none => none | some m => hbL F E T k m (d / 5)).getD 0 ≤ n
        rw [if_neg h, hm]
        exact Nat.le_trans (ih m (d / 5)) h1
theorem jw_ok {F : Nat} {o : Option Nat} {X : String} (h : xo X o = none) (h2 : o.getD 0 ≤ F) : jw F o = none := by
  obtain ⟨m, rfl⟩ := xo_none h
  exact if_neg (Nat.not_lt.mpr h2)
theorem jw_no {F : Nat} {o : Option Nat} {X : String} (h : xo X o = none) (h2 : F < o.getD 0) : jw F o = some ISE := by
  obtain ⟨m, rfl⟩ := xo_none h
  exact if_pos h2
theorem jw_thru {F : Nat} {o : Option Nat} {Y : String} (h : xo ISE o = some Y) : jw F o = some Y := by
  cases o with
  | none => exact h
  | some m => cases h
theorem wnt_lt {A B : Nat → Nat} (K : Nat → Nat) (hA : ∀ j, A j < 15625) (hB : ∀ j, B j < 15625) (i : Nat) : wnt K A B i < 15625 := by
  unfold wnt; split
  · exact hA i
  · exact hB i
theorem nmax {a b : Nat} (ha : a < 2 ^ 31) (hb : b < 2 ^ 31) : (if nI a < nI b then nI b else nI a) = nI (max a b) := by
  by_cases h : a < b
  · rw [if_pos ((nI_ltI ha hb).mpr h), Nat.max_eq_right (Nat.le_of_lt h)]
  · rw [if_neg (fun q => h ((nI_ltI ha hb).mp q)), Nat.max_eq_left (Nat.le_of_not_lt h)]
theorem npred (k : Nat) : nI (k + 1) - nI 1 = nI k := nI_pred k
theorem ndec (k : Nat) : nI (k + 1) - nI 1 + Int32.ofInt (-1) = nI k - nI 1 := by
  rw [npred, Int32.sub_eq_add_neg]; rfl
theorem nneg : nI 0 - nI 1 < 0 := by decide
theorem npos {k : Nat} (h : k < 2 ^ 31) : ¬ nI (k + 1) - nI 1 < 0 := by rw [npred]; exact nI_pos h
theorem xk_no {x : Int32} (h1 : ¬ x = 0) (h2 : ¬ x = nI 1) (h3 : ¬ x = nI 2) : xk x = some IAE := if_neg (fun q => q.elim h1 (fun q => q.elim h2 h3))
theorem kd_eq {x : Int32} (h : x = 0 ∨ x = nI 1 ∨ x = nI 2) : x = nI x.toNatClampNeg := by
  rcases h with rfl | rfl | rfl <;> decide
theorem bel_eq {x : Int32} {F E : Nat} {T : Nat → Nat} {h : Nat} (q : x = nI 2) : bel x F E T h = hbT F E T h 1 := if_pos q
theorem bel_ne {x : Int32} {F E : Nat} {T : Nat → Nat} {h : Nat} (q : ¬ x = nI 2) : bel x F E T h = some h := if_neg q
theorem bl_eq {x : Int32} {F E : Nat} {T : Nat → Nat} {h : Nat} (q : x = nI 2) : bl x F E T h = (hbT F E T h 1).getD 0 := by unfold bl; rw [bel_eq q]
theorem bl_ne {x : Int32} {F E : Nat} {T : Nat → Nat} {h : Nat} (q : ¬ x = nI 2) : bl x F E T h = h := by unfold bl; rw [bel_ne q]; rfl
theorem tpv_in {h : Nat} {T : Nat → Nat} {x : Int32} (h1 : ¬ x < 0) (h2 : x < nI h) : tpv h T x = nI (T (h - 1 - x.toNatClampNeg)) := if_pos ⟨h1, h2⟩
theorem tpv_lo {h : Nat} {T : Nat → Nat} {x : Int32} (h1 : x < 0) : tpv h T x = -1 := if_neg (fun q => q.1 h1)
theorem tpv_hi {h : Nat} {T : Nat → Nat} {x : Int32} (h2 : ¬ x < nI h) : tpv h T x = -1 := if_neg (fun q => h2 q.2)
theorem sw_in {x : Int32} {n : Nat} (hn : n < 2 ^ 31) (h0 : ¬ x.toInt < 0) (h1 : ¬ (n : Int) < x.toInt) : ∃ j : Nat, j ≤ n ∧ x = nI j := by
  have h2 : ¬ x < 0 := fun q => h0 (by simpa using Int32.lt_iff_toInt_lt.mp q)
  obtain ⟨j, hj, rfl⟩ := nI_of h2
  rw [nI_toInt hj] at h1
  exact ⟨j, by omega, rfl⟩
theorem sw3 (x : Int32) : x = nI 0 ∨ x = nI 1 ∨ x = nI 2 ∨ x = nI 3 ∨ (x.toInt < 0 ∨ 3 < x.toInt) := by
  by_cases h0 : x.toInt < 0
  · exact Or.inr (Or.inr (Or.inr (Or.inr (Or.inl h0))))
  · by_cases h1 : (3 : Int) < x.toInt
    · exact Or.inr (Or.inr (Or.inr (Or.inr (Or.inr h1))))
    · obtain ⟨j, hj, rfl⟩ := sw_in (n := 3) (by decide) h0 h1
      rcases (show j = 0 ∨ j = 1 ∨ j = 2 ∨ j = 3 by omega) with rfl | rfl | rfl | rfl
      · exact Or.inl rfl
      · exact Or.inr (Or.inl rfl)
      · exact Or.inr (Or.inr (Or.inl rfl))
      · exact Or.inr (Or.inr (Or.inr (Or.inl rfl)))
theorem sw5 (x : Int32) : x = nI 0 ∨ x = nI 1 ∨ x = nI 2 ∨ x = nI 3 ∨ x = nI 4 ∨ x = nI 5 ∨ (x.toInt < 0 ∨ 5 < x.toInt) := by
  by_cases h0 : x.toInt < 0
  · exact Or.inr (Or.inr (Or.inr (Or.inr (Or.inr (Or.inr (Or.inl h0))))))
  · by_cases h1 : (5 : Int) < x.toInt
    · exact Or.inr (Or.inr (Or.inr (Or.inr (Or.inr (Or.inr (Or.inr h1))))))
    · obtain ⟨j, hj, rfl⟩ := sw_in (n := 5) (by decide) h0 h1
      rcases (show j = 0 ∨ j = 1 ∨ j = 2 ∨ j = 3 ∨ j = 4 ∨ j = 5 by omega) with rfl | rfl | rfl | rfl | rfl | rfl
      · exact Or.inl rfl
      · exact Or.inr (Or.inl rfl)
      · exact Or.inr (Or.inr (Or.inl rfl))
      · exact Or.inr (Or.inr (Or.inr (Or.inl rfl)))
      · exact Or.inr (Or.inr (Or.inr (Or.inr (Or.inl rfl))))
      · exact Or.inr (Or.inr (Or.inr (Or.inr (Or.inr (Or.inl rfl)))))
theorem sw_o {x : Int32} {n : Int} (h : x.toInt < 0 ∨ n < x.toInt) (j : Nat) (hj : j < 2 ^ 31) (hn : (j : Int) ≤ n) : ¬ x = nI j := fun q => by
  rw [q, nI_toInt hj] at h; omega
theorem cnv_0 {x : Int32} (hv : x = nI 0) (h r g n : Nat) : cnv x h r g n = nI h := if_pos hv
theorem cnv_1 {x : Int32} (hv : x = nI 1) (h r g n : Nat) : cnv x h r g n = nI r := by unfold cnv; rw [hv]; rfl
theorem cnv_2 {x : Int32} (hv : x = nI 2) (h r g n : Nat) : cnv x h r g n = nI g := by unfold cnv; rw [hv]; rfl
theorem cnv_3 {x : Int32} (hv : x = nI 3) (h r g n : Nat) : cnv x h r g n = nI n := by unfold cnv; rw [hv]; rfl
theorem cnv_o {x : Int32} (hv : x.toInt < 0 ∨ 3 < x.toInt) (h r g n : Nat) : cnv x h r g n = -1 := by
  unfold cnv
  rw [if_neg (sw_o hv 0 (by decide) (by decide)), if_neg (sw_o hv 1 (by decide) (by decide)), if_neg (sw_o hv 2 (by decide) (by decide)), if_neg (sw_o hv 3 (by decide) (by decide))]
section FRV
variable {y : Int32} {K A B F E : Nat → Nat} {i : Nat}
theorem frv_0 (hv : y = nI 0) : frv y K A B F E i = K i := by unfold frv; rw [hv]; rfl
theorem frv_1 (hv : y = nI 1) : frv y K A B F E i = A i := by unfold frv; rw [hv]; rfl
theorem frv_2 (hv : y = nI 2) : frv y K A B F E i = B i := by unfold frv; rw [hv]; rfl
theorem frv_3 (hv : y = nI 3) : frv y K A B F E i = F i := by unfold frv; rw [hv]; rfl
theorem frv_4 (hv : y = nI 4) : frv y K A B F E i = E i := by unfold frv; rw [hv]; rfl
theorem frv_5 (hv : y = nI 5) : frv y K A B F E i = wnt K A B i := by unfold frv; rw [hv]; rfl
theorem x6_0 (hv : y = nI 0) : x6 y = none := by rw [hv]; decide
theorem x6_1 (hv : y = nI 1) : x6 y = none := by rw [hv]; decide
theorem x6_2 (hv : y = nI 2) : x6 y = none := by rw [hv]; decide
theorem x6_3 (hv : y = nI 3) : x6 y = none := by rw [hv]; decide
theorem x6_4 (hv : y = nI 4) : x6 y = none := by rw [hv]; decide
theorem x6_5 (hv : y = nI 5) : x6 y = none := by rw [hv]; decide
theorem x6_o (hv : y.toInt < 0 ∨ 5 < y.toInt) : x6 y = some IAE := if_pos hv
end FRV
