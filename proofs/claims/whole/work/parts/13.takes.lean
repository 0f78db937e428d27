/-! Takings one behind the other: what the reference's one mark 'bad' says of each. -/
section SE
variable {F E n t k d d2 : Nat} {S : Nat → Nat}
theorem tt_cs (F E n t : Nat) (S : Nat → Nat) : (tkc (tk1 F n S) t (tkb F E n 0) = 0 ∧ hbT F E S n t = some (tkn F n)) ∨ (0 < tkc (tk1 F n S) t (tkb F E n 0) ∧ hbT F E S n t = none) :=
  (Nat.eq_zero_or_pos _).elim (fun h => Or.inl ⟨h, tt_ok h⟩) (fun h => Or.inr ⟨h, tt_no h⟩)
theorem ta1_ok (h : (tA F E S k d (tkn F n, tk1 F n S, tkc (tk1 F n S) t (tkb F E n 0))).2.2 = 0) : (xo ISE (hbT F E S n t) = none ∧ (hbT F E S n t).getD 0 = tkn F n) ∧ xo ISE (hbL F E S k (tkn F n) d) = none ∧ (hbL F E S k (tkn F n) d).getD 0 = (tA F E S k d (tkn F n, tk1 F n S, tkc (tk1 F n S) t (tkb F E n 0))).1 := by
  rcases tt_cs F E n t S with ⟨hb, hq⟩ | ⟨hb, hq⟩
  · rw [hb] at h ⊢
    rw [hq, tA_ok h]
    exact ⟨⟨rfl, rfl⟩, rfl, rfl⟩
  · exact absurd (tA_up (F := F) (E := E) (S := S) k d (tkn F n) (tk1 F n S) _ hb) (by omega)
theorem ta1_no (r : Option String) (h : 0 < (tA F E S k d (tkn F n, tk1 F n S, tkc (tk1 F n S) t (tkb F E n 0))).2.2) : orE (xo ISE (hbT F E S n t)) (orE (xo ISE (hbL F E S k ((hbT F E S n t).getD 0) d)) r) = some ISE := by
  rcases tt_cs F E n t S with ⟨hb, hq⟩ | ⟨hb, hq⟩
  · rw [hb] at h
    rw [hq]
    show orE (xo ISE (hbL F E S k (tkn F n) d)) r = some ISE
    rw [tA_no h]; rfl
  · rw [hq]; rfl
/-- and once more from the same height -/
theorem ta2_ok (h : (tA F E S k d2 (tkn F n, (tA F E S k d (tkn F n, tk1 F n S, tkc (tk1 F n S) t (tkb F E n 0))).2.1, (tA F E S k d (tkn F n, tk1 F n S, tkc (tk1 F n S) t (tkb F E n 0))).2.2)).2.2 = 0) : (xo ISE (hbT F E S n t) = none ∧ (hbT F E S n t).getD 0 = tkn F n) ∧ xo ISE (hbL F E S k (tkn F n) d) = none ∧ xo ISE (hbL F E S k (tkn F n) d2) = none := by
  rcases Nat.eq_zero_or_pos (tA F E S k d (tkn F n, tk1 F n S, tkc (tk1 F n S) t (tkb F E n 0))).2.2 with hb | hb
  · obtain ⟨h1, h2, -⟩ := ta1_ok hb
    rw [hb] at h
    exact ⟨h1, h2, by rw [tA_ok h]; rfl⟩
  · exact absurd (tA_up (F := F) (E := E) (S := S) k d2 (tkn F n) (tA F E S k d (tkn F n, tk1 F n S, tkc (tk1 F n S) t (tkb F E n 0))).2.1 _ hb) (by omega)
theorem ta2_no (h : 0 < (tA F E S k d2 (tkn F n, (tA F E S k d (tkn F n, tk1 F n S, tkc (tk1 F n S) t (tkb F E n 0))).2.1, (tA F E S k d (tkn F n, tk1 F n S, tkc (tk1 F n S) t (tkb F E n 0))).2.2)).2.2) : orE (xo ISE (hbT F E S n t)) (orE (xo ISE (hbL F E S k ((hbT F E S n t).getD 0) d)) (xo ISE (hbL F E S k ((hbT F E S n t).getD 0) d2))) = some ISE := by
  rcases Nat.eq_zero_or_pos (tA F E S k d (tkn F n, tk1 F n S, tkc (tk1 F n S) t (tkb F E n 0))).2.2 with hb | hb
  · obtain ⟨⟨h1, h1'⟩, h2, -⟩ := ta1_ok hb
    rw [hb] at h
    rw [h1, h1', h2, tA_no h]; rfl
  · exact ta1_no _ hb
/-- one of a type, one, one -/
theorem sel_ok (h : tkb F E (tkn F (tkn F n)) (tkb F E (tkn F n) (tkc (tk1 F n S) t (tkb F E n 0))) = 0) : (xo ISE (hbT F E S n t) = none ∧ (hbT F E S n t).getD 0 = tkn F n) ∧ (xo ISE (hb1 F E (tkn F n)) = none ∧ (hb1 F E (tkn F n)).getD 0 = tkn F (tkn F n)) ∧ xo ISE (hb1 F E (tkn F (tkn F n))) = none ∧ (hb1 F E (tkn F (tkn F n))).getD 0 = tkn F (tkn F (tkn F n)) := by
  rcases tt_cs F E n t S with ⟨hb, hq⟩ | ⟨hb, hq⟩
  · rw [hb] at h
    rw [hq]
    rcases Nat.eq_zero_or_pos (tkb F E (tkn F n) 0) with hb2 | hb2
    · rw [hb2] at h
      rw [tk_ok hb2, tk_ok h]
      exact ⟨⟨rfl, rfl⟩, ⟨rfl, rfl⟩, rfl, rfl⟩
    · exact absurd (tkb_up (F := F) (E := E) (n := tkn F (tkn F n)) hb2) (by omega)
  · exact absurd (tkb_up (F := F) (E := E) (n := tkn F (tkn F n)) (tkb_up (F := F) (E := E) (n := tkn F n) hb)) (by omega)
theorem sel_no (r : Option String) (h : 0 < tkb F E (tkn F (tkn F n)) (tkb F E (tkn F n) (tkc (tk1 F n S) t (tkb F E n 0)))) : orE (xo ISE (hbT F E S n t)) (orE (xo ISE (hb1 F E ((hbT F E S n t).getD 0))) (orE (xo ISE (hb1 F E ((hb1 F E ((hbT F E S n t).getD 0)).getD 0))) r)) = some ISE := by
  rcases tt_cs F E n t S with ⟨hb, hq⟩ | ⟨hb, hq⟩
  · rw [hb] at h
    rw [hq]
    show orE (xo ISE (hb1 F E (tkn F n))) (orE (xo ISE (hb1 F E ((hb1 F E (tkn F n)).getD 0))) r) = some ISE
    rcases Nat.eq_zero_or_pos (tkb F E (tkn F n) 0) with hb2 | hb2
    · rw [hb2] at h
      rw [tk_ok hb2]
      show orE (xo ISE (hb1 F E (tkn F (tkn F n)))) r = some ISE
      rw [tk_no h]; rfl
    · rw [tk_no hb2]; rfl
  · rw [hq]; rfl
end SE
theorem cty_a {a b : Nat} (h : a = 0) (h4 : b ≠ 4) : cty a b = some b := by
  unfold cty; rw [if_pos h, if_pos ⟨Or.inr rfl, h4⟩]
theorem cty_b {a b : Nat} (h : 0 < a) (hb : b = 0) (h4 : a ≠ 4) : cty a b = some a := by
  unfold cty; rw [if_neg (show ¬ a = 0 by omega), if_pos ⟨Or.inl hb, h4⟩]
theorem cty_e {a b : Nat} (h : 0 < a) (hb : a = b) (h4 : a ≠ 4) : cty a b = some a := by
  unfold cty; rw [if_neg (show ¬ a = 0 by omega), if_pos ⟨Or.inr hb.symm, h4⟩]
theorem cty_a4 {a b : Nat} (h : a = 0) (h4 : b = 4) : cty a b = none := by
  unfold cty; rw [if_pos h, if_neg (fun q => q.2 h4)]
theorem cty_b4 {a b : Nat} (h : 0 < a) (h4 : a = 4) : cty a b = none := by
  unfold cty; rw [if_neg (show ¬ a = 0 by omega), if_neg (fun q => q.2 h4)]
theorem cty_n {a b : Nat} (h : 0 < a) (hb : 0 < b) (hn : a ≠ b) : cty a b = none := by
  unfold cty; rw [if_neg (show ¬ a = 0 by omega), if_neg (fun q => q.1.elim (by omega) (fun e => hn e.symm))]
theorem xk_lo {x : Int32} (h : x < 0) : xk x = some IAE := if_neg (fun q => by rcases q with rfl | rfl | rfl <;> revert h <;> decide)
theorem xk_hi {x : Int32} (h : nI 2 < x) : xk x = some IAE := if_neg (fun q => by rcases q with rfl | rfl | rfl <;> revert h <;> decide)
theorem xk_in {x : Int32} (h : ¬ x < 0) (h2 : ¬ nI 2 < x) : x = 0 ∨ x = nI 1 ∨ x = nI 2 := by
  obtain ⟨j, hj, rfl⟩ := nI_of h
  have : ¬ 2 < j := fun q => h2 ((nI_ltI (by decide) hj).mpr q)
  rcases (show j = 0 ∨ j = 1 ∨ j = 2 by omega) with rfl | rfl | rfl
  · exact Or.inl nI_0
  · exact Or.inr (Or.inl rfl)
  · exact Or.inr (Or.inr rfl)
theorem jw_t {F m : Nat} {o : Option Nat} (h : o = some m) (h2 : m ≤ F) : jw F o = none := by rw [h]; exact if_neg (Nat.not_lt.mpr h2)
theorem jw_f {F m : Nat} {o : Option Nat} (h : o = some m) (h2 : F < m) : jw F o = some ISE := by rw [h]; exact if_pos h2
theorem jw_0 {F : Nat} {o : Option Nat} (h : o = none) : jw F o = some ISE := by rw [h]; rfl
theorem x6_lo {y : Int32} (h : y < 0) : x6 y = some IAE := if_pos (Or.inl (by simpa using Int32.lt_iff_toInt_lt.mp h))
theorem x6_hi {y : Int32} (h : ¬ y ≤ nI 5) : x6 y = some IAE := if_pos (Or.inr (by
  have h2 : ¬ y.toInt ≤ (nI 5).toInt := fun q => h (Int32.le_iff_toInt_le.mpr q)
  rw [nI_toInt (by decide)] at h2; omega))
theorem x6_in {y : Int32} (h : ¬ y < 0) (h2 : y ≤ nI 5) : x6 y = none := if_neg (fun q => by
  have h3 := Int32.le_iff_toInt_le.mp h2
  rw [nI_toInt (by decide)] at h3
  rcases q with q | q
  · exact h (Int32.lt_iff_toInt_lt.mpr (by simpa using q))
  · omega)
theorem rm40 {a r : Nat} (h : r = 40) : orE (rmE a) (f40 r) = some AE := by
  rw [h]
  unfold rmE
  by_cases h1 : 300 < a
  · rw [if_pos h1]; rfl
  · rw [if_neg h1]; rfl
theorem f40_ok {r : Nat} (h : r ≠ 40) (h2 : r ≤ 40) : f40 r = none := if_pos (by omega)
theorem frv_d {y : Int32} {K A B F E : Nat → Nat} {i : Nat} (hv : y.toInt < 0 ∨ 4 < y.toInt) : frv y K A B F E i = wnt K A B i := by
  unfold frv
  rw [if_neg (sw_o hv 0 (by decide) (by decide)), if_neg (sw_o hv 1 (by decide) (by decide)), if_neg (sw_o hv 2 (by decide) (by decide)), if_neg (sw_o hv 3 (by decide) (by decide)), if_neg (sw_o hv 4 (by decide) (by decide))]
theorem sw4 (x : Int32) : x = nI 0 ∨ x = nI 1 ∨ x = nI 2 ∨ x = nI 3 ∨ x = nI 4 ∨ (x.toInt < 0 ∨ 4 < x.toInt) := by
  by_cases h0 : x.toInt < 0
  · exact Or.inr (Or.inr (Or.inr (Or.inr (Or.inr (Or.inl h0)))))
  · by_cases h1 : (4 : Int) < x.toInt
    · exact Or.inr (Or.inr (Or.inr (Or.inr (Or.inr (Or.inr h1)))))
    · obtain ⟨j, hj, rfl⟩ := sw_in (n := 4) (by decide) h0 h1
      rcases (show j = 0 ∨ j = 1 ∨ j = 2 ∨ j = 3 ∨ j = 4 by omega) with rfl | rfl | rfl | rfl | rfl
      · exact Or.inl rfl
      · exact Or.inr (Or.inl rfl)
      · exact Or.inr (Or.inr (Or.inl rfl))
      · exact Or.inr (Or.inr (Or.inr (Or.inl rfl)))
      · exact Or.inr (Or.inr (Or.inr (Or.inr (Or.inl rfl))))
