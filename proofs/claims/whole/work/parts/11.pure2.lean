/-! The pure words of the reference: what its inner methods answer, as functions of numbers; rows on them. -/
theorem d5 {d k : Nat} (h : d < 5 ^ (k + 1)) : d / 5 < 5 ^ k := by
  rw [Nat.pow_succ, Nat.mul_comm] at h
  exact Nat.div_lt_of_lt_mul h
theorem five_le {k : Nat} (h : k ≤ 6) : 5 ^ k ≤ 2 ^ 31 :=
  Nat.le_trans (Nat.pow_le_pow_right (by decide) h) (by decide)
/-- g below n, f from n on -/
def cpn (f g : Nat → Nat) (n : Nat) : Nat → Nat := fun j => if j < n then g j else f j
/-- the last k below n are still to be copied -/
def cpk (f g : Nat → Nat) (n k : Nat) : Nat → Nat := match k with
  | 0 => f
  | k + 1 => cpk (va_up f (n - (k + 1)) (g (n - (k + 1)))) g n k
theorem cpk_eq (g : Nat → Nat) (n : Nat) : ∀ (k : Nat) (f : Nat → Nat), k ≤ n → ∀ j, cpk f g n k j = if n - k ≤ j ∧ j < n then g j else f j := by
  intro k
  induction k with
  | zero => intro f h j; rw [if_neg (by omega)]; rfl
  | succ k ih =>
    intro f h j
    show cpk (va_up f (n - (k + 1)) (g (n - (k + 1)))) g n k j = _
    rw [ih _ (by omega)]
    unfold va_up
    by_cases h1 : j = n - (k + 1)
    · rw [if_neg (by omega), if_pos h1, if_pos (by omega), h1]
    · rw [if_neg h1]
      by_cases h2 : n - k ≤ j ∧ j < n
      · rw [if_pos h2, if_pos (by omega)]
      · rw [if_neg h2, if_neg (by omega)]
theorem cpk_all (f g : Nat → Nat) (n : Nat) : cpk f g n n = cpn f g n := by
  funext j
  rw [cpk_eq g n n f (Nat.le_refl _)]
  unfold cpn
  by_cases h : j < n
  · rw [if_pos (by omega), if_pos h]
  · rw [if_neg (by omega), if_neg h]
theorem cpn_in {f g : Nat → Nat} {n j : Nat} (h : j < n) : cpn f g n j = g j := if_pos h
theorem cpn_lt {f g : Nat → Nat} {m : Nat} (n : Nat) (hf : ∀ j, f j < m) (hg : ∀ j, j < n → g j < m) : ∀ j, cpn f g n j < m := by
  intro j
  unfold cpn
  by_cases h : j < n
  · rw [if_pos h]; exact hg j h
  · rw [if_neg h]; exact hf j
/-- one is taken: the height, and whether it is bad -/
def tkn (F n : Nat) : Nat := if F < n then n - 1 else n
def tkb (F E n b : Nat) : Nat := if F < n then b else if E = 0 then 1 else b
def tkc (c t b : Nat) : Nat := if c ≠ 0 ∧ c ≠ t then 1 else b
section TK
variable {F E n b c t : Nat} {T : Nat → Nat}
theorem tk1_in (h : F < n) : tk1 F n T = T (n - 1) := if_pos h
theorem tk1_out (h : n ≤ F) : tk1 F n T = 0 := if_neg (Nat.not_lt.mpr h)
theorem tkn_in (h : F < n) : tkn F n = n - 1 := if_pos h
theorem tkn_out (h : n ≤ F) : tkn F n = n := if_neg (Nat.not_lt.mpr h)
theorem tkb_in (h : F < n) : tkb F E n b = b := if_pos h
theorem tkb_dead (h : n ≤ F) (h2 : 0 < E) : tkb F E n b = b := by unfold tkb; rw [if_neg (Nat.not_lt.mpr h), if_neg (by omega)]
theorem tkb_no (h : n ≤ F) (h2 : E = 0) : tkb F E n b = 1 := by unfold tkb; rw [if_neg (Nat.not_lt.mpr h), if_pos h2]
theorem tkc_0 (h : c = 0) : tkc c t b = b := if_neg (fun q => q.1 h)
theorem tkc_eq (h : c = t) : tkc c t b = b := if_neg (fun q => q.2 h)
theorem tkc_no (h : 0 < c) (h2 : c ≠ t) : tkc c t b = 1 := if_pos ⟨by omega, h2⟩
theorem tkn_le (F n : Nat) : tkn F n ≤ n := by unfold tkn; split <;> omega
theorem tkb_le (h : b ≤ 1) : tkb F E n b ≤ 1 := by unfold tkb; (repeat' split) <;> omega
theorem tkc_le (h : b ≤ 1) : tkc c t b ≤ 1 := by unfold tkc; split <;> omega
theorem tkb_up (h : 0 < b) : 0 < tkb F E n b := by unfold tkb; (repeat' split) <;> omega
theorem tkc_up (h : 0 < b) : 0 < tkc c t b := by unfold tkc; split <;> omega
theorem tk_ok (h : tkb F E n 0 = 0) : hb1 F E n = some (tkn F n) := by
  unfold tkb at h; unfold hb1 tkn
  by_cases h1 : F < n
  · rw [if_pos h1, if_pos h1]
  · rw [if_neg h1] at h
    rw [if_neg h1, if_neg h1]
    by_cases h2 : E = 0
    · rw [if_pos h2] at h; omega
    · rw [if_neg h2]
theorem tk_no (h : 0 < tkb F E n 0) : hb1 F E n = none := by
  unfold tkb at h; unfold hb1
  by_cases h1 : F < n
  · rw [if_pos h1] at h; omega
  · rw [if_neg h1] at h
    rw [if_neg h1]
    by_cases h2 : E = 0
    · rw [if_pos h2]
    · rw [if_neg h2] at h; omega
theorem tt_ok (h : tkc (tk1 F n T) t (tkb F E n 0) = 0) : hbT F E T n t = some (tkn F n) := by
  unfold tkc at h
  by_cases h1 : tk1 F n T ≠ 0 ∧ tk1 F n T ≠ t
  · rw [if_pos h1] at h; omega
  · rw [if_neg h1] at h
    unfold hbT
    rw [if_neg (fun q => h1 ⟨q.2, q.1⟩)]
    exact tk_ok h
theorem tt_no (h : 0 < tkc (tk1 F n T) t (tkb F E n 0)) : hbT F E T n t = none := by
  unfold tkc at h
  unfold hbT
  by_cases h1 : tk1 F n T ≠ 0 ∧ tk1 F n T ≠ t
  · rw [if_pos ⟨h1.2, h1.1⟩]
  · rw [if_neg h1] at h
    rw [if_neg (fun q => h1 ⟨q.2, q.1⟩)]
    exact tk_no h
end TK
/-- a list is taken: height, last taken, whether it is bad -/
def tA (F E : Nat) (S : Nat → Nat) : Nat → Nat → (Nat × Nat × Nat) → (Nat × Nat × Nat)
  | 0, _, p => p
  | k + 1, d, p => if d = 0 then p else tA F E S k (d / 5) (tkn F p.1, tk1 F p.1 S, tkc (tk1 F p.1 S) (d % 5) (tkb F E p.1 p.2.2))
section TA
variable {F E : Nat} {S : Nat → Nat}
theorem tA_zero {k : Nat} {p : Nat × Nat × Nat} : tA F E S k 0 p = p := by cases k <;> rfl
theorem tA_succ {k d i j q : Nat} (h : 0 < d) : tA F E S (k + 1) d (i, j, q) = tA F E S k (d / 5) (tkn F i, tk1 F i S, tkc (tk1 F i S) (d % 5) (tkb F E i q)) := if_neg (by omega)
theorem tA_up : ∀ (k d i j q : Nat), 0 < q → 0 < (tA F E S k d (i, j, q)).2.2 := by
  intro k
  induction k with
  | zero => intro d i j q h; exact h
  | succ k ih =>
    intro d i j q h
    by_cases h0 : d = 0
    · rw [h0, tA_zero]; exact h
    · rw [tA_succ (by omega)]; exact ih _ _ _ _ (tkc_up (tkb_up h))
theorem tA_both : ∀ (k d i j : Nat), ((tA F E S k d (i, j, 0)).2.2 = 0 → hbL F E S k i d = some (tA F E S k d (i, j, 0)).1) ∧ (0 < (tA F E S k d (i, j, 0)).2.2 → hbL F E S k i d = none) := by
  intro k
  induction k with
  | zero => intro d i j; exact ⟨fun _ => rfl, fun h => absurd h (Nat.lt_irrefl 0)⟩
  | succ k ih =>
    intro d i j
    by_cases h0 : d = 0
    · rw [h0, tA_zero, hbL_zero]; exact ⟨fun _ => rfl, fun h => absurd h (Nat.lt_irrefl 0)⟩
    · rw [tA_succ (by omega)]
      have e : hbL F E S (k + 1) i d = match hbT F E S i (d % 5) with | none => none | some m => hbL F E S k m (d / 5) := if_neg h0
      rw [e]
      rcases Nat.eq_zero_or_pos (tkc (tk1 F i S) (d % 5) (tkb F E i 0)) with h | h
      · rw [tt_ok h, h]; exact ih (d / 5) (tkn F i) (tk1 F i S)
      · rw [tt_no h]; exact ⟨fun h2 => absurd (tA_up (F := F) (E := E) (S := S) k (d / 5) (tkn F i) (tk1 F i S) _ h) (by omega), fun _ => rfl⟩
theorem tA_ok {k d i j : Nat} (h : (tA F E S k d (i, j, 0)).2.2 = 0) : hbL F E S k i d = some (tA F E S k d (i, j, 0)).1 := (tA_both k d i j).1 h
theorem tA_no {k d i j : Nat} (h : 0 < (tA F E S k d (i, j, 0)).2.2) : hbL F E S k i d = none := (tA_both k d i j).2 h
end TA
theorem tA_le (F E : Nat) (S : Nat → Nat) : ∀ (k d i j q : Nat) (_ : q ≤ 1 := by omega), (tA F E S k d (i, j, q)).1 ≤ i ∧ (tA F E S k d (i, j, q)).2.2 ≤ 1 := by
  intro k
  induction k with
  | zero => intro d i j q h; exact ⟨Nat.le_refl _, h⟩
  | succ k ih =>
    intro d i j q h
    by_cases h0 : d = 0
    · rw [h0, tA_zero]; exact ⟨Nat.le_refl _, h⟩
    · rw [tA_succ (by omega)]
      have := ih (d / 5) (tkn F i) (tk1 F i S) _ (tkc_le (c := tk1 F i S) (t := d % 5) (tkb_le (F := F) (E := E) (n := i) h))
      have h2 := tkn_le F i
      exact ⟨Nat.le_trans this.1 h2, this.2⟩
/-! powers of 5 -/
theorem szL_hi : ∀ (k d : Nat), d < 5 ^ k → d < 5 ^ szL k d := by
  intro k
  induction k with
  | zero => intro d h; exact h
  | succ k ih =>
    intro d h
    by_cases h0 : d = 0
    · rw [h0, szL_zero]; decide
    · rw [szL_succ (by omega), Nat.pow_succ]
      have := ih (d / 5) (d5 h)
      omega
theorem szL_lo : ∀ (k d : Nat), 0 < d → d < 5 ^ k → 5 ^ (szL k d - 1) ≤ d := by
  intro k
  induction k with
  | zero => intro d h0 h; rw [Nat.pow_zero] at h; omega
  | succ k ih =>
    intro d h0 h
    rw [szL_succ h0, Nat.add_sub_cancel]
    by_cases h1 : d / 5 = 0
    · rw [h1, szL_zero]; exact h0
    · have h2 := ih (d / 5) (by omega) (d5 h)
      have h3 : 0 < szL k (d / 5) := by
        cases k with
        | zero => have := d5 h; rw [Nat.pow_zero] at this; omega
        | succ k => rw [szL_succ (by omega)]; omega
      obtain ⟨q, hq⟩ : ∃ q, szL k (d / 5) = q + 1 := ⟨szL k (d / 5) - 1, by omega⟩
      rw [hq, Nat.add_sub_cancel] at h2
      rw [hq, Nat.pow_succ]
      omega
theorem szL_pos {a : Nat} (h : 0 < a) : 0 < szL 6 a := by rw [szL_succ h]; omega
theorem pw_gt {a : Nat} (ha : a < 15625) : a / 5 < 5 ^ (szL 6 a - 1 - 0) := by
  rcases Nat.eq_zero_or_pos a with h | h
  · rw [h, szL_zero]; decide
  · have h1 := szL_hi 6 a ha
    obtain ⟨q, hq⟩ : ∃ q, szL 6 a = q + 1 := ⟨szL 6 a - 1, by have := szL_pos h; omega⟩
    rw [hq, Nat.pow_succ] at h1
    rw [hq, Nat.add_sub_cancel, Nat.sub_zero]
    omega
theorem pw_step {a k : Nat} (hk : k + 1 ≤ szL 6 a - 1) : 5 ^ (szL 6 a - 1 - k) = 5 ^ (szL 6 a - 1 - (k + 1)) * 5 := by
  rw [← Nat.pow_succ]; congr 1; omega
theorem pw_le {a k : Nat} (ha : a < 15625) (hk : k + 1 ≤ szL 6 a - 1) : 5 ^ (szL 6 a - 1 - (k + 1)) ≤ a / 5 := by
  rcases Nat.eq_zero_or_pos a with h | h
  · rw [h, szL_zero] at hk; omega
  · have h1 := szL_lo 6 a h ha
    have h2 : 5 ^ (szL 6 a - 1 - k) ≤ 5 ^ (szL 6 a - 1) := Nat.pow_le_pow_right (by decide) (by omega)
    rw [pw_step hk] at h2
    omega
theorem pw_lt {a : Nat} (k : Nat) : 5 ^ (szL 6 a - 1 - k) < 2 ^ 31 :=
  Nat.lt_of_le_of_lt (Nat.pow_le_pow_right (by decide) (show szL 6 a - 1 - k ≤ 6 by have := szL_le 6 a; omega)) (by decide)
def fv : Nat → Nat
  | 0 => 0
  | k + 1 => 5 ^ k
theorem fv_pos (k : Nat) : 0 < fv (k + 1) := Nat.pow_pos (by decide)
theorem fv_lt {k : Nat} (h : k + 1 ≤ 6) : fv (k + 1) < 2 ^ 31 := Nat.lt_of_le_of_lt (Nat.pow_le_pow_right (by decide) (show k ≤ 6 by omega)) (by decide)
theorem fv_div (k : Nat) : fv (k + 1) / 5 = fv k := by
  cases k with
  | zero => rfl
  | succ k => show 5 ^ (k + 1) / 5 = 5 ^ k; rw [Nat.pow_succ]; exact Nat.mul_div_cancel _ (by decide)
theorem fv_at {s : Nat} (h : 0 < s) : fv s = 5 ^ (s - 1 - 0) := by
  cases s with
  | zero => omega
  | succ s => rfl
/-- k digits of a are put from i on, the highest first -/
def pu : (Nat → Nat) → Nat → Nat → Nat → (Nat → Nat)
  | f, _, _, 0 => f
  | f, i, a, k + 1 => pu (va_up f i (a / fv (k + 1) % 5)) (i + 1) a k
theorem pl_eq (a : Nat) : ∀ (k d : Nat) (f : Nat → Nat) (j : Nat), pl f a k d j = if a ≤ j ∧ j < a + k then d / 5 ^ (a + k - 1 - j) % 5 else f j := by
  intro k
  induction k with
  | zero => intro d f j; rw [if_neg (by omega)]; rfl
  | succ k ih =>
    intro d f j
    show pl (va_up f (a + k) (d % 5)) a k (d / 5) j = _
    rw [ih]
    unfold va_up
    by_cases h1 : j = a + k
    · rw [if_neg (by omega), if_pos h1, if_pos (by omega), show a + (k + 1) - 1 - j = 0 by omega, Nat.pow_zero, Nat.div_one]
    · by_cases h2 : a ≤ j ∧ j < a + k
      · rw [if_pos h2, if_pos (by omega), show a + (k + 1) - 1 - j = (a + k - 1 - j) + 1 by omega, Nat.pow_succ, Nat.mul_comm, Nat.div_div_eq_div_mul]
      · rw [if_neg h2, if_neg h1, if_neg (by omega)]
theorem pu_eq (a : Nat) : ∀ (k i : Nat) (f : Nat → Nat) (j : Nat), pu f i a k j = if i ≤ j ∧ j < i + k then a / 5 ^ (i + k - 1 - j) % 5 else f j := by
  intro k
  induction k with
  | zero => intro i f j; rw [if_neg (by omega)]; rfl
  | succ k ih =>
    intro i f j
    show pu (va_up f i (a / fv (k + 1) % 5)) (i + 1) a k j = _
    rw [ih]
    unfold va_up
    by_cases h1 : j = i
    · rw [if_neg (by omega), if_pos h1, if_pos (by omega), show i + (k + 1) - 1 - j = k by omega]; rfl
    · by_cases h2 : i + 1 ≤ j ∧ j < i + 1 + k
      · rw [if_pos h2, if_pos (by omega), show i + (k + 1) - 1 - j = i + 1 + k - 1 - j by omega]
      · rw [if_neg h2, if_neg h1, if_neg (by omega)]
theorem pu_pl (f : Nat → Nat) (i a k : Nat) : pu f i a k = pl f i k a := by
  funext j
  rw [pu_eq, pl_eq]
theorem pl_lt {f : Nat → Nat} {a k d : Nat} (h : ∀ j, f j < 5) : ∀ j, pl f a k d j < 5 := by
  intro j
  rw [pl_eq]
  by_cases h1 : a ≤ j ∧ j < a + k
  · rw [if_pos h1]; exact Nat.mod_lt _ (by decide)
  · rw [if_neg h1]; exact h j
/-! labels, frames, room -/
def nlb (r : Nat) (x : Int32) : Nat := if ¬ x < 0 ∧ x < nI r then 0 else 1
section NL
variable {r a : Nat} {x : Int32}
theorem nlb_in (h1 : ¬ x < 0) (h2 : x < nI r) : nI (nlb r x) = nI 0 := by unfold nlb; rw [if_pos ⟨h1, h2⟩]
theorem nlb_lo (h1 : x < 0) : nI (nlb r x) = nI 1 := by unfold nlb; rw [if_neg (fun q => q.1 h1)]
theorem nlb_hi (h2 : ¬ x < nI r) : nI (nlb r x) = nI 1 := by unfold nlb; rw [if_neg (fun q => h2 q.2)]
theorem nlb_le (r : Nat) (x : Int32) : nlb r x ≤ 1 := by unfold nlb; split <;> omega
theorem nl_ok (h : nlb r x = 0) : xf r x = none := by
  unfold nlb at h; unfold xf
  by_cases h1 : ¬ x < 0 ∧ x < nI r
  · rw [if_pos h1]
  · rw [if_neg h1] at h; omega
theorem nl_no (h : 0 < nlb r x) : xf r x = some NSE := by
  unfold nlb at h; unfold xf
  by_cases h1 : ¬ x < 0 ∧ x < nI r
  · rw [if_pos h1] at h; omega
  · rw [if_neg h1]
theorem nf_ok (h : 0 < r) : nf r = none := if_neg (by omega)
theorem nf_no (h : r = 0) : nf r = some NSE := if_pos h
theorem rm_ok (h : a ≤ 300) : rmE a = none := if_neg (by omega)
theorem rm_no (h : 300 < a) : rmE a = some AE := if_pos h
theorem xf_eq (h : xf r x = none) : x = nI x.toNatClampNeg := by
  obtain ⟨h1, -⟩ := xf_at h
  obtain ⟨j, hj, rfl⟩ := nI_of h1
  rw [nI_clamp hj]
end NL
theorem zn2 {b : Nat} (h : b ≤ 1) : narrow .boolean (.int (nI b)) = .int (nI b) := by
  rcases (show b = 0 ∨ b = 1 by omega) with rfl | rfl <;> rfl
/-- the number of an exception in a list -/
def cdl : List String → String → Nat
  | [], _ => 0
  | a :: l, e => if a = e then 1 else cdl l e + 1
/-! the class's numbers and the reference's -/
def Rel (fT fK fA fB fF fE : Nat → Nat) (xh xg xr xn : Nat) (gS gK gI gO gF gE : Nat → Nat) (yn ym yr yd : Nat) : Prop :=
  xh = yn ∧ xg = ym ∧ xr = yr ∧ xn = yd ∧ (∀ j, j < xh → fT j = gS j) ∧ ∀ j, j < xr → fK j = gK j ∧ fA j = gI j ∧ fB j = gO j ∧ fF j = gF j ∧ fE j = gE j
def IM (gS gK gI gO gF gE : Nat → Nat) (yn ym yr : Nat) : Prop := (∀ j, gS j < 5) ∧ (∀ j, gK j < 4) ∧ (∀ j, gI j < 15625) ∧ (∀ j, gO j < 15625) ∧ (∀ j, gF j ≤ 300) ∧ (∀ j, gE j ≤ 1) ∧ yn ≤ 300 ∧ ym ≤ 300 ∧ yr ≤ 40
theorem im_up {f : Nat → Nat} {m k v : Nat} (h : ∀ j, f j ≤ m) (hv : v ≤ m) : ∀ j, va_up f k v j ≤ m := by
  intro j
  unfold va_up
  by_cases hj : j = k
  · rw [if_pos hj]; exact hv
  · rw [if_neg hj]; exact h j
theorem im_upl {f : Nat → Nat} {m k v : Nat} (h : ∀ j, f j < m) (hv : v < m) : ∀ j, va_up f k v j < m := by
  intro j
  unfold va_up
  by_cases hj : j = k
  · rw [if_pos hj]; exact hv
  · rw [if_neg hj]; exact h j
section RL
variable {gS gK gI gO gF gE gQ S' : Nat → Nat} {yn ym yr yd : Nat}
theorem rel_rf : Rel gS gK gI gO gF gE yn ym yr yd gS gK gI gO gF gE yn ym yr yd := ⟨rfl, rfl, rfl, rfl, fun _ _ => rfl, fun _ _ => ⟨rfl, rfl, rfl, rfl, rfl⟩⟩
theorem rel_undo : Rel gS gK gI gO gF gE yn ym yr yd (cpn S' (cpn gQ gS yn) yn) gK gI gO gF gE yn ym yr yd := ⟨rfl, rfl, rfl, rfl, fun j h => by rw [cpn_in h, cpn_in h], fun _ _ => ⟨rfl, rfl, rfl, rfl, rfl⟩⟩
theorem rel_m {a : Nat} (h : a ≤ ym) : Rel gS gK gI gO gF gE a ym yr yd gS gK gI gO gF gE a (max ym a) yr yd := by
  rw [Nat.max_eq_left h]; exact rel_rf
theorem im_undo (hi : IM gS gK gI gO gF gE yn ym yr) (h : ∀ j, S' j < 5) : IM (cpn S' (cpn gQ gS yn) yn) gK gI gO gF gE yn ym yr :=
  ⟨cpn_lt yn h (fun j hj => by rw [cpn_in hj]; exact hi.1 j), hi.2⟩
theorem im_start {a : Nat} (hi : IM gS gK gI gO gF gE yn ym yr) (h : a < 15625) : IM gS (va_up gK 0 0) (va_up gI 0 0) (va_up gO 0 a) (va_up gF 0 0) (va_up gE 0 0) 0 0 1 :=
  ⟨hi.1, im_upl hi.2.1 (by decide), im_upl hi.2.2.1 (by decide), im_upl hi.2.2.2.1 h, im_up hi.2.2.2.2.1 (by decide), im_up hi.2.2.2.2.2.1 (by decide), by decide, by decide, by decide⟩
end RL
