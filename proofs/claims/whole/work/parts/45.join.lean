/-! Calls whose callee has some cells of the world; the law's own methods: forms. -/
section CJ
variable {p : Program} {l : Launch} {e : Env} {R : Room} {s : State} {m : MethodId} {args : Array Value} {below : List Frame} {meth : Method} {c : Code} {H : Heap} {locs : List Loc} {cells slots : Nat} {Q : State → Prop}
variable {pc : Nat} {ls : Array Slot} {st0 rest : List Value} {D : va_G} {A : Nat → Prop} {ws Wc Wr : va_W} {mc ms : Nat}
/-- a call: what the callee leaves of its cells stands beside the rest of the world -/
theorem cl_j {Qa : State → Outcome → State → Prop} (hP : va_P D cls2 ws H) (hD : va_D A ws) (hS : va_S A s.heap H locs) (hA : ∀ q : Nat, s.heap.size ≤ q → A q) (isC isR : List Nat) (hC : isC.map (fun i => ws[i]?) = Wc.map some) (hR : isR.map (fun i => ws[i]?) = Wr.map some) (hn : va_nd isR = true) (hdis : ∀ i ∈ isR, i ∉ isC)
    (hr : va_Run p l e R s m args below meth c H locs cells slots mc ms (F0 m pc ls st0) rest Qa (va_A Wc H.size)) (hF : ∀ st o t, Qa st o t → va_F (va_A Wc H.size) st t)
    (kk : ∀ (v : Option Value) (st t : State) (H1 : Heap) (locs1 : List Loc), Qa st (.returned v) t → t.heap = H1 → (∀ W1 : va_W, va_P D cls2 W1 H1 → va_D (va_A Wc H.size) W1 → va_P D cls2 (Wr ++ W1) H1 ∧ va_D A (Wr ++ W1)) → va_S A s.heap H1 locs1 → s.vm.Alike t.vm →
      W p l e R s m args below meth c H1 locs1 (cells + mc) (slots + ms) Q (F0 m (pc + 3) ls (v.toList ++ rest))) : W p l e R s m args below meth c H locs cells slots Q (F0 m pc ls st0) := by
  intro T hT X
  obtain ⟨v, st₀, t, T', L, h0, X', hL, e1, e2, hq, st⟩ := hr T hT X
  obtain ⟨hz, hk⟩ := hF _ _ _ hq
  rw [h0] at hz hk
  have hFc := va_free (wc := Wc) hD hS hA isC hC
  obtain ⟨t2, a1, b1⟩ := kk v st₀ t T'.heap (locs ++ L) hq e1.symm
    (fun W1 h1 h2 => va_join (wc := Wc) hP hD isC isR hC hR hn hdis (fun q h3 h4 => by rw [e1]; exact hk q h3 h4) hFc h1 h2)
    ⟨Nat.le_trans hS.1 (by rw [e1]; exact hz), fun q h1 h2 => by rw [e1, hk q (Nat.lt_of_lt_of_le h1 hS.1) (fun z => h2 (hFc q z))]; exact hS.2.1 q h1 h2, fun q hq => (List.mem_append.mp hq).elim (hS.2.2 q) (fun h => hFc _ (hL q h))⟩
    (by rw [← e2]; exact X'.warmed.alike) T' rfl X'
  exact ⟨t2, st t2 a1, b1⟩
/-- a call of one of the class's public methods: it returns, or it throws and all is as it was -/
theorem cl_xj {er : Option String} {tys : List (ClassId × FieldType)} {W1 : va_W} {v : Option Value} {a : Array Value} (hP : va_P D cls2 ws H) (hD : va_D A ws) (hS : va_S A s.heap H locs) (hA : ∀ q : Nat, s.heap.size ≤ q → A q) (isC isR : List Nat) (hC : isC.map (fun i => ws[i]?) = Wc.map some) (hR : isR.map (fun i => ws[i]?) = Wr.map some) (hn : va_nd isR = true) (hdis : ∀ i ∈ isR, i ∉ isC)
    (hr : vx_Run p l e R s m args below meth c H locs cells slots mc ms (F0 m pc ls st0) rest (QXW er D tys Wc W1 H.size v a) (XX er) (va_A Wc H.size))
    (kx : ∀ (E : String) (ce : Cell) (q : Addr) (H1 : Heap) (locs1 : List Loc), er = some E → va_P D cls2 ws H1 → va_S A s.heap H1 locs1 → H1[q]? = some ce → ce.vm = .none → s.vm.findClass E = some ce.cls → vx_W p l e R s m args below meth c H1 locs1 (cells + mc) (slots + ms) Q (F0 m pc ls rest) q)
    (kk : er = none → ∀ (H1 : Heap) (locs1 : List Loc), va_P D cls2 (Wr ++ W1) H1 → va_D A (Wr ++ W1) → va_S A s.heap H1 locs1 → W p l e R s m args below meth c H1 locs1 (cells + mc) (slots + ms) Q (F0 m (pc + 3) ls (v.toList ++ rest))) : W p l e R s m args below meth c H locs cells slots Q (F0 m pc ls st0) := by
  intro T hT X
  have hFc := va_free (wc := Wc) hD hS hA isC hC
  rcases hr T hT X with ⟨v', st₀, t, T', L, h0, X', hL, e1, e2, ⟨he, ⟨hv, hP1, hD1⟩, hz, hk⟩, st⟩ | ⟨q, st₀, t, T', L, E, ce, h0, X', hL, e1, e2, ⟨he, hz, hk⟩, hce, hcv, hcl, st⟩
  · cases hv
    rw [h0] at hz hk
    obtain ⟨hP2, hD2⟩ := va_join (wc := Wc) (H1 := T'.heap) hP hD isC isR hC hR hn hdis (fun q h3 h4 => by rw [e1]; exact hk q h3 h4) hFc (by rw [e1]; exact hP1) hD1
    obtain ⟨t2, a1, b1⟩ := kk he T'.heap (locs ++ L) hP2 hD2
      ⟨Nat.le_trans hS.1 (by rw [e1]; exact hz), fun q h1 h2 => by rw [e1, hk q (Nat.lt_of_lt_of_le h1 hS.1) (fun z => h2 (hFc q z))]; exact hS.2.1 q h1 h2, fun q hq => (List.mem_append.mp hq).elim (hS.2.2 q) (fun h => hFc _ (hL q h))⟩ T' rfl X'
    exact ⟨t2, st t2 a1, b1⟩
  · rw [h0] at hz hk
    obtain ⟨t2, a1, b1⟩ := kx E ce q T'.heap (locs ++ L) he (hP.kept (fun k x hx => by rw [e1]; exact hk x.1 ((hP k x hx).lt) (fun z => z)))
      ⟨Nat.le_trans hS.1 (by rw [e1]; exact hz), fun q h1 h2 => by rw [e1, hk q (Nat.lt_of_lt_of_le h1 hS.1) (fun z => z)]; exact hS.2.1 q h1 h2, fun q hq => (List.mem_append.mp hq).elim (hS.2.2 q) (fun h => hFc _ (hL q h))⟩ (by rw [e1]; exact hce) hcv hcl T' rfl X'
    exact ⟨t2, st.trans a1, b1⟩
end CJ
theorem va_same {D : va_G} {cl : List vw_C} {tys : List (ClassId × FieldType)} {s : State} (hK : va_K D cl tys s) (i j : Nat) {a b : ClassId} (hi : tys[i]? = some (a, .int)) (hj : tys[j]? = some (b, .int)) : a = b :=
  Option.some.inj ((hK.2 i _ hi).2.symm.trans (hK.2 j _ hj).2)
/-- none of the five is another of them -/
def nc5 : List (String × String) := [(IAE, NSE), (IAE, ISE), (IAE, AE), (IAE, UOE), (NSE, IAE), (NSE, ISE), (NSE, AE), (NSE, UOE), (ISE, IAE), (ISE, NSE), (ISE, AE), (ISE, UOE), (AE, IAE), (AE, NSE), (AE, ISE), (AE, UOE), (UOE, IAE), (UOE, NSE), (UOE, ISE), (UOE, AE)]
def Nc (U : State) : Prop := ∀ q ∈ nc5, va_Nc q.1 q.2 U
theorem Nc.to {u U : State} (h : Nc u) (hvm : u.vm.Alike U.vm) : Nc U := fun q hq => (h q hq).moved hvm
/-- a start of one of the law's own methods -/
def PL (D : va_G) (tys : List (ClassId × FieldType)) (W0 : va_W) (sz : Nat) (av : List Value) : Array Value → State → Prop := va_Pc av (fun U => U.heap.size = sz ∧ va_P D cls2 W0 U.heap ∧ va_K D cls2 tys U ∧ va_D (fun _ => True) W0 ∧ Ev (va_A W0 sz) U ∧ Nc U)
theorem PL.blind {D : va_G} {tys : List (ClassId × FieldType)} {W0 : va_W} {sz : Nat} {av : List Value} : FrameBlind (PL D tys W0 sz av) := fun a U g mk q => by
  obtain ⟨q0, q1, qP, qK, qD, qE, qN⟩ := q
  exact ⟨q0, q1, qP, va_K.moved (u := U) (U := U.calling g mk a) (Vm.Alike.refl U.vm) qK, qD, Ev.to (U := U.calling g mk a) qE (Vm.Alike.refl U.vm) (fun _ _ _ => rfl) (fun _ h => h), Nc.to (U := U.calling g mk a) qN (Vm.Alike.refl U.vm)⟩
theorem PL.pre {D : va_G} {tys : List (ClassId × FieldType)} {W0 : va_W} {av : List Value} {A : Nat → Prop} {s : State} {H : Heap} {locs : List Loc} (hP : va_P D cls2 W0 H) (hK : va_K D cls2 tys s) (hD : va_D A W0) (hS : va_S A s.heap H locs) (hA : ∀ q : Nat, s.heap.size ≤ q → A q) (hE : Ev A s) (hN : Nc s) :
    ∀ U : State, U.heap = H → s.WarmedH U.vm → PL D tys W0 H.size av av.toArray U := fun U hU hW =>
  ⟨rfl, by rw [hU], by rw [hU]; exact hP, va_K.moved hW.alike hK, hD.weaken (fun _ _ _ _ => trivial), Ev.to hE hW.alike (fun a h1 h2 => by rw [hU]; exact hS.2.1 a h1 h2) (va_all hD hS hA), hN.to hW.alike⟩
/-- its end: 0 and the class's new world, or the exception's number and the old one -/
abbrev QL (er : Option String) (cd : String → Nat) (D : va_G) (W0 W1 : va_W) (sz : Nat) : Array Value → State → Outcome → State → Prop := fun _ st o t =>
  ((er = none → o = .returned (some (.int (nI 0))) ∧ va_P D cls2 W1 t.heap ∧ va_D (va_A W0 sz) W1) ∧ ∀ E, er = some E → o = .returned (some (.int (nI (cd E)))) ∧ va_P D cls2 W0 t.heap ∧ va_D (va_A W0 sz) W0) ∧ va_F (va_A W0 sz) st t
abbrev rmL : Room := { frames := 11, cells := 1, slots := 6, locals := 290 }
theorem orE_e {a b : Option String} {E : String} (h : orE a b = some E) : a = some E ∨ b = some E := by
  cases a with
  | none => exact Or.inr h
  | some e => exact Or.inl h
theorem xl_e {x : Int32} {E : String} (h : xl x = some E) : E = IAE := by
  unfold xl at h; split at h <;> cases h; rfl
theorem xf_e {r : Nat} {x : Int32} {E : String} (h : xf r x = some E) : E = NSE := by
  unfold xf at h; split at h <;> cases h; rfl
theorem nf_e {r : Nat} {E : String} (h : nf r = some E) : E = NSE := by
  unfold nf at h; split at h <;> cases h; rfl
theorem rm_e {r : Nat} {E : String} (h : rmE r = some E) : E = AE := by
  unfold rmE at h; split at h <;> cases h; rfl
theorem f40_e {r : Nat} {E : String} (h : f40 r = some E) : E = AE := by
  unfold f40 at h; split at h <;> cases h; rfl
theorem xo_e {X : String} {o : Option Nat} {E : String} (h : xo X o = some E) : E = X := by
  cases o <;> cases h; rfl
theorem jw_e {F : Nat} {o : Option Nat} {E : String} (h : jw F o = some E) : E = ISE := by
  cases o with
  | none => cases h; rfl
  | some m => unfold jw at h; dsimp only at h; split at h <;> cases h; rfl
theorem xk_e {x : Int32} {E : String} (h : xk x = some E) : E = IAE := by
  unfold xk at h; split at h <;> cases h; rfl
theorem ifE_e {k : Nat} {E : String} (h : ifE k = some E) : E = UOE := by
  unfold ifE at h; split at h <;> cases h; rfl
theorem ifL_e {k a b : Nat} {E : String} (h : ifL k a b = some E) : E = UOE := by
  unfold ifL at h; split at h <;> cases h; rfl
theorem szE_e {a b : Nat} {E : String} (h : szE a b = some E) : E = UOE := by
  unfold szE at h; split at h <;> cases h; rfl
theorem x6_e {y : Int32} {E : String} (h : x6 y = some E) : E = IAE := by
  unfold x6 at h; split at h <;> cases h; rfl
