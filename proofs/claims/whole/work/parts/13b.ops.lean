/-! what the calls that change the net do, in numbers -/
abbrev hasM (S : tkS) (x : Int32) : Prop := 0 ≤ x ∧ x < nI (sM S)
abbrev fitB (l h f : Int32) : Prop := f ≤ l ∧ l ≤ h ∧ h ≤ 100000
def rfF (S : tkS) (a b l h f : Int32) : Int32 := if ¬ (hasM S a ∧ hasM S b) then -11 else if a = b then -13 else if fitB l h f then 0 else -12
def app (S : tkS) (a b : Nat) (l h g : Int32) : tkS := (sM S, sL S + 1, sG S, tk_u1 (sf S) (sL S) a, tk_u1 (se S) (sL S) b, tk_u1 (slo S) (sL S) l, tk_u1 (shi S) (sL S) h, tk_u1 (sgn S) (sL S) g, sgl S)
def addG (S : tkS) : tkS := (sM S, sL S, sG S + 1, sf S, se S, slo S, shi S, sgn S, tk_u1 (sgl S) (sG S) (sL S))
def opMom (S : tkS) (n : Int32) : Int32 × tkS := if n < 1 ∨ 16 < n then (-12, S) else if 16 < nI (sM S) + n then (-14, S) else (nI (sM S + n.toNatClampNeg), (sM S + n.toNatClampNeg, S.2))
def opWish (S : tkS) (a b l h : Int32) : Int32 × tkS := if rfF S a b l h (-100000) = 0 then (if 60 ≤ sL S then (-14, S) else (nI (sL S), app S a.toNatClampNeg b.toNatClampNeg l h (-9))) else (rfF S a b l h (-100000), S)
/-- whether k is met going back from m, n steps at most -/
def cfF (S : tkS) (k : Nat) : Nat → Nat → Bool
  | 0, _ => true
  | n + 1, m => if m = k then true else if gt S m < sG S then cfF S k n (sf S (sgl S (gt S m))) else false
def opGift (S : tkS) (a b l h : Int32) : Int32 × tkS := if rfF S a b l h 1 = 0 then (if gt S b.toNatClampNeg < sG S ∨ cfF S b.toNatClampNeg 7 a.toNatClampNeg = true then (-13, S) else if 60 ≤ sL S ∨ 6 ≤ sG S then (-14, S) else (nI (sL S), app (addG S) a.toNatClampNeg b.toNatClampNeg l h (nI (sG S)))) else (rfF S a b l h 1, S)
def opUndo (S : tkS) : Int32 × tkS := if sL S = 0 then (-13, S) else (nI (sL S - 1), (sM S, sL S - 1, (if sgn S (sL S - 1) = -9 then sG S else sG S - 1), S.2.2.2))
def opTight (S : tkS) (k l h : Int32) : Int32 × tkS := if 0 ≤ k ∧ k < nI (sL S) then (if fitB l h (if sgn S k.toNatClampNeg = -9 then -100000 else 1) then (1, (sM S, sL S, sG S, sf S, se S, tk_u1 (slo S) k.toNatClampNeg l, tk_u1 (shi S) k.toNatClampNeg h, sgn S, sgl S)) else (-12, S)) else (-11, S)
theorem hasM_nat {S : tkS} (w : sM S ≤ 16) {x : Int32} (h : hasM S x) : ∃ j, j < sM S ∧ x = nI j ∧ x.toNatClampNeg = j := by
  obtain ⟨h1, h2⟩ := h
  obtain ⟨j, hj, rfl⟩ := nI_of (Int32.not_lt.mpr h1)
  have := (nI_ltI hj (by omega)).mp h2
  exact ⟨j, this, rfl, nI_clamp hj⟩
theorem tk_so_id {α : Type} {I : Nat → Nat → α} {ci b : Nat} : tk_so I ci b (I ci b) = I := by
  funext a d
  by_cases e : a = ci ∧ d = b
  · obtain ⟨rfl, rfl⟩ := e; rw [tk_so_same]
  · rw [tk_so_ne e]
theorem tk_so_so {α : Type} {I : Nat → Nat → α} {ci b : Nat} {N N' : α} : tk_so (tk_so I ci b N) ci b N' = tk_so I ci b N' := by
  funext a d
  by_cases e : a = ci ∧ d = b
  · obtain ⟨rfl, rfl⟩ := e; rw [tk_so_same, tk_so_same]
  · rw [tk_so_ne e, tk_so_ne e, tk_so_ne e]
theorem tk_u2_0 {α : Type} {N : Nat → Nat → α} {s k a j : Nat} {x : α} (h : ¬ (a = s ∧ j = k)) : tk_u2 N s k x a j = N a j := by
  by_cases e : a = s
  · subst e
    rw [tk_u2_at, tk_u1_ne (fun q => h ⟨rfl, q⟩)]
  · rw [tk_u2_ne e]
theorem tk_u2_1 {α : Type} {N : Nat → Nat → α} {s k : Nat} {x : α} : tk_u2 N s k x s k = x := by rw [tk_u2_at, tk_u1_same]
theorem NetP_app {X : Nat → Nat → Int32} {S : tkS} (h : NetP X S) {a b k : Nat} {l hh g y : Int32} (hk : k = sL S) (hy : y = nI (sL S + 1)) : NetP (tk_u2 (tk_u2 (tk_u2 (tk_u2 (tk_u2 (tk_u2 X 4 k (nI a)) 5 k (nI b)) 6 k l) 7 k hh) 8 k g) 0 1 y) (app S a b l hh g) := by
  subst hk
  subst hy
  obtain ⟨h1, h2, h3, h4, h5⟩ := h
  refine ⟨?_, ?_, ?_, fun j hj => ?_, fun q hq => ?_⟩
  · simp [tk_u2_0]; exact h1
  · simp [tk_u2_1]; rfl
  · simp [tk_u2_0]; exact h3
  · have hj : j < sL S + 1 := hj
    by_cases e : j = sL S
    · subst e
      simp [tk_u2_0, tk_u2_1, app, sf, se, slo, shi, sgn, tk_u1_same]
    · obtain ⟨g1, g2, g3, g4, g5⟩ := h4 j (by omega)
      simp [tk_u2_0, app, sf, se, slo, shi, sgn, tk_u1_ne e, e]
      exact ⟨g1, g2, g3, g4, g5⟩
  · simp [tk_u2_0]; exact h5 q hq
theorem NetP_addG {X : Nat → Nat → Int32} {S : tkS} (h : NetP X S) {k : Nat} {x y : Int32} (hk : k = sG S) (hx : x = nI (sL S)) (hy : y = nI (sG S + 1)) : NetP (tk_u2 (tk_u2 X 9 k x) 0 2 y) (addG S) := by
  subst hk
  subst hx
  subst hy
  obtain ⟨h1, h2, h3, h4, h5⟩ := h
  refine ⟨?_, ?_, ?_, fun j hj => ?_, fun q hq => ?_⟩
  · simp [tk_u2_0]; exact h1
  · simp [tk_u2_0]; exact h2
  · simp [tk_u2_1]; rfl
  · have := h4 j hj
    simp [tk_u2_0]; exact this
  · have hq : q < sG S + 1 := hq
    by_cases e : q = sG S
    · subst e
      simp [tk_u2_0, tk_u2_1, addG, sgl, tk_u1_same]
    · have := h5 q (by omega)
      simp [tk_u2_0, e, addG, sgl, tk_u1_ne e]; exact this
theorem nI_sub1 {n : Nat} : nI (n + 1) - 1 = nI n := nI_pred n
theorem dn_sw {M : tkM} {pc t n : Nat} {L : tkL} {r : List tkV} {w : tkW} {Q : tkQ} {x : Int32} {dflt lo hi : Int} {offs : Array Int} (ha : tk_at M.2.2.2.2 pc = some (.tableswitch dflt lo hi offs, n)) (hs : (hi - lo + 1).toNat = offs.size ∧ lo ≤ hi) (ht : (pc : Int) + tk_swo dflt lo hi offs x = (t : Int)) (k : tkDn M (t, L, r, w) Q) : tkDn M (pc, L, .inl x :: r, w) Q := by
  refine dn_run 1 ?_
  unfold tk_stps
  dsimp only
  rw [ha]
  show ((hi - lo + 1).toNat = offs.size ∧ lo ≤ hi ∧ 0 ≤ (pc : Int) + tk_swo dflt lo hi offs x) ∧ tkDn M (((pc : Int) + tk_swo dflt lo hi offs x).toNat, L, r, w) Q
  rw [ht]
  exact ⟨⟨hs.1, hs.2, Int.natCast_nonneg t⟩, k⟩
theorem sw_out {dflt lo hi : Int} {offs : Array Int} {x : Int32} (h : x.toInt < lo ∨ hi < x.toInt) : tk_swo dflt lo hi offs x = dflt := by unfold tk_swo; rw [if_pos h]
theorem rfF_0 {S : tkS} {a b l h f : Int32} (q : rfF S a b l h f = 0) : hasM S a ∧ hasM S b ∧ ¬ a = b ∧ fitB l h f := by
  unfold rfF at q
  split at q
  · exact absurd q (by decide)
  · rename_i h1
    split at q
    · exact absurd q (by decide)
    · rename_i h2
      split at q
      · rename_i h3
        have h1' : hasM S a ∧ hasM S b := Classical.not_not.mp h1
        exact ⟨h1'.1, h1'.2, h2, h3⟩
      · exact absurd q (by decide)
def lnkF (S : tkS) (l what : Int32) : Int32 := if 0 ≤ l ∧ l < nI (sL S) then (if what = 0 then nI (sf S l.toNatClampNeg) else if what = 1 then nI (se S l.toNatClampNeg) else if what = 2 then slo S l.toNatClampNeg else if what = 3 then shi S l.toNatClampNeg else if what = 4 then sgn S l.toNatClampNeg else -12) else -11
theorem hasL_nat {S : tkS} (w : sL S ≤ 60) {x : Int32} (h : 0 ≤ x ∧ x < nI (sL S)) : ∃ j, j < sL S ∧ x = nI j := by
  obtain ⟨h1, h2⟩ := h
  obtain ⟨j, hj, rfl⟩ := nI_of (Int32.not_lt.mpr h1)
  exact ⟨j, (nI_ltI hj (by omega)).mp h2, rfl⟩
theorem NetP_undo {X : Nat → Nat → Int32} {S : tkS} (h : NetP X S) {y z : Int32} {G : Nat} (hG : G ≤ sG S) (h0 : 0 < sL S) (hy : y = nI (sL S - 1)) (hz : z = nI G) : NetP (tk_u2 (tk_u2 X 0 1 y) 0 2 z) (sM S, sL S - 1, G, S.2.2.2) := by
  subst hy
  subst hz
  obtain ⟨h1, h2, h3, h4, h5⟩ := h
  refine ⟨?_, ?_, ?_, fun j hj => ?_, fun q hq => ?_⟩
  · simp [tk_u2_0]; exact h1
  · simp [tk_u2_0, tk_u2_1]; rfl
  · simp [tk_u2_1]; rfl
  · have hj : j < sL S - 1 := hj
    have := h4 j (by omega)
    simp [tk_u2_0]; exact this
  · have hq : q < G := hq
    have := h5 q (by omega)
    simp [tk_u2_0]; exact this
theorem NetP_undo1 {X : Nat → Nat → Int32} {S : tkS} (h : NetP X S) {y : Int32} (h0 : 0 < sL S) (hy : y = nI (sL S - 1)) : NetP (tk_u2 X 0 1 y) (sM S, sL S - 1, sG S, S.2.2.2) := by
  subst hy
  obtain ⟨h1, h2, h3, h4, h5⟩ := h
  refine ⟨?_, ?_, ?_, fun j hj => ?_, fun q hq => ?_⟩
  · simp [tk_u2_0]; exact h1
  · simp [tk_u2_1]; rfl
  · simp [tk_u2_0]; exact h3
  · have hj : j < sL S - 1 := hj
    have := h4 j (by omega)
    simp [tk_u2_0]; exact this
  · have := h5 q hq
    simp [tk_u2_0]; exact this
theorem NetP_tight {X : Nat → Nat → Int32} {S : tkS} (h : NetP X S) {k : Nat} {l hh : Int32} : NetP (tk_u2 (tk_u2 X 6 k l) 7 k hh) (sM S, sL S, sG S, sf S, se S, tk_u1 (slo S) k l, tk_u1 (shi S) k hh, sgn S, sgl S) := by
  obtain ⟨h1, h2, h3, h4, h5⟩ := h
  refine ⟨?_, ?_, ?_, fun j hj => ?_, fun q hq => ?_⟩
  · simp [tk_u2_0]; exact h1
  · simp [tk_u2_0]; exact h2
  · simp [tk_u2_0]; exact h3
  · obtain ⟨g1, g2, g3, g4, g5⟩ := h4 j hj
    by_cases e : j = k
    · subst e
      simp [tk_u2_0, tk_u2_1, slo, shi, sgn, sf, se, tk_u1_same]
      exact ⟨g1, g2, g5⟩
    · simp [tk_u2_0, e, slo, shi, sgn, sf, se, tk_u1_ne e]
      exact ⟨g1, g2, g3, g4, g5⟩
  · have := h5 q hq
    simp [tk_u2_0]; exact this
