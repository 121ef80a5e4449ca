/-! the reference: takes, item -/
/-- fields that the reading of numbers leaves alone -/
def fT (X0 X : Nat → Nat → Int32) : Prop := ∀ s j, ¬ (s = 0 ∧ 14 ≤ j ∧ j ≤ 18) → s ≠ 20 → X s j = X0 s j
set_option maxRecDepth 8000 in
theorem fT.tp {X0 X : Nat → Nat → Int32} {z : Nat} {B : Nat → Int32} (h : fT X0 X) (hB : TpM X0 z B) : TpM X z B := hB.to (h 0 13 (by decide) (by decide)) (fun j => h 13 j (by omega) (by decide))
set_option maxRecDepth 8000 in
theorem fT.u {X0 X : Nat → Nat → Int32} {s k : Nat} {x : Int32} (h : fT X0 X) (hk : (s = 0 ∧ 14 ≤ k ∧ k ≤ 18) ∨ s = 20) : fT X0 (tk_u2 X s k x) := fun a j h1 h2 => by
  rw [tk_u2_0 (by omega)]
  exact h a j h1 h2
set_option maxRecDepth 8000 in
theorem fT.nx {X0 X Y : Nat → Nat → Int32} (h : fT X0 X) (hy : ∀ s j, ¬ (s = 0 ∧ 14 ≤ j ∧ j ≤ 17) → Y s j = X s j) : fT X0 Y := fun s j h1 h2 => (hy s j (by omega)).trans (h s j h1 h2)
set_option maxRecDepth 8000 in
theorem NxP.num {B : Nat → Int32} {z r : Nat} {X : Nat → Nat → Int32} (h : NxP B z r X) : (X 0 15 = -3 ∧ r < z ∧ ∃ v q, tkN B z r = some (v, q) ∧ X 0 17 = v ∧ X 0 14 = nI q) ∨ (¬ X 0 15 = -3 ∧ tkN B z r = none) := by
  obtain ⟨-, h⟩ := h
  rcases h with ⟨h1, h2⟩ | ⟨h1, v, q, h2, h3, h4, h5⟩ | ⟨h1, h2, h3, h4, h5⟩ | ⟨h1, h2, h3, h4⟩
  · refine Or.inr ⟨by rw [h2]; decide, ?_⟩
    subst h1
    refine if_pos (Or.inl ?_)
    unfold nbD
    rw [show nbP B r r = r from if_neg (fun q => absurd q.1 (Nat.lt_irrefl _))]
    exact dg0 (Nat.le_refl _) (fun q => absurd q.1 (Nat.lt_irrefl _))
  · exact Or.inl ⟨h3, h1, v, q, h2, h4, h5⟩
  · refine Or.inr ⟨?_, h2⟩
    rw [h4]
    rcases h3 with q | q | q | q <;> (rw [q]; decide)
  · exact Or.inr ⟨by rw [h4]; decide, h2⟩
set_option maxRecDepth 8000 in
theorem tkN_head {B : Nat → Int32} {z r : Nat} {v : Int32} {q : Nat} (hr : r < z) (h : tkN B z r = some (v, q)) : ¬ ltP (B r) := by
  intro l
  have hs : ¬ sgP B z r := fun y => by rw [y.2] at l; exact absurd l (by decide)
  have hf : ¬ fgP B z r := fun y => by
    have h5 := y.2.2
    rcases l with q | q | q | q <;> (rw [q] at h5; exact absurd h5 (by decide))
  rw [tkN_no hr (fun y => hs ⟨hr, y.1⟩) hf] at h
  cases h
set_option maxRecDepth 8000 in
theorem NxP.tok {B : Nat → Int32} {z r : Nat} {X : Nat → Nat → Int32} (h : NxP B z r X) {c : Int32} (hc : ltP c) : X 0 15 = c ↔ r < z ∧ B r = c := by
  obtain ⟨-, h⟩ := h
  rcases h with ⟨h1, h2⟩ | ⟨h1, v, q, h2, h3, h4, h5⟩ | ⟨h1, h2, h3, h4, h5⟩ | ⟨h1, h2, h3, h4⟩
  · rw [h2]
    exact ⟨fun q => by rw [← q] at hc; exact absurd hc (by decide), fun q => by omega⟩
  · rw [h3]
    exact ⟨fun q => by rw [← q] at hc; exact absurd hc (by decide), fun q => absurd (by rw [q.2]; exact hc) (tkN_head h1 h2)⟩
  · rw [h4]
    exact ⟨fun q => ⟨h1, q⟩, fun q => q.2⟩
  · rw [h4]
    exact ⟨fun q => by rw [← q] at hc; exact absurd hc (by decide), fun q => absurd (by rw [q.2]; exact hc) h3⟩
set_option maxRecDepth 8000 in
theorem NxP.at {B : Nat → Int32} {z r : Nat} {X : Nat → Nat → Int32} (h : NxP B z r X) (hl : ltP (B r)) (hr : r < z) : X 0 14 = nI (r + 1) := by
  obtain ⟨-, h⟩ := h
  rcases h with ⟨h1, h2⟩ | ⟨h1, v, q, h2, h3, h4, h5⟩ | ⟨h1, h2, h3, h4, h5⟩ | ⟨h1, h2, h3, h4⟩
  · omega
  · exact absurd hl (tkN_head h1 h2)
  · exact h5
  · exact absurd hl h3
set_option maxRecDepth 8000 in
theorem sm_tk_loop {I : tkI} {J : tkJ} {R : Nat → Nat} {Q : tkQ} {z : Nat} {B : Nat → Int32} (hz : z ≤ 1000) {wn p0 : Nat} (hw4 : wn ≤ 4) {X0 : Nat → Nat → Int32} (hB : TpM X0 z B) (hF : ∀ X, fT X0 X → X 0 18 = nI (nmF B z wn 0 p0 (fun _ => 0)).2.1 → (nmF B z wn 0 p0 (fun _ => 0)).1 = false → Q (some (.inl 0)) (tk_so I 6 0 X, J, R)) (hK : ∀ X, fT X0 X → X 0 14 = nI (nmF B z wn 0 p0 (fun _ => 0)).2.1 → (nmF B z wn 0 p0 (fun _ => 0)).2.1 ≤ z → (∀ j, j < wn → X 20 j = (nmF B z wn 0 p0 (fun _ => 0)).2.2 j) → (nmF B z wn 0 p0 (fun _ => 0)).1 = true → tkDn tm_143 (46, [some (.inr (.inr (6, 0, 0))), some (.inl (nI wn)), some (.inl (nI wn))], [], (tk_so I 6 0 X, J, R)) Q) : ∀ n i q a X, i + n = wn → q ≤ z → fT X0 X → X 0 14 = nI q → (∀ j, j < i → X 20 j = a j) → nmF B z n i q a = nmF B z wn 0 p0 (fun _ => 0) → tkDn tm_143 (2, [some (.inr (.inr (6, 0, 0))), some (.inl (nI wn)), some (.inl (nI i))], [], (tk_so I 6 0 X, J, R)) Q := by
  intro n
  induction n with
  | zero =>
    intro i q a X hi hq hX h14 ha h
    show tkDn tm_143 (2, [some (.inr (.inr (6, 0, 0))), some (.inl (nI wn)), some (.inl (nI i))], [], (tk_so I 6 0 X, J, R)) _
    refine dn_run 2 (show tkDn tm_143 (4, [some (.inr (.inr (6, 0, 0))), some (.inl (nI wn)), some (.inl (nI i))], [.inl (nI wn), .inl (nI i)], (tk_so I 6 0 X, J, R)) _ from ?_)
    refine dn_if rfl rfl rfl (fun (c0 : (nI wn) ≤ (nI i)) => ?_) (fun (c0 : ¬ (nI wn) ≤ (nI i)) => ?_)
    · show tkDn tm_143 (46, [some (.inr (.inr (6, 0, 0))), some (.inl (nI wn)), some (.inl (nI i))], [], (tk_so I 6 0 X, J, R)) _
      have hi : i = wn := by omega
      subst hi
      have e1 : (true, q, a) = nmF B z i 0 p0 (fun _ => 0) := h
      exact hK X hX (by rw [← e1]; exact h14) (by rw [← e1]; exact hq) (fun j hj => by rw [← e1]; exact ha j hj) (by rw [← e1])
    · exact absurd (nI_le (by omega) (by omega)) c0
  | succ n ih =>
    intro i q a X hi hq hX h14 ha h
    show tkDn tm_143 (2, [some (.inr (.inr (6, 0, 0))), some (.inl (nI wn)), some (.inl (nI i))], [], (tk_so I 6 0 X, J, R)) _
    refine dn_run 2 (show tkDn tm_143 (4, [some (.inr (.inr (6, 0, 0))), some (.inl (nI wn)), some (.inl (nI i))], [.inl (nI wn), .inl (nI i)], (tk_so I 6 0 X, J, R)) _ from ?_)
    refine dn_if rfl rfl rfl (fun (c0 : (nI wn) ≤ (nI i)) => ?_) (fun (c0 : ¬ (nI wn) ≤ (nI i)) => ?_)
    · exact absurd c0 (nI_ge (by omega) (by omega))
    · show tkDn tm_143 (7, [some (.inr (.inr (6, 0, 0))), some (.inl (nI wn)), some (.inl (nI i))], [], (tk_so I 6 0 X, J, R)) _
      have hs := sbF_le (B := B) (z - q) q
      refine dn_run 1 (show tkDn tm_143 (8, [some (.inr (.inr (6, 0, 0))), some (.inl (nI wn)), some (.inl (nI i))], [.inr (.inr (6, 0, 0))], (tk_so I 6 0 X, J, R)) _ from ?_)
      refine dn_call rfl rfl rfl rfl rfl (sm_next hz (B := B) (p := q) (by rw [tk_so_same]; exact hX.tp hB) hq (by rw [tk_so_same]; exact h14) (fun X1 hN hX1 => ?_))
      rw [tk_so_so]
      rw [tk_so_same] at hX1
      obtain ⟨r, hr⟩ : ∃ r, r = sbF B (z - q) q := ⟨_, rfl⟩
      rw [← hr] at hs hN
      have hf1 := hX.nx hX1
      have ta : ∀ j, j < i → X1 20 j = a j := fun j hj => (hX1 20 j (by omega)).trans (ha j hj)
      show tkDn tm_143 (11, [some (.inr (.inr (6, 0, 0))), some (.inl (nI wn)), some (.inl (nI i))], [], (tk_so I 6 0 X1, J, R)) _
      refine dn_run 3 (show tkDn tm_143 (17, [some (.inr (.inr (6, 0, 0))), some (.inl (nI wn)), some (.inl (nI i))], [.inl (-3), .inl (X1 0 15)], (tk_so I 6 0 X1, J, R)) _ from ?_)
      refine dn_if rfl rfl rfl (fun (c1 : (X1 0 15) = (-3)) => ?_) (fun (c1 : ¬ (X1 0 15) = (-3)) => ?_)
      · show tkDn tm_143 (30, [some (.inr (.inr (6, 0, 0))), some (.inl (nI wn)), some (.inl (nI i))], [], (tk_so I 6 0 X1, J, R)) _
        obtain ⟨-, hrz, v, q2, hS, h17, h14b⟩ := hN.num.resolve_right (fun y => y.1 c1)
        have hq2 := tkN_lt (by omega) hS
        refine dn_run 8 (show (vp_in (nI i) 4) ∧ tkDn tm_143 (2, [some (.inr (.inr (6, 0, 0))), some (.inl (nI wn)), some (.inl ((nI i) + 1))], [], (tk_so (tk_so I 6 0 X1) 6 0 (tk_u2 X1 20 ((nI i).toNatClampNeg) (X1 0 17)), J, R)) _ from ⟨vp_in_nI (by omega) (by omega), ?_⟩)
        rw [tk_so_so]
        rw [nI_1, nI_clamp (show i < 2 ^ 31 by omega), h17]
        refine ih (i + 1) q2 (tk_u1 a i v) _ (by omega) hq2.2 (hf1.u (Or.inr rfl)) (by rw [tk_u2_ne (by decide)]; exact h14b) (fun j hj => ?_) ?_
        · rw [tk_u2_at]
          by_cases z : j = i
          · rw [z, tk_u1_same, tk_u1_same]
          · rw [tk_u1_ne z, tk_u1_ne z]; exact ta j (by omega)
        · rw [← h]; show nmF B z n (i + 1) q2 (tk_u1 a i v) = nmF B z (n + 1) i q a; conv => rhs; unfold nmF; rw [← hr, hS]
      · show tkDn tm_143 (20, [some (.inr (.inr (6, 0, 0))), some (.inl (nI wn)), some (.inl (nI i))], [], (tk_so I 6 0 X1, J, R)) _
        have hNo := (hN.num.resolve_left (fun y => c1 y.1)).2
        have e1 : (false, r, a) = nmF B z wn 0 p0 (fun _ => 0) := by rw [← h]; unfold nmF; rw [← hr, hNo]
        refine dn_run 5 (show tkDn tm_143 (29, [some (.inr (.inr (6, 0, 0))), some (.inl (nI wn)), some (.inl (nI i))], [.inl 0], (tk_so (tk_so I 6 0 X1) 6 0 (tk_u2 X1 0 18 (X1 0 16)), J, R)) _ from ?_)
        rw [tk_so_so]
        rw [hN.1]
        refine dn_retb rfl rfl rfl rfl (by decide) ?_
        exact hF _ (hf1.u (Or.inl (by omega))) (by rw [tk_u2_1, ← e1]) (by rw [← e1])
set_option maxRecDepth 8000 in
theorem sm_takes {I : tkI} {J : tkJ} {R : Nat → Nat} {Q : tkQ} {z : Nat} {B : Nat → Int32} (hz : z ≤ 1000) {wn p0 : Nat} (hw4 : wn ≤ 4) {X0 : Nat → Nat → Int32} (hB : TpM X0 z B) (hp : p0 ≤ z) (h14 : X0 0 14 = nI p0) (hF : ∀ X, fT X0 X → X 0 18 = nI (nmF B z wn 0 p0 (fun _ => 0)).2.1 → (nmF B z wn 0 p0 (fun _ => 0)).1 = false → Q (some (.inl 0)) (tk_so I 6 0 X, J, R)) (hK : ∀ X (x : Int32), fT X0 X → (nmF B z wn 0 p0 (fun _ => 0)).1 = true → X 0 18 = nI (sbF B (z - (nmF B z wn 0 p0 (fun _ => 0)).2.1) (nmF B z wn 0 p0 (fun _ => 0)).2.1) → (∀ j, j < wn → X 20 j = (nmF B z wn 0 p0 (fun _ => 0)).2.2 j) → ((x = 0 ∧ ¬ (sbF B (z - (nmF B z wn 0 p0 (fun _ => 0)).2.1) (nmF B z wn 0 p0 (fun _ => 0)).2.1 < z ∧ B (sbF B (z - (nmF B z wn 0 p0 (fun _ => 0)).2.1) (nmF B z wn 0 p0 (fun _ => 0)).2.1) = 59)) ∨ (x = 1 ∧ (sbF B (z - (nmF B z wn 0 p0 (fun _ => 0)).2.1) (nmF B z wn 0 p0 (fun _ => 0)).2.1 < z ∧ B (sbF B (z - (nmF B z wn 0 p0 (fun _ => 0)).2.1) (nmF B z wn 0 p0 (fun _ => 0)).2.1) = 59) ∧ X 0 14 = nI (sbF B (z - (nmF B z wn 0 p0 (fun _ => 0)).2.1) (nmF B z wn 0 p0 (fun _ => 0)).2.1 + 1))) → Q (some (.inl x)) (tk_so I 6 0 X, J, R)) : tkDn tm_143 (0, [some (.inr (.inr (6, 0, 0))), some (.inl (nI wn)), none], [], (tk_so I 6 0 X0, J, R)) Q := by
  refine dn_run 2 (show tkDn tm_143 (2, [some (.inr (.inr (6, 0, 0))), some (.inl (nI wn)), some (.inl 0)], [], (tk_so I 6 0 X0, J, R)) _ from ?_)
  refine sm_tk_loop hz hw4 hB (p0 := p0) hF (fun X hX h14 hle hXa hX1 => ?_) wn 0 p0 (fun _ => 0) X0 (Nat.zero_add _) hp (fun _ _ _ _ => rfl) h14 (fun j hj => absurd hj (Nat.not_lt_zero _)) rfl
  show tkDn tm_143 (46, [some (.inr (.inr (6, 0, 0))), some (.inl (nI wn)), some (.inl (nI wn))], [], (tk_so I 6 0 X, J, R)) _
  have hs := sbF_le (B := B) (z - (nmF B z wn 0 p0 (fun _ => 0)).2.1) (nmF B z wn 0 p0 (fun _ => 0)).2.1
  refine dn_run 1 (show tkDn tm_143 (47, [some (.inr (.inr (6, 0, 0))), some (.inl (nI wn)), some (.inl (nI wn))], [.inr (.inr (6, 0, 0))], (tk_so I 6 0 X, J, R)) _ from ?_)
  refine dn_call rfl rfl rfl rfl rfl (sm_next hz (B := B) (p := (nmF B z wn 0 p0 (fun _ => 0)).2.1) (by rw [tk_so_same]; exact hX.tp hB) hle (by rw [tk_so_same]; exact h14) (fun X1 hN hX1b => ?_))
  rw [tk_so_so]
  rw [tk_so_same] at hX1b
  have hf1 := hX.nx hX1b
  show tkDn tm_143 (50, [some (.inr (.inr (6, 0, 0))), some (.inl (nI wn)), some (.inl (nI wn))], [], (tk_so I 6 0 X1, J, R)) _
  refine dn_run 7 (show tkDn tm_143 (64, [some (.inr (.inr (6, 0, 0))), some (.inl (nI wn)), some (.inl (nI wn))], [.inl 59, .inl (X1 0 15)], (tk_so (tk_so I 6 0 X1) 6 0 (tk_u2 X1 0 18 (X1 0 16)), J, R)) _ from ?_)
  rw [tk_so_so]
  rw [hN.1]
  show tkDn tm_143 (64, [some (.inr (.inr (6, 0, 0))), some (.inl (nI wn)), some (.inl (nI wn))], [.inl 59, .inl (X1 0 15)], (tk_so I 6 0 (tk_u2 X1 0 18 (nI (sbF B (z - (nmF B z wn 0 p0 (fun _ => 0)).2.1) (nmF B z wn 0 p0 (fun _ => 0)).2.1))), J, R)) _
  refine dn_if rfl rfl rfl (fun (c1 : ¬ (X1 0 15) = 59) => ?_) (fun (c1 : (X1 0 15) = 59) => ?_)
  · show tkDn tm_143 (71, [some (.inr (.inr (6, 0, 0))), some (.inl (nI wn)), some (.inl (nI wn))], [], (tk_so I 6 0 (tk_u2 X1 0 18 (nI (sbF B (z - (nmF B z wn 0 p0 (fun _ => 0)).2.1) (nmF B z wn 0 p0 (fun _ => 0)).2.1))), J, R)) _
    refine dn_run 1 (show tkDn tm_143 (72, [some (.inr (.inr (6, 0, 0))), some (.inl (nI wn)), some (.inl (nI wn))], [.inl 0], (tk_so I 6 0 (tk_u2 X1 0 18 (nI (sbF B (z - (nmF B z wn 0 p0 (fun _ => 0)).2.1) (nmF B z wn 0 p0 (fun _ => 0)).2.1))), J, R)) _ from ?_)
    refine dn_retb rfl rfl rfl rfl (by decide) ?_
    exact hK _ 0 (hf1.u (Or.inl (by omega))) hX1 (by rw [tk_u2_1]) (fun j hj => by rw [tk_u2_ne (by decide), hX1b 20 j (by omega)]; exact hXa j hj) (Or.inl ⟨rfl, fun q => c1 (hN.tok (Or.inr (Or.inr (Or.inr rfl))) |>.mpr q)⟩)
  · show tkDn tm_143 (67, [some (.inr (.inr (6, 0, 0))), some (.inl (nI wn)), some (.inl (nI wn))], [], (tk_so I 6 0 (tk_u2 X1 0 18 (nI (sbF B (z - (nmF B z wn 0 p0 (fun _ => 0)).2.1) (nmF B z wn 0 p0 (fun _ => 0)).2.1))), J, R)) _
    refine dn_run 2 (show tkDn tm_143 (72, [some (.inr (.inr (6, 0, 0))), some (.inl (nI wn)), some (.inl (nI wn))], [.inl 1], (tk_so I 6 0 (tk_u2 X1 0 18 (nI (sbF B (z - (nmF B z wn 0 p0 (fun _ => 0)).2.1) (nmF B z wn 0 p0 (fun _ => 0)).2.1))), J, R)) _ from ?_)
    refine dn_retb rfl rfl rfl rfl (by decide) ?_
    exact hK _ 1 (hf1.u (Or.inl (by omega))) hX1 (by rw [tk_u2_1]) (fun j hj => by rw [tk_u2_ne (by decide), hX1b 20 j (by omega)]; exact hXa j hj) (Or.inr ⟨rfl, (hN.tok (Or.inr (Or.inr (Or.inr rfl)))).mp c1, by rw [tk_u2_0 (by decide)]; have q := (hN.tok (Or.inr (Or.inr (Or.inr rfl)))).mp c1; exact hN.at (by rw [q.2]; decide) q.1⟩)
/-- fields that an item leaves alone -/
def fI (X0 X : Nat → Nat → Int32) : Prop := (∀ j, 3 ≤ j → j ≠ 10 → j ≠ 11 → ¬ (14 ≤ j ∧ j ≤ 18) → X 0 j = X0 0 j) ∧ ∀ s, 10 ≤ s → s ≠ 20 → X s = X0 s
set_option maxRecDepth 8000 in
theorem fI.tp {X0 X : Nat → Nat → Int32} {z : Nat} {B : Nat → Int32} (h : fI X0 X) (hB : TpM X0 z B) : TpM X z B := hB.to (h.1 13 (by omega) (by omega) (by omega) (by omega)) (fun j => by rw [h.2 13 (by omega) (by omega)])
set_option maxRecDepth 8000 in
theorem fT.i {X0 X : Nat → Nat → Int32} (h : fT X0 X) : fI X0 X := ⟨fun j h1 h2 h3 h4 => h 0 j (by omega) (by decide), fun s h1 h2 => funext fun j => h s j (by omega) h2⟩
set_option maxRecDepth 8000 in
theorem fI.trans {X Y Z : Nat → Nat → Int32} (h : fI X Y) (h2 : fI Y Z) : fI X Z := ⟨fun j a b c d => (h2.1 j a b c d).trans (h.1 j a b c d), fun s a b => (h2.2 s a b).trans (h.2 s a b)⟩
set_option maxRecDepth 8000 in
theorem fT.net {X0 X : Nat → Nat → Int32} {S : tkS} (h : fT X0 X) (hP : NetP X0 S) : NetP X S := NetP_to hP (fun k hk => h 0 k (by omega) (by decide)) (fun s h4 h9 => funext fun k => h s k (by omega) (by omega))
set_option maxRecDepth 8000 in
theorem mOth.i {X Y : Nat → Nat → Int32} (h : mOth X Y) : fI X Y := ⟨fun j a b c _ => h.1 j a b c, fun s a _ => h.2 s a⟩
set_option maxRecDepth 8000 in
theorem wn_lt {c : Int32} (h : ¬ wnF c = 0) : ltP c := by
  unfold wnF at h
  by_cases h1 : c = 109
  · exact Or.inl h1
  · rw [if_neg h1] at h
    by_cases h2 : c = 119 ∨ c = 103
    · rcases h2 with q | q
      · exact Or.inr (Or.inl q)
      · exact Or.inr (Or.inr (Or.inl q))
    · rw [if_neg h2] at h; exact absurd rfl h
set_option maxRecDepth 8000 in
theorem sm_it2 {I : tkI} {J : tkJ} {R : Nat → Nat} {Q : tkQ} {z : Nat} {B : Nat → Int32} (hz : z ≤ 1000) {S : tkS} (w : WF S) {X0 : Nat → Nat → Int32} (hB : TpM X0 z B) (hP : NetP X0 S) {q : Nat} (hq : q < z) (hN : NxP B z q X0) {X : Nat → Nat → Int32} (hX : fT X0 X) (hw : ¬ wnF (B q) = 0) (hn1 : (nmF B z (wnF (B q)) 0 (q + 1) (fun _ => 0)).1 = true) (hsemi : sbF B (z - (nmF B z (wnF (B q)) 0 (q + 1) (fun _ => 0)).2.1) (nmF B z (wnF (B q)) 0 (q + 1) (fun _ => 0)).2.1 < z ∧ B (sbF B (z - (nmF B z (wnF (B q)) 0 (q + 1) (fun _ => 0)).2.1) (nmF B z (wnF (B q)) 0 (q + 1) (fun _ => 0)).2.1) = 59) (hXa : ∀ j, j < wnF (B q) → X 20 j = (nmF B z (wnF (B q)) 0 (q + 1) (fun _ => 0)).2.2 j) (h18 : X 0 18 = nI (sbF B (z - (nmF B z (wnF (B q)) 0 (q + 1) (fun _ => 0)).2.1) (nmF B z (wnF (B q)) 0 (q + 1) (fun _ => 0)).2.1)) (h14 : X 0 14 = nI (sbF B (z - (nmF B z (wnF (B q)) 0 (q + 1) (fun _ => 0)).2.1) (nmF B z (wnF (B q)) 0 (q + 1) (fun _ => 0)).2.1 + 1)) (hQ : ∀ X (x : Int32), fI X0 X → NetP X (itF B z S q).2.2 → ((x = 0 ∧ (itF B z S q).1 = false ∧ X 0 18 = nI (itF B z S q).2.1) ∨ (x = 1 ∧ (itF B z S q).1 = true ∧ X 0 14 = nI (itF B z S q).2.1)) → Q (some (.inl x)) (tk_so I 6 0 X, J, R)) : tkDn tm_144 (53, [some (.inr (.inr (6, 0, 0))), some (.inl (B q)), none], [], (tk_so I 6 0 X, J, R)) Q := by
  have e1 : itF B z S q = if (putF S (B q) (nmF B z (wnF (B q)) 0 (q + 1) (fun _ => 0)).2.2).1 < 0 then (false, sbF B (z - (nmF B z (wnF (B q)) 0 (q + 1) (fun _ => 0)).2.1) (nmF B z (wnF (B q)) 0 (q + 1) (fun _ => 0)).2.1, (putF S (B q) (nmF B z (wnF (B q)) 0 (q + 1) (fun _ => 0)).2.2).2) else (true, sbF B (z - (nmF B z (wnF (B q)) 0 (q + 1) (fun _ => 0)).2.1) (nmF B z (wnF (B q)) 0 (q + 1) (fun _ => 0)).2.1 + 1, (putF S (B q) (nmF B z (wnF (B q)) 0 (q + 1) (fun _ => 0)).2.2).2) := (if_neg hw).trans ((if_pos hn1).trans (if_pos hsemi))
  refine dn_run 2 (show tkDn tm_144 (56, [some (.inr (.inr (6, 0, 0))), some (.inl (B q)), none], [.inl 109, .inl (B q)], (tk_so I 6 0 X, J, R)) _ from ?_)
  refine dn_if rfl rfl rfl (fun (c1 : ¬ (B q) = 109) => ?_) (fun (c1 : (B q) = 109) => ?_)
  · show tkDn tm_144 (72, [some (.inr (.inr (6, 0, 0))), some (.inl (B q)), none], [], (tk_so I 6 0 X, J, R)) _
    refine dn_run 2 (show tkDn tm_144 (75, [some (.inr (.inr (6, 0, 0))), some (.inl (B q)), none], [.inl 119, .inl (B q)], (tk_so I 6 0 X, J, R)) _ from ?_)
    refine dn_if rfl rfl rfl (fun (c2 : ¬ (B q) = 119) => ?_) (fun (c2 : (B q) = 119) => ?_)
    · show tkDn tm_144 (109, [some (.inr (.inr (6, 0, 0))), some (.inl (B q)), none], [], (tk_so I 6 0 X, J, R)) _
      have hw4 : wnF (B q) = 4 := Classical.byContradiction fun u => hw (by unfold wnF at u ⊢; rw [if_neg c1] at u ⊢; by_cases z : B q = 119 ∨ B q = 103; exact absurd (if_pos z) u; exact if_neg z)
      have hp : putF S (B q) (nmF B z (wnF (B q)) 0 (q + 1) (fun _ => 0)).2.2 = opGift S ((nmF B z (wnF (B q)) 0 (q + 1) (fun _ => 0)).2.2 0) ((nmF B z (wnF (B q)) 0 (q + 1) (fun _ => 0)).2.2 1) ((nmF B z (wnF (B q)) 0 (q + 1) (fun _ => 0)).2.2 2) ((nmF B z (wnF (B q)) 0 (q + 1) (fun _ => 0)).2.2 3) := (if_neg c1).trans (if_neg c2)
      have a0 : X 20 (0 : Int32).toNatClampNeg = (nmF B z (wnF (B q)) 0 (q + 1) (fun _ => 0)).2.2 0 := hXa 0 (by rw [hw4]; omega)
      have a1 : X 20 (1 : Int32).toNatClampNeg = (nmF B z (wnF (B q)) 0 (q + 1) (fun _ => 0)).2.2 1 := hXa 1 (by rw [hw4]; omega)
      have a2 : X 20 (2 : Int32).toNatClampNeg = (nmF B z (wnF (B q)) 0 (q + 1) (fun _ => 0)).2.2 2 := hXa 2 (by rw [hw4]; omega)
      have a3 : X 20 (3 : Int32).toNatClampNeg = (nmF B z (wnF (B q)) 0 (q + 1) (fun _ => 0)).2.2 3 := hXa 3 (by rw [hw4]; omega)
      refine dn_run 17 (show (vp_in 0 4) ∧ (vp_in 1 4) ∧ (vp_in 2 4) ∧ (vp_in 3 4) ∧ tkDn tm_144 (134, [some (.inr (.inr (6, 0, 0))), some (.inl (B q)), none], [.inl (X 20 ((3 : Int32).toNatClampNeg)), .inl (X 20 ((2 : Int32).toNatClampNeg)), .inl (X 20 ((1 : Int32).toNatClampNeg)), .inl (X 20 ((0 : Int32).toNatClampNeg)), .inr (.inr (6, 0, 0))], (tk_so I 6 0 X, J, R)) _ from ⟨(show vp_in (nI 0) 4 from vp_in_nI (by decide) (by decide)), (show vp_in (nI 1) 4 from vp_in_nI (by decide) (by decide)), (show vp_in (nI 2) 4 from vp_in_nI (by decide) (by decide)), (show vp_in (nI 3) 4 from vp_in_nI (by decide) (by decide)), ?_⟩)
      rw [a0, a1, a2, a3]
      show tkDn tm_144 (134, [some (.inr (.inr (6, 0, 0))), some (.inl (B q)), none], [.inl ((nmF B z (wnF (B q)) 0 (q + 1) (fun _ => 0)).2.2 3), .inl ((nmF B z (wnF (B q)) 0 (q + 1) (fun _ => 0)).2.2 2), .inl ((nmF B z (wnF (B q)) 0 (q + 1) (fun _ => 0)).2.2 1), .inl ((nmF B z (wnF (B q)) 0 (q + 1) (fun _ => 0)).2.2 0), .inr (.inr (6, 0, 0))], (tk_so I 6 0 X, J, R)) _
      refine dn_call rfl rfl rfl rfl rfl (sm_gift (S := S) (by rw [tk_so_same]; exact hX.net hP) w (fun X5 hP5 hO5 _ => ?_))
      rw [tk_so_so]
      rw [tk_so_same] at hO5
      show tkDn tm_144 (137, [some (.inr (.inr (6, 0, 0))), some (.inl (B q)), none], [.inl ((opGift S ((nmF B z (wnF (B q)) 0 (q + 1) (fun _ => 0)).2.2 0) ((nmF B z (wnF (B q)) 0 (q + 1) (fun _ => 0)).2.2 1) ((nmF B z (wnF (B q)) 0 (q + 1) (fun _ => 0)).2.2 2) ((nmF B z (wnF (B q)) 0 (q + 1) (fun _ => 0)).2.2 3)).1)], (tk_so I 6 0 X5, J, R)) _
      refine dn_run 2 (show tkDn tm_144 (139, [some (.inr (.inr (6, 0, 0))), some (.inl (B q)), some (.inl ((opGift S ((nmF B z (wnF (B q)) 0 (q + 1) (fun _ => 0)).2.2 0) ((nmF B z (wnF (B q)) 0 (q + 1) (fun _ => 0)).2.2 1) ((nmF B z (wnF (B q)) 0 (q + 1) (fun _ => 0)).2.2 2) ((nmF B z (wnF (B q)) 0 (q + 1) (fun _ => 0)).2.2 3)).1))], [.inl ((opGift S ((nmF B z (wnF (B q)) 0 (q + 1) (fun _ => 0)).2.2 0) ((nmF B z (wnF (B q)) 0 (q + 1) (fun _ => 0)).2.2 1) ((nmF B z (wnF (B q)) 0 (q + 1) (fun _ => 0)).2.2 2) ((nmF B z (wnF (B q)) 0 (q + 1) (fun _ => 0)).2.2 3)).1)], (tk_so I 6 0 X5, J, R)) _ from ?_)
      refine dn_if rfl rfl rfl (fun (c3 : ((opGift S ((nmF B z (wnF (B q)) 0 (q + 1) (fun _ => 0)).2.2 0) ((nmF B z (wnF (B q)) 0 (q + 1) (fun _ => 0)).2.2 1) ((nmF B z (wnF (B q)) 0 (q + 1) (fun _ => 0)).2.2 2) ((nmF B z (wnF (B q)) 0 (q + 1) (fun _ => 0)).2.2 3)).1) < 0) => ?_) (fun (c3 : ¬ ((opGift S ((nmF B z (wnF (B q)) 0 (q + 1) (fun _ => 0)).2.2 0) ((nmF B z (wnF (B q)) 0 (q + 1) (fun _ => 0)).2.2 1) ((nmF B z (wnF (B q)) 0 (q + 1) (fun _ => 0)).2.2 2) ((nmF B z (wnF (B q)) 0 (q + 1) (fun _ => 0)).2.2 3)).1) < 0) => ?_)
      · show tkDn tm_144 (146, [some (.inr (.inr (6, 0, 0))), some (.inl (B q)), some (.inl ((opGift S ((nmF B z (wnF (B q)) 0 (q + 1) (fun _ => 0)).2.2 0) ((nmF B z (wnF (B q)) 0 (q + 1) (fun _ => 0)).2.2 1) ((nmF B z (wnF (B q)) 0 (q + 1) (fun _ => 0)).2.2 2) ((nmF B z (wnF (B q)) 0 (q + 1) (fun _ => 0)).2.2 3)).1))], [], (tk_so I 6 0 X5, J, R)) _
        refine dn_run 1 (show tkDn tm_144 (147, [some (.inr (.inr (6, 0, 0))), some (.inl (B q)), some (.inl ((opGift S ((nmF B z (wnF (B q)) 0 (q + 1) (fun _ => 0)).2.2 0) ((nmF B z (wnF (B q)) 0 (q + 1) (fun _ => 0)).2.2 1) ((nmF B z (wnF (B q)) 0 (q + 1) (fun _ => 0)).2.2 2) ((nmF B z (wnF (B q)) 0 (q + 1) (fun _ => 0)).2.2 3)).1))], [.inl 0], (tk_so I 6 0 X5, J, R)) _ from ?_)
        refine dn_retb rfl rfl rfl rfl (by decide) ?_
        rw [if_pos (by rw [hp]; exact c3)] at e1
        exact hQ X5 0 (hX.i.trans hO5.i) (by rw [e1, hp]; exact hP5) (Or.inl ⟨rfl, by rw [e1], by rw [e1, hO5.1 18 (by decide) (by decide) (by decide)]; exact h18⟩)
      · show tkDn tm_144 (142, [some (.inr (.inr (6, 0, 0))), some (.inl (B q)), some (.inl ((opGift S ((nmF B z (wnF (B q)) 0 (q + 1) (fun _ => 0)).2.2 0) ((nmF B z (wnF (B q)) 0 (q + 1) (fun _ => 0)).2.2 1) ((nmF B z (wnF (B q)) 0 (q + 1) (fun _ => 0)).2.2 2) ((nmF B z (wnF (B q)) 0 (q + 1) (fun _ => 0)).2.2 3)).1))], [], (tk_so I 6 0 X5, J, R)) _
        refine dn_run 2 (show tkDn tm_144 (147, [some (.inr (.inr (6, 0, 0))), some (.inl (B q)), some (.inl ((opGift S ((nmF B z (wnF (B q)) 0 (q + 1) (fun _ => 0)).2.2 0) ((nmF B z (wnF (B q)) 0 (q + 1) (fun _ => 0)).2.2 1) ((nmF B z (wnF (B q)) 0 (q + 1) (fun _ => 0)).2.2 2) ((nmF B z (wnF (B q)) 0 (q + 1) (fun _ => 0)).2.2 3)).1))], [.inl 1], (tk_so I 6 0 X5, J, R)) _ from ?_)
        refine dn_retb rfl rfl rfl rfl (by decide) ?_
        rw [if_neg (by rw [hp]; exact c3)] at e1
        exact hQ X5 1 (hX.i.trans hO5.i) (by rw [e1, hp]; exact hP5) (Or.inr ⟨rfl, by rw [e1], by rw [e1, hO5.1 14 (by decide) (by decide) (by decide)]; exact h14⟩)
    · show tkDn tm_144 (78, [some (.inr (.inr (6, 0, 0))), some (.inl (B q)), none], [], (tk_so I 6 0 X, J, R)) _
      have hw4 : wnF (B q) = 4 := (if_neg c1).trans (if_pos (Or.inl c2))
      have hp : putF S (B q) (nmF B z (wnF (B q)) 0 (q + 1) (fun _ => 0)).2.2 = opWish S ((nmF B z (wnF (B q)) 0 (q + 1) (fun _ => 0)).2.2 0) ((nmF B z (wnF (B q)) 0 (q + 1) (fun _ => 0)).2.2 1) ((nmF B z (wnF (B q)) 0 (q + 1) (fun _ => 0)).2.2 2) ((nmF B z (wnF (B q)) 0 (q + 1) (fun _ => 0)).2.2 3) := (if_neg c1).trans (if_pos c2)
      have a0 : X 20 (0 : Int32).toNatClampNeg = (nmF B z (wnF (B q)) 0 (q + 1) (fun _ => 0)).2.2 0 := hXa 0 (by rw [hw4]; omega)
      have a1 : X 20 (1 : Int32).toNatClampNeg = (nmF B z (wnF (B q)) 0 (q + 1) (fun _ => 0)).2.2 1 := hXa 1 (by rw [hw4]; omega)
      have a2 : X 20 (2 : Int32).toNatClampNeg = (nmF B z (wnF (B q)) 0 (q + 1) (fun _ => 0)).2.2 2 := hXa 2 (by rw [hw4]; omega)
      have a3 : X 20 (3 : Int32).toNatClampNeg = (nmF B z (wnF (B q)) 0 (q + 1) (fun _ => 0)).2.2 3 := hXa 3 (by rw [hw4]; omega)
      refine dn_run 17 (show (vp_in 0 4) ∧ (vp_in 1 4) ∧ (vp_in 2 4) ∧ (vp_in 3 4) ∧ tkDn tm_144 (103, [some (.inr (.inr (6, 0, 0))), some (.inl (B q)), none], [.inl (X 20 ((3 : Int32).toNatClampNeg)), .inl (X 20 ((2 : Int32).toNatClampNeg)), .inl (X 20 ((1 : Int32).toNatClampNeg)), .inl (X 20 ((0 : Int32).toNatClampNeg)), .inr (.inr (6, 0, 0))], (tk_so I 6 0 X, J, R)) _ from ⟨(show vp_in (nI 0) 4 from vp_in_nI (by decide) (by decide)), (show vp_in (nI 1) 4 from vp_in_nI (by decide) (by decide)), (show vp_in (nI 2) 4 from vp_in_nI (by decide) (by decide)), (show vp_in (nI 3) 4 from vp_in_nI (by decide) (by decide)), ?_⟩)
      rw [a0, a1, a2, a3]
      show tkDn tm_144 (103, [some (.inr (.inr (6, 0, 0))), some (.inl (B q)), none], [.inl ((nmF B z (wnF (B q)) 0 (q + 1) (fun _ => 0)).2.2 3), .inl ((nmF B z (wnF (B q)) 0 (q + 1) (fun _ => 0)).2.2 2), .inl ((nmF B z (wnF (B q)) 0 (q + 1) (fun _ => 0)).2.2 1), .inl ((nmF B z (wnF (B q)) 0 (q + 1) (fun _ => 0)).2.2 0), .inr (.inr (6, 0, 0))], (tk_so I 6 0 X, J, R)) _
      refine dn_call rfl rfl rfl rfl rfl (sm_wish (S := S) (by rw [tk_so_same]; exact hX.net hP) w (fun X5 hP5 hO5 _ => ?_))
      rw [tk_so_so]
      rw [tk_so_same] at hO5
      show tkDn tm_144 (106, [some (.inr (.inr (6, 0, 0))), some (.inl (B q)), none], [.inl ((opWish S ((nmF B z (wnF (B q)) 0 (q + 1) (fun _ => 0)).2.2 0) ((nmF B z (wnF (B q)) 0 (q + 1) (fun _ => 0)).2.2 1) ((nmF B z (wnF (B q)) 0 (q + 1) (fun _ => 0)).2.2 2) ((nmF B z (wnF (B q)) 0 (q + 1) (fun _ => 0)).2.2 3)).1)], (tk_so I 6 0 X5, J, R)) _
      refine dn_run 3 (show tkDn tm_144 (139, [some (.inr (.inr (6, 0, 0))), some (.inl (B q)), some (.inl ((opWish S ((nmF B z (wnF (B q)) 0 (q + 1) (fun _ => 0)).2.2 0) ((nmF B z (wnF (B q)) 0 (q + 1) (fun _ => 0)).2.2 1) ((nmF B z (wnF (B q)) 0 (q + 1) (fun _ => 0)).2.2 2) ((nmF B z (wnF (B q)) 0 (q + 1) (fun _ => 0)).2.2 3)).1))], [.inl ((opWish S ((nmF B z (wnF (B q)) 0 (q + 1) (fun _ => 0)).2.2 0) ((nmF B z (wnF (B q)) 0 (q + 1) (fun _ => 0)).2.2 1) ((nmF B z (wnF (B q)) 0 (q + 1) (fun _ => 0)).2.2 2) ((nmF B z (wnF (B q)) 0 (q + 1) (fun _ => 0)).2.2 3)).1)], (tk_so I 6 0 X5, J, R)) _ from ?_)
      refine dn_if rfl rfl rfl (fun (c3 : ((opWish S ((nmF B z (wnF (B q)) 0 (q + 1) (fun _ => 0)).2.2 0) ((nmF B z (wnF (B q)) 0 (q + 1) (fun _ => 0)).2.2 1) ((nmF B z (wnF (B q)) 0 (q + 1) (fun _ => 0)).2.2 2) ((nmF B z (wnF (B q)) 0 (q + 1) (fun _ => 0)).2.2 3)).1) < 0) => ?_) (fun (c3 : ¬ ((opWish S ((nmF B z (wnF (B q)) 0 (q + 1) (fun _ => 0)).2.2 0) ((nmF B z (wnF (B q)) 0 (q + 1) (fun _ => 0)).2.2 1) ((nmF B z (wnF (B q)) 0 (q + 1) (fun _ => 0)).2.2 2) ((nmF B z (wnF (B q)) 0 (q + 1) (fun _ => 0)).2.2 3)).1) < 0) => ?_)
      · show tkDn tm_144 (146, [some (.inr (.inr (6, 0, 0))), some (.inl (B q)), some (.inl ((opWish S ((nmF B z (wnF (B q)) 0 (q + 1) (fun _ => 0)).2.2 0) ((nmF B z (wnF (B q)) 0 (q + 1) (fun _ => 0)).2.2 1) ((nmF B z (wnF (B q)) 0 (q + 1) (fun _ => 0)).2.2 2) ((nmF B z (wnF (B q)) 0 (q + 1) (fun _ => 0)).2.2 3)).1))], [], (tk_so I 6 0 X5, J, R)) _
        refine dn_run 1 (show tkDn tm_144 (147, [some (.inr (.inr (6, 0, 0))), some (.inl (B q)), some (.inl ((opWish S ((nmF B z (wnF (B q)) 0 (q + 1) (fun _ => 0)).2.2 0) ((nmF B z (wnF (B q)) 0 (q + 1) (fun _ => 0)).2.2 1) ((nmF B z (wnF (B q)) 0 (q + 1) (fun _ => 0)).2.2 2) ((nmF B z (wnF (B q)) 0 (q + 1) (fun _ => 0)).2.2 3)).1))], [.inl 0], (tk_so I 6 0 X5, J, R)) _ from ?_)
        refine dn_retb rfl rfl rfl rfl (by decide) ?_
        rw [if_pos (by rw [hp]; exact c3)] at e1
        exact hQ X5 0 (hX.i.trans hO5.i) (by rw [e1, hp]; exact hP5) (Or.inl ⟨rfl, by rw [e1], by rw [e1, hO5.1 18 (by decide) (by decide) (by decide)]; exact h18⟩)
      · show tkDn tm_144 (142, [some (.inr (.inr (6, 0, 0))), some (.inl (B q)), some (.inl ((opWish S ((nmF B z (wnF (B q)) 0 (q + 1) (fun _ => 0)).2.2 0) ((nmF B z (wnF (B q)) 0 (q + 1) (fun _ => 0)).2.2 1) ((nmF B z (wnF (B q)) 0 (q + 1) (fun _ => 0)).2.2 2) ((nmF B z (wnF (B q)) 0 (q + 1) (fun _ => 0)).2.2 3)).1))], [], (tk_so I 6 0 X5, J, R)) _
        refine dn_run 2 (show tkDn tm_144 (147, [some (.inr (.inr (6, 0, 0))), some (.inl (B q)), some (.inl ((opWish S ((nmF B z (wnF (B q)) 0 (q + 1) (fun _ => 0)).2.2 0) ((nmF B z (wnF (B q)) 0 (q + 1) (fun _ => 0)).2.2 1) ((nmF B z (wnF (B q)) 0 (q + 1) (fun _ => 0)).2.2 2) ((nmF B z (wnF (B q)) 0 (q + 1) (fun _ => 0)).2.2 3)).1))], [.inl 1], (tk_so I 6 0 X5, J, R)) _ from ?_)
        refine dn_retb rfl rfl rfl rfl (by decide) ?_
        rw [if_neg (by rw [hp]; exact c3)] at e1
        exact hQ X5 1 (hX.i.trans hO5.i) (by rw [e1, hp]; exact hP5) (Or.inr ⟨rfl, by rw [e1], by rw [e1, hO5.1 14 (by decide) (by decide) (by decide)]; exact h14⟩)
  · show tkDn tm_144 (59, [some (.inr (.inr (6, 0, 0))), some (.inl (B q)), none], [], (tk_so I 6 0 X, J, R)) _
    have hw1 : wnF (B q) = 1 := if_pos c1
    have a0 : X 20 (0 : Int32).toNatClampNeg = (nmF B z (wnF (B q)) 0 (q + 1) (fun _ => 0)).2.2 0 := hXa 0 (by rw [hw1]; omega)
    have hp : putF S (B q) (nmF B z (wnF (B q)) 0 (q + 1) (fun _ => 0)).2.2 = opMom S ((nmF B z (wnF (B q)) 0 (q + 1) (fun _ => 0)).2.2 0) := if_pos c1
    refine dn_run 5 (show (vp_in 0 4) ∧ tkDn tm_144 (66, [some (.inr (.inr (6, 0, 0))), some (.inl (B q)), none], [.inl (X 20 ((0 : Int32).toNatClampNeg)), .inr (.inr (6, 0, 0))], (tk_so I 6 0 X, J, R)) _ from ⟨(show vp_in (nI 0) 4 from vp_in_nI (by decide) (by decide)), ?_⟩)
    rw [a0]
    show tkDn tm_144 (66, [some (.inr (.inr (6, 0, 0))), some (.inl (B q)), none], [.inl ((nmF B z (wnF (B q)) 0 (q + 1) (fun _ => 0)).2.2 0), .inr (.inr (6, 0, 0))], (tk_so I 6 0 X, J, R)) _
    refine dn_call rfl rfl rfl rfl rfl (sm_moments (S := S) (by rw [tk_so_same]; exact hX.net hP) w (fun X5 hP5 hO5 _ => ?_))
    rw [tk_so_so]
    rw [tk_so_same] at hO5
    show tkDn tm_144 (69, [some (.inr (.inr (6, 0, 0))), some (.inl (B q)), none], [.inl ((opMom S ((nmF B z (wnF (B q)) 0 (q + 1) (fun _ => 0)).2.2 0)).1)], (tk_so I 6 0 X5, J, R)) _
    refine dn_run 3 (show tkDn tm_144 (139, [some (.inr (.inr (6, 0, 0))), some (.inl (B q)), some (.inl ((opMom S ((nmF B z (wnF (B q)) 0 (q + 1) (fun _ => 0)).2.2 0)).1))], [.inl ((opMom S ((nmF B z (wnF (B q)) 0 (q + 1) (fun _ => 0)).2.2 0)).1)], (tk_so I 6 0 X5, J, R)) _ from ?_)
    refine dn_if rfl rfl rfl (fun (c3 : ((opMom S ((nmF B z (wnF (B q)) 0 (q + 1) (fun _ => 0)).2.2 0)).1) < 0) => ?_) (fun (c3 : ¬ ((opMom S ((nmF B z (wnF (B q)) 0 (q + 1) (fun _ => 0)).2.2 0)).1) < 0) => ?_)
    · show tkDn tm_144 (146, [some (.inr (.inr (6, 0, 0))), some (.inl (B q)), some (.inl ((opMom S ((nmF B z (wnF (B q)) 0 (q + 1) (fun _ => 0)).2.2 0)).1))], [], (tk_so I 6 0 X5, J, R)) _
      refine dn_run 1 (show tkDn tm_144 (147, [some (.inr (.inr (6, 0, 0))), some (.inl (B q)), some (.inl ((opMom S ((nmF B z (wnF (B q)) 0 (q + 1) (fun _ => 0)).2.2 0)).1))], [.inl 0], (tk_so I 6 0 X5, J, R)) _ from ?_)
      refine dn_retb rfl rfl rfl rfl (by decide) ?_
      rw [if_pos (by rw [hp]; exact c3)] at e1
      exact hQ X5 0 (hX.i.trans hO5.i) (by rw [e1, hp]; exact hP5) (Or.inl ⟨rfl, by rw [e1], by rw [e1, hO5.1 18 (by decide) (by decide) (by decide)]; exact h18⟩)
    · show tkDn tm_144 (142, [some (.inr (.inr (6, 0, 0))), some (.inl (B q)), some (.inl ((opMom S ((nmF B z (wnF (B q)) 0 (q + 1) (fun _ => 0)).2.2 0)).1))], [], (tk_so I 6 0 X5, J, R)) _
      refine dn_run 2 (show tkDn tm_144 (147, [some (.inr (.inr (6, 0, 0))), some (.inl (B q)), some (.inl ((opMom S ((nmF B z (wnF (B q)) 0 (q + 1) (fun _ => 0)).2.2 0)).1))], [.inl 1], (tk_so I 6 0 X5, J, R)) _ from ?_)
      refine dn_retb rfl rfl rfl rfl (by decide) ?_
      rw [if_neg (by rw [hp]; exact c3)] at e1
      exact hQ X5 1 (hX.i.trans hO5.i) (by rw [e1, hp]; exact hP5) (Or.inr ⟨rfl, by rw [e1], by rw [e1, hO5.1 14 (by decide) (by decide) (by decide)]; exact h14⟩)
set_option maxRecDepth 8000 in
theorem sm_item {I : tkI} {J : tkJ} {R : Nat → Nat} {Q : tkQ} {z : Nat} {B : Nat → Int32} (hz : z ≤ 1000) {S : tkS} (w : WF S) {X0 : Nat → Nat → Int32} (hB : TpM X0 z B) (hP : NetP X0 S) {q : Nat} (hq : q < z) (hN : NxP B z q X0) (hQ : ∀ X (x : Int32), fI X0 X → NetP X (itF B z S q).2.2 → ((x = 0 ∧ (itF B z S q).1 = false ∧ X 0 18 = nI (itF B z S q).2.1) ∨ (x = 1 ∧ (itF B z S q).1 = true ∧ X 0 14 = nI (itF B z S q).2.1)) → Q (some (.inl x)) (tk_so I 6 0 X, J, R)) : tkDn tm_144 (0, [some (.inr (.inr (6, 0, 0))), none, none], [], (tk_so I 6 0 X0, J, R)) Q := by
  have hw4 := wnF_le (B q)
  have h15 : ∀ c, ltP c → (X0 0 15 = c ↔ B q = c) := fun c hc => (hN.tok hc).trans ⟨fun y => y.2, fun y => ⟨hq, y⟩⟩
  refine dn_run 5 (show tkDn tm_144 (8, [some (.inr (.inr (6, 0, 0))), some (.inl (X0 0 15)), none], [.inl 109, .inl (X0 0 15)], (tk_so I 6 0 X0, J, R)) _ from ?_)
  refine dn_if rfl rfl rfl (fun (c1 : (X0 0 15) = 109) => ?_) (fun (c1 : ¬ (X0 0 15) = 109) => ?_)
  · show tkDn tm_144 (33, [some (.inr (.inr (6, 0, 0))), some (.inl (X0 0 15)), none], [], (tk_so I 6 0 X0, J, R)) _
    have hc : B q = 109 := (h15 _ (by decide)).mp c1
    have hw : ¬ wnF (B q) = 0 := by rw [hc]; decide
    have h14 := hN.at (wn_lt hw) hq
    have ht : X0 0 15 = B q := by rw [hc]; exact c1
    rw [ht]
    show tkDn tm_144 (33, [some (.inr (.inr (6, 0, 0))), some (.inl (B q)), none], [], (tk_so I 6 0 X0, J, R)) _
    refine dn_run 3 (show tkDn tm_144 (37, [some (.inr (.inr (6, 0, 0))), some (.inl (B q)), none], [.inl 109, .inl (B q), .inr (.inr (6, 0, 0))], (tk_so I 6 0 X0, J, R)) _ from ?_)
    refine dn_if rfl rfl rfl (fun (e1 : ¬ (B q) = 109) => ?_) (fun (e1 : (B q) = 109) => ?_)
    · exact absurd hc e1
    · show tkDn tm_144 (40, [some (.inr (.inr (6, 0, 0))), some (.inl (B q)), none], [.inr (.inr (6, 0, 0))], (tk_so I 6 0 X0, J, R)) _
      refine dn_run 2 (show tkDn tm_144 (45, [some (.inr (.inr (6, 0, 0))), some (.inl (B q)), none], [.inl 1, .inr (.inr (6, 0, 0))], (tk_so I 6 0 X0, J, R)) _ from ?_)
      rw [show (1 : Int32) = nI (wnF (B q)) by rw [hc]; rfl]
      show tkDn tm_144 (45, [some (.inr (.inr (6, 0, 0))), some (.inl (B q)), none], [.inl (nI (wnF (B q))), .inr (.inr (6, 0, 0))], (tk_so I 6 0 X0, J, R)) _
      refine dn_call rfl rfl rfl rfl rfl (sm_takes hz hw4 hB (p0 := q + 1) (by omega) h14 (fun X hX h18 hn1 => ?_) (fun X x hX hn1 h18 hXa hx => ?_))
      · show tkDn tm_144 (48, [some (.inr (.inr (6, 0, 0))), some (.inl (B q)), none], [.inl 0], (tk_so I 6 0 X, J, R)) _
        refine dn_if rfl rfl rfl (fun (d1 : (¬ (0 : Int32) = 0 : Prop)) => ?_) (fun (d1 : ((0 : Int32) = 0 : Prop)) => ?_)
        · exact absurd rfl d1
        · show tkDn tm_144 (51, [some (.inr (.inr (6, 0, 0))), some (.inl (B q)), none], [], (tk_so I 6 0 X, J, R)) _
          have e1 : itF B z S q = (false, (nmF B z (wnF (B q)) 0 (q + 1) (fun _ => 0)).2.1, S) := (if_neg hw).trans (if_neg (by rw [hn1]; decide))
          refine dn_run 1 (show tkDn tm_144 (52, [some (.inr (.inr (6, 0, 0))), some (.inl (B q)), none], [.inl 0], (tk_so I 6 0 X, J, R)) _ from ?_)
          refine dn_retb rfl rfl rfl rfl (by decide) ?_
          exact hQ X 0 hX.i (by rw [e1]; exact hX.net hP) (Or.inl ⟨rfl, by rw [e1], by rw [e1]; exact h18⟩)
      · show tkDn tm_144 (48, [some (.inr (.inr (6, 0, 0))), some (.inl (B q)), none], [.inl x], (tk_so I 6 0 X, J, R)) _
        refine dn_if rfl rfl rfl (fun (d1 : ¬ x = 0) => ?_) (fun (d1 : x = 0) => ?_)
        · show tkDn tm_144 (53, [some (.inr (.inr (6, 0, 0))), some (.inl (B q)), none], [], (tk_so I 6 0 X, J, R)) _
          obtain ⟨-, hsemi, h14b⟩ := hx.resolve_left (fun y => d1 y.1)
          exact sm_it2 hz w hB hP hq hN hX hw hn1 hsemi hXa h18 h14b hQ
        · show tkDn tm_144 (51, [some (.inr (.inr (6, 0, 0))), some (.inl (B q)), none], [], (tk_so I 6 0 X, J, R)) _
          have hns := (hx.resolve_right (fun y => absurd (d1.symm.trans y.1) (by decide))).2
          have e1 : itF B z S q = (false, sbF B (z - (nmF B z (wnF (B q)) 0 (q + 1) (fun _ => 0)).2.1) (nmF B z (wnF (B q)) 0 (q + 1) (fun _ => 0)).2.1, S) := (if_neg hw).trans ((if_pos hn1).trans (if_neg hns))
          refine dn_run 1 (show tkDn tm_144 (52, [some (.inr (.inr (6, 0, 0))), some (.inl (B q)), none], [.inl 0], (tk_so I 6 0 X, J, R)) _ from ?_)
          refine dn_retb rfl rfl rfl rfl (by decide) ?_
          exact hQ X 0 hX.i (by rw [e1]; exact hX.net hP) (Or.inl ⟨rfl, by rw [e1], by rw [e1]; exact h18⟩)
  · show tkDn tm_144 (11, [some (.inr (.inr (6, 0, 0))), some (.inl (X0 0 15)), none], [], (tk_so I 6 0 X0, J, R)) _
    refine dn_run 2 (show tkDn tm_144 (14, [some (.inr (.inr (6, 0, 0))), some (.inl (X0 0 15)), none], [.inl 119, .inl (X0 0 15)], (tk_so I 6 0 X0, J, R)) _ from ?_)
    refine dn_if rfl rfl rfl (fun (c2 : (X0 0 15) = 119) => ?_) (fun (c2 : ¬ (X0 0 15) = 119) => ?_)
    · show tkDn tm_144 (33, [some (.inr (.inr (6, 0, 0))), some (.inl (X0 0 15)), none], [], (tk_so I 6 0 X0, J, R)) _
      have hc : B q = 119 := (h15 _ (by decide)).mp c2
      have hw : ¬ wnF (B q) = 0 := by rw [hc]; decide
      have h14 := hN.at (wn_lt hw) hq
      have ht : X0 0 15 = B q := by rw [hc]; exact c2
      rw [ht]
      show tkDn tm_144 (33, [some (.inr (.inr (6, 0, 0))), some (.inl (B q)), none], [], (tk_so I 6 0 X0, J, R)) _
      refine dn_run 3 (show tkDn tm_144 (37, [some (.inr (.inr (6, 0, 0))), some (.inl (B q)), none], [.inl 109, .inl (B q), .inr (.inr (6, 0, 0))], (tk_so I 6 0 X0, J, R)) _ from ?_)
      refine dn_if rfl rfl rfl (fun (e1 : ¬ (B q) = 109) => ?_) (fun (e1 : (B q) = 109) => ?_)
      · show tkDn tm_144 (44, [some (.inr (.inr (6, 0, 0))), some (.inl (B q)), none], [.inr (.inr (6, 0, 0))], (tk_so I 6 0 X0, J, R)) _
        refine dn_run 1 (show tkDn tm_144 (45, [some (.inr (.inr (6, 0, 0))), some (.inl (B q)), none], [.inl 4, .inr (.inr (6, 0, 0))], (tk_so I 6 0 X0, J, R)) _ from ?_)
        rw [show (4 : Int32) = nI (wnF (B q)) by rw [hc]; rfl]
        show tkDn tm_144 (45, [some (.inr (.inr (6, 0, 0))), some (.inl (B q)), none], [.inl (nI (wnF (B q))), .inr (.inr (6, 0, 0))], (tk_so I 6 0 X0, J, R)) _
        refine dn_call rfl rfl rfl rfl rfl (sm_takes hz hw4 hB (p0 := q + 1) (by omega) h14 (fun X hX h18 hn1 => ?_) (fun X x hX hn1 h18 hXa hx => ?_))
        · show tkDn tm_144 (48, [some (.inr (.inr (6, 0, 0))), some (.inl (B q)), none], [.inl 0], (tk_so I 6 0 X, J, R)) _
          refine dn_if rfl rfl rfl (fun (d1 : (¬ (0 : Int32) = 0 : Prop)) => ?_) (fun (d1 : ((0 : Int32) = 0 : Prop)) => ?_)
          · exact absurd rfl d1
          · show tkDn tm_144 (51, [some (.inr (.inr (6, 0, 0))), some (.inl (B q)), none], [], (tk_so I 6 0 X, J, R)) _
            have e1 : itF B z S q = (false, (nmF B z (wnF (B q)) 0 (q + 1) (fun _ => 0)).2.1, S) := (if_neg hw).trans (if_neg (by rw [hn1]; decide))
            refine dn_run 1 (show tkDn tm_144 (52, [some (.inr (.inr (6, 0, 0))), some (.inl (B q)), none], [.inl 0], (tk_so I 6 0 X, J, R)) _ from ?_)
            refine dn_retb rfl rfl rfl rfl (by decide) ?_
            exact hQ X 0 hX.i (by rw [e1]; exact hX.net hP) (Or.inl ⟨rfl, by rw [e1], by rw [e1]; exact h18⟩)
        · show tkDn tm_144 (48, [some (.inr (.inr (6, 0, 0))), some (.inl (B q)), none], [.inl x], (tk_so I 6 0 X, J, R)) _
          refine dn_if rfl rfl rfl (fun (d1 : ¬ x = 0) => ?_) (fun (d1 : x = 0) => ?_)
          · show tkDn tm_144 (53, [some (.inr (.inr (6, 0, 0))), some (.inl (B q)), none], [], (tk_so I 6 0 X, J, R)) _
            obtain ⟨-, hsemi, h14b⟩ := hx.resolve_left (fun y => d1 y.1)
            exact sm_it2 hz w hB hP hq hN hX hw hn1 hsemi hXa h18 h14b hQ
          · show tkDn tm_144 (51, [some (.inr (.inr (6, 0, 0))), some (.inl (B q)), none], [], (tk_so I 6 0 X, J, R)) _
            have hns := (hx.resolve_right (fun y => absurd (d1.symm.trans y.1) (by decide))).2
            have e1 : itF B z S q = (false, sbF B (z - (nmF B z (wnF (B q)) 0 (q + 1) (fun _ => 0)).2.1) (nmF B z (wnF (B q)) 0 (q + 1) (fun _ => 0)).2.1, S) := (if_neg hw).trans ((if_pos hn1).trans (if_neg hns))
            refine dn_run 1 (show tkDn tm_144 (52, [some (.inr (.inr (6, 0, 0))), some (.inl (B q)), none], [.inl 0], (tk_so I 6 0 X, J, R)) _ from ?_)
            refine dn_retb rfl rfl rfl rfl (by decide) ?_
            exact hQ X 0 hX.i (by rw [e1]; exact hX.net hP) (Or.inl ⟨rfl, by rw [e1], by rw [e1]; exact h18⟩)
      · exact absurd (hc.symm.trans e1) (by decide)
    · show tkDn tm_144 (17, [some (.inr (.inr (6, 0, 0))), some (.inl (X0 0 15)), none], [], (tk_so I 6 0 X0, J, R)) _
      refine dn_run 2 (show tkDn tm_144 (20, [some (.inr (.inr (6, 0, 0))), some (.inl (X0 0 15)), none], [.inl 103, .inl (X0 0 15)], (tk_so I 6 0 X0, J, R)) _ from ?_)
      refine dn_if rfl rfl rfl (fun (c3 : (X0 0 15) = 103) => ?_) (fun (c3 : ¬ (X0 0 15) = 103) => ?_)
      · show tkDn tm_144 (33, [some (.inr (.inr (6, 0, 0))), some (.inl (X0 0 15)), none], [], (tk_so I 6 0 X0, J, R)) _
        have hc : B q = 103 := (h15 _ (by decide)).mp c3
        have hw : ¬ wnF (B q) = 0 := by rw [hc]; decide
        have h14 := hN.at (wn_lt hw) hq
        have ht : X0 0 15 = B q := by rw [hc]; exact c3
        rw [ht]
        show tkDn tm_144 (33, [some (.inr (.inr (6, 0, 0))), some (.inl (B q)), none], [], (tk_so I 6 0 X0, J, R)) _
        refine dn_run 3 (show tkDn tm_144 (37, [some (.inr (.inr (6, 0, 0))), some (.inl (B q)), none], [.inl 109, .inl (B q), .inr (.inr (6, 0, 0))], (tk_so I 6 0 X0, J, R)) _ from ?_)
        refine dn_if rfl rfl rfl (fun (e1 : ¬ (B q) = 109) => ?_) (fun (e1 : (B q) = 109) => ?_)
        · show tkDn tm_144 (44, [some (.inr (.inr (6, 0, 0))), some (.inl (B q)), none], [.inr (.inr (6, 0, 0))], (tk_so I 6 0 X0, J, R)) _
          refine dn_run 1 (show tkDn tm_144 (45, [some (.inr (.inr (6, 0, 0))), some (.inl (B q)), none], [.inl 4, .inr (.inr (6, 0, 0))], (tk_so I 6 0 X0, J, R)) _ from ?_)
          rw [show (4 : Int32) = nI (wnF (B q)) by rw [hc]; rfl]
          show tkDn tm_144 (45, [some (.inr (.inr (6, 0, 0))), some (.inl (B q)), none], [.inl (nI (wnF (B q))), .inr (.inr (6, 0, 0))], (tk_so I 6 0 X0, J, R)) _
          refine dn_call rfl rfl rfl rfl rfl (sm_takes hz hw4 hB (p0 := q + 1) (by omega) h14 (fun X hX h18 hn1 => ?_) (fun X x hX hn1 h18 hXa hx => ?_))
          · show tkDn tm_144 (48, [some (.inr (.inr (6, 0, 0))), some (.inl (B q)), none], [.inl 0], (tk_so I 6 0 X, J, R)) _
            refine dn_if rfl rfl rfl (fun (d1 : (¬ (0 : Int32) = 0 : Prop)) => ?_) (fun (d1 : ((0 : Int32) = 0 : Prop)) => ?_)
            · exact absurd rfl d1
            · show tkDn tm_144 (51, [some (.inr (.inr (6, 0, 0))), some (.inl (B q)), none], [], (tk_so I 6 0 X, J, R)) _
              have e1 : itF B z S q = (false, (nmF B z (wnF (B q)) 0 (q + 1) (fun _ => 0)).2.1, S) := (if_neg hw).trans (if_neg (by rw [hn1]; decide))
              refine dn_run 1 (show tkDn tm_144 (52, [some (.inr (.inr (6, 0, 0))), some (.inl (B q)), none], [.inl 0], (tk_so I 6 0 X, J, R)) _ from ?_)
              refine dn_retb rfl rfl rfl rfl (by decide) ?_
              exact hQ X 0 hX.i (by rw [e1]; exact hX.net hP) (Or.inl ⟨rfl, by rw [e1], by rw [e1]; exact h18⟩)
          · show tkDn tm_144 (48, [some (.inr (.inr (6, 0, 0))), some (.inl (B q)), none], [.inl x], (tk_so I 6 0 X, J, R)) _
            refine dn_if rfl rfl rfl (fun (d1 : ¬ x = 0) => ?_) (fun (d1 : x = 0) => ?_)
            · show tkDn tm_144 (53, [some (.inr (.inr (6, 0, 0))), some (.inl (B q)), none], [], (tk_so I 6 0 X, J, R)) _
              obtain ⟨-, hsemi, h14b⟩ := hx.resolve_left (fun y => d1 y.1)
              exact sm_it2 hz w hB hP hq hN hX hw hn1 hsemi hXa h18 h14b hQ
            · show tkDn tm_144 (51, [some (.inr (.inr (6, 0, 0))), some (.inl (B q)), none], [], (tk_so I 6 0 X, J, R)) _
              have hns := (hx.resolve_right (fun y => absurd (d1.symm.trans y.1) (by decide))).2
              have e1 : itF B z S q = (false, sbF B (z - (nmF B z (wnF (B q)) 0 (q + 1) (fun _ => 0)).2.1) (nmF B z (wnF (B q)) 0 (q + 1) (fun _ => 0)).2.1, S) := (if_neg hw).trans ((if_pos hn1).trans (if_neg hns))
              refine dn_run 1 (show tkDn tm_144 (52, [some (.inr (.inr (6, 0, 0))), some (.inl (B q)), none], [.inl 0], (tk_so I 6 0 X, J, R)) _ from ?_)
              refine dn_retb rfl rfl rfl rfl (by decide) ?_
              exact hQ X 0 hX.i (by rw [e1]; exact hX.net hP) (Or.inl ⟨rfl, by rw [e1], by rw [e1]; exact h18⟩)
        · exact absurd (hc.symm.trans e1) (by decide)
      · show tkDn tm_144 (23, [some (.inr (.inr (6, 0, 0))), some (.inl (X0 0 15)), none], [], (tk_so I 6 0 X0, J, R)) _
        have hw : wnF (B q) = 0 := (if_neg (fun y => c1 ((h15 _ (by decide)).mpr y))).trans (if_neg (fun y => y.elim (fun y => c2 ((h15 _ (by decide)).mpr y)) (fun y => c3 ((h15 _ (by decide)).mpr y))))
        have e1 : itF B z S q = (false, q, S) := if_pos hw
        refine dn_run 5 (show tkDn tm_144 (32, [some (.inr (.inr (6, 0, 0))), some (.inl (X0 0 15)), none], [.inl 0], (tk_so (tk_so I 6 0 X0) 6 0 (tk_u2 X0 0 18 (X0 0 16)), J, R)) _ from ?_)
        rw [tk_so_so]
        rw [hN.1]
        refine dn_retb rfl rfl rfl rfl (by decide) ?_
        exact hQ _ 0 (fT.i (fT.u (fun _ _ _ _ => rfl) (Or.inl (by omega)))) (by rw [e1]; exact fT.net (fT.u (fun _ _ _ _ => rfl) (Or.inl (by omega))) hP) (Or.inl ⟨rfl, by rw [e1], by rw [e1, tk_u2_1]⟩)
