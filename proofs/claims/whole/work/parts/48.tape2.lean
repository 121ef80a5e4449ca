/-! Tape: items -/
set_option maxRecDepth 8000 in
theorem TpC.u {X : Nat → Nat → Int32} {z : Nat} {B : Nat → Int32} (h : TpC X z B) {s k : Nat} {x : Int32} (hs : s ≠ 1) (hk : ¬ (s = 0 ∧ k = 2)) : TpC (tk_u2 X s k x) z B :=
  ⟨by rw [tk_u2_0 (by omega)]; exact h.1, fun j hj => by rw [tk_u2_ne (by omega)]; exact h.2 j hj⟩
set_option maxRecDepth 8000 in
theorem wnF_le (c : Int32) : wnF c ≤ 4 := by
  unfold wnF
  split
  · omega
  · split <;> omega
set_option maxRecDepth 8000 in
theorem st_numbersBehind {I : tkI} {J : tkJ} {R : Nat → Nat} {Q : tkQ} {c : Int32} (hQ : Q (some (.inl (nI (wnF c)))) (I, J, R)) : tkDn tm_76 (0, [some (.inl c)], [], (I, J, R)) Q := by
  refine dn_run 2 (show tkDn tm_76 (3, [some (.inl c)], [.inl 109, .inl c], (I, J, R)) _ from ?_)
  refine dn_if rfl rfl rfl (fun (c1 : ¬ c = 109) => ?_) (fun (c1 : c = 109) => ?_)
  · show tkDn tm_76 (8, [some (.inl c)], [], (I, J, R)) _
    refine dn_run 2 (show tkDn tm_76 (11, [some (.inl c)], [.inl 119, .inl c], (I, J, R)) _ from ?_)
    refine dn_if rfl rfl rfl (fun (c2 : c = 119) => ?_) (fun (c2 : ¬ c = 119) => ?_)
    · show tkDn tm_76 (20, [some (.inl c)], [], (I, J, R)) _
      refine dn_run 2 (show tkDn tm_76 (25, [some (.inl c)], [.inl 4], (I, J, R)) _ from ?_)
      refine dn_ret0 rfl rfl rfl rfl ?_
      rw [show wnF c = 4 from (if_neg c1).trans (if_pos (Or.inl c2))] at hQ; exact hQ
    · show tkDn tm_76 (14, [some (.inl c)], [], (I, J, R)) _
      refine dn_run 2 (show tkDn tm_76 (17, [some (.inl c)], [.inl 103, .inl c], (I, J, R)) _ from ?_)
      refine dn_if rfl rfl rfl (fun (c3 : ¬ c = 103) => ?_) (fun (c3 : c = 103) => ?_)
      · show tkDn tm_76 (24, [some (.inl c)], [], (I, J, R)) _
        refine dn_run 1 (show tkDn tm_76 (25, [some (.inl c)], [.inl 0], (I, J, R)) _ from ?_)
        refine dn_ret0 rfl rfl rfl rfl ?_
        rw [show wnF c = 0 from (if_neg c1).trans (if_neg (fun q => q.elim c2 c3))] at hQ; exact hQ
      · show tkDn tm_76 (20, [some (.inl c)], [], (I, J, R)) _
        refine dn_run 2 (show tkDn tm_76 (25, [some (.inl c)], [.inl 4], (I, J, R)) _ from ?_)
        refine dn_ret0 rfl rfl rfl rfl ?_
        rw [show wnF c = 4 from (if_neg c1).trans (if_pos (Or.inr c3))] at hQ; exact hQ
  · show tkDn tm_76 (6, [some (.inl c)], [], (I, J, R)) _
    refine dn_run 1 (show tkDn tm_76 (7, [some (.inl c)], [.inl 1], (I, J, R)) _ from ?_)
    refine dn_ret0 rfl rfl rfl rfl ?_
    rw [show wnF c = 1 from if_pos c1] at hQ; exact hQ
set_option maxRecDepth 8000 in
theorem st_putItem {I : tkI} {J : tkJ} {R : Nat → Nat} {Q : tkQ} {b : Nat} (hb : b < 2) {S : tkS} (hP : NetP (I 1 b) S) (w : WF S) {c : Int32} (hc : ¬ wnF c = 0) {a : Nat → Int32} (ha : ∀ j, j < wnF c → I 3 0 2 j = a j) (hQ : ∀ Y, NetP Y (putF S c a).2 → Q (some (.inl (putF S c a).1)) (tk_so I 1 b Y, J, R)) : tkDn tm_77 (0, [some (.inr (.inr (3, 0, 0))), some (.inr (.inr (1, b, 0))), some (.inl c)], [], (I, J, R)) Q := by
  refine dn_run 2 (show tkDn tm_77 (3, [some (.inr (.inr (3, 0, 0))), some (.inr (.inr (1, b, 0))), some (.inl c)], [.inl 109, .inl c], (I, J, R)) _ from ?_)
  refine dn_if rfl rfl rfl (fun (c1 : ¬ c = 109) => ?_) (fun (c1 : c = 109) => ?_)
  · show tkDn tm_77 (17, [some (.inr (.inr (3, 0, 0))), some (.inr (.inr (1, b, 0))), some (.inl c)], [], (I, J, R)) _
    refine dn_run 2 (show tkDn tm_77 (20, [some (.inr (.inr (3, 0, 0))), some (.inr (.inr (1, b, 0))), some (.inl c)], [.inl 119, .inl c], (I, J, R)) _ from ?_)
    refine dn_if rfl rfl rfl (fun (c2 : ¬ c = 119) => ?_) (fun (c2 : c = 119) => ?_)
    · show tkDn tm_77 (52, [some (.inr (.inr (3, 0, 0))), some (.inr (.inr (1, b, 0))), some (.inl c)], [], (I, J, R)) _
      have hw : wnF c = 4 := Classical.byContradiction fun q => hc (by unfold wnF at q ⊢; rw [if_neg c1] at q ⊢; by_cases z : c = 119 ∨ c = 103; exact absurd (if_pos z) q; exact if_neg z)
      have hp : putF S c a = opGift S (a 0) (a 1) (a 2) (a 3) := (if_neg c1).trans (if_neg c2)
      have a0 : I 3 0 2 (0 : Int32).toNatClampNeg = a 0 := ha 0 (by rw [hw]; omega)
      have a1 : I 3 0 2 (1 : Int32).toNatClampNeg = a 1 := ha 1 (by rw [hw]; omega)
      have a2 : I 3 0 2 (2 : Int32).toNatClampNeg = a 2 := ha 2 (by rw [hw]; omega)
      have a3 : I 3 0 2 (3 : Int32).toNatClampNeg = a 3 := ha 3 (by rw [hw]; omega)
      refine dn_run 17 (show (vp_in 0 4) ∧ (vp_in 1 4) ∧ (vp_in 2 4) ∧ (vp_in 3 4) ∧ tkDn tm_77 (77, [some (.inr (.inr (3, 0, 0))), some (.inr (.inr (1, b, 0))), some (.inl c)], [.inl (I 3 0 2 ((3 : Int32).toNatClampNeg)), .inl (I 3 0 2 ((2 : Int32).toNatClampNeg)), .inl (I 3 0 2 ((1 : Int32).toNatClampNeg)), .inl (I 3 0 2 ((0 : Int32).toNatClampNeg)), .inr (.inr (1, b, 0))], (I, J, R)) _ from ⟨(show vp_in (nI 0) 4 from vp_in_nI (by decide) (by decide)), (show vp_in (nI 1) 4 from vp_in_nI (by decide) (by decide)), (show vp_in (nI 2) 4 from vp_in_nI (by decide) (by decide)), (show vp_in (nI 3) 4 from vp_in_nI (by decide) (by decide)), ?_⟩)
      rw [a0, a1, a2, a3]
      show tkDn tm_77 (77, [some (.inr (.inr (3, 0, 0))), some (.inr (.inr (1, b, 0))), some (.inl c)], [.inl (a 3), .inl (a 2), .inl (a 1), .inl (a 0), .inr (.inr (1, b, 0))], (I, J, R)) _
      refine dn_call rfl rfl rfl rfl rfl (sn_addGift hb hP w (fun Y hY => ?_))
      show tkDn tm_77 (80, [some (.inr (.inr (3, 0, 0))), some (.inr (.inr (1, b, 0))), some (.inl c)], [.inl ((opGift S (a 0) (a 1) (a 2) (a 3)).1)], (tk_so I 1 b Y, J, R)) _
      refine dn_ret0 rfl rfl rfl rfl ?_
      rw [hp] at hQ; exact hQ Y hY
    · show tkDn tm_77 (23, [some (.inr (.inr (3, 0, 0))), some (.inr (.inr (1, b, 0))), some (.inl c)], [], (I, J, R)) _
      have hw : wnF c = 4 := (if_neg c1).trans (if_pos (Or.inl c2))
      have hp : putF S c a = opWish S (a 0) (a 1) (a 2) (a 3) := (if_neg c1).trans (if_pos c2)
      have a0 : I 3 0 2 (0 : Int32).toNatClampNeg = a 0 := ha 0 (by rw [hw]; omega)
      have a1 : I 3 0 2 (1 : Int32).toNatClampNeg = a 1 := ha 1 (by rw [hw]; omega)
      have a2 : I 3 0 2 (2 : Int32).toNatClampNeg = a 2 := ha 2 (by rw [hw]; omega)
      have a3 : I 3 0 2 (3 : Int32).toNatClampNeg = a 3 := ha 3 (by rw [hw]; omega)
      refine dn_run 17 (show (vp_in 0 4) ∧ (vp_in 1 4) ∧ (vp_in 2 4) ∧ (vp_in 3 4) ∧ tkDn tm_77 (48, [some (.inr (.inr (3, 0, 0))), some (.inr (.inr (1, b, 0))), some (.inl c)], [.inl (I 3 0 2 ((3 : Int32).toNatClampNeg)), .inl (I 3 0 2 ((2 : Int32).toNatClampNeg)), .inl (I 3 0 2 ((1 : Int32).toNatClampNeg)), .inl (I 3 0 2 ((0 : Int32).toNatClampNeg)), .inr (.inr (1, b, 0))], (I, J, R)) _ from ⟨(show vp_in (nI 0) 4 from vp_in_nI (by decide) (by decide)), (show vp_in (nI 1) 4 from vp_in_nI (by decide) (by decide)), (show vp_in (nI 2) 4 from vp_in_nI (by decide) (by decide)), (show vp_in (nI 3) 4 from vp_in_nI (by decide) (by decide)), ?_⟩)
      rw [a0, a1, a2, a3]
      show tkDn tm_77 (48, [some (.inr (.inr (3, 0, 0))), some (.inr (.inr (1, b, 0))), some (.inl c)], [.inl (a 3), .inl (a 2), .inl (a 1), .inl (a 0), .inr (.inr (1, b, 0))], (I, J, R)) _
      refine dn_call rfl rfl rfl rfl rfl (sn_addWish hP w hb (fun Y hY => ?_))
      show tkDn tm_77 (51, [some (.inr (.inr (3, 0, 0))), some (.inr (.inr (1, b, 0))), some (.inl c)], [.inl ((opWish S (a 0) (a 1) (a 2) (a 3)).1)], (tk_so I 1 b Y, J, R)) _
      refine dn_ret0 rfl rfl rfl rfl ?_
      rw [hp] at hQ; exact hQ Y hY
  · show tkDn tm_77 (6, [some (.inr (.inr (3, 0, 0))), some (.inr (.inr (1, b, 0))), some (.inl c)], [], (I, J, R)) _
    have hw : wnF c = 1 := if_pos c1
    have a0 : I 3 0 2 (0 : Int32).toNatClampNeg = a 0 := ha 0 (by rw [hw]; omega)
    have hp : putF S c a = opMom S (a 0) := if_pos c1
    refine dn_run 5 (show (vp_in 0 4) ∧ tkDn tm_77 (13, [some (.inr (.inr (3, 0, 0))), some (.inr (.inr (1, b, 0))), some (.inl c)], [.inl (I 3 0 2 ((0 : Int32).toNatClampNeg)), .inr (.inr (1, b, 0))], (I, J, R)) _ from ⟨(show vp_in (nI 0) 4 from vp_in_nI (by decide) (by decide)), ?_⟩)
    rw [a0]
    show tkDn tm_77 (13, [some (.inr (.inr (3, 0, 0))), some (.inr (.inr (1, b, 0))), some (.inl c)], [.inl (a 0), .inr (.inr (1, b, 0))], (I, J, R)) _
    refine dn_call rfl rfl rfl rfl rfl (sn_addMoments hb hP w (fun Y hY => ?_))
    show tkDn tm_77 (16, [some (.inr (.inr (3, 0, 0))), some (.inr (.inr (1, b, 0))), some (.inl c)], [.inl ((opMom S (a 0)).1)], (tk_so I 1 b Y, J, R)) _
    refine dn_ret0 rfl rfl rfl rfl ?_
    rw [hp] at hQ; exact hQ Y hY
set_option maxRecDepth 8000 in
theorem st_nm_loop {I : tkI} {J : tkJ} {R : Nat → Nat} {Q : tkQ} {z : Nat} {B : Nat → Int32} (hz : z ≤ 1000) {b wn p0 : Nat} {c : Int32} (hw4 : wn ≤ 4) (hF : ∀ X, TpC X z B → X 0 3 = nI (nmF B z wn 0 p0 (fun _ => 0)).2.1 → (nmF B z wn 0 p0 (fun _ => 0)).1 = false → Q (some (.inl 0)) (tk_so I 3 0 X, J, R)) (hK : ∀ X, TpC X z B → X 0 3 = nI (nmF B z wn 0 p0 (fun _ => 0)).2.1 → (nmF B z wn 0 p0 (fun _ => 0)).2.1 ≤ z → (∀ j, j < wn → X 2 j = (nmF B z wn 0 p0 (fun _ => 0)).2.2 j) → (nmF B z wn 0 p0 (fun _ => 0)).1 = true → tkDn tm_75 (70, [some (.inr (.inr (3, 0, 0))), some (.inr (.inr (1, b, 0))), some (.inl c), some (.inl (nI wn)), some (.inl (nI wn))], [], (tk_so I 3 0 X, J, R)) Q) : ∀ n i q a X, i + n = wn → q ≤ z → TpC X z B → X 0 3 = nI q → (∀ j, j < i → X 2 j = a j) → nmF B z n i q a = nmF B z wn 0 p0 (fun _ => 0) → tkDn tm_75 (34, [some (.inr (.inr (3, 0, 0))), some (.inr (.inr (1, b, 0))), some (.inl c), some (.inl (nI wn)), some (.inl (nI i))], [], (tk_so I 3 0 X, J, R)) Q := by
  intro n
  induction n with
  | zero =>
    intro i q a X hi hq hX h3 ha h
    show tkDn tm_75 (34, [some (.inr (.inr (3, 0, 0))), some (.inr (.inr (1, b, 0))), some (.inl c), some (.inl (nI wn)), some (.inl (nI i))], [], (tk_so I 3 0 X, J, R)) _
    refine dn_run 2 (show tkDn tm_75 (37, [some (.inr (.inr (3, 0, 0))), some (.inr (.inr (1, b, 0))), some (.inl c), some (.inl (nI wn)), some (.inl (nI i))], [.inl (nI wn), .inl (nI i)], (tk_so I 3 0 X, J, R)) _ from ?_)
    refine dn_if rfl rfl rfl (fun (c0 : (nI wn) ≤ (nI i)) => ?_) (fun (c0 : ¬ (nI wn) ≤ (nI i)) => ?_)
    · show tkDn tm_75 (70, [some (.inr (.inr (3, 0, 0))), some (.inr (.inr (1, b, 0))), some (.inl c), some (.inl (nI wn)), some (.inl (nI i))], [], (tk_so I 3 0 X, J, R)) _
      have hi : i = wn := by omega
      subst hi
      have e1 : (true, q, a) = nmF B z i 0 p0 (fun _ => 0) := h
      exact hK X hX (by rw [← e1]; exact h3) (by rw [← e1]; exact hq) (fun j hj => by rw [← e1]; exact ha j hj) (by rw [← e1])
    · exact absurd (nI_le (by omega) (by omega)) c0
  | succ n ih =>
    intro i q a X hi hq hX h3 ha h
    show tkDn tm_75 (34, [some (.inr (.inr (3, 0, 0))), some (.inr (.inr (1, b, 0))), some (.inl c), some (.inl (nI wn)), some (.inl (nI i))], [], (tk_so I 3 0 X, J, R)) _
    refine dn_run 2 (show tkDn tm_75 (37, [some (.inr (.inr (3, 0, 0))), some (.inr (.inr (1, b, 0))), some (.inl c), some (.inl (nI wn)), some (.inl (nI i))], [.inl (nI wn), .inl (nI i)], (tk_so I 3 0 X, J, R)) _ from ?_)
    refine dn_if rfl rfl rfl (fun (c0 : (nI wn) ≤ (nI i)) => ?_) (fun (c0 : ¬ (nI wn) ≤ (nI i)) => ?_)
    · exact absurd c0 (nI_ge (by omega) (by omega))
    · show tkDn tm_75 (40, [some (.inr (.inr (3, 0, 0))), some (.inr (.inr (1, b, 0))), some (.inl c), some (.inl (nI wn)), some (.inl (nI i))], [], (tk_so I 3 0 X, J, R)) _
      have hs := sbF_le (B := B) (z - q) q
      refine dn_run 1 (show tkDn tm_75 (41, [some (.inr (.inr (3, 0, 0))), some (.inr (.inr (1, b, 0))), some (.inl c), some (.inl (nI wn)), some (.inl (nI i))], [.inr (.inr (3, 0, 0))], (tk_so I 3 0 X, J, R)) _ from ?_)
      refine dn_call rfl rfl rfl rfl rfl (st_skipBlanks hz (B := B) (p := q) (by rw [tk_so_same]; exact hX) hq (by rw [tk_so_same]; exact h3) ?_)
      rw [tk_so_so, tk_so_same]
      obtain ⟨r, hr⟩ : ∃ r, r = sbF B (z - q) q := ⟨_, rfl⟩
      rw [← hr] at hs ⊢
      obtain ⟨X1, hX1⟩ : ∃ X1, X1 = tk_u2 X 0 3 (nI r) := ⟨_, rfl⟩
      rw [← hX1]
      have t1 : TpC X1 z B := by rw [hX1]; exact hX.u (by decide) (by decide)
      have t3 : X1 0 3 = nI r := by rw [hX1, tk_u2_1]
      have ta : ∀ j, j < i → X1 2 j = a j := fun j hj => by rw [hX1, tk_u2_ne (by decide)]; exact ha j hj
      show tkDn tm_75 (44, [some (.inr (.inr (3, 0, 0))), some (.inr (.inr (1, b, 0))), some (.inl c), some (.inl (nI wn)), some (.inl (nI i))], [], (tk_so I 3 0 X1, J, R)) _
      refine dn_run 1 (show tkDn tm_75 (45, [some (.inr (.inr (3, 0, 0))), some (.inr (.inr (1, b, 0))), some (.inl c), some (.inl (nI wn)), some (.inl (nI i))], [.inr (.inr (3, 0, 0))], (tk_so I 3 0 X1, J, R)) _ from ?_)
      refine dn_call rfl rfl rfl rfl rfl (st_takeNumber hz (B := B) (p := r) (by rw [tk_so_same]; exact t1) (by omega) (by rw [tk_so_same]; exact t3) (fun hN => ?_) (fun v q2 hS => ?_))
      · skip
        show tkDn tm_75 (48, [some (.inr (.inr (3, 0, 0))), some (.inr (.inr (1, b, 0))), some (.inl c), some (.inl (nI wn)), some (.inl (nI i))], [.inl 0], (tk_so I 3 0 X1, J, R)) _
        refine dn_if rfl rfl rfl (fun (c1 : (¬ (0 : Int32) = 0 : Prop)) => ?_) (fun (c1 : ((0 : Int32) = 0 : Prop)) => ?_)
        · exact absurd rfl c1
        · show tkDn tm_75 (51, [some (.inr (.inr (3, 0, 0))), some (.inr (.inr (1, b, 0))), some (.inl c), some (.inl (nI wn)), some (.inl (nI i))], [], (tk_so I 3 0 X1, J, R)) _
          refine dn_run 1 (show tkDn tm_75 (52, [some (.inr (.inr (3, 0, 0))), some (.inr (.inr (1, b, 0))), some (.inl c), some (.inl (nI wn)), some (.inl (nI i))], [.inl 0], (tk_so I 3 0 X1, J, R)) _ from ?_)
          have e1 : (false, r, a) = nmF B z wn 0 p0 (fun _ => 0) := by rw [← h]; unfold nmF; rw [← hr, hN]
          refine dn_retb rfl rfl rfl rfl (by decide) ?_
          exact hF X1 t1 (by rw [← e1]; exact t3) (by rw [← e1])
      · have hq2 := tkN_lt (by omega) hS
        rw [tk_so_so, tk_so_same]
        show tkDn tm_75 (48, [some (.inr (.inr (3, 0, 0))), some (.inr (.inr (1, b, 0))), some (.inl c), some (.inl (nI wn)), some (.inl (nI i))], [.inl 1], (tk_so I 3 0 (tk_u2 (tk_u2 X1 0 3 (nI q2)) 0 4 v), J, R)) _
        refine dn_if rfl rfl rfl (fun (c1 : (¬ (1 : Int32) = 0 : Prop)) => ?_) (fun (c1 : ((1 : Int32) = 0 : Prop)) => ?_)
        · show tkDn tm_75 (53, [some (.inr (.inr (3, 0, 0))), some (.inr (.inr (1, b, 0))), some (.inl c), some (.inl (nI wn)), some (.inl (nI i))], [], (tk_so I 3 0 (tk_u2 (tk_u2 X1 0 3 (nI q2)) 0 4 v), J, R)) _
          refine dn_run 8 (show (vp_in (nI i) 4) ∧ tkDn tm_75 (34, [some (.inr (.inr (3, 0, 0))), some (.inr (.inr (1, b, 0))), some (.inl c), some (.inl (nI wn)), some (.inl ((nI i) + 1))], [], (tk_so (tk_so I 3 0 (tk_u2 (tk_u2 X1 0 3 (nI q2)) 0 4 v)) 3 0 (tk_u2 (tk_u2 (tk_u2 X1 0 3 (nI q2)) 0 4 v) 2 ((nI i).toNatClampNeg) v), J, R)) _ from ⟨vp_in_nI (by omega) (by omega), ?_⟩)
          rw [tk_so_so]
          rw [nI_1, nI_clamp (show i < 2 ^ 31 by omega)]
          refine ih (i + 1) q2 (tk_u1 a i v) _ (by omega) hq2.2 (((t1.u (by decide) (by decide)).u (by decide) (by decide)).u (by decide) (by omega)) (by rw [tk_u2_0 (by omega), tk_u2_0 (by decide), tk_u2_1]) (fun j hj => ?_) ?_
          · rw [tk_u2_at]
            by_cases z : j = i
            · rw [z, tk_u1_same, tk_u1_same]
            · rw [tk_u1_ne z, tk_u1_ne z, tk_u2_ne (by decide), tk_u2_ne (by decide)]; exact ta j (by omega)
          · rw [← h]; show nmF B z n (i + 1) q2 (tk_u1 a i v) = nmF B z (n + 1) i q a; conv => rhs; unfold nmF; rw [← hr, hS]
        · exact absurd c1 (by decide)
set_option maxRecDepth 8000 in
theorem st_readItem {I : tkI} {J : tkJ} {R : Nat → Nat} {Q : tkQ} {z : Nat} {B : Nat → Int32} (hz : z ≤ 1000) (hB : TpC (I 3 0) z B) {b : Nat} (hb : b < 2) {S : tkS} (hP : NetP (I 1 b) S) (w : WF S) {q : Nat} (hq : q < z) (h3 : I 3 0 0 3 = nI q) (hQ : ∀ (I' : tkI) (x : Int32), (∀ ci d, ¬ (ci = 3 ∧ d = 0) → ¬ (ci = 1 ∧ d = b) → I' ci d = I ci d) → TpC (I' 3 0) z B → I' 3 0 0 3 = nI (itF B z S q).2.1 → NetP (I' 1 b) (itF B z S q).2.2 → x = (if (itF B z S q).1 = true then 1 else 0) → Q (some (.inl x)) (I', J, R)) : tkDn tm_75 (0, [some (.inr (.inr (3, 0, 0))), some (.inr (.inr (1, b, 0))), none, none, none], [], (I, J, R)) Q := by
  have hB2 := hB
  obtain ⟨h2, h1⟩ := hB2
  refine dn_run 7 (show (vp_in (I 3 0 0 3) 1000) ∧ tkDn tm_75 (11, [some (.inr (.inr (3, 0, 0))), some (.inr (.inr (1, b, 0))), some (.inl (I 3 0 1 ((I 3 0 0 3).toNatClampNeg))), none, none], [.inl (I 3 0 1 ((I 3 0 0 3).toNatClampNeg))], (I, J, R)) _ from ⟨by rw [h3]; exact vp_in_nI (by omega) (by omega), ?_⟩)
  rw [h3, nI_clamp (show q < 2 ^ 31 by omega), h1 q (by omega)]
  show tkDn tm_75 (11, [some (.inr (.inr (3, 0, 0))), some (.inr (.inr (1, b, 0))), some (.inl (B q)), none, none], [.inl (B q)], (I, J, R)) _
  refine dn_call rfl rfl rfl rfl rfl (st_numbersBehind ?_)
  show tkDn tm_75 (14, [some (.inr (.inr (3, 0, 0))), some (.inr (.inr (1, b, 0))), some (.inl (B q)), none, none], [.inl (nI (wnF (B q)))], (I, J, R)) _
  refine dn_run 2 (show tkDn tm_75 (16, [some (.inr (.inr (3, 0, 0))), some (.inr (.inr (1, b, 0))), some (.inl (B q)), some (.inl (nI (wnF (B q)))), none], [.inl (nI (wnF (B q)))], (I, J, R)) _ from ?_)
  have hw4 := wnF_le (B q)
  refine dn_if rfl rfl rfl (fun (c1 : ¬ (nI (wnF (B q))) = 0) => ?_) (fun (c1 : (nI (wnF (B q))) = 0) => ?_)
  · show tkDn tm_75 (21, [some (.inr (.inr (3, 0, 0))), some (.inr (.inr (1, b, 0))), some (.inl (B q)), some (.inl (nI (wnF (B q)))), none], [], (I, J, R)) _
    have hw : ¬ wnF (B q) = 0 := fun z => c1 (by rw [z]; rfl)
    refine dn_run 8 (show tkDn tm_75 (34, [some (.inr (.inr (3, 0, 0))), some (.inr (.inr (1, b, 0))), some (.inl (B q)), some (.inl (nI (wnF (B q)))), some (.inl 0)], [], (tk_so I 3 0 (tk_u2 (I 3 0) 0 3 ((I 3 0 0 3) + 1)), J, R)) _ from ?_)
    rw [h3, nI_1]
    refine st_nm_loop (I := I) hz (b := b) (p0 := q + 1) hw4 (fun X hX hX3 hX1 => ?_) (fun X hX hX3 hle hXa hX1 => ?_) (wnF (B q)) 0 (q + 1) (fun _ => 0) (tk_u2 (I 3 0) 0 3 (nI (q + 1))) (Nat.zero_add _) (by omega) (hB.u (by decide) (by decide)) (by rw [tk_u2_1]) (fun j hj => absurd hj (Nat.not_lt_zero _)) rfl
    · have e1 : itF B z S q = (false, (nmF B z (wnF (B q)) 0 (q + 1) (fun _ => 0)).2.1, S) := (if_neg hw).trans (if_neg (by rw [hX1]; decide))
      exact hQ _ 0 (fun ci d n1 n2 => tk_so_ne n1) (by rw [tk_so_same]; exact hX) (by rw [tk_so_same, e1]; exact hX3) (by rw [tk_so_ne (by omega), e1]; exact hP) (by rw [e1]; rfl)
    · show tkDn tm_75 (70, [some (.inr (.inr (3, 0, 0))), some (.inr (.inr (1, b, 0))), some (.inl (B q)), some (.inl (nI (wnF (B q)))), some (.inl (nI (wnF (B q))))], [], (tk_so I 3 0 X, J, R)) _
      have hs := sbF_le (B := B) (z - (nmF B z (wnF (B q)) 0 (q + 1) (fun _ => 0)).2.1) (nmF B z (wnF (B q)) 0 (q + 1) (fun _ => 0)).2.1
      refine dn_run 1 (show tkDn tm_75 (71, [some (.inr (.inr (3, 0, 0))), some (.inr (.inr (1, b, 0))), some (.inl (B q)), some (.inl (nI (wnF (B q)))), some (.inl (nI (wnF (B q))))], [.inr (.inr (3, 0, 0))], (tk_so I 3 0 X, J, R)) _ from ?_)
      refine dn_call rfl rfl rfl rfl rfl (st_skipBlanks hz (B := B) (p := (nmF B z (wnF (B q)) 0 (q + 1) (fun _ => 0)).2.1) (by rw [tk_so_same]; exact hX) hle (by rw [tk_so_same]; exact hX3) ?_)
      rw [tk_so_so, tk_so_same]
      obtain ⟨r, hr⟩ : ∃ r, r = sbF B (z - (nmF B z (wnF (B q)) 0 (q + 1) (fun _ => 0)).2.1) (nmF B z (wnF (B q)) 0 (q + 1) (fun _ => 0)).2.1 := ⟨_, rfl⟩
      rw [← hr] at hs ⊢
      obtain ⟨X1, hX1e⟩ : ∃ X1, X1 = tk_u2 X 0 3 (nI r) := ⟨_, rfl⟩
      rw [← hX1e]
      have t1 : TpC X1 z B := by rw [hX1e]; exact hX.u (by decide) (by decide)
      have t3 : X1 0 3 = nI r := by rw [hX1e, tk_u2_1]
      have ta : ∀ j, j < wnF (B q) → X1 2 j = (nmF B z (wnF (B q)) 0 (q + 1) (fun _ => 0)).2.2 j := fun j hj => by rw [hX1e, tk_u2_ne (by decide)]; exact hXa j hj
      show tkDn tm_75 (74, [some (.inr (.inr (3, 0, 0))), some (.inr (.inr (1, b, 0))), some (.inl (B q)), some (.inl (nI (wnF (B q)))), some (.inl (nI (wnF (B q))))], [], (tk_so I 3 0 X1, J, R)) _
      refine dn_run 4 (show tkDn tm_75 (82, [some (.inr (.inr (3, 0, 0))), some (.inr (.inr (1, b, 0))), some (.inl (B q)), some (.inl (nI (wnF (B q)))), some (.inl (nI (wnF (B q))))], [.inl (X1 0 2), .inl (X1 0 3)], (tk_so I 3 0 X1, J, R)) _ from ?_)
      rw [t3, t1.1]
      show tkDn tm_75 (82, [some (.inr (.inr (3, 0, 0))), some (.inr (.inr (1, b, 0))), some (.inl (B q)), some (.inl (nI (wnF (B q)))), some (.inl (nI (wnF (B q))))], [.inl (nI z), .inl (nI r)], (tk_so I 3 0 X1, J, R)) _
      refine dn_if rfl rfl rfl (fun (c2 : (nI z) ≤ (nI r)) => ?_) (fun (c2 : ¬ (nI z) ≤ (nI r)) => ?_)
      · show tkDn tm_75 (108, [some (.inr (.inr (3, 0, 0))), some (.inr (.inr (1, b, 0))), some (.inl (B q)), some (.inl (nI (wnF (B q)))), some (.inl (nI (wnF (B q))))], [], (tk_so I 3 0 X1, J, R)) _
        have e1 : itF B z S q = (false, r, S) := by rw [hr]; exact (if_neg hw).trans ((if_pos hX1).trans (if_neg (by rw [← hr]; exact fun z => absurd c2 (nI_ge z.1 (by omega)))))
        refine dn_run 1 (show tkDn tm_75 (109, [some (.inr (.inr (3, 0, 0))), some (.inr (.inr (1, b, 0))), some (.inl (B q)), some (.inl (nI (wnF (B q)))), some (.inl (nI (wnF (B q))))], [.inl 0], (tk_so I 3 0 X1, J, R)) _ from ?_)
        refine dn_retb rfl rfl rfl rfl (by decide) ?_
        exact hQ _ 0 (fun ci d n1 n2 => tk_so_ne n1) (by rw [tk_so_same]; exact t1) (by rw [tk_so_same, e1]; exact t3) (by rw [tk_so_ne (by omega), e1]; exact hP) (by rw [e1]; rfl)
      · show tkDn tm_75 (85, [some (.inr (.inr (3, 0, 0))), some (.inr (.inr (1, b, 0))), some (.inl (B q)), some (.inl (nI (wnF (B q)))), some (.inl (nI (wnF (B q))))], [], (tk_so I 3 0 X1, J, R)) _
        have hlt : r < z := Nat.not_le.mp (fun q => c2 (nI_le q (by omega)))
        refine dn_run 6 (show (vp_in (X1 0 3) 1000) ∧ tkDn tm_75 (96, [some (.inr (.inr (3, 0, 0))), some (.inr (.inr (1, b, 0))), some (.inl (B q)), some (.inl (nI (wnF (B q)))), some (.inl (nI (wnF (B q))))], [.inl 59, .inl (X1 1 ((X1 0 3).toNatClampNeg))], (tk_so I 3 0 X1, J, R)) _ from ⟨by rw [t3]; exact vp_in_nI (by omega) (by omega), ?_⟩)
        rw [t3, nI_clamp (show r < 2 ^ 31 by omega), t1.2 r hlt]
        show tkDn tm_75 (96, [some (.inr (.inr (3, 0, 0))), some (.inr (.inr (1, b, 0))), some (.inl (B q)), some (.inl (nI (wnF (B q)))), some (.inl (nI (wnF (B q))))], [.inl 59, .inl (B r)], (tk_so I 3 0 X1, J, R)) _
        refine dn_if rfl rfl rfl (fun (c3 : ¬ (B r) = 59) => ?_) (fun (c3 : (B r) = 59) => ?_)
        · show tkDn tm_75 (108, [some (.inr (.inr (3, 0, 0))), some (.inr (.inr (1, b, 0))), some (.inl (B q)), some (.inl (nI (wnF (B q)))), some (.inl (nI (wnF (B q))))], [], (tk_so I 3 0 X1, J, R)) _
          have e1 : itF B z S q = (false, r, S) := by rw [hr]; exact (if_neg hw).trans ((if_pos hX1).trans (if_neg (by rw [← hr]; exact fun z => c3 z.2)))
          refine dn_run 1 (show tkDn tm_75 (109, [some (.inr (.inr (3, 0, 0))), some (.inr (.inr (1, b, 0))), some (.inl (B q)), some (.inl (nI (wnF (B q)))), some (.inl (nI (wnF (B q))))], [.inl 0], (tk_so I 3 0 X1, J, R)) _ from ?_)
          refine dn_retb rfl rfl rfl rfl (by decide) ?_
          exact hQ _ 0 (fun ci d n1 n2 => tk_so_ne n1) (by rw [tk_so_same]; exact t1) (by rw [tk_so_same, e1]; exact t3) (by rw [tk_so_ne (by omega), e1]; exact hP) (by rw [e1]; rfl)
        · show tkDn tm_75 (99, [some (.inr (.inr (3, 0, 0))), some (.inr (.inr (1, b, 0))), some (.inl (B q)), some (.inl (nI (wnF (B q)))), some (.inl (nI (wnF (B q))))], [], (tk_so I 3 0 X1, J, R)) _
          refine dn_run 3 (show tkDn tm_75 (102, [some (.inr (.inr (3, 0, 0))), some (.inr (.inr (1, b, 0))), some (.inl (B q)), some (.inl (nI (wnF (B q)))), some (.inl (nI (wnF (B q))))], [.inl (B q), .inr (.inr (1, b, 0)), .inr (.inr (3, 0, 0))], (tk_so I 3 0 X1, J, R)) _ from ?_)
          refine dn_call rfl rfl rfl rfl rfl (st_putItem (a := (nmF B z (wnF (B q)) 0 (q + 1) (fun _ => 0)).2.2) hb (by rw [tk_so_ne (by omega)]; exact hP) w hw (by rw [tk_so_same]; exact ta) (fun Y hY => ?_))
          show tkDn tm_75 (105, [some (.inr (.inr (3, 0, 0))), some (.inr (.inr (1, b, 0))), some (.inl (B q)), some (.inl (nI (wnF (B q)))), some (.inl (nI (wnF (B q))))], [.inl ((putF S (B q) (nmF B z (wnF (B q)) 0 (q + 1) (fun _ => 0)).2.2).1)], (tk_so (tk_so I 3 0 X1) 1 b Y, J, R)) _
          refine dn_if rfl rfl rfl (fun (c4 : 0 ≤ ((putF S (B q) (nmF B z (wnF (B q)) 0 (q + 1) (fun _ => 0)).2.2).1)) => ?_) (fun (c4 : ¬ 0 ≤ ((putF S (B q) (nmF B z (wnF (B q)) 0 (q + 1) (fun _ => 0)).2.2).1)) => ?_)
          · show tkDn tm_75 (110, [some (.inr (.inr (3, 0, 0))), some (.inr (.inr (1, b, 0))), some (.inl (B q)), some (.inl (nI (wnF (B q)))), some (.inl (nI (wnF (B q))))], [], (tk_so (tk_so I 3 0 X1) 1 b Y, J, R)) _
            have e1 : itF B z S q = (true, r + 1, (putF S (B q) (nmF B z (wnF (B q)) 0 (q + 1) (fun _ => 0)).2.2).2) := by rw [hr]; exact (if_neg hw).trans ((if_pos hX1).trans ((if_pos (by rw [← hr]; exact ⟨hlt, c3⟩)).trans (if_neg (Int32.not_lt.mpr c4))))
            refine dn_run 7 (show tkDn tm_75 (121, [some (.inr (.inr (3, 0, 0))), some (.inr (.inr (1, b, 0))), some (.inl (B q)), some (.inl (nI (wnF (B q)))), some (.inl (nI (wnF (B q))))], [.inl 1], (tk_so (tk_so (tk_so I 3 0 X1) 1 b Y) 3 0 (tk_u2 X1 0 3 ((X1 0 3) + 1)), J, R)) _ from ?_)
            rw [t3, nI_1]
            refine dn_retb rfl rfl rfl rfl (by decide) ?_
            exact hQ _ 1 (fun ci d n1 n2 => by rw [tk_so_ne n1, tk_so_ne n2, tk_so_ne n1]) (by rw [tk_so_same]; exact t1.u (by decide) (by decide)) (by rw [tk_so_same, tk_u2_1, e1]) (by rw [tk_so_ne (by omega), tk_so_same, e1]; exact hY) (by rw [e1]; rfl)
          · show tkDn tm_75 (108, [some (.inr (.inr (3, 0, 0))), some (.inr (.inr (1, b, 0))), some (.inl (B q)), some (.inl (nI (wnF (B q)))), some (.inl (nI (wnF (B q))))], [], (tk_so (tk_so I 3 0 X1) 1 b Y, J, R)) _
            have e1 : itF B z S q = (false, r, (putF S (B q) (nmF B z (wnF (B q)) 0 (q + 1) (fun _ => 0)).2.2).2) := by rw [hr]; exact (if_neg hw).trans ((if_pos hX1).trans ((if_pos (by rw [← hr]; exact ⟨hlt, c3⟩)).trans (if_pos (Int32.not_le.mp c4))))
            refine dn_run 1 (show tkDn tm_75 (109, [some (.inr (.inr (3, 0, 0))), some (.inr (.inr (1, b, 0))), some (.inl (B q)), some (.inl (nI (wnF (B q)))), some (.inl (nI (wnF (B q))))], [.inl 0], (tk_so (tk_so I 3 0 X1) 1 b Y, J, R)) _ from ?_)
            refine dn_retb rfl rfl rfl rfl (by decide) ?_
            exact hQ _ 0 (fun ci d n1 n2 => by rw [tk_so_ne n2, tk_so_ne n1]) (by rw [tk_so_ne (by omega), tk_so_same]; exact t1) (by rw [tk_so_ne (by omega), tk_so_same, e1]; exact t3) (by rw [tk_so_same, e1]; exact hY) (by rw [e1]; rfl)
  · show tkDn tm_75 (19, [some (.inr (.inr (3, 0, 0))), some (.inr (.inr (1, b, 0))), some (.inl (B q)), some (.inl (nI (wnF (B q)))), none], [], (I, J, R)) _
    have hw : wnF (B q) = 0 := nI_zero (by omega) c1
    have e1 : itF B z S q = (false, q, S) := if_pos hw
    refine dn_run 1 (show tkDn tm_75 (20, [some (.inr (.inr (3, 0, 0))), some (.inr (.inr (1, b, 0))), some (.inl (B q)), some (.inl (nI (wnF (B q)))), none], [.inl 0], (I, J, R)) _ from ?_)
    refine dn_retb rfl rfl rfl rfl (by decide) ?_
    exact hQ I 0 (fun _ _ _ _ => rfl) hB (by rw [e1]; exact h3) (by rw [e1]; exact hP) (by rw [e1]; rfl)
set_option maxRecDepth 8000 in
theorem st_ri_loop {I : tkI} {J : tkJ} {R : Nat → Nat} {Q : tkQ} {z : Nat} {B : Nat → Int32} (hz : z ≤ 1000) {b : Nat} (hb : b < 2) {S0 : tkS} (hQ : ∀ (I' : tkI) (x : Int32), (∀ ci d, ¬ (ci = 3 ∧ d = 0) → ¬ (ci = 1 ∧ d = b) → I' ci d = I ci d) → TpC (I' 3 0) z B → I' 3 0 0 3 = nI (rdF B z 1001 S0 0).2.1 → NetP (I' 1 b) (rdF B z 1001 S0 0).2.2 → x = (if (rdF B z 1001 S0 0).1 = true then 1 else 0) → Q (some (.inl x)) (I', J, R)) : ∀ f i S q (I1 : tkI), i + f = 1001 → q ≤ z → z - q < f → WF S → NetP (I1 1 b) S → TpC (I1 3 0) z B → I1 3 0 0 3 = nI q → (∀ ci d, ¬ (ci = 3 ∧ d = 0) → ¬ (ci = 1 ∧ d = b) → I1 ci d = I ci d) → rdF B z f S q = rdF B z 1001 S0 0 → tkDn tm_74 (7, [some (.inr (.inr (3, 0, 0))), some (.inr (.inr (1, b, 0))), some (.inl (nI i))], [], (I1, J, R)) Q := by
  intro f
  induction f with
  | zero => intro i S q I1 hi hq hf; omega
  | succ f ih =>
    intro i S q I1 hi hq hf w hP hB h3 hI h
    have hs := sbF_le (B := B) (z - q) q
    show tkDn tm_74 (7, [some (.inr (.inr (3, 0, 0))), some (.inr (.inr (1, b, 0))), some (.inl (nI i))], [], (I1, J, R)) _
    refine dn_run 2 (show tkDn tm_74 (11, [some (.inr (.inr (3, 0, 0))), some (.inr (.inr (1, b, 0))), some (.inl (nI i))], [.inl 1000, .inl (nI i)], (I1, J, R)) _ from ?_)
    refine dn_if rfl rfl rfl (fun (c0 : 1000 < (nI i)) => ?_) (fun (c0 : ¬ 1000 < (nI i)) => ?_)
    · exact absurd c0 (fun q => absurd ((nI_ltI (a := 1000) (by omega) (by omega)).mp q) (by omega))
    · show tkDn tm_74 (14, [some (.inr (.inr (3, 0, 0))), some (.inr (.inr (1, b, 0))), some (.inl (nI i))], [], (I1, J, R)) _
      refine dn_run 1 (show tkDn tm_74 (15, [some (.inr (.inr (3, 0, 0))), some (.inr (.inr (1, b, 0))), some (.inl (nI i))], [.inr (.inr (3, 0, 0))], (I1, J, R)) _ from ?_)
      refine dn_call rfl rfl rfl rfl rfl (st_skipBlanks hz (B := B) (p := q) hB hq h3 ?_)
      obtain ⟨r, hr⟩ : ∃ r, r = sbF B (z - q) q := ⟨_, rfl⟩
      rw [← hr] at hs ⊢
      obtain ⟨I2, hI2⟩ : ∃ I2, I2 = tk_so I1 3 0 (tk_u2 (I1 3 0) 0 3 (nI r)) := ⟨_, rfl⟩
      rw [← hI2]
      have t1 : TpC (I2 3 0) z B := by rw [hI2, tk_so_same]; exact hB.u (by decide) (by decide)
      have t3 : I2 3 0 0 3 = nI r := by rw [hI2, tk_so_same, tk_u2_1]
      have tP : NetP (I2 1 b) S := by rw [hI2, tk_so_ne (by omega)]; exact hP
      have tI : ∀ ci d, ¬ (ci = 3 ∧ d = 0) → ¬ (ci = 1 ∧ d = b) → I2 ci d = I ci d := fun ci d n1 n2 => by rw [hI2, tk_so_ne n1]; exact hI ci d n1 n2
      show tkDn tm_74 (18, [some (.inr (.inr (3, 0, 0))), some (.inr (.inr (1, b, 0))), some (.inl (nI i))], [], (I2, J, R)) _
      refine dn_run 4 (show tkDn tm_74 (26, [some (.inr (.inr (3, 0, 0))), some (.inr (.inr (1, b, 0))), some (.inl (nI i))], [.inl (I2 3 0 0 2), .inl (I2 3 0 0 3)], (I2, J, R)) _ from ?_)
      rw [t3, t1.1]
      show tkDn tm_74 (26, [some (.inr (.inr (3, 0, 0))), some (.inr (.inr (1, b, 0))), some (.inl (nI i))], [.inl (nI z), .inl (nI r)], (I2, J, R)) _
      refine dn_if rfl rfl rfl (fun (c1 : (nI r) < (nI z)) => ?_) (fun (c1 : ¬ (nI r) < (nI z)) => ?_)
      · show tkDn tm_74 (31, [some (.inr (.inr (3, 0, 0))), some (.inr (.inr (1, b, 0))), some (.inl (nI i))], [], (I2, J, R)) _
        have hlt : r < z := (nI_ltI (by omega) (by omega)).mp c1
        have hl := itF_lt (B := B) (z := z) (q := r) (S := S) hlt
        refine dn_run 2 (show tkDn tm_74 (33, [some (.inr (.inr (3, 0, 0))), some (.inr (.inr (1, b, 0))), some (.inl (nI i))], [.inr (.inr (1, b, 0)), .inr (.inr (3, 0, 0))], (I2, J, R)) _ from ?_)
        refine dn_call rfl rfl rfl rfl rfl (st_readItem hz t1 hb tP w hlt t3 (fun I3 x k1 k2 k3 k4 k5 => ?_))
        show tkDn tm_74 (36, [some (.inr (.inr (3, 0, 0))), some (.inr (.inr (1, b, 0))), some (.inl (nI i))], [.inl x], (I3, J, R)) _
        have hne : ¬ sbF B (z - q) q = z := by rw [← hr]; omega
        refine dn_if rfl rfl rfl (fun (c2 : ¬ x = 0) => ?_) (fun (c2 : x = 0) => ?_)
        · show tkDn tm_74 (41, [some (.inr (.inr (3, 0, 0))), some (.inr (.inr (1, b, 0))), some (.inl (nI i))], [], (I3, J, R)) _
          have k6 : (itF B z S r).1 = true := Classical.byContradiction fun q => c2 (by rw [k5, if_neg q])
          refine dn_run 2 (show tkDn tm_74 (7, [some (.inr (.inr (3, 0, 0))), some (.inr (.inr (1, b, 0))), some (.inl ((nI i) + 1))], [], (I3, J, R)) _ from ?_)
          rw [nI_1]
          have hl2 := hl.2.2 k6
          exact ih (i + 1) (itF B z S r).2.2 (itF B z S r).2.1 I3 (by omega) hl.2.1 (by omega) (itF_wf w) k4 k2 k3 (fun ci d n1 n2 => (k1 ci d n1 n2).trans (tI ci d n1 n2)) ((show rdF B z (f + 1) S q = rdF B z f (itF B z S r).2.2 (itF B z S r).2.1 from (if_neg hne).trans (by rw [← hr]; exact if_pos k6)).symm.trans h)
        · show tkDn tm_74 (39, [some (.inr (.inr (3, 0, 0))), some (.inr (.inr (1, b, 0))), some (.inl (nI i))], [], (I3, J, R)) _
          have k6 : ¬ (itF B z S r).1 = true := fun q => absurd (c2.symm.trans (k5.trans (if_pos q))) (by decide)
          have e1 := (show rdF B z (f + 1) S q = (false, (itF B z S r).2.1, (itF B z S r).2.2) from (if_neg hne).trans (by rw [← hr]; exact if_neg k6)).symm.trans h
          refine dn_run 1 (show tkDn tm_74 (40, [some (.inr (.inr (3, 0, 0))), some (.inr (.inr (1, b, 0))), some (.inl (nI i))], [.inl 0], (I3, J, R)) _ from ?_)
          refine dn_retb rfl rfl rfl rfl (by decide) ?_
          exact hQ I3 0 (fun ci d n1 n2 => (k1 ci d n1 n2).trans (tI ci d n1 n2)) k2 (by rw [← e1]; exact k3) (by rw [← e1]; exact k4) (by rw [← e1]; rfl)
      · show tkDn tm_74 (29, [some (.inr (.inr (3, 0, 0))), some (.inr (.inr (1, b, 0))), some (.inl (nI i))], [], (I2, J, R)) _
        have hrz : r = z := by have := Nat.not_lt.mp (fun q => c1 ((nI_ltI (by omega) (by omega)).mpr q)); omega
        have e1 := (show rdF B z (f + 1) S q = (true, z, S) from if_pos (by rw [← hr]; exact hrz)).symm.trans h
        refine dn_run 1 (show tkDn tm_74 (30, [some (.inr (.inr (3, 0, 0))), some (.inr (.inr (1, b, 0))), some (.inl (nI i))], [.inl 1], (I2, J, R)) _ from ?_)
        refine dn_retb rfl rfl rfl rfl (by decide) ?_
        exact hQ I2 1 tI t1 (by rw [← e1, ← hrz]; exact t3) (by rw [← e1]; exact tP) (by rw [← e1]; rfl)
set_option maxRecDepth 8000 in
theorem st_readInto {I : tkI} {J : tkJ} {R : Nat → Nat} {Q : tkQ} {z : Nat} {B : Nat → Int32} (hz : z ≤ 1000) (hB : TpC (I 3 0) z B) {b : Nat} (hb : b < 2) {S0 : tkS} (hP : NetP (I 1 b) S0) (w : WF S0) (hQ : ∀ (I' : tkI) (x : Int32), (∀ ci d, ¬ (ci = 3 ∧ d = 0) → ¬ (ci = 1 ∧ d = b) → I' ci d = I ci d) → TpC (I' 3 0) z B → I' 3 0 0 3 = nI (rdF B z 1001 S0 0).2.1 → NetP (I' 1 b) (rdF B z 1001 S0 0).2.2 → x = (if (rdF B z 1001 S0 0).1 = true then 1 else 0) → Q (some (.inl x)) (I', J, R)) : tkDn tm_74 (0, [some (.inr (.inr (3, 0, 0))), some (.inr (.inr (1, b, 0))), none], [], (I, J, R)) Q := by
  refine dn_run 5 (show tkDn tm_74 (7, [some (.inr (.inr (3, 0, 0))), some (.inr (.inr (1, b, 0))), some (.inl 0)], [], (tk_so I 3 0 (tk_u2 (I 3 0) 0 3 0), J, R)) _ from ?_)
  refine st_ri_loop (I := I) hz hb hQ 1001 0 S0 0 _ rfl (Nat.zero_le _) (by omega) w (by rw [tk_so_ne (by omega)]; exact hP) (by rw [tk_so_same]; exact hB.u (by decide) (by decide)) (by rw [tk_so_same, tk_u2_1]; rfl) (fun ci d n1 n2 => tk_so_ne n1) rfl
set_option maxRecDepth 8000 in
theorem shf_pos : ∀ r, r < 4 → ¬ shf r < 0 := by decide
set_option maxRecDepth 8000 in
theorem shf_s : ∀ r, r < 4 → shf r + (-8) = shf (r + 1) := by decide
set_option maxRecDepth 8000 in
theorem st_an_loop {I : tkI} {J : tkJ} {R : Nat → Nat} {Q : tkQ} {z : Nat} (hz : z + 4 ≤ 1000) {n : Int32} {X0 : Nat → Nat → Int32} (hQ : ∀ X, X 0 2 = nI (z + 4) → (∀ j, X 1 j = if z ≤ j ∧ j < z + 4 then byF n (j - z) else X0 1 j) → (∀ s j, s ≠ 1 → ¬ (s = 0 ∧ j = 2) → X s j = X0 s j) → Q none (tk_so I 3 0 X, J, R)) : ∀ m r X, r + m = 4 → X 0 2 = nI (z + r) → (∀ j, X 1 j = if z ≤ j ∧ j < z + r then byF n (j - z) else X0 1 j) → (∀ s j, s ≠ 1 → ¬ (s = 0 ∧ j = 2) → X s j = X0 s j) → tkDn tm_72 (3, [some (.inr (.inr (3, 0, 0))), some (.inl n), some (.inl (shf r))], [], (tk_so I 3 0 X, J, R)) Q := by
  intro m
  induction m with
  | zero =>
    intro r X hr h2 h1 h0
    have hr : r = 4 := by omega
    subst hr
    show tkDn tm_72 (3, [some (.inr (.inr (3, 0, 0))), some (.inl n), some (.inl (shf 4))], [], (tk_so I 3 0 X, J, R)) _
    refine dn_run 1 (show tkDn tm_72 (4, [some (.inr (.inr (3, 0, 0))), some (.inl n), some (.inl (shf 4))], [.inl (shf 4)], (tk_so I 3 0 X, J, R)) _ from ?_)
    refine dn_if rfl rfl rfl (fun (c0 : (shf 4) < 0) => ?_) (fun (c0 : ¬ (shf 4) < 0) => ?_)
    · show tkDn tm_72 (46, [some (.inr (.inr (3, 0, 0))), some (.inl n), some (.inl (shf 4))], [], (tk_so I 3 0 X, J, R)) _
      refine dn_ret0 rfl rfl rfl rfl ?_
      exact hQ X h2 h1 h0
    · exact absurd (by decide) c0
  | succ m ih =>
    intro r X hr h2 h1 h0
    show tkDn tm_72 (3, [some (.inr (.inr (3, 0, 0))), some (.inl n), some (.inl (shf r))], [], (tk_so I 3 0 X, J, R)) _
    refine dn_run 1 (show tkDn tm_72 (4, [some (.inr (.inr (3, 0, 0))), some (.inl n), some (.inl (shf r))], [.inl (shf r)], (tk_so I 3 0 X, J, R)) _ from ?_)
    refine dn_if rfl rfl rfl (fun (c0 : (shf r) < 0) => ?_) (fun (c0 : ¬ (shf r) < 0) => ?_)
    · exact absurd c0 (shf_pos r (by omega))
    · show tkDn tm_72 (7, [some (.inr (.inr (3, 0, 0))), some (.inl n), some (.inl (shf r))], [], (tk_so I 3 0 X, J, R)) _
      refine dn_run 3 (show tkDn tm_72 (14, [some (.inr (.inr (3, 0, 0))), some (.inl n), some (.inl (shf r))], [.inl 1000, .inl (X 0 2)], (tk_so I 3 0 X, J, R)) _ from ?_)
      rw [h2]
      show tkDn tm_72 (14, [some (.inr (.inr (3, 0, 0))), some (.inl n), some (.inl (shf r))], [.inl 1000, .inl (nI (z + r))], (tk_so I 3 0 X, J, R)) _
      refine dn_if rfl rfl rfl (fun (c1 : 1000 ≤ (nI (z + r))) => ?_) (fun (c1 : ¬ 1000 ≤ (nI (z + r))) => ?_)
      · exact absurd c1 (nI_ge (b := 1000) (by omega) (by omega))
      · show tkDn tm_72 (17, [some (.inr (.inr (3, 0, 0))), some (.inl n), some (.inl (shf r))], [], (tk_so I 3 0 X, J, R)) _
        refine dn_run 17 (show (vp_in (X 0 2) 1000) ∧ tkDn tm_72 (3, [some (.inr (.inr (3, 0, 0))), some (.inl n), some (.inl ((shf r) + (-8)))], [], (tk_so (tk_so (tk_so I 3 0 X) 3 0 (tk_u2 X 1 ((X 0 2).toNatClampNeg) (vp_nar .byte (((n >>> ((shf r) &&& 31)) : Int32).toInt8.toInt32)))) 3 0 (tk_u2 (tk_u2 X 1 ((X 0 2).toNatClampNeg) (vp_nar .byte (((n >>> ((shf r) &&& 31)) : Int32).toInt8.toInt32))) 0 2 ((X 0 2) + 1)), J, R)) _ from ⟨by rw [h2]; exact vp_in_nI (by omega) (by omega), ?_⟩)
        rw [tk_so_so, tk_so_so]
        rw [h2, nI_1, nI_clamp (show z + r < 2 ^ 31 by omega), shf_s r (by omega)]
        refine ih (r + 1) _ (by omega) (by rw [tk_u2_1]; rfl) (fun j => ?_) (fun s j hs hj => by rw [tk_u2_0 hj, tk_u2_ne hs]; exact h0 s j hs hj)
        rw [tk_u2_ne (by decide), tk_u2_at]
        by_cases q : j = z + r
        · rw [q, tk_u1_same, if_pos ⟨by omega, by omega⟩, show z + r - z = r by omega]; rfl
        · rw [tk_u1_ne q, h1 j]
          by_cases q2 : z ≤ j ∧ j < z + r
          · rw [if_pos q2, if_pos ⟨q2.1, by omega⟩]
          · rw [if_neg q2, if_neg (by omega)]
set_option maxRecDepth 8000 in
theorem st_addNumber {I : tkI} {J : tkJ} {R : Nat → Nat} {Q : tkQ} {z : Nat} (hz : z + 4 ≤ 1000) {n : Int32} (h2 : I 3 0 0 2 = nI z) (hQ : ∀ X, X 0 2 = nI (z + 4) → (∀ j, X 1 j = if z ≤ j ∧ j < z + 4 then byF n (j - z) else I 3 0 1 j) → (∀ s j, s ≠ 1 → ¬ (s = 0 ∧ j = 2) → X s j = I 3 0 s j) → Q none (tk_so I 3 0 X, J, R)) : tkDn tm_72 (0, [some (.inr (.inr (3, 0, 0))), some (.inl n), none], [], (I, J, R)) Q := by
  refine dn_run 2 (show tkDn tm_72 (3, [some (.inr (.inr (3, 0, 0))), some (.inl n), some (.inl 24)], [], (I, J, R)) _ from ?_)
  have := st_an_loop (I := I) (J := J) (R := R) (Q := Q) hz (n := n) (X0 := I 3 0) hQ 4 0 (I 3 0) rfl h2 (fun j => by rw [if_neg (by omega)]) (fun _ _ _ _ => rfl)
  rw [tk_so_id] at this
  exact this
