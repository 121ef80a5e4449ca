/-! the class: its calls -/
set_option maxRecDepth 8000 in
theorem sp_afterChange {I : tkI} {J : tkJ} {R : Nat → Nat} {Q : tkQ} {r : Int32} (hQ0 : r < 0 → Q (some (.inl r)) (I, J, R)) (hQ1 : ¬ r < 0 → Q (some (.inl r)) (tk_so (tk_so (tk_so I 0 0 (tk_u2 (I 0 0) 0 1 0)) 4 0 (tk_u2 (I 4 0) 0 6 0)) 2 0 (tk_u2 (I 2 0) 0 1 0), J, R)) : tkDn tm_125 (0, [some (.inr (.inr (5, 0, 0))), some (.inl r)], [], (I, J, R)) Q := by
  refine dn_run 1 (show tkDn tm_125 (1, [some (.inr (.inr (5, 0, 0))), some (.inl r)], [.inl r], (I, J, R)) _ from ?_)
  refine dn_if rfl rfl rfl (fun (c : r < 0) => ?_) (fun (c : ¬ r < 0) => ?_)
  · show tkDn tm_125 (25, [some (.inr (.inr (5, 0, 0))), some (.inl r)], [], (I, J, R)) _
    refine dn_run 1 (show tkDn tm_125 (26, [some (.inr (.inr (5, 0, 0))), some (.inl r)], [.inl r], (I, J, R)) _ from ?_)
    refine dn_ret0 rfl rfl rfl rfl ?_
    exact hQ0 c
  · show tkDn tm_125 (4, [some (.inr (.inr (5, 0, 0))), some (.inl r)], [], (I, J, R)) _
    refine dn_run 2 (show tkDn tm_125 (8, [some (.inr (.inr (5, 0, 0))), some (.inl r)], [.inr (.inr (0, 0, 0))], (I, J, R)) _ from ?_)
    refine dn_call rfl rfl rfl rfl rfl ?_
    show tkDn tm_0 (0, [some (.inr (.inr (0, 0, 0)))], [], (I, J, R)) _
    refine dn_run 3 (show (0 = 0 ∨ 0 = 1) ∧ tkDn tm_0 (5, [some (.inr (.inr (0, 0, 0)))], [], (tk_so I 0 0 (tk_u2 (I 0 0) 0 1 0), J, R)) _ from ⟨Or.inl rfl, ?_⟩)
    refine dn_ret0 rfl rfl rfl rfl ?_
    show tkDn tm_125 (11, [some (.inr (.inr (5, 0, 0))), some (.inl r)], [], (tk_so I 0 0 (tk_u2 (I 0 0) 0 1 0), J, R)) _
    refine dn_run 2 (show tkDn tm_125 (15, [some (.inr (.inr (5, 0, 0))), some (.inl r)], [.inr (.inr (4, 0, 0))], (tk_so I 0 0 (tk_u2 (I 0 0) 0 1 0), J, R)) _ from ?_)
    refine dn_call rfl rfl rfl rfl rfl ?_
    show tkDn tm_80 (0, [some (.inr (.inr (4, 0, 0)))], [], (tk_so I 0 0 (tk_u2 (I 0 0) 0 1 0), J, R)) _
    refine dn_run 3 (show (0 = 0 ∨ 0 = 1) ∧ tkDn tm_80 (5, [some (.inr (.inr (4, 0, 0)))], [], (tk_so (tk_so I 0 0 (tk_u2 (I 0 0) 0 1 0)) 4 0 (tk_u2 (I 4 0) 0 6 0), J, R)) _ from ⟨Or.inl rfl, ?_⟩)
    refine dn_ret0 rfl rfl rfl rfl ?_
    show tkDn tm_125 (18, [some (.inr (.inr (5, 0, 0))), some (.inl r)], [], (tk_so (tk_so I 0 0 (tk_u2 (I 0 0) 0 1 0)) 4 0 (tk_u2 (I 4 0) 0 6 0), J, R)) _
    refine dn_run 2 (show tkDn tm_125 (22, [some (.inr (.inr (5, 0, 0))), some (.inl r)], [.inr (.inr (2, 0, 0))], (tk_so (tk_so I 0 0 (tk_u2 (I 0 0) 0 1 0)) 4 0 (tk_u2 (I 4 0) 0 6 0), J, R)) _ from ?_)
    refine dn_call rfl rfl rfl rfl rfl ?_
    show tkDn tm_41 (0, [some (.inr (.inr (2, 0, 0)))], [], (tk_so (tk_so I 0 0 (tk_u2 (I 0 0) 0 1 0)) 4 0 (tk_u2 (I 4 0) 0 6 0), J, R)) _
    refine dn_run 3 (show (0 = 0 ∨ 0 = 1) ∧ tkDn tm_41 (5, [some (.inr (.inr (2, 0, 0)))], [], (tk_so (tk_so (tk_so I 0 0 (tk_u2 (I 0 0) 0 1 0)) 4 0 (tk_u2 (I 4 0) 0 6 0)) 2 0 (tk_u2 (I 2 0) 0 1 0), J, R)) _ from ⟨Or.inl rfl, ?_⟩)
    refine dn_ret0 rfl rfl rfl rfl ?_
    show tkDn tm_125 (25, [some (.inr (.inr (5, 0, 0))), some (.inl r)], [], (tk_so (tk_so (tk_so I 0 0 (tk_u2 (I 0 0) 0 1 0)) 4 0 (tk_u2 (I 4 0) 0 6 0)) 2 0 (tk_u2 (I 2 0) 0 1 0), J, R)) _
    refine dn_run 1 (show tkDn tm_125 (26, [some (.inr (.inr (5, 0, 0))), some (.inl r)], [.inl r], (tk_so (tk_so (tk_so I 0 0 (tk_u2 (I 0 0) 0 1 0)) 4 0 (tk_u2 (I 4 0) 0 6 0)) 2 0 (tk_u2 (I 2 0) 0 1 0), J, R)) _ from ?_)
    refine dn_ret0 rfl rfl rfl rfl ?_
    exact hQ1 c
set_option maxRecDepth 8000 in
theorem sx_moments {I : tkI} {J : tkJ} {R : Nat → Nat} {Q : tkQ} {S : tkS} {z : Nat} {B : Nat → Int32} {on : Int32} {T : Nat → Int32} {t : Int32} (w : WF S) (C : CInv S z B on T t I J R) {n : Int32} (hQ : ∀ I' J' R', CInv (opMom S n).2 z B (if (opMom S n).1 < 0 then on else 0) T t I' J' R' → I' 6 0 = I 6 0 → J' 6 0 = J 6 0 → Q (some (.inl (opMom S n).1)) (I', J', R')) : tkDn tm_98 (0, [some (.inr (.inr (5, 0, 0))), some (.inl n)], [], (I, J, R)) Q := by
  have hn := @opMom_n S w n
  obtain ⟨⟨b0, b1, b01⟩, cP, cT, cC, cW, cO, cR⟩ := C
  refine dn_run 4 (show tkDn tm_98 (6, [some (.inr (.inr (5, 0, 0))), some (.inl n)], [.inl n, .inr (.inr (1, R 0, 0)), .inr (.inr (5, 0, 0))], (I, J, R)) _ from ?_)
  refine dn_call rfl rfl rfl rfl rfl (sn_addMoments b0 cP w (fun X hX => ?_))
  show tkDn tm_98 (9, [some (.inr (.inr (5, 0, 0))), some (.inl n)], [.inl ((opMom S n).1), .inr (.inr (5, 0, 0))], (tk_so I 1 (R 0) X, J, R)) _
  refine dn_call rfl rfl rfl rfl rfl (sp_afterChange (fun c => ?_) (fun c => ?_))
  · show tkDn tm_98 (12, [some (.inr (.inr (5, 0, 0))), some (.inl n)], [.inl ((opMom S n).1)], (tk_so I 1 (R 0) X, J, R)) _
    refine dn_ret0 rfl rfl rfl rfl ?_
    rw [if_pos c] at hQ
    rw [hn c] at hQ hX
    exact hQ _ _ _ ⟨⟨b0, b1, b01⟩, by rw [tk_so_same]; exact hX, by rw [tk_so_ne (by omega)]; exact cT, by rw [tk_so_ne (by omega)]; exact cC, by rw [tk_so_ne (by omega)]; exact cW, by rw [tk_so_ne (by omega)]; exact cO, by rw [tk_so_ne (by omega), tk_so_ne (by omega)]; exact cR⟩ (tk_so_ne (by omega)) rfl
  · show tkDn tm_98 (12, [some (.inr (.inr (5, 0, 0))), some (.inl n)], [.inl ((opMom S n).1)], (tk_so (tk_so (tk_so (tk_so I 1 (R 0) X) 0 0 (tk_u2 (tk_so I 1 (R 0) X 0 0) 0 1 0)) 4 0 (tk_u2 (tk_so I 1 (R 0) X 4 0) 0 6 0)) 2 0 (tk_u2 (tk_so I 1 (R 0) X 2 0) 0 1 0), J, R)) _
    refine dn_ret0 rfl rfl rfl rfl ?_
    rw [if_neg c] at hQ
    exact hQ _ _ _ ⟨⟨b0, b1, b01⟩, by rw [tk_so_ne (by omega), tk_so_ne (by omega), tk_so_ne (by omega), tk_so_same]; exact hX, by rw [tk_so_ne (by omega), tk_so_ne (by omega), tk_so_ne (by omega), tk_so_ne (by omega)]; exact cT, fun q => absurd (by rw [tk_so_ne (by omega), tk_so_ne (by omega), tk_so_same, tk_u2_1]) q, fun q => absurd (by rw [tk_so_ne (by omega), tk_so_same, tk_u2_1]) q, by rw [tk_so_same, tk_u2_1], fun q => absurd q (by decide)⟩ (by rw [tk_so_ne (by omega), tk_so_ne (by omega), tk_so_ne (by omega), tk_so_ne (by omega)]) rfl
set_option maxRecDepth 8000 in
theorem sx_wish {I : tkI} {J : tkJ} {R : Nat → Nat} {Q : tkQ} {S : tkS} {z : Nat} {B : Nat → Int32} {on : Int32} {T : Nat → Int32} {t : Int32} (w : WF S) (C : CInv S z B on T t I J R) {u v l h : Int32} (hQ : ∀ I' J' R', CInv (opWish S u v l h).2 z B (if (opWish S u v l h).1 < 0 then on else 0) T t I' J' R' → I' 6 0 = I 6 0 → J' 6 0 = J 6 0 → Q (some (.inl (opWish S u v l h).1)) (I', J', R')) : tkDn tm_99 (0, [some (.inr (.inr (5, 0, 0))), some (.inl u), some (.inl v), some (.inl l), some (.inl h)], [], (I, J, R)) Q := by
  have hn := @opWish_n S w u v l h
  obtain ⟨⟨b0, b1, b01⟩, cP, cT, cC, cW, cO, cR⟩ := C
  refine dn_run 7 (show tkDn tm_99 (10, [some (.inr (.inr (5, 0, 0))), some (.inl u), some (.inl v), some (.inl l), some (.inl h)], [.inl h, .inl l, .inl v, .inl u, .inr (.inr (1, R 0, 0)), .inr (.inr (5, 0, 0))], (I, J, R)) _ from ?_)
  refine dn_call rfl rfl rfl rfl rfl (sn_addWish cP w b0 (fun X hX => ?_))
  show tkDn tm_99 (13, [some (.inr (.inr (5, 0, 0))), some (.inl u), some (.inl v), some (.inl l), some (.inl h)], [.inl ((opWish S u v l h).1), .inr (.inr (5, 0, 0))], (tk_so I 1 (R 0) X, J, R)) _
  refine dn_call rfl rfl rfl rfl rfl (sp_afterChange (fun c => ?_) (fun c => ?_))
  · show tkDn tm_99 (16, [some (.inr (.inr (5, 0, 0))), some (.inl u), some (.inl v), some (.inl l), some (.inl h)], [.inl ((opWish S u v l h).1)], (tk_so I 1 (R 0) X, J, R)) _
    refine dn_ret0 rfl rfl rfl rfl ?_
    rw [if_pos c] at hQ
    rw [hn c] at hQ hX
    exact hQ _ _ _ ⟨⟨b0, b1, b01⟩, by rw [tk_so_same]; exact hX, by rw [tk_so_ne (by omega)]; exact cT, by rw [tk_so_ne (by omega)]; exact cC, by rw [tk_so_ne (by omega)]; exact cW, by rw [tk_so_ne (by omega)]; exact cO, by rw [tk_so_ne (by omega), tk_so_ne (by omega)]; exact cR⟩ (tk_so_ne (by omega)) rfl
  · show tkDn tm_99 (16, [some (.inr (.inr (5, 0, 0))), some (.inl u), some (.inl v), some (.inl l), some (.inl h)], [.inl ((opWish S u v l h).1)], (tk_so (tk_so (tk_so (tk_so I 1 (R 0) X) 0 0 (tk_u2 (tk_so I 1 (R 0) X 0 0) 0 1 0)) 4 0 (tk_u2 (tk_so I 1 (R 0) X 4 0) 0 6 0)) 2 0 (tk_u2 (tk_so I 1 (R 0) X 2 0) 0 1 0), J, R)) _
    refine dn_ret0 rfl rfl rfl rfl ?_
    rw [if_neg c] at hQ
    exact hQ _ _ _ ⟨⟨b0, b1, b01⟩, by rw [tk_so_ne (by omega), tk_so_ne (by omega), tk_so_ne (by omega), tk_so_same]; exact hX, by rw [tk_so_ne (by omega), tk_so_ne (by omega), tk_so_ne (by omega), tk_so_ne (by omega)]; exact cT, fun q => absurd (by rw [tk_so_ne (by omega), tk_so_ne (by omega), tk_so_same, tk_u2_1]) q, fun q => absurd (by rw [tk_so_ne (by omega), tk_so_same, tk_u2_1]) q, by rw [tk_so_same, tk_u2_1], fun q => absurd q (by decide)⟩ (by rw [tk_so_ne (by omega), tk_so_ne (by omega), tk_so_ne (by omega), tk_so_ne (by omega)]) rfl
set_option maxRecDepth 8000 in
theorem sx_gift {I : tkI} {J : tkJ} {R : Nat → Nat} {Q : tkQ} {S : tkS} {z : Nat} {B : Nat → Int32} {on : Int32} {T : Nat → Int32} {t : Int32} (w : WF S) (C : CInv S z B on T t I J R) {u v l h : Int32} (hQ : ∀ I' J' R', CInv (opGift S u v l h).2 z B (if (opGift S u v l h).1 < 0 then on else 0) T t I' J' R' → I' 6 0 = I 6 0 → J' 6 0 = J 6 0 → Q (some (.inl (opGift S u v l h).1)) (I', J', R')) : tkDn tm_100 (0, [some (.inr (.inr (5, 0, 0))), some (.inl u), some (.inl v), some (.inl l), some (.inl h)], [], (I, J, R)) Q := by
  have hn := @opGift_n S w u v l h
  obtain ⟨⟨b0, b1, b01⟩, cP, cT, cC, cW, cO, cR⟩ := C
  refine dn_run 7 (show tkDn tm_100 (10, [some (.inr (.inr (5, 0, 0))), some (.inl u), some (.inl v), some (.inl l), some (.inl h)], [.inl h, .inl l, .inl v, .inl u, .inr (.inr (1, R 0, 0)), .inr (.inr (5, 0, 0))], (I, J, R)) _ from ?_)
  refine dn_call rfl rfl rfl rfl rfl (sn_addGift b0 cP w (fun X hX => ?_))
  show tkDn tm_100 (13, [some (.inr (.inr (5, 0, 0))), some (.inl u), some (.inl v), some (.inl l), some (.inl h)], [.inl ((opGift S u v l h).1), .inr (.inr (5, 0, 0))], (tk_so I 1 (R 0) X, J, R)) _
  refine dn_call rfl rfl rfl rfl rfl (sp_afterChange (fun c => ?_) (fun c => ?_))
  · show tkDn tm_100 (16, [some (.inr (.inr (5, 0, 0))), some (.inl u), some (.inl v), some (.inl l), some (.inl h)], [.inl ((opGift S u v l h).1)], (tk_so I 1 (R 0) X, J, R)) _
    refine dn_ret0 rfl rfl rfl rfl ?_
    rw [if_pos c] at hQ
    rw [hn c] at hQ hX
    exact hQ _ _ _ ⟨⟨b0, b1, b01⟩, by rw [tk_so_same]; exact hX, by rw [tk_so_ne (by omega)]; exact cT, by rw [tk_so_ne (by omega)]; exact cC, by rw [tk_so_ne (by omega)]; exact cW, by rw [tk_so_ne (by omega)]; exact cO, by rw [tk_so_ne (by omega), tk_so_ne (by omega)]; exact cR⟩ (tk_so_ne (by omega)) rfl
  · show tkDn tm_100 (16, [some (.inr (.inr (5, 0, 0))), some (.inl u), some (.inl v), some (.inl l), some (.inl h)], [.inl ((opGift S u v l h).1)], (tk_so (tk_so (tk_so (tk_so I 1 (R 0) X) 0 0 (tk_u2 (tk_so I 1 (R 0) X 0 0) 0 1 0)) 4 0 (tk_u2 (tk_so I 1 (R 0) X 4 0) 0 6 0)) 2 0 (tk_u2 (tk_so I 1 (R 0) X 2 0) 0 1 0), J, R)) _
    refine dn_ret0 rfl rfl rfl rfl ?_
    rw [if_neg c] at hQ
    exact hQ _ _ _ ⟨⟨b0, b1, b01⟩, by rw [tk_so_ne (by omega), tk_so_ne (by omega), tk_so_ne (by omega), tk_so_same]; exact hX, by rw [tk_so_ne (by omega), tk_so_ne (by omega), tk_so_ne (by omega), tk_so_ne (by omega)]; exact cT, fun q => absurd (by rw [tk_so_ne (by omega), tk_so_ne (by omega), tk_so_same, tk_u2_1]) q, fun q => absurd (by rw [tk_so_ne (by omega), tk_so_same, tk_u2_1]) q, by rw [tk_so_same, tk_u2_1], fun q => absurd q (by decide)⟩ (by rw [tk_so_ne (by omega), tk_so_ne (by omega), tk_so_ne (by omega), tk_so_ne (by omega)]) rfl
set_option maxRecDepth 8000 in
theorem sx_undo {I : tkI} {J : tkJ} {R : Nat → Nat} {Q : tkQ} {S : tkS} {z : Nat} {B : Nat → Int32} {on : Int32} {T : Nat → Int32} {t : Int32} (w : WF S) (C : CInv S z B on T t I J R) (hQ : ∀ I' J' R', CInv (opUndo S).2 z B (if (opUndo S).1 < 0 then on else 0) T t I' J' R' → I' 6 0 = I 6 0 → J' 6 0 = J 6 0 → Q (some (.inl (opUndo S).1)) (I', J', R')) : tkDn tm_101 (0, [some (.inr (.inr (5, 0, 0)))], [], (I, J, R)) Q := by
  have hn := @opUndo_n S w
  obtain ⟨⟨b0, b1, b01⟩, cP, cT, cC, cW, cO, cR⟩ := C
  refine dn_run 3 (show tkDn tm_101 (5, [some (.inr (.inr (5, 0, 0)))], [.inr (.inr (1, R 0, 0)), .inr (.inr (5, 0, 0))], (I, J, R)) _ from ?_)
  refine dn_call rfl rfl rfl rfl rfl (sn_dropLastLink b0 cP w (fun X hX => ?_))
  show tkDn tm_101 (8, [some (.inr (.inr (5, 0, 0)))], [.inl ((opUndo S).1), .inr (.inr (5, 0, 0))], (tk_so I 1 (R 0) X, J, R)) _
  refine dn_call rfl rfl rfl rfl rfl (sp_afterChange (fun c => ?_) (fun c => ?_))
  · show tkDn tm_101 (11, [some (.inr (.inr (5, 0, 0)))], [.inl ((opUndo S).1)], (tk_so I 1 (R 0) X, J, R)) _
    refine dn_ret0 rfl rfl rfl rfl ?_
    rw [if_pos c] at hQ
    rw [hn c] at hQ hX
    exact hQ _ _ _ ⟨⟨b0, b1, b01⟩, by rw [tk_so_same]; exact hX, by rw [tk_so_ne (by omega)]; exact cT, by rw [tk_so_ne (by omega)]; exact cC, by rw [tk_so_ne (by omega)]; exact cW, by rw [tk_so_ne (by omega)]; exact cO, by rw [tk_so_ne (by omega), tk_so_ne (by omega)]; exact cR⟩ (tk_so_ne (by omega)) rfl
  · show tkDn tm_101 (11, [some (.inr (.inr (5, 0, 0)))], [.inl ((opUndo S).1)], (tk_so (tk_so (tk_so (tk_so I 1 (R 0) X) 0 0 (tk_u2 (tk_so I 1 (R 0) X 0 0) 0 1 0)) 4 0 (tk_u2 (tk_so I 1 (R 0) X 4 0) 0 6 0)) 2 0 (tk_u2 (tk_so I 1 (R 0) X 2 0) 0 1 0), J, R)) _
    refine dn_ret0 rfl rfl rfl rfl ?_
    rw [if_neg c] at hQ
    exact hQ _ _ _ ⟨⟨b0, b1, b01⟩, by rw [tk_so_ne (by omega), tk_so_ne (by omega), tk_so_ne (by omega), tk_so_same]; exact hX, by rw [tk_so_ne (by omega), tk_so_ne (by omega), tk_so_ne (by omega), tk_so_ne (by omega)]; exact cT, fun q => absurd (by rw [tk_so_ne (by omega), tk_so_ne (by omega), tk_so_same, tk_u2_1]) q, fun q => absurd (by rw [tk_so_ne (by omega), tk_so_same, tk_u2_1]) q, by rw [tk_so_same, tk_u2_1], fun q => absurd q (by decide)⟩ (by rw [tk_so_ne (by omega), tk_so_ne (by omega), tk_so_ne (by omega), tk_so_ne (by omega)]) rfl
set_option maxRecDepth 8000 in
theorem sx_tighten {I : tkI} {J : tkJ} {R : Nat → Nat} {Q : tkQ} {S : tkS} {z : Nat} {B : Nat → Int32} {on : Int32} {T : Nat → Int32} {t : Int32} (w : WF S) (C : CInv S z B on T t I J R) {k l h : Int32} (hQ : ∀ I' J' R', CInv (opTight S k l h).2 z B (if (opTight S k l h).1 < 0 then on else 0) T t I' J' R' → I' 6 0 = I 6 0 → J' 6 0 = J 6 0 → Q (some (.inl (opTight S k l h).1)) (I', J', R')) : tkDn tm_102 (0, [some (.inr (.inr (5, 0, 0))), some (.inl k), some (.inl l), some (.inl h)], [], (I, J, R)) Q := by
  have hn := @opTight_n S k l h
  obtain ⟨⟨b0, b1, b01⟩, cP, cT, cC, cW, cO, cR⟩ := C
  refine dn_run 6 (show tkDn tm_102 (8, [some (.inr (.inr (5, 0, 0))), some (.inl k), some (.inl l), some (.inl h)], [.inl h, .inl l, .inl k, .inr (.inr (1, R 0, 0)), .inr (.inr (5, 0, 0))], (I, J, R)) _ from ?_)
  refine dn_call rfl rfl rfl rfl rfl (sn_setBounds b0 cP w (fun X hX => ?_))
  show tkDn tm_102 (11, [some (.inr (.inr (5, 0, 0))), some (.inl k), some (.inl l), some (.inl h)], [.inl ((opTight S k l h).1), .inr (.inr (5, 0, 0))], (tk_so I 1 (R 0) X, J, R)) _
  refine dn_call rfl rfl rfl rfl rfl (sp_afterChange (fun c => ?_) (fun c => ?_))
  · show tkDn tm_102 (14, [some (.inr (.inr (5, 0, 0))), some (.inl k), some (.inl l), some (.inl h)], [.inl ((opTight S k l h).1)], (tk_so I 1 (R 0) X, J, R)) _
    refine dn_ret0 rfl rfl rfl rfl ?_
    rw [if_pos c] at hQ
    rw [hn c] at hQ hX
    exact hQ _ _ _ ⟨⟨b0, b1, b01⟩, by rw [tk_so_same]; exact hX, by rw [tk_so_ne (by omega)]; exact cT, by rw [tk_so_ne (by omega)]; exact cC, by rw [tk_so_ne (by omega)]; exact cW, by rw [tk_so_ne (by omega)]; exact cO, by rw [tk_so_ne (by omega), tk_so_ne (by omega)]; exact cR⟩ (tk_so_ne (by omega)) rfl
  · show tkDn tm_102 (14, [some (.inr (.inr (5, 0, 0))), some (.inl k), some (.inl l), some (.inl h)], [.inl ((opTight S k l h).1)], (tk_so (tk_so (tk_so (tk_so I 1 (R 0) X) 0 0 (tk_u2 (tk_so I 1 (R 0) X 0 0) 0 1 0)) 4 0 (tk_u2 (tk_so I 1 (R 0) X 4 0) 0 6 0)) 2 0 (tk_u2 (tk_so I 1 (R 0) X 2 0) 0 1 0), J, R)) _
    refine dn_ret0 rfl rfl rfl rfl ?_
    rw [if_neg c] at hQ
    exact hQ _ _ _ ⟨⟨b0, b1, b01⟩, by rw [tk_so_ne (by omega), tk_so_ne (by omega), tk_so_ne (by omega), tk_so_same]; exact hX, by rw [tk_so_ne (by omega), tk_so_ne (by omega), tk_so_ne (by omega), tk_so_ne (by omega)]; exact cT, fun q => absurd (by rw [tk_so_ne (by omega), tk_so_ne (by omega), tk_so_same, tk_u2_1]) q, fun q => absurd (by rw [tk_so_ne (by omega), tk_so_same, tk_u2_1]) q, by rw [tk_so_same, tk_u2_1], fun q => absurd q (by decide)⟩ (by rw [tk_so_ne (by omega), tk_so_ne (by omega), tk_so_ne (by omega), tk_so_ne (by omega)]) rfl
set_option maxRecDepth 8000 in
theorem sx_link {I : tkI} {J : tkJ} {R : Nat → Nat} {Q : tkQ} {S : tkS} {z : Nat} {B : Nat → Int32} {on : Int32} {T : Nat → Int32} {t : Int32} (w : WF S) (C : CInv S z B on T t I J R) {k u : Int32} (hQ : ∀ I' J' R', CInv S z B on T t I' J' R' → I' 6 0 = I 6 0 → J' 6 0 = J 6 0 → Q (some (.inl (lnkF S k u))) (I', J', R')) : tkDn tm_103 (0, [some (.inr (.inr (5, 0, 0))), some (.inl k), some (.inl u)], [], (I, J, R)) Q := by
  have C2 := C
  obtain ⟨⟨b0, b1, b01⟩, cP, cT, cC, cW, cO, cR⟩ := C
  refine dn_run 4 (show tkDn tm_103 (6, [some (.inr (.inr (5, 0, 0))), some (.inl k), some (.inl u)], [.inl u, .inl k, .inr (.inr (1, R 0, 0))], (I, J, R)) _ from ?_)
  refine dn_call rfl rfl rfl rfl rfl (sn_partOfLink cP w ?_)
  show tkDn tm_103 (9, [some (.inr (.inr (5, 0, 0))), some (.inl k), some (.inl u)], [.inl (lnkF S k u)], (I, J, R)) _
  refine dn_ret0 rfl rfl rfl rfl ?_
  exact hQ I J R C2 rfl rfl
set_option maxRecDepth 8000 in
theorem sx_feed {I : tkI} {J : tkJ} {R : Nat → Nat} {Q : tkQ} {S : tkS} {z : Nat} {B : Nat → Int32} {on : Int32} {T : Nat → Int32} {t : Int32} (w : WF S) (C : CInv S z B on T t I J R) (hz : z ≤ 1000) {a b c d e : Int32} (hQ0 : ¬ z + 20 ≤ 1000 → ∀ I' J' R', CInv S z B on T t I' J' R' → I' 6 0 = I 6 0 → J' 6 0 = J 6 0 → Q (some (.inl (-14))) (I', J', R')) (hQ1 : z + 20 ≤ 1000 → ∀ I' J' R', CInv S (z + 20) (fdF B z a b c d e) on T t I' J' R' → I' 6 0 = I 6 0 → J' 6 0 = J 6 0 → Q (some (.inl (nI (z + 20)))) (I', J', R')) : tkDn tm_104 (0, [some (.inr (.inr (5, 0, 0))), some (.inl a), some (.inl b), some (.inl c), some (.inl d), some (.inl e)], [], (I, J, R)) Q := by
  have C2 := C
  obtain ⟨⟨b0, b1, b01⟩, cP, cT, cC, cW, cO, cR⟩ := C
  refine dn_run 2 (show tkDn tm_104 (4, [some (.inr (.inr (5, 0, 0))), some (.inl a), some (.inl b), some (.inl c), some (.inl d), some (.inl e)], [.inr (.inr (3, 0, 0))], (I, J, R)) _ from ?_)
  refine dn_call rfl rfl rfl rfl rfl ?_
  show tkDn tm_71 (0, [some (.inr (.inr (3, 0, 0)))], [], (I, J, R)) _
  refine dn_run 5 (show tkDn tm_71 (10, [some (.inr (.inr (3, 0, 0)))], [.inl 1000, .inl ((I 3 0 0 2) + 20)], (I, J, R)) _ from ?_)
  rw [cT.1, show nI z + 20 = nI (z + 20) from nI_add _ 20]
  show tkDn tm_71 (10, [some (.inr (.inr (3, 0, 0)))], [.inl 1000, .inl (nI (z + 20))], (I, J, R)) _
  refine dn_if rfl rfl rfl (fun (c0 : 1000 < (nI (z + 20))) => ?_) (fun (c0 : ¬ 1000 < (nI (z + 20))) => ?_)
  · show tkDn tm_71 (17, [some (.inr (.inr (3, 0, 0)))], [], (I, J, R)) _
    refine dn_run 1 (show tkDn tm_71 (18, [some (.inr (.inr (3, 0, 0)))], [.inl 0], (I, J, R)) _ from ?_)
    refine dn_retb rfl rfl rfl rfl (by decide) ?_
    show tkDn tm_104 (7, [some (.inr (.inr (5, 0, 0))), some (.inl a), some (.inl b), some (.inl c), some (.inl d), some (.inl e)], [.inl 0], (I, J, R)) _
    refine dn_if rfl rfl rfl (fun (c1 : (¬ (0 : Int32) = 0 : Prop)) => ?_) (fun (c1 : ((0 : Int32) = 0 : Prop)) => ?_)
    · exact absurd rfl c1
    · show tkDn tm_104 (10, [some (.inr (.inr (5, 0, 0))), some (.inl a), some (.inl b), some (.inl c), some (.inl d), some (.inl e)], [], (I, J, R)) _
      refine dn_run 1 (show tkDn tm_104 (12, [some (.inr (.inr (5, 0, 0))), some (.inl a), some (.inl b), some (.inl c), some (.inl d), some (.inl e)], [.inl (-14)], (I, J, R)) _ from ?_)
      refine dn_ret0 rfl rfl rfl rfl ?_
      exact hQ0 (fun q => absurd ((nI_ltI (a := 1000) (by omega) (by omega)).mp c0) (by omega)) I J R C2 rfl rfl
  · show tkDn tm_71 (13, [some (.inr (.inr (3, 0, 0)))], [], (I, J, R)) _
    have hz20 : z + 20 ≤ 1000 := Nat.not_lt.mp (fun q => c0 ((nI_ltI (a := 1000) (by omega) (by omega)).mpr q))
    refine dn_run 2 (show tkDn tm_71 (18, [some (.inr (.inr (3, 0, 0)))], [.inl 1], (I, J, R)) _ from ?_)
    refine dn_retb rfl rfl rfl rfl (by decide) ?_
    show tkDn tm_104 (7, [some (.inr (.inr (5, 0, 0))), some (.inl a), some (.inl b), some (.inl c), some (.inl d), some (.inl e)], [.inl 1], (I, J, R)) _
    refine dn_if rfl rfl rfl (fun (c1 : (¬ (1 : Int32) = 0 : Prop)) => ?_) (fun (c1 : ((1 : Int32) = 0 : Prop)) => ?_)
    · show tkDn tm_104 (13, [some (.inr (.inr (5, 0, 0))), some (.inl a), some (.inl b), some (.inl c), some (.inl d), some (.inl e)], [], (I, J, R)) _
      refine dn_run 3 (show tkDn tm_104 (18, [some (.inr (.inr (5, 0, 0))), some (.inl a), some (.inl b), some (.inl c), some (.inl d), some (.inl e)], [.inl a, .inr (.inr (3, 0, 0))], (I, J, R)) _ from ?_)
      refine dn_call rfl rfl rfl rfl rfl (st_addNumber (z := z + 0) (by omega) (n := a) (by exact cT.1) (fun X1 k1 l1 m1 => ?_))
      show tkDn tm_104 (21, [some (.inr (.inr (5, 0, 0))), some (.inl a), some (.inl b), some (.inl c), some (.inl d), some (.inl e)], [], (tk_so I 3 0 X1, J, R)) _
      refine dn_run 3 (show tkDn tm_104 (26, [some (.inr (.inr (5, 0, 0))), some (.inl a), some (.inl b), some (.inl c), some (.inl d), some (.inl e)], [.inl b, .inr (.inr (3, 0, 0))], (tk_so I 3 0 X1, J, R)) _ from ?_)
      refine dn_call rfl rfl rfl rfl rfl (st_addNumber (z := z + 4) (by omega) (n := b) (by rw [tk_so_same]; exact k1) (fun X2 k2 l2 m2 => ?_))
      rw [tk_so_so]
      rw [tk_so_same] at l2 m2
      show tkDn tm_104 (29, [some (.inr (.inr (5, 0, 0))), some (.inl a), some (.inl b), some (.inl c), some (.inl d), some (.inl e)], [], (tk_so I 3 0 X2, J, R)) _
      refine dn_run 3 (show tkDn tm_104 (34, [some (.inr (.inr (5, 0, 0))), some (.inl a), some (.inl b), some (.inl c), some (.inl d), some (.inl e)], [.inl c, .inr (.inr (3, 0, 0))], (tk_so I 3 0 X2, J, R)) _ from ?_)
      refine dn_call rfl rfl rfl rfl rfl (st_addNumber (z := z + 8) (by omega) (n := c) (by rw [tk_so_same]; exact k2) (fun X3 k3 l3 m3 => ?_))
      rw [tk_so_so]
      rw [tk_so_same] at l3 m3
      show tkDn tm_104 (37, [some (.inr (.inr (5, 0, 0))), some (.inl a), some (.inl b), some (.inl c), some (.inl d), some (.inl e)], [], (tk_so I 3 0 X3, J, R)) _
      refine dn_run 3 (show tkDn tm_104 (43, [some (.inr (.inr (5, 0, 0))), some (.inl a), some (.inl b), some (.inl c), some (.inl d), some (.inl e)], [.inl d, .inr (.inr (3, 0, 0))], (tk_so I 3 0 X3, J, R)) _ from ?_)
      refine dn_call rfl rfl rfl rfl rfl (st_addNumber (z := z + 12) (by omega) (n := d) (by rw [tk_so_same]; exact k3) (fun X4 k4 l4 m4 => ?_))
      rw [tk_so_so]
      rw [tk_so_same] at l4 m4
      show tkDn tm_104 (46, [some (.inr (.inr (5, 0, 0))), some (.inl a), some (.inl b), some (.inl c), some (.inl d), some (.inl e)], [], (tk_so I 3 0 X4, J, R)) _
      refine dn_run 3 (show tkDn tm_104 (52, [some (.inr (.inr (5, 0, 0))), some (.inl a), some (.inl b), some (.inl c), some (.inl d), some (.inl e)], [.inl e, .inr (.inr (3, 0, 0))], (tk_so I 3 0 X4, J, R)) _ from ?_)
      refine dn_call rfl rfl rfl rfl rfl (st_addNumber (z := z + 16) (by omega) (n := e) (by rw [tk_so_same]; exact k4) (fun X5 k5 l5 m5 => ?_))
      rw [tk_so_so]
      rw [tk_so_same] at l5 m5
      show tkDn tm_104 (55, [some (.inr (.inr (5, 0, 0))), some (.inl a), some (.inl b), some (.inl c), some (.inl d), some (.inl e)], [], (tk_so I 3 0 X5, J, R)) _
      refine dn_run 2 (show tkDn tm_104 (59, [some (.inr (.inr (5, 0, 0))), some (.inl a), some (.inl b), some (.inl c), some (.inl d), some (.inl e)], [.inr (.inr (3, 0, 0))], (tk_so I 3 0 X5, J, R)) _ from ?_)
      refine dn_call rfl rfl rfl rfl rfl ?_
      show tkDn tm_69 (0, [some (.inr (.inr (3, 0, 0)))], [], (tk_so I 3 0 X5, J, R)) _
      refine dn_run 2 (show tkDn tm_69 (4, [some (.inr (.inr (3, 0, 0)))], [.inl (X5 0 2)], (tk_so I 3 0 X5, J, R)) _ from ?_)
      rw [k5]
      show tkDn tm_69 (4, [some (.inr (.inr (3, 0, 0)))], [.inl (nI (z + 20))], (tk_so I 3 0 X5, J, R)) _
      refine dn_ret0 rfl rfl rfl rfl ?_
      show tkDn tm_104 (62, [some (.inr (.inr (5, 0, 0))), some (.inl a), some (.inl b), some (.inl c), some (.inl d), some (.inl e)], [.inl (nI (z + 20))], (tk_so I 3 0 X5, J, R)) _
      refine dn_ret0 rfl rfl rfl rfl ?_
      refine hQ1 hz20 _ _ _ ⟨⟨b0, b1, b01⟩, by rw [tk_so_ne (by omega)]; exact cP, ⟨by rw [tk_so_same]; exact k5, fun j hj => ?_⟩, by rw [tk_so_ne (by omega)]; exact cC, by rw [tk_so_ne (by omega)]; exact cW, by rw [tk_so_ne (by omega)]; exact cO, by rw [tk_so_ne (by omega), tk_so_ne (by omega)]; exact cR⟩ (tk_so_ne (by omega)) rfl
      rw [tk_so_same]
      unfold fdF
      by_cases q : j < z
      · rw [if_pos q, l5 j, if_neg (by omega), l4 j, if_neg (by omega), l3 j, if_neg (by omega), l2 j, if_neg (by omega), l1 j, if_neg (by omega)]; exact cT.2 j q
      · rw [if_neg q]
        rcases Nat.lt_or_ge j (z + 4) with h | h
        · rw [l5 j, if_neg (by omega), l4 j, if_neg (by omega), l3 j, if_neg (by omega), l2 j, if_neg (by omega), l1 j, if_pos (by omega), show (j - z) / 4 = 0 by omega, show (j - z) % 4 = j - (z + 0) by omega]; rfl
        · rcases Nat.lt_or_ge j (z + 8) with h | h
          · rw [l5 j, if_neg (by omega), l4 j, if_neg (by omega), l3 j, if_neg (by omega), l2 j, if_pos (by omega), show (j - z) / 4 = 1 by omega, show (j - z) % 4 = j - (z + 4) by omega]; rfl
          · rcases Nat.lt_or_ge j (z + 12) with h | h
            · rw [l5 j, if_neg (by omega), l4 j, if_neg (by omega), l3 j, if_pos (by omega), show (j - z) / 4 = 2 by omega, show (j - z) % 4 = j - (z + 8) by omega]; rfl
            · rcases Nat.lt_or_ge j (z + 16) with h | h
              · rw [l5 j, if_neg (by omega), l4 j, if_pos (by omega), show (j - z) / 4 = 3 by omega, show (j - z) % 4 = j - (z + 12) by omega]; rfl
              · rw [l5 j, if_pos (by omega), show (j - z) / 4 = 4 by omega, show (j - z) % 4 = j - (z + 16) by omega]; rfl
    · exact absurd c1 (by decide)
set_option maxRecDepth 8000 in
theorem sx_trim {I : tkI} {J : tkJ} {R : Nat → Nat} {Q : tkQ} {S : tkS} {z : Nat} {B : Nat → Int32} {on : Int32} {T : Nat → Int32} {t : Int32} (w : WF S) (C : CInv S z B on T t I J R) (hz : z ≤ 1000) {u : Int32} (hQ0 : ¬ (0 ≤ u ∧ u ≤ nI z) → ∀ I' J' R', CInv S z B on T t I' J' R' → I' 6 0 = I 6 0 → J' 6 0 = J 6 0 → Q (some (.inl (-12))) (I', J', R')) (hQ1 : ∀ m, u = nI m → m ≤ z → ∀ I' J' R', CInv S m B on T t I' J' R' → I' 6 0 = I 6 0 → J' 6 0 = J 6 0 → Q (some (.inl u)) (I', J', R')) : tkDn tm_105 (0, [some (.inr (.inr (5, 0, 0))), some (.inl u)], [], (I, J, R)) Q := by
  have C2 := C
  obtain ⟨⟨b0, b1, b01⟩, cP, cT, cC, cW, cO, cR⟩ := C
  refine dn_run 1 (show tkDn tm_105 (1, [some (.inr (.inr (5, 0, 0))), some (.inl u)], [.inl u], (I, J, R)) _ from ?_)
  refine dn_if rfl rfl rfl (fun (c1 : u < 0) => ?_) (fun (c1 : ¬ u < 0) => ?_)
  · show tkDn tm_105 (15, [some (.inr (.inr (5, 0, 0))), some (.inl u)], [], (I, J, R)) _
    refine dn_run 1 (show tkDn tm_105 (17, [some (.inr (.inr (5, 0, 0))), some (.inl u)], [.inl (-12)], (I, J, R)) _ from ?_)
    refine dn_ret0 rfl rfl rfl rfl ?_
    exact hQ0 (fun q => absurd c1 (Int32.not_lt.mpr q.1)) I J R C2 rfl rfl
  · show tkDn tm_105 (4, [some (.inr (.inr (5, 0, 0))), some (.inl u)], [], (I, J, R)) _
    refine dn_run 3 (show tkDn tm_105 (9, [some (.inr (.inr (5, 0, 0))), some (.inl u)], [.inr (.inr (3, 0, 0)), .inl u], (I, J, R)) _ from ?_)
    refine dn_call rfl rfl rfl rfl rfl ?_
    show tkDn tm_69 (0, [some (.inr (.inr (3, 0, 0)))], [], (I, J, R)) _
    refine dn_run 2 (show tkDn tm_69 (4, [some (.inr (.inr (3, 0, 0)))], [.inl (I 3 0 0 2)], (I, J, R)) _ from ?_)
    rw [cT.1]
    show tkDn tm_69 (4, [some (.inr (.inr (3, 0, 0)))], [.inl (nI z)], (I, J, R)) _
    refine dn_ret0 rfl rfl rfl rfl ?_
    show tkDn tm_105 (12, [some (.inr (.inr (5, 0, 0))), some (.inl u)], [.inl (nI z), .inl u], (I, J, R)) _
    refine dn_if rfl rfl rfl (fun (c2 : u ≤ (nI z)) => ?_) (fun (c2 : ¬ u ≤ (nI z)) => ?_)
    · show tkDn tm_105 (18, [some (.inr (.inr (5, 0, 0))), some (.inl u)], [], (I, J, R)) _
      refine dn_run 3 (show tkDn tm_105 (23, [some (.inr (.inr (5, 0, 0))), some (.inl u)], [.inl u, .inr (.inr (3, 0, 0))], (I, J, R)) _ from ?_)
      refine dn_call rfl rfl rfl rfl rfl ?_
      show tkDn tm_73 (0, [some (.inr (.inr (3, 0, 0))), some (.inl u)], [], (I, J, R)) _
      refine dn_run 3 (show tkDn tm_73 (5, [some (.inr (.inr (3, 0, 0))), some (.inl u)], [], (tk_so I 3 0 (tk_u2 (I 3 0) 0 2 u), J, R)) _ from ?_)
      refine dn_ret0 rfl rfl rfl rfl ?_
      show tkDn tm_105 (26, [some (.inr (.inr (5, 0, 0))), some (.inl u)], [], (tk_so I 3 0 (tk_u2 (I 3 0) 0 2 u), J, R)) _
      refine dn_run 1 (show tkDn tm_105 (27, [some (.inr (.inr (5, 0, 0))), some (.inl u)], [.inl u], (tk_so I 3 0 (tk_u2 (I 3 0) 0 2 u), J, R)) _ from ?_)
      obtain ⟨m, hm, rfl⟩ := nI_of c1
      have hmz : m ≤ z := (nI_leI hm (by omega)).mp c2
      refine dn_ret0 rfl rfl rfl rfl ?_
      exact hQ1 m rfl hmz _ _ _ ⟨⟨b0, b1, b01⟩, by rw [tk_so_ne (by omega)]; exact cP, ⟨by rw [tk_so_same, tk_u2_1], fun j hj => by rw [tk_so_same, tk_u2_ne (by decide)]; exact cT.2 j (by omega)⟩, by rw [tk_so_ne (by omega)]; exact cC, by rw [tk_so_ne (by omega)]; exact cW, by rw [tk_so_ne (by omega)]; exact cO, by rw [tk_so_ne (by omega), tk_so_ne (by omega)]; exact cR⟩ (tk_so_ne (by omega)) rfl
    · show tkDn tm_105 (15, [some (.inr (.inr (5, 0, 0))), some (.inl u)], [], (I, J, R)) _
      refine dn_run 1 (show tkDn tm_105 (17, [some (.inr (.inr (5, 0, 0))), some (.inl u)], [.inl (-12)], (I, J, R)) _ from ?_)
      refine dn_ret0 rfl rfl rfl rfl ?_
      exact hQ0 (fun q => c2 q.2) I J R C2 rfl rfl
set_option maxRecDepth 8000 in
theorem sx_read {I : tkI} {J : tkJ} {R : Nat → Nat} {Q : tkQ} {S : tkS} {z : Nat} {B : Nat → Int32} {on : Int32} {T : Nat → Int32} {t : Int32} (w : WF S) (C : CInv S z B on T t I J R) (hz : z ≤ 1000) (hQ0 : (rdF B z 1001 (0, 0, 0, S.2.2.2) 0).1 = false → ∀ I' J' R', CInv S 0 B on T t I' J' R' → I' 6 0 = I 6 0 → J' 6 0 = J 6 0 → Q (some (.inl (-20 - nI (rdF B z 1001 (0, 0, 0, S.2.2.2) 0).2.1))) (I', J', R')) (hQ1 : (rdF B z 1001 (0, 0, 0, S.2.2.2) 0).1 = true → ∀ I' J' R', CInv (rdF B z 1001 (0, 0, 0, S.2.2.2) 0).2.2 0 B 0 T t I' J' R' → I' 6 0 = I 6 0 → J' 6 0 = J 6 0 → Q (some (.inl (nI (sL (rdF B z 1001 (0, 0, 0, S.2.2.2) 0).2.2)))) (I', J', R')) : tkDn tm_106 (0, [some (.inr (.inr (5, 0, 0))), none, none, none], [], (I, J, R)) Q := by
  have C2 := C
  obtain ⟨⟨b0, b1, b01⟩, cP, cT, cC, cW, cO, cR⟩ := C
  refine dn_run 2 (show tkDn tm_106 (4, [some (.inr (.inr (5, 0, 0))), none, none, none], [.inr (.inr (1, R 1, 0))], (I, J, R)) _ from ?_)
  refine dn_call rfl rfl rfl rfl rfl (sn_clear b1 (S := S) (fun X hX => ?_))
  show tkDn tm_106 (7, [some (.inr (.inr (5, 0, 0))), none, none, none], [], (tk_so I 1 (R 1) X, J, R)) _
  refine dn_run 4 (show tkDn tm_106 (15, [some (.inr (.inr (5, 0, 0))), none, none, none], [.inr (.inr (1, R 1, 0)), .inr (.inr (3, 0, 0))], (tk_so I 1 (R 1) X, J, R)) _ from ?_)
  refine dn_call rfl rfl rfl rfl rfl (st_readInto hz (by rw [tk_so_ne (by omega)]; exact cT) b1 (by rw [tk_so_same]; exact hX) WF_0 (fun I2 x f1 f2 f3 f4 f5 => ?_))
  show tkDn tm_106 (18, [some (.inr (.inr (5, 0, 0))), none, none, none], [.inl x], (I2, J, R)) _
  have fo : ∀ ci d, ¬ (ci = 3 ∧ d = 0) → ¬ (ci = 1 ∧ d = R 1) → I2 ci d = I ci d := fun ci d h1 h2 => (f1 ci d h1 h2).trans (tk_so_ne h2)
  have g1 : I2 1 (R 0) = I 1 (R 0) := fo 1 (R 0) (by omega) (by omega)
  have g0 := fo 0 0 (by omega) (by omega)
  have g4 := fo 4 0 (by omega) (by omega)
  have g2 := fo 2 0 (by omega) (by omega)
  have g6 := fo 6 0 (by omega) (by omega)
  refine dn_run 3 (show tkDn tm_106 (23, [some (.inr (.inr (5, 0, 0))), some (.inl x), none, none], [.inr (.inr (3, 0, 0))], (I2, J, R)) _ from ?_)
  refine dn_call rfl rfl rfl rfl rfl ?_
  show tkDn tm_70 (0, [some (.inr (.inr (3, 0, 0)))], [], (I2, J, R)) _
  refine dn_run 2 (show tkDn tm_70 (4, [some (.inr (.inr (3, 0, 0)))], [.inl (I2 3 0 0 3)], (I2, J, R)) _ from ?_)
  rw [f3]
  show tkDn tm_70 (4, [some (.inr (.inr (3, 0, 0)))], [.inl (nI (rdF B z 1001 (0, 0, 0, S.2.2.2) 0).2.1)], (I2, J, R)) _
  refine dn_ret0 rfl rfl rfl rfl ?_
  show tkDn tm_106 (26, [some (.inr (.inr (5, 0, 0))), some (.inl x), none, none], [.inl (nI (rdF B z 1001 (0, 0, 0, S.2.2.2) 0).2.1)], (I2, J, R)) _
  refine dn_run 4 (show tkDn tm_106 (32, [some (.inr (.inr (5, 0, 0))), some (.inl x), some (.inl (nI (rdF B z 1001 (0, 0, 0, S.2.2.2) 0).2.1)), none], [.inl 0, .inr (.inr (3, 0, 0))], (I2, J, R)) _ from ?_)
  refine dn_call rfl rfl rfl rfl rfl ?_
  show tkDn tm_73 (0, [some (.inr (.inr (3, 0, 0))), some (.inl 0)], [], (I2, J, R)) _
  refine dn_run 3 (show tkDn tm_73 (5, [some (.inr (.inr (3, 0, 0))), some (.inl 0)], [], (tk_so I2 3 0 (tk_u2 (I2 3 0) 0 2 0), J, R)) _ from ?_)
  refine dn_ret0 rfl rfl rfl rfl ?_
  show tkDn tm_106 (35, [some (.inr (.inr (5, 0, 0))), some (.inl x), some (.inl (nI (rdF B z 1001 (0, 0, 0, S.2.2.2) 0).2.1)), none], [], (tk_so I2 3 0 (tk_u2 (I2 3 0) 0 2 0), J, R)) _
  refine dn_run 1 (show tkDn tm_106 (36, [some (.inr (.inr (5, 0, 0))), some (.inl x), some (.inl (nI (rdF B z 1001 (0, 0, 0, S.2.2.2) 0).2.1)), none], [.inl x], (tk_so I2 3 0 (tk_u2 (I2 3 0) 0 2 0), J, R)) _ from ?_)
  refine dn_if rfl rfl rfl (fun (c1 : ¬ x = 0) => ?_) (fun (c1 : x = 0) => ?_)
  · show tkDn tm_106 (44, [some (.inr (.inr (5, 0, 0))), some (.inl x), some (.inl (nI (rdF B z 1001 (0, 0, 0, S.2.2.2) 0).2.1)), none], [], (tk_so I2 3 0 (tk_u2 (I2 3 0) 0 2 0), J, R)) _
    have hb : (rdF B z 1001 (0, 0, 0, S.2.2.2) 0).1 = true := by cases hh : (rdF B z 1001 (0, 0, 0, S.2.2.2) 0).1 with | true => rfl | false => rw [hh] at f5; exact absurd f5 c1
    have wl := (rdF_wf (B := B) (z := z) 1001 (0, 0, 0, S.2.2.2) 0 WF_0).2.1
    refine dn_run 13 (show tkDn tm_106 (67, [some (.inr (.inr (5, 0, 0))), some (.inl x), some (.inl (nI (rdF B z 1001 (0, 0, 0, S.2.2.2) 0).2.1)), some (.inr (.inr (1, R 0, 0)))], [.inr (.inr (1, R 1, 0)), .inr (.inr (5, 0, 0))], (tk_so I2 3 0 (tk_u2 (I2 3 0) 0 2 0), J, tk_u1 (tk_u1 R 0 (R 1)) 1 (R 0))) _ from ?_)
    refine dn_call rfl rfl rfl rfl rfl (sN_linkCount (S := (rdF B z 1001 (0, 0, 0, S.2.2.2) 0).2.2) (by rw [tk_so_ne (by omega)]; exact f4) ?_)
    show tkDn tm_106 (70, [some (.inr (.inr (5, 0, 0))), some (.inl x), some (.inl (nI (rdF B z 1001 (0, 0, 0, S.2.2.2) 0).2.1)), some (.inr (.inr (1, R 0, 0)))], [.inl (nI (sL (rdF B z 1001 (0, 0, 0, S.2.2.2) 0).2.2)), .inr (.inr (5, 0, 0))], (tk_so I2 3 0 (tk_u2 (I2 3 0) 0 2 0), J, tk_u1 (tk_u1 R 0 (R 1)) 1 (R 0))) _
    refine dn_call rfl rfl rfl rfl rfl (sp_afterChange (fun c => absurd c (nI_pos (by omega))) (fun c => ?_))
    show tkDn tm_106 (73, [some (.inr (.inr (5, 0, 0))), some (.inl x), some (.inl (nI (rdF B z 1001 (0, 0, 0, S.2.2.2) 0).2.1)), some (.inr (.inr (1, R 0, 0)))], [.inl (nI (sL (rdF B z 1001 (0, 0, 0, S.2.2.2) 0).2.2))], (tk_so (tk_so (tk_so (tk_so I2 3 0 (tk_u2 (I2 3 0) 0 2 0)) 0 0 (tk_u2 (tk_so I2 3 0 (tk_u2 (I2 3 0) 0 2 0) 0 0) 0 1 0)) 4 0 (tk_u2 (tk_so I2 3 0 (tk_u2 (I2 3 0) 0 2 0) 4 0) 0 6 0)) 2 0 (tk_u2 (tk_so I2 3 0 (tk_u2 (I2 3 0) 0 2 0) 2 0) 0 1 0), J, tk_u1 (tk_u1 R 0 (R 1)) 1 (R 0))) _
    refine dn_ret0 rfl rfl rfl rfl ?_
    exact hQ1 hb _ _ _ ⟨⟨b1, b0, fun q => b01 q.symm⟩, by rw [tk_so_ne (by omega), tk_so_ne (by omega), tk_so_ne (by omega), tk_so_ne (by omega)]; exact f4, ⟨by rw [tk_so_ne (by omega), tk_so_ne (by omega), tk_so_ne (by omega), tk_so_same, tk_u2_1]; rfl, fun j hj => absurd hj (Nat.not_lt_zero _)⟩, fun q => absurd (by rw [tk_so_ne (by omega), tk_so_ne (by omega), tk_so_same, tk_u2_1]) q, fun q => absurd (by rw [tk_so_ne (by omega), tk_so_same, tk_u2_1]) q, by rw [tk_so_same, tk_u2_1], fun q => absurd q (by decide)⟩ (by rw [tk_so_ne (by omega), tk_so_ne (by omega), tk_so_ne (by omega), tk_so_ne (by omega), g6]) rfl
  · show tkDn tm_106 (39, [some (.inr (.inr (5, 0, 0))), some (.inl x), some (.inl (nI (rdF B z 1001 (0, 0, 0, S.2.2.2) 0).2.1)), none], [], (tk_so I2 3 0 (tk_u2 (I2 3 0) 0 2 0), J, R)) _
    have hb : (rdF B z 1001 (0, 0, 0, S.2.2.2) 0).1 = false := by cases hh : (rdF B z 1001 (0, 0, 0, S.2.2.2) 0).1 with | true => rw [hh] at f5; exact absurd (c1.symm.trans f5) (by decide) | false => rfl
    refine dn_run 3 (show tkDn tm_106 (43, [some (.inr (.inr (5, 0, 0))), some (.inl x), some (.inl (nI (rdF B z 1001 (0, 0, 0, S.2.2.2) 0).2.1)), none], [.inl ((-20) - (nI (rdF B z 1001 (0, 0, 0, S.2.2.2) 0).2.1))], (tk_so I2 3 0 (tk_u2 (I2 3 0) 0 2 0), J, R)) _ from ?_)
    refine dn_ret0 rfl rfl rfl rfl ?_
    exact hQ0 hb _ _ _ ⟨⟨b0, b1, b01⟩, by rw [tk_so_ne (by omega), g1]; exact cP, ⟨by rw [tk_so_same, tk_u2_1]; rfl, fun j hj => absurd hj (Nat.not_lt_zero _)⟩, by rw [tk_so_ne (by omega), g0]; exact cC, by rw [tk_so_ne (by omega), g4]; exact cW, by rw [tk_so_ne (by omega), g2]; exact cO, by rw [tk_so_ne (by omega), tk_so_ne (by omega), g2, g4]; exact cR⟩ (by rw [tk_so_ne (by omega), g6]) rfl
