/-! a call of the class, then the same call of the reference -/
set_option maxRecDepth 8000 in
theorem pr_moments {c : Nat} {S : tkS} {z : Nat} {B : Nat → Int32} {on : Int32} {T : Nat → Int32} {t : Int32} {I : tkI} {J : tkJ} {R : Nat → Nat} (A : AInv c S z on T t) (C : CInv S z B on T t I J R) (M : MInv S z B on T t I J) {n : Int32} : tkDn tm_98 (0, [some (.inr (.inr (5, 0, 0))), some (.inl n)], [], (I, J, R)) (fun r W => tkDn tm_130 (0, [some (.inr (.inr (6, 0, 0))), some (.inl n)], [], W) (Fin c r)) := by
  have w := A.1
  refine sx_moments w C (fun I' J' R' C' h6 j6 => ?_)
  have M' := M.to h6 j6
  exact sm_moments M'.1 w (fun X hX hO hF => ⟨rfl, _, z, B, _, T, t, A.chg (WF_opMom w n) (fun q => opMom_n w q), C'.m1 X, M'.chg hX hO hF (fun q => opMom_n w q)⟩)
set_option maxRecDepth 8000 in
theorem pr_wish {c : Nat} {S : tkS} {z : Nat} {B : Nat → Int32} {on : Int32} {T : Nat → Int32} {t : Int32} {I : tkI} {J : tkJ} {R : Nat → Nat} (A : AInv c S z on T t) (C : CInv S z B on T t I J R) (M : MInv S z B on T t I J) {u v l h : Int32} : tkDn tm_99 (0, [some (.inr (.inr (5, 0, 0))), some (.inl u), some (.inl v), some (.inl l), some (.inl h)], [], (I, J, R)) (fun r W => tkDn tm_133 (0, [some (.inr (.inr (6, 0, 0))), some (.inl u), some (.inl v), some (.inl l), some (.inl h)], [], W) (Fin c r)) := by
  have w := A.1
  refine sx_wish w C (fun I' J' R' C' h6 j6 => ?_)
  have M' := M.to h6 j6
  exact sm_wish M'.1 w (fun X hX hO hF => ⟨rfl, _, z, B, _, T, t, A.chg (WF_opWish w u v l h) (fun q => opWish_n w q), C'.m1 X, M'.chg hX hO hF (fun q => opWish_n w q)⟩)
set_option maxRecDepth 8000 in
theorem pr_gift {c : Nat} {S : tkS} {z : Nat} {B : Nat → Int32} {on : Int32} {T : Nat → Int32} {t : Int32} {I : tkI} {J : tkJ} {R : Nat → Nat} (A : AInv c S z on T t) (C : CInv S z B on T t I J R) (M : MInv S z B on T t I J) {u v l h : Int32} : tkDn tm_100 (0, [some (.inr (.inr (5, 0, 0))), some (.inl u), some (.inl v), some (.inl l), some (.inl h)], [], (I, J, R)) (fun r W => tkDn tm_135 (0, [some (.inr (.inr (6, 0, 0))), some (.inl u), some (.inl v), some (.inl l), some (.inl h)], [], W) (Fin c r)) := by
  have w := A.1
  refine sx_gift w C (fun I' J' R' C' h6 j6 => ?_)
  have M' := M.to h6 j6
  exact sm_gift M'.1 w (fun X hX hO hF => ⟨rfl, _, z, B, _, T, t, A.chg (WF_opGift w u v l h) (fun q => opGift_n w q), C'.m1 X, M'.chg hX hO hF (fun q => opGift_n w q)⟩)
set_option maxRecDepth 8000 in
theorem pr_undo {c : Nat} {S : tkS} {z : Nat} {B : Nat → Int32} {on : Int32} {T : Nat → Int32} {t : Int32} {I : tkI} {J : tkJ} {R : Nat → Nat} (A : AInv c S z on T t) (C : CInv S z B on T t I J R) (M : MInv S z B on T t I J) : tkDn tm_101 (0, [some (.inr (.inr (5, 0, 0)))], [], (I, J, R)) (fun r W => tkDn tm_136 (0, [some (.inr (.inr (6, 0, 0)))], [], W) (Fin c r)) := by
  have w := A.1
  refine sx_undo w C (fun I' J' R' C' h6 j6 => ?_)
  have M' := M.to h6 j6
  exact sm_undo M'.1 w (fun X hX hO hF => ⟨rfl, _, z, B, _, T, t, A.chg (WF_opUndo w) (fun q => opUndo_n w q), C'.m1 X, M'.chg hX hO hF (fun q => opUndo_n w q)⟩)
set_option maxRecDepth 8000 in
theorem pr_tighten {c : Nat} {S : tkS} {z : Nat} {B : Nat → Int32} {on : Int32} {T : Nat → Int32} {t : Int32} {I : tkI} {J : tkJ} {R : Nat → Nat} (A : AInv c S z on T t) (C : CInv S z B on T t I J R) (M : MInv S z B on T t I J) {k l h : Int32} : tkDn tm_102 (0, [some (.inr (.inr (5, 0, 0))), some (.inl k), some (.inl l), some (.inl h)], [], (I, J, R)) (fun r W => tkDn tm_137 (0, [some (.inr (.inr (6, 0, 0))), some (.inl k), some (.inl l), some (.inl h)], [], W) (Fin c r)) := by
  have w := A.1
  refine sx_tighten w C (fun I' J' R' C' h6 j6 => ?_)
  have M' := M.to h6 j6
  exact sm_tighten M'.1 w (fun X hX hO hF => ⟨rfl, _, z, B, _, T, t, A.chg (WF_opTight w k l h) (fun q => opTight_n q), C'.m1 X, M'.chg hX hO hF (fun q => opTight_n q)⟩)
set_option maxRecDepth 8000 in
theorem pr_link {c : Nat} {S : tkS} {z : Nat} {B : Nat → Int32} {on : Int32} {T : Nat → Int32} {t : Int32} {I : tkI} {J : tkJ} {R : Nat → Nat} (A : AInv c S z on T t) (C : CInv S z B on T t I J R) (M : MInv S z B on T t I J) {k u : Int32} : tkDn tm_103 (0, [some (.inr (.inr (5, 0, 0))), some (.inl k), some (.inl u)], [], (I, J, R)) (fun r W => tkDn tm_138 (0, [some (.inr (.inr (6, 0, 0))), some (.inl k), some (.inl u)], [], W) (Fin c r)) := by
  refine sx_link A.1 C (fun I' J' R' C' h6 j6 => ?_)
  exact sm_link (M.to h6 j6).1 A.1 ⟨rfl, S, z, B, on, T, t, A.c, C', M.to h6 j6⟩
set_option maxRecDepth 8000 in
theorem pr_feed {c : Nat} {S : tkS} {z : Nat} {B : Nat → Int32} {on : Int32} {T : Nat → Int32} {t : Int32} {I : tkI} {J : tkJ} {R : Nat → Nat} (A : AInv c S z on T t) (C : CInv S z B on T t I J R) (M : MInv S z B on T t I J) {a b d e f : Int32} : tkDn tm_104 (0, [some (.inr (.inr (5, 0, 0))), some (.inl a), some (.inl b), some (.inl d), some (.inl e), some (.inl f)], [], (I, J, R)) (fun r W => tkDn tm_139 (0, [some (.inr (.inr (6, 0, 0))), some (.inl a), some (.inl b), some (.inl d), some (.inl e), some (.inl f), none, none], [], W) (Fin c r)) := by
  refine sx_feed A.1 C A.2.1 (fun hn I' J' R' C' h6 j6 => ?_) (fun hy I' J' R' C' h6 j6 => ?_)
  · have M' := M.to h6 j6
    exact sm_feed A.2.1 M'.2.1.1 M'.2.1.2 (fun _ => ⟨rfl, S, z, B, on, T, t, A.c, C', M'⟩) (fun hy => absurd hy hn)
  · have M' := M.to h6 j6
    refine sm_feed A.2.1 M'.2.1.1 M'.2.1.2 (fun hn => absurd hy hn) (fun _ X hX hO => ⟨rfl, S, z + 20, fdF B z a b d e f, on, T, t, A.z hy, C'.m1 X, ?_⟩)
    have := M'.oth (X := X) (N := J' 6 0) hX (fun j hj => hO 0 j (by decide) (by omega)) (fun s hs => funext fun j => hO s j (by omega) (by omega)) rfl rfl
    rw [tk_so_id] at this
    exact this
set_option maxRecDepth 8000 in
theorem pr_trim {c : Nat} {S : tkS} {z : Nat} {B : Nat → Int32} {on : Int32} {T : Nat → Int32} {t : Int32} {I : tkI} {J : tkJ} {R : Nat → Nat} (A : AInv c S z on T t) (C : CInv S z B on T t I J R) (M : MInv S z B on T t I J) {u : Int32} : tkDn tm_105 (0, [some (.inr (.inr (5, 0, 0))), some (.inl u)], [], (I, J, R)) (fun r W => tkDn tm_140 (0, [some (.inr (.inr (6, 0, 0))), some (.inl u)], [], W) (Fin c r)) := by
  refine sx_trim A.1 C A.2.1 (fun hn I' J' R' C' h6 j6 => ?_) (fun m hu hm I' J' R' C' h6 j6 => ?_)
  · have M' := M.to h6 j6
    exact sm_trim M'.2.1.1 (fun _ => ⟨rfl, S, z, B, on, T, t, A.c, C', M'⟩) (fun hy => absurd hy hn)
  · have M' := M.to h6 j6
    have hz := A.2.1
    subst hu
    refine sm_trim M'.2.1.1 (fun hn => absurd ⟨nI_pos' (by omega), nI_le hm (by omega)⟩ hn) (fun _ => ⟨rfl, S, m, B, on, T, t, A.z (by omega), C'.m1 _, ?_⟩)
    have := M'.oth (X := tk_u2 (I' 6 0) 0 13 (nI m)) (N := J' 6 0) (z' := m) (B' := B) ⟨by rw [tk_u2_1], fun j hj => by rw [tk_u2_ne (by decide)]; exact M'.2.1.2 j (by omega)⟩ (fun j hj => tk_u2_0 (by omega)) (fun s hs => tk_u2_ne (by omega)) rfl rfl
    rw [tk_so_id] at this
    exact this
set_option maxRecDepth 8000 in
theorem pr_read {c : Nat} {S : tkS} {z : Nat} {B : Nat → Int32} {on : Int32} {T : Nat → Int32} {t : Int32} {I : tkI} {J : tkJ} {R : Nat → Nat} (A : AInv c S z on T t) (C : CInv S z B on T t I J R) (M : MInv S z B on T t I J) : tkDn tm_106 (0, [some (.inr (.inr (5, 0, 0))), none, none, none], [], (I, J, R)) (fun r W => tkDn tm_147 (0, [some (.inr (.inr (6, 0, 0))), none, none, none], [], W) (Fin c r)) := by
  have hz := A.2.1
  refine sx_read A.1 C hz (fun hf I' J' R' C' h6 j6 => ?_) (fun hg I' J' R' C' h6 j6 => ?_)
  · have M' := M.to h6 j6
    have hb := A.2.2.1
    rw [← M'.2.2.2.2.1] at hb
    refine sm_read hz M'.2.1 M'.1 A.1 hb M'.2.2.1 (fun X hg => absurd (hf.symm.trans hg) (by decide)) (fun X _ hP hR h10 h11 h13 => ⟨rfl, S, 0, B, on, T, t, A.z (Nat.zero_le _), C'.m1 X, ?_⟩)
    obtain ⟨m1, m2, m3, m4, m5, m6, m7, m8⟩ := M'
    unfold MInv
    dsimp only
    rw [tk_so_same]
    exact ⟨hP, ⟨h13, fun j hj => absurd hj (Nat.not_lt_zero _)⟩, by rw [h11]; exact m3, fun y => hR.kn (m4 (h11.symm.trans y)), h10.trans m5, fun j hj => by rw [hR.2 33 (by decide) (by decide)]; exact m6 j hj, (hR.1 31 (by decide)).trans m7, fun y => h11.trans (m8 y)⟩
  · have M' := M.to h6 j6
    have hb := A.2.2.1
    rw [← M'.2.2.2.2.1] at hb
    refine sm_read hz M'.2.1 M'.1 A.1 hb M'.2.2.1 (fun X _ hP hR h10 h11 h13 => ⟨rfl, _, 0, B, 0, T, t, A.off (rdF_wf _ _ _ WF_0) (Nat.zero_le _), C'.m1 X, ?_⟩) (fun X hf => absurd (hf.symm.trans hg) (by decide))
    obtain ⟨m1, m2, m3, m4, m5, m6, m7, m8⟩ := M'
    unfold MInv
    dsimp only
    rw [tk_so_same]
    exact ⟨hP, ⟨h13, fun j hj => absurd hj (Nat.not_lt_zero _)⟩, Or.inl h11, fun y => absurd (h11.symm.trans y) (by decide), h10, fun j hj => by rw [hR.2 33 (by decide) (by decide)]; exact m6 j hj, (hR.1 31 (by decide)).trans m7, fun y => absurd y (by decide)⟩
set_option maxRecDepth 8000 in
theorem MInv.row {S : tkS} {z : Nat} {B : Nat → Int32} {on : Int32} {T : Nat → Int32} {t : Int32} {I : tkI} {J : tkJ} (M : MInv S z B on T t I J) (r : Nat → Int64) : MInv S z B on T t I (tk_so J 6 0 (tk_u1 (J 6 0) 21 r)) := by
  have := M.oth (X := I 6 0) (N := tk_u1 (J 6 0) 21 r) M.2.1 (fun _ _ => rfl) (fun _ _ => rfl) (tk_u1_ne (by decide)) (tk_u1_ne (by decide))
  rw [tk_so_id] at this
  exact this
set_option maxRecDepth 8000 in
theorem MInv.j {S : tkS} {z : Nat} {B : Nat → Int32} {on : Int32} {T : Nat → Int32} {t : Int32} {I : tkI} {J : tkJ} (M : MInv S z B on T t I J) {N : Nat → Nat → Int64} (h : ∀ s, s ≠ 0 → N s = J 6 0 s) : MInv S z B on T t I (tk_so J 6 0 N) := by
  have := M.oth (X := I 6 0) (N := N) M.2.1 (fun _ _ => rfl) (fun _ _ => rfl) (h 24 (by decide)) (h 25 (by decide))
  rw [tk_so_id] at this
  exact this
set_option maxRecDepth 8000 in
theorem dis_eq {S : tkS} (w : WF S) {u v : Int32} : mdis S u v = cdis S u v := by
  unfold mdis cdis
  have h := tog_eq w
  by_cases q : hasM S u ∧ hasM S v
  · rw [if_pos q, if_pos q]
    by_cases y : (togF S).1 = true
    · rw [if_pos y, if_pos (h.1.symm.trans y), h.2 y]
    · rw [if_neg y, if_neg (fun z => y (h.1.trans z))]
  · rw [if_neg q, if_neg q]
set_option maxRecDepth 8000 in
theorem spl_eq {S : tkS} (w : WF S) {g : Int32} : mspl S g = cspl S g := by
  unfold mspl cspl
  by_cases q : 0 ≤ g ∧ g < nI (sG S)
  · rw [if_pos q, if_pos q]
    rcases spo_eq w with ⟨h1, h2⟩ | ⟨j, hj, h1, h2⟩
    · rw [h1, h2, if_pos (by decide), if_pos rfl]
    · rw [h1, h2, if_neg (nI_pos (by omega)), if_neg (fun y => absurd (show nI j < 0 by rw [y]; decide) (nI_pos (by omega)))]
  · rw [if_neg q, if_neg q]
set_option maxRecDepth 8000 in
theorem wk_w {S : tkS} (w : WF S) : (if mspo S < 0 then (1 : Int32) else 0) = if spo S = -9 then 1 else 0 := by
  rcases spo_eq w with ⟨h1, h2⟩ | ⟨j, hj, h1, h2⟩
  · rw [h1, h2, if_pos (by decide), if_pos rfl]
  · rw [h1, h2, if_neg (nI_pos (by omega)), if_neg (fun y => absurd (show nI j < 0 by rw [y]; decide) (nI_pos (by omega)))]
set_option maxRecDepth 8000 in
theorem pr_together {c : Nat} {S : tkS} {z : Nat} {B : Nat → Int32} {on : Int32} {T : Nat → Int32} {t : Int32} {I : tkI} {J : tkJ} {R : Nat → Nat} (A : AInv c S z on T t) (C : CInv S z B on T t I J R) (M : MInv S z B on T t I J) : tkDn tm_107 (0, [some (.inr (.inr (5, 0, 0)))], [], (I, J, R)) (fun r W => tkDn tm_152 (0, [some (.inr (.inr (6, 0, 0)))], [], W) (Fin c r)) := by
  refine sx_together A.1 C (fun I' J' R' C' h6 j6 => ?_)
  exact sm_together (M.to h6 j6).1 A.1 (fun r hr => ⟨by rw [(tog_eq A.1).1], S, z, B, on, T, t, A.c, C'.m2 _, (M.to h6 j6).row r⟩)
set_option maxRecDepth 8000 in
theorem pr_distance {c : Nat} {S : tkS} {z : Nat} {B : Nat → Int32} {on : Int32} {T : Nat → Int32} {t : Int32} {I : tkI} {J : tkJ} {R : Nat → Nat} (A : AInv c S z on T t) (C : CInv S z B on T t I J R) (M : MInv S z B on T t I J) {u v : Int32} : tkDn tm_108 (0, [some (.inr (.inr (5, 0, 0))), some (.inl u), some (.inl v)], [], (I, J, R)) (fun r W => tkDn tm_153 (0, [some (.inr (.inr (6, 0, 0))), some (.inl u), some (.inl v)], [], W) (Fin c r)) := by
  refine sx_distance A.1 C (fun I' J' R' C' h6 j6 => ?_)
  exact sm_distance (M.to h6 j6).1 A.1 (fun r => ⟨by rw [dis_eq A.1], S, z, B, on, T, t, A.c, C'.m2 _, (M.to h6 j6).row r⟩)
set_option maxRecDepth 8000 in
theorem pr_strong {c : Nat} {S : tkS} {z : Nat} {B : Nat → Int32} {on : Int32} {T : Nat → Int32} {t : Int32} {I : tkI} {J : tkJ} {R : Nat → Nat} (A : AInv c S z on T t) (C : CInv S z B on T t I J R) (M : MInv S z B on T t I J) : tkDn tm_109 (0, [some (.inr (.inr (5, 0, 0)))], [], (I, J, R)) (fun r W => tkDn tm_156 (0, [some (.inr (.inr (6, 0, 0))), none, none, none, none, none, none, none, none, none, none], [], W) (Fin c r)) := by
  refine sx_strong A.1 C (fun I' J' R' C' h6 j6 => ?_)
  have M' := M.to h6 j6
  refine sm_strong M'.1 A.1 (fun X r hX => ⟨by rw [str_eq A.1], S, z, B, on, T, t, A.c, C'.m X _, ?_⟩)
  exact M'.oth (M'.2.1.to (hX 0 13 (by omega)) (fun j => hX 13 j (by omega))) (fun j hj => hX 0 j (by omega)) (fun s hs => funext fun j => hX s j (by omega)) (tk_u1_ne (by decide)) (tk_u1_ne (by decide))
set_option maxRecDepth 8000 in
theorem pr_weak {c : Nat} {S : tkS} {z : Nat} {B : Nat → Int32} {on : Int32} {T : Nat → Int32} {t : Int32} {I : tkI} {J : tkJ} {R : Nat → Nat} (A : AInv c S z on T t) (C : CInv S z B on T t I J R) (M : MInv S z B on T t I J) : tkDn tm_110 (0, [some (.inr (.inr (5, 0, 0)))], [], (I, J, R)) (fun r W => tkDn tm_158 (0, [some (.inr (.inr (6, 0, 0)))], [], W) (Fin c r)) := by
  refine sx_weak A.1 C (fun I' J' R' C' h6 j6 => ?_)
  exact sm_weak (M.to h6 j6).1 A.1 (fun r => ⟨by rw [wk_w A.1], S, z, B, on, T, t, A.c, C'.m2 _, (M.to h6 j6).row r⟩)
set_option maxRecDepth 8000 in
theorem pr_spoiler {c : Nat} {S : tkS} {z : Nat} {B : Nat → Int32} {on : Int32} {T : Nat → Int32} {t : Int32} {I : tkI} {J : tkJ} {R : Nat → Nat} (A : AInv c S z on T t) (C : CInv S z B on T t I J R) (M : MInv S z B on T t I J) {u : Int32} : tkDn tm_111 (0, [some (.inr (.inr (5, 0, 0))), some (.inl u), none], [], (I, J, R)) (fun r W => tkDn tm_159 (0, [some (.inr (.inr (6, 0, 0))), some (.inl u), none], [], W) (Fin c r)) := by
  refine sx_spoiler A.1 C (fun I' J' R' C' h6 j6 => ?_)
  exact sm_spoiler (M.to h6 j6).1 A.1 (fun r => ⟨by rw [spl_eq A.1], S, z, B, on, T, t, A.c, C'.m2 _, (M.to h6 j6).row r⟩)
set_option maxRecDepth 8000 in
theorem pr_lively {c : Nat} {S : tkS} {z : Nat} {B : Nat → Int32} {on : Int32} {T : Nat → Int32} {t : Int32} {I : tkI} {J : tkJ} {R : Nat → Nat} (A : AInv c S z on T t) (C : CInv S z B on T t I J R) (M : MInv S z B on T t I J) : tkDn tm_112 (0, [some (.inr (.inr (5, 0, 0)))], [], (I, J, R)) (fun r W => tkDn tm_174 (0, [some (.inr (.inr (6, 0, 0)))], [], W) (Fin c r)) := by
  refine sx_lively A.1 C (fun x k e v hw I' J' R' C' h6 j6 => ?_)
  have M' := M.to h6 j6
  refine sm_lively M'.1 A.1 M'.2.2.1 M'.2.2.2.1 (fun X N h11 hK hX => ?_)
  have hK2 := hK
  obtain ⟨x', k', e', v', d1, d2, d3, d4, d5⟩ := hK2
  have q := wk_eq A.1 hw d1
  exact ⟨by rw [d2, q.1], S, z, B, on, T, t, A.c, C'.m X N, M'.kn h11 hK hX⟩
set_option maxRecDepth 8000 in
theorem pr_rounds {c : Nat} {S : tkS} {z : Nat} {B : Nat → Int32} {on : Int32} {T : Nat → Int32} {t : Int32} {I : tkI} {J : tkJ} {R : Nat → Nat} (A : AInv c S z on T t) (C : CInv S z B on T t I J R) (M : MInv S z B on T t I J) : tkDn tm_113 (0, [some (.inr (.inr (5, 0, 0)))], [], (I, J, R)) (fun r W => tkDn tm_175 (0, [some (.inr (.inr (6, 0, 0)))], [], W) (Fin c r)) := by
  refine sx_rounds A.1 C (fun x k e v hw I' J' R' C' h6 j6 => ?_)
  have M' := M.to h6 j6
  refine sm_rounds M'.1 A.1 M'.2.2.1 M'.2.2.2.1 (fun X N h11 hK hX => ?_)
  have hK2 := hK
  obtain ⟨x', k', e', v', d1, d2, d3, d4, d5⟩ := hK2
  have q := wk_eq A.1 hw d1
  exact ⟨by rw [d3, q.2.1], S, z, B, on, T, t, A.c, C'.m X N, M'.kn h11 hK hX⟩
set_option maxRecDepth 8000 in
theorem pr_edge {c : Nat} {S : tkS} {z : Nat} {B : Nat → Int32} {on : Int32} {T : Nat → Int32} {t : Int32} {I : tkI} {J : tkJ} {R : Nat → Nat} (A : AInv c S z on T t) (C : CInv S z B on T t I J R) (M : MInv S z B on T t I J) {u v : Int32} : tkDn tm_114 (0, [some (.inr (.inr (5, 0, 0))), some (.inl u), some (.inl v)], [], (I, J, R)) (fun r W => tkDn tm_176 (0, [some (.inr (.inr (6, 0, 0))), some (.inl u), some (.inl v)], [], W) (Fin c r)) := by
  have hM := A.1.1
  have hG := A.1.2.2.1
  refine sx_edge A.1 C (fun hn I' J' R' C' h6 j6 => ?_) (fun h1 h2 x k e v2 hw I' J' R' C' h6 j6 => ?_)
  · have M' := M.to h6 j6
    refine sm_edge M'.1 A.1 M'.2.2.1 M'.2.2.2.1 (fun X N h11 hK hX => ?_)
    exact ⟨by rw [if_neg (fun q => hn ⟨q.1, q.2.1⟩)], S, z, B, on, T, t, A.c, C'.m X N, M'.kn h11 hK hX⟩
  · have M' := M.to h6 j6
    refine sm_edge M'.1 A.1 M'.2.2.1 M'.2.2.2.1 (fun X N h11 hK hX => ?_)
    have hK2 := hK
    obtain ⟨x', k', e', v', d1, d2, d3, d4, d5⟩ := hK2
    have q := wk_eq A.1 hw d1
    refine ⟨?_, S, z, B, on, T, t, A.c, C'.m X N, M'.kn h11 hK hX⟩
    obtain ⟨i, hi, ei, ci⟩ := hasM_nat A.1.1 h1
    obtain ⟨j, hj2, ej⟩ := nI_of (Int32.not_lt.mpr h2.1)
    have hj : j < sM S := by have := h2.2; rw [ej] at this; exact (nI_ltI hj2 (by omega)).mp this
    have cj : v.toNatClampNeg = j := by rw [ej, nI_clamp hj2]
    rw [ci, cj]
    by_cases y : x = 1
    · have y' : X 0 29 = 1 := by rw [d2, ← q.1, if_pos y]
      have q3 := q.2.2 (by rw [y]; decide)
      rw [if_pos ⟨h1, h2, y'⟩, if_pos y, d4 i j (by omega) (by omega), q3.1, exM_in' ⟨hi, hj⟩]
    · have y' : ¬ X 0 29 = 1 := by rw [d2, ← q.1, if_neg y]; decide
      rw [if_neg (fun z => y' z.2.2), if_neg y]
set_option maxRecDepth 8000 in
theorem pr_wait {c : Nat} {S : tkS} {z : Nat} {B : Nat → Int32} {on : Int32} {T : Nat → Int32} {t : Int32} {I : tkI} {J : tkJ} {R : Nat → Nat} (A : AInv c S z on T t) (C : CInv S z B on T t I J R) (M : MInv S z B on T t I J) {u v : Int32} : tkDn tm_115 (0, [some (.inr (.inr (5, 0, 0))), some (.inl u), some (.inl v)], [], (I, J, R)) (fun r W => tkDn tm_177 (0, [some (.inr (.inr (6, 0, 0))), some (.inl u), some (.inl v)], [], W) (Fin c r)) := by
  have hM := A.1.1
  have hG := A.1.2.2.1
  refine sx_wait A.1 C (fun hn I' J' R' C' h6 j6 => ?_) (fun h1 h2 x k e v2 hw I' J' R' C' h6 j6 => ?_)
  · have M' := M.to h6 j6
    refine sm_wait M'.1 A.1 M'.2.2.1 M'.2.2.2.1 (fun X N h11 hK hX => ?_)
    exact ⟨by rw [if_neg (fun q => hn ⟨q.1, q.2.1⟩)], S, z, B, on, T, t, A.c, C'.m X N, M'.kn h11 hK hX⟩
  · have M' := M.to h6 j6
    refine sm_wait M'.1 A.1 M'.2.2.1 M'.2.2.2.1 (fun X N h11 hK hX => ?_)
    have hK2 := hK
    obtain ⟨x', k', e', v', d1, d2, d3, d4, d5⟩ := hK2
    have q := wk_eq A.1 hw d1
    refine ⟨?_, S, z, B, on, T, t, A.c, C'.m X N, M'.kn h11 hK hX⟩
    obtain ⟨i, hi, ei, ci⟩ := hasM_nat A.1.1 h1
    obtain ⟨j, hj2, ej⟩ := nI_of (Int32.not_lt.mpr h2.1)
    have hj : j < sG S := by have := h2.2; rw [ej] at this; exact (nI_ltI hj2 (by omega)).mp this
    have cj : v.toNatClampNeg = j := by rw [ej, nI_clamp hj2]
    rw [ci, cj]
    by_cases y : x = 1
    · have y' : X 0 29 = 1 := by rw [d2, ← q.1, if_pos y]
      have q3 := q.2.2 (by rw [y]; decide)
      rw [if_pos ⟨h1, h2, y'⟩, if_pos y, d5 i j (by omega) (by omega), q3.2]
    · have y' : ¬ X 0 29 = 1 := by rw [d2, ← q.1, if_neg y]; decide
      rw [if_neg (fun z => y' z.2.2), if_neg y]
set_option maxRecDepth 8000 in
theorem pr_start {c : Nat} {S : tkS} {z : Nat} {B : Nat → Int32} {on : Int32} {T : Nat → Int32} {t : Int32} {I : tkI} {J : tkJ} {R : Nat → Nat} (A : AInv c S z on T t) (C : CInv S z B on T t I J R) (M : MInv S z B on T t I J) : tkDn tm_116 (0, [some (.inr (.inr (5, 0, 0)))], [], (I, J, R)) (fun r W => tkDn tm_178 (0, [some (.inr (.inr (6, 0, 0))), none], [], W) (Fin c r)) := by
  refine sx_start A.1 C (fun x k e v hw hx I' J' R' C' h6 j6 => ?_) (fun k e v hw I' J' R' C' h6 j6 => ?_)
  · have M' := M.to h6 j6
    refine sm_start M'.1 A.1 M'.2.2.1 M'.2.2.2.1 (fun X N h11 hK hX h29 => ?_) (fun {X} Y N g11 hK hX h29 g33 g10 g31 gY => ?_)
    · exact ⟨rfl, S, z, B, on, T, t, A.c, C'.m X N, M'.kn h11 hK hX⟩
    · obtain ⟨x', k', e', v', d1, d2, d3, d4, d5⟩ := hK
      have q := wk_eq A.1 hw d1
      rw [d2, ← q.1, if_neg hx] at h29
      exact absurd h29 (by decide)
  · have M' := M.to h6 j6
    refine sm_start M'.1 A.1 M'.2.2.1 M'.2.2.2.1 (fun X N h11 hK hX h29 => ?_) (fun {X} Y N g11 hK hX h29 g33 g10 g31 gY => ?_)
    · obtain ⟨x', k', e', v', d1, d2, d3, d4, d5⟩ := hK
      have q := wk_eq A.1 hw d1
      rw [d2, ← q.1, if_pos rfl] at h29
      exact absurd h29 (by decide)
    · refine ⟨rfl, S, z, B, 1, fun _ => -9, 0, ⟨A.1, A.2.1, Or.inr rfl, fun _ _ => Or.inl rfl, fun _ => ⟨⟨k, e, v, hw⟩, 0, rfl, Nat.zero_le _, fun _ _ => Or.inl rfl⟩⟩, C'.m Y N, ?_⟩
      obtain ⟨m1, m2, m3, m4, m5, m6, m7, m8⟩ := M'
      unfold MInv
      dsimp only
      rw [tk_so_same, tk_so_same]
      exact ⟨NetP_to (hX.net m1) (fun k hk => gY 0 k (by decide) (by omega)) (fun s h4 h9 => funext fun j => gY s j (by omega) (by omega)), (m2.to (hX 0 13 (by omega)) (fun j => hX 13 j (by omega))).to (gY 0 13 (by decide) (by omega)) (fun j => gY 13 j (by decide) (by omega)), Or.inr g11, fun _ => hK.to (gY 0 29 (by decide) (by omega)) (gY 0 30 (by decide) (by omega)) rfl rfl, g10, g33, g31, fun _ => g11⟩
set_option maxRecDepth 8000 in
theorem AInv.t9 {c : Nat} {S : tkS} {z : Nat} {on : Int32} {T : Nat → Int32} {t : Int32} (A : AInv c S z on T t) (hc : c ≤ 600) (o : on = 1) : 0 ≤ t ∧ ¬ t = -9 := by
  obtain ⟨-, n, h1, h2, -⟩ := A.2.2.2.2 o
  have h3 : 0 ≤ t := by rw [h1]; exact nI_pos' (by omega)
  exact ⟨h3, fun q => by rw [q] at h3; exact absurd h3 (by decide)⟩
set_option maxRecDepth 8000 in
theorem pr_came {c : Nat} {S : tkS} {z : Nat} {B : Nat → Int32} {on : Int32} {T : Nat → Int32} {t : Int32} {I : tkI} {J : tkJ} {R : Nat → Nat} (A : AInv c S z on T t) (C : CInv S z B on T t I J R) (M : MInv S z B on T t I J) {u : Int32} : tkDn tm_120 (0, [some (.inr (.inr (5, 0, 0))), some (.inl u)], [], (I, J, R)) (fun r W => tkDn tm_186 (0, [some (.inr (.inr (6, 0, 0))), some (.inl u)], [], W) (Fin c r)) := by
  refine sx_came A.1 C A.2.2.1 (fun hn I' J' R' C' h6 j6 => ?_) (fun hs I' J' R' C' h6 j6 => ?_) (fun h1 h2 I' J' R' C' h6 j6 => ?_)
  · have M' := M.to h6 j6
    exact sm_came M'.2.2.2.2.2.1 A.2.2.2.1 M'.1 A.1 M'.2.2.2.2.2.2.1 M'.2.2.2.2.1 A.2.2.1 ⟨by rw [if_neg hn], S, z, B, on, T, t, A.c, C', M'⟩
  · have M' := M.to h6 j6
    exact sm_came M'.2.2.2.2.2.1 A.2.2.2.1 M'.1 A.1 M'.2.2.2.2.2.2.1 M'.2.2.2.2.1 A.2.2.1 ⟨by rw [if_pos hs.1, if_neg hs.2], S, z, B, on, T, t, A.c, C', M'⟩
  · have M' := M.to h6 j6
    exact sm_came M'.2.2.2.2.2.1 A.2.2.2.1 M'.1 A.1 M'.2.2.2.2.2.2.1 M'.2.2.2.2.1 A.2.2.1 ⟨by rw [if_pos h1, if_pos h2], S, z, B, on, T, t, A.c, C', M'⟩
set_option maxRecDepth 8000 in
theorem pr_now {c : Nat} {S : tkS} {z : Nat} {B : Nat → Int32} {on : Int32} {T : Nat → Int32} {t : Int32} {I : tkI} {J : tkJ} {R : Nat → Nat} (A : AInv c S z on T t) (C : CInv S z B on T t I J R) (M : MInv S z B on T t I J) : tkDn tm_122 (0, [some (.inr (.inr (5, 0, 0)))], [], (I, J, R)) (fun r W => tkDn tm_188 (0, [some (.inr (.inr (6, 0, 0)))], [], W) (Fin c r)) := by
  refine sx_now A.1 C A.2.2.1 (fun hs I' J' R' C' h6 j6 => ?_) (fun h1 I' J' R' C' h6 j6 => ?_)
  · have M' := M.to h6 j6
    exact sm_now M'.2.2.2.2.2.2.1 M'.2.2.2.2.1 A.2.2.1 ⟨by rw [if_neg hs], S, z, B, on, T, t, A.c, C', M'⟩
  · have M' := M.to h6 j6
    exact sm_now M'.2.2.2.2.2.2.1 M'.2.2.2.2.1 A.2.2.1 ⟨by rw [if_pos h1], S, z, B, on, T, t, A.c, C', M'⟩
set_option maxRecDepth 8000 in
theorem pr_check {c : Nat} {S : tkS} {z : Nat} {B : Nat → Int32} {on : Int32} {T : Nat → Int32} {t : Int32} {I : tkI} {J : tkJ} {R : Nat → Nat} (A : AInv c S z on T t) (C : CInv S z B on T t I J R) (M : MInv S z B on T t I J) : tkDn tm_123 (0, [some (.inr (.inr (5, 0, 0))), none], [], (I, J, R)) (fun r W => tkDn tm_189 (0, [some (.inr (.inr (6, 0, 0))), none], [], W) (Fin c r)) := by
  refine sx_check A.1 C A.2.2.1 (fun hs I' J' R' C' h6 j6 => ?_) (fun h1 I' J' R' C' h6 j6 => ?_)
  · have M' := M.to h6 j6
    exact sm_check M'.2.2.2.2.2.1 A.2.2.2.1 M'.1 A.1 M'.2.2.2.2.2.2.1 M'.2.2.2.2.1 A.2.2.1 ⟨by rw [if_neg hs], S, z, B, on, T, t, A.c, C', M'⟩
  · have M' := M.to h6 j6
    exact sm_check M'.2.2.2.2.2.1 A.2.2.2.1 M'.1 A.1 M'.2.2.2.2.2.2.1 M'.2.2.2.2.1 A.2.2.1 ⟨by rw [if_pos h1], S, z, B, on, T, t, A.c, C', M'⟩
set_option maxRecDepth 8000 in
theorem pr_told {c : Nat} {S : tkS} {z : Nat} {B : Nat → Int32} {on : Int32} {T : Nat → Int32} {t : Int32} {I : tkI} {J : tkJ} {R : Nat → Nat} (A : AInv c S z on T t) (C : CInv S z B on T t I J R) (M : MInv S z B on T t I J) {u : Int32} : tkDn tm_124 (0, [some (.inr (.inr (5, 0, 0))), some (.inl u)], [], (I, J, R)) (fun r W => tkDn tm_190 (0, [some (.inr (.inr (6, 0, 0))), some (.inl u), none, none], [], W) (Fin c r)) := by
  refine sx_told A.1 C A.2.2.1 (fun I' J' R' C' h6 j6 => ?_)
  have M' := M.to h6 j6
  exact sm_told M'.2.2.2.2.2.1 A.2.2.2.1 M'.1 A.1 M'.2.2.2.2.1 A.2.2.1 M'.2.1.1 ⟨rfl, S, z, B, on, T, t, A.c, C', M'⟩
set_option maxRecDepth 8000 in
theorem pr_happen {c : Nat} {S : tkS} {z : Nat} {B : Nat → Int32} {on : Int32} {T : Nat → Int32} {t : Int32} {I : tkI} {J : tkJ} {R : Nat → Nat} (A : AInv c S z on T t) (C : CInv S z B on T t I J R) (M : MInv S z B on T t I J) {u : Int32} (hc : c ≤ 600) : tkDn tm_117 (0, [some (.inr (.inr (5, 0, 0))), some (.inl u)], [], (I, J, R)) (fun r W => tkDn tm_183 (0, [some (.inr (.inr (6, 0, 0))), some (.inl u), none], [], W) (Fin c r)) := by
  refine sx_happen A.1 C A.2.2.1 (fun o => (A.t9 hc o).2) (fun hn I' J' R' C' h6 j6 => ?_) (fun hs I' J' R' C' h6 j6 => ?_) (fun h1 h2 h3 I' J' R' C' h6 j6 => ?_)
  · have M' := M.to h6 j6
    exact sm_happen M'.2.2.2.2.2.1 A.2.2.2.1 M'.1 A.1 M'.2.2.2.2.2.2.1 M'.2.2.2.2.1 A.2.2.1 (fun _ => ⟨rfl, S, z, B, on, T, t, A.c, C', M'⟩) (fun q => absurd q hn) (fun q => absurd q hn)
  · have M' := M.to h6 j6
    exact sm_happen M'.2.2.2.2.2.1 A.2.2.2.1 M'.1 A.1 M'.2.2.2.2.2.2.1 M'.2.2.2.2.1 A.2.2.1 (fun q => absurd hs.1 q) (fun _ _ => ⟨rfl, S, z, B, on, T, t, A.c, C', M'⟩) (fun _ q1 q2 => absurd ⟨q1, q2⟩ hs.2)
  · have M' := M.to h6 j6
    refine sm_happen M'.2.2.2.2.2.1 A.2.2.2.1 M'.1 A.1 M'.2.2.2.2.2.2.1 M'.2.2.2.2.1 A.2.2.1 (fun q => absurd h1 q) (fun _ q => absurd ⟨h2, h3⟩ q) (fun _ _ _ => ⟨rfl, S, z, B, 1, tk_u1 T u.toNatClampNeg t, t, ?_, C'.m1 _, ?_⟩)
    · obtain ⟨a1, a2, a3, a4, a5⟩ := A
      obtain ⟨b1, n, b2, b3, b4⟩ := a5 h2
      have h0 := (AInv.t9 ⟨a1, a2, a3, a4, a5⟩ hc h2).1
      refine ⟨a1, a2, Or.inr rfl, a4.u h0, fun _ => ⟨b1, n, b2, by omega, fun j hj => ?_⟩⟩
      by_cases q : j = u.toNatClampNeg
      · rw [q, tk_u1_same]; exact Or.inr ⟨n, Nat.le_refl _, b2⟩
      · rw [tk_u1_ne q]; exact b4 j hj
    · obtain ⟨m1, m2, m3, m4, m5, m6, m7, m8⟩ := M'
      unfold MInv
      dsimp only
      rw [tk_so_same]
      refine ⟨NetP_to m1 (fun k hk => tk_u2_0 (by omega)) (fun s h4 h9 => tk_u2_ne (by omega)), m2.to (tk_u2_0 (by omega)) (fun j => tk_u2_0 (by omega)), by rw [tk_u2_0 (by omega)]; exact m3, fun y => (m4 (by rw [tk_u2_0 (by omega)] at y; exact y)).to (tk_u2_0 (by omega)) (tk_u2_0 (by omega)) rfl rfl, by rw [tk_u2_0 (by omega)]; exact m5.trans h2, fun j hj => ?_, by rw [tk_u2_0 (by omega)]; exact m7, fun _ => by rw [tk_u2_0 (by omega)]; exact m8 h2⟩
      rw [tk_u2_at]
      by_cases q : j = u.toNatClampNeg
      · rw [q, tk_u1_same, tk_u1_same]
      · rw [tk_u1_ne q, tk_u1_ne q]; exact m6 j hj
set_option maxRecDepth 8000 in
theorem pr_may {c : Nat} {S : tkS} {z : Nat} {B : Nat → Int32} {on : Int32} {T : Nat → Int32} {t : Int32} {I : tkI} {J : tkJ} {R : Nat → Nat} (A : AInv c S z on T t) (C : CInv S z B on T t I J R) (M : MInv S z B on T t I J) {u : Int32} : tkDn tm_121 (0, [some (.inr (.inr (5, 0, 0))), some (.inl u)], [], (I, J, R)) (fun r W => tkDn tm_187 (0, [some (.inr (.inr (6, 0, 0))), some (.inl u)], [], W) (Fin c r)) := by
  obtain ⟨e, v, x1, x2, x3, x4⟩ := tabs A C M
  refine sx_may A.1 C A.2.2.1 x1 x2 (fun hn I' J' R' C' h6 j6 => ?_) (fun hs I' J' R' C' h6 j6 => ?_) (fun h1 h2 I' J' R' C' h6 j6 => ?_)
  · have M' := M.to h6 j6
    rw [← j6] at x3 x4
    exact sm_may M'.2.2.2.2.2.1 A.2.2.2.1 M'.1 A.1 M'.2.2.2.2.2.2.1 M'.2.2.2.2.1 A.2.2.1 x3 x4 (fun N hN => ⟨by rw [if_neg hn], S, z, B, on, T, t, A.c, C'.m2 N, M'.j hN⟩)
  · have M' := M.to h6 j6
    rw [← j6] at x3 x4
    exact sm_may M'.2.2.2.2.2.1 A.2.2.2.1 M'.1 A.1 M'.2.2.2.2.2.2.1 M'.2.2.2.2.1 A.2.2.1 x3 x4 (fun N hN => ⟨by rw [if_pos hs.1, if_neg hs.2], S, z, B, on, T, t, A.c, C'.m2 N, M'.j hN⟩)
  · have M' := M.to h6 j6
    rw [← j6] at x3 x4
    exact sm_may M'.2.2.2.2.2.1 A.2.2.2.1 M'.1 A.1 M'.2.2.2.2.2.2.1 M'.2.2.2.2.1 A.2.2.1 x3 x4 (fun N hN => ⟨by rw [if_pos h1, if_pos h2], S, z, B, on, T, t, A.c, C'.m2 N, M'.j hN⟩)
set_option maxRecDepth 8000 in
theorem sm_goOn0 {I : tkI} {J : tkJ} {R : Nat → Nat} {Q : tkQ} (h : I 6 0 0 10 = 0) (hQ : Q (some (.inl (-13))) (I, J, R)) : tkDn tm_184 (0, [some (.inr (.inr (6, 0, 0))), none, none], [], (I, J, R)) Q := by
  refine dn_run 2 (show tkDn tm_184 (4, [some (.inr (.inr (6, 0, 0))), none, none], [.inl (I 6 0 0 10)], (I, J, R)) _ from ?_)
  rw [h]
  show tkDn tm_184 (4, [some (.inr (.inr (6, 0, 0))), none, none], [.inl 0], (I, J, R)) _
  refine dn_if rfl rfl rfl (fun (c : ((0 : Int32) = 0 : Prop)) => ?_) (fun (c : (¬ (0 : Int32) = 0 : Prop)) => ?_)
  · show tkDn tm_184 (18, [some (.inr (.inr (6, 0, 0))), none, none], [], (I, J, R)) _
    refine dn_run 1 (show tkDn tm_184 (20, [some (.inr (.inr (6, 0, 0))), none, none], [.inl (-13)], (I, J, R)) _ from ?_)
    refine dn_ret0 rfl rfl rfl rfl ?_
    exact hQ
  · exact absurd rfl c
set_option maxRecDepth 8000 in
theorem sm_idle0 {I : tkI} {J : tkJ} {R : Nat → Nat} {Q : tkQ} {n0 : Int32} (h : I 6 0 0 10 = 0) (hQ0 : ¬ (0 ≤ n0 ∧ n0 ≤ 200000) → Q (some (.inl (-12))) (I, J, R)) (hQ : (0 ≤ n0 ∧ n0 ≤ 200000) → Q (some (.inl (-13))) (I, J, R)) : tkDn tm_185 (0, [some (.inr (.inr (6, 0, 0))), some (.inl n0), none, none, none, none, none], [], (I, J, R)) Q := by
  refine dn_run 3 (show tkDn tm_185 (5, [some (.inr (.inr (6, 0, 0))), some (.inl n0), none, none, none, none, none], [.inl 200000, .inl 0, .inl n0], (I, J, R)) _ from ?_)
  refine dn_call rfl rfl rfl rfl rfl (sm_in ?_)
  show tkDn tm_185 (8, [some (.inr (.inr (6, 0, 0))), some (.inl n0), none, none, none, none, none], [.inl (if 0 ≤ n0 ∧ n0 ≤ 200000 then 1 else 0)], (I, J, R)) _
  refine dn_if rfl rfl rfl (fun (c0 : ¬ (if 0 ≤ n0 ∧ n0 ≤ 200000 then 1 else 0) = 0) => ?_) (fun (c0 : (if 0 ≤ n0 ∧ n0 ≤ 200000 then 1 else 0) = 0) => ?_)
  · show tkDn tm_185 (14, [some (.inr (.inr (6, 0, 0))), some (.inl n0), none, none, none, none, none], [], (I, J, R)) _
    refine dn_run 2 (show tkDn tm_185 (18, [some (.inr (.inr (6, 0, 0))), some (.inl n0), none, none, none, none, none], [.inl (I 6 0 0 10)], (I, J, R)) _ from ?_)
    rw [h]
    show tkDn tm_185 (18, [some (.inr (.inr (6, 0, 0))), some (.inl n0), none, none, none, none, none], [.inl 0], (I, J, R)) _
    refine dn_if rfl rfl rfl (fun (c : ((0 : Int32) = 0 : Prop)) => ?_) (fun (c : (¬ (0 : Int32) = 0 : Prop)) => ?_)
    · show tkDn tm_185 (32, [some (.inr (.inr (6, 0, 0))), some (.inl n0), none, none, none, none, none], [], (I, J, R)) _
      refine dn_run 1 (show tkDn tm_185 (34, [some (.inr (.inr (6, 0, 0))), some (.inl n0), none, none, none, none, none], [.inl (-13)], (I, J, R)) _ from ?_)
      refine dn_ret0 rfl rfl rfl rfl ?_
      exact hQ (Classical.byContradiction fun q => c0 (if_neg q))
    · exact absurd rfl c
  · show tkDn tm_185 (11, [some (.inr (.inr (6, 0, 0))), some (.inl n0), none, none, none, none, none], [], (I, J, R)) _
    refine dn_run 1 (show tkDn tm_185 (13, [some (.inr (.inr (6, 0, 0))), some (.inl n0), none, none, none, none, none], [.inl (-12)], (I, J, R)) _ from ?_)
    refine dn_ret0 rfl rfl rfl rfl ?_
    exact hQ0 (fun q => absurd (c0.symm.trans (if_pos q)) (by decide))
set_option maxRecDepth 8000 in
theorem pr_goOn {c : Nat} {S : tkS} {z : Nat} {B : Nat → Int32} {on : Int32} {T : Nat → Int32} {t : Int32} {I : tkI} {J : tkJ} {R : Nat → Nat} (A : AInv c S z on T t) (C : CInv S z B on T t I J R) (M : MInv S z B on T t I J) (hc : c ≤ 600) : tkDn tm_118 (0, [some (.inr (.inr (5, 0, 0)))], [], (I, J, R)) (fun r W => tkDn tm_184 (0, [some (.inr (.inr (6, 0, 0))), none, none], [], W) (Fin c r)) := by
  have hb := A.2.2.1
  obtain ⟨e, v, x1, x2, x3, x4⟩ := tabs A C M
  refine sx_goOn A.1 C hb x1 x2 (fun o => (A.t9 hc o).2) (fun hs I' J' R' C' h6 j6 => ?_) (fun o nl I' J' R' C' h6 j6 => ?_)
  · have M' := M.to h6 j6
    rw [← j6] at x3 x4
    rcases hb with hb | hb
    · exact sm_goOn0 (M'.2.2.2.2.1.trans hb) ⟨rfl, S, z, B, on, T, t, A.c, C', M'⟩
    · exact sm_goOn M'.2.2.2.2.2.1 A.2.2.2.1 M'.1 A.1 x3 x4 M'.2.2.2.2.2.2.1 (A.t9 hc hb).1 M'.2.2.2.2.1 A.2.2.1 (fun _ => ⟨rfl, S, z, B, on, T, t, A.c, C', M'⟩) (fun q1 q2 => absurd hs (fun y => y.elim (fun y => y q1) q2))
  · have M' := M.to h6 j6
    rw [← j6] at x3 x4
    refine sm_goOn M'.2.2.2.2.2.1 A.2.2.2.1 M'.1 A.1 x3 x4 M'.2.2.2.2.2.2.1 (A.t9 hc o).1 M'.2.2.2.2.1 A.2.2.1 (fun q => absurd q (fun y => y.elim (fun y => y o) nl)) (fun _ _ X N g33 g31 gX gN => ⟨rfl, S, z, B, 1, (goF S e v t 16 T).2, t + 1, ?_, C'.m X N, ?_⟩)
    · obtain ⟨a1, a2, a3, a4, a5⟩ := A
      obtain ⟨b1, n, b2, b3, b4⟩ := a5 o
      have h0 := (AInv.t9 ⟨a1, a2, a3, a4, a5⟩ hc o).1
      refine ⟨a1, a2, Or.inr rfl, fun j hj => ?_, fun _ => ⟨b1, n + 1, by rw [b2, nI_1], by omega, fun j hj => ?_⟩⟩
      · rcases goF_ok (S := S) (e := e) (v := v) (t := t) 16 T j with q | q
        · rw [q]; exact a4 j hj
        · rw [q]; exact Or.inr h0
      · rcases goF_ok (S := S) (e := e) (v := v) (t := t) 16 T j with q | q
        · rw [q]
          rcases b4 j hj with y | ⟨k, hk, y⟩
          · exact Or.inl y
          · exact Or.inr ⟨k, by omega, y⟩
        · rw [q]; exact Or.inr ⟨n, by omega, b2⟩
    · obtain ⟨m1, m2, m3, m4, m5, m6, m7, m8⟩ := M'
      unfold MInv
      dsimp only
      rw [tk_so_same, tk_so_same]
      exact ⟨NetP_to m1 (fun k hk => gX 0 k (by decide) (by omega)) (fun s h4 h9 => funext fun j => gX s j (by omega) (by omega)), m2.to (gX 0 13 (by decide) (by omega)) (fun j => gX 13 j (by decide) (by omega)), by rw [gX 0 11 (by decide) (by omega)]; exact m3, fun y => (m4 (by rw [gX 0 11 (by decide) (by omega)] at y; exact y)).to (gX 0 29 (by decide) (by omega)) (gX 0 30 (by decide) (by omega)) (gN 24 (by decide)) (gN 25 (by decide)), by rw [gX 0 10 (by decide) (by omega)]; exact m5.trans o, g33, g31, fun _ => by rw [gX 0 11 (by decide) (by omega)]; exact m8 o⟩
set_option maxRecDepth 8000 in
theorem pr_idle {c : Nat} {S : tkS} {z : Nat} {B : Nat → Int32} {on : Int32} {T : Nat → Int32} {t : Int32} {I : tkI} {J : tkJ} {R : Nat → Nat} (A : AInv c S z on T t) (C : CInv S z B on T t I J R) (M : MInv S z B on T t I J) {n : Int32} (hc : c ≤ 600) : tkDn tm_119 (0, [some (.inr (.inr (5, 0, 0))), some (.inl n)], [], (I, J, R)) (fun r W => tkDn tm_185 (0, [some (.inr (.inr (6, 0, 0))), some (.inl n), none, none, none, none, none], [], W) (Fin c r)) := by
  have hb := A.2.2.1
  obtain ⟨e, v, x1, x2, x3, x4⟩ := tabs A C M
  refine sx_idle A.1 C hb x1 x2 (fun hn I' J' R' C' h6 j6 => ?_) (fun hr hs I' J' R' C' h6 j6 => ?_) (fun hn o nl I' J' R' C' h6 j6 => ?_)
  · have M' := M.to h6 j6
    rw [← j6] at x3 x4
    rcases hb with hb | hb
    · exact sm_idle0 (M'.2.2.2.2.1.trans hb) (fun _ => ⟨rfl, S, z, B, on, T, t, A.c, C', M'⟩) (fun q => absurd q hn)
    · exact sm_idle2 M'.2.2.2.2.2.1 A.2.2.2.1 M'.1 A.1 x3 x4 M'.2.2.2.2.2.2.1 (A.t9 hc hb).1 M'.2.2.2.2.1 A.2.2.1 (fun _ => ⟨rfl, S, z, B, on, T, t, A.c, C', M'⟩) (fun q => absurd q hn) (fun q => absurd q hn)
  · have M' := M.to h6 j6
    rw [← j6] at x3 x4
    rcases hb with hb | hb
    · exact sm_idle0 (M'.2.2.2.2.1.trans hb) (fun q => absurd hr q) (fun _ => ⟨rfl, S, z, B, on, T, t, A.c, C', M'⟩)
    · exact sm_idle2 M'.2.2.2.2.2.1 A.2.2.2.1 M'.1 A.1 x3 x4 M'.2.2.2.2.2.2.1 (A.t9 hc hb).1 M'.2.2.2.2.1 A.2.2.1 (fun q => absurd hr q) (fun _ _ => ⟨rfl, S, z, B, on, T, t, A.c, C', M'⟩) (fun _ q1 q2 => absurd hs (fun y => y.elim (fun y => y q1) q2))
  · have M' := M.to h6 j6
    rw [← j6] at x3 x4
    refine sm_idle2 M'.2.2.2.2.2.1 A.2.2.2.1 M'.1 A.1 x3 x4 M'.2.2.2.2.2.2.1 (A.t9 hc o).1 M'.2.2.2.2.1 A.2.2.1 (fun q => absurd hn q) (fun _ q => absurd q (fun y => y.elim (fun y => y o) nl)) (fun _ _ _ N gN => ⟨rfl, S, z, B, 1, T, t + (paF S e v T t n - t.toInt64).toInt32, ?_, C'.m _ N, ?_⟩)
    · obtain ⟨a1, a2, a3, a4, a5⟩ := A
      obtain ⟨b1, m, b2, b3, b4⟩ := a5 o
      rw [b2] at nl
      obtain ⟨d, hd, hp⟩ := idle_b (e := e) (v := v) a1 (by omega) b4 hn nl
      rw [← b2] at hp
      refine ⟨a1, a2, Or.inr rfl, a4, fun _ => ⟨b1, m + d, ?_, by omega, fun j hj => ?_⟩⟩
      · rw [idle_t]; exact idle_n (by omega) (by rw [hp]; omega)
      · rcases b4 j hj with y | ⟨k, hk, y⟩
        · exact Or.inl y
        · exact Or.inr ⟨k, by omega, y⟩
    · obtain ⟨m1, m2, m3, m4, m5, m6, m7, m8⟩ := M'
      unfold MInv
      dsimp only
      rw [tk_so_same, tk_so_same, idle_t]
      exact ⟨NetP_to m1 (fun k hk => tk_u2_0 (by omega)) (fun s h4 h9 => tk_u2_ne (by omega)), m2.to (tk_u2_0 (by omega)) (fun j => tk_u2_0 (by omega)), by rw [tk_u2_0 (by omega)]; exact m3, fun y => (m4 (by rw [tk_u2_0 (by omega)] at y; exact y)).to (tk_u2_0 (by omega)) (tk_u2_0 (by omega)) (gN 24 (by decide)) (gN 25 (by decide)), by rw [tk_u2_0 (by omega)]; exact m5.trans o, fun j hj => by rw [tk_u2_ne (by decide)]; exact m6 j hj, by rw [tk_u2_1], fun _ => by rw [tk_u2_0 (by omega)]; exact m8 o⟩
