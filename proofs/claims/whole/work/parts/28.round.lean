/-! Waits.doRound -/
set_option maxRecDepth 8000 in
theorem sw_doRound {I : tkI} {J : tkJ} {R : Nat → Nat} {Q : tkQ} {b : Nat} {S : tkS} (hP : NetP (I 1 b) S) (w : WF S) {e v : tkD} {N : Nat → Nat → Int64} (he : RowP 16 (N 1) e) (hv : WRow (N 4) v) (hQ : ∀ N2 {x e2 v2}, RowP 16 (N2 1) e2 → WRow (N2 4) v2 → RdP S e v x e2 v2 → Q (some (.inl x)) (I, tk_so J 4 0 N2, R)) : tkDn tm_88 (0, [some (.inr (.inr (4, 0, 0))), some (.inr (.inr (1, b, 0)))], [], (I, tk_so J 4 0 N, R)) Q := by
  have hM16 := w.1
  refine dn_run 4 (show tkDn tm_88 (8, [some (.inr (.inr (4, 0, 0))), some (.inr (.inr (1, b, 0)))], [.inr (.inr (4, 0, 2)), .inr (.inr (4, 0, 1))], (I, tk_so J 4 0 N, R)) _ from ?_)
  refine dn_call rfl rfl rfl rfl rfl (sw_copy_1_2 (fun r1 hr1 => ?_))
  rw [tk_so_so]
  rw [tk_so_same]
  rw [tk_so_same] at hr1
  show tkDn tm_88 (11, [some (.inr (.inr (4, 0, 0))), some (.inr (.inr (1, b, 0)))], [], (I, tk_so J 4 0 (tk_u1 N 2 r1), R)) _
  obtain ⟨N1, hN1⟩ : ∃ N1, N1 = tk_u1 N 2 r1 := ⟨_, rfl⟩
  rw [← hN1]
  show tkDn tm_88 (11, [some (.inr (.inr (4, 0, 0))), some (.inr (.inr (1, b, 0)))], [], (I, tk_so J 4 0 N1, R)) _
  refine dn_run 4 (show tkDn tm_88 (19, [some (.inr (.inr (4, 0, 0))), some (.inr (.inr (1, b, 0)))], [.inr (.inr (4, 0, 5)), .inr (.inr (4, 0, 4))], (I, tk_so J 4 0 N1, R)) _ from ?_)
  refine dn_call rfl rfl rfl rfl rfl (sw_copy_4_5 (fun r2 hr2 => ?_))
  rw [tk_so_so]
  rw [tk_so_same]
  rw [tk_so_same] at hr2
  show tkDn tm_88 (22, [some (.inr (.inr (4, 0, 0))), some (.inr (.inr (1, b, 0)))], [], (I, tk_so J 4 0 (tk_u1 N1 5 r2), R)) _
  obtain ⟨N2, hN2⟩ : ∃ N2, N2 = tk_u1 N1 5 r2 := ⟨_, rfl⟩
  rw [← hN2]
  show tkDn tm_88 (22, [some (.inr (.inr (4, 0, 0))), some (.inr (.inr (1, b, 0)))], [], (I, tk_so J 4 0 N2, R)) _
  have h21 : N2 1 = N 1 := by rw [hN2, tk_u1_ne (by decide), hN1, tk_u1_ne (by decide)]
  have h24 : N2 4 = N 4 := by rw [hN2, tk_u1_ne (by decide), hN1, tk_u1_ne (by decide)]
  have h22 : RowP 16 (N2 2) e := by rw [hN2, tk_u1_ne (by decide), hN1, tk_u1_same]; exact he.cp hr1
  have h25 : WRow (N2 5) v := by rw [hN2, tk_u1_same]; exact hv.cp (fun j hj => by rw [hr2 j hj, hN1, tk_u1_ne (by decide)])
  have he2 : RowP 16 (N2 1) e := by rw [h21]; exact he
  have hv2 : WRow (N2 4) v := by rw [h24]; exact hv
  refine dn_run 3 (show tkDn tm_88 (27, [some (.inr (.inr (4, 0, 0))), some (.inr (.inr (1, b, 0)))], [.inr (.inr (1, b, 0)), .inr (.inr (4, 0, 1))], (I, tk_so J 4 0 N2, R)) _ from ?_)
  refine dn_call rfl rfl rfl rfl rfl (sN_momentCount hP ?_)
  show tkDn tm_88 (30, [some (.inr (.inr (4, 0, 0))), some (.inr (.inr (1, b, 0)))], [.inl (nI (sM S)), .inr (.inr (4, 0, 1))], (I, tk_so J 4 0 N2, R)) _
  refine dn_call rfl rfl rfl rfl rfl (ss_close_4_1 (d := e) hM16 he2 (fun r3 hr3 => ?_))
  rw [tk_so_so, tk_so_same]
  show tkDn tm_88 (33, [some (.inr (.inr (4, 0, 0))), some (.inr (.inr (1, b, 0)))], [.inl (if (clF e (sM S)).1 = true then 1 else 0)], (I, tk_so J 4 0 (tk_u1 N2 1 r3), R)) _
  obtain ⟨N3, hN3⟩ : ∃ N3, N3 = tk_u1 N2 1 r3 := ⟨_, rfl⟩
  rw [← hN3]
  show tkDn tm_88 (33, [some (.inr (.inr (4, 0, 0))), some (.inr (.inr (1, b, 0)))], [.inl (if (clF e (sM S)).1 = true then 1 else 0)], (I, tk_so J 4 0 N3, R)) _
  have he3 : RowP 16 (N3 1) (rdC S e).2 := by rw [hN3, tk_u1_same]; exact hr3
  have hv3 : WRow (N3 4) v := by rw [hN3, tk_u1_ne (by decide)]; exact hv2
  have h32 : N3 2 = N2 2 := by rw [hN3, tk_u1_ne (by decide)]
  have h35 : N3 5 = N2 5 := by rw [hN3, tk_u1_ne (by decide)]
  refine dn_if rfl rfl rfl (fun (c : ¬ (if (clF e (sM S)).1 = true then 1 else 0) = 0) => ?_) (fun (c : (if (clF e (sM S)).1 = true then 1 else 0) = 0) => ?_)
  · show tkDn tm_88 (38, [some (.inr (.inr (4, 0, 0))), some (.inr (.inr (1, b, 0)))], [], (I, tk_so J 4 0 N3, R)) _
    have hc : (rdC S e).1 = true := by by_cases q : (rdC S e).1 = true; exact q; exact absurd (if_neg q) c
    refine dn_run 2 (show tkDn tm_88 (40, [some (.inr (.inr (4, 0, 0))), some (.inr (.inr (1, b, 0)))], [.inr (.inr (1, b, 0)), .inr (.inr (4, 0, 0))], (I, tk_so J 4 0 N3, R)) _ from ?_)
    refine dn_call rfl rfl rfl rfl rfl (sw_carryWaitsAlongEdges (e := (rdC S e).2) (v := v) hP w he3 hv3 (fun N4 hv4 h4 => ?_))
    skip
    show tkDn tm_88 (43, [some (.inr (.inr (4, 0, 0))), some (.inr (.inr (1, b, 0)))], [], (I, tk_so J 4 0 N4, R)) _
    have he4 : RowP 16 (N4 1) (rdC S e).2 := by rw [h4 1 (by decide) (by decide)]; exact he3
    refine dn_run 2 (show tkDn tm_88 (45, [some (.inr (.inr (4, 0, 0))), some (.inr (.inr (1, b, 0)))], [.inr (.inr (1, b, 0)), .inr (.inr (4, 0, 0))], (I, tk_so J 4 0 N4, R)) _ from ?_)
    refine dn_call rfl rfl rfl rfl rfl (sw_turnShort (e := (rdC S e).2) (v := rdV1 S e v) hP w he4 hv4 (fun N5 he5 h5 => ?_))
    skip
    show tkDn tm_88 (48, [some (.inr (.inr (4, 0, 0))), some (.inr (.inr (1, b, 0)))], [], (I, tk_so J 4 0 N5, R)) _
    have hv5 : WRow (N5 4) (rdV1 S e v) := by rw [h5 4 (by decide)]; exact hv4
    refine dn_run 2 (show tkDn tm_88 (50, [some (.inr (.inr (4, 0, 0))), some (.inr (.inr (1, b, 0)))], [.inr (.inr (1, b, 0)), .inr (.inr (4, 0, 0))], (I, tk_so J 4 0 N5, R)) _ from ?_)
    refine dn_call rfl rfl rfl rfl rfl (sw_carryEdges (e := rdE2 S e v) hP w he5 (fun N6 he6 h6 => ?_))
    skip
    show tkDn tm_88 (53, [some (.inr (.inr (4, 0, 0))), some (.inr (.inr (1, b, 0)))], [], (I, tk_so J 4 0 N6, R)) _
    have hv6 : WRow (N6 4) (rdV1 S e v) := by rw [h6 4 (by decide) (by decide)]; exact hv5
    refine dn_run 2 (show tkDn tm_88 (55, [some (.inr (.inr (4, 0, 0))), some (.inr (.inr (1, b, 0)))], [.inr (.inr (1, b, 0)), .inr (.inr (4, 0, 0))], (I, tk_so J 4 0 N6, R)) _ from ?_)
    refine dn_call rfl rfl rfl rfl rfl (sw_carryWaits (v := rdV1 S e v) hP w hv6 (fun N7 hv7 h7 => ?_))
    skip
    show tkDn tm_88 (58, [some (.inr (.inr (4, 0, 0))), some (.inr (.inr (1, b, 0)))], [], (I, tk_so J 4 0 N7, R)) _
    have he7 : RowP 16 (N7 1) (rdE3 S e v) := by rw [h7 1 (by decide) (by decide)]; exact he6
    have h72 : RowP 16 (N7 2) e := by rw [h7 2 (by decide) (by decide), h6 2 (by decide) (by decide), h5 2 (by decide), h4 2 (by decide) (by decide), h32]; exact h22
    have h75 : WRow (N7 5) v := by rw [h7 5 (by decide) (by decide), h6 5 (by decide) (by decide), h5 5 (by decide), h4 5 (by decide) (by decide), h35]; exact h25
    have hd1 : dpF (N7 1) 256 0 = dpF (rowE (rdE3 S e v)) 256 0 := dpF_eq 256 0 (fun i _ hi => he7.eq i (by omega))
    have hd4 : dpF (N7 4) 96 0 = dpF (rowW (rdV2 S e v)) 96 0 := dpF_eq 96 0 (fun i _ hi => hv7.eq i (by omega))
    refine dn_run 2 (show tkDn tm_88 (62, [some (.inr (.inr (4, 0, 0))), some (.inr (.inr (1, b, 0)))], [.inr (.inr (4, 0, 1))], (I, tk_so J 4 0 N7, R)) _ from ?_)
    refine dn_call rfl rfl rfl rfl rfl (sw_deep_1 ?_)
    show tkDn tm_88 (65, [some (.inr (.inr (4, 0, 0))), some (.inr (.inr (1, b, 0)))], [.inl (if dpF (N7 1) 256 0 = true then 1 else 0)], (I, tk_so J 4 0 N7, R)) _
    refine dn_if rfl rfl rfl (fun (c2 : ¬ (if dpF (N7 1) 256 0 = true then 1 else 0) = 0) => ?_) (fun (c2 : (if dpF (N7 1) 256 0 = true then 1 else 0) = 0) => ?_)
    · show tkDn tm_88 (86, [some (.inr (.inr (4, 0, 0))), some (.inr (.inr (1, b, 0)))], [], (I, tk_so J 4 0 N7, R)) _
      refine dn_run 1 (show tkDn tm_88 (87, [some (.inr (.inr (4, 0, 0))), some (.inr (.inr (1, b, 0)))], [.inl 2], (I, tk_so J 4 0 N7, R)) _ from ?_)
      refine dn_ret0 rfl rfl rfl rfl ?_
      have n1 : dpF (rowE (rdE3 S e v)) 256 0 = true := by rw [← hd1]; by_cases q : dpF (N7 1) 256 0 = true; exact q; exact absurd (if_neg q) c2
      refine hQ N7 he7 hv7 (Or.inr ⟨hc, rfl, rfl, Or.inl ⟨Or.inl n1, rfl⟩⟩)
    · show tkDn tm_88 (68, [some (.inr (.inr (4, 0, 0))), some (.inr (.inr (1, b, 0)))], [], (I, tk_so J 4 0 N7, R)) _
      have n1 : ¬ dpF (rowE (rdE3 S e v)) 256 0 = true := fun q => by rw [hd1, if_pos q] at c2; exact absurd c2 (by decide)
      refine dn_run 2 (show tkDn tm_88 (72, [some (.inr (.inr (4, 0, 0))), some (.inr (.inr (1, b, 0)))], [.inr (.inr (4, 0, 4))], (I, tk_so J 4 0 N7, R)) _ from ?_)
      refine dn_call rfl rfl rfl rfl rfl (sw_deep_4 ?_)
      show tkDn tm_88 (75, [some (.inr (.inr (4, 0, 0))), some (.inr (.inr (1, b, 0)))], [.inl (if dpF (N7 4) 96 0 = true then 1 else 0)], (I, tk_so J 4 0 N7, R)) _
      refine dn_if rfl rfl rfl (fun (c3 : ¬ (if dpF (N7 4) 96 0 = true then 1 else 0) = 0) => ?_) (fun (c3 : (if dpF (N7 4) 96 0 = true then 1 else 0) = 0) => ?_)
      · show tkDn tm_88 (86, [some (.inr (.inr (4, 0, 0))), some (.inr (.inr (1, b, 0)))], [], (I, tk_so J 4 0 N7, R)) _
        refine dn_run 1 (show tkDn tm_88 (87, [some (.inr (.inr (4, 0, 0))), some (.inr (.inr (1, b, 0)))], [.inl 2], (I, tk_so J 4 0 N7, R)) _ from ?_)
        refine dn_ret0 rfl rfl rfl rfl ?_
        have n2 : dpF (rowW (rdV2 S e v)) 96 0 = true := by rw [← hd4]; by_cases q : dpF (N7 4) 96 0 = true; exact q; exact absurd (if_neg q) c3
        refine hQ N7 he7 hv7 (Or.inr ⟨hc, rfl, rfl, Or.inl ⟨Or.inr (Or.inl n2), rfl⟩⟩)
      · show tkDn tm_88 (78, [some (.inr (.inr (4, 0, 0))), some (.inr (.inr (1, b, 0)))], [], (I, tk_so J 4 0 N7, R)) _
        have n2 : ¬ dpF (rowW (rdV2 S e v)) 96 0 = true := fun q => by rw [hd4, if_pos q] at c3; exact absurd c3 (by decide)
        refine dn_run 2 (show tkDn tm_88 (80, [some (.inr (.inr (4, 0, 0))), some (.inr (.inr (1, b, 0)))], [.inr (.inr (1, b, 0)), .inr (.inr (4, 0, 0))], (I, tk_so J 4 0 N7, R)) _ from ?_)
        refine dn_call rfl rfl rfl rfl rfl (sw_hasRing (e := rdE3 S e v) (v := rdV2 S e v) hP w he7 hv7 (fun N8 h8 => ?_))
        skip
        show tkDn tm_88 (83, [some (.inr (.inr (4, 0, 0))), some (.inr (.inr (1, b, 0)))], [.inl (if (clF (hrO S (rdV2 S e v) (rdE3 S e v) (sM S) (sG S)) (sM S)).1 = true then 0 else 1)], (I, tk_so J 4 0 N8, R)) _
        have he8 : RowP 16 (N8 1) (rdE3 S e v) := by rw [h8 1 (by decide)]; exact he7
        have hv8 : WRow (N8 4) (rdV2 S e v) := by rw [h8 4 (by decide)]; exact hv7
        have h82 : RowP 16 (N8 2) e := by rw [h8 2 (by decide)]; exact h72
        have h85 : WRow (N8 5) v := by rw [h8 5 (by decide)]; exact h75
        refine dn_if rfl rfl rfl (fun (c4 : (if (clF (hrO S (rdV2 S e v) (rdE3 S e v) (sM S) (sG S)) (sM S)).1 = true then 0 else 1) = 0) => ?_) (fun (c4 : ¬ (if (clF (hrO S (rdV2 S e v) (rdE3 S e v) (sM S) (sG S)) (sM S)).1 = true then 0 else 1) = 0) => ?_)
        · show tkDn tm_88 (88, [some (.inr (.inr (4, 0, 0))), some (.inr (.inr (1, b, 0)))], [], (I, tk_so J 4 0 N8, R)) _
          have n3 : (clF (hrO S (rdV2 S e v) (rdE3 S e v) (sM S) (sG S)) (sM S)).1 = true := by by_cases q : (clF (hrO S (rdV2 S e v) (rdE3 S e v) (sM S) (sG S)) (sM S)).1 = true; exact q; rw [if_neg q] at c4; exact absurd c4 (by decide)
          have nb : ¬ rdBad S e v := fun q => q.elim n1 (fun q => q.elim n2 (fun q => q n3))
          have hs1 : smF (N8 1) (N8 2) 256 0 = smF (rowE (rdE3 S e v)) (rowE e) 256 0 := smF_eq 256 0 (fun i _ hi => ⟨he8.eq i (by omega), h82.eq i (by omega)⟩)
          have hs4 : smF (N8 4) (N8 5) 96 0 = smF (rowW (rdV2 S e v)) (rowW v) 96 0 := smF_eq 96 0 (fun i _ hi => ⟨hv8.eq i (by omega), h85.eq i (by omega)⟩)
          refine dn_run 4 (show tkDn tm_88 (96, [some (.inr (.inr (4, 0, 0))), some (.inr (.inr (1, b, 0)))], [.inr (.inr (4, 0, 2)), .inr (.inr (4, 0, 1))], (I, tk_so J 4 0 N8, R)) _ from ?_)
          refine dn_call rfl rfl rfl rfl rfl (sw_same_1 ?_)
          show tkDn tm_88 (99, [some (.inr (.inr (4, 0, 0))), some (.inr (.inr (1, b, 0)))], [.inl (if smF (N8 1) (N8 2) 256 0 = true then 1 else 0)], (I, tk_so J 4 0 N8, R)) _
          refine dn_if rfl rfl rfl (fun (c5 : (if smF (N8 1) (N8 2) 256 0 = true then 1 else 0) = 0) => ?_) (fun (c5 : ¬ (if smF (N8 1) (N8 2) 256 0 = true then 1 else 0) = 0) => ?_)
          · show tkDn tm_88 (120, [some (.inr (.inr (4, 0, 0))), some (.inr (.inr (1, b, 0)))], [], (I, tk_so J 4 0 N8, R)) _
            refine dn_run 1 (show tkDn tm_88 (121, [some (.inr (.inr (4, 0, 0))), some (.inr (.inr (1, b, 0)))], [.inl 0], (I, tk_so J 4 0 N8, R)) _ from ?_)
            refine dn_ret0 rfl rfl rfl rfl ?_
            refine hQ N8 he8 hv8 (Or.inr ⟨hc, rfl, rfl, Or.inr ⟨nb, Or.inr ⟨fun q => by rw [hs1, if_pos q.1] at c5; exact absurd c5 (by decide), rfl⟩⟩⟩)
          · show tkDn tm_88 (102, [some (.inr (.inr (4, 0, 0))), some (.inr (.inr (1, b, 0)))], [], (I, tk_so J 4 0 N8, R)) _
            have m1 : smF (rowE (rdE3 S e v)) (rowE e) 256 0 = true := by rw [← hs1]; by_cases q : smF (N8 1) (N8 2) 256 0 = true; exact q; exact absurd (if_neg q) c5
            refine dn_run 4 (show tkDn tm_88 (110, [some (.inr (.inr (4, 0, 0))), some (.inr (.inr (1, b, 0)))], [.inr (.inr (4, 0, 5)), .inr (.inr (4, 0, 4))], (I, tk_so J 4 0 N8, R)) _ from ?_)
            refine dn_call rfl rfl rfl rfl rfl (sw_same_4 ?_)
            show tkDn tm_88 (113, [some (.inr (.inr (4, 0, 0))), some (.inr (.inr (1, b, 0)))], [.inl (if smF (N8 4) (N8 5) 96 0 = true then 1 else 0)], (I, tk_so J 4 0 N8, R)) _
            refine dn_if rfl rfl rfl (fun (c6 : (if smF (N8 4) (N8 5) 96 0 = true then 1 else 0) = 0) => ?_) (fun (c6 : ¬ (if smF (N8 4) (N8 5) 96 0 = true then 1 else 0) = 0) => ?_)
            · show tkDn tm_88 (120, [some (.inr (.inr (4, 0, 0))), some (.inr (.inr (1, b, 0)))], [], (I, tk_so J 4 0 N8, R)) _
              refine dn_run 1 (show tkDn tm_88 (121, [some (.inr (.inr (4, 0, 0))), some (.inr (.inr (1, b, 0)))], [.inl 0], (I, tk_so J 4 0 N8, R)) _ from ?_)
              refine dn_ret0 rfl rfl rfl rfl ?_
              refine hQ N8 he8 hv8 (Or.inr ⟨hc, rfl, rfl, Or.inr ⟨nb, Or.inr ⟨fun q => by rw [hs4, if_pos q.2] at c6; exact absurd c6 (by decide), rfl⟩⟩⟩)
            · show tkDn tm_88 (116, [some (.inr (.inr (4, 0, 0))), some (.inr (.inr (1, b, 0)))], [], (I, tk_so J 4 0 N8, R)) _
              refine dn_run 2 (show tkDn tm_88 (121, [some (.inr (.inr (4, 0, 0))), some (.inr (.inr (1, b, 0)))], [.inl 1], (I, tk_so J 4 0 N8, R)) _ from ?_)
              refine dn_ret0 rfl rfl rfl rfl ?_
              have m2 : smF (rowW (rdV2 S e v)) (rowW v) 96 0 = true := by rw [← hs4]; by_cases q : smF (N8 4) (N8 5) 96 0 = true; exact q; exact absurd (if_neg q) c6
              refine hQ N8 he8 hv8 (Or.inr ⟨hc, rfl, rfl, Or.inr ⟨nb, Or.inl ⟨⟨m1, m2⟩, rfl⟩⟩⟩)
        · show tkDn tm_88 (86, [some (.inr (.inr (4, 0, 0))), some (.inr (.inr (1, b, 0)))], [], (I, tk_so J 4 0 N8, R)) _
          refine dn_run 1 (show tkDn tm_88 (87, [some (.inr (.inr (4, 0, 0))), some (.inr (.inr (1, b, 0)))], [.inl 2], (I, tk_so J 4 0 N8, R)) _ from ?_)
          refine dn_ret0 rfl rfl rfl rfl ?_
          have n3 : ¬ (clF (hrO S (rdV2 S e v) (rdE3 S e v) (sM S) (sG S)) (sM S)).1 = true := fun q => by rw [if_pos q] at c4; exact c4 rfl
          refine hQ N8 he8 hv8 (Or.inr ⟨hc, rfl, rfl, Or.inl ⟨Or.inr (Or.inr n3), rfl⟩⟩)
  · show tkDn tm_88 (36, [some (.inr (.inr (4, 0, 0))), some (.inr (.inr (1, b, 0)))], [], (I, tk_so J 4 0 N3, R)) _
    refine dn_run 1 (show tkDn tm_88 (37, [some (.inr (.inr (4, 0, 0))), some (.inr (.inr (1, b, 0)))], [.inl 2], (I, tk_so J 4 0 N3, R)) _ from ?_)
    refine dn_ret0 rfl rfl rfl rfl ?_
    have hc : ¬ (rdC S e).1 = true := fun q => by rw [show (clF e (sM S)).1 = true from q] at c; exact absurd c (by decide)
    exact hQ N3 he3 hv3 (Or.inl ⟨hc, rfl, rfl, rfl⟩)
