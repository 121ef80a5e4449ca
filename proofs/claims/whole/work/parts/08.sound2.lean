/-! fields and rows written; arrays; the copy; the switch -/
section TKP
variable {p : Program} {l : Launch} {e : Env} {R : Room} {s : State} {m : MethodId} {args : Array Value} {below : List Frame} {meth : Method} {c0 : Code} {cells slots : Nat} {QQ : State → Prop} {E : tkE} {D : va_G} {cA : Nat → ClassId} {ad : tkAd} {A : Nat → Prop} {H0 : Heap}
theorem tw_put {ci b k0 idx pc : Nat} {L : tkL} {r : List tkV} {w w' : tkW} {v : tkV} (C : tk_Cx p R s m args meth c0 E D cA ad A) (hci : ci = E.2.2.2.2.2.2.1) (hm : (ci, idx, k0) ∈ tk_FL) (hfin : (tk_T ci k0).2.2.2 = false) (hn : narrow (tk_ty ci k0) (tk_cv ad v) = tk_cv ad v) (hfit : fits (tk_ty ci k0) (tk_cv ad v) = true) (hdg : decode E.2.1 pc = .ok (.putfield idx, 3)) (hk : tk_rd w' ci b k0 = v) (ho : ∀ j, j ≠ k0 → tk_rd w' ci b j = tk_rd w ci b j) (hoc : ∀ t ∈ tk_ix, t ≠ (ci, b, 0) → (ci, b, 0) ∈ tk_ix → tk_cell ad cA w' t = tk_cell ad cA w t) (hwk : tk_vok v → tk_wok w → tk_wok w') (k : tk_Wd p l e R s m args below meth c0 cells slots QQ E D cA ad A H0 (pc+3, L, r, w')) : tk_Wd p l e R s m args below meth c0 cells slots QQ E D cA ad A H0 (pc, L, v ::  .inr (.inr (ci, b, 0)) :: r, w) := by
  obtain ⟨hx, hb, hml, hown, hts, hr, hlk, hf, hlo, hK, hij, hA⟩ := C
  obtain ⟨g1, g2, g3⟩ := tk_flf _ hm
  rw [← hci] at hown
  dsimp only at g1 g2 g3
  intro H locs ls hP hS hL hst hw
  dsimp only at hP hS hL hst hw
  have ht : (ci, b, 0) ∈ tk_ix := hst _ (List.mem_cons_of_mem _ List.mem_cons_self)
  obtain ⟨q0, hq47, hq0, he⟩ := tk_wl_at (ad := ad) (cA := cA) (w := w) ht
  refine va_put (D := D) (ci := ci) (C := tk_cn ci) (T := tk_T ci) (N := tk_N ci) (ref := tk_cn ci) (ty := tk_ty ci k0) (v := tk_cv ad v) hx hb hts (tk_in_ws ci g1) (tk_ty ci) (tk_tyok ci g1) (tk_nm ci g1) hown hK hP (tk_wl_D w hij hA) hS q0 he (tk_clsAt ci g1) k0 g2 (hts _ (tk_tb (tk_fws _ (List.mem_map.mpr ⟨_, hm, rfl⟩)) rfl)) (fun x hx => by rw [g3] at hx; exact hx) hfin (tk_tyok ci g1 k0 g2) hn hfit (by rw [List.length_map, List.length_range]; exact g2) hdg (fun H1 locs1 hP1 hD1 hS1 => ?_)
  have e1 : ((tk_wl ad cA w).set q0 (ad (ci, b, 0), .inr (ci, ((List.range (tk_N ci)).map fun j => tk_cv ad (tk_rd w ci b j)).set k0 (tk_cv ad v)))) = tk_wl ad cA w' := by
    rw [tk_fs_set hk ho]
    exact tk_wl_set (w' := w') hq47 hq0 (fun t h1 h2 => hoc t h1 h2 ht)
  exact k H1 locs1 ls (by rw [← e1]; exact hP1) hS1 hL (fun u hu => hst u (List.mem_cons_of_mem _ (List.mem_cons_of_mem _ hu))) (hwk (hst v List.mem_cons_self) hw)
theorem tk_rd_I {w : tkW} {ci b k j : Nat} {x : Int32} (h : j ≠ k) : tk_rd (tk_wI w ci b 0 k x) ci b j = tk_rd w ci b j := by
  have key : (tk_wI w ci b 0 k x).1 ci b 0 j = w.1 ci b 0 j := by
    show tk_so w.1 ci b (tk_u2 (w.1 ci b) 0 k x) ci b 0 j = _
    rw [tk_so_same, tk_u2_at, tk_u1_ne h]
  unfold tk_rd
  split <;> first | rfl | rw [key]
theorem tk_rd_J {w : tkW} {ci b k j : Nat} {x : Int64} (h : j ≠ k) : tk_rd (tk_wJ w ci b 0 k x) ci b j = tk_rd w ci b j := by
  have key : (tk_wJ w ci b 0 k x).2.1 ci b 0 j = w.2.1 ci b 0 j := by
    show tk_so w.2.1 ci b (tk_u2 (w.2.1 ci b) 0 k x) ci b 0 j = _
    rw [tk_so_same, tk_u2_at, tk_u1_ne h]
  unfold tk_rd
  split <;> first | rfl | rw [key]
theorem tk_rd_R {w : tkW} {ci b k j d : Nat} (h : j ≠ k) : tk_rd (w.1, w.2.1, tk_u1 w.2.2 k d) ci b j = tk_rd w ci b j := by
  unfold tk_rd
  split <;> first | rfl | (dsimp only; rw [tk_u1_ne h])
theorem tk_ix5 : ∀ t ∈ tk_ix, t.1 = 5 → t = (5, 0, 0) := by decide +kernel
theorem tk_cell_R {w : tkW} {f : Nat → Nat} {b : Nat} {t : Nat × Nat × Nat} (ht : t ∈ tk_ix) (hb : (5, b, 0) ∈ tk_ix) (hne : t ≠ (5, b, 0)) : tk_cell ad cA (w.1, w.2.1, f) t = tk_cell ad cA w t := by
  have h5 : t.1 ≠ 5 := fun q => hne ((tk_ix5 t ht q).trans (tk_ix5 _ hb rfl).symm)
  obtain ⟨a, d, r⟩ := t
  have ha := (tk_ixf _ ht).1
  unfold tk_cell
  dsimp only at h5 ha ⊢
  split
  · congr 2
    apply List.map_congr_left
    intro j hj
    have h7 := (tk_fkty a ha j (List.mem_range.mp hj)).2.2.2
    unfold tk_rd
    split <;> first | rfl | (rename_i q; exact absurd (h7 q).1 h5)
  · rfl
theorem tw_putf {idx : Nat} {c d : tkC} {P : Option Prop} (C : tk_Cx p R s m args meth c0 E D cA ad A) (hdg : decode E.2.1 c.1 = .ok (.putfield idx, 3)) (h : tk_putf E.2.2.2.2.2.2.1 idx 3 c = some (P, d)) (k : tk_and P (tk_Wd p l e R s m args below meth c0 cells slots QQ E D cA ad A H0 d)) : tk_Wd p l e R s m args below meth c0 cells slots QQ E D cA ad A H0 c := by
  obtain ⟨pc, L, st, w⟩ := c
  unfold tk_putf at h
  dsimp only at h hdg
  split at h
  · rename_i v ci b r k0 hfl
    split at h
    · rename_i hbeq
      rw [Bool.and_eq_true] at hbeq
      have hci := Nat.eq_of_beq_eq_true hbeq.1
      have hm := tk_lk2_mem hfl
      rw [← hci] at hm h hbeq
      have hfin : (tk_T ci k0).2.2.2 = false := by simpa using hbeq.2
      obtain ⟨g1, g2, g3⟩ := tk_flf _ hm
      dsimp only at g1 g2 g3
      obtain ⟨f0, f1, f2, f7⟩ := tk_fkty ci g1 k0 g2
      unfold tk_wr at h
      split at h
      · rename_i x hk0
        cases h
        refine tw_put C hci hm hfin (by rw [f0 hk0]; rfl) (by rw [f0 hk0]; rfl) hdg ?_ (fun j hj => tk_rd_I hj) (fun t _ h2 _ => tk_cell_I h2) (fun _ h => h) k
        unfold tk_rd
        rw [hk0]
        show Sum.inl (tk_so w.1 ci b (tk_u2 (w.1 ci b) 0 k0 x) ci b 0 k0) = _
        rw [tk_so_same, tk_u2_at, tk_u1_same]
      · rename_i x hk0
        cases h
        have hx01 := k.1
        refine tw_put C hci hm hfin (by rw [f1 hk0]; rcases hx01 with rfl | rfl <;> rfl) (by rw [f1 hk0]; rcases hx01 with rfl | rfl <;> rfl) hdg ?_ (fun j hj => tk_rd_I hj) (fun t _ h2 _ => tk_cell_I h2) (fun _ h => h) k.2
        unfold tk_rd
        rw [hk0]
        show Sum.inl (tk_so w.1 ci b (tk_u2 (w.1 ci b) 0 k0 x) ci b 0 k0) = _
        rw [tk_so_same, tk_u2_at, tk_u1_same]
      · rename_i x hk0
        cases h
        refine tw_put C hci hm hfin (by rw [f2 hk0]; rfl) (by rw [f2 hk0]; rfl) hdg ?_ (fun j hj => tk_rd_J hj) (fun t _ h2 _ => tk_cell_J (fun r hr => tk_u2_ne hr) h2) (fun _ h => h) k
        unfold tk_rd
        rw [hk0]
        show Sum.inr (Sum.inl (tk_so w.2.1 ci b (tk_u2 (w.2.1 ci b) 0 k0 x) ci b 0 k0)) = _
        rw [tk_so_same, tk_u2_at, tk_u1_same]
      · rename_i dd hk0
        cases h
        obtain ⟨rfl, hk2, hty⟩ := f7 hk0
        refine tw_put C hci hm hfin (by rw [hty]; rfl) (by rw [hty]; rfl) hdg ?_ (fun j hj => tk_rd_R hj) (fun t h1 h2 h3 => tk_cell_R h1 h3 h2) (fun hv hw j hj => ?_) k
        · unfold tk_rd
          rw [hk0]
          show Sum.inr (Sum.inr (1, tk_u1 w.2.2 k0 dd k0, 0)) = _
          rw [tk_u1_same]
        · by_cases q : j = k0
          · subst q
            show (1, tk_u1 w.2.2 j dd j, 0) ∈ tk_ix
            rw [tk_u1_same]; exact hv
          · show (1, tk_u1 w.2.2 k0 dd j, 0) ∈ tk_ix
            rw [tk_u1_ne q]; exact hw j hj
      · cases h
    · cases h
  · cases h
theorem tk_cell3 {w : tkW} {ci b s : Nat} (h : (tk_ak ci s).1 = 3) : tk_cell ad cA w (ci, b, s) = .inl (cA 0, ((tk_ak ci s).2, .inl (w.1 ci b s))) := by
  cases s with
  | zero => cases h
  | succ s =>
    have h : (tk_fk ci s).1 = 3 := h
    show (match (tk_fk ci s).1 with | 4 => _ | 5 => _ | _ => _) = _
    rw [h]; rfl
theorem tk_cell5 {w : tkW} {ci b s : Nat} (h : (tk_ak ci s).1 = 5) : tk_cell ad cA w (ci, b, s) = .inl (cA 2, ((tk_ak ci s).2, .inl (w.1 ci b s))) := by
  cases s with
  | zero => cases h
  | succ s =>
    have h : (tk_fk ci s).1 = 5 := h
    show (match (tk_fk ci s).1 with | 4 => _ | 5 => _ | _ => _) = _
    rw [h]; rfl
theorem tk_cell4 {w : tkW} {ci b s : Nat} (h : (tk_ak ci s).1 = 4) : tk_cell ad cA w (ci, b, s) = .inl (cA 1, ((tk_ak ci s).2, .inr (.inl (w.2.1 ci b s)))) := by
  cases s with
  | zero => cases h
  | succ s =>
    have h : (tk_fk ci s).1 = 4 := h
    show (match (tk_fk ci s).1 with | 4 => _ | 5 => _ | _ => _) = _
    rw [h]; rfl
theorem tw_ald3 {c d : tkC} {P : Option Prop} (C : tk_Cx p R s m args meth c0 E D cA ad A) (hdg : decode E.2.1 c.1 = .ok (.iaload, 1)) (h : tk_ald 3 1 c = some (P, d)) (k : tk_and P (tk_Wd p l e R s m args below meth c0 cells slots QQ E D cA ad A H0 d)) : tk_Wd p l e R s m args below meth c0 cells slots QQ E D cA ad A H0 c := by
  obtain ⟨hx, hb, hml, hown, hts, hr, hlk, hf, hlo, hK, hij, hA⟩ := C
  obtain ⟨pc, L, st, w⟩ := c
  unfold tk_ald at h
  dsimp only at h hdg
  split at h
  · rename_i j ci b sx r
    split at h
    · rename_i hbeq
      have hkd := Nat.eq_of_beq_eq_true hbeq
      cases h
      intro H locs ls hP hS hL hst hw
      have ht : (ci, b, sx) ∈ tk_ix := hst _ (List.mem_cons_of_mem _ List.mem_cons_self)
      obtain ⟨q0, -, -, he⟩ := tk_wl_at (ad := ad) (cA := cA) (w := w) ht
      rw [tk_cell3 hkd] at he
      exact va_iald hx hb hK hP q0 0 he rfl k.1 hdg (k.2 H locs ls hP hS hL (fun u hu => by
        rcases List.mem_cons.mp hu with rfl | hu
        · trivial
        · exact hst u (List.mem_cons_of_mem _ (List.mem_cons_of_mem _ hu))) hw)
    · cases h
  · cases h
theorem tw_ald5 {c d : tkC} {P : Option Prop} (C : tk_Cx p R s m args meth c0 E D cA ad A) (hdg : decode E.2.1 c.1 = .ok (.baload, 1)) (h : tk_ald 5 1 c = some (P, d)) (k : tk_and P (tk_Wd p l e R s m args below meth c0 cells slots QQ E D cA ad A H0 d)) : tk_Wd p l e R s m args below meth c0 cells slots QQ E D cA ad A H0 c := by
  obtain ⟨hx, hb, hml, hown, hts, hr, hlk, hf, hlo, hK, hij, hA⟩ := C
  obtain ⟨pc, L, st, w⟩ := c
  unfold tk_ald at h
  dsimp only at h hdg
  split at h
  · rename_i j ci b sx r
    split at h
    · rename_i hbeq
      have hkd := Nat.eq_of_beq_eq_true hbeq
      cases h
      intro H locs ls hP hS hL hst hw
      have ht : (ci, b, sx) ∈ tk_ix := hst _ (List.mem_cons_of_mem _ List.mem_cons_self)
      obtain ⟨q0, -, -, he⟩ := tk_wl_at (ad := ad) (cA := cA) (w := w) ht
      rw [tk_cell5 hkd] at he
      exact va_bald hx hb hK hP q0 2 he rfl k.1 hdg (k.2 H locs ls hP hS hL (fun u hu => by
        rcases List.mem_cons.mp hu with rfl | hu
        · trivial
        · exact hst u (List.mem_cons_of_mem _ (List.mem_cons_of_mem _ hu))) hw)
    · cases h
  · cases h
theorem tw_ald4 {c d : tkC} {P : Option Prop} (C : tk_Cx p R s m args meth c0 E D cA ad A) (hdg : decode E.2.1 c.1 = .ok (.laload, 1)) (h : tk_ald 4 1 c = some (P, d)) (k : tk_and P (tk_Wd p l e R s m args below meth c0 cells slots QQ E D cA ad A H0 d)) : tk_Wd p l e R s m args below meth c0 cells slots QQ E D cA ad A H0 c := by
  obtain ⟨hx, hb, hml, hown, hts, hr, hlk, hf, hlo, hK, hij, hA⟩ := C
  obtain ⟨pc, L, st, w⟩ := c
  unfold tk_ald at h
  dsimp only at h hdg
  split at h
  · rename_i j ci b sx r
    split at h
    · rename_i hbeq
      have hkd := Nat.eq_of_beq_eq_true hbeq
      cases h
      intro H locs ls hP hS hL hst hw
      have ht : (ci, b, sx) ∈ tk_ix := hst _ (List.mem_cons_of_mem _ List.mem_cons_self)
      obtain ⟨q0, -, -, he⟩ := tk_wl_at (ad := ad) (cA := cA) (w := w) ht
      rw [tk_cell4 hkd] at he
      exact va_lald hx hb hK hP q0 1 he rfl k.1 hdg (k.2 H locs ls hP hS hL (fun u hu => by
        rcases List.mem_cons.mp hu with rfl | hu
        · trivial
        · exact hst u (List.mem_cons_of_mem _ (List.mem_cons_of_mem _ hu))) hw)
    · cases h
  · cases h
theorem tw_ast3 {c d : tkC} {P : Option Prop} (C : tk_Cx p R s m args meth c0 E D cA ad A) (hdg : decode E.2.1 c.1 = .ok (.iastore, 1)) (h : tk_ast 3 1 c = some (P, d)) (k : tk_and P (tk_Wd p l e R s m args below meth c0 cells slots QQ E D cA ad A H0 d)) : tk_Wd p l e R s m args below meth c0 cells slots QQ E D cA ad A H0 c := by
  obtain ⟨hx, hb, hml, hown, hts, hr, hlk, hf, hlo, hK, hij, hA⟩ := C
  obtain ⟨pc, L, st, w⟩ := c
  unfold tk_ast at h
  dsimp only at h hdg
  split at h
  · rename_i x j ci b sx r
    split at h
    · rename_i hbeq
      have hkd := Nat.eq_of_beq_eq_true hbeq
      cases h
      intro H locs ls hP hS hL hst hw
      have ht : (ci, b, sx) ∈ tk_ix := hst _ (List.mem_cons_of_mem _ (List.mem_cons_of_mem _ List.mem_cons_self))
      obtain ⟨q0, hq47, hq0, he⟩ := tk_wl_at (ad := ad) (cA := cA) (w := w) ht
      rw [tk_cell3 hkd] at he
      refine va_iast hx hb hK hP (tk_wl_D w hij hA) hS q0 0 he rfl k.1 hdg (fun H1 locs1 hP1 hD1 hS1 => ?_)
      have e1 := tk_wl_set (ad := ad) (cA := cA) (w := w) (w' := tk_wI w ci b sx j.toNatClampNeg x) hq47 hq0 (fun t _ h2 => tk_cell_I h2)
      rw [tk_cell3 hkd] at e1
      have e2 : (tk_wI w ci b sx j.toNatClampNeg x).1 ci b sx = upd (w.1 ci b sx) j.toNatClampNeg x := by
        show tk_so w.1 ci b (tk_u2 (w.1 ci b) sx _ x) ci b sx = _
        rw [tk_so_same, tk_u2_at]; rfl
      rw [e2] at e1
      exact k.2 H1 locs1 ls (by show va_P D tk_cls (tk_wl ad cA (tk_wI w ci b sx j.toNatClampNeg x)) H1; rw [← e1]; exact hP1) hS1 hL (fun u hu => hst u (List.mem_cons_of_mem _ (List.mem_cons_of_mem _ (List.mem_cons_of_mem _ hu)))) hw
    · cases h
  · split at h
    · cases h
    · cases h
  · cases h
theorem tw_ast5 {c d : tkC} {P : Option Prop} (C : tk_Cx p R s m args meth c0 E D cA ad A) (hdg : decode E.2.1 c.1 = .ok (.bastore, 1)) (h : tk_ast 5 1 c = some (P, d)) (k : tk_and P (tk_Wd p l e R s m args below meth c0 cells slots QQ E D cA ad A H0 d)) : tk_Wd p l e R s m args below meth c0 cells slots QQ E D cA ad A H0 c := by
  obtain ⟨hx, hb, hml, hown, hts, hr, hlk, hf, hlo, hK, hij, hA⟩ := C
  obtain ⟨pc, L, st, w⟩ := c
  unfold tk_ast at h
  dsimp only at h hdg
  split at h
  · rename_i x j ci b sx r
    split at h
    · rename_i hbeq
      have hkd := Nat.eq_of_beq_eq_true hbeq
      cases h
      intro H locs ls hP hS hL hst hw
      have ht : (ci, b, sx) ∈ tk_ix := hst _ (List.mem_cons_of_mem _ (List.mem_cons_of_mem _ List.mem_cons_self))
      obtain ⟨q0, hq47, hq0, he⟩ := tk_wl_at (ad := ad) (cA := cA) (w := w) ht
      rw [tk_cell5 hkd] at he
      refine va_bast hx hb hK hP (tk_wl_D w hij hA) hS q0 2 he rfl k.1 hdg (fun H1 locs1 hP1 hD1 hS1 => ?_)
      have e1 := tk_wl_set (ad := ad) (cA := cA) (w := w) (w' := tk_wI w ci b sx j.toNatClampNeg (vp_nar .byte x)) hq47 hq0 (fun t _ h2 => tk_cell_I h2)
      rw [tk_cell5 hkd] at e1
      have e2 : (tk_wI w ci b sx j.toNatClampNeg (vp_nar .byte x)).1 ci b sx = upd (w.1 ci b sx) j.toNatClampNeg (vp_nar .byte x) := by
        show tk_so w.1 ci b (tk_u2 (w.1 ci b) sx _ _) ci b sx = _
        rw [tk_so_same, tk_u2_at]; rfl
      rw [e2] at e1
      exact k.2 H1 locs1 ls (by show va_P D tk_cls (tk_wl ad cA (tk_wI w ci b sx j.toNatClampNeg (vp_nar .byte x))) H1; rw [← e1]; exact hP1) hS1 hL (fun u hu => hst u (List.mem_cons_of_mem _ (List.mem_cons_of_mem _ (List.mem_cons_of_mem _ hu)))) hw
    · cases h
  · split at h
    · cases h
    · cases h
  · cases h
theorem tw_ast4 {c d : tkC} {P : Option Prop} (C : tk_Cx p R s m args meth c0 E D cA ad A) (hdg : decode E.2.1 c.1 = .ok (.lastore, 1)) (h : tk_ast 4 1 c = some (P, d)) (k : tk_and P (tk_Wd p l e R s m args below meth c0 cells slots QQ E D cA ad A H0 d)) : tk_Wd p l e R s m args below meth c0 cells slots QQ E D cA ad A H0 c := by
  obtain ⟨hx, hb, hml, hown, hts, hr, hlk, hf, hlo, hK, hij, hA⟩ := C
  obtain ⟨pc, L, st, w⟩ := c
  unfold tk_ast at h
  dsimp only at h hdg
  split at h
  · split at h
    · cases h
    · cases h
  · rename_i x j ci b sx r
    split at h
    · rename_i hbeq
      have hkd := Nat.eq_of_beq_eq_true hbeq
      cases h
      intro H locs ls hP hS hL hst hw
      have ht : (ci, b, sx) ∈ tk_ix := hst _ (List.mem_cons_of_mem _ (List.mem_cons_of_mem _ List.mem_cons_self))
      obtain ⟨q0, hq47, hq0, he⟩ := tk_wl_at (ad := ad) (cA := cA) (w := w) ht
      rw [tk_cell4 hkd] at he
      refine va_last hx hb hK hP (tk_wl_D w hij hA) hS q0 1 he rfl k.1 hdg (fun H1 locs1 hP1 hD1 hS1 => ?_)
      have e1 := tk_wl_set (ad := ad) (cA := cA) (w := w) (w' := tk_wJ w ci b sx j.toNatClampNeg x) hq47 hq0 (fun t _ h2 => tk_cell_J (fun r hr => tk_u2_ne hr) h2)
      rw [tk_cell4 hkd] at e1
      have e2 : (tk_wJ w ci b sx j.toNatClampNeg x).2.1 ci b sx = vp_updL (w.2.1 ci b sx) j.toNatClampNeg x := by
        show tk_so w.2.1 ci b (tk_u2 (w.2.1 ci b) sx _ x) ci b sx = _
        rw [tk_so_same, tk_u2_at]; rfl
      rw [e2] at e1
      exact k.2 H1 locs1 ls (by show va_P D tk_cls (tk_wl ad cA (tk_wJ w ci b sx j.toNatClampNeg x)) H1; rw [← e1]; exact hP1) hS1 hL (fun u hu => hst u (List.mem_cons_of_mem _ (List.mem_cons_of_mem _ (List.mem_cons_of_mem _ hu)))) hw
    · cases h
  · cases h
theorem tw_alen {c d : tkC} {P : Option Prop} (C : tk_Cx p R s m args meth c0 E D cA ad A) (hdg : decode E.2.1 c.1 = .ok (.arraylength, 1)) (h : tk_alen 1 c = some (P, d)) (k : tk_Wd p l e R s m args below meth c0 cells slots QQ E D cA ad A H0 d) : tk_Wd p l e R s m args below meth c0 cells slots QQ E D cA ad A H0 c := by
  obtain ⟨hx, hb, hml, hown, hts, hr, hlk, hf, hlo, hK, hij, hA⟩ := C
  obtain ⟨pc, L, st, w⟩ := c
  unfold tk_alen at h
  dsimp only at h hdg
  split at h
  · rename_i ci b sx r
    split at h
    · rename_i hbeq
      rw [Bool.and_eq_true] at hbeq
      have h3 := Nat.le_of_ble_eq_true hbeq.1
      have h5 := Nat.le_of_ble_eq_true hbeq.2
      cases h
      intro H locs ls hP hS hL hst hw
      have ht : (ci, b, sx) ∈ tk_ix := hst _ List.mem_cons_self
      obtain ⟨q0, -, -, he⟩ := tk_wl_at (ad := ad) (cA := cA) (w := w) ht
      have kk := k H locs ls hP hS hL (fun u hu => by
        rcases List.mem_cons.mp hu with rfl | hu
        · trivial
        · exact hst u (List.mem_cons_of_mem _ hu)) hw
      rcases (show (tk_ak ci sx).1 = 3 ∨ (tk_ak ci sx).1 = 4 ∨ (tk_ak ci sx).1 = 5 by omega) with q | q | q
      · rw [tk_cell3 q] at he
        exact va_alen hx hb hK hP q0 0 he (ty := .int) rfl rfl hdg kk
      · rw [tk_cell4 q] at he
        exact va_alen hx hb hK hP q0 1 he (ty := .long) rfl rfl hdg kk
      · rw [tk_cell5 q] at he
        exact va_alen hx hb hK hP q0 2 he (ty := .byte) rfl rfl hdg kk
    · cases h
  · cases h
theorem tw_sw {dflt lo hi : Int} {offs : Array Int} {n : Nat} {c d : tkC} {P : Option Prop} (C : tk_Cx p R s m args meth c0 E D cA ad A) (hdg : decode E.2.1 c.1 = .ok (.tableswitch dflt lo hi offs, n)) (h : tk_sw dflt lo hi offs c = some (P, d)) (k : tk_and P (tk_Wd p l e R s m args below meth c0 cells slots QQ E D cA ad A H0 d)) : tk_Wd p l e R s m args below meth c0 cells slots QQ E D cA ad A H0 c := by
  obtain ⟨hx, hb, hml, hown, hts, hr, hlk, hf, hlo, hK, hij, hA⟩ := C
  obtain ⟨pc, L, st, w⟩ := c
  unfold tk_sw at h
  dsimp only at h hdg
  split at h
  · rename_i x r
    cases h
    obtain ⟨⟨h1, h2, h3⟩, k⟩ := k
    try dsimp only at h3
    intro H locs ls hP hS hL hst hw
    have kk := k H locs ls hP hS hL (fun u hu => hst u (List.mem_cons_of_mem _ hu)) hw
    try dsimp only at kk
    have e : ((pc : Int) + tk_swo dflt lo hi offs x) = (((pc : Int) + tk_swo dflt lo hi offs x).toNat : Int) := (Int.toNat_of_nonneg h3).symm
    by_cases q : x.toInt < lo ∨ hi < x.toInt
    · refine lv_tableOut hx hb hdg q (tgt := ((pc : Int) + tk_swo dflt lo hi offs x).toNat) ?_ kk
      rw [← e]
      unfold tk_swo
      rw [if_pos q]
    · have q1 : ¬ x.toInt < lo := fun z => q (Or.inl z)
      have q2 : ¬ hi < x.toInt := fun z => q (Or.inr z)
      have hlt : (x.toInt - lo).toNat < offs.size := by omega
      refine lv_tableIn hx hb hdg q1 q2 (off := offs[(x.toInt - lo).toNat]) (Array.getElem?_eq_getElem hlt) (tgt := ((pc : Int) + tk_swo dflt lo hi offs x).toNat) ?_ kk
      rw [← e]
      unfold tk_swo
      rw [if_neg q]
      simp [Array.getD, hlt]
  · cases h
theorem tw_copy {idx : Nat} {c d : tkC} {P : Option Prop} (C : tk_Cx p R s m args meth c0 E D cA ad A) (hfr : 1 ≤ E.2.2.2.2.2.2.2.2.1 ∧ 18 ≤ E.2.2.2.2.2.2.2.2.2.1) (hcp : (E.2.2.2.2.2.2.1, idx, 1) ∈ tk_CP) (hdg : decode E.2.1 c.1 = .ok (.invokestatic idx, 3)) (h : tk_copy 3 c = some (P, d)) (k : tk_and P (tk_Wd p l e R s m args below meth c0 cells slots QQ E D cA ad A H0 d)) : tk_Wd p l e R s m args below meth c0 cells slots QQ E D cA ad A H0 c := by
  obtain ⟨hx, hb, hml, hown, hts, hr, hlk, hf, hlo, hK, hij, hA⟩ := C
  obtain ⟨pc, L, st, w⟩ := c
  unfold tk_copy at h
  dsimp only at h hdg
  split at h
  · rename_i n dp c1 b1 s1 sp c2 b2 s2
    split at h
    · rename_i hbeq
      rw [Bool.and_eq_true] at hbeq
      have e0 := Nat.eq_of_beq_eq_true hbeq.1
      have e1 := Nat.eq_of_beq_eq_true hbeq.2
      cases h
      obtain ⟨⟨p1, p2, p3, p4, p5⟩, k⟩ := k
      intro H locs ls hP hS hL hst hw
      have t1 : (c1, b1, s1) ∈ tk_ix := hst _ (List.mem_cons_of_mem _ (List.mem_cons_of_mem _ List.mem_cons_self))
      have t0 : (c2, b2, s2) ∈ tk_ix := hst _ (List.mem_cons_of_mem _ (List.mem_cons_of_mem _ (List.mem_cons_of_mem _ (List.mem_cons_of_mem _ List.mem_cons_self))))
      obtain ⟨q0, -, -, he0⟩ := tk_wl_at (ad := ad) (cA := cA) (w := w) t0
      obtain ⟨q1, hq47, hq1, he1⟩ := tk_wl_at (ad := ad) (cA := cA) (w := w) t1
      rw [tk_cell4 e0] at he0
      rw [tk_cell4 e1] at he1
      refine va_copyl (rest := []) hx hb (by rw [hml]; exact hL.2.1.1.symm) hown (hts _ (tk_tb (tk_cps _ (List.mem_map.mpr ⟨_, hcp, rfl⟩)) rfl)) (hts _ (tk_tb (tk_cpw _ (List.mem_cons_self)) rfl)) (hts _ (tk_tb (tk_cpw _ (List.mem_cons_of_mem _ List.mem_cons_self)) rfl)) (hts _ (tk_tb (tk_cpw _ (List.mem_cons_of_mem _ (List.mem_cons_of_mem _ List.mem_cons_self))) rfl)) hK hP (tk_wl_D w hij hA) hS q0 q1 1 1 he0 he1 (ty := .long) rfl rfl rfl p1 p2 p3 p4 p5 (fun _ _ => rfl) (by omega) ?_ hdg (fun H1 locs1 hP1 hD1 hS1 => ?_)
      · show 0 + (nativeFrameWords "java/lang/System" "arraycopy" 5 + 11) ≤ R.locals
        have : nativeFrameWords "java/lang/System" "arraycopy" 5 = 7 := by decide
        rw [this]; omega
      · have e3 := tk_wl_set (ad := ad) (cA := cA) (w := w) (w' := (w.1, tk_so w.2.1 c1 b1 (tk_u1 (w.2.1 c1 b1) s1 (va_cpy (w.2.1 c2 b2 s2) (w.2.1 c1 b1 s1) sp.toNatClampNeg dp.toNatClampNeg n.toNatClampNeg)), w.2.2)) hq47 hq1 (fun t _ h2 => tk_cell_J (fun r hr => tk_u1_ne hr) h2)
        rw [tk_cell4 e1] at e3
        have e4 : tk_so w.2.1 c1 b1 (tk_u1 (w.2.1 c1 b1) s1 (va_cpy (w.2.1 c2 b2 s2) (w.2.1 c1 b1 s1) sp.toNatClampNeg dp.toNatClampNeg n.toNatClampNeg)) c1 b1 s1 = va_cpy (w.2.1 c2 b2 s2) (w.2.1 c1 b1 s1) sp.toNatClampNeg dp.toNatClampNeg n.toNatClampNeg := by
          rw [tk_so_same, tk_u1_same]
        dsimp only at e3
        rw [e4] at e3
        exact k H1 locs1 ls (by dsimp only; rw [← e3]; exact hP1) hS1 hL (fun u hu => by cases hu) hw
    · cases h
  · cases h
end TKP
