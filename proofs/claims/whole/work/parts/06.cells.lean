/-! the machine over pictures tells the truth of the machine -/
abbrev tkAd : Type := Nat × Nat × Nat → Nat
def tk_ix : List (Nat × Nat × Nat) := [(0, 0, 0), (0, 0, 1), (1, 0, 0), (1, 0, 4), (1, 0, 5), (1, 0, 6), (1, 0, 7), (1, 0, 8), (1, 0, 9), (1, 1, 0), (1, 1, 4), (1, 1, 5), (1, 1, 6), (1, 1, 7), (1, 1, 8), (1, 1, 9), (2, 0, 0), (2, 0, 1), (3, 0, 0), (3, 0, 1), (3, 0, 2), (4, 0, 0), (4, 0, 1), (4, 0, 2), (4, 0, 3), (4, 0, 4), (4, 0, 5), (4, 0, 6), (5, 0, 0), (6, 0, 0), (6, 0, 4), (6, 0, 5), (6, 0, 6), (6, 0, 7), (6, 0, 8), (6, 0, 9), (6, 0, 10), (6, 0, 13), (6, 0, 20), (6, 0, 21), (6, 0, 24), (6, 0, 25), (6, 0, 26), (6, 0, 27), (6, 0, 28), (6, 0, 29), (6, 0, 33)]
def tk_vok (v : tkV) : Prop := match v with
  | .inr (.inr t) => t ∈ tk_ix
  | _ => True
def tk_wok (w : tkW) : Prop := ∀ k, k < 2 → (1, w.2.2 k, 0) ∈ tk_ix
def tk_cv (ad : tkAd) (v : tkV) : Value := match v with
  | .inl x => .int x
  | .inr (.inl x) => .long x
  | .inr (.inr t) => .ref (ad t)
def tk_as (ad : tkAd) : Nat → tkL → List (Nat × Value)
  | _, [] => []
  | i, none :: r => tk_as ad (i + 1) r
  | i, some v :: r => (i, tk_cv ad v) :: tk_as ad (i + 1) r
theorem tk_as_mem {ad : tkAd} {q : Nat × Value} : ∀ {L : tkL} {i : Nat}, q ∈ tk_as ad i L ↔ ∃ v, i ≤ q.1 ∧ L[q.1 - i]? = some (some v) ∧ q.2 = tk_cv ad v := by
  intro L
  induction L with
  | nil => intro i; simp [tk_as]
  | cons o r ih =>
    intro i
    cases o with
    | none =>
      show q ∈ tk_as ad (i + 1) r ↔ _
      rw [ih]
      constructor
      · rintro ⟨v, h1, h2, h3⟩
        refine ⟨v, by omega, ?_, h3⟩
        have e : q.1 - i = (q.1 - (i + 1)) + 1 := by omega
        rw [e, List.getElem?_cons_succ]; exact h2
      · rintro ⟨v, h1, h2, h3⟩
        have hne : i ≠ q.1 := by
          intro e
          rw [← e, Nat.sub_self, List.getElem?_cons_zero] at h2
          cases h2
        refine ⟨v, by omega, ?_, h3⟩
        have e : q.1 - i = (q.1 - (i + 1)) + 1 := by omega
        rw [e, List.getElem?_cons_succ] at h2; exact h2
    | some u =>
      show q ∈ (i, tk_cv ad u) :: tk_as ad (i + 1) r ↔ _
      rw [List.mem_cons, ih]
      constructor
      · rintro (rfl | ⟨v, h1, h2, h3⟩)
        · exact ⟨u, Nat.le_refl _, by simp, rfl⟩
        · refine ⟨v, by omega, ?_, h3⟩
          have e : q.1 - i = (q.1 - (i + 1)) + 1 := by omega
          rw [e, List.getElem?_cons_succ]; exact h2
      · rintro ⟨v, h1, h2, h3⟩
        by_cases e : q.1 = i
        · left
          rw [e, Nat.sub_self, List.getElem?_cons_zero] at h2
          cases h2
          exact Prod.ext e h3
        · right
          refine ⟨v, by omega, ?_, h3⟩
          have e : q.1 - i = (q.1 - (i + 1)) + 1 := by omega
          rw [e, List.getElem?_cons_succ] at h2; exact h2
theorem tk_getD {L : tkL} {i : Nat} {v : tkV} (h : L.getD i none = some v) : L[i]? = some (some v) := by
  rw [List.getD_eq_getElem?_getD] at h
  cases hg : L[i]? with
  | none => rw [hg] at h; cases h
  | some o => rw [hg] at h; exact congrArg some h
def tk_LR (ad : tkAd) (L : tkL) (ls : Array Slot) (nL : Nat) : Prop := L.length = nL ∧ lv_has ls nL (tk_as ad 0 L) ∧ ∀ (i : Nat) (v : tkV), L[i]? = some (some v) → tk_vok v
theorem tk_LR.at {ad : tkAd} {L : tkL} {ls : Array Slot} {nL i : Nat} {v : tkV} (h : tk_LR ad L ls nL) (hv : L.getD i none = some v) : ls[i]? = some (.val (tk_cv ad v)) :=
  h.2.1.2.2 (i, tk_cv ad v) (tk_as_mem.mpr ⟨v, Nat.zero_le _, tk_getD hv, rfl⟩)
theorem tk_clr_len (L : tkL) (i : Nat) : (tk_clr L i).length = L.length := by
  cases i with
  | zero => rfl
  | succ j =>
    unfold tk_clr
    dsimp only
    split
    · rw [List.length_set]
    · rfl
theorem tk_clr_get {ad : tkAd} {L : tkL} {i j : Nat} {v : tkV} (h : (tk_clr L i)[j]? = some (some v)) : L[j]? = some (some v) ∧ ¬ (j + 1 = i ∧ (tk_cv ad v).category = 2) := by
  cases i with
  | zero => exact ⟨h, fun q => by omega⟩
  | succ k =>
    unfold tk_clr at h
    dsimp only at h
    split at h
    · rename_i x hx
      by_cases e : k = j
      · subst e
        rw [List.getElem?_set] at h
        simp at h
      · rw [List.getElem?_set_ne e] at h
        exact ⟨h, fun q => e (by omega)⟩
    · rename_i hx
      refine ⟨h, fun q => ?_⟩
      obtain ⟨q1, q2⟩ := q
      have e : j = k := by omega
      subst e
      match v, h, q2 with
      | .inr (.inl x), h, _ => exact hx x (by rw [List.getD_eq_getElem?_getD, h]; rfl)
      | .inl x, _, q2 => cases q2
      | .inr (.inr x), _, q2 => cases q2
theorem tk_LR.st1 {ad : tkAd} {L : tkL} {ls ls' : Array Slot} {nL i : Nat} {v : tkV} (h : tk_LR ad L ls nL) (hv : tk_vok v) (hi : i < L.length) (hh : lv_has ls' nL ((i, tk_cv ad v) :: (tk_as ad 0 L).filter (fun q => !(q.1 == i) && !(q.1 + 1 == i && q.2.category == 2)))) : tk_LR ad (tk_st1 L i v) ls' nL := by
  refine ⟨by unfold tk_st1; rw [List.length_set, tk_clr_len]; exact h.1, ⟨hh.1, hh.2.1, fun q hq => ?_⟩, fun j u hu => ?_⟩
  · obtain ⟨u, -, hu, h3⟩ := tk_as_mem.mp hq
    refine hh.2.2 q ?_
    rw [Nat.sub_zero] at hu
    by_cases e : i = q.1
    · unfold tk_st1 at hu
      rw [← e, List.getElem?_set_self (by rw [tk_clr_len]; exact hi)] at hu
      cases hu
      rw [show q = (i, tk_cv ad v) from Prod.ext e.symm h3]
      exact List.mem_cons_self
    · unfold tk_st1 at hu
      rw [List.getElem?_set_ne e] at hu
      obtain ⟨g1, g2⟩ := tk_clr_get (ad := ad) hu
      refine List.mem_cons_of_mem _ (List.mem_filter.mpr ⟨tk_as_mem.mpr ⟨u, Nat.zero_le _, by rw [Nat.sub_zero]; exact g1, h3⟩, ?_⟩)
      have e1 : (q.1 == i) = false := by simp; exact fun z => e z.symm
      have e2 : (q.1 + 1 == i && q.2.category == 2) = false := by
        rw [h3]
        simp only [Bool.and_eq_false_iff, beq_eq_false_iff_ne]
        by_cases z : q.1 + 1 = i
        · exact Or.inr (fun z2 => g2 ⟨z, z2⟩)
        · exact Or.inl z
      rw [e1, e2]; rfl
  · unfold tk_st1 at hu
    by_cases e : i = j
    · subst e
      rw [List.getElem?_set_self (by rw [tk_clr_len]; exact hi)] at hu
      cases hu
      exact hv
    · rw [List.getElem?_set_ne e] at hu
      exact h.2.2 j u (tk_clr_get (ad := ad) hu).1
theorem tk_LR.st2 {ad : tkAd} {L : tkL} {ls ls' : Array Slot} {nL i : Nat} {v : tkV} (h : tk_LR ad L ls nL) (hv : tk_vok v) (hi : i + 1 < L.length) (hh : lv_has ls' nL ((i, tk_cv ad v) :: (tk_as ad 0 L).filter (fun q => !(q.1 == i) && (!(q.1 == i + 1) && !(q.1 + 1 == i && q.2.category == 2))))) : tk_LR ad (tk_st2 L i v) ls' nL := by
  refine ⟨by unfold tk_st2; rw [List.length_set, List.length_set, tk_clr_len]; exact h.1, ⟨hh.1, hh.2.1, fun q hq => ?_⟩, fun j u hu => ?_⟩
  · obtain ⟨u, -, hu, h3⟩ := tk_as_mem.mp hq
    refine hh.2.2 q ?_
    rw [Nat.sub_zero] at hu
    unfold tk_st2 at hu
    by_cases e3 : i + 1 = q.1
    · rw [← e3, List.getElem?_set_self (by rw [List.length_set, tk_clr_len]; exact hi)] at hu
      cases hu
    · rw [List.getElem?_set_ne e3] at hu
      by_cases e : i = q.1
      · rw [← e, List.getElem?_set_self (by rw [tk_clr_len]; omega)] at hu
        cases hu
        rw [show q = (i, tk_cv ad v) from Prod.ext e.symm h3]
        exact List.mem_cons_self
      · rw [List.getElem?_set_ne e] at hu
        obtain ⟨g1, g2⟩ := tk_clr_get (ad := ad) hu
        refine List.mem_cons_of_mem _ (List.mem_filter.mpr ⟨tk_as_mem.mpr ⟨u, Nat.zero_le _, by rw [Nat.sub_zero]; exact g1, h3⟩, ?_⟩)
        have e1 : (q.1 == i) = false := by simp; exact fun z => e z.symm
        have e4 : (q.1 == i + 1) = false := by simp; exact fun z => e3 z.symm
        have e2 : (q.1 + 1 == i && q.2.category == 2) = false := by
          rw [h3]
          simp only [Bool.and_eq_false_iff, beq_eq_false_iff_ne]
          by_cases z : q.1 + 1 = i
          · exact Or.inr (fun z2 => g2 ⟨z, z2⟩)
          · exact Or.inl z
        rw [e1, e2, e4]; rfl
  · unfold tk_st2 at hu
    by_cases e3 : i + 1 = j
    · rw [← e3, List.getElem?_set_self (by rw [List.length_set, tk_clr_len]; exact hi)] at hu
      cases hu
    · rw [List.getElem?_set_ne e3] at hu
      by_cases e : i = j
      · subst e
        rw [List.getElem?_set_self (by rw [tk_clr_len]; omega)] at hu
        cases hu
        exact hv
      · rw [List.getElem?_set_ne e] at hu
        exact h.2.2 j u (tk_clr_get (ad := ad) hu).1
/-! the world as cells -/
def tk_cell (ad : tkAd) (cA : Nat → ClassId) (w : tkW) (t : Nat × Nat × Nat) : va_E := match t.2.2 with
  | 0 => .inr (t.1, (List.range (tk_N t.1)).map fun k => tk_cv ad (tk_rd w t.1 t.2.1 k))
  | s + 1 => match (tk_fk t.1 s).1 with
    | 4 => .inl (cA 1, ((tk_fk t.1 s).2, .inr (.inl (w.2.1 t.1 t.2.1 (s + 1)))))
    | 5 => .inl (cA 2, ((tk_fk t.1 s).2, .inl (w.1 t.1 t.2.1 (s + 1))))
    | _ => .inl (cA 0, ((tk_fk t.1 s).2, .inl (w.1 t.1 t.2.1 (s + 1))))
def tk_tyl (cA : Nat → ClassId) : List (ClassId × FieldType) := [(cA 0, .int), (cA 1, .long), (cA 2, .byte)]
def tk_wl (ad : tkAd) (cA : Nat → ClassId) (w : tkW) : va_W := tk_ix.map fun t => (ad t, tk_cell ad cA w t)
theorem tk_ix_inj : ∀ i, i < 47 → ∀ j, j < 47 → tk_ix[i]? = tk_ix[j]? → i = j := by decide +kernel
theorem tk_ix_len : tk_ix.length = 47 := rfl
theorem tk_ixf : ∀ t ∈ tk_ix, t.1 < 7 ∧ (t.2.2 = 0 ∨ (3 ≤ (tk_ak t.1 t.2.2).1 ∧ (tk_ak t.1 t.2.2).1 ≤ 5)) := by decide +kernel
def tk_rdok (t : Nat × Nat × Nat) (k : Nat) : Bool := match (tk_fk t.1 k).1 with
  | 0 => true
  | 1 => true
  | 2 => true
  | 6 => decide (((tk_fk t.1 k).2, 0, 0) ∈ tk_ix)
  | 7 => decide (k < 2)
  | _ => decide ((t.1, t.2.1, k + 1) ∈ tk_ix)
theorem tk_rdoks : ∀ t ∈ tk_ix, t.2.2 = 0 → ∀ k, k < tk_N t.1 → tk_rdok t k = true := by decide +kernel
theorem tk_rd_vok {w : tkW} {ci b k : Nat} (ht : (ci, b, 0) ∈ tk_ix) (hk : k < tk_N ci) (hw : tk_wok w) : tk_vok (tk_rd w ci b k) := by
  have h := tk_rdoks _ ht rfl k hk
  unfold tk_rdok at h
  unfold tk_rd
  dsimp only at h
  generalize (tk_fk ci k).1 = kd at h ⊢
  match kd, h with
  | 0, _ => trivial
  | 1, _ => trivial
  | 2, _ => trivial
  | 3, h => have h2 : (ci, b, k + 1) ∈ tk_ix := of_decide_eq_true h; exact h2
  | 4, h => have h2 : (ci, b, k + 1) ∈ tk_ix := of_decide_eq_true h; exact h2
  | 5, h => have h2 : (ci, b, k + 1) ∈ tk_ix := of_decide_eq_true h; exact h2
  | 6, h => have h2 : ((tk_fk ci k).2, 0, 0) ∈ tk_ix := of_decide_eq_true h; exact h2
  | 7, h => exact hw k (of_decide_eq_true h)
  | n + 8, h => have h2 : (ci, b, k + 1) ∈ tk_ix := of_decide_eq_true h; exact h2
theorem tk_wl_at {ad : tkAd} {cA : Nat → ClassId} {w : tkW} {t : Nat × Nat × Nat} (ht : t ∈ tk_ix) : ∃ q0, q0 < 47 ∧ tk_ix[q0]? = some t ∧ (tk_wl ad cA w)[q0]? = some (ad t, tk_cell ad cA w t) := by
  obtain ⟨q0, h⟩ := List.getElem?_of_mem ht
  refine ⟨q0, ?_, h, ?_⟩
  · have := (List.getElem?_eq_some_iff.mp h).1
    rw [tk_ix_len] at this; exact this
  · unfold tk_wl
    rw [List.getElem?_map, h]; rfl
theorem tk_wl_set {ad : tkAd} {cA : Nat → ClassId} {w w' : tkW} {t : Nat × Nat × Nat} {q0 : Nat} (hq : q0 < 47) (h0 : tk_ix[q0]? = some t) (h : ∀ t' ∈ tk_ix, t' ≠ t → tk_cell ad cA w' t' = tk_cell ad cA w t') : (tk_wl ad cA w).set q0 (ad t, tk_cell ad cA w' t) = tk_wl ad cA w' := by
  apply List.ext_getElem?
  intro j
  have hlen : (tk_wl ad cA w).length = 47 := by unfold tk_wl; rw [List.length_map]; rfl
  by_cases e : q0 = j
  · subst e
    rw [List.getElem?_set_self (by rw [hlen]; exact hq)]
    unfold tk_wl
    rw [List.getElem?_map, h0]; rfl
  · rw [List.getElem?_set_ne e]
    unfold tk_wl
    rw [List.getElem?_map, List.getElem?_map]
    cases hj : tk_ix[j]? with
    | none => rfl
    | some t' =>
      have hj47 : j < 47 := by
        have := (List.getElem?_eq_some_iff.mp hj).1
        rw [tk_ix_len] at this; exact this
      have hne : t' ≠ t := by
        intro q
        subst q
        exact e (tk_ix_inj q0 hq j hj47 (h0.trans hj.symm))
      show some (ad t', tk_cell ad cA w t') = some (ad t', tk_cell ad cA w' t')
      rw [h t' (List.mem_of_getElem? hj) hne]
theorem tk_so_same {α : Type} {I : Nat → Nat → α} {ci b : Nat} {N : α} : tk_so I ci b N ci b = N := by simp [tk_so]
theorem tk_so_ne {α : Type} {I : Nat → Nat → α} {ci b a d : Nat} {N : α} (h : ¬ (a = ci ∧ d = b)) : tk_so I ci b N a d = I a d := by simp [tk_so, h]
theorem tk_u1_same {α : Type} {f : Nat → α} {k : Nat} {x : α} : tk_u1 f k x k = x := by simp [tk_u1]
theorem tk_u1_ne {α : Type} {f : Nat → α} {k j : Nat} {x : α} (h : j ≠ k) : tk_u1 f k x j = f j := by simp [tk_u1, h]
theorem tk_u2_ne {α : Type} {N : Nat → Nat → α} {s k s' : Nat} {x : α} (h : s' ≠ s) : tk_u2 N s k x s' = N s' := by simp [tk_u2, tk_u1, h]
theorem tk_u2_at {α : Type} {N : Nat → Nat → α} {s k : Nat} {x : α} : tk_u2 N s k x s = tk_u1 (N s) k x := by simp [tk_u2, tk_u1]
/-- rows of ints changed at one object's one place: the other cells stay -/
theorem tk_cell_I {ad : tkAd} {cA : Nat → ClassId} {w : tkW} {ci b s k : Nat} {x : Int32} {t : Nat × Nat × Nat} (hne : t ≠ (ci, b, s)) : tk_cell ad cA (tk_wI w ci b s k x) t = tk_cell ad cA w t := by
  obtain ⟨a, d, r⟩ := t
  have key : (tk_wI w ci b s k x).1 a d r = w.1 a d r := by
    show tk_so w.1 ci b (tk_u2 (w.1 ci b) s k x) a d r = w.1 a d r
    by_cases e : a = ci ∧ d = b
    · obtain ⟨rfl, rfl⟩ := e
      rw [tk_so_same]
      exact congrFun (congrArg (fun f => f) (tk_u2_ne (N := w.1 a d) (s := s) (k := k) (x := x) (s' := r) (fun q => hne (by rw [q])))) |> fun h => funext h
    · rw [tk_so_ne e]
  unfold tk_cell
  dsimp only
  split
  · congr 2
    apply List.map_congr_left
    intro j hj
    unfold tk_rd
    split <;> first | rfl | (rw [congrFun key j])
  · rw [key]; rfl
theorem tk_cell_J {ad : tkAd} {cA : Nat → ClassId} {w : tkW} {ci b s : Nat} {N : Nat → Nat → Int64} {t : Nat × Nat × Nat} (hN : ∀ r, r ≠ s → N r = w.2.1 ci b r) (hne : t ≠ (ci, b, s)) : tk_cell ad cA (w.1, tk_so w.2.1 ci b N, w.2.2) t = tk_cell ad cA w t := by
  obtain ⟨a, d, r⟩ := t
  have key : tk_so w.2.1 ci b N a d r = w.2.1 a d r := by
    by_cases e : a = ci ∧ d = b
    · obtain ⟨rfl, rfl⟩ := e
      rw [tk_so_same]
      exact hN r (fun q => hne (by rw [q]))
    · rw [tk_so_ne e]
  unfold tk_cell
  dsimp only
  split
  · congr 2
    apply List.map_congr_left
    intro j hj
    unfold tk_rd
    split <;> first | rfl | (dsimp only; rw [key])
  · rw [key]
/-- a field written: the object's cell -/
theorem tk_fs_set {ad : tkAd} {w w' : tkW} {ci b k : Nat} {v : tkV} (hk : tk_rd w' ci b k = v) (ho : ∀ j, j ≠ k → tk_rd w' ci b j = tk_rd w ci b j) : ((List.range (tk_N ci)).map fun j => tk_cv ad (tk_rd w ci b j)).set k (tk_cv ad v) = (List.range (tk_N ci)).map fun j => tk_cv ad (tk_rd w' ci b j) := by
  apply List.ext_getElem?
  intro j
  rw [List.getElem?_set]
  by_cases e : k = j
  · subst e
    simp only [if_true, List.length_map, List.length_range, List.getElem?_map]
    by_cases h : k < tk_N ci
    · rw [if_pos h, List.getElem?_range h, ← hk]; rfl
    · rw [if_neg h, List.getElem?_eq_none (by rw [List.length_range]; omega)]; rfl
  · rw [if_neg e, List.getElem?_map, List.getElem?_map]
    cases hj : (List.range (tk_N ci))[j]? with
    | none => rfl
    | some i =>
      have hij : i = j := by
        obtain ⟨h1, h2⟩ := List.getElem?_eq_some_iff.mp hj
        rw [List.getElem_range] at h2
        exact h2.symm
      subst hij
      show some (tk_cv ad (tk_rd w ci b i)) = some (tk_cv ad (tk_rd w' ci b i))
      rw [ho i (fun q => e q.symm)]
theorem tk_wl_D {ad : tkAd} {cA : Nat → ClassId} {A : Nat → Prop} (w : tkW) (hi : ∀ t ∈ tk_ix, ∀ t' ∈ tk_ix, ad t = ad t' → t = t') (hA : ∀ t ∈ tk_ix, A (ad t)) : va_D A (tk_wl ad cA w) := by
  have at' : ∀ (i : Nat) (p : Nat × va_E), (tk_wl ad cA w)[i]? = some p → ∃ t, i < 47 ∧ tk_ix[i]? = some t ∧ p.1 = ad t := by
    intro i p h
    unfold tk_wl at h
    rw [List.getElem?_map] at h
    cases hi : tk_ix[i]? with
    | none => rw [hi] at h; cases h
    | some t =>
      rw [hi] at h
      cases h
      have := (List.getElem?_eq_some_iff.mp hi).1
      rw [tk_ix_len] at this
      exact ⟨t, this, rfl, rfl⟩
  refine ⟨fun i j p q h1 h2 h3 => ?_, fun k q h => ?_⟩
  · obtain ⟨t, a1, a2, a3⟩ := at' i p h1
    obtain ⟨t', b1, b2, b3⟩ := at' j q h2
    have := hi t (List.mem_of_getElem? a2) t' (List.mem_of_getElem? b2) (by rw [← a3, ← b3]; exact h3)
    subst this
    exact tk_ix_inj i a1 j b1 (a2.trans b2.symm)
  · obtain ⟨t, a1, a2, a3⟩ := at' k q h
    rw [a3]
    exact hA t (List.mem_of_getElem? a2)
