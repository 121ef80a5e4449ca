/-! one instruction of the machine over pictures is one instruction of the machine -/
def tk_TB : List Cond := lw_tbl.filter goodWord
theorem tk_tb {w : Cond} (h : w ∈ lw_tbl) (hg : goodWord w = true) : w ∈ tk_TB := List.mem_filter.mpr ⟨h, hg⟩
theorem tk_flf : ∀ q ∈ tk_FL, q.1 < 7 ∧ q.2.2 < tk_N q.1 ∧ (tk_T q.1 q.2.2).1 = tk_cn q.1 := by decide +kernel
theorem tk_fkty : ∀ ci, ci < 7 → ∀ k, k < tk_N ci → ((tk_fk ci k).1 = 0 → tk_ty ci k = .int) ∧ ((tk_fk ci k).1 = 1 → tk_ty ci k = .boolean) ∧ ((tk_fk ci k).1 = 2 → tk_ty ci k = .long) ∧ ((tk_fk ci k).1 = 7 → ci = 5 ∧ k < 2 ∧ tk_ty ci k = .object (tk_cn 1)) := by decide +kernel
theorem tk_lk2_mem {α : Type} : ∀ {L : List (Nat × Nat × α)} {a b : Nat} {v : α}, tk_lk2 L a b = some v → (a, b, v) ∈ L := by
  intro L
  induction L with
  | nil => intro a b v h; cases h
  | cons x t ih =>
    intro a b v h
    unfold tk_lk2 at h
    split at h
    · rename_i hb
      cases h
      rw [Bool.and_eq_true] at hb
      have e1 := Nat.eq_of_beq_eq_true hb.1
      have e2 := Nat.eq_of_beq_eq_true hb.2
      rw [← e1, ← e2]
      exact List.mem_cons_self
    · exact List.mem_cons_of_mem _ (ih h)
theorem tk_in_ws : ∀ ci, ci < 7 → ∀ w ∈ u_ws (tk_cn ci) (tk_T ci) (tk_N ci), w ∈ tk_TB := by
  intro ci h
  match ci, h with
  | 0, _ => exact fun w h => tk_tb (tk_in_0 w h) (by revert w; decide +kernel)
  | 1, _ => exact fun w h => tk_tb (tk_in_1 w h) (by revert w; decide +kernel)
  | 2, _ => exact fun w h => tk_tb (tk_in_2 w h) (by revert w; decide +kernel)
  | 3, _ => exact fun w h => tk_tb (tk_in_3 w h) (by revert w; decide +kernel)
  | 4, _ => exact fun w h => tk_tb (tk_in_4 w h) (by revert w; decide +kernel)
  | 5, _ => exact fun w h => tk_tb (tk_in_5 w h) (by revert w; decide +kernel)
  | 6, _ => exact fun w h => tk_tb (tk_in_6 w h) (by revert w; decide +kernel)
theorem tk_at_mem {T : tkT} {pc : Nat} {i : Jvm.ClassFile.Instr} {n : Nat} (h : tk_at T pc = some (i, n)) : (pc, i, n) ∈ T := by
  induction T with
  | nil => cases h
  | cons x t ih =>
    unfold tk_at at h
    split at h
    · rename_i hb
      have e := Nat.eq_of_beq_eq_true hb
      obtain ⟨a, b⟩ := x
      cases h
      cases e
      exact List.mem_cons_self
    · exact List.mem_cons_of_mem _ (ih h)
/-- what holds all along a method's body -/
def tk_Cx (p : Program) (R : Room) (s : State) (m : MethodId) (args : Array Value) (meth : Method) (c0 : Code) (E : tkE) (D : va_G) (cA : Nat → ClassId) (ad : tkAd) (A : Nat → Prop) : Prop :=
  p.tables.exec = Jvm.exec ∧ c0.code = E.2.1 ∧ c0.maxLocals = E.2.2.1 ∧ s.vm.findClass (tk_cn E.2.2.2.2.2.2.1) = some m.cls ∧ (∀ w ∈ tk_TB, w.before args s = true) ∧ meth.sig.returnType = E.2.2.2.1 ∧ meth.locks = false ∧ E.2.2.2.2.2.2.2.2.1 ≤ R.frames ∧ E.2.2.2.2.2.2.2.2.2.1 ≤ R.locals ∧ va_K D tk_cls (tk_tyl cA) s ∧ (∀ t ∈ tk_ix, ∀ t' ∈ tk_ix, ad t = ad t' → t = t') ∧ ∀ t ∈ tk_ix, A (ad t)
def tk_Wd (p : Program) (l : Launch) (e : Env) (R : Room) (s : State) (m : MethodId) (args : Array Value) (below : List Frame) (meth : Method) (c0 : Code) (cells slots : Nat) (QQ : State → Prop) (E : tkE) (D : va_G) (cA : Nat → ClassId) (ad : tkAd) (A : Nat → Prop) (H0 : Heap) (d : tkC) : Prop :=
  ∀ (H : Heap) (locs : List Loc) (ls : Array Slot), va_P D tk_cls (tk_wl ad cA d.2.2.2) H → va_S A H0 H locs → tk_LR ad d.2.1 ls E.2.2.1 → (∀ v ∈ d.2.2.1, tk_vok v) → tk_wok d.2.2.2 → W p l e R s m args below meth c0 H locs cells slots QQ (F0 m d.1 ls (d.2.2.1.map (tk_cv ad)))
section TKS
variable {p : Program} {l : Launch} {e : Env} {R : Room} {s : State} {m : MethodId} {args : Array Value} {below : List Frame} {meth : Method} {c0 : Code} {cells slots : Nat} {QQ : State → Prop} {E : tkE} {D : va_G} {cA : Nat → ClassId} {ad : tkAd} {A : Nat → Prop} {H0 : Heap}
theorem tw_push {v : tkV} {n : Nat} {c d : tkC} {P : Option Prop} (hv : tk_vok v) (row : ∀ {H : Heap} {locs : List Loc} {ls : Array Slot} {rest : List Value}, W p l e R s m args below meth c0 H locs cells slots QQ (F0 m (c.1 + n) ls (tk_cv ad v :: rest)) → W p l e R s m args below meth c0 H locs cells slots QQ (F0 m c.1 ls rest)) (h : tk_push v n c = some (P, d)) (k : tk_Wd p l e R s m args below meth c0 cells slots QQ E D cA ad A H0 d) : tk_Wd p l e R s m args below meth c0 cells slots QQ E D cA ad A H0 c := by
  unfold tk_push at h
  cases h
  intro H locs ls hP hS hL hst hw
  exact row (k H locs ls hP hS hL (fun u hu => by
    rcases List.mem_cons.mp hu with rfl | hu
    · exact hv
    · exact hst u hu) hw)
theorem tw_ld0 {i n : Nat} {c d : tkC} {P : Option Prop} (row : ∀ {H : Heap} {locs : List Loc} {ls : Array Slot} {rest : List Value} {x : Int32}, ls[i]? = some (.val (.int x)) → W p l e R s m args below meth c0 H locs cells slots QQ (F0 m (c.1 + n) ls (.int x :: rest)) → W p l e R s m args below meth c0 H locs cells slots QQ (F0 m c.1 ls rest)) (h : tk_ld 0 i n c = some (P, d)) (k : tk_Wd p l e R s m args below meth c0 cells slots QQ E D cA ad A H0 d) : tk_Wd p l e R s m args below meth c0 cells slots QQ E D cA ad A H0 c := by
  unfold tk_ld at h
  rcases hx : c.2.1.getD i none with _ | (x | x | x) <;> rw [hx] at h <;> try dsimp only at h
  · cases h
  · cases h
    intro H locs ls hP hS hL hst hw
    exact row (hL.at hx) (k H locs ls hP hS hL (fun u hu => by
      rcases List.mem_cons.mp hu with rfl | hu
      · trivial
      · exact hst u hu) hw)
  · cases h
  · cases h
theorem tw_ld1 {i n : Nat} {c d : tkC} {P : Option Prop} (row : ∀ {H : Heap} {locs : List Loc} {ls : Array Slot} {rest : List Value} {x : Int64}, ls[i]? = some (.val (.long x)) → W p l e R s m args below meth c0 H locs cells slots QQ (F0 m (c.1 + n) ls (.long x :: rest)) → W p l e R s m args below meth c0 H locs cells slots QQ (F0 m c.1 ls rest)) (h : tk_ld 1 i n c = some (P, d)) (k : tk_Wd p l e R s m args below meth c0 cells slots QQ E D cA ad A H0 d) : tk_Wd p l e R s m args below meth c0 cells slots QQ E D cA ad A H0 c := by
  unfold tk_ld at h
  rcases hx : c.2.1.getD i none with _ | (x | x | x) <;> rw [hx] at h <;> try dsimp only at h
  · cases h
  · cases h
  · cases h
    intro H locs ls hP hS hL hst hw
    exact row (hL.at hx) (k H locs ls hP hS hL (fun u hu => by
      rcases List.mem_cons.mp hu with rfl | hu
      · trivial
      · exact hst u hu) hw)
  · cases h
theorem tw_ld2 {i n : Nat} {c d : tkC} {P : Option Prop} (row : ∀ {H : Heap} {locs : List Loc} {ls : Array Slot} {rest : List Value} {x : Nat}, ls[i]? = some (.val (.ref x)) → W p l e R s m args below meth c0 H locs cells slots QQ (F0 m (c.1 + n) ls (.ref x :: rest)) → W p l e R s m args below meth c0 H locs cells slots QQ (F0 m c.1 ls rest)) (h : tk_ld 2 i n c = some (P, d)) (k : tk_Wd p l e R s m args below meth c0 cells slots QQ E D cA ad A H0 d) : tk_Wd p l e R s m args below meth c0 cells slots QQ E D cA ad A H0 c := by
  unfold tk_ld at h
  rcases hx : c.2.1.getD i none with _ | (x | x | x) <;> rw [hx] at h <;> try dsimp only at h
  · cases h
  · cases h
  · cases h
  · cases h
    intro H locs ls hP hS hL hst hw
    exact row (hL.at hx) (k H locs ls hP hS hL (fun u hu => by
      rcases List.mem_cons.mp hu with rfl | hu
      · exact hL.2.2 i _ (tk_getD hx)
      · exact hst u hu) hw)
theorem tw_sto0 {i n : Nat} {c d : tkC} {P : Option Prop} (row : ∀ {H : Heap} {locs : List Loc} {ls : Array Slot} {rest : List Value} {x : Int32} {lv : List (Nat × Value)}, lv_has ls E.2.2.1 lv → i < E.2.2.1 → (∀ ls' : Array Slot, lv_has ls' E.2.2.1 ((i, Value.int x) :: lv.filter (fun q => !(q.1 == i) && !(q.1 + 1 == i && q.2.category == 2))) → W p l e R s m args below meth c0 H locs cells slots QQ (F0 m (c.1 + n) ls' rest)) → W p l e R s m args below meth c0 H locs cells slots QQ (F0 m c.1 ls (.int x :: rest))) (h : tk_sto 0 i n c = some (P, d)) (k : tk_Wd p l e R s m args below meth c0 cells slots QQ E D cA ad A H0 d) : tk_Wd p l e R s m args below meth c0 cells slots QQ E D cA ad A H0 c := by
  obtain ⟨pc, L, st, w⟩ := c
  unfold tk_sto at h
  dsimp only at row
  rcases st with _ | ⟨(x | x | x), r⟩ <;> try dsimp only at h
  · cases h
  · have h : (if i < L.length then some (none, (pc + n, tk_st1 L i (.inl x), r, w)) else none : tkO) = some (P, d) := h
    split at h
    · rename_i hlt
      cases h
      intro H locs ls hP hS hL hst hw
      refine row hL.2.1 (by rw [← hL.1]; exact hlt) (fun ls' hl' => ?_)
      exact k H locs ls' hP hS (tk_LR.st1 (v := .inl x) hL trivial hlt hl') (fun u hu => hst u (List.mem_cons_of_mem _ hu)) hw
    · cases h
  · cases h
  · cases h
theorem tw_sto1 {i n : Nat} {c d : tkC} {P : Option Prop} (row : ∀ {H : Heap} {locs : List Loc} {ls : Array Slot} {rest : List Value} {x : Int64} {lv : List (Nat × Value)}, lv_has ls E.2.2.1 lv → i + 1 < E.2.2.1 → (∀ ls' : Array Slot, lv_has ls' E.2.2.1 ((i, Value.long x) :: lv.filter (fun q => !(q.1 == i) && (!(q.1 == i + 1) && !(q.1 + 1 == i && q.2.category == 2)))) → W p l e R s m args below meth c0 H locs cells slots QQ (F0 m (c.1 + n) ls' rest)) → W p l e R s m args below meth c0 H locs cells slots QQ (F0 m c.1 ls (.long x :: rest))) (h : tk_sto 1 i n c = some (P, d)) (k : tk_Wd p l e R s m args below meth c0 cells slots QQ E D cA ad A H0 d) : tk_Wd p l e R s m args below meth c0 cells slots QQ E D cA ad A H0 c := by
  obtain ⟨pc, L, st, w⟩ := c
  unfold tk_sto at h
  dsimp only at row
  rcases st with _ | ⟨(x | x | x), r⟩ <;> try dsimp only at h
  · cases h
  · cases h
  · have h : (if i + 1 < L.length then some (none, (pc + n, tk_st2 L i (.inr (.inl x)), r, w)) else none : tkO) = some (P, d) := h
    split at h
    · rename_i hlt
      cases h
      intro H locs ls hP hS hL hst hw
      refine row hL.2.1 (by rw [← hL.1]; exact hlt) (fun ls' hl' => ?_)
      exact k H locs ls' hP hS (tk_LR.st2 (v := .inr (.inl x)) hL trivial hlt hl') (fun u hu => hst u (List.mem_cons_of_mem _ hu)) hw
    · cases h
  · cases h
theorem tw_sto2 {i n : Nat} {c d : tkC} {P : Option Prop} (row : ∀ {H : Heap} {locs : List Loc} {ls : Array Slot} {rest : List Value} {x : Nat} {lv : List (Nat × Value)}, lv_has ls E.2.2.1 lv → i < E.2.2.1 → (∀ ls' : Array Slot, lv_has ls' E.2.2.1 ((i, Value.ref x) :: lv.filter (fun q => !(q.1 == i) && !(q.1 + 1 == i && q.2.category == 2))) → W p l e R s m args below meth c0 H locs cells slots QQ (F0 m (c.1 + n) ls' rest)) → W p l e R s m args below meth c0 H locs cells slots QQ (F0 m c.1 ls (.ref x :: rest))) (h : tk_sto 2 i n c = some (P, d)) (k : tk_Wd p l e R s m args below meth c0 cells slots QQ E D cA ad A H0 d) : tk_Wd p l e R s m args below meth c0 cells slots QQ E D cA ad A H0 c := by
  obtain ⟨pc, L, st, w⟩ := c
  unfold tk_sto at h
  dsimp only at row
  rcases st with _ | ⟨(x | x | x), r⟩ <;> try dsimp only at h
  · cases h
  · cases h
  · cases h
  · have h : (if i < L.length then some (none, (pc + n, tk_st1 L i (.inr (.inr x)), r, w)) else none : tkO) = some (P, d) := h
    split at h
    · rename_i hlt
      cases h
      intro H locs ls hP hS hL hst hw
      refine row hL.2.1 (by rw [← hL.1]; exact hlt) (fun ls' hl' => ?_)
      exact k H locs ls' hP hS (tk_LR.st1 (v := .inr (.inr x)) hL (hst _ List.mem_cons_self) hlt hl') (fun u hu => hst u (List.mem_cons_of_mem _ hu)) hw
    · cases h
theorem tw_inc {i n : Nat} {z : Int} {c d : tkC} {P : Option Prop} (row : ∀ {H : Heap} {locs : List Loc} {ls : Array Slot} {rest : List Value} {x : Int32} {lv : List (Nat × Value)} {k : Nat}, lv_has ls E.2.2.1 lv → lv[k]? = some (i, .int x) → i < E.2.2.1 → (∀ ls' : Array Slot, lv_has ls' E.2.2.1 ((i, Value.int (x + Int32.ofInt z)) :: lv.filter (fun q => !(q.1 == i) && !(q.1 + 1 == i && q.2.category == 2))) → W p l e R s m args below meth c0 H locs cells slots QQ (F0 m (c.1 + n) ls' rest)) → W p l e R s m args below meth c0 H locs cells slots QQ (F0 m c.1 ls rest)) (h : tk_inc i z n c = some (P, d)) (k : tk_Wd p l e R s m args below meth c0 cells slots QQ E D cA ad A H0 d) : tk_Wd p l e R s m args below meth c0 cells slots QQ E D cA ad A H0 c := by
  obtain ⟨pc, L, st, w⟩ := c
  unfold tk_inc at h
  dsimp only at h row
  split at h
  · split at h
    · rename_i x hx hlt
      cases h
      intro H locs ls hP hS hL hst hw
      obtain ⟨k0, hk0⟩ := List.getElem?_of_mem (tk_as_mem (ad := ad) (q := (i, tk_cv ad (.inl x))).mpr ⟨_, Nat.zero_le _, tk_getD hx, rfl⟩)
      refine row hL.2.1 hk0 (by rw [← hL.1]; exact hlt) (fun ls' hl' => ?_)
      exact k H locs ls' hP hS (tk_LR.st1 (v := .inl (x + Int32.ofInt z)) hL trivial hlt hl') hst hw
    · cases h
  · cases h
theorem tw_i2 {f : Int32 → Int32 → Int32} {n : Nat} {c d : tkC} {P : Option Prop} (row : ∀ {H : Heap} {locs : List Loc} {ls : Array Slot} {rest : List Value} {x y : Int32}, W p l e R s m args below meth c0 H locs cells slots QQ (F0 m (c.1 + n) ls (.int (f x y) :: rest)) → W p l e R s m args below meth c0 H locs cells slots QQ (F0 m c.1 ls (.int y :: .int x :: rest))) (h : tk_i2 f n c = some (P, d)) (k : tk_Wd p l e R s m args below meth c0 cells slots QQ E D cA ad A H0 d) : tk_Wd p l e R s m args below meth c0 cells slots QQ E D cA ad A H0 c := by
  obtain ⟨pc, L, st, w⟩ := c
  unfold tk_i2 at h
  dsimp only at h row
  split at h
  · cases h
    intro H locs ls hP hS hL hst hw
    exact row (k H locs ls hP hS hL (fun u hu => by
      rcases List.mem_cons.mp hu with rfl | hu
      · trivial
      · exact hst u (List.mem_cons_of_mem _ (List.mem_cons_of_mem _ hu))) hw)
  · cases h
theorem tw_l2 {f : Int64 → Int64 → Int64} {n : Nat} {c d : tkC} {P : Option Prop} (row : ∀ {H : Heap} {locs : List Loc} {ls : Array Slot} {rest : List Value} {x y : Int64}, W p l e R s m args below meth c0 H locs cells slots QQ (F0 m (c.1 + n) ls (.long (f x y) :: rest)) → W p l e R s m args below meth c0 H locs cells slots QQ (F0 m c.1 ls (.long y :: .long x :: rest))) (h : tk_l2 f n c = some (P, d)) (k : tk_Wd p l e R s m args below meth c0 cells slots QQ E D cA ad A H0 d) : tk_Wd p l e R s m args below meth c0 cells slots QQ E D cA ad A H0 c := by
  obtain ⟨pc, L, st, w⟩ := c
  unfold tk_l2 at h
  dsimp only at h row
  split at h
  · cases h
    intro H locs ls hP hS hL hst hw
    exact row (k H locs ls hP hS hL (fun u hu => by
      rcases List.mem_cons.mp hu with rfl | hu
      · trivial
      · exact hst u (List.mem_cons_of_mem _ (List.mem_cons_of_mem _ hu))) hw)
  · cases h
theorem tw_cmp {n : Nat} {c d : tkC} {P : Option Prop} (row : ∀ {H : Heap} {locs : List Loc} {ls : Array Slot} {rest : List Value} {x y : Int64}, W p l e R s m args below meth c0 H locs cells slots QQ (F0 m (c.1 + n) ls (.int (lg_cmp x y) :: rest)) → W p l e R s m args below meth c0 H locs cells slots QQ (F0 m c.1 ls (.long y :: .long x :: rest))) (h : tk_cmp n c = some (P, d)) (k : tk_Wd p l e R s m args below meth c0 cells slots QQ E D cA ad A H0 d) : tk_Wd p l e R s m args below meth c0 cells slots QQ E D cA ad A H0 c := by
  obtain ⟨pc, L, st, w⟩ := c
  unfold tk_cmp at h
  dsimp only at h row
  split at h
  · cases h
    intro H locs ls hP hS hL hst hw
    exact row (k H locs ls hP hS hL (fun u hu => by
      rcases List.mem_cons.mp hu with rfl | hu
      · trivial
      · exact hst u (List.mem_cons_of_mem _ (List.mem_cons_of_mem _ hu))) hw)
  · cases h
theorem tw_div {n : Nat} {c d : tkC} {P : Option Prop} (row : ∀ {H : Heap} {locs : List Loc} {ls : Array Slot} {rest : List Value} {x y : Int32}, ¬ y = 0 → W p l e R s m args below meth c0 H locs cells slots QQ (F0 m (c.1 + n) ls (.int (x / y) :: rest)) → W p l e R s m args below meth c0 H locs cells slots QQ (F0 m c.1 ls (.int y :: .int x :: rest))) (h : tk_div n c = some (P, d)) (k : tk_and P (tk_Wd p l e R s m args below meth c0 cells slots QQ E D cA ad A H0 d)) : tk_Wd p l e R s m args below meth c0 cells slots QQ E D cA ad A H0 c := by
  obtain ⟨pc, L, st, w⟩ := c
  unfold tk_div at h
  dsimp only at h row
  split at h
  · cases h
    intro H locs ls hP hS hL hst hw
    exact row k.1 (k.2 H locs ls hP hS hL (fun u hu => by
      rcases List.mem_cons.mp hu with rfl | hu
      · trivial
      · exact hst u (List.mem_cons_of_mem _ (List.mem_cons_of_mem _ hu))) hw)
  · cases h
theorem tw_i1 {f : Int32 → tkV} {n : Nat} {c d : tkC} {P : Option Prop} (hf : ∀ x, tk_vok (f x)) (row : ∀ {H : Heap} {locs : List Loc} {ls : Array Slot} {rest : List Value} {x : Int32}, W p l e R s m args below meth c0 H locs cells slots QQ (F0 m (c.1 + n) ls (tk_cv ad (f x) :: rest)) → W p l e R s m args below meth c0 H locs cells slots QQ (F0 m c.1 ls (.int x :: rest))) (h : tk_i1 f n c = some (P, d)) (k : tk_Wd p l e R s m args below meth c0 cells slots QQ E D cA ad A H0 d) : tk_Wd p l e R s m args below meth c0 cells slots QQ E D cA ad A H0 c := by
  obtain ⟨pc, L, st, w⟩ := c
  unfold tk_i1 at h
  dsimp only at h row
  split at h
  · cases h
    intro H locs ls hP hS hL hst hw
    exact row (k H locs ls hP hS hL (fun u hu => by
      rcases List.mem_cons.mp hu with rfl | hu
      · exact hf _
      · exact hst u (List.mem_cons_of_mem _ hu)) hw)
  · cases h
theorem tw_l1 {f : Int64 → tkV} {n : Nat} {c d : tkC} {P : Option Prop} (hf : ∀ x, tk_vok (f x)) (row : ∀ {H : Heap} {locs : List Loc} {ls : Array Slot} {rest : List Value} {x : Int64}, W p l e R s m args below meth c0 H locs cells slots QQ (F0 m (c.1 + n) ls (tk_cv ad (f x) :: rest)) → W p l e R s m args below meth c0 H locs cells slots QQ (F0 m c.1 ls (.long x :: rest))) (h : tk_l1 f n c = some (P, d)) (k : tk_Wd p l e R s m args below meth c0 cells slots QQ E D cA ad A H0 d) : tk_Wd p l e R s m args below meth c0 cells slots QQ E D cA ad A H0 c := by
  obtain ⟨pc, L, st, w⟩ := c
  unfold tk_l1 at h
  dsimp only at h row
  split at h
  · cases h
    intro H locs ls hP hS hL hst hw
    exact row (k H locs ls hP hS hL (fun u hu => by
      rcases List.mem_cons.mp hu with rfl | hu
      · exact hf _
      · exact hst u (List.mem_cons_of_mem _ hu)) hw)
  · cases h
theorem tw_dup {n : Nat} {c d : tkC} {P : Option Prop} (row : ∀ {H : Heap} {locs : List Loc} {ls : Array Slot} {rest : List Value} {v : Value}, v.category = 1 → W p l e R s m args below meth c0 H locs cells slots QQ (F0 m (c.1 + n) ls (v :: v :: rest)) → W p l e R s m args below meth c0 H locs cells slots QQ (F0 m c.1 ls (v :: rest))) (h : tk_dup n c = some (P, d)) (k : tk_Wd p l e R s m args below meth c0 cells slots QQ E D cA ad A H0 d) : tk_Wd p l e R s m args below meth c0 cells slots QQ E D cA ad A H0 c := by
  obtain ⟨pc, L, st, w⟩ := c
  unfold tk_dup at h
  dsimp only at h row
  split at h
  · cases h
    intro H locs ls hP hS hL hst hw
    exact row (v := .int _) rfl (k H locs ls hP hS hL (fun u hu => by
      rcases List.mem_cons.mp hu with rfl | hu
      · trivial
      · exact hst u hu) hw)
  · cases h
    intro H locs ls hP hS hL hst hw
    exact row (v := .ref _) rfl (k H locs ls hP hS hL (fun u hu => by
      rcases List.mem_cons.mp hu with rfl | hu
      · exact hst _ List.mem_cons_self
      · exact hst u hu) hw)
  · cases h
theorem tw_go {off : Int} {c d : tkC} {P : Option Prop} (row : ∀ {H : Heap} {locs : List Loc} {ls : Array Slot} {rest : List Value} {t : Nat}, (c.1 : Int) + off = (t : Int) → W p l e R s m args below meth c0 H locs cells slots QQ (F0 m t ls rest) → W p l e R s m args below meth c0 H locs cells slots QQ (F0 m c.1 ls rest)) (h : tk_go off c = some (P, d)) (k : tk_Wd p l e R s m args below meth c0 cells slots QQ E D cA ad A H0 d) : tk_Wd p l e R s m args below meth c0 cells slots QQ E D cA ad A H0 c := by
  unfold tk_go at h
  split at h
  · rename_i t ht
    cases h
    unfold tk_jmp at ht
    split at ht
    · rename_i t2 h2
      cases ht
      intro H locs ls hP hS hL hst hw
      exact row h2 (k H locs ls hP hS hL hst hw)
    · cases ht
  · cases h
theorem tw_getf {idx : Nat} {c d : tkC} {P : Option Prop} (C : tk_Cx p R s m args meth c0 E D cA ad A) (hdg : decode E.2.1 c.1 = .ok (.getfield idx, 3)) (h : tk_getf E.2.2.2.2.2.2.1 idx 3 c = some (P, d)) (k : tk_Wd p l e R s m args below meth c0 cells slots QQ E D cA ad A H0 d) : tk_Wd p l e R s m args below meth c0 cells slots QQ E D cA ad A H0 c := by
  obtain ⟨hx, hb, hml, hown, hts, hr, hlk, hf, hlo, hK, hij, hA⟩ := C
  obtain ⟨pc, L, st, w⟩ := c
  unfold tk_getf at h
  dsimp only at h hdg
  split at h
  · rename_i ci b r k0 hfl
    split at h
    · rename_i hbeq
      cases h
      have hci := Nat.eq_of_beq_eq_true hbeq
      have hm := tk_lk2_mem hfl
      obtain ⟨g1, g2, g3⟩ := tk_flf _ hm
      rw [← hci] at hm g1 g2 g3 hown
      dsimp only at g1 g2 g3
      intro H locs ls hP hS hL hst hw
      have ht : (ci, b, 0) ∈ tk_ix := hst _ List.mem_cons_self
      obtain ⟨q0, -, -, he⟩ := tk_wl_at (ad := ad) (cA := cA) (w := w) ht
      refine va_get (D := D) (ci := ci) (C := tk_cn ci) (T := tk_T ci) (N := tk_N ci) (ref := tk_cn ci) hx hb hts (tk_in_ws ci g1) hown hK hP q0 he (tk_clsAt ci g1) k0 g2 (hts _ (tk_tb (tk_fws _ (List.mem_map.mpr ⟨_, hm, rfl⟩)) rfl)) (fun x hx => by rw [g3] at hx; exact hx) (v := tk_cv ad (tk_rd w ci b k0)) ?_ hdg ?_
      · show ((List.range (tk_N ci)).map fun k => tk_cv ad (tk_rd w ci b k))[k0]? = _
        rw [List.getElem?_map, List.getElem?_range g2]; rfl
      · exact k H locs ls hP hS hL (fun u hu => by
          rcases List.mem_cons.mp hu with rfl | hu
          · exact tk_rd_vok ht g2 hw
          · exact hst u (List.mem_cons_of_mem _ hu)) hw
    · cases h
  · cases h
end TKS
