/-! rows for walking the machine over pictures -/
theorem dn_ret0 {M : tkM} {c : tkC} {Q : tkQ} {i : Jvm.ClassFile.Instr} {n : Nat} {r : Option tkV} (ha : tk_at M.2.2.2.2 c.1 = some (i, n)) (hi : tk_ins M.1 i n c = none) (hb : tk_br i n c = none) (hr : tk_ret M.2.1 i c.2.2.1 = some (none, r)) (h : Q r c.2.2.2) : tkDn M c Q := dn_ret ha hi hb hr h
theorem dn_retb {M : tkM} {c : tkC} {Q : tkQ} {i : Jvm.ClassFile.Instr} {n : Nat} {r : Option tkV} {x : Int32} (ha : tk_at M.2.2.2.2 c.1 = some (i, n)) (hi : tk_ins M.1 i n c = none) (hb : tk_br i n c = none) (hr : tk_ret M.2.1 i c.2.2.1 = some (some (x = 0 ∨ x = 1), r)) (hx : x = 0 ∨ x = 1) (h : Q r c.2.2.2) : tkDn M c Q := dn_ret ha hi hb hr ⟨hx, h⟩
/-- a loop that counts up -/
theorem dn_for {α : Type} (H Inv : Nat → α → Prop) (e : Nat) (hx : ∀ s, Inv e s → H e s) (hs : ∀ i s, i < e → Inv i s → (∀ s', Inv (i + 1) s' → H (i + 1) s') → H i s) : ∀ i s, i ≤ e → Inv i s → H i s := by
  intro i s hi
  obtain ⟨n, hn⟩ : ∃ n, i + n = e := ⟨e - i, by omega⟩
  induction n generalizing i s with
  | zero =>
    have : i = e := by omega
    subst this
    exact hx s
  | succ n ih =>
    intro h
    exact hs i s (by omega) h (fun s' h' => ih (i + 1) s' (by omega) (by omega) h')
