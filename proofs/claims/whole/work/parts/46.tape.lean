/-! the tape and the reading of it, in numbers: z its size, B its bytes -/
def sbF (B : Nat → Int32) : Nat → Nat → Nat
  | 0, p => p
  | n + 1, p => if B p = 32 ∨ B p = 10 then sbF B n (p + 1) else p
theorem sbF_le {B : Nat → Int32} : ∀ n p, p ≤ sbF B n p ∧ sbF B n p ≤ p + n := by
  intro n
  induction n with
  | zero => intro p; exact ⟨Nat.le_refl _, Nat.le_refl _⟩
  | succ n ih =>
    intro p
    unfold sbF
    split
    · have := ih (p + 1); omega
    · omega
/-- figures from p on: where they end, how many, their value (of the first six) -/
def dgF (B : Nat → Int32) : Nat → Nat → Nat → Int32 → Nat × Nat × Int32
  | 0, p, k, v => (p, k, v)
  | n + 1, p, k, v => if 48 ≤ B p ∧ B p ≤ 57 then dgF B n (p + 1) (k + 1) (if k < 6 then v * 10 + (B p - 48) else v) else (p, k, v)
theorem dgF_le {B : Nat → Int32} : ∀ n p k v, p ≤ (dgF B n p k v).1 ∧ (dgF B n p k v).1 ≤ p + n ∧ (dgF B n p k v).1 - p + k = (dgF B n p k v).2.1 := by
  intro n
  induction n with
  | zero => intro p k v; exact ⟨Nat.le_refl _, Nat.le_refl _, by show p - p + k = k; omega⟩
  | succ n ih =>
    intro p k v
    unfold dgF
    split
    · have := ih (p + 1) (k + 1) (if k < 6 then v * 10 + (B p - 48) else v)
      omega
    · exact ⟨Nat.le_refl _, by omega, by show p - p + k = k; omega⟩
abbrev sgP (B : Nat → Int32) (z p : Nat) : Prop := p < z ∧ B p = 45
def nbP (B : Nat → Int32) (z p : Nat) : Nat := if sgP B z p then p + 1 else p
def nbD (B : Nat → Int32) (z p : Nat) : Nat × Nat × Int32 := dgF B (z - nbP B z p) (nbP B z p) 0 0
/-- the number at p, and where it ends -/
def tkN (B : Nat → Int32) (z p : Nat) : Option (Int32 × Nat) := if (nbD B z p).2.1 = 0 ∨ 6 < (nbD B z p).2.1 then none else some ((if sgP B z p then -(nbD B z p).2.2 else (nbD B z p).2.2), (nbD B z p).1)
theorem nbP_le {B : Nat → Int32} {z p : Nat} (h : p ≤ z) : p ≤ nbP B z p ∧ nbP B z p ≤ z := by
  unfold nbP
  split
  · rename_i q; have := q.1; omega
  · omega
theorem tkN_lt {B : Nat → Int32} {z p q : Nat} {v : Int32} (hp : p ≤ z) (h : tkN B z p = some (v, q)) : p < q ∧ q ≤ z := by
  unfold tkN at h
  split at h
  · cases h
  · rename_i c
    have h1 := nbP_le (B := B) hp
    have h2 := dgF_le (B := B) (z - nbP B z p) (nbP B z p) 0 0
    have e : (nbD B z p).1 = q := by cases h; rfl
    unfold nbD at e c
    omega
/-- n numbers from p on, put at i and on: whether they are there; where it is wrong, or where they end; the numbers -/
def nmF (B : Nat → Int32) (z : Nat) : Nat → Nat → Nat → (Nat → Int32) → Bool × Nat × (Nat → Int32)
  | 0, _, p, a => (true, p, a)
  | n + 1, i, p, a => match tkN B z (sbF B (z - p) p) with
    | none => (false, sbF B (z - p) p, a)
    | some (v, q) => nmF B z n (i + 1) q (tk_u1 a i v)
theorem nmF_lt {B : Nat → Int32} {z : Nat} : ∀ n i p a, p ≤ z → p ≤ (nmF B z n i p a).2.1 ∧ (nmF B z n i p a).2.1 ≤ z := by
  intro n
  induction n with
  | zero => intro i p a hp; exact ⟨Nat.le_refl _, hp⟩
  | succ n ih =>
    intro i p a hp
    have hs := sbF_le (B := B) (z - p) p
    unfold nmF
    cases h : tkN B z (sbF B (z - p) p) with
    | none => dsimp only; omega
    | some r =>
      obtain ⟨v, q⟩ := r
      have h1 := tkN_lt (by omega) h
      have h2 := ih (i + 1) q (tk_u1 a i v) h1.2
      dsimp only
      omega
def wnF (c : Int32) : Nat := if c = 109 then 1 else if c = 119 ∨ c = 103 then 4 else 0
def putF (S : tkS) (c : Int32) (a : Nat → Int32) : Int32 × tkS := if c = 109 then opMom S (a 0) else if c = 119 then opWish S (a 0) (a 1) (a 2) (a 3) else opGift S (a 0) (a 1) (a 2) (a 3)
/-- an item at q: whether it is one; the place behind it, or where it is wrong; the net behind it -/
def itF (B : Nat → Int32) (z : Nat) (S : tkS) (q : Nat) : Bool × Nat × tkS :=
  if wnF (B q) = 0 then (false, q, S) else
  if (nmF B z (wnF (B q)) 0 (q + 1) (fun _ => 0)).1 = true then
    (if sbF B (z - (nmF B z (wnF (B q)) 0 (q + 1) (fun _ => 0)).2.1) (nmF B z (wnF (B q)) 0 (q + 1) (fun _ => 0)).2.1 < z ∧ B (sbF B (z - (nmF B z (wnF (B q)) 0 (q + 1) (fun _ => 0)).2.1) (nmF B z (wnF (B q)) 0 (q + 1) (fun _ => 0)).2.1) = 59 then
      (if (putF S (B q) (nmF B z (wnF (B q)) 0 (q + 1) (fun _ => 0)).2.2).1 < 0 then (false, sbF B (z - (nmF B z (wnF (B q)) 0 (q + 1) (fun _ => 0)).2.1) (nmF B z (wnF (B q)) 0 (q + 1) (fun _ => 0)).2.1, (putF S (B q) (nmF B z (wnF (B q)) 0 (q + 1) (fun _ => 0)).2.2).2)
       else (true, sbF B (z - (nmF B z (wnF (B q)) 0 (q + 1) (fun _ => 0)).2.1) (nmF B z (wnF (B q)) 0 (q + 1) (fun _ => 0)).2.1 + 1, (putF S (B q) (nmF B z (wnF (B q)) 0 (q + 1) (fun _ => 0)).2.2).2))
     else (false, sbF B (z - (nmF B z (wnF (B q)) 0 (q + 1) (fun _ => 0)).2.1) (nmF B z (wnF (B q)) 0 (q + 1) (fun _ => 0)).2.1, S))
  else (false, (nmF B z (wnF (B q)) 0 (q + 1) (fun _ => 0)).2.1, S)
def rdF (B : Nat → Int32) (z : Nat) : Nat → tkS → Nat → Bool × Nat × tkS
  | 0, S, p => (false, p, S)
  | f + 1, S, p => if sbF B (z - p) p = z then (true, z, S) else if (itF B z S (sbF B (z - p) p)).1 = true then rdF B z f (itF B z S (sbF B (z - p) p)).2.2 (itF B z S (sbF B (z - p) p)).2.1 else (false, (itF B z S (sbF B (z - p) p)).2.1, (itF B z S (sbF B (z - p) p)).2.2)
theorem WF_putF {S : tkS} (w : WF S) (c : Int32) (a : Nat → Int32) : WF (putF S c a).2 := by
  unfold putF
  split
  · exact WF_opMom w _
  · split
    · exact WF_opWish w _ _ _ _
    · exact WF_opGift w _ _ _ _
theorem itF_wf {B : Nat → Int32} {z q : Nat} {S : tkS} (w : WF S) : WF (itF B z S q).2.2 := by
  unfold itF
  split
  · exact w
  · split
    · split
      · split
        · exact WF_putF w _ _
        · exact WF_putF w _ _
      · exact w
    · exact w
theorem itF_lt {B : Nat → Int32} {z q : Nat} {S : tkS} (hq : q < z) : q ≤ (itF B z S q).2.1 ∧ (itF B z S q).2.1 ≤ z ∧ ((itF B z S q).1 = true → q < (itF B z S q).2.1) := by
  have h1 := nmF_lt (B := B) (z := z) (wnF (B q)) 0 (q + 1) (fun _ => 0) (by omega)
  have h2 := sbF_le (B := B) (z - (nmF B z (wnF (B q)) 0 (q + 1) (fun _ => 0)).2.1) (nmF B z (wnF (B q)) 0 (q + 1) (fun _ => 0)).2.1
  unfold itF
  split
  · exact ⟨Nat.le_refl _, by dsimp only; omega, fun h => by cases h⟩
  · split
    · split
      · rename_i c
        split
        · exact ⟨by dsimp only; omega, by dsimp only; omega, fun h => by cases h⟩
        · exact ⟨by dsimp only; omega, by dsimp only; omega, fun _ => by dsimp only; omega⟩
      · exact ⟨by dsimp only; omega, by dsimp only; omega, fun h => by cases h⟩
    · exact ⟨by dsimp only; omega, by dsimp only; omega, fun h => by cases h⟩
theorem rdF_wf {B : Nat → Int32} {z : Nat} : ∀ f S p, WF S → WF (rdF B z f S p).2.2 := by
  intro f
  induction f with
  | zero => intro S p w; exact w
  | succ f ih =>
    intro S p w
    unfold rdF
    split
    · exact w
    · split
      · exact ih _ _ (itF_wf w)
      · exact itF_wf w
/-- fuel enough -/
theorem rdF_f {B : Nat → Int32} {z : Nat} : ∀ f S p, p ≤ z → z - p < f → rdF B z f S p = rdF B z (f + 1) S p := by
  intro f
  induction f with
  | zero => intro S p hp h; omega
  | succ f ih =>
    intro S p hp h
    have hs := sbF_le (B := B) (z - p) p
    conv => rhs; unfold rdF
    conv => lhs; unfold rdF
    split
    · rfl
    · rename_i c
      have hq := itF_lt (B := B) (z := z) (q := sbF B (z - p) p) (S := S) (by omega)
      split
      · rename_i c2
        exact ih _ _ hq.2.1 (by have := hq.2.2 c2; omega)
      · rfl
theorem tk_u2_id {α : Type} {N : Nat → Nat → α} {s k : Nat} : tk_u2 N s k (N s k) = N := by
  funext a j
  by_cases h : a = s ∧ j = k
  · obtain ⟨rfl, rfl⟩ := h; rw [tk_u2_1]
  · rw [tk_u2_0 h]
def shf : Nat → Int32
  | 0 => 24
  | 1 => 16
  | 2 => 8
  | 3 => 0
  | _ => -8
/-- byte i of n -/
def byF (n : Int32) (i : Nat) : Int32 := vp_nar .byte ((n >>> (shf i &&& 31)).toInt8.toInt32)
def fdA (a b c d e : Int32) : Nat → Int32
  | 0 => a
  | 1 => b
  | 2 => c
  | 3 => d
  | _ => e
def fdF (B : Nat → Int32) (z : Nat) (a b c d e : Int32) : Nat → Int32 := fun j => if j < z then B j else byF (fdA a b c d e ((j - z) / 4)) ((j - z) % 4)
