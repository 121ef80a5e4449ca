/-! the reference's rounds, in numbers -/
def brI (S : tkS) (v : tkD) (a : Nat) (e : tkD) : Nat → tkD
  | 0 => e
  | g + 1 => lowM (brI S v a e g) a (sf S (sgl S g)) (v a g)
def brO (S : tkS) (v e : tkD) (G : Nat) : Nat → tkD
  | 0 => e
  | a + 1 => brI S v a (brO S v e G a) G
def mBad (S : tkS) (e v : tkD) : Prop := ((∃ j, j < 256 ∧ rowE e j < (-1000000000000)) ∨ ∃ a, a < sM S ∧ ∃ g, g < sG S ∧ v a g < (-1000000000000)) ∨ ¬ (mcF (brO S v e (sG S) (sM S)) (sM S)).1 = true
def exT (t : tkD) (n : Nat) (d : tkD) : tkD := fun a b => if a < n ∧ b < n then d a b else t a b
def exM (n : Nat) (d : tkD) : tkD := exT (fun _ _ => 4611686018427387904) n d
def mrC (S : tkS) (e : tkD) : Bool × tkD := mcF e (sM S)
def mrV1 (S : tkS) (e v : tkD) : tkD := caM (mrC S e).2 v (sM S) (sG S) (sM S) 0
def mrE2 (S : tkS) (e v : tkD) : tkD := tsO S (mrV1 S e v) (mrC S e).2 (sM S) (sG S)
def mrE3 (S : tkS) (e v : tkD) : tkD := ceO S (mrE2 S e v) (mrE2 S e v) (sM S) (sG S)
def mrV2 (S : tkS) (e v : tkD) : tkD := cgO S (mrV1 S e v) (mrV1 S e v) (sG S) (sG S)
def mrSame (S : tkS) (e v : tkD) : Prop := smF (rowE (mrE3 S e v)) (rowE e) 256 0 = true ∧ smF (rowW (mrV2 S e v)) (rowW v) 96 0 = true
def mRd (S : tkS) (e v : tkD) (x : Int32) (e' v' : tkD) : Prop :=
  (¬ (mrC S e).1 = true ∧ x = 2) ∨ ((mrC S e).1 = true ∧ e' = mrE3 S e v ∧ v' = mrV2 S e v ∧ ((mBad S (mrE3 S e v) (mrV2 S e v) ∧ x = 2) ∨ (¬ mBad S (mrE3 S e v) (mrV2 S e v) ∧ ((mrSame S e v ∧ x = 1) ∨ (¬ mrSame S e v ∧ x = 0)))))
def mRun (S : tkS) : Nat → Int32 → tkD → tkD → Prop
  | 0, x, e, v => x = 0 ∧ e = exM (sM S) (mlM S (-1) (sL S)) ∧ v = bdM S (sG S)
  | k + 1, x, e, v => ∃ e1 v1, mRun S k 0 e1 v1 ∧ mRd S e1 v1 x e v
def mWk (S : tkS) (x : Int32) (k : Nat) (e v : tkD) : Prop := mRun S k x e v ∧ k ≤ 400 ∧ (¬ x = 0 ∨ k = 400)
/-- what the reference holds once it knows: X its fields, N its rows -/
def KnM (S : tkS) (X : Nat → Nat → Int32) (N : Nat → Nat → Int64) : Prop := ∃ x k e v, mWk S x k e v ∧ X 0 29 = (if x = 1 then 1 else 0) ∧ X 0 30 = nI k ∧ RowP 16 (N 24) e ∧ WRow (N 25) v
/-- fields that know leaves alone -/
def mKn (X Y : Nat → Nat → Int32) : Prop := ∀ s j, ¬ (s = 0 ∧ (j = 11 ∨ j = 29 ∨ j = 30)) → Y s j = X s j
