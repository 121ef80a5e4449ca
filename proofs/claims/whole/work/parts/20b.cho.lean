/-! HANGS TOGETHER, STRONG, WEAK, in numbers -/
def togF (S : tkS) : Bool × tkD := clF (linkM S (sL S)) (sM S)
def rtF (S : tkS) : Nat → Nat → Nat
  | 0, m => m
  | n + 1, m => if gt S m < sG S then rtF S n (sf S (sgl S (gt S m))) else m
def gbF (S : tkS) : Nat → Nat → Int32 → Int32
  | 0, _, acc => acc
  | n + 1, m, acc => if gt S m < sG S then gbF S n (sf S (sgl S (gt S m))) (acc ||| (1 <<< (nI (gt S m) &&& 31))) else acc
def chL (S : tkS) (k : Int32) (g : Nat) : Int32 := if (k >>> (nI g &&& 31)) &&& 1 = 1 then shi S (sgl S g) else slo S (sgl S g)
def slS (S : tkS) (mask k : Int32) : Nat → Int64
  | 0 => 0
  | g + 1 => if (mask >>> (nI g &&& 31)) &&& 1 = 1 then slS S mask k g + (chL S k g).toInt64 else slS S mask k g
def wwM (S : tkS) (d : tkD) (l : Nat) : tkD :=
  lowM (lowM d (rtF S 6 (sf S l)) (rtF S 6 (se S l)) ((shi S l).toInt64 - (slS S (gbF S 6 (se S l) 0 &&& (gbF S 6 (sf S l) 0 ^^^ -1)) 63 (sG S) - slS S (gbF S 6 (sf S l) 0 &&& (gbF S 6 (se S l) 0 ^^^ -1)) 0 (sG S))))
    (rtF S 6 (se S l)) (rtF S 6 (sf S l)) (-((slo S l).toInt64 - (slS S (gbF S 6 (se S l) 0 &&& (gbF S 6 (sf S l) 0 ^^^ -1)) 0 (sG S) - slS S (gbF S 6 (sf S l) 0 &&& (gbF S 6 (se S l) 0 ^^^ -1)) 63 (sG S))))
def stM (S : tkS) : Nat → tkD
  | 0 => d0M
  | l + 1 => if sgn S l = -9 then wwM S (stM S l) l else stM S l
def strF (S : tkS) : Bool × tkD := clF (stM S (sL S)) (sM S)
def cbM (S : tkS) (k : Int32) : Nat → tkD
  | 0 => linkM S (sL S)
  | g + 1 => lowM (lowM (cbM S k g) (sf S (sgl S g)) (se S (sgl S g)) (chL S k g).toInt64) (se S (sgl S g)) (sf S (sgl S g)) (-(chL S k g).toInt64)
def metF (S : tkS) (k : Int32) : Bool × tkD := clF (cbM S k (sG S)) (sM S)
def skF (S : tkS) : Nat → Nat → Int32
  | 0, _ => -9
  | n + 1, k => if (metF S (nI k)).1 = true then skF S n (k + 1) else nI k
def spo (S : tkS) : Int32 := skF S (2 ^ sG S) 0
theorem shl1 : ∀ G, G < 7 → (1 : Int32) <<< (nI G &&& 31) = nI (2 ^ G) := by decide
theorem pw2 : ∀ G, G < 7 → 2 ^ G ≤ 64 := by decide
theorem rtF_lt {S : tkS} (w : WF S) : ∀ n m, m < sM S → rtF S n m < sM S := by
  intro n
  induction n with
  | zero => intro m hm; exact hm
  | succ n ih =>
    intro m hm
    unfold rtF
    split
    · rename_i q
      exact ih _ (w.fM (w.gl q))
    · exact hm
