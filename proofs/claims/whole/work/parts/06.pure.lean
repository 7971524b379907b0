/-! numbers: the small functions that both sides compute -/
def bI (b : Bool) : Int32 := if b then 1 else 0
theorem bI_0 {b : Bool} : bI b = 0 ↔ b = false := by cases b <;> decide
theorem bI_1 {b : Bool} : ¬ bI b = 0 ↔ b = true := by cases b <;> decide
theorem bI_n {b : Bool} : narrow .boolean (.int (bI b)) = .int (bI b) := by cases b <;> rfl
def af (n i : Nat) : Nat := if i + 1 < n then i + 1 else 0
def bf (n i : Nat) : Nat := if 0 < i then i - 1 else n - 1
theorem af_lt {n i : Nat} (h : 0 < n) : af n i < n := by unfold af; split <;> omega
theorem bf_lt {n i : Nat} (h : i < n) : bf n i < n := by unfold bf; split <;> omega
/-- above 0: left -/
def tn (x y : Nat → Int32) (a b c : Nat) : Int32 := (x b - x a) * (y c - y a) - (y b - y a) * (x c - x a)
def adv (x y : Nat → Int32) (a b c : Nat) : Int32 := (x b - x a) * (x c - x b) + (y b - y a) * (y c - y b)
def sq9 (x y : Nat → Int32) (a b : Nat) : Int32 := (x b - x a) * (x b - x a) + (y b - y a) * (y b - y a)
def rgm (v : Nat → Int32) (a b c d : Nat) : Bool := decide (mn9 (v c) (v d) ≤ mx9 (v a) (v b)) && decide (mn9 (v a) (v b) ≤ mx9 (v c) (v d))
def strd (x y : Nat → Int32) (a b c d : Nat) : Bool := decide ((tn x y a b c).toInt64 * (tn x y a b d).toInt64 ≤ 0)
def meetC (x y : Nat → Int32) (a b c d : Nat) : Bool := rgm x a b c d && rgm y a b c d && strd x y a b c d && strd x y c d a b
theorem nlt14 {a b : Nat} (h : a < b) (hb : b ≤ 14) : a < 14 := by omega
theorem i32_nlt {x y : Int32} : ¬ x < y ↔ y ≤ x := Int32.not_lt
theorem i32_nle {x y : Int32} : ¬ x ≤ y ↔ y < x := Int32.not_le
theorem cv_le {x y : Int32} {a b : Nat} (hx : x = nI a) (hy : y = nI b) (ha : a < 2 ^ 31) (hb : b < 2 ^ 31) : x ≤ y ↔ a ≤ b := by subst hx; subst hy; exact nI_leI ha hb
theorem cv_lt {x y : Int32} {a b : Nat} (hx : x = nI a) (hy : y = nI b) (ha : a < 2 ^ 31) (hb : b < 2 ^ 31) : x < y ↔ a < b := by subst hx; subst hy; exact nI_ltI ha hb
theorem cv_eq {x y : Int32} {a b : Nat} (hx : x = nI a) (hy : y = nI b) (ha : a < 2 ^ 31) (hb : b < 2 ^ 31) : x = y ↔ a = b := by subst hx; subst hy; exact nI_eq ha hb
/-- the first place from a on, below n -/
def fnd (p : Nat → Bool) (a : Nat) : Nat → Option Nat
  | 0 => none
  | d + 1 => if p a then some a else fnd p (a + 1) d
def fndN (p : Nat → Bool) (a n : Nat) : Option Nat := fnd p a (n - a)
theorem fndN_end {p : Nat → Bool} {a n : Nat} (h : n ≤ a) : fndN p a n = none := by rw [fndN, Nat.sub_eq_zero_of_le h]; rfl
theorem fndN_t {p : Nat → Bool} {a n : Nat} (h : a < n) (hp : p a = true) : fndN p a n = some a := by
  rw [fndN, show n - a = (n - (a + 1)) + 1 by omega, fnd, hp]; rfl
theorem fndN_f {p : Nat → Bool} {a n : Nat} (h : a < n) (hp : p a = false) : fndN p a n = fndN p (a + 1) n := by
  rw [fndN, show n - a = (n - (a + 1)) + 1 by omega, fnd, hp]; rfl
theorem lt31 {a : Nat} (h : a < 14) : a < 2 ^ 31 := by omega
